section
/-! ===== the class's classes: wake, topOf, addPair, lesser, joined, exact ===== -/
theorem rk_st {rk : Int → Nat} {a b x : Int} (r1 : a = x ∨ rk a < rk x) (r2 : b = a ∨ rk b < rk a) (n : ¬ a = x) : rk b < rk x := by
  rcases r2 with e | e
  · rw [e]; omega
  · omega
theorem VLK.of {c m x y : Int} {J2 J1 J : zJ} (h : VLK c m J1 J x y) (v : vS J2 J1) : VLK c m J2 J x y := by
  obtain ⟨h1, h2, h3, h4, h5⟩ := h
  exact ⟨fun k hk => (v k).1.trans (h1 k hk), fun k hk => (v k).2.1.trans (h2 k hk), fun k hk n => (v k).2.2.1.trans (h3 k hk n), fun a b => (v x).2.2.1.trans (h4 a b), fun k hk => ⟨(v k).2.2.2.1.trans (h5 k hk).1, (v k).2.2.2.2.trans (h5 k hk).2⟩⟩
/-- the pairs of arguments come -/
def PRX (J' J : zJ) (A p q : Int) : Prop := J' 145 11 = J 145 11 + A ∧ (∀ k, k < J 145 11 → J' 151 k = J 151 k ∧ J' 152 k = J 152 k) ∧ ∀ i, 0 ≤ i → i < A → J' 151 (J 145 11 + i) = J 9 (tm p * 3 + i) + sd p ∧ J' 152 (J 145 11 + i) = J 9 (tm q * 3 + i) + sd q
theorem PRX.push {J2 J1 J : zJ} {i p q a b : Int} (h : PRX J1 J i p q) (hi : 0 ≤ i) (e : zup (zup (zup J1 151 (J1 145 11) a) 152 (J1 145 11) b) 145 11 (J1 145 11 + 1) = J2) (ha : a = J 9 (tm p * 3 + i) + sd p) (hb : b = J 9 (tm q * 3 + i) + sd q) : PRX J2 J (i + 1) p q := by
  obtain ⟨h1, h2, h3⟩ := h
  subst e
  have e1 : ∀ k, zup (zup (zup J1 151 (J1 145 11) a) 152 (J1 145 11) b) 145 11 (J1 145 11 + 1) 151 k = if k = J1 145 11 then a else J1 151 k := fun k => rfl
  have e2 : ∀ k, zup (zup (zup J1 151 (J1 145 11) a) 152 (J1 145 11) b) 145 11 (J1 145 11 + 1) 152 k = if k = J1 145 11 then b else J1 152 k := fun k => rfl
  refine ⟨by rw [zup_at]; omega, fun k hk => ?_, fun j a1 c1 => ?_⟩
  · rw [e1, e2, if_neg (by omega), if_neg (by omega)]
    exact h2 k hk
  · rw [e1, e2]
    by_cases w : j = i
    · rw [if_pos (by omega), if_pos (by omega), w]
      exact ⟨ha, hb⟩
    · rw [if_neg (by omega), if_neg (by omega)]
      exact h3 j a1 (by omega)
/-- what joined does -/
def UJN (c m : Int) (J J' : zJ) (x y z : Int) : Prop := (x = y ∧ z = 1 ∧ J = J') ∨ (¬ x = y ∧ VLK c m J' J x y ∧ (((J 148 x = -1 ∨ J 148 y = -1) ∧ z = 1 ∧ J' 145 11 = J 145 11 ∧ J' 151 = J 151 ∧ J' 152 = J 152) ∨ (¬ J 148 x = -1 ∧ ¬ J 148 y = -1 ∧ ((z = 0 ∧ ¬ J 7 (tm (J 148 x)) = J 7 (tm (J 148 y))) ∨ (z = 1 ∧ J 7 (tm (J 148 x)) = J 7 (tm (J 148 y)) ∧ (J 145 11 ≤ 2398 → PRX J' J (J 8 (tm (J 148 x))) (J 148 x) (J 148 y)))))))
set_option maxHeartbeats 4000000 in
set_option maxRecDepth 100000 in
theorem u_part {l : Launch} {G : tb_G} (hl : l.stackTraces = false) (n : Nat) (J : zJ) (x : Int) (i : Int) (hr_x : -2147483648 ≤ x ∧ x < 2147483648) (hr_i : -2147483648 ≤ i ∧ i < 2147483648) (b m : Int) (C : CT J m) (hx : nd b m x) (hi : 0 ≤ i ∧ i < J 8 (tm x)) : tz_Ok l G M_X10_partOf 1 0 0 [.ref 145, zi x, zi i] n J (zqi (fun z J' => J = J' ∧ nd b m z ∧ J 9 (tm x * 3 + i) + sd x = z)) zN := by
  refine tz_Ok.of hl (by decide +kernel) rfl (tb_c1 rfl) (Nat.le_of_ble_eq_true rfl) ?_
  show tz_At l G M_X10_partOf (tb_rm 1 0 0) none (tb_ZM G 0 0 (zQ n 0 (zqi (fun z J' => J = J' ∧ nd b m z ∧ J 9 (tm x * 3 + i) + sd x = z))) (zX n 0 zN)) 0 0 n J 0 [some (.ref 145), some (zi x), some (zi i)] []
  have hb := C.told
  have ht := hx.ix hb.2
  have hx2 := hx.rg hb.2
  have ha := C.arg ht.1 ht.2 hi.1 hi.2
  have ha8 := (C.ar ht.1 ht.2).1
  have hs := sd_rg x
  refine tz_aload_n (pc := 0) dX10_partOf_0 rfl rfl ?_
  refine tz_fR (pc := 1) dX10_partOf_1 fl_X10_46 r_145_0 ?_
  refine tz_aload_n (pc := 4) dX10_partOf_4 rfl rfl ?_
  refine tz_iload_n (pc := 5) dX10_partOf_5 rfl rfl ?_
  refine tz_cV (pc := 6) (c_uTerm hl n _ _ (by omega) (by omega)) vl_X10_68 dX10_partOf_6 o_145 rfl rfl (Nat.le_of_ble_eq_true rfl) ⟨(Nat.le_of_ble_eq_true rfl), (Nat.le_of_ble_eq_true rfl)⟩ rfl rfl (Nat.le_of_ble_eq_true rfl) (Nat.le_of_ble_eq_true rfl) (fun r9 J_6 hq9 => ?_)
  obtain ⟨z_6, rfl, hz_6, rfl, rfl⟩ := hq9
  refine tz_iload_n (pc := 9) dX10_partOf_9 rfl rfl ?_
  refine tz_cV (pc := 10) (c_arg hl n _ _ _ (by omega) (by omega) (by omega)) vl_X10_71 dX10_partOf_10 o_6 rfl rfl (Nat.le_of_ble_eq_true rfl) ⟨(Nat.le_of_ble_eq_true rfl), (Nat.le_of_ble_eq_true rfl)⟩ rfl rfl (Nat.le_of_ble_eq_true rfl) (Nat.le_of_ble_eq_true rfl) (fun r9 J_10 hq9 => ?_)
  obtain ⟨z_10, rfl, hz_10, rfl, rfl⟩ := hq9
  refine tz_aload_n (pc := 13) dX10_partOf_13 rfl rfl ?_
  refine tz_iload_n (pc := 14) dX10_partOf_14 rfl rfl ?_
  refine tz_cV (pc := 15) (c_uSide hl n _ _ (by omega) (by omega)) vl_X10_77 dX10_partOf_15 o_145 rfl rfl (Nat.le_of_ble_eq_true rfl) ⟨(Nat.le_of_ble_eq_true rfl), (Nat.le_of_ble_eq_true rfl)⟩ rfl rfl (Nat.le_of_ble_eq_true rfl) (Nat.le_of_ble_eq_true rfl) (fun r9 J_15 hq9 => ?_)
  obtain ⟨z_15, rfl, hz_15, rfl, rfl⟩ := hq9
  refine tz_iadd (pc := 18) (v := (J 9 (tm x * 3 + i)) + (sd x)) dX10_partOf_18 rfl ?_
  exact tz_iret (pc := 19) (z := ((J 9 (tm x * 3 + i)) + (sd x))) dX10_partOf_19 rfl (Nat.le_of_ble_eq_true rfl) (Nat.le_of_ble_eq_true rfl) ⟨Nat.le_refl _, Nat.le_add_right _ _⟩ ⟨_, rfl, (by omega), ⟨rfl, hx.part hb.2 (by omega), rfl⟩⟩

set_option maxHeartbeats 4000000 in
set_option maxRecDepth 100000 in
theorem u_wake {l : Launch} {G : tb_G} (hl : l.stackTraces = false) (n : Nat) (J : zJ) (x : Int) (hr_x : -2147483648 ≤ x ∧ x < 2147483648) (b m : Int) (hm : 0 ≤ m ∧ m ≤ 400) (hx : nd b m x) (hU : UI J b m) : tz_Ok l G M_X10_wake 1 0 0 [.ref 145, zi x] n J (zqv (fun J' => ((UW J' J b m ∧ J' 146 x = J 145 10) ∧ zOf (zbut [146, 147, 148, 149, 150, 154]) J' J) ∧ (¬ J 146 x = J 145 10 → vS J' J))) zN := by
  refine tz_Ok.of hl (by decide +kernel) rfl (tb_c1 rfl) (Nat.le_of_ble_eq_true rfl) ?_
  show tz_At l G M_X10_wake (tb_rm 1 0 0) none (tb_ZM G 0 0 (zQ n 0 (zqv (fun J' => ((UW J' J b m ∧ J' 146 x = J 145 10) ∧ zOf (zbut [146, 147, 148, 149, 150, 154]) J' J) ∧ (¬ J 146 x = J 145 10 → vS J' J)))) (zX n 0 zN)) 0 0 n J 0 [some (.ref 145), some (zi x), none] []
  have ht := hx.ix hm
  have hx2 := hx.rg hm
  refine tz_aload_n (pc := 0) dX10_wake_0 rfl rfl ?_
  refine tz_fR (pc := 1) dX10_wake_1 fl_X10_46 r_145_0 ?_
  refine tz_fR (pc := 4) dX10_wake_4 fl_X10_84 r_6_1 ?_
  refine tz_aload_n (pc := 7) dX10_wake_7 rfl rfl ?_
  refine tz_iload_n (pc := 8) dX10_wake_8 rfl rfl ?_
  refine tz_cV (pc := 9) (c_uTerm hl n _ _ (by omega) (by omega)) vl_X10_68 dX10_wake_9 o_145 rfl rfl (Nat.le_of_ble_eq_true rfl) ⟨(Nat.le_of_ble_eq_true rfl), (Nat.le_of_ble_eq_true rfl)⟩ rfl rfl (Nat.le_of_ble_eq_true rfl) (Nat.le_of_ble_eq_true rfl) (fun r9 J_9 hq9 => ?_)
  obtain ⟨z_9, rfl, hz_9, rfl, rfl⟩ := hq9
  refine tz_aL (pc := 12) (z := (tm x)) (v := (J 7 (tm x))) dX10_wake_12 a_7 rfl (by omega) rfl (fun r_12 => ?_)
  refine tz_if_ge (pc := 13) (tgt := 20) dX10_wake_13 (by decide) (by omega) (fun h_13 => ?_) (fun h_13 => ?_)
  · refine tz_iconst (pc := 20) dX10_wake_20 ?_
    refine tz_istore_n (pc := 21) (L2 := [_, _, _]) dX10_wake_21 rfl (by decide) rfl ?_
    refine tz_aload_n (pc := 22) dX10_wake_22 rfl rfl ?_
    refine tz_fR (pc := 23) dX10_wake_23 fl_X10_11 r_145_1 ?_
    refine tz_iload_n (pc := 26) dX10_wake_26 rfl rfl ?_
    refine tz_aload_n (pc := 27) dX10_wake_27 rfl rfl ?_
    refine tz_fI (pc := 28) (kz := 10) (v := (J 145 10)) dX10_wake_28 fl_X10_39 i_145_10 rfl rfl (fun r_28 => ?_)
    refine tz_aS (pc := 31) (z := x) dX10_wake_31 a_146 rfl (by omega) (by omega) ?_
    refine tz_aload_n (pc := 32) dX10_wake_32 rfl rfl ?_
    refine tz_fR (pc := 33) dX10_wake_33 fl_X10_15 r_145_2 ?_
    refine tz_iload_n (pc := 36) dX10_wake_36 rfl rfl ?_
    refine tz_iload_n (pc := 37) dX10_wake_37 rfl rfl ?_
    refine tz_aS (pc := 38) (z := x) dX10_wake_38 a_147 rfl (by omega) (by omega) ?_
    refine tz_aload_n (pc := 39) dX10_wake_39 rfl rfl ?_
    refine tz_fR (pc := 40) dX10_wake_40 fl_X10_18 r_145_3 ?_
    refine tz_iload_n (pc := 43) dX10_wake_43 rfl rfl ?_
    refine tz_iload_n (pc := 44) dX10_wake_44 rfl rfl ?_
    refine tz_if_eqT (pc := 45) (tgt := 52) (by decide) dX10_wake_45 (by decide) (by decide) ?_
    refine tz_iload_n (pc := 52) dX10_wake_52 rfl rfl ?_
    refine tz_aS (pc := 53) (z := x) dX10_wake_53 a_148 rfl (by omega) (by omega) ?_
    refine tz_aload_n (pc := 54) dX10_wake_54 rfl rfl ?_
    refine tz_fR (pc := 55) dX10_wake_55 fl_X10_21 r_145_4 ?_
    refine tz_iload_n (pc := 58) dX10_wake_58 rfl rfl ?_
    refine tz_iload_n (pc := 59) dX10_wake_59 rfl rfl ?_
    refine tz_aS (pc := 60) (z := x) dX10_wake_60 a_149 rfl (by omega) (by omega) ?_
    refine tz_aload_n (pc := 61) dX10_wake_61 rfl rfl ?_
    refine tz_fR (pc := 62) dX10_wake_62 fl_X10_24 r_145_5 ?_
    refine tz_iload_n (pc := 65) dX10_wake_65 rfl rfl ?_
    refine tz_iconst (pc := 66) dX10_wake_66 ?_
    refine tz_aS (pc := 67) (z := x) dX10_wake_67 a_150 rfl (by omega) (by decide) ?_
    refine tz_aload_n (pc := 68) dX10_wake_68 rfl rfl ?_
    refine tz_fR (pc := 69) dX10_wake_69 fl_X10_36 r_145_9 ?_
    refine tz_iload_n (pc := 72) dX10_wake_72 rfl rfl ?_
    refine tz_iconst (pc := 73) dX10_wake_73 ?_
    refine tz_aS (pc := 74) (z := x) dX10_wake_74 a_154 rfl (by omega) (by decide) ?_
    exact tz_vret (pc := 75) dX10_wake_75 rfl (Nat.le_of_ble_eq_true rfl) (Nat.le_of_ble_eq_true rfl) ⟨Nat.le_refl _, Nat.le_add_right _ _⟩ ⟨rfl, ⟨⟨hU.wake hx (by omega), (zOf.up rfl (zOf.up rfl (zOf.up rfl (zOf.up rfl (zOf.up rfl (zOf.up rfl zOf.rf))))))⟩, fun hn => vwake hn (by omega)⟩⟩
  · refine tz_iconst (pc := 16) dX10_wake_16 ?_
    refine tz_goto (pc := 17) (tgt := 21) dX10_wake_17 (by decide) ?_
    refine tz_istore_n (pc := 21) (L2 := [_, _, _]) dX10_wake_21 rfl (by decide) rfl ?_
    refine tz_aload_n (pc := 22) dX10_wake_22 rfl rfl ?_
    refine tz_fR (pc := 23) dX10_wake_23 fl_X10_11 r_145_1 ?_
    refine tz_iload_n (pc := 26) dX10_wake_26 rfl rfl ?_
    refine tz_aload_n (pc := 27) dX10_wake_27 rfl rfl ?_
    refine tz_fI (pc := 28) (kz := 10) (v := (J 145 10)) dX10_wake_28 fl_X10_39 i_145_10 rfl rfl (fun r_28 => ?_)
    refine tz_aS (pc := 31) (z := x) dX10_wake_31 a_146 rfl (by omega) (by omega) ?_
    refine tz_aload_n (pc := 32) dX10_wake_32 rfl rfl ?_
    refine tz_fR (pc := 33) dX10_wake_33 fl_X10_15 r_145_2 ?_
    refine tz_iload_n (pc := 36) dX10_wake_36 rfl rfl ?_
    refine tz_iload_n (pc := 37) dX10_wake_37 rfl rfl ?_
    refine tz_aS (pc := 38) (z := x) dX10_wake_38 a_147 rfl (by omega) (by omega) ?_
    refine tz_aload_n (pc := 39) dX10_wake_39 rfl rfl ?_
    refine tz_fR (pc := 40) dX10_wake_40 fl_X10_18 r_145_3 ?_
    refine tz_iload_n (pc := 43) dX10_wake_43 rfl rfl ?_
    refine tz_iload_n (pc := 44) dX10_wake_44 rfl rfl ?_
    refine tz_if_eqF (pc := 45) (tgt := 52) (by decide) dX10_wake_45 (by decide) (by decide) ?_
    refine tz_iconst (pc := 48) dX10_wake_48 ?_
    refine tz_goto (pc := 49) (tgt := 53) dX10_wake_49 (by decide) ?_
    refine tz_aS (pc := 53) (z := x) dX10_wake_53 a_148 rfl (by omega) (by decide) ?_
    refine tz_aload_n (pc := 54) dX10_wake_54 rfl rfl ?_
    refine tz_fR (pc := 55) dX10_wake_55 fl_X10_21 r_145_4 ?_
    refine tz_iload_n (pc := 58) dX10_wake_58 rfl rfl ?_
    refine tz_iload_n (pc := 59) dX10_wake_59 rfl rfl ?_
    refine tz_aS (pc := 60) (z := x) dX10_wake_60 a_149 rfl (by omega) (by omega) ?_
    refine tz_aload_n (pc := 61) dX10_wake_61 rfl rfl ?_
    refine tz_fR (pc := 62) dX10_wake_62 fl_X10_24 r_145_5 ?_
    refine tz_iload_n (pc := 65) dX10_wake_65 rfl rfl ?_
    refine tz_iconst (pc := 66) dX10_wake_66 ?_
    refine tz_aS (pc := 67) (z := x) dX10_wake_67 a_150 rfl (by omega) (by decide) ?_
    refine tz_aload_n (pc := 68) dX10_wake_68 rfl rfl ?_
    refine tz_fR (pc := 69) dX10_wake_69 fl_X10_36 r_145_9 ?_
    refine tz_iload_n (pc := 72) dX10_wake_72 rfl rfl ?_
    refine tz_iconst (pc := 73) dX10_wake_73 ?_
    refine tz_aS (pc := 74) (z := x) dX10_wake_74 a_154 rfl (by omega) (by decide) ?_
    exact tz_vret (pc := 75) dX10_wake_75 rfl (Nat.le_of_ble_eq_true rfl) (Nat.le_of_ble_eq_true rfl) ⟨Nat.le_refl _, Nat.le_add_right _ _⟩ ⟨rfl, ⟨⟨hU.wake hx (by omega), (zOf.up rfl (zOf.up rfl (zOf.up rfl (zOf.up rfl (zOf.up rfl (zOf.up rfl zOf.rf))))))⟩, fun hn => vwake hn (by omega)⟩⟩

set_option maxHeartbeats 4000000 in
set_option maxRecDepth 100000 in
theorem u_top {l : Launch} {G : tb_G} (hl : l.stackTraces = false) (n : Nat) (J : zJ) (x : Int) (hr_x : -2147483648 ≤ x ∧ x < 2147483648) (b m c : Int) (hm : 0 ≤ m ∧ m ≤ 400) (hx : nd b m x) (hU : UI J b m) (hP : UFp (VN c m) (upV J)) (hbc : (b = 0 ∧ c = 400) ∨ (b = 400 ∧ c = 800)) : tz_Ok l G M_X10_topOf 2 0 0 [.ref 145, zi x] n J (zqi (fun z J' => (UW J' J b m ∧ (nd b m z ∧ J' 146 z = J 145 10) ∧ zOf (zbut [146, 147, 148, 149, 150, 154]) J' J) ∧ vE c m J' J ∧ z = tp (upV J) x)) zN := by
  refine tz_Ok.of hl (by decide +kernel) rfl (tb_c1 rfl) (Nat.le_of_ble_eq_true rfl) ?_
  show tz_At l G M_X10_topOf (tb_rm 2 0 0) none (tb_ZM G 0 0 (zQ n 0 (zqi (fun z J' => (UW J' J b m ∧ (nd b m z ∧ J' 146 z = J 145 10) ∧ zOf (zbut [146, 147, 148, 149, 150, 154]) J' J) ∧ vE c m J' J ∧ z = tp (upV J) x))) (zX n 0 zN)) 0 0 n J 0 [some (.ref 145), some (zi x), none, none] []
  have ht := hx.ix hm
  have hx2 := hx.rg hm
  have hxv := (nd.vn hbc hm).1 hx
  obtain ⟨rk, rk8, rkh⟩ := hP.b (fun y q => VN.b (by omega) q)
  have rkx := rk8 x hxv
  refine tz_aload_n (pc := 0) dX10_topOf_0 rfl rfl ?_
  refine tz_fR (pc := 1) dX10_topOf_1 fl_X10_11 r_145_1 ?_
  refine tz_iload_n (pc := 4) dX10_topOf_4 rfl rfl ?_
  refine tz_aL (pc := 5) (z := x) (v := (J 146 x)) dX10_topOf_5 a_146 rfl (by omega) rfl (fun r_5 => ?_)
  refine tz_aload_n (pc := 6) dX10_topOf_6 rfl rfl ?_
  refine tz_fI (pc := 7) (kz := 10) (v := (J 145 10)) dX10_topOf_7 fl_X10_39 i_145_10 rfl rfl (fun r_7 => ?_)
  refine tz_icmp_eq (pc := 10) (tgt := 18) dX10_topOf_10 (by decide) (by omega) (by omega) (fun h_10 => ?_) (fun h_10 => ?_)
  · refine tz_iload_n (pc := 18) dX10_topOf_18 rfl rfl ?_
    refine tz_istore_n (pc := 19) (L2 := [_, _, _, _]) dX10_topOf_19 rfl (by decide) rfl ?_
    refine tz_iconst (pc := 20) dX10_topOf_20 ?_
    refine tz_istore_n (pc := 21) (L2 := [_, _, _, _]) dX10_topOf_21 rfl (by decide) rfl ?_
    have loop22 : ∀ (f9 : Nat) (x1 : Int) (k : Int) (J1 : zJ), ((800 - k).toNat) < f9 → (0 ≤ k ∧ k ≤ 800) → (UW J1 J b m) → (nd b m x1) → (J1 146 x1 = J 145 10) → (zOf (zbut [146, 147, 148, 149, 150, 154]) J1 J) → (vE c m J1 J) → (tp (upV J) x1 = tp (upV J) x) → (RKb c m rk (upV J1)) → ((rk x1 : Int) + k ≤ 799) → tz_At l G M_X10_topOf (tb_rm 2 0 0) none (tb_ZM G 0 0 (zQ n 0 (zqi (fun z J' => (UW J' J b m ∧ (nd b m z ∧ J' 146 z = J 145 10) ∧ zOf (zbut [146, 147, 148, 149, 150, 154]) J' J) ∧ vE c m J' J ∧ z = tp (upV J) x))) (zX n 0 zN)) 0 0 n J1 22 [some (.ref 145), some (zi x), some (zi x1), some (zi k)] [] := by
      intro f9
      induction f9 with
      | zero => intro x1 k J1 hm9; exact absurd hm9 (Nat.not_lt_zero _)
      | succ f9 ih22 =>
        intro x1 k J1 hm22 hk hw hn ha hf hv htx hr hd
        have h1 := hw.at hm hn ha
        have h1r := hn.rg hm
        have h2 := hw.at hm h1.2.1.1 (by have := h1.2.1.2; rw [hw.2.1] at this; exact this)
        have h2r := h1.2.1.1.rg hm
        have h3r := h2.2.1.1.rg hm
        have hxv1 := (nd.vn hbc hm).1 hn
        have ha9 : J1 146 x1 = J1 145 10 := ha.trans hw.2.1.symm
        have vs9 := vshort hv.1 hxv1 ha9 h1.2.1.2
        have pp1 : upV J1 x1 = J1 147 x1 := by unfold upV; rw [if_pos ha9]
        have pp2 : upV J1 (J1 147 x1) = J1 147 (J1 147 x1) := by unfold upV; rw [if_pos h1.2.1.2]
        have vx2 := (nd.vn hbc hm).1 h1.2.1.1
        have vx3 := (nd.vn hbc hm).1 h2.2.1.1
        have tx9 : tp (upV J1) (J1 147 (J1 147 x1)) = tp (upV J1) x1 := by rw [← pp2, hv.1.p _ vx2, ← pp1, hv.1.p _ hxv1]
        have rr1 := (hr x1 hxv1).2
        have rr2 := (hr _ vx2).2
        rw [pp1] at rr1
        rw [pp2] at rr2
        refine tz_iload_n (pc := 22) dX10_topOf_22 rfl rfl ?_
        refine tz_sipush (pc := 23) dX10_topOf_23 (by decide) ?_
        refine tz_icmp_ge (pc := 26) (tgt := 69) dX10_topOf_26 (by decide) (by omega) (by decide) (fun h_26 => ?_) (fun h_26 => ?_)
        · refine tz_iload_n (pc := 69) dX10_topOf_69 rfl rfl ?_
          exact tz_iret (pc := 70) (z := x1) dX10_topOf_70 rfl (Nat.le_of_ble_eq_true rfl) (Nat.le_of_ble_eq_true rfl) ⟨Nat.le_refl _, Nat.le_add_right _ _⟩ ⟨_, rfl, (by omega), ⟨⟨hw, ⟨hn, ha⟩, hf⟩, hv, by rw [← htx, ← hv.2.1 x1 hxv1]; exact (tp_r (pp1.trans (by omega))).symm⟩⟩
        · refine tz_aload_n (pc := 29) dX10_topOf_29 rfl rfl ?_
          refine tz_fR (pc := 30) dX10_topOf_30 fl_X10_15 r_145_2 ?_
          refine tz_iload_n (pc := 33) dX10_topOf_33 rfl rfl ?_
          refine tz_aL (pc := 34) (z := x1) (v := (J1 147 x1)) dX10_topOf_34 a_147 rfl (by omega) rfl (fun r_34 => ?_)
          refine tz_iload_n (pc := 35) dX10_topOf_35 rfl rfl ?_
          refine tz_icmp_eq (pc := 36) (tgt := 69) dX10_topOf_36 (by decide) (by omega) (by omega) (fun h_36 => ?_) (fun h_36 => ?_)
          · refine tz_iload_n (pc := 69) dX10_topOf_69 rfl rfl ?_
            exact tz_iret (pc := 70) (z := x1) dX10_topOf_70 rfl (Nat.le_of_ble_eq_true rfl) (Nat.le_of_ble_eq_true rfl) ⟨Nat.le_refl _, Nat.le_add_right _ _⟩ ⟨_, rfl, (by omega), ⟨⟨hw, ⟨hn, ha⟩, hf⟩, hv, by rw [← htx, ← hv.2.1 x1 hxv1]; exact (tp_r (pp1.trans (by omega))).symm⟩⟩
          · refine tz_aload_n (pc := 39) dX10_topOf_39 rfl rfl ?_
            refine tz_fR (pc := 40) dX10_topOf_40 fl_X10_15 r_145_2 ?_
            refine tz_iload_n (pc := 43) dX10_topOf_43 rfl rfl ?_
            refine tz_aload_n (pc := 44) dX10_topOf_44 rfl rfl ?_
            refine tz_fR (pc := 45) dX10_topOf_45 fl_X10_15 r_145_2 ?_
            refine tz_aload_n (pc := 48) dX10_topOf_48 rfl rfl ?_
            refine tz_fR (pc := 49) dX10_topOf_49 fl_X10_15 r_145_2 ?_
            refine tz_iload_n (pc := 52) dX10_topOf_52 rfl rfl ?_
            refine tz_aL (pc := 53) (z := x1) (v := (J1 147 x1)) dX10_topOf_53 a_147 rfl (by omega) rfl (fun r_53 => ?_)
            refine tz_aL (pc := 54) (z := (J1 147 x1)) (v := (J1 147 (J1 147 x1))) dX10_topOf_54 a_147 rfl (by omega) rfl (fun r_54 => ?_)
            refine tz_aS (pc := 55) (z := x1) dX10_topOf_55 a_147 rfl (by omega) (by omega) ?_
            refine tz_aload_n (pc := 56) dX10_topOf_56 rfl rfl ?_
            refine tz_fR (pc := 57) dX10_topOf_57 fl_X10_15 r_145_2 ?_
            refine tz_iload_n (pc := 60) dX10_topOf_60 rfl rfl ?_
            refine tz_aL (pc := 61) (z := x1) (v := (J1 147 (J1 147 x1))) dX10_topOf_61 a_147 rfl (by omega) (by simp [zup]) (fun r_61 => ?_)
            refine tz_istore_n (pc := 62) (L2 := [_, _, _, _]) dX10_topOf_62 rfl (by decide) rfl ?_
            refine tz_iinc (pc := 63) (z := k + 1) (L2 := [_, _, _, _]) dX10_topOf_63 rfl (by omega) rfl ?_
            refine tz_goto (pc := 66) (tgt := 22) dX10_topOf_66 (by decide) ?_
            exact ih22 _ (k + 1) _ (by omega) (by omega) (hw.p7 h2.2.1.1 (by have := h2.2.1.2; rw [hw.2.1] at this; exact this)) h2.2.1.1 (by have := h2.2.1.2; rw [hw.2.1] at this; exact this) (zOf.up rfl hf) (vs9.1.tr hv) ((hv.2.1 _ vx3).symm.trans (tx9.trans ((hv.2.1 x1 hxv1).trans htx))) (hr.short hxv1 vs9.2) (by have r9 := rk_st rr1 rr2 (by omega); omega)
    exact loop22 _ _ 0 _ (Nat.lt_succ_self _) (by omega) (UW.rf hU) hx h_10 zOf.rf (vE.rf hP) rfl rkh (by omega)
  · refine tz_aload_n (pc := 13) dX10_topOf_13 rfl rfl ?_
    refine tz_iload_n (pc := 14) dX10_topOf_14 rfl rfl ?_
    refine tz_cV (pc := 15) (u_wake hl n _ _ (by omega) b m hm hx hU) vl_X10_80 dX10_topOf_15 o_145 rfl rfl (Nat.le_of_ble_eq_true rfl) ⟨(Nat.le_of_ble_eq_true rfl), (Nat.le_of_ble_eq_true rfl)⟩ rfl rfl (Nat.le_of_ble_eq_true rfl) (Nat.le_of_ble_eq_true rfl) (fun r9 J_15 hq9 => ?_)
    obtain ⟨rfl, ⟨⟨w1, w2⟩, w3⟩, w4⟩ := hq9
    refine tz_iload_n (pc := 18) dX10_topOf_18 rfl rfl ?_
    refine tz_istore_n (pc := 19) (L2 := [_, _, _, _]) dX10_topOf_19 rfl (by decide) rfl ?_
    refine tz_iconst (pc := 20) dX10_topOf_20 ?_
    refine tz_istore_n (pc := 21) (L2 := [_, _, _, _]) dX10_topOf_21 rfl (by decide) rfl ?_
    have loop22 : ∀ (f9 : Nat) (x1 : Int) (k : Int) (J1 : zJ), ((800 - k).toNat) < f9 → (0 ≤ k ∧ k ≤ 800) → (UW J1 J b m) → (nd b m x1) → (J1 146 x1 = J 145 10) → (zOf (zbut [146, 147, 148, 149, 150, 154]) J1 J) → (vE c m J1 J) → (tp (upV J) x1 = tp (upV J) x) → (RKb c m rk (upV J1)) → ((rk x1 : Int) + k ≤ 799) → tz_At l G M_X10_topOf (tb_rm 2 0 0) none (tb_ZM G 0 0 (zQ n 0 (zqi (fun z J' => (UW J' J b m ∧ (nd b m z ∧ J' 146 z = J 145 10) ∧ zOf (zbut [146, 147, 148, 149, 150, 154]) J' J) ∧ vE c m J' J ∧ z = tp (upV J) x))) (zX n 0 zN)) 0 0 n J1 22 [some (.ref 145), some (zi x), some (zi x1), some (zi k)] [] := by
      intro f9
      induction f9 with
      | zero => intro x1 k J1 hm9; exact absurd hm9 (Nat.not_lt_zero _)
      | succ f9 ih22 =>
        intro x1 k J1 hm22 hk hw hn ha hf hv htx hr hd
        have h1 := hw.at hm hn ha
        have h1r := hn.rg hm
        have h2 := hw.at hm h1.2.1.1 (by have := h1.2.1.2; rw [hw.2.1] at this; exact this)
        have h2r := h1.2.1.1.rg hm
        have h3r := h2.2.1.1.rg hm
        have hxv1 := (nd.vn hbc hm).1 hn
        have ha9 : J1 146 x1 = J1 145 10 := ha.trans hw.2.1.symm
        have vs9 := vshort hv.1 hxv1 ha9 h1.2.1.2
        have pp1 : upV J1 x1 = J1 147 x1 := by unfold upV; rw [if_pos ha9]
        have pp2 : upV J1 (J1 147 x1) = J1 147 (J1 147 x1) := by unfold upV; rw [if_pos h1.2.1.2]
        have vx2 := (nd.vn hbc hm).1 h1.2.1.1
        have vx3 := (nd.vn hbc hm).1 h2.2.1.1
        have tx9 : tp (upV J1) (J1 147 (J1 147 x1)) = tp (upV J1) x1 := by rw [← pp2, hv.1.p _ vx2, ← pp1, hv.1.p _ hxv1]
        have rr1 := (hr x1 hxv1).2
        have rr2 := (hr _ vx2).2
        rw [pp1] at rr1
        rw [pp2] at rr2
        refine tz_iload_n (pc := 22) dX10_topOf_22 rfl rfl ?_
        refine tz_sipush (pc := 23) dX10_topOf_23 (by decide) ?_
        refine tz_icmp_ge (pc := 26) (tgt := 69) dX10_topOf_26 (by decide) (by omega) (by decide) (fun h_26 => ?_) (fun h_26 => ?_)
        · refine tz_iload_n (pc := 69) dX10_topOf_69 rfl rfl ?_
          exact tz_iret (pc := 70) (z := x1) dX10_topOf_70 rfl (Nat.le_of_ble_eq_true rfl) (Nat.le_of_ble_eq_true rfl) ⟨Nat.le_refl _, Nat.le_add_right _ _⟩ ⟨_, rfl, (by omega), ⟨⟨hw, ⟨hn, ha⟩, hf⟩, hv, by rw [← htx, ← hv.2.1 x1 hxv1]; exact (tp_r (pp1.trans (by omega))).symm⟩⟩
        · refine tz_aload_n (pc := 29) dX10_topOf_29 rfl rfl ?_
          refine tz_fR (pc := 30) dX10_topOf_30 fl_X10_15 r_145_2 ?_
          refine tz_iload_n (pc := 33) dX10_topOf_33 rfl rfl ?_
          refine tz_aL (pc := 34) (z := x1) (v := (J1 147 x1)) dX10_topOf_34 a_147 rfl (by omega) rfl (fun r_34 => ?_)
          refine tz_iload_n (pc := 35) dX10_topOf_35 rfl rfl ?_
          refine tz_icmp_eq (pc := 36) (tgt := 69) dX10_topOf_36 (by decide) (by omega) (by omega) (fun h_36 => ?_) (fun h_36 => ?_)
          · refine tz_iload_n (pc := 69) dX10_topOf_69 rfl rfl ?_
            exact tz_iret (pc := 70) (z := x1) dX10_topOf_70 rfl (Nat.le_of_ble_eq_true rfl) (Nat.le_of_ble_eq_true rfl) ⟨Nat.le_refl _, Nat.le_add_right _ _⟩ ⟨_, rfl, (by omega), ⟨⟨hw, ⟨hn, ha⟩, hf⟩, hv, by rw [← htx, ← hv.2.1 x1 hxv1]; exact (tp_r (pp1.trans (by omega))).symm⟩⟩
          · refine tz_aload_n (pc := 39) dX10_topOf_39 rfl rfl ?_
            refine tz_fR (pc := 40) dX10_topOf_40 fl_X10_15 r_145_2 ?_
            refine tz_iload_n (pc := 43) dX10_topOf_43 rfl rfl ?_
            refine tz_aload_n (pc := 44) dX10_topOf_44 rfl rfl ?_
            refine tz_fR (pc := 45) dX10_topOf_45 fl_X10_15 r_145_2 ?_
            refine tz_aload_n (pc := 48) dX10_topOf_48 rfl rfl ?_
            refine tz_fR (pc := 49) dX10_topOf_49 fl_X10_15 r_145_2 ?_
            refine tz_iload_n (pc := 52) dX10_topOf_52 rfl rfl ?_
            refine tz_aL (pc := 53) (z := x1) (v := (J1 147 x1)) dX10_topOf_53 a_147 rfl (by omega) rfl (fun r_53 => ?_)
            refine tz_aL (pc := 54) (z := (J1 147 x1)) (v := (J1 147 (J1 147 x1))) dX10_topOf_54 a_147 rfl (by omega) rfl (fun r_54 => ?_)
            refine tz_aS (pc := 55) (z := x1) dX10_topOf_55 a_147 rfl (by omega) (by omega) ?_
            refine tz_aload_n (pc := 56) dX10_topOf_56 rfl rfl ?_
            refine tz_fR (pc := 57) dX10_topOf_57 fl_X10_15 r_145_2 ?_
            refine tz_iload_n (pc := 60) dX10_topOf_60 rfl rfl ?_
            refine tz_aL (pc := 61) (z := x1) (v := (J1 147 (J1 147 x1))) dX10_topOf_61 a_147 rfl (by omega) (by simp [zup]) (fun r_61 => ?_)
            refine tz_istore_n (pc := 62) (L2 := [_, _, _, _]) dX10_topOf_62 rfl (by decide) rfl ?_
            refine tz_iinc (pc := 63) (z := k + 1) (L2 := [_, _, _, _]) dX10_topOf_63 rfl (by omega) rfl ?_
            refine tz_goto (pc := 66) (tgt := 22) dX10_topOf_66 (by decide) ?_
            exact ih22 _ (k + 1) _ (by omega) (by omega) (hw.p7 h2.2.1.1 (by have := h2.2.1.2; rw [hw.2.1] at this; exact this)) h2.2.1.1 (by have := h2.2.1.2; rw [hw.2.1] at this; exact this) (zOf.up rfl hf) (vs9.1.tr hv) ((hv.2.1 _ vx3).symm.trans (tx9.trans ((hv.2.1 x1 hxv1).trans htx))) (hr.short hxv1 vs9.2) (by have r9 := rk_st rr1 rr2 (by omega); omega)
    exact loop22 _ _ 0 _ (Nat.lt_succ_self _) (by omega) w1 hx w2 w3 ((w4 h_10).e hP) rfl (by rw [(w4 h_10).p]; exact rkh) (by omega)

set_option maxHeartbeats 4000000 in
set_option maxRecDepth 100000 in
theorem u_addPair {l : Launch} {G : tb_G} (hl : l.stackTraces = false) (n : Nat) (J : zJ) (x : Int) (y : Int) (hr_x : -2147483648 ≤ x ∧ x < 2147483648) (hr_y : -2147483648 ≤ y ∧ y < 2147483648) (b m : Int) (hP : PI J b m) (hx : nd b m x) (hy : nd b m y) : tz_Ok l G M_X10_addPair 0 0 0 [.ref 145, zi x, zi y] n J (zqv (fun J' => (PI J' b m ∧ J' 145 10 = J 145 10 ∧ zOf (zbut [145, 151, 152]) J' J) ∧ (J 145 11 < 2401 → zup (zup (zup J 151 (J 145 11) x) 152 (J 145 11) y) 145 11 (J 145 11 + 1) = J'))) zN := by
  refine tz_Ok.of hl (by decide +kernel) rfl (tb_c1 rfl) (Nat.le_of_ble_eq_true rfl) ?_
  show tz_At l G M_X10_addPair (tb_rm 0 0 0) none (tb_ZM G 0 0 (zQ n 0 (zqv (fun J' => (PI J' b m ∧ J' 145 10 = J 145 10 ∧ zOf (zbut [145, 151, 152]) J' J) ∧ (J 145 11 < 2401 → zup (zup (zup J 151 (J 145 11) x) 152 (J 145 11) y) 145 11 (J 145 11 + 1) = J')))) (zX n 0 zN)) 0 0 n J 0 [some (.ref 145), some (zi x), some (zi y)] []
  have hp := hP.1
  refine tz_aload_n (pc := 0) dX10_addPair_0 rfl rfl ?_
  refine tz_fI (pc := 1) (kz := 11) (v := (J 145 11)) dX10_addPair_1 fl_X10_43 i_145_11 rfl rfl (fun r_1 => ?_)
  refine tz_aload_n (pc := 4) dX10_addPair_4 rfl rfl ?_
  refine tz_fR (pc := 5) dX10_addPair_5 fl_X10_27 r_145_6 ?_
  refine tz_aN (pc := 8) (lz := 2401) dX10_addPair_8 a_151 rfl ?_
  refine tz_icmp_ge (pc := 9) (tgt := 42) dX10_addPair_9 (by decide) (by omega) (by decide) (fun h_9 => ?_) (fun h_9 => ?_)
  · exact tz_vret (pc := 42) dX10_addPair_42 rfl (Nat.le_of_ble_eq_true rfl) (Nat.le_of_ble_eq_true rfl) ⟨Nat.le_refl _, Nat.le_add_right _ _⟩ ⟨rfl, ⟨⟨hP, rfl, zOf.rf⟩, fun q9 => absurd q9 (by omega)⟩⟩
  · refine tz_aload_n (pc := 12) dX10_addPair_12 rfl rfl ?_
    refine tz_fR (pc := 13) dX10_addPair_13 fl_X10_27 r_145_6 ?_
    refine tz_aload_n (pc := 16) dX10_addPair_16 rfl rfl ?_
    refine tz_fI (pc := 17) (kz := 11) (v := (J 145 11)) dX10_addPair_17 fl_X10_43 i_145_11 rfl rfl (fun r_17 => ?_)
    refine tz_iload_n (pc := 20) dX10_addPair_20 rfl rfl ?_
    refine tz_aS (pc := 21) (z := (J 145 11)) dX10_addPair_21 a_151 rfl (by omega) (by omega) ?_
    refine tz_aload_n (pc := 22) dX10_addPair_22 rfl rfl ?_
    refine tz_fR (pc := 23) dX10_addPair_23 fl_X10_30 r_145_7 ?_
    refine tz_aload_n (pc := 26) dX10_addPair_26 rfl rfl ?_
    refine tz_fI (pc := 27) (kz := 11) (v := (J 145 11)) dX10_addPair_27 fl_X10_43 i_145_11 rfl rfl (fun r_27 => ?_)
    refine tz_iload_n (pc := 30) dX10_addPair_30 rfl rfl ?_
    refine tz_aS (pc := 31) (z := (J 145 11)) dX10_addPair_31 a_152 rfl (by omega) (by omega) ?_
    refine tz_aload_n (pc := 32) dX10_addPair_32 rfl rfl ?_
    refine tz_dup (pc := 33) dX10_addPair_33 rfl ?_
    refine tz_fI (pc := 34) (kz := 11) (v := (J 145 11)) dX10_addPair_34 fl_X10_43 i_145_11 rfl rfl (fun r_34 => ?_)
    refine tz_iconst (pc := 37) dX10_addPair_37 ?_
    refine tz_iadd (pc := 38) (v := (J 145 11) + 1) dX10_addPair_38 rfl ?_
    refine tz_pI (pc := 39) (kz := 11) dX10_addPair_39 fl_X10_43 i_145_11 rfl rfl (by omega) ?_
    exact tz_vret (pc := 42) dX10_addPair_42 rfl (Nat.le_of_ble_eq_true rfl) (Nat.le_of_ble_eq_true rfl) ⟨Nat.le_refl _, Nat.le_add_right _ _⟩ ⟨rfl, ⟨⟨hP.push hx hy (by omega), rfl, zOf.up rfl (zOf.up rfl (zOf.up rfl zOf.rf))⟩, fun _ => rfl⟩⟩

set_option maxHeartbeats 4000000 in
set_option maxRecDepth 100000 in
theorem u_lesser {l : Launch} {G : tb_G} (hl : l.stackTraces = false) (n : Nat) (J : zJ) (x : Int) (y : Int) (hr_x : -2147483648 ≤ x ∧ x < 2147483648) (hr_y : -2147483648 ≤ y ∧ y < 2147483648) (b m : Int) (hm : 0 ≤ m ∧ m ≤ 400) (hx : nd b m x) (hy : nd b m y) (h7x : -8 ≤ J 7 (tm x) ∧ J 7 (tm x) < 0) (h7y : -8 ≤ J 7 (tm y) ∧ J 7 (tm y) < 0) : tz_Ok l G M_X10_lesser 1 0 0 [.ref 145, zi x, zi y] n J (zqi (fun z J' => J = J' ∧ (z = x ∨ z = y) ∧ ((z = x ∧ ¬ -1 - J 7 (tm y) < -1 - J 7 (tm x)) ∨ (z = y ∧ -1 - J 7 (tm y) < -1 - J 7 (tm x))))) zN := by
  refine tz_Ok.of hl (by decide +kernel) rfl (tb_c1 rfl) (Nat.le_of_ble_eq_true rfl) ?_
  show tz_At l G M_X10_lesser (tb_rm 1 0 0) none (tb_ZM G 0 0 (zQ n 0 (zqi (fun z J' => J = J' ∧ (z = x ∨ z = y) ∧ ((z = x ∧ ¬ -1 - J 7 (tm y) < -1 - J 7 (tm x)) ∨ (z = y ∧ -1 - J 7 (tm y) < -1 - J 7 (tm x)))))) (zX n 0 zN)) 0 0 n J 0 [some (.ref 145), some (zi x), some (zi y)] []
  have ht := hx.ix hm
  have hx2 := hx.rg hm
  have hu := hy.ix hm
  have hy2 := hy.rg hm
  refine tz_aload_n (pc := 0) dX10_lesser_0 rfl rfl ?_
  refine tz_fR (pc := 1) dX10_lesser_1 fl_X10_46 r_145_0 ?_
  refine tz_fR (pc := 4) dX10_lesser_4 fl_X10_84 r_6_1 ?_
  refine tz_aload_n (pc := 7) dX10_lesser_7 rfl rfl ?_
  refine tz_iload_n (pc := 8) dX10_lesser_8 rfl rfl ?_
  refine tz_cV (pc := 9) (c_uTerm hl n _ _ (by omega) (by omega)) vl_X10_68 dX10_lesser_9 o_145 rfl rfl (Nat.le_of_ble_eq_true rfl) ⟨(Nat.le_of_ble_eq_true rfl), (Nat.le_of_ble_eq_true rfl)⟩ rfl rfl (Nat.le_of_ble_eq_true rfl) (Nat.le_of_ble_eq_true rfl) (fun r9 J_9 hq9 => ?_)
  obtain ⟨z_9, rfl, hz_9, rfl, rfl⟩ := hq9
  refine tz_aL (pc := 12) (z := (tm x)) (v := (J 7 (tm x))) dX10_lesser_12 a_7 rfl (by omega) rfl (fun r_12 => ?_)
  refine tz_iconst (pc := 13) dX10_lesser_13 ?_
  refine tz_ixor (pc := 14) (v := -1 - J 7 (tm x)) dX10_lesser_14 (z_nn h7x) ?_
  refine tz_aload_n (pc := 15) dX10_lesser_15 rfl rfl ?_
  refine tz_fR (pc := 16) dX10_lesser_16 fl_X10_46 r_145_0 ?_
  refine tz_fR (pc := 19) dX10_lesser_19 fl_X10_84 r_6_1 ?_
  refine tz_aload_n (pc := 22) dX10_lesser_22 rfl rfl ?_
  refine tz_iload_n (pc := 23) dX10_lesser_23 rfl rfl ?_
  refine tz_cV (pc := 24) (c_uTerm hl n _ _ (by omega) (by omega)) vl_X10_68 dX10_lesser_24 o_145 rfl rfl (Nat.le_of_ble_eq_true rfl) ⟨(Nat.le_of_ble_eq_true rfl), (Nat.le_of_ble_eq_true rfl)⟩ rfl rfl (Nat.le_of_ble_eq_true rfl) (Nat.le_of_ble_eq_true rfl) (fun r9 J_24 hq9 => ?_)
  obtain ⟨z_24, rfl, hz_24, rfl, rfl⟩ := hq9
  refine tz_aL (pc := 27) (z := (tm y)) (v := (J 7 (tm y))) dX10_lesser_27 a_7 rfl (by omega) rfl (fun r_27 => ?_)
  refine tz_iconst (pc := 28) dX10_lesser_28 ?_
  refine tz_ixor (pc := 29) (v := -1 - J 7 (tm y)) dX10_lesser_29 (z_nn h7y) ?_
  refine tz_icmp_gt (pc := 30) (tgt := 37) dX10_lesser_30 (by decide) (by omega) (by omega) (fun h_30 => ?_) (fun h_30 => ?_)
  · refine tz_iload_n (pc := 37) dX10_lesser_37 rfl rfl ?_
    exact tz_iret (pc := 38) (z := y) dX10_lesser_38 rfl (Nat.le_of_ble_eq_true rfl) (Nat.le_of_ble_eq_true rfl) ⟨Nat.le_refl _, Nat.le_add_right _ _⟩ ⟨_, rfl, (by omega), ⟨rfl, by omega, by omega⟩⟩
  · refine tz_iload_n (pc := 33) dX10_lesser_33 rfl rfl ?_
    refine tz_goto (pc := 34) (tgt := 38) dX10_lesser_34 (by decide) ?_
    exact tz_iret (pc := 38) (z := x) dX10_lesser_38 rfl (Nat.le_of_ble_eq_true rfl) (Nat.le_of_ble_eq_true rfl) ⟨Nat.le_refl _, Nat.le_add_right _ _⟩ ⟨_, rfl, (by omega), ⟨rfl, by omega, by omega⟩⟩

set_option maxHeartbeats 4000000 in
set_option maxRecDepth 100000 in
theorem u_joined {l : Launch} {G : tb_G} (hl : l.stackTraces = false) (n : Nat) (J : zJ) (x : Int) (y : Int) (hr_x : -2147483648 ≤ x ∧ x < 2147483648) (hr_y : -2147483648 ≤ y ∧ y < 2147483648) (b m c : Int) (C : CT J m) (hU : UI J b m) (hP : PI J b m) (hx : nd b m x) (hy : nd b m y) (ax : J 146 x = J 145 10) (ay : J 146 y = J 145 10) (hbc : (b = 0 ∧ c = 400) ∨ (b = 400 ∧ c = 800)) (h7x : J 148 x = -1 → -8 ≤ J 7 (tm (J 149 x)) ∧ J 7 (tm (J 149 x)) < 0) (h7y : J 148 y = -1 → -8 ≤ J 7 (tm (J 149 y)) ∧ J 7 (tm (J 149 y)) < 0) : tz_Ok l G M_X10_joined 2 0 0 [.ref 145, zi x, zi y] n J (zqi (fun z J' => (UW J' J b m ∧ PI J' b m ∧ (z = 0 ∨ z = 1) ∧ zOf (zbut [145, 147, 148, 149, 151, 152]) J' J) ∧ UJN c m J J' x y z)) zN := by
  refine tz_Ok.of hl (by decide +kernel) rfl (tb_c1 rfl) (Nat.le_of_ble_eq_true rfl) ?_
  show tz_At l G M_X10_joined (tb_rm 2 0 0) none (tb_ZM G 0 0 (zQ n 0 (zqi (fun z J' => (UW J' J b m ∧ PI J' b m ∧ (z = 0 ∨ z = 1) ∧ zOf (zbut [145, 147, 148, 149, 151, 152]) J' J) ∧ UJN c m J J' x y z))) (zX n 0 zN)) 0 0 n J 0 [some (.ref 145), some (zi x), some (zi y), none, none, none] []
  have hb := C.told
  have hm := hb.2
  have hx2 := hx.rg hm
  have hy2 := hy.rg hm
  have ux := (UW.rf hU).at hm hx ax
  have uy := (UW.rf hU).at hm hy ay
  have hp9 := ux.2.2.1
  have hq9 := uy.2.2.1
  have hxv := (nd.vn hbc hm).1 hx
  have hyv := (nd.vn hbc hm).1 hy
  refine tz_iload_n (pc := 0) dX10_joined_0 rfl rfl ?_
  refine tz_iload_n (pc := 1) dX10_joined_1 rfl rfl ?_
  refine tz_icmp_ne (pc := 2) (tgt := 7) dX10_joined_2 (by decide) (by omega) (by omega) (fun h_2 => ?_) (fun h_2 => ?_)
  · refine tz_aload_n (pc := 7) dX10_joined_7 rfl rfl ?_
    refine tz_fR (pc := 8) dX10_joined_8 fl_X10_18 r_145_3 ?_
    refine tz_iload_n (pc := 11) dX10_joined_11 rfl rfl ?_
    refine tz_aL (pc := 12) (z := x) (v := (J 148 x)) dX10_joined_12 a_148 rfl (by omega) rfl (fun r_12 => ?_)
    refine tz_istore_n (pc := 13) (L2 := [_, _, _, _, _, _]) dX10_joined_13 rfl (by decide) rfl ?_
    refine tz_aload_n (pc := 14) dX10_joined_14 rfl rfl ?_
    refine tz_fR (pc := 15) dX10_joined_15 fl_X10_18 r_145_3 ?_
    refine tz_iload_n (pc := 18) dX10_joined_18 rfl rfl ?_
    refine tz_aL (pc := 19) (z := y) (v := (J 148 y)) dX10_joined_19 a_148 rfl (by omega) rfl (fun r_19 => ?_)
    refine tz_istore (pc := 20) (L2 := [_, _, _, _, _, _]) dX10_joined_20 (by decide) rfl ?_
    refine tz_aload_n (pc := 22) dX10_joined_22 rfl rfl ?_
    refine tz_fR (pc := 23) dX10_joined_23 fl_X10_15 r_145_2 ?_
    refine tz_iload_n (pc := 26) dX10_joined_26 rfl rfl ?_
    refine tz_iload_n (pc := 27) dX10_joined_27 rfl rfl ?_
    refine tz_aS (pc := 28) (z := y) dX10_joined_28 a_147 rfl (by omega) (by omega) ?_
    refine tz_aload_n (pc := 29) dX10_joined_29 rfl rfl ?_
    refine tz_fR (pc := 30) dX10_joined_30 fl_X10_18 r_145_3 ?_
    refine tz_iload_n (pc := 33) dX10_joined_33 rfl rfl ?_
    refine tz_iload_n (pc := 34) dX10_joined_34 rfl rfl ?_
    refine tz_iconst (pc := 35) dX10_joined_35 ?_
    refine tz_icmp_ne (pc := 36) (tgt := 44) dX10_joined_36 (by decide) (by omega) (by decide) (fun h_36 => ?_) (fun h_36 => ?_)
    · refine tz_iload_n (pc := 44) dX10_joined_44 rfl rfl ?_
      refine tz_aS (pc := 45) (z := x) dX10_joined_45 a_148 rfl (by omega) (by omega) ?_
      refine tz_iload_n (pc := 46) dX10_joined_46 rfl rfl ?_
      refine tz_iconst (pc := 47) dX10_joined_47 ?_
      refine tz_icmp_ne (pc := 48) (tgt := 79) dX10_joined_48 (by decide) (by omega) (by decide) (fun h_48 => ?_) (fun h_48 => ?_)
      · refine tz_iload_n (pc := 79) dX10_joined_79 rfl rfl ?_
        refine tz_iconst (pc := 80) dX10_joined_80 ?_
        refine tz_icmp_eq (pc := 81) (tgt := 90) dX10_joined_81 (by decide) (by omega) (by decide) (fun h_81 => ?_) (fun h_81 => ?_)
        · refine tz_iconst (pc := 90) dX10_joined_90 ?_
          exact tz_zret (pc := 91) (z := 1) dX10_joined_91 rfl (Or.inr rfl) (Nat.le_of_ble_eq_true rfl) (Nat.le_of_ble_eq_true rfl) ⟨Nat.le_refl _, Nat.le_add_right _ _⟩ ⟨_, rfl, (by decide), ⟨⟨(UW.p8 (UW.p7 (UW.rf hU) hx ax) (by first | exact hq9 | exact hp9)), hP.of rfl rfl rfl, by omega, (zOf.up rfl (zOf.up rfl zOf.rf))⟩, Or.inr ⟨by omega, (vlk (J' := (zup (zup J 147 y x) 148 x (J 148 x))) (v := J 148 x) (w := J 149 x) ⟨hxv, ax⟩ ⟨hyv, ay⟩ (by omega) (by rw [if_neg (show ¬ J 148 x = -1 by omega)]) (fun q8 q9 => by omega) rfl rfl rfl rfl rfl (fun _ => rfl) (fun _ => rfl) (zsel (f := J 149))), Or.inl ⟨by omega, rfl, rfl, rfl, rfl⟩⟩⟩⟩
        · refine tz_iload (pc := 84) dX10_joined_84 rfl ?_
          refine tz_iconst (pc := 86) dX10_joined_86 ?_
          refine tz_icmp_ne (pc := 87) (tgt := 92) dX10_joined_87 (by decide) (by omega) (by decide) (fun h_87 => ?_) (fun h_87 => ?_)
          · have hp0 := hp9.resolve_left (by omega)
            have hq0 := hq9.resolve_left (by omega)
            have hpr := hp0.rg hm
            have hqr := hq0.rg hm
            have hpt := hp0.ix hm
            have hqt := hq0.ix hm
            refine tz_aload_n (pc := 92) dX10_joined_92 rfl rfl ?_
            refine tz_fR (pc := 93) dX10_joined_93 fl_X10_46 r_145_0 ?_
            refine tz_fR (pc := 96) dX10_joined_96 fl_X10_84 r_6_1 ?_
            refine tz_aload_n (pc := 99) dX10_joined_99 rfl rfl ?_
            refine tz_iload_n (pc := 100) dX10_joined_100 rfl rfl ?_
            refine tz_cV (pc := 101) (c_uTerm hl n _ _ (by omega) (by omega)) vl_X10_68 dX10_joined_101 o_145 rfl rfl (Nat.le_of_ble_eq_true rfl) ⟨(Nat.le_of_ble_eq_true rfl), (Nat.le_of_ble_eq_true rfl)⟩ rfl rfl (Nat.le_of_ble_eq_true rfl) (Nat.le_of_ble_eq_true rfl) (fun r9 J_101 hq9 => ?_)
            obtain ⟨z_101, rfl, hz_101, rfl, rfl⟩ := hq9
            refine tz_aL (pc := 104) (z := (tm (J 148 x))) (v := (J 7 (tm (J 148 x)))) dX10_joined_104 a_7 rfl (by omega) rfl (fun r_104 => ?_)
            refine tz_aload_n (pc := 105) dX10_joined_105 rfl rfl ?_
            refine tz_fR (pc := 106) dX10_joined_106 fl_X10_46 r_145_0 ?_
            refine tz_fR (pc := 109) dX10_joined_109 fl_X10_84 r_6_1 ?_
            refine tz_aload_n (pc := 112) dX10_joined_112 rfl rfl ?_
            refine tz_iload (pc := 113) dX10_joined_113 rfl ?_
            refine tz_cV (pc := 115) (c_uTerm hl n _ _ (by omega) (by omega)) vl_X10_68 dX10_joined_115 o_145 rfl rfl (Nat.le_of_ble_eq_true rfl) ⟨(Nat.le_of_ble_eq_true rfl), (Nat.le_of_ble_eq_true rfl)⟩ rfl rfl (Nat.le_of_ble_eq_true rfl) (Nat.le_of_ble_eq_true rfl) (fun r9 J_115 hq9 => ?_)
            obtain ⟨z_115, rfl, hz_115, rfl, rfl⟩ := hq9
            refine tz_aL (pc := 118) (z := (tm (J 148 y))) (v := (J 7 (tm (J 148 y)))) dX10_joined_118 a_7 rfl (by omega) rfl (fun r_118 => ?_)
            refine tz_icmp_eq (pc := 119) (tgt := 124) dX10_joined_119 (by decide) (by omega) (by omega) (fun h_119 => ?_) (fun h_119 => ?_)
            · refine tz_iconst (pc := 124) dX10_joined_124 ?_
              refine tz_istore (pc := 125) (L2 := [_, _, _, _, _, _]) dX10_joined_125 (by decide) rfl ?_
              have loop127 : ∀ (f9 : Nat) (i : Int) (J1 : zJ), ((3 - i).toNat) < f9 → (0 ≤ i ∧ i ≤ J 8 (tm (J 148 x))) → (UW J1 J b m) → (PI J1 b m) → (zOf (zbut [145, 147, 148, 149, 151, 152]) J1 J) → (zOf (zbut [145, 151, 152]) J1 (zup (zup J 147 y x) 148 x (J 148 x)) ∧ J1 145 10 = J 145 10) → (J 145 11 ≤ 2398 → PRX J1 J i (J 148 x) (J 148 y)) → tz_At l G M_X10_joined (tb_rm 2 0 0) none (tb_ZM G 0 0 (zQ n 0 (zqi (fun z J' => (UW J' J b m ∧ PI J' b m ∧ (z = 0 ∨ z = 1) ∧ zOf (zbut [145, 147, 148, 149, 151, 152]) J' J) ∧ UJN c m J J' x y z))) (zX n 0 zN)) 0 0 n J1 127 [some (.ref 145), some (zi x), some (zi y), some (zi (J 148 x)), some (zi (J 148 y)), some (zi i)] [] := by
                intro f9
                induction f9 with
                | zero => intro i J1 hm9; exact absurd hm9 (Nat.not_lt_zero _)
                | succ f9 ih127 =>
                  intro i J1 hm127 hi hw hP1 fr gr px
                  have he := C.arh hpt hqt (by omega)
                  have ha8 := C.ar hpt.1 hpt.2
                  have e8 := congrFun (fr 8 rfl) (tm (J 148 x))
                  have e8q := congrFun (fr 8 rfl) (tm (J 148 y))
                  refine tz_iload (pc := 127) dX10_joined_127 rfl ?_
                  refine tz_aload_n (pc := 129) dX10_joined_129 rfl rfl ?_
                  refine tz_fR (pc := 130) dX10_joined_130 fl_X10_46 r_145_0 ?_
                  refine tz_fR (pc := 133) dX10_joined_133 fl_X10_90 r_6_2 ?_
                  refine tz_aload_n (pc := 136) dX10_joined_136 rfl rfl ?_
                  refine tz_iload_n (pc := 137) dX10_joined_137 rfl rfl ?_
                  refine tz_cV (pc := 138) (c_uTerm hl n _ _ (by omega) (by omega)) vl_X10_68 dX10_joined_138 o_145 rfl rfl (Nat.le_of_ble_eq_true rfl) ⟨(Nat.le_of_ble_eq_true rfl), (Nat.le_of_ble_eq_true rfl)⟩ rfl rfl (Nat.le_of_ble_eq_true rfl) (Nat.le_of_ble_eq_true rfl) (fun r9 J_138 hq9 => ?_)
                  obtain ⟨z_138, rfl, hz_138, rfl, rfl⟩ := hq9
                  refine tz_aL (pc := 141) (z := (tm (J 148 x))) (v := (J 8 (tm (J 148 x)))) dX10_joined_141 a_8 rfl (by omega) (Eq.trans (congrFun (fr 8 rfl) (tm (J 148 x))) rfl) (fun r_141 => ?_)
                  refine tz_icmp_ge (pc := 142) (tgt := 170) dX10_joined_142 (by decide) (by omega) (by omega) (fun h_142 => ?_) (fun h_142 => ?_)
                  · refine tz_iconst (pc := 170) dX10_joined_170 ?_
                    exact tz_zret (pc := 171) (z := 1) dX10_joined_171 rfl (Or.inr rfl) (Nat.le_of_ble_eq_true rfl) (Nat.le_of_ble_eq_true rfl) ⟨Nat.le_refl _, Nat.le_add_right _ _⟩ ⟨_, rfl, (by decide), ⟨⟨hw, hP1, by omega, fr⟩, Or.inr ⟨by omega, (vlk (J' := (zup (zup J 147 y x) 148 x (J 148 x))) (v := J 148 x) (w := J 149 x) ⟨hxv, ax⟩ ⟨hyv, ay⟩ (by omega) (by rw [if_neg (show ¬ J 148 x = -1 by omega)]) (fun q8 q9 => by omega) rfl rfl rfl rfl rfl (fun _ => rfl) (fun _ => rfl) (zsel (f := J 149))).of (vS.of gr.2 (gr.1 7 rfl) (fun c hc => gr.1 c (by simp [zbut]; omega))), Or.inr ⟨by omega, by omega, Or.inr ⟨rfl, by omega, fun q9 => by have p9 := px q9; rw [show i = J 8 (tm (J 148 x)) by omega] at p9; exact p9⟩⟩⟩⟩⟩
                  · refine tz_aload_n (pc := 145) dX10_joined_145 rfl rfl ?_
                    refine tz_aload_n (pc := 146) dX10_joined_146 rfl rfl ?_
                    refine tz_iload_n (pc := 147) dX10_joined_147 rfl rfl ?_
                    refine tz_iload (pc := 148) dX10_joined_148 rfl ?_
                    refine tz_cV (pc := 150) (u_part hl n _ _ _ (by omega) (by omega) b m (C.of (fun c hc => fr c (by simp [zbut]; omega))) hp0 (by rw [fr 8 rfl]; omega)) vl_X10_93 dX10_joined_150 o_145 rfl rfl (Nat.le_of_ble_eq_true rfl) ⟨(Nat.le_of_ble_eq_true rfl), (Nat.le_of_ble_eq_true rfl)⟩ rfl rfl (Nat.le_of_ble_eq_true rfl) (Nat.le_of_ble_eq_true rfl) (fun r9 J_150 hq9 => ?_)
                    obtain ⟨z_150, rfl, hz_150, rfl, hn_150, hx_150⟩ := hq9
                    have hy_150 : z_150 = J 9 (tm (J 148 x) * 3 + i) + sd (J 148 x) := by rw [← hx_150, fr 9 rfl]
                    refine tz_aload_n (pc := 153) dX10_joined_153 rfl rfl ?_
                    refine tz_iload (pc := 154) dX10_joined_154 rfl ?_
                    refine tz_iload (pc := 156) dX10_joined_156 rfl ?_
                    refine tz_cV (pc := 158) (u_part hl n _ _ _ (by omega) (by omega) b m (C.of (fun c hc => fr c (by simp [zbut]; omega))) hq0 (by rw [fr 8 rfl]; omega)) vl_X10_93 dX10_joined_158 o_145 rfl rfl (Nat.le_of_ble_eq_true rfl) ⟨(Nat.le_of_ble_eq_true rfl), (Nat.le_of_ble_eq_true rfl)⟩ rfl rfl (Nat.le_of_ble_eq_true rfl) (Nat.le_of_ble_eq_true rfl) (fun r9 J_158 hq9 => ?_)
                    obtain ⟨z_158, rfl, hz_158, rfl, hn_158, hx_158⟩ := hq9
                    have hy_158 : z_158 = J 9 (tm (J 148 y) * 3 + i) + sd (J 148 y) := by rw [← hx_158, fr 9 rfl]
                    refine tz_cV (pc := 161) (u_addPair hl n _ _ _ (by omega) (by omega) b m hP1 hn_150 hn_158) vl_X10_50 dX10_joined_161 o_145 rfl rfl (Nat.le_of_ble_eq_true rfl) ⟨(Nat.le_of_ble_eq_true rfl), (Nat.le_of_ble_eq_true rfl)⟩ rfl rfl (Nat.le_of_ble_eq_true rfl) (Nat.le_of_ble_eq_true rfl) (fun r9 J_161 hq9 => ?_)
                    obtain ⟨rfl, ⟨k1, k2, k3⟩, k4⟩ := hq9
                    refine tz_iinc (pc := 164) (z := i + 1) (L2 := [_, _, _, _, _, _]) dX10_joined_164 rfl (by omega) rfl ?_
                    refine tz_goto (pc := 167) (tgt := 127) dX10_joined_167 (by decide) ?_
                    exact ih127 (i + 1) _ (by omega) (by omega) (hw.of (Int.le_refl _) k2 (fun c hc => k3 c (by simp [zbut]; omega))) k1 ((k3.mono (fun c hc => by simp [zbut] at hc ⊢; omega)).tr fr) ⟨k3.tr gr.1, k2.trans gr.2⟩ (fun q9 => (px q9).push hi.1 (k4 (by have p9 := (px q9).1; omega)) hy_150 hy_158)
              exact loop127 _ 0 _ (Nat.lt_succ_self _) (by have := C.ar hpt.1 hpt.2; omega) (UW.p8 (UW.p7 (UW.rf hU) hx ax) (by first | exact hq9 | exact hp9)) (hP.of rfl rfl rfl) (zOf.up rfl (zOf.up rfl zOf.rf)) ⟨zOf.rf, rfl⟩ (fun _ => ⟨(Int.add_zero _).symm, fun _ _ => ⟨rfl, rfl⟩, fun i a c => by omega⟩)
            · refine tz_iconst (pc := 122) dX10_joined_122 ?_
              exact tz_zret (pc := 123) (z := 0) dX10_joined_123 rfl (Or.inl rfl) (Nat.le_of_ble_eq_true rfl) (Nat.le_of_ble_eq_true rfl) ⟨Nat.le_refl _, Nat.le_add_right _ _⟩ ⟨_, rfl, (by decide), ⟨⟨(UW.p8 (UW.p7 (UW.rf hU) hx ax) (by first | exact hq9 | exact hp9)), hP.of rfl rfl rfl, by omega, (zOf.up rfl (zOf.up rfl zOf.rf))⟩, Or.inr ⟨by omega, (vlk (J' := (zup (zup J 147 y x) 148 x (J 148 x))) (v := J 148 x) (w := J 149 x) ⟨hxv, ax⟩ ⟨hyv, ay⟩ (by omega) (by rw [if_neg (show ¬ J 148 x = -1 by omega)]) (fun q8 q9 => by omega) rfl rfl rfl rfl rfl (fun _ => rfl) (fun _ => rfl) (zsel (f := J 149))), Or.inr ⟨by omega, by omega, Or.inl ⟨rfl, by omega⟩⟩⟩⟩⟩
          · refine tz_iconst (pc := 90) dX10_joined_90 ?_
            exact tz_zret (pc := 91) (z := 1) dX10_joined_91 rfl (Or.inr rfl) (Nat.le_of_ble_eq_true rfl) (Nat.le_of_ble_eq_true rfl) ⟨Nat.le_refl _, Nat.le_add_right _ _⟩ ⟨_, rfl, (by decide), ⟨⟨(UW.p8 (UW.p7 (UW.rf hU) hx ax) (by first | exact hq9 | exact hp9)), hP.of rfl rfl rfl, by omega, (zOf.up rfl (zOf.up rfl zOf.rf))⟩, Or.inr ⟨by omega, (vlk (J' := (zup (zup J 147 y x) 148 x (J 148 x))) (v := J 148 x) (w := J 149 x) ⟨hxv, ax⟩ ⟨hyv, ay⟩ (by omega) (by rw [if_neg (show ¬ J 148 x = -1 by omega)]) (fun q8 q9 => by omega) rfl rfl rfl rfl rfl (fun _ => rfl) (fun _ => rfl) (zsel (f := J 149))), Or.inl ⟨by omega, rfl, rfl, rfl, rfl⟩⟩⟩⟩
      · refine tz_iload (pc := 51) dX10_joined_51 rfl ?_
        refine tz_iconst (pc := 53) dX10_joined_53 ?_
        refine tz_icmp_ne (pc := 54) (tgt := 79) dX10_joined_54 (by decide) (by omega) (by decide) (fun h_54 => ?_) (fun h_54 => ?_)
        · refine tz_iload_n (pc := 79) dX10_joined_79 rfl rfl ?_
          refine tz_iconst (pc := 80) dX10_joined_80 ?_
          refine tz_icmp_eq (pc := 81) (tgt := 90) dX10_joined_81 (by decide) (by omega) (by decide) (fun h_81 => ?_) (fun h_81 => ?_)
          · refine tz_iconst (pc := 90) dX10_joined_90 ?_
            exact tz_zret (pc := 91) (z := 1) dX10_joined_91 rfl (Or.inr rfl) (Nat.le_of_ble_eq_true rfl) (Nat.le_of_ble_eq_true rfl) ⟨Nat.le_refl _, Nat.le_add_right _ _⟩ ⟨_, rfl, (by decide), ⟨⟨(UW.p8 (UW.p7 (UW.rf hU) hx ax) (by first | exact hq9 | exact hp9)), hP.of rfl rfl rfl, by omega, (zOf.up rfl (zOf.up rfl zOf.rf))⟩, Or.inr ⟨by omega, (vlk (J' := (zup (zup J 147 y x) 148 x (J 148 x))) (v := J 148 x) (w := J 149 x) ⟨hxv, ax⟩ ⟨hyv, ay⟩ (by omega) (by rw [if_neg (show ¬ J 148 x = -1 by omega)]) (fun q8 q9 => by omega) rfl rfl rfl rfl rfl (fun _ => rfl) (fun _ => rfl) (zsel (f := J 149))), Or.inl ⟨by omega, rfl, rfl, rfl, rfl⟩⟩⟩⟩
          · refine tz_iload (pc := 84) dX10_joined_84 rfl ?_
            refine tz_iconst (pc := 86) dX10_joined_86 ?_
            refine tz_icmp_ne (pc := 87) (tgt := 92) dX10_joined_87 (by decide) (by omega) (by decide) (fun h_87 => ?_) (fun h_87 => ?_)
            · have hp0 := hp9.resolve_left (by omega)
              have hq0 := hq9.resolve_left (by omega)
              have hpr := hp0.rg hm
              have hqr := hq0.rg hm
              have hpt := hp0.ix hm
              have hqt := hq0.ix hm
              refine tz_aload_n (pc := 92) dX10_joined_92 rfl rfl ?_
              refine tz_fR (pc := 93) dX10_joined_93 fl_X10_46 r_145_0 ?_
              refine tz_fR (pc := 96) dX10_joined_96 fl_X10_84 r_6_1 ?_
              refine tz_aload_n (pc := 99) dX10_joined_99 rfl rfl ?_
              refine tz_iload_n (pc := 100) dX10_joined_100 rfl rfl ?_
              refine tz_cV (pc := 101) (c_uTerm hl n _ _ (by omega) (by omega)) vl_X10_68 dX10_joined_101 o_145 rfl rfl (Nat.le_of_ble_eq_true rfl) ⟨(Nat.le_of_ble_eq_true rfl), (Nat.le_of_ble_eq_true rfl)⟩ rfl rfl (Nat.le_of_ble_eq_true rfl) (Nat.le_of_ble_eq_true rfl) (fun r9 J_101 hq9 => ?_)
              obtain ⟨z_101, rfl, hz_101, rfl, rfl⟩ := hq9
              refine tz_aL (pc := 104) (z := (tm (J 148 x))) (v := (J 7 (tm (J 148 x)))) dX10_joined_104 a_7 rfl (by omega) rfl (fun r_104 => ?_)
              refine tz_aload_n (pc := 105) dX10_joined_105 rfl rfl ?_
              refine tz_fR (pc := 106) dX10_joined_106 fl_X10_46 r_145_0 ?_
              refine tz_fR (pc := 109) dX10_joined_109 fl_X10_84 r_6_1 ?_
              refine tz_aload_n (pc := 112) dX10_joined_112 rfl rfl ?_
              refine tz_iload (pc := 113) dX10_joined_113 rfl ?_
              refine tz_cV (pc := 115) (c_uTerm hl n _ _ (by omega) (by omega)) vl_X10_68 dX10_joined_115 o_145 rfl rfl (Nat.le_of_ble_eq_true rfl) ⟨(Nat.le_of_ble_eq_true rfl), (Nat.le_of_ble_eq_true rfl)⟩ rfl rfl (Nat.le_of_ble_eq_true rfl) (Nat.le_of_ble_eq_true rfl) (fun r9 J_115 hq9 => ?_)
              obtain ⟨z_115, rfl, hz_115, rfl, rfl⟩ := hq9
              refine tz_aL (pc := 118) (z := (tm (J 148 y))) (v := (J 7 (tm (J 148 y)))) dX10_joined_118 a_7 rfl (by omega) rfl (fun r_118 => ?_)
              refine tz_icmp_eq (pc := 119) (tgt := 124) dX10_joined_119 (by decide) (by omega) (by omega) (fun h_119 => ?_) (fun h_119 => ?_)
              · refine tz_iconst (pc := 124) dX10_joined_124 ?_
                refine tz_istore (pc := 125) (L2 := [_, _, _, _, _, _]) dX10_joined_125 (by decide) rfl ?_
                have loop127 : ∀ (f9 : Nat) (i : Int) (J1 : zJ), ((3 - i).toNat) < f9 → (0 ≤ i ∧ i ≤ J 8 (tm (J 148 x))) → (UW J1 J b m) → (PI J1 b m) → (zOf (zbut [145, 147, 148, 149, 151, 152]) J1 J) → (zOf (zbut [145, 151, 152]) J1 (zup (zup J 147 y x) 148 x (J 148 x)) ∧ J1 145 10 = J 145 10) → (J 145 11 ≤ 2398 → PRX J1 J i (J 148 x) (J 148 y)) → tz_At l G M_X10_joined (tb_rm 2 0 0) none (tb_ZM G 0 0 (zQ n 0 (zqi (fun z J' => (UW J' J b m ∧ PI J' b m ∧ (z = 0 ∨ z = 1) ∧ zOf (zbut [145, 147, 148, 149, 151, 152]) J' J) ∧ UJN c m J J' x y z))) (zX n 0 zN)) 0 0 n J1 127 [some (.ref 145), some (zi x), some (zi y), some (zi (J 148 x)), some (zi (J 148 y)), some (zi i)] [] := by
                  intro f9
                  induction f9 with
                  | zero => intro i J1 hm9; exact absurd hm9 (Nat.not_lt_zero _)
                  | succ f9 ih127 =>
                    intro i J1 hm127 hi hw hP1 fr gr px
                    have he := C.arh hpt hqt (by omega)
                    have ha8 := C.ar hpt.1 hpt.2
                    have e8 := congrFun (fr 8 rfl) (tm (J 148 x))
                    have e8q := congrFun (fr 8 rfl) (tm (J 148 y))
                    refine tz_iload (pc := 127) dX10_joined_127 rfl ?_
                    refine tz_aload_n (pc := 129) dX10_joined_129 rfl rfl ?_
                    refine tz_fR (pc := 130) dX10_joined_130 fl_X10_46 r_145_0 ?_
                    refine tz_fR (pc := 133) dX10_joined_133 fl_X10_90 r_6_2 ?_
                    refine tz_aload_n (pc := 136) dX10_joined_136 rfl rfl ?_
                    refine tz_iload_n (pc := 137) dX10_joined_137 rfl rfl ?_
                    refine tz_cV (pc := 138) (c_uTerm hl n _ _ (by omega) (by omega)) vl_X10_68 dX10_joined_138 o_145 rfl rfl (Nat.le_of_ble_eq_true rfl) ⟨(Nat.le_of_ble_eq_true rfl), (Nat.le_of_ble_eq_true rfl)⟩ rfl rfl (Nat.le_of_ble_eq_true rfl) (Nat.le_of_ble_eq_true rfl) (fun r9 J_138 hq9 => ?_)
                    obtain ⟨z_138, rfl, hz_138, rfl, rfl⟩ := hq9
                    refine tz_aL (pc := 141) (z := (tm (J 148 x))) (v := (J 8 (tm (J 148 x)))) dX10_joined_141 a_8 rfl (by omega) (Eq.trans (congrFun (fr 8 rfl) (tm (J 148 x))) rfl) (fun r_141 => ?_)
                    refine tz_icmp_ge (pc := 142) (tgt := 170) dX10_joined_142 (by decide) (by omega) (by omega) (fun h_142 => ?_) (fun h_142 => ?_)
                    · refine tz_iconst (pc := 170) dX10_joined_170 ?_
                      exact tz_zret (pc := 171) (z := 1) dX10_joined_171 rfl (Or.inr rfl) (Nat.le_of_ble_eq_true rfl) (Nat.le_of_ble_eq_true rfl) ⟨Nat.le_refl _, Nat.le_add_right _ _⟩ ⟨_, rfl, (by decide), ⟨⟨hw, hP1, by omega, fr⟩, Or.inr ⟨by omega, (vlk (J' := (zup (zup J 147 y x) 148 x (J 148 x))) (v := J 148 x) (w := J 149 x) ⟨hxv, ax⟩ ⟨hyv, ay⟩ (by omega) (by rw [if_neg (show ¬ J 148 x = -1 by omega)]) (fun q8 q9 => by omega) rfl rfl rfl rfl rfl (fun _ => rfl) (fun _ => rfl) (zsel (f := J 149))).of (vS.of gr.2 (gr.1 7 rfl) (fun c hc => gr.1 c (by simp [zbut]; omega))), Or.inr ⟨by omega, by omega, Or.inr ⟨rfl, by omega, fun q9 => by have p9 := px q9; rw [show i = J 8 (tm (J 148 x)) by omega] at p9; exact p9⟩⟩⟩⟩⟩
                    · refine tz_aload_n (pc := 145) dX10_joined_145 rfl rfl ?_
                      refine tz_aload_n (pc := 146) dX10_joined_146 rfl rfl ?_
                      refine tz_iload_n (pc := 147) dX10_joined_147 rfl rfl ?_
                      refine tz_iload (pc := 148) dX10_joined_148 rfl ?_
                      refine tz_cV (pc := 150) (u_part hl n _ _ _ (by omega) (by omega) b m (C.of (fun c hc => fr c (by simp [zbut]; omega))) hp0 (by rw [fr 8 rfl]; omega)) vl_X10_93 dX10_joined_150 o_145 rfl rfl (Nat.le_of_ble_eq_true rfl) ⟨(Nat.le_of_ble_eq_true rfl), (Nat.le_of_ble_eq_true rfl)⟩ rfl rfl (Nat.le_of_ble_eq_true rfl) (Nat.le_of_ble_eq_true rfl) (fun r9 J_150 hq9 => ?_)
                      obtain ⟨z_150, rfl, hz_150, rfl, hn_150, hx_150⟩ := hq9
                      have hy_150 : z_150 = J 9 (tm (J 148 x) * 3 + i) + sd (J 148 x) := by rw [← hx_150, fr 9 rfl]
                      refine tz_aload_n (pc := 153) dX10_joined_153 rfl rfl ?_
                      refine tz_iload (pc := 154) dX10_joined_154 rfl ?_
                      refine tz_iload (pc := 156) dX10_joined_156 rfl ?_
                      refine tz_cV (pc := 158) (u_part hl n _ _ _ (by omega) (by omega) b m (C.of (fun c hc => fr c (by simp [zbut]; omega))) hq0 (by rw [fr 8 rfl]; omega)) vl_X10_93 dX10_joined_158 o_145 rfl rfl (Nat.le_of_ble_eq_true rfl) ⟨(Nat.le_of_ble_eq_true rfl), (Nat.le_of_ble_eq_true rfl)⟩ rfl rfl (Nat.le_of_ble_eq_true rfl) (Nat.le_of_ble_eq_true rfl) (fun r9 J_158 hq9 => ?_)
                      obtain ⟨z_158, rfl, hz_158, rfl, hn_158, hx_158⟩ := hq9
                      have hy_158 : z_158 = J 9 (tm (J 148 y) * 3 + i) + sd (J 148 y) := by rw [← hx_158, fr 9 rfl]
                      refine tz_cV (pc := 161) (u_addPair hl n _ _ _ (by omega) (by omega) b m hP1 hn_150 hn_158) vl_X10_50 dX10_joined_161 o_145 rfl rfl (Nat.le_of_ble_eq_true rfl) ⟨(Nat.le_of_ble_eq_true rfl), (Nat.le_of_ble_eq_true rfl)⟩ rfl rfl (Nat.le_of_ble_eq_true rfl) (Nat.le_of_ble_eq_true rfl) (fun r9 J_161 hq9 => ?_)
                      obtain ⟨rfl, ⟨k1, k2, k3⟩, k4⟩ := hq9
                      refine tz_iinc (pc := 164) (z := i + 1) (L2 := [_, _, _, _, _, _]) dX10_joined_164 rfl (by omega) rfl ?_
                      refine tz_goto (pc := 167) (tgt := 127) dX10_joined_167 (by decide) ?_
                      exact ih127 (i + 1) _ (by omega) (by omega) (hw.of (Int.le_refl _) k2 (fun c hc => k3 c (by simp [zbut]; omega))) k1 ((k3.mono (fun c hc => by simp [zbut] at hc ⊢; omega)).tr fr) ⟨k3.tr gr.1, k2.trans gr.2⟩ (fun q9 => (px q9).push hi.1 (k4 (by have p9 := (px q9).1; omega)) hy_150 hy_158)
                exact loop127 _ 0 _ (Nat.lt_succ_self _) (by have := C.ar hpt.1 hpt.2; omega) (UW.p8 (UW.p7 (UW.rf hU) hx ax) (by first | exact hq9 | exact hp9)) (hP.of rfl rfl rfl) (zOf.up rfl (zOf.up rfl zOf.rf)) ⟨zOf.rf, rfl⟩ (fun _ => ⟨(Int.add_zero _).symm, fun _ _ => ⟨rfl, rfl⟩, fun i a c => by omega⟩)
              · refine tz_iconst (pc := 122) dX10_joined_122 ?_
                exact tz_zret (pc := 123) (z := 0) dX10_joined_123 rfl (Or.inl rfl) (Nat.le_of_ble_eq_true rfl) (Nat.le_of_ble_eq_true rfl) ⟨Nat.le_refl _, Nat.le_add_right _ _⟩ ⟨_, rfl, (by decide), ⟨⟨(UW.p8 (UW.p7 (UW.rf hU) hx ax) (by first | exact hq9 | exact hp9)), hP.of rfl rfl rfl, by omega, (zOf.up rfl (zOf.up rfl zOf.rf))⟩, Or.inr ⟨by omega, (vlk (J' := (zup (zup J 147 y x) 148 x (J 148 x))) (v := J 148 x) (w := J 149 x) ⟨hxv, ax⟩ ⟨hyv, ay⟩ (by omega) (by rw [if_neg (show ¬ J 148 x = -1 by omega)]) (fun q8 q9 => by omega) rfl rfl rfl rfl rfl (fun _ => rfl) (fun _ => rfl) (zsel (f := J 149))), Or.inr ⟨by omega, by omega, Or.inl ⟨rfl, by omega⟩⟩⟩⟩⟩
            · refine tz_iconst (pc := 90) dX10_joined_90 ?_
              exact tz_zret (pc := 91) (z := 1) dX10_joined_91 rfl (Or.inr rfl) (Nat.le_of_ble_eq_true rfl) (Nat.le_of_ble_eq_true rfl) ⟨Nat.le_refl _, Nat.le_add_right _ _⟩ ⟨_, rfl, (by decide), ⟨⟨(UW.p8 (UW.p7 (UW.rf hU) hx ax) (by first | exact hq9 | exact hp9)), hP.of rfl rfl rfl, by omega, (zOf.up rfl (zOf.up rfl zOf.rf))⟩, Or.inr ⟨by omega, (vlk (J' := (zup (zup J 147 y x) 148 x (J 148 x))) (v := J 148 x) (w := J 149 x) ⟨hxv, ax⟩ ⟨hyv, ay⟩ (by omega) (by rw [if_neg (show ¬ J 148 x = -1 by omega)]) (fun q8 q9 => by omega) rfl rfl rfl rfl rfl (fun _ => rfl) (fun _ => rfl) (zsel (f := J 149))), Or.inl ⟨by omega, rfl, rfl, rfl, rfl⟩⟩⟩⟩
        · refine tz_aload_n (pc := 57) dX10_joined_57 rfl rfl ?_
          refine tz_fR (pc := 58) dX10_joined_58 fl_X10_21 r_145_4 ?_
          refine tz_iload_n (pc := 61) dX10_joined_61 rfl rfl ?_
          refine tz_aload_n (pc := 62) dX10_joined_62 rfl rfl ?_
          refine tz_aload_n (pc := 63) dX10_joined_63 rfl rfl ?_
          refine tz_fR (pc := 64) dX10_joined_64 fl_X10_21 r_145_4 ?_
          refine tz_iload_n (pc := 67) dX10_joined_67 rfl rfl ?_
          refine tz_aL (pc := 68) (z := x) (v := (J 149 x)) dX10_joined_68 a_149 rfl (by omega) rfl (fun r_68 => ?_)
          refine tz_aload_n (pc := 69) dX10_joined_69 rfl rfl ?_
          refine tz_fR (pc := 70) dX10_joined_70 fl_X10_21 r_145_4 ?_
          refine tz_iload_n (pc := 73) dX10_joined_73 rfl rfl ?_
          refine tz_aL (pc := 74) (z := y) (v := (J 149 y)) dX10_joined_74 a_149 rfl (by omega) rfl (fun r_74 => ?_)
          refine tz_cV (pc := 75) (u_lesser hl n _ _ _ (by omega) (by omega) b m hm ux.2.2.2.1 uy.2.2.2.1 (h7x (by omega)) (h7y (by omega))) vl_X10_87 dX10_joined_75 o_145 rfl rfl (Nat.le_of_ble_eq_true rfl) ⟨(Nat.le_of_ble_eq_true rfl), (Nat.le_of_ble_eq_true rfl)⟩ rfl rfl (Nat.le_of_ble_eq_true rfl) (Nat.le_of_ble_eq_true rfl) (fun r9 J_75 hq9 => ?_)
          obtain ⟨zl9, rfl, hz_75, rfl, hlz, hlw⟩ := hq9
          have hl9 : nd b m zl9 := by rcases hlz with e | e <;> rw [e] <;> first | exact ux.2.2.2.1 | exact uy.2.2.2.1
          have hl8 := hl9.rg hm
          refine tz_aS (pc := 78) (z := x) dX10_joined_78 a_149 rfl (by omega) (by omega) ?_
          refine tz_iload_n (pc := 79) dX10_joined_79 rfl rfl ?_
          refine tz_iconst (pc := 80) dX10_joined_80 ?_
          refine tz_icmp_eq (pc := 81) (tgt := 90) dX10_joined_81 (by decide) (by omega) (by decide) (fun h_81 => ?_) (fun h_81 => ?_)
          · refine tz_iconst (pc := 90) dX10_joined_90 ?_
            exact tz_zret (pc := 91) (z := 1) dX10_joined_91 rfl (Or.inr rfl) (Nat.le_of_ble_eq_true rfl) (Nat.le_of_ble_eq_true rfl) ⟨Nat.le_refl _, Nat.le_add_right _ _⟩ ⟨_, rfl, (by decide), ⟨⟨(UW.p9 (UW.p8 (UW.p7 (UW.rf hU) hx ax) (by first | exact hq9 | exact hp9)) hl9), hP.of rfl rfl rfl, by omega, (zOf.up rfl (zOf.up rfl (zOf.up rfl zOf.rf)))⟩, Or.inr ⟨by omega, (vlk (J' := (zup (zup (zup J 147 y x) 148 x (J 148 x)) 149 x zl9)) (v := J 148 x) (w := zl9) ⟨hxv, ax⟩ ⟨hyv, ay⟩ (by omega) (by rw [if_neg (show ¬ J 148 x = -1 by omega)]) (fun _ _ => hlw) rfl rfl rfl rfl rfl (fun _ => rfl) (fun _ => rfl) (fun _ => rfl)), Or.inl ⟨by omega, rfl, rfl, rfl, rfl⟩⟩⟩⟩
          · refine tz_iload (pc := 84) dX10_joined_84 rfl ?_
            refine tz_iconst (pc := 86) dX10_joined_86 ?_
            refine tz_icmp_ne (pc := 87) (tgt := 92) dX10_joined_87 (by decide) (by omega) (by decide) (fun h_87 => ?_) (fun h_87 => ?_)
            · have hp0 := hp9.resolve_left (by omega)
              have hq0 := hq9.resolve_left (by omega)
              have hpr := hp0.rg hm
              have hqr := hq0.rg hm
              have hpt := hp0.ix hm
              have hqt := hq0.ix hm
              refine tz_aload_n (pc := 92) dX10_joined_92 rfl rfl ?_
              refine tz_fR (pc := 93) dX10_joined_93 fl_X10_46 r_145_0 ?_
              refine tz_fR (pc := 96) dX10_joined_96 fl_X10_84 r_6_1 ?_
              refine tz_aload_n (pc := 99) dX10_joined_99 rfl rfl ?_
              refine tz_iload_n (pc := 100) dX10_joined_100 rfl rfl ?_
              refine tz_cV (pc := 101) (c_uTerm hl n _ _ (by omega) (by omega)) vl_X10_68 dX10_joined_101 o_145 rfl rfl (Nat.le_of_ble_eq_true rfl) ⟨(Nat.le_of_ble_eq_true rfl), (Nat.le_of_ble_eq_true rfl)⟩ rfl rfl (Nat.le_of_ble_eq_true rfl) (Nat.le_of_ble_eq_true rfl) (fun r9 J_101 hq9 => ?_)
              obtain ⟨z_101, rfl, hz_101, rfl, rfl⟩ := hq9
              refine tz_aL (pc := 104) (z := (tm (J 148 x))) (v := (J 7 (tm (J 148 x)))) dX10_joined_104 a_7 rfl (by omega) rfl (fun r_104 => ?_)
              refine tz_aload_n (pc := 105) dX10_joined_105 rfl rfl ?_
              refine tz_fR (pc := 106) dX10_joined_106 fl_X10_46 r_145_0 ?_
              refine tz_fR (pc := 109) dX10_joined_109 fl_X10_84 r_6_1 ?_
              refine tz_aload_n (pc := 112) dX10_joined_112 rfl rfl ?_
              refine tz_iload (pc := 113) dX10_joined_113 rfl ?_
              refine tz_cV (pc := 115) (c_uTerm hl n _ _ (by omega) (by omega)) vl_X10_68 dX10_joined_115 o_145 rfl rfl (Nat.le_of_ble_eq_true rfl) ⟨(Nat.le_of_ble_eq_true rfl), (Nat.le_of_ble_eq_true rfl)⟩ rfl rfl (Nat.le_of_ble_eq_true rfl) (Nat.le_of_ble_eq_true rfl) (fun r9 J_115 hq9 => ?_)
              obtain ⟨z_115, rfl, hz_115, rfl, rfl⟩ := hq9
              refine tz_aL (pc := 118) (z := (tm (J 148 y))) (v := (J 7 (tm (J 148 y)))) dX10_joined_118 a_7 rfl (by omega) rfl (fun r_118 => ?_)
              refine tz_icmp_eq (pc := 119) (tgt := 124) dX10_joined_119 (by decide) (by omega) (by omega) (fun h_119 => ?_) (fun h_119 => ?_)
              · refine tz_iconst (pc := 124) dX10_joined_124 ?_
                refine tz_istore (pc := 125) (L2 := [_, _, _, _, _, _]) dX10_joined_125 (by decide) rfl ?_
                have loop127 : ∀ (f9 : Nat) (i : Int) (J1 : zJ), ((3 - i).toNat) < f9 → (0 ≤ i ∧ i ≤ J 8 (tm (J 148 x))) → (UW J1 J b m) → (PI J1 b m) → (zOf (zbut [145, 147, 148, 149, 151, 152]) J1 J) → (zOf (zbut [145, 151, 152]) J1 (zup (zup (zup J 147 y x) 148 x (J 148 x)) 149 x zl9) ∧ J1 145 10 = J 145 10) → (J 145 11 ≤ 2398 → PRX J1 J i (J 148 x) (J 148 y)) → tz_At l G M_X10_joined (tb_rm 2 0 0) none (tb_ZM G 0 0 (zQ n 0 (zqi (fun z J' => (UW J' J b m ∧ PI J' b m ∧ (z = 0 ∨ z = 1) ∧ zOf (zbut [145, 147, 148, 149, 151, 152]) J' J) ∧ UJN c m J J' x y z))) (zX n 0 zN)) 0 0 n J1 127 [some (.ref 145), some (zi x), some (zi y), some (zi (J 148 x)), some (zi (J 148 y)), some (zi i)] [] := by
                  intro f9
                  induction f9 with
                  | zero => intro i J1 hm9; exact absurd hm9 (Nat.not_lt_zero _)
                  | succ f9 ih127 =>
                    intro i J1 hm127 hi hw hP1 fr gr px
                    have he := C.arh hpt hqt (by omega)
                    have ha8 := C.ar hpt.1 hpt.2
                    have e8 := congrFun (fr 8 rfl) (tm (J 148 x))
                    have e8q := congrFun (fr 8 rfl) (tm (J 148 y))
                    refine tz_iload (pc := 127) dX10_joined_127 rfl ?_
                    refine tz_aload_n (pc := 129) dX10_joined_129 rfl rfl ?_
                    refine tz_fR (pc := 130) dX10_joined_130 fl_X10_46 r_145_0 ?_
                    refine tz_fR (pc := 133) dX10_joined_133 fl_X10_90 r_6_2 ?_
                    refine tz_aload_n (pc := 136) dX10_joined_136 rfl rfl ?_
                    refine tz_iload_n (pc := 137) dX10_joined_137 rfl rfl ?_
                    refine tz_cV (pc := 138) (c_uTerm hl n _ _ (by omega) (by omega)) vl_X10_68 dX10_joined_138 o_145 rfl rfl (Nat.le_of_ble_eq_true rfl) ⟨(Nat.le_of_ble_eq_true rfl), (Nat.le_of_ble_eq_true rfl)⟩ rfl rfl (Nat.le_of_ble_eq_true rfl) (Nat.le_of_ble_eq_true rfl) (fun r9 J_138 hq9 => ?_)
                    obtain ⟨z_138, rfl, hz_138, rfl, rfl⟩ := hq9
                    refine tz_aL (pc := 141) (z := (tm (J 148 x))) (v := (J 8 (tm (J 148 x)))) dX10_joined_141 a_8 rfl (by omega) (Eq.trans (congrFun (fr 8 rfl) (tm (J 148 x))) rfl) (fun r_141 => ?_)
                    refine tz_icmp_ge (pc := 142) (tgt := 170) dX10_joined_142 (by decide) (by omega) (by omega) (fun h_142 => ?_) (fun h_142 => ?_)
                    · refine tz_iconst (pc := 170) dX10_joined_170 ?_
                      exact tz_zret (pc := 171) (z := 1) dX10_joined_171 rfl (Or.inr rfl) (Nat.le_of_ble_eq_true rfl) (Nat.le_of_ble_eq_true rfl) ⟨Nat.le_refl _, Nat.le_add_right _ _⟩ ⟨_, rfl, (by decide), ⟨⟨hw, hP1, by omega, fr⟩, Or.inr ⟨by omega, (vlk (J' := (zup (zup (zup J 147 y x) 148 x (J 148 x)) 149 x zl9)) (v := J 148 x) (w := zl9) ⟨hxv, ax⟩ ⟨hyv, ay⟩ (by omega) (by rw [if_neg (show ¬ J 148 x = -1 by omega)]) (fun _ _ => hlw) rfl rfl rfl rfl rfl (fun _ => rfl) (fun _ => rfl) (fun _ => rfl)).of (vS.of gr.2 (gr.1 7 rfl) (fun c hc => gr.1 c (by simp [zbut]; omega))), Or.inr ⟨by omega, by omega, Or.inr ⟨rfl, by omega, fun q9 => by have p9 := px q9; rw [show i = J 8 (tm (J 148 x)) by omega] at p9; exact p9⟩⟩⟩⟩⟩
                    · refine tz_aload_n (pc := 145) dX10_joined_145 rfl rfl ?_
                      refine tz_aload_n (pc := 146) dX10_joined_146 rfl rfl ?_
                      refine tz_iload_n (pc := 147) dX10_joined_147 rfl rfl ?_
                      refine tz_iload (pc := 148) dX10_joined_148 rfl ?_
                      refine tz_cV (pc := 150) (u_part hl n _ _ _ (by omega) (by omega) b m (C.of (fun c hc => fr c (by simp [zbut]; omega))) hp0 (by rw [fr 8 rfl]; omega)) vl_X10_93 dX10_joined_150 o_145 rfl rfl (Nat.le_of_ble_eq_true rfl) ⟨(Nat.le_of_ble_eq_true rfl), (Nat.le_of_ble_eq_true rfl)⟩ rfl rfl (Nat.le_of_ble_eq_true rfl) (Nat.le_of_ble_eq_true rfl) (fun r9 J_150 hq9 => ?_)
                      obtain ⟨z_150, rfl, hz_150, rfl, hn_150, hx_150⟩ := hq9
                      have hy_150 : z_150 = J 9 (tm (J 148 x) * 3 + i) + sd (J 148 x) := by rw [← hx_150, fr 9 rfl]
                      refine tz_aload_n (pc := 153) dX10_joined_153 rfl rfl ?_
                      refine tz_iload (pc := 154) dX10_joined_154 rfl ?_
                      refine tz_iload (pc := 156) dX10_joined_156 rfl ?_
                      refine tz_cV (pc := 158) (u_part hl n _ _ _ (by omega) (by omega) b m (C.of (fun c hc => fr c (by simp [zbut]; omega))) hq0 (by rw [fr 8 rfl]; omega)) vl_X10_93 dX10_joined_158 o_145 rfl rfl (Nat.le_of_ble_eq_true rfl) ⟨(Nat.le_of_ble_eq_true rfl), (Nat.le_of_ble_eq_true rfl)⟩ rfl rfl (Nat.le_of_ble_eq_true rfl) (Nat.le_of_ble_eq_true rfl) (fun r9 J_158 hq9 => ?_)
                      obtain ⟨z_158, rfl, hz_158, rfl, hn_158, hx_158⟩ := hq9
                      have hy_158 : z_158 = J 9 (tm (J 148 y) * 3 + i) + sd (J 148 y) := by rw [← hx_158, fr 9 rfl]
                      refine tz_cV (pc := 161) (u_addPair hl n _ _ _ (by omega) (by omega) b m hP1 hn_150 hn_158) vl_X10_50 dX10_joined_161 o_145 rfl rfl (Nat.le_of_ble_eq_true rfl) ⟨(Nat.le_of_ble_eq_true rfl), (Nat.le_of_ble_eq_true rfl)⟩ rfl rfl (Nat.le_of_ble_eq_true rfl) (Nat.le_of_ble_eq_true rfl) (fun r9 J_161 hq9 => ?_)
                      obtain ⟨rfl, ⟨k1, k2, k3⟩, k4⟩ := hq9
                      refine tz_iinc (pc := 164) (z := i + 1) (L2 := [_, _, _, _, _, _]) dX10_joined_164 rfl (by omega) rfl ?_
                      refine tz_goto (pc := 167) (tgt := 127) dX10_joined_167 (by decide) ?_
                      exact ih127 (i + 1) _ (by omega) (by omega) (hw.of (Int.le_refl _) k2 (fun c hc => k3 c (by simp [zbut]; omega))) k1 ((k3.mono (fun c hc => by simp [zbut] at hc ⊢; omega)).tr fr) ⟨k3.tr gr.1, k2.trans gr.2⟩ (fun q9 => (px q9).push hi.1 (k4 (by have p9 := (px q9).1; omega)) hy_150 hy_158)
                exact loop127 _ 0 _ (Nat.lt_succ_self _) (by have := C.ar hpt.1 hpt.2; omega) (UW.p9 (UW.p8 (UW.p7 (UW.rf hU) hx ax) (by first | exact hq9 | exact hp9)) hl9) (hP.of rfl rfl rfl) (zOf.up rfl (zOf.up rfl (zOf.up rfl zOf.rf))) ⟨zOf.rf, rfl⟩ (fun _ => ⟨(Int.add_zero _).symm, fun _ _ => ⟨rfl, rfl⟩, fun i a c => by omega⟩)
              · refine tz_iconst (pc := 122) dX10_joined_122 ?_
                exact tz_zret (pc := 123) (z := 0) dX10_joined_123 rfl (Or.inl rfl) (Nat.le_of_ble_eq_true rfl) (Nat.le_of_ble_eq_true rfl) ⟨Nat.le_refl _, Nat.le_add_right _ _⟩ ⟨_, rfl, (by decide), ⟨⟨(UW.p9 (UW.p8 (UW.p7 (UW.rf hU) hx ax) (by first | exact hq9 | exact hp9)) hl9), hP.of rfl rfl rfl, by omega, (zOf.up rfl (zOf.up rfl (zOf.up rfl zOf.rf)))⟩, Or.inr ⟨by omega, (vlk (J' := (zup (zup (zup J 147 y x) 148 x (J 148 x)) 149 x zl9)) (v := J 148 x) (w := zl9) ⟨hxv, ax⟩ ⟨hyv, ay⟩ (by omega) (by rw [if_neg (show ¬ J 148 x = -1 by omega)]) (fun _ _ => hlw) rfl rfl rfl rfl rfl (fun _ => rfl) (fun _ => rfl) (fun _ => rfl)), Or.inr ⟨by omega, by omega, Or.inl ⟨rfl, by omega⟩⟩⟩⟩⟩
            · refine tz_iconst (pc := 90) dX10_joined_90 ?_
              exact tz_zret (pc := 91) (z := 1) dX10_joined_91 rfl (Or.inr rfl) (Nat.le_of_ble_eq_true rfl) (Nat.le_of_ble_eq_true rfl) ⟨Nat.le_refl _, Nat.le_add_right _ _⟩ ⟨_, rfl, (by decide), ⟨⟨(UW.p9 (UW.p8 (UW.p7 (UW.rf hU) hx ax) (by first | exact hq9 | exact hp9)) hl9), hP.of rfl rfl rfl, by omega, (zOf.up rfl (zOf.up rfl (zOf.up rfl zOf.rf)))⟩, Or.inr ⟨by omega, (vlk (J' := (zup (zup (zup J 147 y x) 148 x (J 148 x)) 149 x zl9)) (v := J 148 x) (w := zl9) ⟨hxv, ax⟩ ⟨hyv, ay⟩ (by omega) (by rw [if_neg (show ¬ J 148 x = -1 by omega)]) (fun _ _ => hlw) rfl rfl rfl rfl rfl (fun _ => rfl) (fun _ => rfl) (fun _ => rfl)), Or.inl ⟨by omega, rfl, rfl, rfl, rfl⟩⟩⟩⟩
    · refine tz_iload (pc := 39) dX10_joined_39 rfl ?_
      refine tz_goto (pc := 41) (tgt := 45) dX10_joined_41 (by decide) ?_
      refine tz_aS (pc := 45) (z := x) dX10_joined_45 a_148 rfl (by omega) (by omega) ?_
      refine tz_iload_n (pc := 46) dX10_joined_46 rfl rfl ?_
      refine tz_iconst (pc := 47) dX10_joined_47 ?_
      refine tz_icmp_ne (pc := 48) (tgt := 79) dX10_joined_48 (by decide) (by omega) (by decide) (fun h_48 => ?_) (fun h_48 => ?_)
      · refine tz_iload_n (pc := 79) dX10_joined_79 rfl rfl ?_
        refine tz_iconst (pc := 80) dX10_joined_80 ?_
        refine tz_icmp_eq (pc := 81) (tgt := 90) dX10_joined_81 (by decide) (by omega) (by decide) (fun h_81 => ?_) (fun h_81 => ?_)
        · refine tz_iconst (pc := 90) dX10_joined_90 ?_
          exact tz_zret (pc := 91) (z := 1) dX10_joined_91 rfl (Or.inr rfl) (Nat.le_of_ble_eq_true rfl) (Nat.le_of_ble_eq_true rfl) ⟨Nat.le_refl _, Nat.le_add_right _ _⟩ ⟨_, rfl, (by decide), ⟨⟨(UW.p8 (UW.p7 (UW.rf hU) hx ax) (by first | exact hq9 | exact hp9)), hP.of rfl rfl rfl, by omega, (zOf.up rfl (zOf.up rfl zOf.rf))⟩, Or.inr ⟨by omega, (vlk (J' := (zup (zup J 147 y x) 148 x (J 148 y))) (v := J 148 y) (w := J 149 x) ⟨hxv, ax⟩ ⟨hyv, ay⟩ (by omega) (by rw [if_pos (show J 148 x = -1 by omega)]) (fun q8 q9 => by omega) rfl rfl rfl rfl rfl (fun _ => rfl) (fun _ => rfl) (zsel (f := J 149))), Or.inl ⟨by omega, rfl, rfl, rfl, rfl⟩⟩⟩⟩
        · refine tz_iload (pc := 84) dX10_joined_84 rfl ?_
          refine tz_iconst (pc := 86) dX10_joined_86 ?_
          refine tz_icmp_ne (pc := 87) (tgt := 92) dX10_joined_87 (by decide) (by omega) (by decide) (fun h_87 => ?_) (fun h_87 => ?_)
          · have hp0 := hp9.resolve_left (by omega)
            have hq0 := hq9.resolve_left (by omega)
            have hpr := hp0.rg hm
            have hqr := hq0.rg hm
            have hpt := hp0.ix hm
            have hqt := hq0.ix hm
            refine tz_aload_n (pc := 92) dX10_joined_92 rfl rfl ?_
            refine tz_fR (pc := 93) dX10_joined_93 fl_X10_46 r_145_0 ?_
            refine tz_fR (pc := 96) dX10_joined_96 fl_X10_84 r_6_1 ?_
            refine tz_aload_n (pc := 99) dX10_joined_99 rfl rfl ?_
            refine tz_iload_n (pc := 100) dX10_joined_100 rfl rfl ?_
            refine tz_cV (pc := 101) (c_uTerm hl n _ _ (by omega) (by omega)) vl_X10_68 dX10_joined_101 o_145 rfl rfl (Nat.le_of_ble_eq_true rfl) ⟨(Nat.le_of_ble_eq_true rfl), (Nat.le_of_ble_eq_true rfl)⟩ rfl rfl (Nat.le_of_ble_eq_true rfl) (Nat.le_of_ble_eq_true rfl) (fun r9 J_101 hq9 => ?_)
            obtain ⟨z_101, rfl, hz_101, rfl, rfl⟩ := hq9
            refine tz_aL (pc := 104) (z := (tm (J 148 x))) (v := (J 7 (tm (J 148 x)))) dX10_joined_104 a_7 rfl (by omega) rfl (fun r_104 => ?_)
            refine tz_aload_n (pc := 105) dX10_joined_105 rfl rfl ?_
            refine tz_fR (pc := 106) dX10_joined_106 fl_X10_46 r_145_0 ?_
            refine tz_fR (pc := 109) dX10_joined_109 fl_X10_84 r_6_1 ?_
            refine tz_aload_n (pc := 112) dX10_joined_112 rfl rfl ?_
            refine tz_iload (pc := 113) dX10_joined_113 rfl ?_
            refine tz_cV (pc := 115) (c_uTerm hl n _ _ (by omega) (by omega)) vl_X10_68 dX10_joined_115 o_145 rfl rfl (Nat.le_of_ble_eq_true rfl) ⟨(Nat.le_of_ble_eq_true rfl), (Nat.le_of_ble_eq_true rfl)⟩ rfl rfl (Nat.le_of_ble_eq_true rfl) (Nat.le_of_ble_eq_true rfl) (fun r9 J_115 hq9 => ?_)
            obtain ⟨z_115, rfl, hz_115, rfl, rfl⟩ := hq9
            refine tz_aL (pc := 118) (z := (tm (J 148 y))) (v := (J 7 (tm (J 148 y)))) dX10_joined_118 a_7 rfl (by omega) rfl (fun r_118 => ?_)
            refine tz_icmp_eq (pc := 119) (tgt := 124) dX10_joined_119 (by decide) (by omega) (by omega) (fun h_119 => ?_) (fun h_119 => ?_)
            · refine tz_iconst (pc := 124) dX10_joined_124 ?_
              refine tz_istore (pc := 125) (L2 := [_, _, _, _, _, _]) dX10_joined_125 (by decide) rfl ?_
              have loop127 : ∀ (f9 : Nat) (i : Int) (J1 : zJ), ((3 - i).toNat) < f9 → (0 ≤ i ∧ i ≤ J 8 (tm (J 148 x))) → (UW J1 J b m) → (PI J1 b m) → (zOf (zbut [145, 147, 148, 149, 151, 152]) J1 J) → (zOf (zbut [145, 151, 152]) J1 (zup (zup J 147 y x) 148 x (J 148 y)) ∧ J1 145 10 = J 145 10) → (J 145 11 ≤ 2398 → PRX J1 J i (J 148 x) (J 148 y)) → tz_At l G M_X10_joined (tb_rm 2 0 0) none (tb_ZM G 0 0 (zQ n 0 (zqi (fun z J' => (UW J' J b m ∧ PI J' b m ∧ (z = 0 ∨ z = 1) ∧ zOf (zbut [145, 147, 148, 149, 151, 152]) J' J) ∧ UJN c m J J' x y z))) (zX n 0 zN)) 0 0 n J1 127 [some (.ref 145), some (zi x), some (zi y), some (zi (J 148 x)), some (zi (J 148 y)), some (zi i)] [] := by
                intro f9
                induction f9 with
                | zero => intro i J1 hm9; exact absurd hm9 (Nat.not_lt_zero _)
                | succ f9 ih127 =>
                  intro i J1 hm127 hi hw hP1 fr gr px
                  have he := C.arh hpt hqt (by omega)
                  have ha8 := C.ar hpt.1 hpt.2
                  have e8 := congrFun (fr 8 rfl) (tm (J 148 x))
                  have e8q := congrFun (fr 8 rfl) (tm (J 148 y))
                  refine tz_iload (pc := 127) dX10_joined_127 rfl ?_
                  refine tz_aload_n (pc := 129) dX10_joined_129 rfl rfl ?_
                  refine tz_fR (pc := 130) dX10_joined_130 fl_X10_46 r_145_0 ?_
                  refine tz_fR (pc := 133) dX10_joined_133 fl_X10_90 r_6_2 ?_
                  refine tz_aload_n (pc := 136) dX10_joined_136 rfl rfl ?_
                  refine tz_iload_n (pc := 137) dX10_joined_137 rfl rfl ?_
                  refine tz_cV (pc := 138) (c_uTerm hl n _ _ (by omega) (by omega)) vl_X10_68 dX10_joined_138 o_145 rfl rfl (Nat.le_of_ble_eq_true rfl) ⟨(Nat.le_of_ble_eq_true rfl), (Nat.le_of_ble_eq_true rfl)⟩ rfl rfl (Nat.le_of_ble_eq_true rfl) (Nat.le_of_ble_eq_true rfl) (fun r9 J_138 hq9 => ?_)
                  obtain ⟨z_138, rfl, hz_138, rfl, rfl⟩ := hq9
                  refine tz_aL (pc := 141) (z := (tm (J 148 x))) (v := (J 8 (tm (J 148 x)))) dX10_joined_141 a_8 rfl (by omega) (Eq.trans (congrFun (fr 8 rfl) (tm (J 148 x))) rfl) (fun r_141 => ?_)
                  refine tz_icmp_ge (pc := 142) (tgt := 170) dX10_joined_142 (by decide) (by omega) (by omega) (fun h_142 => ?_) (fun h_142 => ?_)
                  · refine tz_iconst (pc := 170) dX10_joined_170 ?_
                    exact tz_zret (pc := 171) (z := 1) dX10_joined_171 rfl (Or.inr rfl) (Nat.le_of_ble_eq_true rfl) (Nat.le_of_ble_eq_true rfl) ⟨Nat.le_refl _, Nat.le_add_right _ _⟩ ⟨_, rfl, (by decide), ⟨⟨hw, hP1, by omega, fr⟩, Or.inr ⟨by omega, (vlk (J' := (zup (zup J 147 y x) 148 x (J 148 y))) (v := J 148 y) (w := J 149 x) ⟨hxv, ax⟩ ⟨hyv, ay⟩ (by omega) (by rw [if_pos (show J 148 x = -1 by omega)]) (fun q8 q9 => by omega) rfl rfl rfl rfl rfl (fun _ => rfl) (fun _ => rfl) (zsel (f := J 149))).of (vS.of gr.2 (gr.1 7 rfl) (fun c hc => gr.1 c (by simp [zbut]; omega))), Or.inr ⟨by omega, by omega, Or.inr ⟨rfl, by omega, fun q9 => by have p9 := px q9; rw [show i = J 8 (tm (J 148 x)) by omega] at p9; exact p9⟩⟩⟩⟩⟩
                  · refine tz_aload_n (pc := 145) dX10_joined_145 rfl rfl ?_
                    refine tz_aload_n (pc := 146) dX10_joined_146 rfl rfl ?_
                    refine tz_iload_n (pc := 147) dX10_joined_147 rfl rfl ?_
                    refine tz_iload (pc := 148) dX10_joined_148 rfl ?_
                    refine tz_cV (pc := 150) (u_part hl n _ _ _ (by omega) (by omega) b m (C.of (fun c hc => fr c (by simp [zbut]; omega))) hp0 (by rw [fr 8 rfl]; omega)) vl_X10_93 dX10_joined_150 o_145 rfl rfl (Nat.le_of_ble_eq_true rfl) ⟨(Nat.le_of_ble_eq_true rfl), (Nat.le_of_ble_eq_true rfl)⟩ rfl rfl (Nat.le_of_ble_eq_true rfl) (Nat.le_of_ble_eq_true rfl) (fun r9 J_150 hq9 => ?_)
                    obtain ⟨z_150, rfl, hz_150, rfl, hn_150, hx_150⟩ := hq9
                    have hy_150 : z_150 = J 9 (tm (J 148 x) * 3 + i) + sd (J 148 x) := by rw [← hx_150, fr 9 rfl]
                    refine tz_aload_n (pc := 153) dX10_joined_153 rfl rfl ?_
                    refine tz_iload (pc := 154) dX10_joined_154 rfl ?_
                    refine tz_iload (pc := 156) dX10_joined_156 rfl ?_
                    refine tz_cV (pc := 158) (u_part hl n _ _ _ (by omega) (by omega) b m (C.of (fun c hc => fr c (by simp [zbut]; omega))) hq0 (by rw [fr 8 rfl]; omega)) vl_X10_93 dX10_joined_158 o_145 rfl rfl (Nat.le_of_ble_eq_true rfl) ⟨(Nat.le_of_ble_eq_true rfl), (Nat.le_of_ble_eq_true rfl)⟩ rfl rfl (Nat.le_of_ble_eq_true rfl) (Nat.le_of_ble_eq_true rfl) (fun r9 J_158 hq9 => ?_)
                    obtain ⟨z_158, rfl, hz_158, rfl, hn_158, hx_158⟩ := hq9
                    have hy_158 : z_158 = J 9 (tm (J 148 y) * 3 + i) + sd (J 148 y) := by rw [← hx_158, fr 9 rfl]
                    refine tz_cV (pc := 161) (u_addPair hl n _ _ _ (by omega) (by omega) b m hP1 hn_150 hn_158) vl_X10_50 dX10_joined_161 o_145 rfl rfl (Nat.le_of_ble_eq_true rfl) ⟨(Nat.le_of_ble_eq_true rfl), (Nat.le_of_ble_eq_true rfl)⟩ rfl rfl (Nat.le_of_ble_eq_true rfl) (Nat.le_of_ble_eq_true rfl) (fun r9 J_161 hq9 => ?_)
                    obtain ⟨rfl, ⟨k1, k2, k3⟩, k4⟩ := hq9
                    refine tz_iinc (pc := 164) (z := i + 1) (L2 := [_, _, _, _, _, _]) dX10_joined_164 rfl (by omega) rfl ?_
                    refine tz_goto (pc := 167) (tgt := 127) dX10_joined_167 (by decide) ?_
                    exact ih127 (i + 1) _ (by omega) (by omega) (hw.of (Int.le_refl _) k2 (fun c hc => k3 c (by simp [zbut]; omega))) k1 ((k3.mono (fun c hc => by simp [zbut] at hc ⊢; omega)).tr fr) ⟨k3.tr gr.1, k2.trans gr.2⟩ (fun q9 => (px q9).push hi.1 (k4 (by have p9 := (px q9).1; omega)) hy_150 hy_158)
              exact loop127 _ 0 _ (Nat.lt_succ_self _) (by have := C.ar hpt.1 hpt.2; omega) (UW.p8 (UW.p7 (UW.rf hU) hx ax) (by first | exact hq9 | exact hp9)) (hP.of rfl rfl rfl) (zOf.up rfl (zOf.up rfl zOf.rf)) ⟨zOf.rf, rfl⟩ (fun _ => ⟨(Int.add_zero _).symm, fun _ _ => ⟨rfl, rfl⟩, fun i a c => by omega⟩)
            · refine tz_iconst (pc := 122) dX10_joined_122 ?_
              exact tz_zret (pc := 123) (z := 0) dX10_joined_123 rfl (Or.inl rfl) (Nat.le_of_ble_eq_true rfl) (Nat.le_of_ble_eq_true rfl) ⟨Nat.le_refl _, Nat.le_add_right _ _⟩ ⟨_, rfl, (by decide), ⟨⟨(UW.p8 (UW.p7 (UW.rf hU) hx ax) (by first | exact hq9 | exact hp9)), hP.of rfl rfl rfl, by omega, (zOf.up rfl (zOf.up rfl zOf.rf))⟩, Or.inr ⟨by omega, (vlk (J' := (zup (zup J 147 y x) 148 x (J 148 y))) (v := J 148 y) (w := J 149 x) ⟨hxv, ax⟩ ⟨hyv, ay⟩ (by omega) (by rw [if_pos (show J 148 x = -1 by omega)]) (fun q8 q9 => by omega) rfl rfl rfl rfl rfl (fun _ => rfl) (fun _ => rfl) (zsel (f := J 149))), Or.inr ⟨by omega, by omega, Or.inl ⟨rfl, by omega⟩⟩⟩⟩⟩
          · refine tz_iconst (pc := 90) dX10_joined_90 ?_
            exact tz_zret (pc := 91) (z := 1) dX10_joined_91 rfl (Or.inr rfl) (Nat.le_of_ble_eq_true rfl) (Nat.le_of_ble_eq_true rfl) ⟨Nat.le_refl _, Nat.le_add_right _ _⟩ ⟨_, rfl, (by decide), ⟨⟨(UW.p8 (UW.p7 (UW.rf hU) hx ax) (by first | exact hq9 | exact hp9)), hP.of rfl rfl rfl, by omega, (zOf.up rfl (zOf.up rfl zOf.rf))⟩, Or.inr ⟨by omega, (vlk (J' := (zup (zup J 147 y x) 148 x (J 148 y))) (v := J 148 y) (w := J 149 x) ⟨hxv, ax⟩ ⟨hyv, ay⟩ (by omega) (by rw [if_pos (show J 148 x = -1 by omega)]) (fun q8 q9 => by omega) rfl rfl rfl rfl rfl (fun _ => rfl) (fun _ => rfl) (zsel (f := J 149))), Or.inl ⟨by omega, rfl, rfl, rfl, rfl⟩⟩⟩⟩
      · refine tz_iload (pc := 51) dX10_joined_51 rfl ?_
        refine tz_iconst (pc := 53) dX10_joined_53 ?_
        refine tz_icmp_ne (pc := 54) (tgt := 79) dX10_joined_54 (by decide) (by omega) (by decide) (fun h_54 => ?_) (fun h_54 => ?_)
        · refine tz_iload_n (pc := 79) dX10_joined_79 rfl rfl ?_
          refine tz_iconst (pc := 80) dX10_joined_80 ?_
          refine tz_icmp_eq (pc := 81) (tgt := 90) dX10_joined_81 (by decide) (by omega) (by decide) (fun h_81 => ?_) (fun h_81 => ?_)
          · refine tz_iconst (pc := 90) dX10_joined_90 ?_
            exact tz_zret (pc := 91) (z := 1) dX10_joined_91 rfl (Or.inr rfl) (Nat.le_of_ble_eq_true rfl) (Nat.le_of_ble_eq_true rfl) ⟨Nat.le_refl _, Nat.le_add_right _ _⟩ ⟨_, rfl, (by decide), ⟨⟨(UW.p8 (UW.p7 (UW.rf hU) hx ax) (by first | exact hq9 | exact hp9)), hP.of rfl rfl rfl, by omega, (zOf.up rfl (zOf.up rfl zOf.rf))⟩, Or.inr ⟨by omega, (vlk (J' := (zup (zup J 147 y x) 148 x (J 148 y))) (v := J 148 y) (w := J 149 x) ⟨hxv, ax⟩ ⟨hyv, ay⟩ (by omega) (by rw [if_pos (show J 148 x = -1 by omega)]) (fun q8 q9 => by omega) rfl rfl rfl rfl rfl (fun _ => rfl) (fun _ => rfl) (zsel (f := J 149))), Or.inl ⟨by omega, rfl, rfl, rfl, rfl⟩⟩⟩⟩
          · refine tz_iload (pc := 84) dX10_joined_84 rfl ?_
            refine tz_iconst (pc := 86) dX10_joined_86 ?_
            refine tz_icmp_ne (pc := 87) (tgt := 92) dX10_joined_87 (by decide) (by omega) (by decide) (fun h_87 => ?_) (fun h_87 => ?_)
            · have hp0 := hp9.resolve_left (by omega)
              have hq0 := hq9.resolve_left (by omega)
              have hpr := hp0.rg hm
              have hqr := hq0.rg hm
              have hpt := hp0.ix hm
              have hqt := hq0.ix hm
              refine tz_aload_n (pc := 92) dX10_joined_92 rfl rfl ?_
              refine tz_fR (pc := 93) dX10_joined_93 fl_X10_46 r_145_0 ?_
              refine tz_fR (pc := 96) dX10_joined_96 fl_X10_84 r_6_1 ?_
              refine tz_aload_n (pc := 99) dX10_joined_99 rfl rfl ?_
              refine tz_iload_n (pc := 100) dX10_joined_100 rfl rfl ?_
              refine tz_cV (pc := 101) (c_uTerm hl n _ _ (by omega) (by omega)) vl_X10_68 dX10_joined_101 o_145 rfl rfl (Nat.le_of_ble_eq_true rfl) ⟨(Nat.le_of_ble_eq_true rfl), (Nat.le_of_ble_eq_true rfl)⟩ rfl rfl (Nat.le_of_ble_eq_true rfl) (Nat.le_of_ble_eq_true rfl) (fun r9 J_101 hq9 => ?_)
              obtain ⟨z_101, rfl, hz_101, rfl, rfl⟩ := hq9
              refine tz_aL (pc := 104) (z := (tm (J 148 x))) (v := (J 7 (tm (J 148 x)))) dX10_joined_104 a_7 rfl (by omega) rfl (fun r_104 => ?_)
              refine tz_aload_n (pc := 105) dX10_joined_105 rfl rfl ?_
              refine tz_fR (pc := 106) dX10_joined_106 fl_X10_46 r_145_0 ?_
              refine tz_fR (pc := 109) dX10_joined_109 fl_X10_84 r_6_1 ?_
              refine tz_aload_n (pc := 112) dX10_joined_112 rfl rfl ?_
              refine tz_iload (pc := 113) dX10_joined_113 rfl ?_
              refine tz_cV (pc := 115) (c_uTerm hl n _ _ (by omega) (by omega)) vl_X10_68 dX10_joined_115 o_145 rfl rfl (Nat.le_of_ble_eq_true rfl) ⟨(Nat.le_of_ble_eq_true rfl), (Nat.le_of_ble_eq_true rfl)⟩ rfl rfl (Nat.le_of_ble_eq_true rfl) (Nat.le_of_ble_eq_true rfl) (fun r9 J_115 hq9 => ?_)
              obtain ⟨z_115, rfl, hz_115, rfl, rfl⟩ := hq9
              refine tz_aL (pc := 118) (z := (tm (J 148 y))) (v := (J 7 (tm (J 148 y)))) dX10_joined_118 a_7 rfl (by omega) rfl (fun r_118 => ?_)
              refine tz_icmp_eq (pc := 119) (tgt := 124) dX10_joined_119 (by decide) (by omega) (by omega) (fun h_119 => ?_) (fun h_119 => ?_)
              · refine tz_iconst (pc := 124) dX10_joined_124 ?_
                refine tz_istore (pc := 125) (L2 := [_, _, _, _, _, _]) dX10_joined_125 (by decide) rfl ?_
                have loop127 : ∀ (f9 : Nat) (i : Int) (J1 : zJ), ((3 - i).toNat) < f9 → (0 ≤ i ∧ i ≤ J 8 (tm (J 148 x))) → (UW J1 J b m) → (PI J1 b m) → (zOf (zbut [145, 147, 148, 149, 151, 152]) J1 J) → (zOf (zbut [145, 151, 152]) J1 (zup (zup J 147 y x) 148 x (J 148 y)) ∧ J1 145 10 = J 145 10) → (J 145 11 ≤ 2398 → PRX J1 J i (J 148 x) (J 148 y)) → tz_At l G M_X10_joined (tb_rm 2 0 0) none (tb_ZM G 0 0 (zQ n 0 (zqi (fun z J' => (UW J' J b m ∧ PI J' b m ∧ (z = 0 ∨ z = 1) ∧ zOf (zbut [145, 147, 148, 149, 151, 152]) J' J) ∧ UJN c m J J' x y z))) (zX n 0 zN)) 0 0 n J1 127 [some (.ref 145), some (zi x), some (zi y), some (zi (J 148 x)), some (zi (J 148 y)), some (zi i)] [] := by
                  intro f9
                  induction f9 with
                  | zero => intro i J1 hm9; exact absurd hm9 (Nat.not_lt_zero _)
                  | succ f9 ih127 =>
                    intro i J1 hm127 hi hw hP1 fr gr px
                    have he := C.arh hpt hqt (by omega)
                    have ha8 := C.ar hpt.1 hpt.2
                    have e8 := congrFun (fr 8 rfl) (tm (J 148 x))
                    have e8q := congrFun (fr 8 rfl) (tm (J 148 y))
                    refine tz_iload (pc := 127) dX10_joined_127 rfl ?_
                    refine tz_aload_n (pc := 129) dX10_joined_129 rfl rfl ?_
                    refine tz_fR (pc := 130) dX10_joined_130 fl_X10_46 r_145_0 ?_
                    refine tz_fR (pc := 133) dX10_joined_133 fl_X10_90 r_6_2 ?_
                    refine tz_aload_n (pc := 136) dX10_joined_136 rfl rfl ?_
                    refine tz_iload_n (pc := 137) dX10_joined_137 rfl rfl ?_
                    refine tz_cV (pc := 138) (c_uTerm hl n _ _ (by omega) (by omega)) vl_X10_68 dX10_joined_138 o_145 rfl rfl (Nat.le_of_ble_eq_true rfl) ⟨(Nat.le_of_ble_eq_true rfl), (Nat.le_of_ble_eq_true rfl)⟩ rfl rfl (Nat.le_of_ble_eq_true rfl) (Nat.le_of_ble_eq_true rfl) (fun r9 J_138 hq9 => ?_)
                    obtain ⟨z_138, rfl, hz_138, rfl, rfl⟩ := hq9
                    refine tz_aL (pc := 141) (z := (tm (J 148 x))) (v := (J 8 (tm (J 148 x)))) dX10_joined_141 a_8 rfl (by omega) (Eq.trans (congrFun (fr 8 rfl) (tm (J 148 x))) rfl) (fun r_141 => ?_)
                    refine tz_icmp_ge (pc := 142) (tgt := 170) dX10_joined_142 (by decide) (by omega) (by omega) (fun h_142 => ?_) (fun h_142 => ?_)
                    · refine tz_iconst (pc := 170) dX10_joined_170 ?_
                      exact tz_zret (pc := 171) (z := 1) dX10_joined_171 rfl (Or.inr rfl) (Nat.le_of_ble_eq_true rfl) (Nat.le_of_ble_eq_true rfl) ⟨Nat.le_refl _, Nat.le_add_right _ _⟩ ⟨_, rfl, (by decide), ⟨⟨hw, hP1, by omega, fr⟩, Or.inr ⟨by omega, (vlk (J' := (zup (zup J 147 y x) 148 x (J 148 y))) (v := J 148 y) (w := J 149 x) ⟨hxv, ax⟩ ⟨hyv, ay⟩ (by omega) (by rw [if_pos (show J 148 x = -1 by omega)]) (fun q8 q9 => by omega) rfl rfl rfl rfl rfl (fun _ => rfl) (fun _ => rfl) (zsel (f := J 149))).of (vS.of gr.2 (gr.1 7 rfl) (fun c hc => gr.1 c (by simp [zbut]; omega))), Or.inr ⟨by omega, by omega, Or.inr ⟨rfl, by omega, fun q9 => by have p9 := px q9; rw [show i = J 8 (tm (J 148 x)) by omega] at p9; exact p9⟩⟩⟩⟩⟩
                    · refine tz_aload_n (pc := 145) dX10_joined_145 rfl rfl ?_
                      refine tz_aload_n (pc := 146) dX10_joined_146 rfl rfl ?_
                      refine tz_iload_n (pc := 147) dX10_joined_147 rfl rfl ?_
                      refine tz_iload (pc := 148) dX10_joined_148 rfl ?_
                      refine tz_cV (pc := 150) (u_part hl n _ _ _ (by omega) (by omega) b m (C.of (fun c hc => fr c (by simp [zbut]; omega))) hp0 (by rw [fr 8 rfl]; omega)) vl_X10_93 dX10_joined_150 o_145 rfl rfl (Nat.le_of_ble_eq_true rfl) ⟨(Nat.le_of_ble_eq_true rfl), (Nat.le_of_ble_eq_true rfl)⟩ rfl rfl (Nat.le_of_ble_eq_true rfl) (Nat.le_of_ble_eq_true rfl) (fun r9 J_150 hq9 => ?_)
                      obtain ⟨z_150, rfl, hz_150, rfl, hn_150, hx_150⟩ := hq9
                      have hy_150 : z_150 = J 9 (tm (J 148 x) * 3 + i) + sd (J 148 x) := by rw [← hx_150, fr 9 rfl]
                      refine tz_aload_n (pc := 153) dX10_joined_153 rfl rfl ?_
                      refine tz_iload (pc := 154) dX10_joined_154 rfl ?_
                      refine tz_iload (pc := 156) dX10_joined_156 rfl ?_
                      refine tz_cV (pc := 158) (u_part hl n _ _ _ (by omega) (by omega) b m (C.of (fun c hc => fr c (by simp [zbut]; omega))) hq0 (by rw [fr 8 rfl]; omega)) vl_X10_93 dX10_joined_158 o_145 rfl rfl (Nat.le_of_ble_eq_true rfl) ⟨(Nat.le_of_ble_eq_true rfl), (Nat.le_of_ble_eq_true rfl)⟩ rfl rfl (Nat.le_of_ble_eq_true rfl) (Nat.le_of_ble_eq_true rfl) (fun r9 J_158 hq9 => ?_)
                      obtain ⟨z_158, rfl, hz_158, rfl, hn_158, hx_158⟩ := hq9
                      have hy_158 : z_158 = J 9 (tm (J 148 y) * 3 + i) + sd (J 148 y) := by rw [← hx_158, fr 9 rfl]
                      refine tz_cV (pc := 161) (u_addPair hl n _ _ _ (by omega) (by omega) b m hP1 hn_150 hn_158) vl_X10_50 dX10_joined_161 o_145 rfl rfl (Nat.le_of_ble_eq_true rfl) ⟨(Nat.le_of_ble_eq_true rfl), (Nat.le_of_ble_eq_true rfl)⟩ rfl rfl (Nat.le_of_ble_eq_true rfl) (Nat.le_of_ble_eq_true rfl) (fun r9 J_161 hq9 => ?_)
                      obtain ⟨rfl, ⟨k1, k2, k3⟩, k4⟩ := hq9
                      refine tz_iinc (pc := 164) (z := i + 1) (L2 := [_, _, _, _, _, _]) dX10_joined_164 rfl (by omega) rfl ?_
                      refine tz_goto (pc := 167) (tgt := 127) dX10_joined_167 (by decide) ?_
                      exact ih127 (i + 1) _ (by omega) (by omega) (hw.of (Int.le_refl _) k2 (fun c hc => k3 c (by simp [zbut]; omega))) k1 ((k3.mono (fun c hc => by simp [zbut] at hc ⊢; omega)).tr fr) ⟨k3.tr gr.1, k2.trans gr.2⟩ (fun q9 => (px q9).push hi.1 (k4 (by have p9 := (px q9).1; omega)) hy_150 hy_158)
                exact loop127 _ 0 _ (Nat.lt_succ_self _) (by have := C.ar hpt.1 hpt.2; omega) (UW.p8 (UW.p7 (UW.rf hU) hx ax) (by first | exact hq9 | exact hp9)) (hP.of rfl rfl rfl) (zOf.up rfl (zOf.up rfl zOf.rf)) ⟨zOf.rf, rfl⟩ (fun _ => ⟨(Int.add_zero _).symm, fun _ _ => ⟨rfl, rfl⟩, fun i a c => by omega⟩)
              · refine tz_iconst (pc := 122) dX10_joined_122 ?_
                exact tz_zret (pc := 123) (z := 0) dX10_joined_123 rfl (Or.inl rfl) (Nat.le_of_ble_eq_true rfl) (Nat.le_of_ble_eq_true rfl) ⟨Nat.le_refl _, Nat.le_add_right _ _⟩ ⟨_, rfl, (by decide), ⟨⟨(UW.p8 (UW.p7 (UW.rf hU) hx ax) (by first | exact hq9 | exact hp9)), hP.of rfl rfl rfl, by omega, (zOf.up rfl (zOf.up rfl zOf.rf))⟩, Or.inr ⟨by omega, (vlk (J' := (zup (zup J 147 y x) 148 x (J 148 y))) (v := J 148 y) (w := J 149 x) ⟨hxv, ax⟩ ⟨hyv, ay⟩ (by omega) (by rw [if_pos (show J 148 x = -1 by omega)]) (fun q8 q9 => by omega) rfl rfl rfl rfl rfl (fun _ => rfl) (fun _ => rfl) (zsel (f := J 149))), Or.inr ⟨by omega, by omega, Or.inl ⟨rfl, by omega⟩⟩⟩⟩⟩
            · refine tz_iconst (pc := 90) dX10_joined_90 ?_
              exact tz_zret (pc := 91) (z := 1) dX10_joined_91 rfl (Or.inr rfl) (Nat.le_of_ble_eq_true rfl) (Nat.le_of_ble_eq_true rfl) ⟨Nat.le_refl _, Nat.le_add_right _ _⟩ ⟨_, rfl, (by decide), ⟨⟨(UW.p8 (UW.p7 (UW.rf hU) hx ax) (by first | exact hq9 | exact hp9)), hP.of rfl rfl rfl, by omega, (zOf.up rfl (zOf.up rfl zOf.rf))⟩, Or.inr ⟨by omega, (vlk (J' := (zup (zup J 147 y x) 148 x (J 148 y))) (v := J 148 y) (w := J 149 x) ⟨hxv, ax⟩ ⟨hyv, ay⟩ (by omega) (by rw [if_pos (show J 148 x = -1 by omega)]) (fun q8 q9 => by omega) rfl rfl rfl rfl rfl (fun _ => rfl) (fun _ => rfl) (zsel (f := J 149))), Or.inl ⟨by omega, rfl, rfl, rfl, rfl⟩⟩⟩⟩
        · refine tz_aload_n (pc := 57) dX10_joined_57 rfl rfl ?_
          refine tz_fR (pc := 58) dX10_joined_58 fl_X10_21 r_145_4 ?_
          refine tz_iload_n (pc := 61) dX10_joined_61 rfl rfl ?_
          refine tz_aload_n (pc := 62) dX10_joined_62 rfl rfl ?_
          refine tz_aload_n (pc := 63) dX10_joined_63 rfl rfl ?_
          refine tz_fR (pc := 64) dX10_joined_64 fl_X10_21 r_145_4 ?_
          refine tz_iload_n (pc := 67) dX10_joined_67 rfl rfl ?_
          refine tz_aL (pc := 68) (z := x) (v := (J 149 x)) dX10_joined_68 a_149 rfl (by omega) rfl (fun r_68 => ?_)
          refine tz_aload_n (pc := 69) dX10_joined_69 rfl rfl ?_
          refine tz_fR (pc := 70) dX10_joined_70 fl_X10_21 r_145_4 ?_
          refine tz_iload_n (pc := 73) dX10_joined_73 rfl rfl ?_
          refine tz_aL (pc := 74) (z := y) (v := (J 149 y)) dX10_joined_74 a_149 rfl (by omega) rfl (fun r_74 => ?_)
          refine tz_cV (pc := 75) (u_lesser hl n _ _ _ (by omega) (by omega) b m hm ux.2.2.2.1 uy.2.2.2.1 (h7x (by omega)) (h7y (by omega))) vl_X10_87 dX10_joined_75 o_145 rfl rfl (Nat.le_of_ble_eq_true rfl) ⟨(Nat.le_of_ble_eq_true rfl), (Nat.le_of_ble_eq_true rfl)⟩ rfl rfl (Nat.le_of_ble_eq_true rfl) (Nat.le_of_ble_eq_true rfl) (fun r9 J_75 hq9 => ?_)
          obtain ⟨zl9, rfl, hz_75, rfl, hlz, hlw⟩ := hq9
          have hl9 : nd b m zl9 := by rcases hlz with e | e <;> rw [e] <;> first | exact ux.2.2.2.1 | exact uy.2.2.2.1
          have hl8 := hl9.rg hm
          refine tz_aS (pc := 78) (z := x) dX10_joined_78 a_149 rfl (by omega) (by omega) ?_
          refine tz_iload_n (pc := 79) dX10_joined_79 rfl rfl ?_
          refine tz_iconst (pc := 80) dX10_joined_80 ?_
          refine tz_icmp_eq (pc := 81) (tgt := 90) dX10_joined_81 (by decide) (by omega) (by decide) (fun h_81 => ?_) (fun h_81 => ?_)
          · refine tz_iconst (pc := 90) dX10_joined_90 ?_
            exact tz_zret (pc := 91) (z := 1) dX10_joined_91 rfl (Or.inr rfl) (Nat.le_of_ble_eq_true rfl) (Nat.le_of_ble_eq_true rfl) ⟨Nat.le_refl _, Nat.le_add_right _ _⟩ ⟨_, rfl, (by decide), ⟨⟨(UW.p9 (UW.p8 (UW.p7 (UW.rf hU) hx ax) (by first | exact hq9 | exact hp9)) hl9), hP.of rfl rfl rfl, by omega, (zOf.up rfl (zOf.up rfl (zOf.up rfl zOf.rf)))⟩, Or.inr ⟨by omega, (vlk (J' := (zup (zup (zup J 147 y x) 148 x (J 148 y)) 149 x zl9)) (v := J 148 y) (w := zl9) ⟨hxv, ax⟩ ⟨hyv, ay⟩ (by omega) (by rw [if_pos (show J 148 x = -1 by omega)]) (fun _ _ => hlw) rfl rfl rfl rfl rfl (fun _ => rfl) (fun _ => rfl) (fun _ => rfl)), Or.inl ⟨by omega, rfl, rfl, rfl, rfl⟩⟩⟩⟩
          · refine tz_iload (pc := 84) dX10_joined_84 rfl ?_
            refine tz_iconst (pc := 86) dX10_joined_86 ?_
            refine tz_icmp_ne (pc := 87) (tgt := 92) dX10_joined_87 (by decide) (by omega) (by decide) (fun h_87 => ?_) (fun h_87 => ?_)
            · have hp0 := hp9.resolve_left (by omega)
              have hq0 := hq9.resolve_left (by omega)
              have hpr := hp0.rg hm
              have hqr := hq0.rg hm
              have hpt := hp0.ix hm
              have hqt := hq0.ix hm
              refine tz_aload_n (pc := 92) dX10_joined_92 rfl rfl ?_
              refine tz_fR (pc := 93) dX10_joined_93 fl_X10_46 r_145_0 ?_
              refine tz_fR (pc := 96) dX10_joined_96 fl_X10_84 r_6_1 ?_
              refine tz_aload_n (pc := 99) dX10_joined_99 rfl rfl ?_
              refine tz_iload_n (pc := 100) dX10_joined_100 rfl rfl ?_
              refine tz_cV (pc := 101) (c_uTerm hl n _ _ (by omega) (by omega)) vl_X10_68 dX10_joined_101 o_145 rfl rfl (Nat.le_of_ble_eq_true rfl) ⟨(Nat.le_of_ble_eq_true rfl), (Nat.le_of_ble_eq_true rfl)⟩ rfl rfl (Nat.le_of_ble_eq_true rfl) (Nat.le_of_ble_eq_true rfl) (fun r9 J_101 hq9 => ?_)
              obtain ⟨z_101, rfl, hz_101, rfl, rfl⟩ := hq9
              refine tz_aL (pc := 104) (z := (tm (J 148 x))) (v := (J 7 (tm (J 148 x)))) dX10_joined_104 a_7 rfl (by omega) rfl (fun r_104 => ?_)
              refine tz_aload_n (pc := 105) dX10_joined_105 rfl rfl ?_
              refine tz_fR (pc := 106) dX10_joined_106 fl_X10_46 r_145_0 ?_
              refine tz_fR (pc := 109) dX10_joined_109 fl_X10_84 r_6_1 ?_
              refine tz_aload_n (pc := 112) dX10_joined_112 rfl rfl ?_
              refine tz_iload (pc := 113) dX10_joined_113 rfl ?_
              refine tz_cV (pc := 115) (c_uTerm hl n _ _ (by omega) (by omega)) vl_X10_68 dX10_joined_115 o_145 rfl rfl (Nat.le_of_ble_eq_true rfl) ⟨(Nat.le_of_ble_eq_true rfl), (Nat.le_of_ble_eq_true rfl)⟩ rfl rfl (Nat.le_of_ble_eq_true rfl) (Nat.le_of_ble_eq_true rfl) (fun r9 J_115 hq9 => ?_)
              obtain ⟨z_115, rfl, hz_115, rfl, rfl⟩ := hq9
              refine tz_aL (pc := 118) (z := (tm (J 148 y))) (v := (J 7 (tm (J 148 y)))) dX10_joined_118 a_7 rfl (by omega) rfl (fun r_118 => ?_)
              refine tz_icmp_eq (pc := 119) (tgt := 124) dX10_joined_119 (by decide) (by omega) (by omega) (fun h_119 => ?_) (fun h_119 => ?_)
              · refine tz_iconst (pc := 124) dX10_joined_124 ?_
                refine tz_istore (pc := 125) (L2 := [_, _, _, _, _, _]) dX10_joined_125 (by decide) rfl ?_
                have loop127 : ∀ (f9 : Nat) (i : Int) (J1 : zJ), ((3 - i).toNat) < f9 → (0 ≤ i ∧ i ≤ J 8 (tm (J 148 x))) → (UW J1 J b m) → (PI J1 b m) → (zOf (zbut [145, 147, 148, 149, 151, 152]) J1 J) → (zOf (zbut [145, 151, 152]) J1 (zup (zup (zup J 147 y x) 148 x (J 148 y)) 149 x zl9) ∧ J1 145 10 = J 145 10) → (J 145 11 ≤ 2398 → PRX J1 J i (J 148 x) (J 148 y)) → tz_At l G M_X10_joined (tb_rm 2 0 0) none (tb_ZM G 0 0 (zQ n 0 (zqi (fun z J' => (UW J' J b m ∧ PI J' b m ∧ (z = 0 ∨ z = 1) ∧ zOf (zbut [145, 147, 148, 149, 151, 152]) J' J) ∧ UJN c m J J' x y z))) (zX n 0 zN)) 0 0 n J1 127 [some (.ref 145), some (zi x), some (zi y), some (zi (J 148 x)), some (zi (J 148 y)), some (zi i)] [] := by
                  intro f9
                  induction f9 with
                  | zero => intro i J1 hm9; exact absurd hm9 (Nat.not_lt_zero _)
                  | succ f9 ih127 =>
                    intro i J1 hm127 hi hw hP1 fr gr px
                    have he := C.arh hpt hqt (by omega)
                    have ha8 := C.ar hpt.1 hpt.2
                    have e8 := congrFun (fr 8 rfl) (tm (J 148 x))
                    have e8q := congrFun (fr 8 rfl) (tm (J 148 y))
                    refine tz_iload (pc := 127) dX10_joined_127 rfl ?_
                    refine tz_aload_n (pc := 129) dX10_joined_129 rfl rfl ?_
                    refine tz_fR (pc := 130) dX10_joined_130 fl_X10_46 r_145_0 ?_
                    refine tz_fR (pc := 133) dX10_joined_133 fl_X10_90 r_6_2 ?_
                    refine tz_aload_n (pc := 136) dX10_joined_136 rfl rfl ?_
                    refine tz_iload_n (pc := 137) dX10_joined_137 rfl rfl ?_
                    refine tz_cV (pc := 138) (c_uTerm hl n _ _ (by omega) (by omega)) vl_X10_68 dX10_joined_138 o_145 rfl rfl (Nat.le_of_ble_eq_true rfl) ⟨(Nat.le_of_ble_eq_true rfl), (Nat.le_of_ble_eq_true rfl)⟩ rfl rfl (Nat.le_of_ble_eq_true rfl) (Nat.le_of_ble_eq_true rfl) (fun r9 J_138 hq9 => ?_)
                    obtain ⟨z_138, rfl, hz_138, rfl, rfl⟩ := hq9
                    refine tz_aL (pc := 141) (z := (tm (J 148 x))) (v := (J 8 (tm (J 148 x)))) dX10_joined_141 a_8 rfl (by omega) (Eq.trans (congrFun (fr 8 rfl) (tm (J 148 x))) rfl) (fun r_141 => ?_)
                    refine tz_icmp_ge (pc := 142) (tgt := 170) dX10_joined_142 (by decide) (by omega) (by omega) (fun h_142 => ?_) (fun h_142 => ?_)
                    · refine tz_iconst (pc := 170) dX10_joined_170 ?_
                      exact tz_zret (pc := 171) (z := 1) dX10_joined_171 rfl (Or.inr rfl) (Nat.le_of_ble_eq_true rfl) (Nat.le_of_ble_eq_true rfl) ⟨Nat.le_refl _, Nat.le_add_right _ _⟩ ⟨_, rfl, (by decide), ⟨⟨hw, hP1, by omega, fr⟩, Or.inr ⟨by omega, (vlk (J' := (zup (zup (zup J 147 y x) 148 x (J 148 y)) 149 x zl9)) (v := J 148 y) (w := zl9) ⟨hxv, ax⟩ ⟨hyv, ay⟩ (by omega) (by rw [if_pos (show J 148 x = -1 by omega)]) (fun _ _ => hlw) rfl rfl rfl rfl rfl (fun _ => rfl) (fun _ => rfl) (fun _ => rfl)).of (vS.of gr.2 (gr.1 7 rfl) (fun c hc => gr.1 c (by simp [zbut]; omega))), Or.inr ⟨by omega, by omega, Or.inr ⟨rfl, by omega, fun q9 => by have p9 := px q9; rw [show i = J 8 (tm (J 148 x)) by omega] at p9; exact p9⟩⟩⟩⟩⟩
                    · refine tz_aload_n (pc := 145) dX10_joined_145 rfl rfl ?_
                      refine tz_aload_n (pc := 146) dX10_joined_146 rfl rfl ?_
                      refine tz_iload_n (pc := 147) dX10_joined_147 rfl rfl ?_
                      refine tz_iload (pc := 148) dX10_joined_148 rfl ?_
                      refine tz_cV (pc := 150) (u_part hl n _ _ _ (by omega) (by omega) b m (C.of (fun c hc => fr c (by simp [zbut]; omega))) hp0 (by rw [fr 8 rfl]; omega)) vl_X10_93 dX10_joined_150 o_145 rfl rfl (Nat.le_of_ble_eq_true rfl) ⟨(Nat.le_of_ble_eq_true rfl), (Nat.le_of_ble_eq_true rfl)⟩ rfl rfl (Nat.le_of_ble_eq_true rfl) (Nat.le_of_ble_eq_true rfl) (fun r9 J_150 hq9 => ?_)
                      obtain ⟨z_150, rfl, hz_150, rfl, hn_150, hx_150⟩ := hq9
                      have hy_150 : z_150 = J 9 (tm (J 148 x) * 3 + i) + sd (J 148 x) := by rw [← hx_150, fr 9 rfl]
                      refine tz_aload_n (pc := 153) dX10_joined_153 rfl rfl ?_
                      refine tz_iload (pc := 154) dX10_joined_154 rfl ?_
                      refine tz_iload (pc := 156) dX10_joined_156 rfl ?_
                      refine tz_cV (pc := 158) (u_part hl n _ _ _ (by omega) (by omega) b m (C.of (fun c hc => fr c (by simp [zbut]; omega))) hq0 (by rw [fr 8 rfl]; omega)) vl_X10_93 dX10_joined_158 o_145 rfl rfl (Nat.le_of_ble_eq_true rfl) ⟨(Nat.le_of_ble_eq_true rfl), (Nat.le_of_ble_eq_true rfl)⟩ rfl rfl (Nat.le_of_ble_eq_true rfl) (Nat.le_of_ble_eq_true rfl) (fun r9 J_158 hq9 => ?_)
                      obtain ⟨z_158, rfl, hz_158, rfl, hn_158, hx_158⟩ := hq9
                      have hy_158 : z_158 = J 9 (tm (J 148 y) * 3 + i) + sd (J 148 y) := by rw [← hx_158, fr 9 rfl]
                      refine tz_cV (pc := 161) (u_addPair hl n _ _ _ (by omega) (by omega) b m hP1 hn_150 hn_158) vl_X10_50 dX10_joined_161 o_145 rfl rfl (Nat.le_of_ble_eq_true rfl) ⟨(Nat.le_of_ble_eq_true rfl), (Nat.le_of_ble_eq_true rfl)⟩ rfl rfl (Nat.le_of_ble_eq_true rfl) (Nat.le_of_ble_eq_true rfl) (fun r9 J_161 hq9 => ?_)
                      obtain ⟨rfl, ⟨k1, k2, k3⟩, k4⟩ := hq9
                      refine tz_iinc (pc := 164) (z := i + 1) (L2 := [_, _, _, _, _, _]) dX10_joined_164 rfl (by omega) rfl ?_
                      refine tz_goto (pc := 167) (tgt := 127) dX10_joined_167 (by decide) ?_
                      exact ih127 (i + 1) _ (by omega) (by omega) (hw.of (Int.le_refl _) k2 (fun c hc => k3 c (by simp [zbut]; omega))) k1 ((k3.mono (fun c hc => by simp [zbut] at hc ⊢; omega)).tr fr) ⟨k3.tr gr.1, k2.trans gr.2⟩ (fun q9 => (px q9).push hi.1 (k4 (by have p9 := (px q9).1; omega)) hy_150 hy_158)
                exact loop127 _ 0 _ (Nat.lt_succ_self _) (by have := C.ar hpt.1 hpt.2; omega) (UW.p9 (UW.p8 (UW.p7 (UW.rf hU) hx ax) (by first | exact hq9 | exact hp9)) hl9) (hP.of rfl rfl rfl) (zOf.up rfl (zOf.up rfl (zOf.up rfl zOf.rf))) ⟨zOf.rf, rfl⟩ (fun _ => ⟨(Int.add_zero _).symm, fun _ _ => ⟨rfl, rfl⟩, fun i a c => by omega⟩)
              · refine tz_iconst (pc := 122) dX10_joined_122 ?_
                exact tz_zret (pc := 123) (z := 0) dX10_joined_123 rfl (Or.inl rfl) (Nat.le_of_ble_eq_true rfl) (Nat.le_of_ble_eq_true rfl) ⟨Nat.le_refl _, Nat.le_add_right _ _⟩ ⟨_, rfl, (by decide), ⟨⟨(UW.p9 (UW.p8 (UW.p7 (UW.rf hU) hx ax) (by first | exact hq9 | exact hp9)) hl9), hP.of rfl rfl rfl, by omega, (zOf.up rfl (zOf.up rfl (zOf.up rfl zOf.rf)))⟩, Or.inr ⟨by omega, (vlk (J' := (zup (zup (zup J 147 y x) 148 x (J 148 y)) 149 x zl9)) (v := J 148 y) (w := zl9) ⟨hxv, ax⟩ ⟨hyv, ay⟩ (by omega) (by rw [if_pos (show J 148 x = -1 by omega)]) (fun _ _ => hlw) rfl rfl rfl rfl rfl (fun _ => rfl) (fun _ => rfl) (fun _ => rfl)), Or.inr ⟨by omega, by omega, Or.inl ⟨rfl, by omega⟩⟩⟩⟩⟩
            · refine tz_iconst (pc := 90) dX10_joined_90 ?_
              exact tz_zret (pc := 91) (z := 1) dX10_joined_91 rfl (Or.inr rfl) (Nat.le_of_ble_eq_true rfl) (Nat.le_of_ble_eq_true rfl) ⟨Nat.le_refl _, Nat.le_add_right _ _⟩ ⟨_, rfl, (by decide), ⟨⟨(UW.p9 (UW.p8 (UW.p7 (UW.rf hU) hx ax) (by first | exact hq9 | exact hp9)) hl9), hP.of rfl rfl rfl, by omega, (zOf.up rfl (zOf.up rfl (zOf.up rfl zOf.rf)))⟩, Or.inr ⟨by omega, (vlk (J' := (zup (zup (zup J 147 y x) 148 x (J 148 y)) 149 x zl9)) (v := J 148 y) (w := zl9) ⟨hxv, ax⟩ ⟨hyv, ay⟩ (by omega) (by rw [if_pos (show J 148 x = -1 by omega)]) (fun _ _ => hlw) rfl rfl rfl rfl rfl (fun _ => rfl) (fun _ => rfl) (fun _ => rfl)), Or.inl ⟨by omega, rfl, rfl, rfl, rfl⟩⟩⟩⟩
  · refine tz_iconst (pc := 5) dX10_joined_5 ?_
    exact tz_zret (pc := 6) (z := 1) dX10_joined_6 rfl (Or.inr rfl) (Nat.le_of_ble_eq_true rfl) (Nat.le_of_ble_eq_true rfl) ⟨Nat.le_refl _, Nat.le_add_right _ _⟩ ⟨_, rfl, (by decide), ⟨⟨(UW.rf hU), hP.of rfl rfl rfl, by omega, zOf.rf⟩, Or.inl ⟨by omega, rfl, rfl⟩⟩⟩

end
section
/-! ===== classes listed with their uses, and taken away ===== -/
def smI (f : Int → Int) : Nat → Int
  | 0 => 0
  | n + 1 => smI f n + f n
theorem smI_s {f : Int → Int} {n : Nat} : smI f (n + 1) = smI f n + f n := rfl
theorem smI_cg {f g : Int → Int} : ∀ (n : Nat), (∀ k : Int, 0 ≤ k → k < n → f k = g k) → smI f n = smI g n
  | 0, _ => rfl
  | n + 1, h => by rw [smI_s, smI_s, smI_cg n (fun k a b => h k a (by omega)), h n (by omega) (by omega)]
theorem smI_up {f g : Int → Int} {d v : Int} : ∀ (n : Nat), (0 ≤ d ∧ d < n) → g d = f d + v → (∀ k : Int, ¬ k = d → g k = f k) → smI g n = smI f n + v
  | 0, h, _, _ => by omega
  | n + 1, h, e, q => by
    rw [smI_s, smI_s]
    by_cases w : d = n
    · rw [smI_cg n (fun k a b => q k (by omega)), ← w, e]
      omega
    · rw [smI_up n (by omega) e q, q n (by omega)]
      omega
theorem smI_nn {f : Int → Int} : ∀ (n : Nat), (∀ k : Int, 0 ≤ f k) → 0 ≤ smI f n
  | 0, _ => Int.le_refl 0
  | n + 1, h => by
    have a := smI_nn n h
    have b := h n
    rw [smI_s]
    omega
theorem smI_ge {f : Int → Int} {d : Int} : ∀ (n : Nat), (∀ k : Int, 0 ≤ f k) → (0 ≤ d ∧ d < n) → f d ≤ smI f n
  | 0, _, h => by omega
  | n + 1, p, h => by
    have a := smI_nn n p
    have b := p n
    rw [smI_s]
    by_cases w : d = n
    · rw [w]; omega
    · have := smI_ge n p (d := d) (by omega)
      omega
theorem smI_ex {f : Int → Int} : ∀ (n : Nat), 0 < smI f n → ∃ d : Int, (0 ≤ d ∧ d < n) ∧ 0 < f d
  | 0, h => by
    have : smI f 0 = 0 := rfl
    omega
  | n + 1, h => by
    rw [smI_s] at h
    by_cases w : 0 < f n
    · exact ⟨n, by omega, w⟩
    · obtain ⟨d, a, b⟩ := smI_ex (f := f) n (by omega)
      exact ⟨d, by omega, b⟩
/-- arguments of a class, as classes -/
def nai (S : zJ) (sh : Int → Int) (d : Int) : Int := if sh d = -1 then 0 else arN S 0 0 (sh d)
def chi (S : zJ) (T sh : Int → Int) (d i : Int) : Int := T (agN S 0 (sh d) i)
def eP (S : zJ) (T sh : Int → Int) (d c i : Int) : Int := (if 0 < i ∧ 0 < nai S sh d ∧ chi S T sh d 0 = c then 1 else 0) + (if 1 < i ∧ 1 < nai S sh d ∧ chi S T sh d 1 = c then 1 else 0) + (if 2 < i ∧ 2 < nai S sh d ∧ chi S T sh d 2 = c then 1 else 0)
theorem eP_0 {S : zJ} {T sh : Int → Int} {d c : Int} : eP S T sh d c 0 = 0 := by
  unfold eP
  rw [if_neg (by omega), if_neg (by omega), if_neg (by omega)]
  rfl
theorem eP_nn {S : zJ} {T sh : Int → Int} {d c i : Int} : 0 ≤ eP S T sh d c i := by
  unfold eP
  (repeat' split) <;> omega
theorem e1_o {S : zJ} {T sh : Int → Int} {d c i j : Int} (h : ¬ j = i) : (if j < i + 1 ∧ j < nai S sh d ∧ chi S T sh d j = c then 1 else 0 : Int) = if j < i ∧ j < nai S sh d ∧ chi S T sh d j = c then 1 else 0 := by
  have : (j < i + 1) ↔ (j < i) := by omega
  simp only [this]
theorem e1_n {S : zJ} {T sh : Int → Int} {d c i : Int} (hn : i < nai S sh d) : (if i < i + 1 ∧ i < nai S sh d ∧ chi S T sh d i = c then 1 else 0 : Int) = (if i < i ∧ i < nai S sh d ∧ chi S T sh d i = c then 1 else 0) + (if chi S T sh d i = c then 1 else 0) := by
  rw [if_neg (fun q : i < i ∧ i < nai S sh d ∧ chi S T sh d i = c => by have := q.1; omega)]
  by_cases w : chi S T sh d i = c
  · rw [if_pos ⟨by omega, hn, w⟩, if_pos w]; rfl
  · rw [if_neg (fun q : i < i + 1 ∧ i < nai S sh d ∧ chi S T sh d i = c => w q.2.2), if_neg w]; rfl
theorem eP_s {S : zJ} {T sh : Int → Int} {d c i : Int} (hi : 0 ≤ i ∧ i < 3) (hn : i < nai S sh d) : eP S T sh d c (i + 1) = eP S T sh d c i + (if chi S T sh d i = c then 1 else 0) := by
  have : i = 0 ∨ i = 1 ∨ i = 2 := by omega
  unfold eP
  rcases this with rfl | rfl | rfl
  · rw [e1_n (i := 0) hn, e1_o (i := 0) (j := 1) (by decide), e1_o (i := 0) (j := 2) (by decide)]; omega
  · rw [e1_n (i := 1) hn, e1_o (i := 1) (j := 0) (by decide), e1_o (i := 1) (j := 2) (by decide)]; omega
  · rw [e1_n (i := 2) hn, e1_o (i := 2) (j := 0) (by decide), e1_o (i := 2) (j := 1) (by decide)]; omega
theorem eP_e {S : zJ} {T sh : Int → Int} {d c i : Int} (h : nai S sh d ≤ i) : eP S T sh d c i = eP S T sh d c 3 := by
  unfold eP
  have e : ∀ j : Int, j < 3 → ((j < i ∧ j < nai S sh d ∧ chi S T sh d j = c) ↔ (j < 3 ∧ j < nai S sh d ∧ chi S T sh d j = c)) := fun j hj => ⟨fun q => ⟨hj, q.2⟩, fun q => ⟨by omega, q.2⟩⟩
  simp only [e 0 (by decide), e 1 (by decide), e 2 (by decide)]
theorem eP_z {S : zJ} {T sh : Int → Int} {d c i : Int} (h : ∀ j, 0 ≤ j → j < i → j < nai S sh d → ¬ chi S T sh d j = c) : eP S T sh d c i = 0 := by
  unfold eP
  rw [if_neg (fun q => h 0 (by decide) q.1 q.2.1 q.2.2), if_neg (fun q => h 1 (by decide) q.1 q.2.1 q.2.2), if_neg (fun q => h 2 (by decide) q.1 q.2.1 q.2.2)]
  rfl
theorem eP_x {S : zJ} {T sh : Int → Int} {d c i : Int} (h : 0 < eP S T sh d c i) : ∃ j, (0 ≤ j ∧ j < i) ∧ j < nai S sh d ∧ chi S T sh d j = c := Classical.byContradiction (fun n => by
  have := eP_z (S := S) (T := T) (sh := sh) (d := d) (c := c) (i := i) (fun j a b e w => n ⟨j, ⟨a, b⟩, e, w⟩)
  omega)
theorem eP_p {S : zJ} {T sh : Int → Int} {d c j : Int} (h : 0 ≤ j ∧ j < 3) (hn : j < nai S sh d) (e : chi S T sh d j = c) : 0 < eP S T sh d c 3 := by
  have : j = 0 ∨ j = 1 ∨ j = 2 := by omega
  unfold eP
  rcases this with rfl | rfl | rfl
  · rw [if_pos ⟨by decide, hn, e⟩]; (repeat' split) <;> omega
  · rw [if_pos (show (1 : Int) < 3 ∧ _ from ⟨by decide, hn, e⟩)]; (repeat' split) <;> omega
  · rw [if_pos (show (2 : Int) < 3 ∧ _ from ⟨by decide, hn, e⟩)]; (repeat' split) <;> omega
/-- uses out of a set of classes -/
noncomputable def SUd (S : zJ) (T sh : Int → Int) (D : Int → Prop) (c : Int) : Int := smI (fun d => @ite _ (D d) (Classical.propDecidable _) (eP S T sh d c 3) 0) 800
theorem SUd_f {D : Int → Prop} {a : Int} (h : 0 ≤ a) {d : Int} : 0 ≤ @ite _ (D d) (Classical.propDecidable _) a 0 := by
  by_cases w : D d
  · rw [@if_pos _ (Classical.propDecidable _) w]; exact h
  · rw [@if_neg _ (Classical.propDecidable _) w]; exact Int.le_refl 0
theorem SUd.cg {S : zJ} {T sh : Int → Int} {D D' : Int → Prop} {c : Int} (h : ∀ d, D' d ↔ D d) : SUd S T sh D' c = SUd S T sh D c := by
  have : D' = D := funext fun d => propext (h d)
  rw [this]
theorem SUd.add {S : zJ} {T sh : Int → Int} {D D' : Int → Prop} {c d0 : Int} (h0 : 0 ≤ d0 ∧ d0 < 800) (n : ¬ D d0) (h : ∀ d, D' d ↔ D d ∨ d = d0) : SUd S T sh D' c = SUd S T sh D c + eP S T sh d0 c 3 := by
  unfold SUd
  refine smI_up 800 h0 ?_ (fun k q => ?_)
  · (try dsimp only)
    rw [@if_pos _ (Classical.propDecidable _) ((h d0).2 (Or.inr rfl)), @if_neg _ (Classical.propDecidable _) n]
    omega
  · (try dsimp only)
    by_cases w : D k
    · rw [@if_pos _ (Classical.propDecidable _) ((h k).2 (Or.inl w)), @if_pos _ (Classical.propDecidable _) w]
    · rw [@if_neg _ (Classical.propDecidable _) (fun y => w (((h k).1 y).resolve_right q)), @if_neg _ (Classical.propDecidable _) w]
theorem SUd.z {S : zJ} {T sh : Int → Int} {D : Int → Prop} {c : Int} (h : ∀ d, D d → eP S T sh d c 3 = 0) : SUd S T sh D c = 0 := by
  unfold SUd
  have e : smI (fun d => @ite _ (D d) (Classical.propDecidable _) (eP S T sh d c 3) 0) 800 = smI (fun _ => 0) 800 := smI_cg 800 (fun k _ _ => by
    by_cases w : D k
    · rw [@if_pos _ (Classical.propDecidable _) w]; exact h k w
    · rw [@if_neg _ (Classical.propDecidable _) w])
  rw [e]
  have z : ∀ n : Nat, smI (fun _ => 0) n = 0 := fun n => by
    induction n with
    | zero => rfl
    | succ n ih => rw [smI_s, ih]; rfl
  exact z 800
theorem SUd.nn {S : zJ} {T sh : Int → Int} {D : Int → Prop} {c : Int} : 0 ≤ SUd S T sh D c := smI_nn 800 (fun _ => SUd_f eP_nn)
theorem SUd.ge {S : zJ} {T sh : Int → Int} {D : Int → Prop} {c d : Int} (hd : 0 ≤ d ∧ d < 800) (w : D d) : eP S T sh d c 3 ≤ SUd S T sh D c := by
  have := smI_ge (f := fun d => @ite _ (D d) (Classical.propDecidable _) (eP S T sh d c 3) 0) (d := d) 800 (fun _ => SUd_f eP_nn) hd
  (try dsimp only at this)
  rw [@if_pos _ (Classical.propDecidable _) w] at this
  exact this
theorem SUd.ex {S : zJ} {T sh : Int → Int} {D : Int → Prop} {c : Int} (h : 0 < SUd S T sh D c) : ∃ d : Int, (0 ≤ d ∧ d < 800) ∧ D d ∧ 0 < eP S T sh d c 3 := by
  obtain ⟨d, a, b⟩ := smI_ex 800 h
  by_cases w : D d
  · rw [@if_pos _ (Classical.propDecidable _) w] at b
    exact ⟨d, a, w, b⟩
  · rw [@if_neg _ (Classical.propDecidable _) w] at b
    omega
/-- what stands in a row -/
def DLr (r : Int → Int) (f c : Int) : Prop := ∃ j, (0 ≤ j ∧ j < f) ∧ r j = c
noncomputable def cnP (D : Int → Prop) : Nat := cnt (fun c => @decide (D c) (Classical.propDecidable _)) 800
theorem cnP_lt {D D' : Int → Prop} (h : ∀ c, (0 ≤ c ∧ c < 800) → D c → D' c) (e : ∃ c, (0 ≤ c ∧ c < 800) ∧ D' c ∧ ¬ D c) : cnP D < cnP D' := by
  obtain ⟨c, hc, e1, e2⟩ := e
  exact cnt_lt 800 (fun k a b q => @decide_eq_true _ (Classical.propDecidable _) (h k ⟨a, by omega⟩ (@of_decide_eq_true _ (Classical.propDecidable _) q))) ⟨c, ⟨hc.1, by omega⟩, @decide_eq_true _ (Classical.propDecidable _) e1, @decide_eq_false _ (Classical.propDecidable _) e2⟩
theorem cnP_8 (D : Int → Prop) : cnP D ≤ 800 := cnt_n 800
theorem cnt_ad {p q : Int → Bool} {d : Int} : ∀ (n : Nat), (0 ≤ d ∧ d < n) → p d = true → q d = false → (∀ k : Int, ¬ k = d → p k = q k) → cnt p n = cnt q n + 1
  | 0, h, _, _, _ => by omega
  | n + 1, h, hp, hq, e => by
    show cnt p n + _ = cnt q n + _ + 1
    by_cases w : d = n
    · subst w
      have c : ∀ k : Nat, k ≤ n → cnt p k = cnt q k := fun k => by
        induction k with
        | zero => intro _; rfl
        | succ k ih =>
          intro hk
          show cnt p k + _ = cnt q k + _
          rw [ih (by omega), e (k : Int) (by omega)]
      rw [c n (Nat.le_refl _), if_pos hp, if_neg (by rw [hq]; decide)]
    · rw [cnt_ad n (by omega) hp hq e, e (n : Int) (by omega)]
      omega
theorem cnP_ad {D D' : Int → Prop} {d : Int} (hd : 0 ≤ d ∧ d < 800) (n : ¬ D d) (h : ∀ c, D' c ↔ D c ∨ c = d) : cnP D' = cnP D + 1 := cnt_ad 800 hd (@decide_eq_true _ (Classical.propDecidable _) ((h d).2 (Or.inr rfl))) (@decide_eq_false _ (Classical.propDecidable _) n) (fun k q => by
  by_cases w : D k
  · rw [@decide_eq_true _ (Classical.propDecidable _) w, @decide_eq_true _ (Classical.propDecidable _) ((h k).2 (Or.inl w))]
  · rw [@decide_eq_false _ (Classical.propDecidable _) w, @decide_eq_false _ (Classical.propDecidable _) (fun y => w (((h k).1 y).resolve_right q))])
theorem DLr.push {r r' : Int → Int} {f z : Int} (hf : 0 ≤ f) (e : ∀ k, r' k = if k = f then z else r k) : ∀ c, DLr r' (f + 1) c ↔ DLr r f c ∨ c = z := fun c => by
  constructor
  · rintro ⟨j, hj, q⟩
    rw [e] at q
    by_cases w : j = f
    · rw [if_pos w] at q; exact Or.inr q.symm
    · rw [if_neg w] at q; exact Or.inl ⟨j, by omega, q⟩
  · rintro (⟨j, hj, q⟩ | q)
    · exact ⟨j, by omega, by rw [e, if_neg (by omega)]; exact q⟩
    · exact ⟨f, by omega, by rw [e, if_pos rfl]; exact q.symm⟩
theorem DLr.cg {r r' : Int → Int} {f : Int} (e : ∀ k, 0 ≤ k → k < f → r' k = r k) : ∀ c, DLr r' f c ↔ DLr r f c := fun c => ⟨fun ⟨j, hj, q⟩ => ⟨j, hj, by rw [← e j hj.1 hj.2]; exact q⟩, fun ⟨j, hj, q⟩ => ⟨j, hj, by rw [e j hj.1 hj.2]; exact q⟩⟩
theorem DLr.s {r : Int → Int} {k : Int} (hk : 0 ≤ k) : ∀ c, DLr r (k + 1) c ↔ DLr r k c ∨ c = r k := fun c => DLr.push hk (fun j => by split; (next h => rw [h]); rfl) c
/-- a greatest one -/
theorem mx_ex {D : Int → Prop} {rk : Int → Nat} : ∀ (n : Nat), (∃ c : Int, (0 ≤ c ∧ c < n) ∧ D c) → ∃ c : Int, (0 ≤ c ∧ c < n) ∧ D c ∧ ∀ d : Int, (0 ≤ d ∧ d < n) → D d → rk d ≤ rk c
  | 0, ⟨c, h, _⟩ => by omega
  | n + 1, ⟨c, h, q⟩ => by
    by_cases e : ∃ c : Int, (0 ≤ c ∧ c < n) ∧ D c
    · obtain ⟨c1, h1, q1, m1⟩ := mx_ex (rk := rk) n e
      by_cases w : D n ∧ rk c1 < rk n
      · refine ⟨n, by omega, w.1, fun d hd qd => ?_⟩
        by_cases y : d = n
        · rw [y]; exact Nat.le_refl _
        · have := m1 d (by omega) qd; omega
      · refine ⟨c1, by omega, q1, fun d hd qd => ?_⟩
        by_cases y : d = n
        · rw [y] at qd ⊢
          exact Nat.le_of_not_lt (fun z => w ⟨qd, z⟩)
        · exact m1 d (by omega) qd
    · have : c = n := Classical.byContradiction (fun y => e ⟨c, by omega, q⟩)
      refine ⟨c, by omega, q, fun d hd qd => ?_⟩
      by_cases y : d = n
      · rw [y, this]; exact Nat.le_refl _
      · exact absurd ⟨d, by omega, qd⟩ e
/-- a row of unlike classes -/
def LIS (c m : Int) (T r : Int → Int) (f : Int) : Prop := (0 ≤ f ∧ f ≤ 800) ∧ (∀ j, 0 ≤ j → j < f → VN c m (r j) ∧ T (r j) = r j) ∧ (∀ i j, 0 ≤ i → i < j → j < f → ¬ r i = r j) ∧ (cnP (DLr r f) : Int) = f
theorem LIS.lt {c m f z : Int} {T r : Int → Int} (h : LIS c m T r f) (hz : 0 ≤ z ∧ z < 800) (n : ¬ DLr r f z) : f < 800 := by
  have a := cnP_lt (D := DLr r f) (D' := fun _ => True) (fun _ _ _ => trivial) ⟨z, hz, trivial, n⟩
  have b := cnP_8 (fun _ => True)
  have e := h.2.2.2
  omega
theorem LIS.push {c m f z : Int} {T r r' : Int → Int} (hc : c = 400 ∨ c = 800) (h : LIS c m T r f) (hz : VN c m z ∧ T z = z) (n : ¬ DLr r f z) (e : ∀ k, r' k = if k = f then z else r k) : LIS c m T r' (f + 1) := by
  have zb := hz.1.b hc
  have l := h.lt zb n
  obtain ⟨h1, h2, h3, h4⟩ := h
  refine ⟨by omega, fun j a b => ?_, fun i j a b d => ?_, ?_⟩
  · rw [e]
    by_cases w : j = f
    · rw [if_pos w]; exact hz
    · rw [if_neg w]; exact h2 j a (by omega)
  · rw [e, e, if_neg (by omega)]
    by_cases w : j = f
    · rw [if_pos w]; exact fun q => n ⟨i, by omega, q⟩
    · rw [if_neg w]; exact h3 i j a b (by omega)
  · have := cnP_ad zb n (DLr.push h1.1 e)
    omega
theorem LIS.cg {c m f : Int} {T r r' : Int → Int} (h : LIS c m T r f) (e : ∀ k, 0 ≤ k → k < f → r' k = r k) : LIS c m T r' f := by
  obtain ⟨h1, h2, h3, h4⟩ := h
  refine ⟨h1, fun j a b => by rw [e j a b]; exact h2 j a b, fun i j a b d => by rw [e i a (by omega), e j (by omega) d]; exact h3 i j a b d, ?_⟩
  have : DLr r' f = DLr r f := funext fun c => propext (DLr.cg e c)
  rw [this]; exact h4
/-- behind k classes and i arguments of the next one -/
def LSI (c m : Int) (S : zJ) (T sh : Int → Int) (x : Int) (r u : Int → Int) (f k i : Int) : Prop := LIS c m T r f ∧ (0 ≤ k ∧ k ≤ f) ∧ (∀ j a, 0 ≤ j → (j < k ∨ (j = k ∧ a < i)) → 0 ≤ a → a < nai S sh (r j) → DLr r f (chi S T sh (r j) a)) ∧ (∀ y, VN c m y → T y = y → (DLr r f y → u y = SUd S T sh (DLr r k) y + eP S T sh (r k) y i) ∧ (¬ DLr r f y → u y = -1)) ∧ (1 ≤ f ∧ r 0 = x) ∧ (∀ y, DLr r f y → ¬ y = x → 1 ≤ u y) ∧ ∀ (rk : Int → Nat) (P : Int → Prop), WTu (VN c m) (hdN S 0) (arN S 0 0) (agN S 0) (fun u v => T u = T v) rk P → P x → ∀ j, 0 ≤ j → j < f → P (r j)
theorem LSI.next {c m x f k i : Int} {S : zJ} {T sh r u : Int → Int} (hc : c = 400 ∨ c = 800) (h : LSI c m S T sh x r u f k i) (hk : k < f) (hi : nai S sh (r k) ≤ i) : LSI c m S T sh x r u f (k + 1) 0 := by
  obtain ⟨h1, h2, h3, h4, h5, h6, h7⟩ := h
  refine ⟨h1, by omega, fun j a p q w y => h3 j a p ((Decidable.em (j = k)).elim (fun e => Or.inr ⟨e, by rw [e] at y; omega⟩) (fun e => Or.inl (by omega))) w y, fun y hy ty => ⟨fun d => ?_, (h4 y hy ty).2⟩, h5, h6, h7⟩
  have kb := (h1.2.1 k h2.1 hk).1.b hc
  have n : ¬ DLr r k (r k) := fun ⟨j, hj, q⟩ => h1.2.2.1 j k hj.1 hj.2 hk q
  rw [(h4 y hy ty).1 d, eP_e hi, SUd.add kb n (DLr.s h2.1), eP_0]
  omega
theorem LSI.old {c m x f k i p : Int} {S : zJ} {T sh r u u' : Int → Int} (h : LSI c m S T sh x r u f k i) (hk : k < f) (hi : 0 ≤ i ∧ i < 3) (hn : i < nai S sh (r k)) (hp : p = chi S T sh (r k) i) (d : DLr r f p) (e : ∀ y, VN c m y → u' y = if y = p then u p + 1 else u y) : LSI c m S T sh x r u' f k (i + 1) := by
  obtain ⟨h1, h2, h3, h4, h5, h6, h7⟩ := h
  have hv : ∀ y, DLr r f y → VN c m y := fun y ⟨j, hj, q⟩ => by rw [← q]; exact (h1.2.1 j hj.1 hj.2).1
  refine ⟨h1, h2, fun j a q1 q2 q3 q4 => ?_, fun y hy ty => ⟨fun dy => ?_, fun ny => ?_⟩, h5, fun y dy ny => ?_, h7⟩
  · by_cases w : j = k ∧ a = i
    · rw [w.1, w.2, ← hp]; exact d
    · exact h3 j a q1 (by omega) q3 q4
  · rw [e y hy, eP_s hi hn, ← hp]
    have := (h4 y hy ty).1 dy
    by_cases w : y = p
    · rw [if_pos w, if_pos w.symm, ← w]; omega
    · rw [if_neg w, if_neg (fun q => w q.symm)]; omega
  · rw [e y hy, if_neg (fun w => ny (by rw [w]; exact d))]
    exact (h4 y hy ty).2 ny
  · have := h6 y dy ny
    rw [e y (hv y dy)]
    split
    · next w => rw [w] at this; omega
    · exact this
theorem LSI.new {c m x f k i p : Int} {S : zJ} {T sh r r' u u' lv : Int → Int} (hc : c = 400 ∨ c = 800) (h : LSI c m S T sh x r u f k i) (hk : k < f) (hi : 0 ≤ i ∧ i < 3) (hn : i < nai S sh (r k)) (hp : p = chi S T sh (r k) i) (vp : VN c m p ∧ T p = p) (hw : ∀ (rk : Int → Nat) (P : Int → Prop), WTu (VN c m) (hdN S 0) (arN S 0 0) (agN S 0) (fun u v => T u = T v) rk P → P (r k) → P p) (d : ¬ DLr r f p) (e : ∀ y, VN c m y → u' y = if y = p then 1 else u y) (er : ∀ k, r' k = if k = f then p else r k) : LSI c m S T sh x r' u' (f + 1) k (i + 1) := by
  have h1' := h.1.push hc vp d er
  obtain ⟨h1, h2, h3, h4, h5, h6, h7⟩ := h
  have f0 := h1.1.1
  have dp := DLr.push f0 er
  have rk0 : ∀ j, j < f → r' j = r j := fun j hj => by rw [er, if_neg (by omega)]
  have dk := DLr.cg (r' := r') (r := r) (f := k) (fun j a b => rk0 j (by omega))
  have hv : ∀ y, DLr r f y → VN c m y := fun y ⟨j, hj, q⟩ => by rw [← q]; exact (h1.2.1 j hj.1 hj.2).1
  refine ⟨h1', by omega, fun j a q1 q2 q3 q4 => ?_, fun y hy ty => ⟨fun dy => ?_, fun ny => ?_⟩, ⟨by omega, by rw [rk0 0 (by omega)]; exact h5.2⟩, fun y dy ny => ?_, fun rk P w px j q1 q2 => ?_⟩
  · rw [rk0 j (by omega)] at q4 ⊢
    rw [dp]
    by_cases w : j = k ∧ a = i
    · rw [w.1, w.2, ← hp]; exact Or.inr rfl
    · exact Or.inl (h3 j a q1 (by omega) q3 q4)
  · rw [e y hy, rk0 k hk, eP_s hi hn, ← hp, SUd.cg dk]
    by_cases w : y = p
    · rw [if_pos w, if_pos w.symm, w]
      have z1 : SUd S T sh (DLr r k) p = 0 := SUd.z (fun q ⟨j, hj, ej⟩ => by
        rw [← ej]
        exact eP_z (fun a a1 a2 a3 a4 => d (by rw [← a4]; exact h3 j a hj.1 (Or.inl hj.2) a1 a3)))
      have z2 : eP S T sh (r k) p i = 0 := eP_z (fun a a1 a2 a3 a4 => d (by rw [← a4]; exact h3 k a h2.1 (Or.inr ⟨rfl, a2⟩) a1 a3))
      omega
    · have := (h4 y hy ty).1 (((dp y).1 dy).resolve_right w)
      rw [if_neg w, if_neg (fun q => w q.symm)]; omega
  · rw [e y hy, if_neg (fun w => ny ((dp y).2 (Or.inr w)))]
    exact (h4 y hy ty).2 (fun w => ny ((dp y).2 (Or.inl w)))
  · by_cases w : y = p
    · rw [w, e p vp.1, if_pos rfl]; exact Int.le_refl 1
    · have dy' := ((dp y).1 dy).resolve_right w
      rw [e y (hv y dy'), if_neg w]
      exact h6 y dy' ny
  · rw [er]
    by_cases w2 : j = f
    · rw [if_pos w2]; exact hw rk P w (h7 rk P w px k h2.1 hk)
    · rw [if_neg w2]; exact h7 rk P w px j q1 (by omega)
/-- what is listed in the end -/
def LSE (c m : Int) (S : zJ) (T sh : Int → Int) (x : Int) (L : Int → Prop) (u : Int → Int) (f : Int) : Prop := ((cnP L : Int) = f ∧ 1 ≤ f ∧ L x) ∧ (∀ y, L y → VN c m y ∧ T y = y) ∧ (∀ y a, L y → 0 ≤ a → a < nai S sh y → L (chi S T sh y a)) ∧ (∀ y, L y → u y = SUd S T sh L y) ∧ (∀ y, L y → ¬ y = x → 1 ≤ u y) ∧ ∀ (rk : Int → Nat) (P : Int → Prop), WTu (VN c m) (hdN S 0) (arN S 0 0) (agN S 0) (fun u v => T u = T v) rk P → P x → ∀ y, L y → P y
theorem LSI.fin {c m x f k : Int} {S : zJ} {T sh r u : Int → Int} (h : LSI c m S T sh x r u f k 0) (hk : f ≤ k) : LSE c m S T sh x (DLr r f) u f := by
  obtain ⟨h1, h2, h3, h4, h5, h6, h7⟩ := h
  have ek : k = f := by omega
  subst ek
  refine ⟨⟨h1.2.2.2, h5.1, ⟨0, by omega, h5.2⟩⟩, fun y ⟨j, hj, e⟩ => by rw [← e]; exact h1.2.1 j hj.1 hj.2, fun y a ⟨j, hj, e⟩ a0 a1 => ?_, fun y d => ?_, h6, fun rk P w px y ⟨j, hj, e⟩ => by rw [← e]; exact h7 rk P w px j hj.1 hj.2⟩
  · rw [← e] at a1 ⊢
    exact h3 j a hj.1 (Or.inl hj.2) a0 a1
  · have q : VN c m y ∧ T y = y := d.elim (fun j ⟨hj, e⟩ => by rw [← e]; exact h1.2.1 j hj.1 hj.2)
    rw [(h4 y q.1 q.2).1 d, eP_0]
    omega
/-- behind k classes taken away, and i arguments of the next one -/
def TKI (c m : Int) (S : zJ) (T sh : Int → Int) (L : Int → Prop) (r u : Int → Int) (g k i : Int) (cur : Int) : Prop := LIS c m T r g ∧ (0 ≤ k ∧ k ≤ g) ∧ (∀ j, 0 ≤ j → j < g → L (r j)) ∧ (∀ y, L y → u y = SUd S T sh (fun d => L d ∧ ¬ DLr r (k + cur) d) y + cur * (eP S T sh (r k) y 3 - eP S T sh (r k) y i)) ∧ (∀ y, L y → (u y = 0 ↔ DLr r g y)) ∧ (∀ j d, 0 ≤ j → j < g → L d → 0 < eP S T sh d (r j) 3 → ∃ j', (0 ≤ j' ∧ j' < j) ∧ r j' = d)
theorem TKI.beg {c m g k i : Int} {S : zJ} {T sh r u : Int → Int} {L : Int → Prop} (hc : c = 400 ∨ c = 800) (h : TKI c m S T sh L r u g k i 0) (hk : k < g) : TKI c m S T sh L r u g k 0 1 := by
  obtain ⟨h1, h2, h3, h4, h5, h6⟩ := h
  refine ⟨h1, h2, h3, fun y ly => ?_, h5, h6⟩
  have kb := (h1.2.1 k h2.1 hk).1.b hc
  have e := SUd.add (S := S) (T := T) (sh := sh) (c := y) (D := fun d => L d ∧ ¬ DLr r (k + 1) d) (D' := fun d => L d ∧ ¬ DLr r (k + 0) d) kb (fun w => w.2 ⟨k, by omega, rfl⟩) (fun d => by
    rw [show k + 0 = k from by omega, DLr.s h2.1]
    constructor
    · rintro ⟨a, b⟩
      by_cases w : d = r k
      · exact Or.inr w
      · exact Or.inl ⟨a, fun q => q.elim b w⟩
    · rintro (⟨a, b⟩ | w)
      · exact ⟨a, fun q => b (Or.inl q)⟩
      · rw [w]
        exact ⟨h3 k h2.1 hk, fun ⟨j, hj, q⟩ => h1.2.2.1 j k hj.1 hj.2 hk q⟩)
  rw [h4 y ly, e, eP_0]
  omega
theorem TKI.shut {c m g k i : Int} {S : zJ} {T sh r u : Int → Int} {L : Int → Prop} (h : TKI c m S T sh L r u g k i 1) (hk : k < g) (hi : nai S sh (r k) ≤ i) : TKI c m S T sh L r u g (k + 1) 0 0 := by
  obtain ⟨h1, h2, h3, h4, h5, h6⟩ := h
  refine ⟨h1, by omega, h3, fun y ly => ?_, h5, h6⟩
  rw [h4 y ly, eP_e hi, show k + 1 + 0 = k + 1 from by omega]
  omega
theorem TKI.step {c m g k i p : Int} {S : zJ} {T sh r u u' : Int → Int} {L : Int → Prop} (h : TKI c m S T sh L r u g k i 1) (hk : k < g) (hi : 0 ≤ i ∧ i < 3) (hn : i < nai S sh (r k)) (hp : p = chi S T sh (r k) i) (lp : L p) (hV : ∀ y, L y → VN c m y) (e : ∀ y, VN c m y → u' y = if y = p then u p - 1 else u y) : (¬ DLr r g p ∧ 1 ≤ u p) ∧ (¬ u p - 1 = 0 → TKI c m S T sh L r u' g k (i + 1) 1) := by
  obtain ⟨h1, h2, h3, h4, h5, h6⟩ := h
  have s := eP_s (T := T) (c := p) hi hn
  rw [← hp, if_pos rfl] at s
  have up : 1 ≤ u p := by
    rw [h4 p lp]
    have a := SUd.nn (S := S) (T := T) (sh := sh) (D := fun d => L d ∧ ¬ DLr r (k + 1) d) (c := p)
    have b : eP S T sh (r k) p (i + 1) ≤ eP S T sh (r k) p 3 := by
      unfold eP
      (repeat' split) <;> omega
    omega
  refine ⟨⟨fun q => by have := (h5 p lp).2 q; omega, up⟩, fun nz => ⟨h1, h2, h3, fun y ly => ?_, fun y ly => ?_, h6⟩⟩
  · rw [e y (hV y ly), eP_s hi hn, ← hp]
    have := h4 y ly
    by_cases w : y = p
    · rw [if_pos w, if_pos w.symm, ← w]; omega
    · rw [if_neg w, if_neg (fun q => w q.symm)]; omega
  · rw [e y (hV y ly)]
    by_cases w : y = p
    · rw [if_pos w, w]
      exact ⟨fun q => absurd q nz, fun q => by have := (h5 p lp).2 q; omega⟩
    · rw [if_neg w]; exact h5 y ly
theorem TKI.zero {c m g k i p : Int} {S : zJ} {T sh r r' u u' : Int → Int} {L : Int → Prop} (hc : c = 400 ∨ c = 800) (h : TKI c m S T sh L r u g k i 1) (hk : k < g) (hi : 0 ≤ i ∧ i < 3) (hn : i < nai S sh (r k)) (hp : p = chi S T sh (r k) i) (lp : L p) (hV : ∀ y, L y → VN c m y ∧ T y = y) (e : ∀ y, VN c m y → u' y = if y = p then u p - 1 else u y) (z : u p - 1 = 0) (er : ∀ k, r' k = if k = g then p else r k) : TKI c m S T sh L r' u' (g + 1) k (i + 1) 1 := by
  have st := (h.step hk hi hn hp lp (fun y ly => (hV y ly).1) e).1
  obtain ⟨h1, h2, h3, h4, h5, h6⟩ := h
  have g0 := h1.1.1
  have dp := DLr.push g0 er
  have rk0 : ∀ j, j < g → r' j = r j := fun j hj => by rw [er, if_neg (by omega)]
  have dk := DLr.cg (r' := r') (r := r) (f := k + 1) (fun j a b => rk0 j (by omega))
  have s := eP_s (T := T) (c := p) hi hn
  rw [← hp, if_pos rfl] at s
  refine ⟨h1.push hc (hV p lp) st.1 er, by omega, fun j a b => ?_, fun y ly => ?_, fun y ly => ?_, fun j d a b ld q => ?_⟩
  · rw [er]
    by_cases w : j = g
    · rw [if_pos w]; exact lp
    · rw [if_neg w]; exact h3 j a (by omega)
  · rw [e y (hV y ly).1, rk0 k hk, eP_s hi hn, ← hp, SUd.cg (D' := fun d => L d ∧ ¬ DLr r' (k + 1) d) (D := fun d => L d ∧ ¬ DLr r (k + 1) d) (fun d => by rw [dk])]
    have := h4 y ly
    by_cases w : y = p
    · rw [if_pos w, if_pos w.symm, ← w]; omega
    · rw [if_neg w, if_neg (fun q => w q.symm)]; omega
  · rw [e y (hV y ly).1, dp]
    by_cases w : y = p
    · rw [if_pos w]
      exact ⟨fun _ => Or.inr w, fun _ => z⟩
    · rw [if_neg w, h5 y ly]
      exact ⟨Or.inl, fun q => q.resolve_right w⟩
  · rw [er] at q
    by_cases w : j = g
    · rw [if_pos w] at q
      have up := h4 p lp
      have a1 := SUd.nn (S := S) (T := T) (sh := sh) (D := fun d => L d ∧ ¬ DLr r (k + 1) d) (c := p)
      have b1 : eP S T sh (r k) p (i + 1) ≤ eP S T sh (r k) p 3 := by
        unfold eP
        (repeat' split) <;> omega
      by_cases y : DLr r (k + 1) d
      · obtain ⟨j', hj', ej⟩ := y
        exact ⟨j', by omega, by rw [rk0 j' (by omega)]; exact ej⟩
      · have := SUd.ge (S := S) (T := T) (sh := sh) (c := p) (D := fun d => L d ∧ ¬ DLr r (k + 1) d) ((hV d ld).1.b hc) ⟨ld, y⟩
        omega
    · rw [if_neg w] at q
      obtain ⟨j', hj', ej⟩ := h6 j d a (by omega) ld q
      exact ⟨j', hj', by rw [rk0 j' (by omega)]; exact ej⟩
end
section
/-! ===== listed and taken away: beginnings and ends ===== -/
theorem cnP_le {D D' : Int → Prop} (h : ∀ c, (0 ≤ c ∧ c < 800) → D c → D' c) : cnP D ≤ cnP D' := cnt_le 800 (fun k a b q => @decide_eq_true _ (Classical.propDecidable _) (h k ⟨a, by omega⟩ (@of_decide_eq_true _ (Classical.propDecidable _) q)))
theorem cnP_0 {D : Int → Prop} (h : ∀ c, ¬ D c) : cnP D = 0 := by
  unfold cnP
  have z : ∀ n : Nat, cnt (fun c => @decide (D c) (Classical.propDecidable _)) n = 0 := fun n => by
    induction n with
    | zero => rfl
    | succ n ih =>
      show cnt _ n + _ = 0
      rw [ih, if_neg (by show ¬ @decide (D n) (Classical.propDecidable _) = true; rw [@decide_eq_false _ (Classical.propDecidable _) (h n)]; decide)]
  exact z 800
theorem smI_le {f : Int → Int} : ∀ (n : Nat), (∀ k : Int, f k ≤ 3) → smI f n ≤ 3 * n
  | 0, _ => Int.le_refl 0
  | n + 1, h => by
    have a := smI_le n h
    have b := h n
    rw [smI_s]
    omega
theorem eP_3 {S : zJ} {T sh : Int → Int} {d c i : Int} : eP S T sh d c i ≤ 3 := by
  unfold eP
  (repeat' split) <;> omega
theorem SUd.le {S : zJ} {T sh : Int → Int} {D : Int → Prop} {c : Int} : SUd S T sh D c ≤ 2400 := smI_le 800 (fun d => by
  by_cases w : D d
  · rw [@if_pos _ (Classical.propDecidable _) w]; exact eP_3
  · rw [@if_neg _ (Classical.propDecidable _) w]; decide)
theorem LSI.start {c m x : Int} {S : zJ} {T sh r u : Int → Int} (hc : c = 400 ∨ c = 800) (hx : VN c m x ∧ T x = x) (hr : r 0 = x) (hu : ∀ y, VN c m y → u y = if y = x then 0 else -1) : LSI c m S T sh x r u 1 0 0 := by
  have l0 : LIS c m T r 0 := ⟨by omega, fun j a b => by omega, fun i j a b d => by omega, by rw [cnP_0 (fun c ⟨j, hj, _⟩ => by omega)]; rfl⟩
  have l1 := l0.push (r' := r) hc hx (fun ⟨j, hj, _⟩ => by omega) (fun k => by split; (next h => rw [h]; exact hr); rfl)
  have e0 : ∀ y, DLr r 1 y ↔ y = x := fun y => ⟨fun ⟨j, hj, e⟩ => by rw [← e, show j = 0 by omega]; exact hr, fun e => ⟨0, by omega, by rw [e]; exact hr⟩⟩
  refine ⟨l1, by omega, fun j a p q w => by omega, fun y hy ty => ⟨fun d => ?_, fun d => ?_⟩, ⟨by omega, hr⟩, fun y d n => absurd ((e0 y).1 d) n, fun rk P w px j a b => by rw [show j = 0 by omega, hr]; exact px⟩
  · rw [hu y hy, if_pos ((e0 y).1 d), eP_0, SUd.z (fun d ⟨j, hj, _⟩ => by omega)]
    rfl
  · rw [hu y hy, if_neg (fun w => d ((e0 y).2 w))]
theorem LSI.u9 {c m x f k i p : Int} {S : zJ} {T sh r u : Int → Int} (hc : c = 400 ∨ c = 800) (h : LSI c m S T sh x r u f k i) (vp : VN c m p ∧ T p = p) : (-1 ≤ u p ∧ u p ≤ 2403) ∧ (u p = -1 → ¬ DLr r f p ∧ f < 800) ∧ (¬ u p = -1 → DLr r f p) := by
  have q := h.2.2.2.1 p vp.1 vp.2
  have a := SUd.nn (S := S) (T := T) (sh := sh) (D := DLr r k) (c := p)
  have a2 := SUd.le (S := S) (T := T) (sh := sh) (D := DLr r k) (c := p)
  have b := eP_nn (S := S) (T := T) (sh := sh) (d := r k) (c := p) (i := i)
  have b2 := eP_3 (S := S) (T := T) (sh := sh) (d := r k) (c := p) (i := i)
  by_cases d : DLr r f p
  · have := q.1 d
    exact ⟨by omega, fun w => by omega, fun _ => d⟩
  · have := q.2 d
    exact ⟨by omega, fun _ => ⟨d, h.1.lt (vp.1.b hc) d⟩, fun w => absurd this w⟩
theorem TKI.s0 {c m x f : Int} {S : zJ} {T sh r u : Int → Int} {L : Int → Prop} (E : LSE c m S T sh x L u f) (n : ¬ u x = 0) : TKI c m S T sh L r u 0 0 0 0 := by
  obtain ⟨⟨e1, e2, e3⟩, e4, e5, e6, e7, e8⟩ := E
  refine ⟨⟨by omega, fun j a b => by omega, fun i j a b d => by omega, by rw [cnP_0 (fun c ⟨j, hj, _⟩ => by omega)]; rfl⟩, by omega, fun j a b => by omega, fun y ly => ?_, fun y ly => ⟨fun q => ?_, fun ⟨j, hj, _⟩ => by omega⟩, fun j d a b => by omega⟩
  · rw [e6 y ly, SUd.cg (D' := fun d => L d ∧ ¬ DLr r (0 + 0) d) (D := L) (fun d => ⟨fun q => q.1, fun q => ⟨q, fun ⟨j, hj, _⟩ => by omega⟩⟩)]
    omega
  · by_cases w : y = x
    · rw [w] at q; exact absurd q n
    · have := e7 y ly w; omega
theorem TKI.s1 {c m x f : Int} {S : zJ} {T sh r u : Int → Int} {L : Int → Prop} (hc : c = 400 ∨ c = 800) (E : LSE c m S T sh x L u f) (n : u x = 0) (hr : r 0 = x) : TKI c m S T sh L r u 1 0 0 0 := by
  obtain ⟨⟨e1, e2, e3⟩, e4, e5, e6, e7, e8⟩ := E
  have l0 : LIS c m T r 0 := ⟨by omega, fun j a b => by omega, fun i j a b d => by omega, by rw [cnP_0 (fun c ⟨j, hj, _⟩ => by omega)]; rfl⟩
  have l1 := l0.push (r' := r) hc (e4 x e3) (fun ⟨j, hj, _⟩ => by omega) (fun k => by split; (next h => rw [h]; exact hr); rfl)
  refine ⟨l1, by omega, fun j a b => by rw [show j = 0 by omega, hr]; exact e3, fun y ly => ?_, fun y ly => ⟨fun q => ?_, fun ⟨j, hj, w⟩ => ?_⟩, fun j d a b ld q => ?_⟩
  · rw [e6 y ly, SUd.cg (D' := fun d => L d ∧ ¬ DLr r (0 + 0) d) (D := L) (fun d => ⟨fun q => q.1, fun q => ⟨q, fun ⟨j, hj, _⟩ => by omega⟩⟩)]
    omega
  · by_cases w : y = x
    · exact ⟨0, by omega, by rw [w]; exact hr⟩
    · have := e7 y ly w; omega
  · rw [← w, show j = 0 by omega, hr]; exact n
  · rw [show j = 0 by omega, hr] at q
    have a := e6 x e3
    have b := SUd.ge (S := S) (T := T) (sh := sh) (c := x) ((e4 d ld).1.b hc) ld
    omega
theorem TKI.no {c m x f g k : Int} {S : zJ} {T sh r u u0 : Int → Int} {L : Int → Prop} (hc : c = 400 ∨ c = 800) (E : LSE c m S T sh x L u0 f) (h : TKI c m S T sh L r u g k 0 0) (hk : g ≤ k) (hg : g < f) (hV : ∀ x i, VN c m x → 0 ≤ hdN S 0 x → 0 ≤ i → i < arN S 0 0 x → VN c m (agN S 0 x i)) (hS : ∀ y, L y → ¬ sh y = -1 → VN c m (sh y) ∧ 0 ≤ hdN S 0 (sh y) ∧ T (sh y) = y) (h3 : ∀ x, VN c m x → arN S 0 0 x ≤ 3) : ¬ NRu (VN c m) (hdN S 0) (arN S 0 0) (agN S 0) (fun u v => T u = T v) x := by
  rintro ⟨rk, P, px, w⟩
  obtain ⟨h1, h2, _, h4, h5, h6⟩ := h
  have ek : k = g := by omega
  subst ek
  obtain ⟨⟨e1, e2, e3⟩, e4, e5, e6, e7, e8⟩ := E
  have ne : ∃ y : Int, (0 ≤ y ∧ y < (800 : Nat)) ∧ (L y ∧ ¬ DLr r k y) := Classical.byContradiction (fun n => by
    have := cnP_le (D := L) (D' := DLr r k) (fun y hy ly => Classical.byContradiction (fun q => n ⟨y, ⟨hy.1, by omega⟩, ly, q⟩))
    have := h1.2.2.2
    omega)
  obtain ⟨y, hy, ⟨ly, ny⟩, mx⟩ := mx_ex (rk := rk) 800 ne
  have u1 := h4 y ly
  have nz : ¬ u y = 0 := fun q => ny ((h5 y ly).1 q)
  have a := SUd.nn (S := S) (T := T) (sh := sh) (D := fun d => L d ∧ ¬ DLr r (k + 0) d) (c := y)
  obtain ⟨d, hd, ⟨ld, nd⟩, pd⟩ := SUd.ex (S := S) (T := T) (sh := sh) (D := fun d => L d ∧ ¬ DLr r (k + 0) d) (c := y) (by omega)
  rw [show k + 0 = k from by omega] at nd
  obtain ⟨j, hj, jn, je⟩ := eP_x pd
  have ns : ¬ sh d = -1 := fun q => by unfold nai at jn; rw [if_pos q] at jn; omega
  have jn' : j < arN S 0 0 (sh d) := by unfold nai at jn; rw [if_neg ns] at jn; exact jn
  obtain ⟨s1, s2, s3⟩ := hS d ld ns
  have vd := e4 d ld
  have vy := e4 y ly
  obtain ⟨q1, q2⟩ := w.1 d _ vd.1 s1 (vd.2.trans s3.symm) (e8 rk P w px d ld)
  obtain ⟨q3, q4⟩ := w.2 _ s1 q1 s2 j hj.1 jn'
  have va := hV _ j s1 s2 hj.1 jn'
  have q5 := (w.1 _ y va vy.1 ((show T (agN S 0 (sh d) j) = y from je).trans vy.2.symm) q3).2
  have := mx d ⟨hd.1, by omega⟩ ⟨ld, nd⟩
  omega
noncomputable def idr (r : Int → Int) (g y : Int) : Int := @dite _ (DLr r g y) (Classical.propDecidable _) (fun h => Classical.choose h) (fun _ => 0)
theorem idr_e {r : Int → Int} {g y : Int} (h : DLr r g y) : (0 ≤ idr r g y ∧ idr r g y < g) ∧ r (idr r g y) = y := by
  unfold idr
  rw [dif_pos h]
  exact Classical.choose_spec h
theorem TKI.yes {c m x f g k : Int} {S : zJ} {T sh r u u0 : Int → Int} {L : Int → Prop} (hc : c = 400 ∨ c = 800) (E : LSE c m S T sh x L u0 f) (h : TKI c m S T sh L r u g k 0 0) (hg : f ≤ g) (hV : ∀ x i, VN c m x → 0 ≤ hdN S 0 x → 0 ≤ i → i < arN S 0 0 x → VN c m (agN S 0 x i)) (hS : ∀ y, L y → ¬ sh y = -1 → VN c m (sh y) ∧ 0 ≤ hdN S 0 (sh y) ∧ T (sh y) = y) (hN : ∀ u, VN c m u → 0 ≤ hdN S 0 u → ¬ sh (T u) = -1) (hT : CGm (VN c m) (hdN S 0) (arN S 0 0) (agN S 0) T) (h3 : ∀ x, VN c m x → arN S 0 0 x ≤ 3) : NRu (VN c m) (hdN S 0) (arN S 0 0) (agN S 0) (fun u v => T u = T v) x := by
  obtain ⟨h1, h2, h30, h4, h5, h6⟩ := h
  obtain ⟨⟨e1, e2, e3⟩, e4, e5, e6, e7, e8⟩ := E
  have all : ∀ y, L y → DLr r g y := fun y ly => Classical.byContradiction (fun n => by
    have := cnP_lt (D := DLr r g) (D' := L) (fun q _ ⟨j, hj, e⟩ => by rw [← e]; exact h30 j hj.1 hj.2) ⟨y, (e4 y ly).1.b hc, ly, n⟩
    have := h1.2.2.2
    omega)
  refine ⟨fun u => (800 - idr r g (T u)).toNat, fun u => VN c m u ∧ L (T u), ⟨(e4 x e3).1, by rw [(e4 x e3).2]; exact e3⟩, fun u v _ hv e q => ⟨⟨hv, by rw [← e]; exact q.2⟩, by (try dsimp only); rw [show T u = T v from e]⟩, fun u hu q h0 i a b => ?_⟩
  have lc := q.2
  have ns := hN u hu h0
  obtain ⟨s1, s2, s3⟩ := hS _ lc ns
  obtain ⟨g1, g2⟩ := hT u _ hu s1 s3.symm h0 s2
  have ea : arN S 0 0 u = arN S 0 0 (sh (T u)) := by
    unfold arN mar
    unfold hdN at g1
    rw [g1]
  have e9 := g2 i a b
  have na : nai S sh (T u) = arN S 0 0 (sh (T u)) := by unfold nai; rw [if_neg ns]
  have lch : L (chi S T sh (T u) i) := e5 _ i lc a (by omega)
  have ech : T (agN S 0 u i) = chi S T sh (T u) i := e9
  refine ⟨⟨hV u i hu h0 a b, by rw [ech]; exact lch⟩, ?_⟩
  show (800 - idr r g (T (agN S 0 u i))).toNat < (800 - idr r g (T u)).toNat
  rw [ech]
  obtain ⟨i1, i2⟩ := idr_e (all _ lch)
  obtain ⟨j1, j2⟩ := idr_e (all _ lc)
  have i3 := h3 _ s1
  obtain ⟨j', hj', ej⟩ := h6 _ (T u) i1.1 i1.2 lc (by rw [i2]; exact eP_p (j := i) ⟨a, by omega⟩ (by omega) rfl)
  have : j' = idr r g (T u) := by
    rcases Int.lt_trichotomy j' (idr r g (T u)) with q | q | q
    · exact absurd (ej.trans j2.symm) (h1.2.2.1 _ _ hj'.1 q j1.2)
    · exact q
    · exact absurd (j2.trans ej.symm) (h1.2.2.1 _ _ j1.1 q (by omega))
  have := h1.1
  omega
/-- what is seen but for the uses -/
def vF (c m : Int) (J' J : zJ) : Prop := UFp (VN c m) (upV J') ∧ (∀ x, VN c m x → tp (upV J') x = tp (upV J) x) ∧ ∀ x, VN c m x → usV J' x = usV J x ∧ ulV J' x = ulV J x ∧ uoV J' x = uoV J x
theorem vF.rf {c m : Int} {J : zJ} (U : UFp (VN c m) (upV J)) : vF c m J J := ⟨U, fun _ _ => rfl, fun _ _ => ⟨rfl, rfl, rfl⟩⟩
theorem vE.f {c m : Int} {J3 J2 J1 : zJ} (h : vE c m J3 J2) (g : vF c m J2 J1) : vF c m J3 J1 := ⟨h.1, fun x hx => (h.2.1 x hx).trans (g.2.1 x hx), fun x hx => by
  obtain ⟨a1, a2, a3, a4⟩ := h.2.2 x hx
  obtain ⟨b1, b2, b4⟩ := g.2.2 x hx
  exact ⟨a1.trans b1, a2.trans b2, a4.trans b4⟩⟩
theorem vF.up {c m : Int} {J2 J1 J : zJ} (g : vF c m J1 J) (e : ∀ q, (q = 7 ∨ q = 145 ∨ (146 ≤ q ∧ q ≤ 150)) → J2 q = J1 q) : vF c m J2 J := by
  have e7 := e 7 (by omega)
  have e5 := e 145 (by omega)
  have p : upV J2 = upV J1 := funext fun x => by unfold upV; rw [e5, e 146 (by omega), e 147 (by omega)]
  refine ⟨by rw [p]; exact g.1, by rw [p]; exact g.2.1, fun x hx => ?_⟩
  have : usV J2 x = usV J1 x ∧ ulV J2 x = ulV J1 x ∧ uoV J2 x = uoV J1 x := by
    unfold usV ulV uoV
    rw [e7, e5, e 146 (by omega), e 148 (by omega), e 149 (by omega), e 150 (by omega)]
    exact ⟨rfl, rfl, rfl⟩
  obtain ⟨a, b, d⟩ := g.2.2 x hx
  exact ⟨this.1.trans a, this.2.1.trans b, this.2.2.trans d⟩
/-- a term's symbol, arguments, as a node -/
theorem a0_nd {J S : zJ} {b m x : Int} (E : A0 J S) (C : CT J m) (hm : J 6 12 = m) (hx : nd b m x) : arN S 0 0 x = J 8 (tm x) ∧ hdN S 0 x = J 7 (tm x) ∧ ∀ i, 0 ≤ i → i < J 8 (tm x) → agN S 0 x i = J 9 (tm x * 3 + i) + sd x := by
  have t := C.told.2
  have hr := hx.rg t
  have hi := hx.ix t
  have e := tm_m hr
  obtain ⟨a1, a2, a3⟩ := E.tm C hm hi
  unfold arN hdN agN
  rw [← e.1, ← e.2]
  exact ⟨a2, a1, fun i p q => by rw [a3 i p q]; omega⟩
end
section
/-! ===== listAll, takenAway of the class, exact ===== -/
theorem uu_up {J2 J1 : zJ} {z v : Int} (e : ∀ k, J2 154 k = if k = z then v else J1 154 k) (e6 : J2 146 = J1 146) (e0 : J2 145 10 = J1 145 10) (az : J1 146 z = J1 145 10) : ∀ y, uuV J2 y = if y = z then v else uuV J1 y := fun y => by
  unfold uuV
  rw [e6, e0, e]
  by_cases w : y = z
  · rw [if_pos w, if_pos w, w, if_pos az]
  · rw [if_neg w, if_neg w]
theorem hw_l {c m i D x0 z : Int} {S : zJ} {T : Int → Int} (dv : VN c m D ∧ T D = D) (xs : VN c m x0 ∧ 0 ≤ hdN S 0 x0 ∧ T x0 = D) (hi : 0 ≤ i ∧ i < arN S 0 0 x0) (va : VN c m (agN S 0 x0 i)) (e : T (agN S 0 x0 i) = z) (vz : VN c m z ∧ T z = z) : ∀ (rk : Int → Nat) (P : Int → Prop), WTu (VN c m) (hdN S 0) (arN S 0 0) (agN S 0) (fun u v => T u = T v) rk P → P D → P z := fun rk P w pd => by
  have p0 := (w.1 D x0 dv.1 xs.1 (dv.2.trans xs.2.2.symm) pd).1
  have p1 := (w.2 x0 xs.1 p0 xs.2.1 i hi.1 hi.2).1
  exact (w.1 _ z va vz.1 (e.trans vz.2.symm) p1).1
theorem TKI.ub {c m g k i p : Int} {S : zJ} {T sh r u : Int → Int} {L : Int → Prop} (h : TKI c m S T sh L r u g k i 1) (lp : L p) : u p ≤ 2403 := by
  have a := h.2.2.2.1 p lp
  have b := SUd.le (S := S) (T := T) (sh := sh) (D := fun d => L d ∧ ¬ DLr r (k + 1) d) (c := p)
  have d := eP_nn (S := S) (T := T) (sh := sh) (d := r k) (c := p) (i := i)
  have e := eP_3 (S := S) (T := T) (sh := sh) (d := r k) (c := p) (i := 3)
  omega
set_option maxHeartbeats 4000000 in
set_option maxRecDepth 100000 in
theorem u_listAll {l : Launch} {G : tb_G} (hl : l.stackTraces = false) (n : Nat) (J : zJ) (x : Int) (hr_x : -2147483648 ≤ x ∧ x < 2147483648) (b m c : Int) (S : zJ) (T sh : Int → Int) (C : CT J m) (hm6 : J 6 12 = m) (E : A0 J S) (hU : UI J b m) (hx : nd b m x) (ax : J 146 x = J 145 10) (hP : UFp (VN c m) (upV J)) (hS : SHp (VN c m) (hdN S 0) (upV J) (usV J) (ulV J)) (rx : upV J x = x) (hTT : ∀ y, VN c m y → tp (upV J) y = T y) (hsh : ∀ y, VN c m y → usV J y = sh y) (hbc : (b = 0 ∧ c = 400) ∨ (b = 400 ∧ c = 800)) (hu0 : ∀ y, VN c m y → uuV J y = -1) : tz_Ok l G M_X10_listAll 3 0 0 [.ref 145, zi x] n J (zqi (fun z J' => (UW J' J b m ∧ zOf (zbut [146, 147, 148, 149, 150, 153, 154]) J' J) ∧ (∃ L, LSE c m S T sh x L (uuV J') z) ∧ vF c m J' J)) zN := by
  refine tz_Ok.of hl (by decide +kernel) rfl (tb_c1 rfl) (Nat.le_of_ble_eq_true rfl) ?_
  show tz_At l G M_X10_listAll (tb_rm 3 0 0) none (tb_ZM G 0 0 (zQ n 0 (zqi (fun z J' => (UW J' J b m ∧ zOf (zbut [146, 147, 148, 149, 150, 153, 154]) J' J) ∧ (∃ L, LSE c m S T sh x L (uuV J') z) ∧ vF c m J' J))) (zX n 0 zN)) 0 0 n J 0 [some (.ref 145), some (zi x), none, none, none, none, none] []
  have hb := C.told
  have hm := hb.2
  have hx2 := hx.rg hm
  have hL0 : lsI J J b m 0 := ⟨by decide, fun k a c => by omega⟩
  have hc9 : c = 400 ∨ c = 800 := by omega
  have hxv := (nd.vn hbc hm).1 hx
  have ux9 : uuV J x = J 154 x := by unfold uuV; rw [if_pos ax]
  refine tz_iconst (pc := 0) dX10_listAll_0 ?_
  refine tz_istore_n (pc := 1) (L2 := [_, _, _, _, _, _, _]) dX10_listAll_1 rfl (by decide) rfl ?_
  refine tz_aload_n (pc := 2) dX10_listAll_2 rfl rfl ?_
  refine tz_fR (pc := 3) dX10_listAll_3 fl_X10_33 r_145_8 ?_
  refine tz_iconst (pc := 6) dX10_listAll_6 ?_
  refine tz_iload_n (pc := 7) dX10_listAll_7 rfl rfl ?_
  refine tz_aS (pc := 8) (z := 0) dX10_listAll_8 a_153 rfl (by decide) (by omega) ?_
  refine tz_aload_n (pc := 9) dX10_listAll_9 rfl rfl ?_
  refine tz_fR (pc := 10) dX10_listAll_10 fl_X10_36 r_145_9 ?_
  refine tz_iload_n (pc := 13) dX10_listAll_13 rfl rfl ?_
  refine tz_iconst (pc := 14) dX10_listAll_14 ?_
  refine tz_aS (pc := 15) (z := x) dX10_listAll_15 a_154 rfl (by omega) (by decide) ?_
  refine tz_iconst (pc := 16) dX10_listAll_16 ?_
  refine tz_istore_n (pc := 17) (L2 := [_, _, _, _, _, _, _]) dX10_listAll_17 rfl (by decide) rfl ?_
  have loop18 : ∀ (f9 : Nat) (g : Int) (k : Int) (d4 : Option Value) (d5 : Option Value) (d6 : Option Value) (J1 : zJ), ((800 - k).toNat) < f9 → (0 ≤ k ∧ k ≤ 800) → (UW J1 J b m) → (lsI J1 J b m g) → (zOf (zbut [146, 147, 148, 149, 150, 153, 154]) J1 J) → (vF c m J1 J) → (LSI c m S T sh x (J1 153) (uuV J1) g k 0) → tz_At l G M_X10_listAll (tb_rm 3 0 0) none (tb_ZM G 0 0 (zQ n 0 (zqi (fun z J' => (UW J' J b m ∧ zOf (zbut [146, 147, 148, 149, 150, 153, 154]) J' J) ∧ (∃ L, LSE c m S T sh x L (uuV J') z) ∧ vF c m J' J))) (zX n 0 zN)) 0 0 n J1 18 [some (.ref 145), some (zi x), some (zi g), some (zi k), d4, d5, d6] [] := by
    intro f9
    induction f9 with
    | zero => intro g k d4 d5 d6 J1 hm9; exact absurd hm9 (Nat.not_lt_zero _)
    | succ f9 ih18 =>
      intro g k d4 d5 d6 J1 hm18 hk u1 l1 f1 v1 s1
      have lr := l1.1
      refine tz_iload_n (pc := 18) dX10_listAll_18 rfl rfl ?_
      refine tz_iload_n (pc := 19) dX10_listAll_19 rfl rfl ?_
      refine tz_icmp_ge (pc := 20) (tgt := 145) dX10_listAll_20 (by decide) (by omega) (by omega) (fun h_20 => ?_) (fun h_20 => ?_)
      · refine tz_iload_n (pc := 145) dX10_listAll_145 rfl rfl ?_
        exact tz_iret (pc := 146) (z := g) dX10_listAll_146 rfl (Nat.le_of_ble_eq_true rfl) (Nat.le_of_ble_eq_true rfl) ⟨Nat.le_refl _, Nat.le_add_right _ _⟩ ⟨_, rfl, (by omega), ⟨⟨u1, f1⟩, ⟨_, s1.fin (by have := s1.1.1; omega)⟩, v1⟩⟩
      · refine tz_iload_n (pc := 23) dX10_listAll_23 rfl rfl ?_
        refine tz_sipush (pc := 24) dX10_listAll_24 (by decide) ?_
        refine tz_icmp_ge (pc := 27) (tgt := 145) dX10_listAll_27 (by decide) (by omega) (by decide) (fun h_27 => ?_) (fun h_27 => ?_)
        · refine tz_iload_n (pc := 145) dX10_listAll_145 rfl rfl ?_
          exact tz_iret (pc := 146) (z := g) dX10_listAll_146 rfl (Nat.le_of_ble_eq_true rfl) (Nat.le_of_ble_eq_true rfl) ⟨Nat.le_refl _, Nat.le_add_right _ _⟩ ⟨_, rfl, (by omega), ⟨⟨u1, f1⟩, ⟨_, s1.fin (by have := s1.1.1; omega)⟩, v1⟩⟩
        · refine tz_aload_n (pc := 30) dX10_listAll_30 rfl rfl ?_
          refine tz_fR (pc := 31) dX10_listAll_31 fl_X10_18 r_145_3 ?_
          refine tz_aload_n (pc := 34) dX10_listAll_34 rfl rfl ?_
          refine tz_fR (pc := 35) dX10_listAll_35 fl_X10_33 r_145_8 ?_
          refine tz_iload_n (pc := 38) dX10_listAll_38 rfl rfl ?_
          refine tz_aL (pc := 39) (z := k) (v := (J1 153 k)) dX10_listAll_39 a_153 rfl (by omega) rfl (fun r_39 => ?_)
          have q0 := l1.2 k (by omega) (by omega)
          have q0r := q0.1.rg hm
          have q1 := (u1.at hm q0.1 q0.2).2.2.1
          have dv9 := s1.1.2.1 k (by omega) (by omega)
          have sd9 : usV J (J1 153 k) = (J1 148 (J1 153 k)) := by rw [← (v1.2.2 _ dv9.1).1]; unfold usV; rw [if_pos (q0.2.trans u1.2.1.symm)]
          have sd8 : sh (J1 153 k) = (J1 148 (J1 153 k)) := (hsh _ dv9.1).symm.trans sd9
          have nn9 : (J1 148 (J1 153 k)) = -1 → nai S sh (J1 153 k) = 0 := fun q => by unfold nai; rw [sd8, if_pos q]
          have na9 : ¬ (J1 148 (J1 153 k)) = -1 → nai S sh (J1 153 k) = J 8 (tm (J1 148 (J1 153 k))) := fun q => by unfold nai; rw [sd8, if_neg q]; exact (a0_nd E C hm6 (q1.resolve_left q)).1
          refine tz_aL (pc := 40) (z := (J1 153 k)) (v := (J1 148 (J1 153 k))) dX10_listAll_40 a_148 rfl (by omega) rfl (fun r_40 => ?_)
          refine tz_istore (pc := 41) (L2 := [_, _, _, _, _, _, _]) dX10_listAll_41 (by decide) rfl ?_
          refine tz_iconst (pc := 43) dX10_listAll_43 ?_
          refine tz_istore (pc := 44) (L2 := [_, _, _, _, _, _, _]) dX10_listAll_44 (by decide) rfl ?_
          have loop46 : ∀ (f9 : Nat) (g2 : Int) (i : Int) (e6 : Option Value) (J2 : zJ), ((3 - i).toNat) < f9 → (0 ≤ i ∧ i ≤ 3) → (UW J2 J b m) → (lsI J2 J b m g2) → (zOf (zbut [146, 147, 148, 149, 150, 153, 154]) J2 J) → (vF c m J2 J) → (LSI c m S T sh x (J2 153) (uuV J2) g2 k i) → (k < g2) → (J2 153 k = J1 153 k) → tz_At l G M_X10_listAll (tb_rm 3 0 0) none (tb_ZM G 0 0 (zQ n 0 (zqi (fun z J' => (UW J' J b m ∧ zOf (zbut [146, 147, 148, 149, 150, 153, 154]) J' J) ∧ (∃ L, LSE c m S T sh x L (uuV J') z) ∧ vF c m J' J))) (zX n 0 zN)) 0 0 n J2 46 [some (.ref 145), some (zi x), some (zi g2), some (zi k), some (zi (J1 148 (J1 153 k))), some (zi i), e6] [] := by
            intro f9
            induction f9 with
            | zero => intro g2 i e6 J2 hm9; exact absurd hm9 (Nat.not_lt_zero _)
            | succ f9 ih46 =>
              intro g2 i e6 J2 hm46 hi u2 l2 f2 v2 s2 kg e3
              have l2r := l2.1
              have e8 := f2 8 rfl
              refine tz_iload (pc := 46) dX10_listAll_46 rfl ?_
              refine tz_iconst (pc := 48) dX10_listAll_48 ?_
              refine tz_icmp_eq (pc := 49) (tgt := 139) dX10_listAll_49 (by decide) (by omega) (by decide) (fun h_49 => ?_) (fun h_49 => ?_)
              · refine tz_iinc (pc := 139) (z := k + 1) (L2 := [_, _, _, _, _, _, _]) dX10_listAll_139 rfl (by omega) rfl ?_
                refine tz_goto (pc := 142) (tgt := 18) dX10_listAll_142 (by decide) ?_
                exact ih18 _ (k + 1) _ _ _ _ (by omega) (by omega) u2 l2 f2 v2 (s2.next hc9 kg (by rw [e3]; rcases Decidable.em ((J1 148 (J1 153 k)) = -1) with q9 | q9; (have := nn9 q9; omega); (have := na9 q9; omega)))
              · have hn0 := q1.resolve_left (by omega)
                have hnr := hn0.rg hm
                have hnt := hn0.ix hm
                have ha8 := C.ar hnt.1 hnt.2
                have rD9 : upV J (J1 153 k) = (J1 153 k) := by have q9 := (hP.root dv9.1).1; rw [hTT _ dv9.1, dv9.2] at q9; exact q9
                have xs9 := (hS _ dv9.1 rD9).1.resolve_left (by rw [sd9]; omega)
                rw [sd9] at xs9
                have xs8 := And.intro xs9.1 (And.intro xs9.2.1 ((hTT _ xs9.1).symm.trans xs9.2.2))
                refine tz_iload (pc := 52) dX10_listAll_52 rfl ?_
                refine tz_aload_n (pc := 54) dX10_listAll_54 rfl rfl ?_
                refine tz_fR (pc := 55) dX10_listAll_55 fl_X10_46 r_145_0 ?_
                refine tz_fR (pc := 58) dX10_listAll_58 fl_X10_90 r_6_2 ?_
                refine tz_aload_n (pc := 61) dX10_listAll_61 rfl rfl ?_
                refine tz_iload (pc := 62) dX10_listAll_62 rfl ?_
                refine tz_cV (pc := 64) (c_uTerm hl n _ _ (by omega) (by omega)) vl_X10_68 dX10_listAll_64 o_145 rfl rfl (Nat.le_of_ble_eq_true rfl) ⟨(Nat.le_of_ble_eq_true rfl), (Nat.le_of_ble_eq_true rfl)⟩ rfl rfl (Nat.le_of_ble_eq_true rfl) (Nat.le_of_ble_eq_true rfl) (fun r9 J_64 hq9 => ?_)
                obtain ⟨z_64, rfl, hz_64, rfl, rfl⟩ := hq9
                refine tz_aL (pc := 67) (z := (tm (J1 148 (J1 153 k)))) (v := (J 8 (tm (J1 148 (J1 153 k))))) dX10_listAll_67 a_8 rfl (by omega) (Eq.trans (congrFun (f2 8 rfl) (tm (J1 148 (J1 153 k)))) rfl) (fun r_67 => ?_)
                refine tz_icmp_ge (pc := 68) (tgt := 139) dX10_listAll_68 (by decide) (by omega) (by omega) (fun h_68 => ?_) (fun h_68 => ?_)
                · refine tz_iinc (pc := 139) (z := k + 1) (L2 := [_, _, _, _, _, _, _]) dX10_listAll_139 rfl (by omega) rfl ?_
                  refine tz_goto (pc := 142) (tgt := 18) dX10_listAll_142 (by decide) ?_
                  exact ih18 _ (k + 1) _ _ _ _ (by omega) (by omega) u2 l2 f2 v2 (s2.next hc9 kg (by rw [e3]; rcases Decidable.em ((J1 148 (J1 153 k)) = -1) with q9 | q9; (have := nn9 q9; omega); (have := na9 q9; omega)))
                · refine tz_aload_n (pc := 71) dX10_listAll_71 rfl rfl ?_
                  refine tz_aload_n (pc := 72) dX10_listAll_72 rfl rfl ?_
                  refine tz_iload (pc := 73) dX10_listAll_73 rfl ?_
                  refine tz_iload (pc := 75) dX10_listAll_75 rfl ?_
                  refine tz_cV (pc := 77) (u_part hl n _ _ _ (by omega) (by omega) b m (C.of (fun c hc => f2 c (by simp [zbut]; omega))) hn0 (by rw [f2 8 rfl]; omega)) vl_X10_93 dX10_listAll_77 o_145 rfl rfl (Nat.le_of_ble_eq_true rfl) ⟨(Nat.le_of_ble_eq_true rfl), (Nat.le_of_ble_eq_true rfl)⟩ rfl rfl (Nat.le_of_ble_eq_true rfl) (Nat.le_of_ble_eq_true rfl) (fun r9 J_77 hq9 => ?_)
                  obtain ⟨zp, rfl, hz_77, rfl, hn9, hz9⟩ := hq9
                  have hz8 : zp = agN S 0 (J1 148 (J1 153 k)) i := by rw [(a0_nd E C hm6 hn0).2.2 i (by omega) (by omega), ← hz9, f2 9 rfl]
                  refine tz_cV (pc := 80) (u_top hl n _ _ (by omega) b m c hm hn9 u2.1 v2.1 hbc) vl_X10_54 dX10_listAll_80 o_145 rfl rfl (Nat.le_of_ble_eq_true rfl) ⟨(Nat.le_of_ble_eq_true rfl), (Nat.le_of_ble_eq_true rfl)⟩ rfl rfl (Nat.le_of_ble_eq_true rfl) (Nat.le_of_ble_eq_true rfl) (fun r9 J3 hq9 => ?_)
                  obtain ⟨zt, rfl, hz_80, ⟨t1, t2, t3⟩, tv, tz⟩ := hq9
                  have tr := t2.1.rg hm
                  have l3 := l2.of (t3 153 rfl) (fun x q => by have := t1.2.2 x; rw [u2.2.1] at this; exact this q)
                  have a3 := t2.2
                  rw [u2.2.1] at a3
                  have vz := (nd.vn hbc hm).1 t2.1
                  have vp9 := (nd.vn hbc hm).1 hn9
                  have ch9 : zt = chi S T sh (J2 153 k) i := by unfold chi; rw [tz, v2.2.1 zp vp9, hTT zp vp9, e3, sd8, hz8]
                  have tt9 : T zt = zt := by rw [← hTT zt vz, ← v2.2.1 zt vz]; exact tp_r (by rw [tz]; exact (v2.1.root vp9).1)
                  have az9 : J3 146 zt = J3 145 10 := t2.2.trans (congrFun (t3 145 rfl) 10).symm
                  have uz9 : J3 154 zt = uuV J2 zt := by rw [← (tv.2.2 zt vz).2.2.1]; unfold uuV; rw [if_pos az9]
                  have hn3 : i < nai S sh (J2 153 k) := by rw [e3, na9 (by omega)]; omega
                  obtain ⟨ub9, un9, ud9⟩ := s2.u9 hc9 ⟨vz, tt9⟩
                  rw [← uz9] at ub9 un9 ud9
                  refine tz_istore (pc := 83) (L2 := [_, _, _, _, _, _, _]) dX10_listAll_83 (by decide) rfl ?_
                  refine tz_aload_n (pc := 85) dX10_listAll_85 rfl rfl ?_
                  refine tz_fR (pc := 86) dX10_listAll_86 fl_X10_36 r_145_9 ?_
                  refine tz_iload (pc := 89) dX10_listAll_89 rfl ?_
                  refine tz_aL (pc := 91) (z := zt) (v := (J3 154 zt)) dX10_listAll_91 a_154 rfl (by omega) rfl (fun r_91 => ?_)
                  refine tz_iconst (pc := 92) dX10_listAll_92 ?_
                  refine tz_icmp_ne (pc := 93) (tgt := 122) dX10_listAll_93 (by decide) (by omega) (by decide) (fun h_93 => ?_) (fun h_93 => ?_)
                  · refine tz_aload_n (pc := 122) dX10_listAll_122 rfl rfl ?_
                    refine tz_fR (pc := 123) dX10_listAll_123 fl_X10_36 r_145_9 ?_
                    refine tz_iload (pc := 126) dX10_listAll_126 rfl ?_
                    refine tz_dup2 (pc := 128) dX10_listAll_128 rfl rfl ?_
                    refine tz_aL (pc := 129) (z := zt) (v := (J3 154 zt)) dX10_listAll_129 a_154 rfl (by omega) rfl (fun r_129 => ?_)
                    refine tz_iconst (pc := 130) dX10_listAll_130 ?_
                    refine tz_iadd (pc := 131) (v := (J3 154 zt) + 1) dX10_listAll_131 rfl ?_
                    refine tz_aS (pc := 132) (z := zt) dX10_listAll_132 a_154 rfl (by omega) (by omega) ?_
                    refine tz_iinc (pc := 133) (z := i + 1) (L2 := [_, _, _, _, _, _, _]) dX10_listAll_133 rfl (by omega) rfl ?_
                    refine tz_goto (pc := 136) (tgt := 46) dX10_listAll_136 (by decide) ?_
                    exact ih46 (g2) (i + 1) _ _ (by omega) (by omega) ((t1.tr u2).of (Int.le_refl _) rfl (fun c hc => by rcases (show c = 146 ∨ c = 147 ∨ c = 148 ∨ c = 149 ∨ c = 150 by omega) with rfl | rfl | rfl | rfl | rfl <;> rfl)) (lsI.of l3 rfl (fun _ q => q)) (zOf.up rfl ((t3.mono (fun c hc => by simp [zbut] at hc ⊢; omega)).tr f2)) (vF.up (tv.f v2) (fun q hq => by rcases (show q = 7 ∨ q = 145 ∨ q = 146 ∨ q = 147 ∨ q = 148 ∨ q = 149 ∨ q = 150 by omega) with rfl | rfl | rfl | rfl | rfl | rfl | rfl <;> rfl)) (by have q9 := s2.old (u' := uuV ((zup J3 154 zt ((J3 154 zt) + 1)))) kg (by omega) hn3 ch9 (by first | exact ud9 (by omega) | exact absurd (un9 (by omega)).2 (by omega)) (fun y hy => by rw [uu_up (J2 := (zup J3 154 zt ((J3 154 zt) + 1))) (J1 := J3) (z := zt) (v := J3 154 zt + 1) (fun _ => rfl) rfl rfl az9 y, (tv.2.2 y hy).2.2.1, uz9]); rw [← t3 153 rfl] at q9; exact q9) (by omega) ((congrFun (t3 153 rfl) k).trans e3)
                  · refine tz_iload_n (pc := 96) dX10_listAll_96 rfl rfl ?_
                    refine tz_sipush (pc := 97) dX10_listAll_97 (by decide) ?_
                    refine tz_icmp_ge (pc := 100) (tgt := 122) dX10_listAll_100 (by decide) (by omega) (by decide) (fun h_100 => ?_) (fun h_100 => ?_)
                    · refine tz_aload_n (pc := 122) dX10_listAll_122 rfl rfl ?_
                      refine tz_fR (pc := 123) dX10_listAll_123 fl_X10_36 r_145_9 ?_
                      refine tz_iload (pc := 126) dX10_listAll_126 rfl ?_
                      refine tz_dup2 (pc := 128) dX10_listAll_128 rfl rfl ?_
                      refine tz_aL (pc := 129) (z := zt) (v := (J3 154 zt)) dX10_listAll_129 a_154 rfl (by omega) rfl (fun r_129 => ?_)
                      refine tz_iconst (pc := 130) dX10_listAll_130 ?_
                      refine tz_iadd (pc := 131) (v := (J3 154 zt) + 1) dX10_listAll_131 rfl ?_
                      refine tz_aS (pc := 132) (z := zt) dX10_listAll_132 a_154 rfl (by omega) (by omega) ?_
                      refine tz_iinc (pc := 133) (z := i + 1) (L2 := [_, _, _, _, _, _, _]) dX10_listAll_133 rfl (by omega) rfl ?_
                      refine tz_goto (pc := 136) (tgt := 46) dX10_listAll_136 (by decide) ?_
                      exact ih46 (g2) (i + 1) _ _ (by omega) (by omega) ((t1.tr u2).of (Int.le_refl _) rfl (fun c hc => by rcases (show c = 146 ∨ c = 147 ∨ c = 148 ∨ c = 149 ∨ c = 150 by omega) with rfl | rfl | rfl | rfl | rfl <;> rfl)) (lsI.of l3 rfl (fun _ q => q)) (zOf.up rfl ((t3.mono (fun c hc => by simp [zbut] at hc ⊢; omega)).tr f2)) (vF.up (tv.f v2) (fun q hq => by rcases (show q = 7 ∨ q = 145 ∨ q = 146 ∨ q = 147 ∨ q = 148 ∨ q = 149 ∨ q = 150 by omega) with rfl | rfl | rfl | rfl | rfl | rfl | rfl <;> rfl)) (by have q9 := s2.old (u' := uuV ((zup J3 154 zt ((J3 154 zt) + 1)))) kg (by omega) hn3 ch9 (by first | exact ud9 (by omega) | exact absurd (un9 (by omega)).2 (by omega)) (fun y hy => by rw [uu_up (J2 := (zup J3 154 zt ((J3 154 zt) + 1))) (J1 := J3) (z := zt) (v := J3 154 zt + 1) (fun _ => rfl) rfl rfl az9 y, (tv.2.2 y hy).2.2.1, uz9]); rw [← t3 153 rfl] at q9; exact q9) (by omega) ((congrFun (t3 153 rfl) k).trans e3)
                    · refine tz_aload_n (pc := 103) dX10_listAll_103 rfl rfl ?_
                      refine tz_fR (pc := 104) dX10_listAll_104 fl_X10_36 r_145_9 ?_
                      refine tz_iload (pc := 107) dX10_listAll_107 rfl ?_
                      refine tz_iconst (pc := 109) dX10_listAll_109 ?_
                      refine tz_aS (pc := 110) (z := zt) dX10_listAll_110 a_154 rfl (by omega) (by decide) ?_
                      refine tz_aload_n (pc := 111) dX10_listAll_111 rfl rfl ?_
                      refine tz_fR (pc := 112) dX10_listAll_112 fl_X10_33 r_145_8 ?_
                      refine tz_iload_n (pc := 115) dX10_listAll_115 rfl rfl ?_
                      refine tz_iload (pc := 116) dX10_listAll_116 rfl ?_
                      refine tz_aS (pc := 118) (z := g2) dX10_listAll_118 a_153 rfl (by omega) (by omega) ?_
                      refine tz_iinc (pc := 119) (z := g2 + 1) (L2 := [_, _, _, _, _, _, _]) dX10_listAll_119 rfl (by omega) rfl ?_
                      refine tz_aload_n (pc := 122) dX10_listAll_122 rfl rfl ?_
                      refine tz_fR (pc := 123) dX10_listAll_123 fl_X10_36 r_145_9 ?_
                      refine tz_iload (pc := 126) dX10_listAll_126 rfl ?_
                      refine tz_dup2 (pc := 128) dX10_listAll_128 rfl rfl ?_
                      refine tz_aL (pc := 129) (z := zt) (v := 0) dX10_listAll_129 a_154 rfl (by omega) (by simp [zup]) (fun _ => ?_)
                      refine tz_iconst (pc := 130) dX10_listAll_130 ?_
                      refine tz_iadd (pc := 131) (v := 1) dX10_listAll_131 (by decide) ?_
                      refine tz_aS (pc := 132) (z := zt) dX10_listAll_132 a_154 rfl (by omega) (by decide) ?_
                      refine tz_iinc (pc := 133) (z := i + 1) (L2 := [_, _, _, _, _, _, _]) dX10_listAll_133 rfl (by omega) rfl ?_
                      refine tz_goto (pc := 136) (tgt := 46) dX10_listAll_136 (by decide) ?_
                      exact ih46 (g2 + 1) (i + 1) _ _ (by omega) (by omega) ((t1.tr u2).of (Int.le_refl _) rfl (fun c hc => by rcases (show c = 146 ∨ c = 147 ∨ c = 148 ∨ c = 149 ∨ c = 150 by omega) with rfl | rfl | rfl | rfl | rfl <;> rfl)) (lsI.of (lsI.push (lsI.of l3 rfl (fun _ q => q)) (by omega) t2.1 a3) rfl (fun _ q => q)) (zOf.up rfl (zOf.up rfl (zOf.up rfl ((t3.mono (fun c hc => by simp [zbut] at hc ⊢; omega)).tr f2)))) (vF.up (tv.f v2) (fun q hq => by rcases (show q = 7 ∨ q = 145 ∨ q = 146 ∨ q = 147 ∨ q = 148 ∨ q = 149 ∨ q = 150 by omega) with rfl | rfl | rfl | rfl | rfl | rfl | rfl <;> rfl)) (s2.new (lv := fun _ => 0) hc9 kg (by omega) hn3 ch9 ⟨vz, tt9⟩ (by rw [e3]; exact hw_l (i := i) dv9 xs8 ⟨by omega, by have := na9 (by omega); rw [e3] at hn3; unfold nai at hn3; rw [sd8, if_neg (by omega)] at hn3; exact hn3⟩ (by rw [← hz8]; exact vp9) (by rw [ch9, e3]; unfold chi; rw [sd8]) ⟨vz, tt9⟩) (un9 (by omega)).1 (fun y hy => by rw [uu_up (J2 := (zup (zup (zup J3 154 zt 0) 153 g2 zt) 154 zt 1)) (J1 := J3) (z := zt) (v := 1) (fun q => by show (if q = zt then (1 : Int) else if q = zt then 0 else J3 154 q) = _; rcases Decidable.em (q = zt) with q9 | q9; (rw [if_pos q9, if_pos q9]); (rw [if_neg q9, if_neg q9, if_neg q9])) rfl rfl az9 y, (tv.2.2 y hy).2.2.1]) (fun q => by show (if q = g2 then zt else J3 153 q) = _; rw [t3 153 rfl])) (by omega) (by show (if k = g2 then zt else J3 153 k) = _; rw [if_neg (by omega), t3 153 rfl]; exact e3)
          exact loop46 _ _ 0 _ _ (Nat.lt_succ_self _) (by omega) u1 l1 f1 v1 s1 (by omega) rfl
  exact loop18 _ 1 0 _ _ _ _ (Nat.lt_succ_self _) (by omega) ((UW.rf hU).of (Int.le_refl _) rfl (fun c hc => by rcases (show c = 146 ∨ c = 147 ∨ c = 148 ∨ c = 149 ∨ c = 150 by omega) with rfl | rfl | rfl | rfl | rfl <;> rfl)) (lsI.of (lsI.push hL0 (by decide) hx ax) rfl (fun _ q => q)) (zOf.up rfl (zOf.up rfl zOf.rf)) (vF.up (vF.rf hP) (fun q hq => by rcases (show q = 7 ∨ q = 145 ∨ q = 146 ∨ q = 147 ∨ q = 148 ∨ q = 149 ∨ q = 150 by omega) with rfl | rfl | rfl | rfl | rfl | rfl | rfl <;> rfl)) (LSI.start hc9 ⟨hxv, (hTT x hxv).symm.trans (tp_r rx)⟩ (by show (if (0 : Int) = 0 then x else J 153 0) = x; rw [if_pos rfl]) (fun y hy => by rw [uu_up (J2 := (zup (zup J 153 0 x) 154 x 0)) (J1 := J) (z := x) (v := 0) (fun _ => rfl) rfl rfl ax y, hu0 y hy]))

set_option maxHeartbeats 4000000 in
set_option maxRecDepth 100000 in
theorem u_taken {l : Launch} {G : tb_G} (hl : l.stackTraces = false) (n : Nat) (J : zJ) (x : Int) (hr_x : -2147483648 ≤ x ∧ x < 2147483648) (b m c : Int) (S : zJ) (T sh : Int → Int) (L : Int → Prop) (f : Int) (C : CT J m) (hm6 : J 6 12 = m) (E : A0 J S) (hU : UI J b m) (hx : nd b m x) (ax : J 146 x = J 145 10) (hP : UFp (VN c m) (upV J)) (hS : SHp (VN c m) (hdN S 0) (upV J) (usV J) (ulV J)) (rx : upV J x = x) (hTT : ∀ y, VN c m y → tp (upV J) y = T y) (hsh : ∀ y, VN c m y → usV J y = sh y) (hbc : (b = 0 ∧ c = 400) ∨ (b = 400 ∧ c = 800)) (hE : LSE c m S T sh x L (uuV J) f) : tz_Ok l G M_X10_takenAway 3 0 0 [.ref 145, zi x] n J (zqi (fun z J' => (UW J' J b m ∧ zOf (zbut [146, 147, 148, 149, 150, 153, 154]) J' J) ∧ ((z < f → ¬ NRu (VN c m) (hdN S 0) (arN S 0 0) (agN S 0) (fun u v => T u = T v) x) ∧ ((∀ u, VN c m u → 0 ≤ hdN S 0 u → ¬ sh (T u) = -1) → CGm (VN c m) (hdN S 0) (arN S 0 0) (agN S 0) T → f ≤ z → NRu (VN c m) (hdN S 0) (arN S 0 0) (agN S 0) (fun u v => T u = T v) x)) ∧ vF c m J' J)) zN := by
  refine tz_Ok.of hl (by decide +kernel) rfl (tb_c1 rfl) (Nat.le_of_ble_eq_true rfl) ?_
  show tz_At l G M_X10_takenAway (tb_rm 3 0 0) none (tb_ZM G 0 0 (zQ n 0 (zqi (fun z J' => (UW J' J b m ∧ zOf (zbut [146, 147, 148, 149, 150, 153, 154]) J' J) ∧ ((z < f → ¬ NRu (VN c m) (hdN S 0) (arN S 0 0) (agN S 0) (fun u v => T u = T v) x) ∧ ((∀ u, VN c m u → 0 ≤ hdN S 0 u → ¬ sh (T u) = -1) → CGm (VN c m) (hdN S 0) (arN S 0 0) (agN S 0) T → f ≤ z → NRu (VN c m) (hdN S 0) (arN S 0 0) (agN S 0) (fun u v => T u = T v) x)) ∧ vF c m J' J))) (zX n 0 zN)) 0 0 n J 0 [some (.ref 145), some (zi x), none, none, none, none, none] []
  have hb := C.told
  have hm := hb.2
  have hx2 := hx.rg hm
  have hL0 : lsI J J b m 0 := ⟨by decide, fun k a c => by omega⟩
  have hc9 : c = 400 ∨ c = 800 := by omega
  have hxv := (nd.vn hbc hm).1 hx
  have ux9 : uuV J x = J 154 x := by unfold uuV; rw [if_pos ax]
  have hV9 : ∀ u i, VN c m u → 0 ≤ hdN S 0 u → 0 ≤ i → i < arN S 0 0 u → VN c m (agN S 0 u i) := fun u i hu _ a k => by have n9 := (nd.vn hbc hm).2 hu; have w9 := a0_nd E C hm6 n9; have t9 := n9.ix hm; rw [w9.1] at k; have g9 := C.arg t9.1 t9.2 a k; rw [w9.2.2 i a k]; exact (nd.vn hbc hm).1 (n9.part hm (by omega))
  have h39 : ∀ u, VN c m u → arN S 0 0 u ≤ 3 := fun u hu => by have n9 := (nd.vn hbc hm).2 hu; have t9 := n9.ix hm; rw [(a0_nd E C hm6 n9).1]; exact (C.ar t9.1 t9.2).1.2
  have hS9 : ∀ y, L y → ¬ sh y = -1 → VN c m (sh y) ∧ 0 ≤ hdN S 0 (sh y) ∧ T (sh y) = y := fun y ly ns => by have v9 := hE.2.1 y ly; have r9 : upV J y = y := (by have q9 := (hP.root v9.1).1; rw [hTT _ v9.1, v9.2] at q9; exact q9); have h9 := (hS y v9.1 r9).1.resolve_left (by rw [hsh _ v9.1]; exact ns); rw [hsh _ v9.1] at h9; rw [hTT _ h9.1] at h9; exact h9
  refine tz_iconst (pc := 0) dX10_takenAway_0 ?_
  refine tz_istore_n (pc := 1) (L2 := [_, _, _, _, _, _, _]) dX10_takenAway_1 rfl (by decide) rfl ?_
  refine tz_aload_n (pc := 2) dX10_takenAway_2 rfl rfl ?_
  refine tz_fR (pc := 3) dX10_takenAway_3 fl_X10_36 r_145_9 ?_
  refine tz_iload_n (pc := 6) dX10_takenAway_6 rfl rfl ?_
  refine tz_aL (pc := 7) (z := x) (v := (J 154 x)) dX10_takenAway_7 a_154 rfl (by omega) rfl (fun r_7 => ?_)
  refine tz_if_ne (pc := 8) (tgt := 21) dX10_takenAway_8 (by decide) (by omega) (fun h_8 => ?_) (fun h_8 => ?_)
  · refine tz_iconst (pc := 21) dX10_takenAway_21 ?_
    refine tz_istore_n (pc := 22) (L2 := [_, _, _, _, _, _, _]) dX10_takenAway_22 rfl (by decide) rfl ?_
    have loop23 : ∀ (f9 : Nat) (g : Int) (k : Int) (d4 : Option Value) (d5 : Option Value) (d6 : Option Value) (J1 : zJ), ((800 - k).toNat) < f9 → (0 ≤ k ∧ k ≤ 800) → (UW J1 J b m) → (lsI J1 J b m g) → (zOf (zbut [146, 147, 148, 149, 150, 153, 154]) J1 J) → (vF c m J1 J) → (TKI c m S T sh L (J1 153) (uuV J1) g k 0 0) → tz_At l G M_X10_takenAway (tb_rm 3 0 0) none (tb_ZM G 0 0 (zQ n 0 (zqi (fun z J' => (UW J' J b m ∧ zOf (zbut [146, 147, 148, 149, 150, 153, 154]) J' J) ∧ ((z < f → ¬ NRu (VN c m) (hdN S 0) (arN S 0 0) (agN S 0) (fun u v => T u = T v) x) ∧ ((∀ u, VN c m u → 0 ≤ hdN S 0 u → ¬ sh (T u) = -1) → CGm (VN c m) (hdN S 0) (arN S 0 0) (agN S 0) T → f ≤ z → NRu (VN c m) (hdN S 0) (arN S 0 0) (agN S 0) (fun u v => T u = T v) x)) ∧ vF c m J' J))) (zX n 0 zN)) 0 0 n J1 23 [some (.ref 145), some (zi x), some (zi g), some (zi k), d4, d5, d6] [] := by
      intro f9
      induction f9 with
      | zero => intro g k d4 d5 d6 J1 hm9; exact absurd hm9 (Nat.not_lt_zero _)
      | succ f9 ih23 =>
        intro g k d4 d5 d6 J1 hm23 hk u1 l1 f1 v1 s1
        have lr := l1.1
        refine tz_iload_n (pc := 23) dX10_takenAway_23 rfl rfl ?_
        refine tz_iload_n (pc := 24) dX10_takenAway_24 rfl rfl ?_
        refine tz_icmp_ge (pc := 25) (tgt := 141) dX10_takenAway_25 (by decide) (by omega) (by omega) (fun h_25 => ?_) (fun h_25 => ?_)
        · refine tz_iload_n (pc := 141) dX10_takenAway_141 rfl rfl ?_
          exact tz_iret (pc := 142) (z := g) dX10_takenAway_142 rfl (Nat.le_of_ble_eq_true rfl) (Nat.le_of_ble_eq_true rfl) ⟨Nat.le_refl _, Nat.le_add_right _ _⟩ ⟨_, rfl, (by omega), ⟨⟨u1, f1⟩, ⟨fun hg => TKI.no hc9 hE s1 (by have := s1.1.1; omega) hg hV9 hS9 h39, fun hN hT hg => TKI.yes hc9 hE s1 hg hV9 hS9 hN hT h39⟩, v1⟩⟩
        · refine tz_iload_n (pc := 28) dX10_takenAway_28 rfl rfl ?_
          refine tz_sipush (pc := 29) dX10_takenAway_29 (by decide) ?_
          refine tz_icmp_ge (pc := 32) (tgt := 141) dX10_takenAway_32 (by decide) (by omega) (by decide) (fun h_32 => ?_) (fun h_32 => ?_)
          · refine tz_iload_n (pc := 141) dX10_takenAway_141 rfl rfl ?_
            exact tz_iret (pc := 142) (z := g) dX10_takenAway_142 rfl (Nat.le_of_ble_eq_true rfl) (Nat.le_of_ble_eq_true rfl) ⟨Nat.le_refl _, Nat.le_add_right _ _⟩ ⟨_, rfl, (by omega), ⟨⟨u1, f1⟩, ⟨fun hg => TKI.no hc9 hE s1 (by have := s1.1.1; omega) hg hV9 hS9 h39, fun hN hT hg => TKI.yes hc9 hE s1 hg hV9 hS9 hN hT h39⟩, v1⟩⟩
          · refine tz_aload_n (pc := 35) dX10_takenAway_35 rfl rfl ?_
            refine tz_fR (pc := 36) dX10_takenAway_36 fl_X10_18 r_145_3 ?_
            refine tz_aload_n (pc := 39) dX10_takenAway_39 rfl rfl ?_
            refine tz_fR (pc := 40) dX10_takenAway_40 fl_X10_33 r_145_8 ?_
            refine tz_iload_n (pc := 43) dX10_takenAway_43 rfl rfl ?_
            refine tz_aL (pc := 44) (z := k) (v := (J1 153 k)) dX10_takenAway_44 a_153 rfl (by omega) rfl (fun r_44 => ?_)
            have q0 := l1.2 k (by omega) (by omega)
            have q0r := q0.1.rg hm
            have q1 := (u1.at hm q0.1 q0.2).2.2.1
            have dv9 := s1.1.2.1 k (by omega) (by omega)
            have sd9 : usV J (J1 153 k) = (J1 148 (J1 153 k)) := by rw [← (v1.2.2 _ dv9.1).1]; unfold usV; rw [if_pos (q0.2.trans u1.2.1.symm)]
            have sd8 : sh (J1 153 k) = (J1 148 (J1 153 k)) := (hsh _ dv9.1).symm.trans sd9
            have nn9 : (J1 148 (J1 153 k)) = -1 → nai S sh (J1 153 k) = 0 := fun q => by unfold nai; rw [sd8, if_pos q]
            have na9 : ¬ (J1 148 (J1 153 k)) = -1 → nai S sh (J1 153 k) = J 8 (tm (J1 148 (J1 153 k))) := fun q => by unfold nai; rw [sd8, if_neg q]; exact (a0_nd E C hm6 (q1.resolve_left q)).1
            refine tz_aL (pc := 45) (z := (J1 153 k)) (v := (J1 148 (J1 153 k))) dX10_takenAway_45 a_148 rfl (by omega) rfl (fun r_45 => ?_)
            refine tz_istore (pc := 46) (L2 := [_, _, _, _, _, _, _]) dX10_takenAway_46 (by decide) rfl ?_
            refine tz_iconst (pc := 48) dX10_takenAway_48 ?_
            refine tz_istore (pc := 49) (L2 := [_, _, _, _, _, _, _]) dX10_takenAway_49 (by decide) rfl ?_
            have loop51 : ∀ (f9 : Nat) (g2 : Int) (i : Int) (e6 : Option Value) (J2 : zJ), ((3 - i).toNat) < f9 → (0 ≤ i ∧ i ≤ 3) → (UW J2 J b m) → (lsI J2 J b m g2) → (zOf (zbut [146, 147, 148, 149, 150, 153, 154]) J2 J) → (vF c m J2 J) → (TKI c m S T sh L (J2 153) (uuV J2) g2 k i 1) → (k < g2) → (J2 153 k = J1 153 k) → tz_At l G M_X10_takenAway (tb_rm 3 0 0) none (tb_ZM G 0 0 (zQ n 0 (zqi (fun z J' => (UW J' J b m ∧ zOf (zbut [146, 147, 148, 149, 150, 153, 154]) J' J) ∧ ((z < f → ¬ NRu (VN c m) (hdN S 0) (arN S 0 0) (agN S 0) (fun u v => T u = T v) x) ∧ ((∀ u, VN c m u → 0 ≤ hdN S 0 u → ¬ sh (T u) = -1) → CGm (VN c m) (hdN S 0) (arN S 0 0) (agN S 0) T → f ≤ z → NRu (VN c m) (hdN S 0) (arN S 0 0) (agN S 0) (fun u v => T u = T v) x)) ∧ vF c m J' J))) (zX n 0 zN)) 0 0 n J2 51 [some (.ref 145), some (zi x), some (zi g2), some (zi k), some (zi (J1 148 (J1 153 k))), some (zi i), e6] [] := by
              intro f9
              induction f9 with
              | zero => intro g2 i e6 J2 hm9; exact absurd hm9 (Nat.not_lt_zero _)
              | succ f9 ih51 =>
                intro g2 i e6 J2 hm51 hi u2 l2 f2 v2 s2 kg e3
                have l2r := l2.1
                have e8 := f2 8 rfl
                refine tz_iload (pc := 51) dX10_takenAway_51 rfl ?_
                refine tz_iconst (pc := 53) dX10_takenAway_53 ?_
                refine tz_icmp_eq (pc := 54) (tgt := 135) dX10_takenAway_54 (by decide) (by omega) (by decide) (fun h_54 => ?_) (fun h_54 => ?_)
                · refine tz_iinc (pc := 135) (z := k + 1) (L2 := [_, _, _, _, _, _, _]) dX10_takenAway_135 rfl (by omega) rfl ?_
                  refine tz_goto (pc := 138) (tgt := 23) dX10_takenAway_138 (by decide) ?_
                  exact ih23 _ (k + 1) _ _ _ _ (by omega) (by omega) u2 l2 f2 v2 (s2.shut kg (by rw [e3]; rcases Decidable.em ((J1 148 (J1 153 k)) = -1) with q9 | q9; (have := nn9 q9; omega); (have := na9 q9; omega)))
                · have hn0 := q1.resolve_left (by omega)
                  have hnr := hn0.rg hm
                  have hnt := hn0.ix hm
                  have ha8 := C.ar hnt.1 hnt.2
                  have rD9 : upV J (J1 153 k) = (J1 153 k) := by have q9 := (hP.root dv9.1).1; rw [hTT _ dv9.1, dv9.2] at q9; exact q9
                  have xs9 := (hS _ dv9.1 rD9).1.resolve_left (by rw [sd9]; omega)
                  rw [sd9] at xs9
                  have xs8 := And.intro xs9.1 (And.intro xs9.2.1 ((hTT _ xs9.1).symm.trans xs9.2.2))
                  refine tz_iload (pc := 57) dX10_takenAway_57 rfl ?_
                  refine tz_aload_n (pc := 59) dX10_takenAway_59 rfl rfl ?_
                  refine tz_fR (pc := 60) dX10_takenAway_60 fl_X10_46 r_145_0 ?_
                  refine tz_fR (pc := 63) dX10_takenAway_63 fl_X10_90 r_6_2 ?_
                  refine tz_aload_n (pc := 66) dX10_takenAway_66 rfl rfl ?_
                  refine tz_iload (pc := 67) dX10_takenAway_67 rfl ?_
                  refine tz_cV (pc := 69) (c_uTerm hl n _ _ (by omega) (by omega)) vl_X10_68 dX10_takenAway_69 o_145 rfl rfl (Nat.le_of_ble_eq_true rfl) ⟨(Nat.le_of_ble_eq_true rfl), (Nat.le_of_ble_eq_true rfl)⟩ rfl rfl (Nat.le_of_ble_eq_true rfl) (Nat.le_of_ble_eq_true rfl) (fun r9 J_69 hq9 => ?_)
                  obtain ⟨z_69, rfl, hz_69, rfl, rfl⟩ := hq9
                  refine tz_aL (pc := 72) (z := (tm (J1 148 (J1 153 k)))) (v := (J 8 (tm (J1 148 (J1 153 k))))) dX10_takenAway_72 a_8 rfl (by omega) (Eq.trans (congrFun (f2 8 rfl) (tm (J1 148 (J1 153 k)))) rfl) (fun r_72 => ?_)
                  refine tz_icmp_ge (pc := 73) (tgt := 135) dX10_takenAway_73 (by decide) (by omega) (by omega) (fun h_73 => ?_) (fun h_73 => ?_)
                  · refine tz_iinc (pc := 135) (z := k + 1) (L2 := [_, _, _, _, _, _, _]) dX10_takenAway_135 rfl (by omega) rfl ?_
                    refine tz_goto (pc := 138) (tgt := 23) dX10_takenAway_138 (by decide) ?_
                    exact ih23 _ (k + 1) _ _ _ _ (by omega) (by omega) u2 l2 f2 v2 (s2.shut kg (by rw [e3]; rcases Decidable.em ((J1 148 (J1 153 k)) = -1) with q9 | q9; (have := nn9 q9; omega); (have := na9 q9; omega)))
                  · refine tz_aload_n (pc := 76) dX10_takenAway_76 rfl rfl ?_
                    refine tz_aload_n (pc := 77) dX10_takenAway_77 rfl rfl ?_
                    refine tz_iload (pc := 78) dX10_takenAway_78 rfl ?_
                    refine tz_iload (pc := 80) dX10_takenAway_80 rfl ?_
                    refine tz_cV (pc := 82) (u_part hl n _ _ _ (by omega) (by omega) b m (C.of (fun c hc => f2 c (by simp [zbut]; omega))) hn0 (by rw [f2 8 rfl]; omega)) vl_X10_93 dX10_takenAway_82 o_145 rfl rfl (Nat.le_of_ble_eq_true rfl) ⟨(Nat.le_of_ble_eq_true rfl), (Nat.le_of_ble_eq_true rfl)⟩ rfl rfl (Nat.le_of_ble_eq_true rfl) (Nat.le_of_ble_eq_true rfl) (fun r9 J_82 hq9 => ?_)
                    obtain ⟨zp, rfl, hz_82, rfl, hn9, hz9⟩ := hq9
                    have hz8 : zp = agN S 0 (J1 148 (J1 153 k)) i := by rw [(a0_nd E C hm6 hn0).2.2 i (by omega) (by omega), ← hz9, f2 9 rfl]
                    refine tz_cV (pc := 85) (u_top hl n _ _ (by omega) b m c hm hn9 u2.1 v2.1 hbc) vl_X10_54 dX10_takenAway_85 o_145 rfl rfl (Nat.le_of_ble_eq_true rfl) ⟨(Nat.le_of_ble_eq_true rfl), (Nat.le_of_ble_eq_true rfl)⟩ rfl rfl (Nat.le_of_ble_eq_true rfl) (Nat.le_of_ble_eq_true rfl) (fun r9 J3 hq9 => ?_)
                    obtain ⟨zt, rfl, hz_85, ⟨t1, t2, t3⟩, tv, tz⟩ := hq9
                    have tr := t2.1.rg hm
                    have l3 := l2.of (t3 153 rfl) (fun x q => by have := t1.2.2 x; rw [u2.2.1] at this; exact this q)
                    have a3 := t2.2
                    rw [u2.2.1] at a3
                    have vz := (nd.vn hbc hm).1 t2.1
                    have vp9 := (nd.vn hbc hm).1 hn9
                    have ch9 : zt = chi S T sh (J2 153 k) i := by unfold chi; rw [tz, v2.2.1 zp vp9, hTT zp vp9, e3, sd8, hz8]
                    have tt9 : T zt = zt := by rw [← hTT zt vz, ← v2.2.1 zt vz]; exact tp_r (by rw [tz]; exact (v2.1.root vp9).1)
                    have az9 : J3 146 zt = J3 145 10 := t2.2.trans (congrFun (t3 145 rfl) 10).symm
                    have uz9 : J3 154 zt = uuV J2 zt := by rw [← (tv.2.2 zt vz).2.2.1]; unfold uuV; rw [if_pos az9]
                    have hn3 : i < nai S sh (J2 153 k) := by rw [e3, na9 (by omega)]; omega
                    have lp9 : L zt := by rw [ch9]; exact hE.2.2.1 _ i (s2.2.2.1 k (by omega) kg) (by omega) hn3
                    have sp9 := (s2.step (u' := fun y => if y = zt then uuV J2 zt - 1 else uuV J2 y) kg (by omega) hn3 ch9 lp9 (fun y ly => (hE.2.1 y ly).1) (fun _ _ => rfl)).1
                    have sb9 := s2.ub lp9
                    have s19 := sp9.2
                    rw [← uz9] at sb9 s19
                    refine tz_istore (pc := 88) (L2 := [_, _, _, _, _, _, _]) dX10_takenAway_88 (by decide) rfl ?_
                    refine tz_aload_n (pc := 90) dX10_takenAway_90 rfl rfl ?_
                    refine tz_fR (pc := 91) dX10_takenAway_91 fl_X10_36 r_145_9 ?_
                    refine tz_iload (pc := 94) dX10_takenAway_94 rfl ?_
                    refine tz_dup2 (pc := 96) dX10_takenAway_96 rfl rfl ?_
                    refine tz_aL (pc := 97) (z := zt) (v := (J3 154 zt)) dX10_takenAway_97 a_154 rfl (by omega) rfl (fun r_97 => ?_)
                    refine tz_iconst (pc := 98) dX10_takenAway_98 ?_
                    refine tz_isub (pc := 99) (v := (J3 154 zt) - 1) dX10_takenAway_99 rfl ?_
                    refine tz_aS (pc := 100) (z := zt) dX10_takenAway_100 a_154 rfl (by omega) (by omega) ?_
                    refine tz_aload_n (pc := 101) dX10_takenAway_101 rfl rfl ?_
                    refine tz_fR (pc := 102) dX10_takenAway_102 fl_X10_36 r_145_9 ?_
                    refine tz_iload (pc := 105) dX10_takenAway_105 rfl ?_
                    refine tz_aL (pc := 107) (z := zt) (v := ((J3 154 zt) - 1)) dX10_takenAway_107 a_154 rfl (by omega) (by simp [zup]) (fun r_107 => ?_)
                    refine tz_if_ne (pc := 108) (tgt := 129) dX10_takenAway_108 (by decide) (by omega) (fun h_108 => ?_) (fun h_108 => ?_)
                    · refine tz_iinc (pc := 129) (z := i + 1) (L2 := [_, _, _, _, _, _, _]) dX10_takenAway_129 rfl (by omega) rfl ?_
                      refine tz_goto (pc := 132) (tgt := 51) dX10_takenAway_132 (by decide) ?_
                      exact ih51 (g2) (i + 1) _ _ (by omega) (by omega) ((t1.tr u2).of (Int.le_refl _) rfl (fun c hc => by rcases (show c = 146 ∨ c = 147 ∨ c = 148 ∨ c = 149 ∨ c = 150 by omega) with rfl | rfl | rfl | rfl | rfl <;> rfl)) (lsI.of l3 rfl (fun _ q => q)) (zOf.up rfl ((t3.mono (fun c hc => by simp [zbut] at hc ⊢; omega)).tr f2)) (vF.up (tv.f v2) (fun q hq => by rcases (show q = 7 ∨ q = 145 ∨ q = 146 ∨ q = 147 ∨ q = 148 ∨ q = 149 ∨ q = 150 by omega) with rfl | rfl | rfl | rfl | rfl | rfl | rfl <;> rfl)) (by first | (have q9 := (s2.step (u' := uuV ((zup J3 154 zt ((J3 154 zt) - 1)))) kg (by omega) hn3 ch9 lp9 (fun y ly => (hE.2.1 y ly).1) (fun y hy => by rw [uu_up (J2 := (zup J3 154 zt ((J3 154 zt) - 1))) (J1 := J3) (z := zt) (v := J3 154 zt - 1) (fun _ => rfl) rfl rfl az9 y, (tv.2.2 y hy).2.2.1, uz9])).2 (by rw [← uz9]; omega); rw [← t3 153 rfl] at q9; exact q9) | exact absurd (s2.1.lt (vz.b hc9) sp9.1) (by omega)) (by omega) ((congrFun (t3 153 rfl) k).trans e3)
                    · refine tz_iload_n (pc := 111) dX10_takenAway_111 rfl rfl ?_
                      refine tz_sipush (pc := 112) dX10_takenAway_112 (by decide) ?_
                      refine tz_icmp_ge (pc := 115) (tgt := 129) dX10_takenAway_115 (by decide) (by omega) (by decide) (fun h_115 => ?_) (fun h_115 => ?_)
                      · refine tz_iinc (pc := 129) (z := i + 1) (L2 := [_, _, _, _, _, _, _]) dX10_takenAway_129 rfl (by omega) rfl ?_
                        refine tz_goto (pc := 132) (tgt := 51) dX10_takenAway_132 (by decide) ?_
                        exact ih51 (g2) (i + 1) _ _ (by omega) (by omega) ((t1.tr u2).of (Int.le_refl _) rfl (fun c hc => by rcases (show c = 146 ∨ c = 147 ∨ c = 148 ∨ c = 149 ∨ c = 150 by omega) with rfl | rfl | rfl | rfl | rfl <;> rfl)) (lsI.of l3 rfl (fun _ q => q)) (zOf.up rfl ((t3.mono (fun c hc => by simp [zbut] at hc ⊢; omega)).tr f2)) (vF.up (tv.f v2) (fun q hq => by rcases (show q = 7 ∨ q = 145 ∨ q = 146 ∨ q = 147 ∨ q = 148 ∨ q = 149 ∨ q = 150 by omega) with rfl | rfl | rfl | rfl | rfl | rfl | rfl <;> rfl)) (by first | (have q9 := (s2.step (u' := uuV ((zup J3 154 zt ((J3 154 zt) - 1)))) kg (by omega) hn3 ch9 lp9 (fun y ly => (hE.2.1 y ly).1) (fun y hy => by rw [uu_up (J2 := (zup J3 154 zt ((J3 154 zt) - 1))) (J1 := J3) (z := zt) (v := J3 154 zt - 1) (fun _ => rfl) rfl rfl az9 y, (tv.2.2 y hy).2.2.1, uz9])).2 (by rw [← uz9]; omega); rw [← t3 153 rfl] at q9; exact q9) | exact absurd (s2.1.lt (vz.b hc9) sp9.1) (by omega)) (by omega) ((congrFun (t3 153 rfl) k).trans e3)
                      · refine tz_aload_n (pc := 118) dX10_takenAway_118 rfl rfl ?_
                        refine tz_fR (pc := 119) dX10_takenAway_119 fl_X10_33 r_145_8 ?_
                        refine tz_iload_n (pc := 122) dX10_takenAway_122 rfl rfl ?_
                        refine tz_iload (pc := 123) dX10_takenAway_123 rfl ?_
                        refine tz_aS (pc := 125) (z := g2) dX10_takenAway_125 a_153 rfl (by omega) (by omega) ?_
                        refine tz_iinc (pc := 126) (z := g2 + 1) (L2 := [_, _, _, _, _, _, _]) dX10_takenAway_126 rfl (by omega) rfl ?_
                        refine tz_iinc (pc := 129) (z := i + 1) (L2 := [_, _, _, _, _, _, _]) dX10_takenAway_129 rfl (by omega) rfl ?_
                        refine tz_goto (pc := 132) (tgt := 51) dX10_takenAway_132 (by decide) ?_
                        exact ih51 (g2 + 1) (i + 1) _ _ (by omega) (by omega) ((t1.tr u2).of (Int.le_refl _) rfl (fun c hc => by rcases (show c = 146 ∨ c = 147 ∨ c = 148 ∨ c = 149 ∨ c = 150 by omega) with rfl | rfl | rfl | rfl | rfl <;> rfl)) (lsI.push (lsI.of l3 rfl (fun _ q => q)) (by omega) t2.1 a3) (zOf.up rfl (zOf.up rfl ((t3.mono (fun c hc => by simp [zbut] at hc ⊢; omega)).tr f2))) (vF.up (tv.f v2) (fun q hq => by rcases (show q = 7 ∨ q = 145 ∨ q = 146 ∨ q = 147 ∨ q = 148 ∨ q = 149 ∨ q = 150 by omega) with rfl | rfl | rfl | rfl | rfl | rfl | rfl <;> rfl)) (s2.zero hc9 kg (by omega) hn3 ch9 lp9 hE.2.1 (fun y hy => by rw [uu_up (J2 := (zup (zup J3 154 zt ((J3 154 zt) - 1)) 153 g2 zt)) (J1 := J3) (z := zt) (v := J3 154 zt - 1) (fun _ => rfl) rfl rfl az9 y, (tv.2.2 y hy).2.2.1, uz9]) (by rw [← uz9]; omega) (fun q => by show (if q = g2 then zt else J3 153 q) = _; rw [t3 153 rfl])) (by omega) (by show (if k = g2 then zt else J3 153 k) = _; rw [if_neg (by omega), t3 153 rfl]; exact e3)
            exact loop51 _ _ 0 _ _ (Nat.lt_succ_self _) (by omega) u1 l1 f1 v1 (s1.beg hc9 (by omega)) (by omega) rfl
    exact loop23 _ 0 0 _ _ _ _ (Nat.lt_succ_self _) (by omega) (UW.rf hU) hL0 zOf.rf (vF.rf hP) (TKI.s0 hE (by omega))
  · refine tz_aload_n (pc := 11) dX10_takenAway_11 rfl rfl ?_
    refine tz_fR (pc := 12) dX10_takenAway_12 fl_X10_33 r_145_8 ?_
    refine tz_iload_n (pc := 15) dX10_takenAway_15 rfl rfl ?_
    refine tz_iload_n (pc := 16) dX10_takenAway_16 rfl rfl ?_
    refine tz_aS (pc := 17) (z := 0) dX10_takenAway_17 a_153 rfl (by decide) (by omega) ?_
    refine tz_iinc (pc := 18) (z := 1) (L2 := [_, _, _, _, _, _, _]) dX10_takenAway_18 rfl (by decide) rfl ?_
    refine tz_iconst (pc := 21) dX10_takenAway_21 ?_
    refine tz_istore_n (pc := 22) (L2 := [_, _, _, _, _, _, _]) dX10_takenAway_22 rfl (by decide) rfl ?_
    have loop23 : ∀ (f9 : Nat) (g : Int) (k : Int) (d4 : Option Value) (d5 : Option Value) (d6 : Option Value) (J1 : zJ), ((800 - k).toNat) < f9 → (0 ≤ k ∧ k ≤ 800) → (UW J1 J b m) → (lsI J1 J b m g) → (zOf (zbut [146, 147, 148, 149, 150, 153, 154]) J1 J) → (vF c m J1 J) → (TKI c m S T sh L (J1 153) (uuV J1) g k 0 0) → tz_At l G M_X10_takenAway (tb_rm 3 0 0) none (tb_ZM G 0 0 (zQ n 0 (zqi (fun z J' => (UW J' J b m ∧ zOf (zbut [146, 147, 148, 149, 150, 153, 154]) J' J) ∧ ((z < f → ¬ NRu (VN c m) (hdN S 0) (arN S 0 0) (agN S 0) (fun u v => T u = T v) x) ∧ ((∀ u, VN c m u → 0 ≤ hdN S 0 u → ¬ sh (T u) = -1) → CGm (VN c m) (hdN S 0) (arN S 0 0) (agN S 0) T → f ≤ z → NRu (VN c m) (hdN S 0) (arN S 0 0) (agN S 0) (fun u v => T u = T v) x)) ∧ vF c m J' J))) (zX n 0 zN)) 0 0 n J1 23 [some (.ref 145), some (zi x), some (zi g), some (zi k), d4, d5, d6] [] := by
      intro f9
      induction f9 with
      | zero => intro g k d4 d5 d6 J1 hm9; exact absurd hm9 (Nat.not_lt_zero _)
      | succ f9 ih23 =>
        intro g k d4 d5 d6 J1 hm23 hk u1 l1 f1 v1 s1
        have lr := l1.1
        refine tz_iload_n (pc := 23) dX10_takenAway_23 rfl rfl ?_
        refine tz_iload_n (pc := 24) dX10_takenAway_24 rfl rfl ?_
        refine tz_icmp_ge (pc := 25) (tgt := 141) dX10_takenAway_25 (by decide) (by omega) (by omega) (fun h_25 => ?_) (fun h_25 => ?_)
        · refine tz_iload_n (pc := 141) dX10_takenAway_141 rfl rfl ?_
          exact tz_iret (pc := 142) (z := g) dX10_takenAway_142 rfl (Nat.le_of_ble_eq_true rfl) (Nat.le_of_ble_eq_true rfl) ⟨Nat.le_refl _, Nat.le_add_right _ _⟩ ⟨_, rfl, (by omega), ⟨⟨u1, f1⟩, ⟨fun hg => TKI.no hc9 hE s1 (by have := s1.1.1; omega) hg hV9 hS9 h39, fun hN hT hg => TKI.yes hc9 hE s1 hg hV9 hS9 hN hT h39⟩, v1⟩⟩
        · refine tz_iload_n (pc := 28) dX10_takenAway_28 rfl rfl ?_
          refine tz_sipush (pc := 29) dX10_takenAway_29 (by decide) ?_
          refine tz_icmp_ge (pc := 32) (tgt := 141) dX10_takenAway_32 (by decide) (by omega) (by decide) (fun h_32 => ?_) (fun h_32 => ?_)
          · refine tz_iload_n (pc := 141) dX10_takenAway_141 rfl rfl ?_
            exact tz_iret (pc := 142) (z := g) dX10_takenAway_142 rfl (Nat.le_of_ble_eq_true rfl) (Nat.le_of_ble_eq_true rfl) ⟨Nat.le_refl _, Nat.le_add_right _ _⟩ ⟨_, rfl, (by omega), ⟨⟨u1, f1⟩, ⟨fun hg => TKI.no hc9 hE s1 (by have := s1.1.1; omega) hg hV9 hS9 h39, fun hN hT hg => TKI.yes hc9 hE s1 hg hV9 hS9 hN hT h39⟩, v1⟩⟩
          · refine tz_aload_n (pc := 35) dX10_takenAway_35 rfl rfl ?_
            refine tz_fR (pc := 36) dX10_takenAway_36 fl_X10_18 r_145_3 ?_
            refine tz_aload_n (pc := 39) dX10_takenAway_39 rfl rfl ?_
            refine tz_fR (pc := 40) dX10_takenAway_40 fl_X10_33 r_145_8 ?_
            refine tz_iload_n (pc := 43) dX10_takenAway_43 rfl rfl ?_
            refine tz_aL (pc := 44) (z := k) (v := (J1 153 k)) dX10_takenAway_44 a_153 rfl (by omega) rfl (fun r_44 => ?_)
            have q0 := l1.2 k (by omega) (by omega)
            have q0r := q0.1.rg hm
            have q1 := (u1.at hm q0.1 q0.2).2.2.1
            have dv9 := s1.1.2.1 k (by omega) (by omega)
            have sd9 : usV J (J1 153 k) = (J1 148 (J1 153 k)) := by rw [← (v1.2.2 _ dv9.1).1]; unfold usV; rw [if_pos (q0.2.trans u1.2.1.symm)]
            have sd8 : sh (J1 153 k) = (J1 148 (J1 153 k)) := (hsh _ dv9.1).symm.trans sd9
            have nn9 : (J1 148 (J1 153 k)) = -1 → nai S sh (J1 153 k) = 0 := fun q => by unfold nai; rw [sd8, if_pos q]
            have na9 : ¬ (J1 148 (J1 153 k)) = -1 → nai S sh (J1 153 k) = J 8 (tm (J1 148 (J1 153 k))) := fun q => by unfold nai; rw [sd8, if_neg q]; exact (a0_nd E C hm6 (q1.resolve_left q)).1
            refine tz_aL (pc := 45) (z := (J1 153 k)) (v := (J1 148 (J1 153 k))) dX10_takenAway_45 a_148 rfl (by omega) rfl (fun r_45 => ?_)
            refine tz_istore (pc := 46) (L2 := [_, _, _, _, _, _, _]) dX10_takenAway_46 (by decide) rfl ?_
            refine tz_iconst (pc := 48) dX10_takenAway_48 ?_
            refine tz_istore (pc := 49) (L2 := [_, _, _, _, _, _, _]) dX10_takenAway_49 (by decide) rfl ?_
            have loop51 : ∀ (f9 : Nat) (g2 : Int) (i : Int) (e6 : Option Value) (J2 : zJ), ((3 - i).toNat) < f9 → (0 ≤ i ∧ i ≤ 3) → (UW J2 J b m) → (lsI J2 J b m g2) → (zOf (zbut [146, 147, 148, 149, 150, 153, 154]) J2 J) → (vF c m J2 J) → (TKI c m S T sh L (J2 153) (uuV J2) g2 k i 1) → (k < g2) → (J2 153 k = J1 153 k) → tz_At l G M_X10_takenAway (tb_rm 3 0 0) none (tb_ZM G 0 0 (zQ n 0 (zqi (fun z J' => (UW J' J b m ∧ zOf (zbut [146, 147, 148, 149, 150, 153, 154]) J' J) ∧ ((z < f → ¬ NRu (VN c m) (hdN S 0) (arN S 0 0) (agN S 0) (fun u v => T u = T v) x) ∧ ((∀ u, VN c m u → 0 ≤ hdN S 0 u → ¬ sh (T u) = -1) → CGm (VN c m) (hdN S 0) (arN S 0 0) (agN S 0) T → f ≤ z → NRu (VN c m) (hdN S 0) (arN S 0 0) (agN S 0) (fun u v => T u = T v) x)) ∧ vF c m J' J))) (zX n 0 zN)) 0 0 n J2 51 [some (.ref 145), some (zi x), some (zi g2), some (zi k), some (zi (J1 148 (J1 153 k))), some (zi i), e6] [] := by
              intro f9
              induction f9 with
              | zero => intro g2 i e6 J2 hm9; exact absurd hm9 (Nat.not_lt_zero _)
              | succ f9 ih51 =>
                intro g2 i e6 J2 hm51 hi u2 l2 f2 v2 s2 kg e3
                have l2r := l2.1
                have e8 := f2 8 rfl
                refine tz_iload (pc := 51) dX10_takenAway_51 rfl ?_
                refine tz_iconst (pc := 53) dX10_takenAway_53 ?_
                refine tz_icmp_eq (pc := 54) (tgt := 135) dX10_takenAway_54 (by decide) (by omega) (by decide) (fun h_54 => ?_) (fun h_54 => ?_)
                · refine tz_iinc (pc := 135) (z := k + 1) (L2 := [_, _, _, _, _, _, _]) dX10_takenAway_135 rfl (by omega) rfl ?_
                  refine tz_goto (pc := 138) (tgt := 23) dX10_takenAway_138 (by decide) ?_
                  exact ih23 _ (k + 1) _ _ _ _ (by omega) (by omega) u2 l2 f2 v2 (s2.shut kg (by rw [e3]; rcases Decidable.em ((J1 148 (J1 153 k)) = -1) with q9 | q9; (have := nn9 q9; omega); (have := na9 q9; omega)))
                · have hn0 := q1.resolve_left (by omega)
                  have hnr := hn0.rg hm
                  have hnt := hn0.ix hm
                  have ha8 := C.ar hnt.1 hnt.2
                  have rD9 : upV J (J1 153 k) = (J1 153 k) := by have q9 := (hP.root dv9.1).1; rw [hTT _ dv9.1, dv9.2] at q9; exact q9
                  have xs9 := (hS _ dv9.1 rD9).1.resolve_left (by rw [sd9]; omega)
                  rw [sd9] at xs9
                  have xs8 := And.intro xs9.1 (And.intro xs9.2.1 ((hTT _ xs9.1).symm.trans xs9.2.2))
                  refine tz_iload (pc := 57) dX10_takenAway_57 rfl ?_
                  refine tz_aload_n (pc := 59) dX10_takenAway_59 rfl rfl ?_
                  refine tz_fR (pc := 60) dX10_takenAway_60 fl_X10_46 r_145_0 ?_
                  refine tz_fR (pc := 63) dX10_takenAway_63 fl_X10_90 r_6_2 ?_
                  refine tz_aload_n (pc := 66) dX10_takenAway_66 rfl rfl ?_
                  refine tz_iload (pc := 67) dX10_takenAway_67 rfl ?_
                  refine tz_cV (pc := 69) (c_uTerm hl n _ _ (by omega) (by omega)) vl_X10_68 dX10_takenAway_69 o_145 rfl rfl (Nat.le_of_ble_eq_true rfl) ⟨(Nat.le_of_ble_eq_true rfl), (Nat.le_of_ble_eq_true rfl)⟩ rfl rfl (Nat.le_of_ble_eq_true rfl) (Nat.le_of_ble_eq_true rfl) (fun r9 J_69 hq9 => ?_)
                  obtain ⟨z_69, rfl, hz_69, rfl, rfl⟩ := hq9
                  refine tz_aL (pc := 72) (z := (tm (J1 148 (J1 153 k)))) (v := (J 8 (tm (J1 148 (J1 153 k))))) dX10_takenAway_72 a_8 rfl (by omega) (Eq.trans (congrFun (f2 8 rfl) (tm (J1 148 (J1 153 k)))) rfl) (fun r_72 => ?_)
                  refine tz_icmp_ge (pc := 73) (tgt := 135) dX10_takenAway_73 (by decide) (by omega) (by omega) (fun h_73 => ?_) (fun h_73 => ?_)
                  · refine tz_iinc (pc := 135) (z := k + 1) (L2 := [_, _, _, _, _, _, _]) dX10_takenAway_135 rfl (by omega) rfl ?_
                    refine tz_goto (pc := 138) (tgt := 23) dX10_takenAway_138 (by decide) ?_
                    exact ih23 _ (k + 1) _ _ _ _ (by omega) (by omega) u2 l2 f2 v2 (s2.shut kg (by rw [e3]; rcases Decidable.em ((J1 148 (J1 153 k)) = -1) with q9 | q9; (have := nn9 q9; omega); (have := na9 q9; omega)))
                  · refine tz_aload_n (pc := 76) dX10_takenAway_76 rfl rfl ?_
                    refine tz_aload_n (pc := 77) dX10_takenAway_77 rfl rfl ?_
                    refine tz_iload (pc := 78) dX10_takenAway_78 rfl ?_
                    refine tz_iload (pc := 80) dX10_takenAway_80 rfl ?_
                    refine tz_cV (pc := 82) (u_part hl n _ _ _ (by omega) (by omega) b m (C.of (fun c hc => f2 c (by simp [zbut]; omega))) hn0 (by rw [f2 8 rfl]; omega)) vl_X10_93 dX10_takenAway_82 o_145 rfl rfl (Nat.le_of_ble_eq_true rfl) ⟨(Nat.le_of_ble_eq_true rfl), (Nat.le_of_ble_eq_true rfl)⟩ rfl rfl (Nat.le_of_ble_eq_true rfl) (Nat.le_of_ble_eq_true rfl) (fun r9 J_82 hq9 => ?_)
                    obtain ⟨zp, rfl, hz_82, rfl, hn9, hz9⟩ := hq9
                    have hz8 : zp = agN S 0 (J1 148 (J1 153 k)) i := by rw [(a0_nd E C hm6 hn0).2.2 i (by omega) (by omega), ← hz9, f2 9 rfl]
                    refine tz_cV (pc := 85) (u_top hl n _ _ (by omega) b m c hm hn9 u2.1 v2.1 hbc) vl_X10_54 dX10_takenAway_85 o_145 rfl rfl (Nat.le_of_ble_eq_true rfl) ⟨(Nat.le_of_ble_eq_true rfl), (Nat.le_of_ble_eq_true rfl)⟩ rfl rfl (Nat.le_of_ble_eq_true rfl) (Nat.le_of_ble_eq_true rfl) (fun r9 J3 hq9 => ?_)
                    obtain ⟨zt, rfl, hz_85, ⟨t1, t2, t3⟩, tv, tz⟩ := hq9
                    have tr := t2.1.rg hm
                    have l3 := l2.of (t3 153 rfl) (fun x q => by have := t1.2.2 x; rw [u2.2.1] at this; exact this q)
                    have a3 := t2.2
                    rw [u2.2.1] at a3
                    have vz := (nd.vn hbc hm).1 t2.1
                    have vp9 := (nd.vn hbc hm).1 hn9
                    have ch9 : zt = chi S T sh (J2 153 k) i := by unfold chi; rw [tz, v2.2.1 zp vp9, hTT zp vp9, e3, sd8, hz8]
                    have tt9 : T zt = zt := by rw [← hTT zt vz, ← v2.2.1 zt vz]; exact tp_r (by rw [tz]; exact (v2.1.root vp9).1)
                    have az9 : J3 146 zt = J3 145 10 := t2.2.trans (congrFun (t3 145 rfl) 10).symm
                    have uz9 : J3 154 zt = uuV J2 zt := by rw [← (tv.2.2 zt vz).2.2.1]; unfold uuV; rw [if_pos az9]
                    have hn3 : i < nai S sh (J2 153 k) := by rw [e3, na9 (by omega)]; omega
                    have lp9 : L zt := by rw [ch9]; exact hE.2.2.1 _ i (s2.2.2.1 k (by omega) kg) (by omega) hn3
                    have sp9 := (s2.step (u' := fun y => if y = zt then uuV J2 zt - 1 else uuV J2 y) kg (by omega) hn3 ch9 lp9 (fun y ly => (hE.2.1 y ly).1) (fun _ _ => rfl)).1
                    have sb9 := s2.ub lp9
                    have s19 := sp9.2
                    rw [← uz9] at sb9 s19
                    refine tz_istore (pc := 88) (L2 := [_, _, _, _, _, _, _]) dX10_takenAway_88 (by decide) rfl ?_
                    refine tz_aload_n (pc := 90) dX10_takenAway_90 rfl rfl ?_
                    refine tz_fR (pc := 91) dX10_takenAway_91 fl_X10_36 r_145_9 ?_
                    refine tz_iload (pc := 94) dX10_takenAway_94 rfl ?_
                    refine tz_dup2 (pc := 96) dX10_takenAway_96 rfl rfl ?_
                    refine tz_aL (pc := 97) (z := zt) (v := (J3 154 zt)) dX10_takenAway_97 a_154 rfl (by omega) rfl (fun r_97 => ?_)
                    refine tz_iconst (pc := 98) dX10_takenAway_98 ?_
                    refine tz_isub (pc := 99) (v := (J3 154 zt) - 1) dX10_takenAway_99 rfl ?_
                    refine tz_aS (pc := 100) (z := zt) dX10_takenAway_100 a_154 rfl (by omega) (by omega) ?_
                    refine tz_aload_n (pc := 101) dX10_takenAway_101 rfl rfl ?_
                    refine tz_fR (pc := 102) dX10_takenAway_102 fl_X10_36 r_145_9 ?_
                    refine tz_iload (pc := 105) dX10_takenAway_105 rfl ?_
                    refine tz_aL (pc := 107) (z := zt) (v := ((J3 154 zt) - 1)) dX10_takenAway_107 a_154 rfl (by omega) (by simp [zup]) (fun r_107 => ?_)
                    refine tz_if_ne (pc := 108) (tgt := 129) dX10_takenAway_108 (by decide) (by omega) (fun h_108 => ?_) (fun h_108 => ?_)
                    · refine tz_iinc (pc := 129) (z := i + 1) (L2 := [_, _, _, _, _, _, _]) dX10_takenAway_129 rfl (by omega) rfl ?_
                      refine tz_goto (pc := 132) (tgt := 51) dX10_takenAway_132 (by decide) ?_
                      exact ih51 (g2) (i + 1) _ _ (by omega) (by omega) ((t1.tr u2).of (Int.le_refl _) rfl (fun c hc => by rcases (show c = 146 ∨ c = 147 ∨ c = 148 ∨ c = 149 ∨ c = 150 by omega) with rfl | rfl | rfl | rfl | rfl <;> rfl)) (lsI.of l3 rfl (fun _ q => q)) (zOf.up rfl ((t3.mono (fun c hc => by simp [zbut] at hc ⊢; omega)).tr f2)) (vF.up (tv.f v2) (fun q hq => by rcases (show q = 7 ∨ q = 145 ∨ q = 146 ∨ q = 147 ∨ q = 148 ∨ q = 149 ∨ q = 150 by omega) with rfl | rfl | rfl | rfl | rfl | rfl | rfl <;> rfl)) (by first | (have q9 := (s2.step (u' := uuV ((zup J3 154 zt ((J3 154 zt) - 1)))) kg (by omega) hn3 ch9 lp9 (fun y ly => (hE.2.1 y ly).1) (fun y hy => by rw [uu_up (J2 := (zup J3 154 zt ((J3 154 zt) - 1))) (J1 := J3) (z := zt) (v := J3 154 zt - 1) (fun _ => rfl) rfl rfl az9 y, (tv.2.2 y hy).2.2.1, uz9])).2 (by rw [← uz9]; omega); rw [← t3 153 rfl] at q9; exact q9) | exact absurd (s2.1.lt (vz.b hc9) sp9.1) (by omega)) (by omega) ((congrFun (t3 153 rfl) k).trans e3)
                    · refine tz_iload_n (pc := 111) dX10_takenAway_111 rfl rfl ?_
                      refine tz_sipush (pc := 112) dX10_takenAway_112 (by decide) ?_
                      refine tz_icmp_ge (pc := 115) (tgt := 129) dX10_takenAway_115 (by decide) (by omega) (by decide) (fun h_115 => ?_) (fun h_115 => ?_)
                      · refine tz_iinc (pc := 129) (z := i + 1) (L2 := [_, _, _, _, _, _, _]) dX10_takenAway_129 rfl (by omega) rfl ?_
                        refine tz_goto (pc := 132) (tgt := 51) dX10_takenAway_132 (by decide) ?_
                        exact ih51 (g2) (i + 1) _ _ (by omega) (by omega) ((t1.tr u2).of (Int.le_refl _) rfl (fun c hc => by rcases (show c = 146 ∨ c = 147 ∨ c = 148 ∨ c = 149 ∨ c = 150 by omega) with rfl | rfl | rfl | rfl | rfl <;> rfl)) (lsI.of l3 rfl (fun _ q => q)) (zOf.up rfl ((t3.mono (fun c hc => by simp [zbut] at hc ⊢; omega)).tr f2)) (vF.up (tv.f v2) (fun q hq => by rcases (show q = 7 ∨ q = 145 ∨ q = 146 ∨ q = 147 ∨ q = 148 ∨ q = 149 ∨ q = 150 by omega) with rfl | rfl | rfl | rfl | rfl | rfl | rfl <;> rfl)) (by first | (have q9 := (s2.step (u' := uuV ((zup J3 154 zt ((J3 154 zt) - 1)))) kg (by omega) hn3 ch9 lp9 (fun y ly => (hE.2.1 y ly).1) (fun y hy => by rw [uu_up (J2 := (zup J3 154 zt ((J3 154 zt) - 1))) (J1 := J3) (z := zt) (v := J3 154 zt - 1) (fun _ => rfl) rfl rfl az9 y, (tv.2.2 y hy).2.2.1, uz9])).2 (by rw [← uz9]; omega); rw [← t3 153 rfl] at q9; exact q9) | exact absurd (s2.1.lt (vz.b hc9) sp9.1) (by omega)) (by omega) ((congrFun (t3 153 rfl) k).trans e3)
                      · refine tz_aload_n (pc := 118) dX10_takenAway_118 rfl rfl ?_
                        refine tz_fR (pc := 119) dX10_takenAway_119 fl_X10_33 r_145_8 ?_
                        refine tz_iload_n (pc := 122) dX10_takenAway_122 rfl rfl ?_
                        refine tz_iload (pc := 123) dX10_takenAway_123 rfl ?_
                        refine tz_aS (pc := 125) (z := g2) dX10_takenAway_125 a_153 rfl (by omega) (by omega) ?_
                        refine tz_iinc (pc := 126) (z := g2 + 1) (L2 := [_, _, _, _, _, _, _]) dX10_takenAway_126 rfl (by omega) rfl ?_
                        refine tz_iinc (pc := 129) (z := i + 1) (L2 := [_, _, _, _, _, _, _]) dX10_takenAway_129 rfl (by omega) rfl ?_
                        refine tz_goto (pc := 132) (tgt := 51) dX10_takenAway_132 (by decide) ?_
                        exact ih51 (g2 + 1) (i + 1) _ _ (by omega) (by omega) ((t1.tr u2).of (Int.le_refl _) rfl (fun c hc => by rcases (show c = 146 ∨ c = 147 ∨ c = 148 ∨ c = 149 ∨ c = 150 by omega) with rfl | rfl | rfl | rfl | rfl <;> rfl)) (lsI.push (lsI.of l3 rfl (fun _ q => q)) (by omega) t2.1 a3) (zOf.up rfl (zOf.up rfl ((t3.mono (fun c hc => by simp [zbut] at hc ⊢; omega)).tr f2))) (vF.up (tv.f v2) (fun q hq => by rcases (show q = 7 ∨ q = 145 ∨ q = 146 ∨ q = 147 ∨ q = 148 ∨ q = 149 ∨ q = 150 by omega) with rfl | rfl | rfl | rfl | rfl | rfl | rfl <;> rfl)) (s2.zero hc9 kg (by omega) hn3 ch9 lp9 hE.2.1 (fun y hy => by rw [uu_up (J2 := (zup (zup J3 154 zt ((J3 154 zt) - 1)) 153 g2 zt)) (J1 := J3) (z := zt) (v := J3 154 zt - 1) (fun _ => rfl) rfl rfl az9 y, (tv.2.2 y hy).2.2.1, uz9]) (by rw [← uz9]; omega) (fun q => by show (if q = g2 then zt else J3 153 q) = _; rw [t3 153 rfl])) (by omega) (by show (if k = g2 then zt else J3 153 k) = _; rw [if_neg (by omega), t3 153 rfl]; exact e3)
            exact loop51 _ _ 0 _ _ (Nat.lt_succ_self _) (by omega) u1 l1 f1 v1 (s1.beg hc9 (by omega)) (by omega) rfl
    exact loop23 _ 1 0 _ _ _ _ (Nat.lt_succ_self _) (by omega) ((UW.rf hU).of (Int.le_refl _) rfl (fun c hc => by rcases (show c = 146 ∨ c = 147 ∨ c = 148 ∨ c = 149 ∨ c = 150 by omega) with rfl | rfl | rfl | rfl | rfl <;> rfl)) (lsI.push hL0 (by decide) hx ax) (zOf.up rfl zOf.rf) (vF.up (vF.rf hP) (fun q hq => by rcases (show q = 7 ∨ q = 145 ∨ q = 146 ∨ q = 147 ∨ q = 148 ∨ q = 149 ∨ q = 150 by omega) with rfl | rfl | rfl | rfl | rfl | rfl | rfl <;> rfl)) (TKI.s1 (u := uuV J) hc9 hE (by omega) (by show (if (0 : Int) = 0 then x else J 153 0) = x; rw [if_pos rfl]))

end
section
/-! ===== wayOf of the class: what holds between two pairs ===== -/
theorem rsp_eq {V : Int → Prop} {p1 p2 f : Int → Int} (U1 : UFp V p1) (U2 : UFp V p2) (e : ∀ x, V x → tp p2 x = tp p1 x) (r : Rsp V p1 f) : Rsp V p2 f := fun y hy => by
  rw [← U1.f r (U2.V hy), ← e _ (U2.V hy), U2.p y hy, e y hy, U1.f r hy]
theorem CLp.eqt {V : Int → Prop} {hd ar : Int → Int} {ag : Int → Int → Int} {p1 p2 : Int → Int} {Q : (Int → Int) → Prop} (U1 : UFp V p1) (U2 : UFp V p2) (e : ∀ x, V x → tp p2 x = tp p1 x) (h : CLp V hd ar ag p1 Q) : CLp V hd ar ag p2 Q := fun x y hx hy q h1 h2 => by
  rw [e x hx, e y hy] at q
  obtain ⟨a, b⟩ := h x y hx hy q h1 h2
  exact ⟨a, fun f r w => b f (rsp_eq U2 U1 (fun x hx => (e x hx).symm) r) w⟩
theorem SHp.eqt {V : Int → Prop} {hd p1 p2 sh1 sh2 lv1 lv2 : Int → Int} (U1 : UFp V p1) (e : ∀ x, V x → tp p2 x = tp p1 x) (es : ∀ x, V x → sh2 x = sh1 x) (el : ∀ x, V x → lv2 x = lv1 x) (h : SHp V hd p1 sh1 lv1) : SHp V hd p2 sh2 lv2 := fun a ha ra => by
  have r1 : p1 a = a := by
    have q := (U1.root ha).1
    rw [← e a ha, tp_r ra] at q
    exact q
  obtain ⟨k1, k2⟩ := h a ha r1
  rw [es a ha, el a ha]
  refine ⟨k1.imp id (fun q => ⟨q.1, q.2.1, by rw [e _ q.1]; exact q.2.2⟩), fun w => ?_⟩
  obtain ⟨x1, u, hu, e1, e2⟩ := k2 w
  exact ⟨fun u hu q => x1 u hu (by rw [← e u hu]; exact q), u, hu, by rw [e u hu]; exact e1, e2⟩
/-- what still waits -/
def PND (J : zJ) (k : Int) (f : Int → Int) : Prop := ∀ j, k ≤ j → j < J 145 11 → f (J 151 j) = f (J 152 j)
def WAY (c m : Int) (S : zJ) (s t : Int) (J : zJ) (k : Int) : Prop := UFp (VN c m) (upV J) ∧ SHp (VN c m) (hdN S 0) (upV J) (usV J) (ulV J) ∧ (∀ y, VN c m y → uuV J y = -1 ∧ uoV J y = -1) ∧ (∀ f, CGm (VN c m) (hdN S 0) (arN S 0 0) (agN S 0) f → f s = f t → Rsp (VN c m) (upV J) f ∧ ∀ j, 0 ≤ j → j < J 145 11 → f (J 151 j) = f (J 152 j)) ∧ CLp (VN c m) (hdN S 0) (arN S 0 0) (agN S 0) (upV J) (PND J k) ∧ (∀ f, Rsp (VN c m) (upV J) f → PND J k f → f s = f t) ∧ J 145 11 + 3 * (cnP (fun x => VN c m x ∧ tp (upV J) x = x) : Int) ≤ 2401
theorem WAY.e {c m s t k : Int} {S J2 J1 : zJ} (h : WAY c m S s t J1 k) (v : vE c m J2 J1) (e5 : J2 145 11 = J1 145 11) (e1 : J2 151 = J1 151) (e2 : J2 152 = J1 152) : WAY c m S s t J2 k := by
  obtain ⟨U1, hS, hu, hA, hB, hD, hn⟩ := h
  obtain ⟨U2, et, ev⟩ := v
  have ep : PND J2 k = PND J1 k := by unfold PND; rw [e5, e1, e2]
  refine ⟨U2, hS.eqt U1 et (fun x hx => (ev x hx).1) (fun x hx => (ev x hx).2.1), fun y hy => ?_, fun f g q => ?_, ?_, fun f r q => ?_, ?_⟩
  · obtain ⟨_, _, a, b⟩ := ev y hy
    rw [a, b]; exact hu y hy
  · obtain ⟨a, b⟩ := hA f g q
    rw [e5, e1, e2]
    exact ⟨rsp_eq U1 U2 et a, b⟩
  · rw [ep]; exact hB.eqt U1 U2 et
  · rw [ep] at q
    exact hD f (rsp_eq U2 U1 (fun x hx => (et x hx).symm) r) q
  · rw [e5]
    have : (fun x => VN c m x ∧ tp (upV J2) x = x) = (fun x => VN c m x ∧ tp (upV J1) x = x) := funext fun x => propext ⟨fun q => ⟨q.1, by rw [← et x q.1]; exact q.2⟩, fun q => ⟨q.1, by rw [et x q.1]; exact q.2⟩⟩
    rw [this]; exact hn
theorem PND.s {J : zJ} {k : Int} {f : Int → Int} (h : PND J (k + 1) f) (q : f (J 151 k) = f (J 152 k)) : PND J k f := fun j a b => by
  by_cases w : j = k
  · rw [w]; exact q
  · exact h j (by omega) b
theorem WAY.same {c m s t k : Int} {S J : zJ} (h : WAY c m S s t J k) (v1 : VN c m (J 151 k)) (v2 : VN c m (J 152 k)) (e : tp (upV J) (J 151 k) = tp (upV J) (J 152 k)) : WAY c m S s t J (k + 1) := by
  obtain ⟨U, hS, hu, hA, hB, hD, hn⟩ := h
  refine ⟨U, hS, hu, hA, hB.mono (fun f r q => q.s (U.eq r v1 v2 e)), fun f r q => hD f r (q.s (U.eq r v1 v2 e)), hn⟩
theorem cnP_2 {D : Int → Prop} {a b : Int} (ha : 0 ≤ a ∧ a < 800) (hb : 0 ≤ b ∧ b < 800) (n : ¬ a = b) (da : D a) (db : D b) : 2 ≤ cnP D := by
  have h1 := cnP_lt (D := fun _ => False) (D' := fun x => x = a) (fun _ _ q => q.elim) ⟨a, ha, rfl, id⟩
  have h2 := cnP_lt (D := fun x => x = a) (D' := D) (fun x _ q => by rw [q]; exact da) ⟨b, hb, db, fun q => n q.symm⟩
  omega
/-- two classes made one -/
theorem WAY.join {c m s t k a b : Int} {S J J' : zJ} (hc : c = 400 ∨ c = 800) (h : WAY c m S s t J k) (hk : 0 ≤ k ∧ k < J 145 11) (v1 : VN c m (J 151 k)) (v2 : VN c m (J 152 k)) (ea : tp (upV J) (J 151 k) = a) (eb : tp (upV J) (J 152 k) = b) (hab : ¬ a = b) (L : VLK c m J' J a b) (q : ((usV J a = -1 ∨ usV J b = -1) ∧ J' 145 11 = J 145 11 ∧ J' 151 = J 151 ∧ J' 152 = J 152) ∨ (¬ usV J a = -1 ∧ ¬ usV J b = -1 ∧ hdN S 0 (usV J a) = hdN S 0 (usV J b) ∧ (J 145 11 ≤ 2398 → ∃ A, (arN S 0 0 (usV J a) = A ∧ 0 ≤ A ∧ A ≤ 3) ∧ J' 145 11 = J 145 11 + A ∧ (∀ j, j < J 145 11 → J' 151 j = J 151 j ∧ J' 152 j = J 152 j) ∧ ∀ i, 0 ≤ i → i < A → J' 151 (J 145 11 + i) = agN S 0 (usV J a) i ∧ J' 152 (J 145 11 + i) = agN S 0 (usV J b) i))) : WAY c m S s t J' (k + 1) := by
  obtain ⟨U, hS, hu, hA, hB, hD, hn⟩ := h
  obtain ⟨l1, l2, l3, l4, l5⟩ := L
  have ra := U.root v1
  have rb := U.root v2
  rw [ea] at ra
  rw [eb] at rb
  obtain ⟨U', tp', rs⟩ := U.link ⟨ra.2, ra.1⟩ ⟨rb.2, rb.1⟩ hab l1
  have hS' := hS.link U ⟨ra.2, ra.1⟩ ⟨rb.2, rb.1⟩ hab l1 l2 l3 l4 (fun k hk => by have := hk.1; omega)
  have fab : ∀ f, Rsp (VN c m) (upV J) f → (f (J 151 k) = f (J 152 k) ↔ f a = f b) := fun f r => by rw [← U.f r v1, ← U.f r v2, ea, eb]
  have rt2 := cnP_2 (D := fun x => VN c m x ∧ tp (upV J) x = x) (ra.2.b hc) (rb.2.b hc) hab ⟨ra.2, tp_r ra.1⟩ ⟨rb.2, tp_r rb.1⟩
  have rtl := cnP_lt (D := fun x => VN c m x ∧ tp (upV J') x = x) (D' := fun x => VN c m x ∧ tp (upV J) x = x) (fun x _ y => ⟨y.1, by
    have w := y.2
    rw [tp' x y.1] at w
    by_cases z : tp (upV J) x = b
    · rw [if_pos z] at w
      rw [← w, tp_r ra.1] at z
      exact absurd z hab
    · rw [if_neg z] at w; exact w⟩) ⟨b, rb.2.b hc, ⟨rb.2, tp_r rb.1⟩, fun y => by
    have w := y.2
    rw [tp' b rb.2, tp_r rb.1, if_pos rfl] at w
    exact hab w⟩
  refine ⟨U', hS', fun y hy => by rw [(l5 y hy).1, (l5 y hy).2]; exact hu y hy, ?_⟩
  have old : ∀ f, CGm (VN c m) (hdN S 0) (arN S 0 0) (agN S 0) f → f s = f t → Rsp (VN c m) (upV J') f ∧ Rsp (VN c m) (upV J) f ∧ f a = f b ∧ ∀ j, 0 ≤ j → j < J 145 11 → f (J 151 j) = f (J 152 j) := fun f g w => by
    obtain ⟨x, y⟩ := hA f g w
    have z := (fab f x).1 (y k hk.1 hk.2)
    exact ⟨(rs f).2 ⟨x, z⟩, x, z, y⟩
  rcases q with ⟨q1, q2, q3, q4⟩ | ⟨q1, q2, q3, q4⟩
  · have ep : PND J' (k + 1) = PND J (k + 1) := by unfold PND; rw [q2, q3, q4]
    refine ⟨fun f g w => ⟨(old f g w).1, by rw [q2, q3, q4]; exact (old f g w).2.2.2⟩, ?_, fun f r w => ?_, by rw [q2]; omega⟩
    · rw [ep]
      refine (hB.mono (fun f r w => PND.s w.1 w.2)).one (Q := PND J (k + 1)) U v1 v2 ea eb hab l1 ?_
      rcases q1 with q1 | q1
      · exact Or.inl (fun u hu eu => (((hS a ra.2 ra.1).2 q1).1 u hu eu).1)
      · exact Or.inr (fun u hu eu => (((hS b rb.2 rb.1).2 q1).1 u hu eu).1)
    · rw [ep] at w
      obtain ⟨r1, r2⟩ := (rs f).1 r
      exact hD f r1 (w.s ((fab f r1).2 r2))
  · obtain ⟨A, ⟨hA1, hA0, hA2⟩, p1, p2, p3⟩ := q4 (by omega)
    obtain ⟨x1, x2, x3⟩ := (hS a ra.2 ra.1).1.resolve_left q1
    obtain ⟨y1, y2, y3⟩ := (hS b rb.2 rb.1).1.resolve_left q2
    refine ⟨fun f g w => ?_, ?_, fun f r w => ?_, by rw [p1]; omega⟩
    · obtain ⟨w1, w2, w3, w4⟩ := old f g w
      refine ⟨w1, fun j a1 b1 => ?_⟩
      by_cases z : j < J 145 11
      · rw [(p2 j z).1, (p2 j z).2]; exact w4 j a1 z
      · have e1 : f (usV J a) = f (usV J b) := by rw [U.eq w2 x1 v1 (x3.trans ea.symm), U.eq w2 y1 v2 (y3.trans eb.symm)]; exact (fab f w2).2 w3
        have e2 := (g _ _ x1 y1 e1 x2 y2).2 (j - J 145 11) (by omega) (by omega)
        have e3 := p3 (j - J 145 11) (by omega) (by omega)
        rw [show J 145 11 + (j - J 145 11) = j from by omega] at e3
        rw [e3.1, e3.2]
        exact e2
    · refine ((hB.mono (fun f r w => PND.s w.1 w.2)).two (Q := PND J (k + 1)) (x0 := usV J a) (y0 := usV J b) (fun u v _ _ _ e => by unfold arN mar; unfold hdN at e; rw [e]) U v1 v2 ea eb hab l1 ⟨x1, x2, x3⟩ ⟨y1, y2, y3⟩ q3).mono (fun f r w => ⟨fun j a1 b1 => ?_, fun i a1 b1 => ?_⟩)
      · have := w j a1 (by omega)
        rw [(p2 j b1).1, (p2 j b1).2] at this
        exact this
      · have := w (J 145 11 + i) (by omega) (by omega)
        have e3 := p3 i a1 (by omega)
        rw [e3.1, e3.2] at this
        exact this
    · obtain ⟨r1, r2⟩ := (rs f).1 r
      refine hD f r1 (PND.s (fun j a1 b1 => ?_) ((fab f r1).2 r2))
      have := w j a1 (by omega)
      rw [(p2 j b1).1, (p2 j b1).2] at this
      exact this
theorem WAY.no {c m s t k a b : Int} {S J : zJ} (h : WAY c m S s t J k) (hk : 0 ≤ k ∧ k < J 145 11) (v1 : VN c m (J 151 k)) (v2 : VN c m (J 152 k)) (ea : tp (upV J) (J 151 k) = a) (eb : tp (upV J) (J 152 k) = b) (q1 : ¬ usV J a = -1) (q2 : ¬ usV J b = -1) (n : ¬ hdN S 0 (usV J a) = hdN S 0 (usV J b)) : ¬ ∃ f, CGm (VN c m) (hdN S 0) (arN S 0 0) (agN S 0) f ∧ f s = f t := by
  rintro ⟨f, g, w⟩
  obtain ⟨U, hS, hu, hA, hB, hD, hn⟩ := h
  have ra := U.root v1
  have rb := U.root v2
  rw [ea] at ra
  rw [eb] at rb
  obtain ⟨x1, x2, x3⟩ := (hS a ra.2 ra.1).1.resolve_left q1
  obtain ⟨y1, y2, y3⟩ := (hS b rb.2 rb.1).1.resolve_left q2
  obtain ⟨r, y⟩ := hA f g w
  exact n (g _ _ x1 y1 (by rw [U.eq r x1 v1 (x3.trans ea.symm), U.eq r y1 v2 (y3.trans eb.symm)]; exact y k hk.1 hk.2) x2 y2).1
theorem WAY.fin {c m s t k : Int} {S J : zJ} (h : WAY c m S s t J k) (hk : J 145 11 ≤ k) : CGm (VN c m) (hdN S 0) (arN S 0 0) (agN S 0) (tp (upV J)) ∧ tp (upV J) s = tp (upV J) t ∧ ∀ u v, VN c m u → VN c m v → (tp (upV J) u = tp (upV J) v ↔ LCu (VN c m) (hdN S 0) (arN S 0 0) (agN S 0) s t u v) := by
  obtain ⟨U, hS, hu, hA, hB, hD, hn⟩ := h
  have pd : ∀ f, PND J k f := fun f j a b => by omega
  have g := (hB.mono (Q' := fun _ => True) (fun f _ _ => pd f)).cg U
  have e := hD _ U.p (pd _)
  exact ⟨g, e, fun u v hu hv => ⟨fun q f gf qf => U.eq (hA f gf qf).1 hu hv q, fun q => q _ g e⟩⟩
/-- a round begins -/
theorem WAY.start {c m s t : Int} {S J' : zJ} (hc : c = 400 ∨ c = 800) (e : ∀ u, VN c m u → ¬ J' 146 u = J' 145 10) (hh : ∀ u, VN c m u → hdN S 0 u = J' 7 (tm u)) (e5 : J' 145 11 = 1) (e1 : J' 151 0 = s) (e2 : J' 152 0 = t) : WAY c m S s t J' 0 := by
  have ep : ∀ u, VN c m u → upV J' u = u := fun u hu => by unfold upV; rw [if_neg (e u hu)]
  have et : ∀ u, VN c m u → tp (upV J') u = u := fun u hu => tp_r (ep u hu)
  have U : UFp (VN c m) (upV J') := ⟨fun _ => 0, fun u hu => by rw [ep u hu]; exact ⟨hu, Or.inl rfl⟩⟩
  have h8 := cnP_8 (fun x => VN c m x ∧ tp (upV J') x = x)
  refine ⟨U, fun a ha _ => ?_, fun u hu => by unfold uuV uoV; rw [if_neg (e u hu), if_neg (e u hu)]; exact ⟨rfl, rfl⟩, fun f _ q => ⟨fun u hu => by rw [ep u hu], fun j a b => by rw [show j = 0 by omega, e1, e2]; exact q⟩, fun u v hu hv k h1 h2 => ?_, fun f _ q => ?_, by rw [e5]; omega⟩
  · have hs : usV J' a = if J' 7 (tm a) < 0 then -1 else a := by unfold usV; rw [if_neg (e a ha)]
    have hl : ulV J' a = -1 - J' 7 (tm a) := by unfold ulV; rw [if_neg (e a ha)]
    have h7 := hh a ha
    rw [hs]
    by_cases w : J' 7 (tm a) < 0
    · rw [if_pos w]
      refine ⟨Or.inl rfl, fun _ => ⟨fun u hu eu => ?_, a, ha, et a ha, by rw [hl, h7]⟩⟩
      rw [et u hu] at eu
      subst eu
      omega
    · rw [if_neg w]
      exact ⟨Or.inr ⟨ha, by omega, et a ha⟩, fun q => by have := ha.1; omega⟩
  · rw [et u hu, et v hv] at k
    rw [k]
    exact ⟨rfl, fun _ _ _ _ _ _ => rfl⟩
  · have := q 0 (by omega) (by omega)
    rw [e1, e2] at this
    exact this
end
section
/-! ===== wayOf of the class, exact ===== -/
theorem WAY.lst {c m s t k a : Int} {S J : zJ} (h : WAY c m S s t J k) (hv : VN c m a) (ra : upV J a = a) (aw : J 146 a = J 145 10) (h8 : ∀ u, VN c m u → -8 ≤ hdN S 0 u) (w : J 148 a = -1) : -8 ≤ J 7 (tm (J 149 a)) ∧ J 7 (tm (J 149 a)) < 0 := by
  have e1 : usV J a = -1 := by unfold usV; rw [if_pos aw]; exact w
  have e2 : ulV J a = -1 - J 7 (tm (J 149 a)) := by unfold ulV; rw [if_pos aw]
  obtain ⟨x1, u, hu, eu, el⟩ := (h.2.1 a hv ra).2 e1
  have := (x1 u hu eu).1
  have := h8 u hu
  omega
/-- the class's nodes are those of the functions -/
def NDE (c m : Int) (S J : zJ) : Prop := ∀ u, VN c m u → hdN S 0 u = J 7 (tm u) ∧ arN S 0 0 u = J 8 (tm u) ∧ (0 ≤ J 8 (tm u) ∧ J 8 (tm u) ≤ 3) ∧ ∀ i, 0 ≤ i → i < J 8 (tm u) → agN S 0 u i = J 9 (tm u * 3 + i) + sd u
theorem NDE.of {c m : Int} {S J' J : zJ} (h : NDE c m S J) (e7 : J' 7 = J 7) (e8 : J' 8 = J 8) (e9 : J' 9 = J 9) : NDE c m S J' := by
  unfold NDE
  rw [e7, e8, e9]
  exact h
theorem nde_mk {b c m : Int} {J S : zJ} (E : A0 J S) (C : CT J m) (hm : J 6 12 = m) (hbc : (b = 0 ∧ c = 400) ∨ (b = 400 ∧ c = 800)) : NDE c m S J := fun u hu => by
  have t := C.told.2
  have n := (nd.vn hbc t).2 hu
  have i := n.ix t
  have w := a0_nd E C hm n
  exact ⟨w.2.1, w.1, (C.ar i.1 i.2).1, w.2.2⟩
theorem way_next {c m s t k a b1 z : Int} {S J J' : zJ} (hc : c = 400 ∨ c = 800) (h : WAY c m S s t J k) (hk : 0 ≤ k ∧ k < J 145 11) (v1 : VN c m (J 151 k)) (v2 : VN c m (J 152 k)) (ea : tp (upV J) (J 151 k) = a) (eb : tp (upV J) (J 152 k) = b1) (aa : J 146 a = J 145 10) (ab : J 146 b1 = J 145 10) (N : NDE c m S J) (q : UJN c m J J' a b1 z) (hz : z = 1) : WAY c m S s t J' (k + 1) := by
  have sa : usV J a = J 148 a := by unfold usV; rw [if_pos aa]
  have sb : usV J b1 = J 148 b1 := by unfold usV; rw [if_pos ab]
  have ra := h.1.root v1
  have rb := h.1.root v2
  rw [ea] at ra
  rw [eb] at rb
  rcases q with ⟨q1, _, q3⟩ | ⟨q1, q2, q3⟩
  · rw [← q3]
    exact h.same v1 v2 (by rw [ea, eb]; exact q1)
  · refine h.join hc hk v1 v2 ea eb q1 q2 ?_
    rw [sa, sb]
    rcases q3 with ⟨u1, _, u3, u4, u5⟩ | ⟨u1, u2, u3⟩
    · exact Or.inl ⟨u1, u3, u4, u5⟩
    · have na := (h.2.1 a ra.2 ra.1).1.resolve_left (by rw [sa]; exact u1)
      have nb := (h.2.1 b1 rb.2 rb.1).1.resolve_left (by rw [sb]; exact u2)
      rw [sa] at na
      rw [sb] at nb
      obtain ⟨n1, n2, n3, n4⟩ := N _ na.1
      obtain ⟨o1, o2, o3, o4⟩ := N _ nb.1
      rcases u3 with ⟨w, _⟩ | ⟨_, w2, w3⟩
      · omega
      · have ha : J 8 (tm (J 148 b1)) = J 8 (tm (J 148 a)) := by
          rw [← o2, ← n2]
          unfold arN mar
          have e : hdN S 0 (J 148 b1) = hdN S 0 (J 148 a) := by rw [n1, o1]; exact w2.symm
          unfold hdN at e
          rw [e]
        refine Or.inr ⟨u1, u2, by rw [n1, o1]; exact w2, fun l => ⟨_, ⟨n2, n3⟩, (w3 l).1, (w3 l).2.1, fun i i0 i1 => ?_⟩⟩
        rw [n4 i i0 i1, o4 i i0 (by omega)]
        exact (w3 l).2.2 i i0 i1
theorem way_clash {c m s t k a b1 z : Int} {S J J' : zJ} (h : WAY c m S s t J k) (hk : 0 ≤ k ∧ k < J 145 11) (v1 : VN c m (J 151 k)) (v2 : VN c m (J 152 k)) (ea : tp (upV J) (J 151 k) = a) (eb : tp (upV J) (J 152 k) = b1) (aa : J 146 a = J 145 10) (ab : J 146 b1 = J 145 10) (N : NDE c m S J) (q : UJN c m J J' a b1 z) (hz : z = 0) : ¬ ∃ f, CGm (VN c m) (hdN S 0) (arN S 0 0) (agN S 0) f ∧ f s = f t := by
  have sa : usV J a = J 148 a := by unfold usV; rw [if_pos aa]
  have sb : usV J b1 = J 148 b1 := by unfold usV; rw [if_pos ab]
  have ra := h.1.root v1
  have rb := h.1.root v2
  rw [ea] at ra
  rw [eb] at rb
  rcases q with ⟨_, q2, _⟩ | ⟨q1, q2, q3⟩
  · omega
  · rcases q3 with ⟨u1, u2, _⟩ | ⟨u1, u2, u3⟩
    · omega
    · have na := (h.2.1 a ra.2 ra.1).1.resolve_left (by rw [sa]; exact u1)
      have nb := (h.2.1 b1 rb.2 rb.1).1.resolve_left (by rw [sb]; exact u2)
      rw [sa] at na
      rw [sb] at nb
      rcases u3 with ⟨_, w⟩ | ⟨w, _⟩
      · refine h.no hk v1 v2 ea eb (by rw [sa]; exact u1) (by rw [sb]; exact u2) ?_
        rw [sa, sb, (N _ na.1).1, (N _ nb.1).1]
        exact w
      · omega
/-- the end of it -/
theorem way_end {c m s t k x z f g : Int} {S J J' : zJ} (h : WAY c m S s t J k) (hk : J 145 11 ≤ k) (hs : VN c m s) (ex : tp (upV J) s = x) (v : vF c m J' J) (q1 : g < f → ¬ NRu (VN c m) (hdN S 0) (arN S 0 0) (agN S 0) (fun u v => tp (upV J) u = tp (upV J) v) x) (q2 : (∀ u, VN c m u → 0 ≤ hdN S 0 u → ¬ usV J (tp (upV J) u) = -1) → CGm (VN c m) (hdN S 0) (arN S 0 0) (agN S 0) (tp (upV J)) → f ≤ g → NRu (VN c m) (hdN S 0) (arN S 0 0) (agN S 0) (fun u v => tp (upV J) u = tp (upV J) v) x) (hz : (g < f ∧ z = 2) ∨ (f ≤ g ∧ z = 1)) : UPO c m 0 0 S s t (upV J') (usV J') (ulV J') z := by
  obtain ⟨g1, g2, g3⟩ := h.fin hk
  have U := h.1
  have rx := U.root hs
  rw [ex] at rx
  have sx : tp (upV J) s = tp (upV J) x := by rw [tp_r rx.1]; exact ex
  refine Or.inr ⟨⟨_, g1, g2⟩, v.1, h.2.1.eqt U v.2.1 (fun y hy => (v.2.2 y hy).1) (fun y hy => (v.2.2 y hy).2.1), fun u w hu hw => by rw [v.2.1 u hu, v.2.1 w hw]; exact g3 u w hu hw, ?_⟩
  rcases hz with ⟨hz, e⟩ | ⟨hz, e⟩
  · refine Or.inr ⟨e, fun ⟨rk, P, p, w⟩ => q1 hz ?_⟩
    exact ⟨rk, P, (w.1 s x hs rx.2 ((g3 s x hs rx.2).1 sx) p).1, w.cg (fun u y hu hy => (g3 u y hu hy).1)⟩
  · refine Or.inl ⟨e, ?_⟩
    have hN : ∀ u, VN c m u → 0 ≤ hdN S 0 u → ¬ usV J (tp (upV J) u) = -1 := fun u hu h0 n => by
      have r := U.root hu
      have := (((h.2.1 _ r.2 r.1).2 n).1 u hu rfl).1
      omega
    obtain ⟨rk, P, p, w⟩ := q2 hN g1 hz
    exact ⟨rk, P, (w.1 x s rx.2 hs sx.symm p).1, w.cg (fun u y hu hy => (g3 u y hu hy).2)⟩
set_option maxHeartbeats 4000000 in
set_option maxRecDepth 100000 in
theorem u_wayOf {l : Launch} {G : tb_G} (hl : l.stackTraces = false) (n : Nat) (J : zJ) (s : Int) (t : Int) (b : Int) (hr_s : -2147483648 ≤ s ∧ s < 2147483648) (hr_t : -2147483648 ≤ t ∧ t < 2147483648) (hr_b : -2147483648 ≤ b ∧ b < 2147483648) (m c : Int) (S : zJ) (C : CT J m) (hm6 : J 6 12 = m) (E : A0 J S) (hs : 0 ≤ s ∧ s < m) (ht : 0 ≤ t ∧ t < m) (hb : b = 0 ∨ b = 400) (hR : RU J) (h9 : J 145 10 < 2000000000) (hbc : (b = 0 ∧ c = 400) ∨ (b = 400 ∧ c = 800)) : tz_Ok l G M_X10_wayOf 4 0 0 [.ref 145, zi s, zi t, zi b] n J (zqi (fun z J' => ((z = 0 ∨ z = 1 ∨ z = 2) ∧ UI J' b m ∧ J' 145 10 = J 145 10 + 1 ∧ zOf (zbut [145, 146, 147, 148, 149, 150, 151, 152, 153, 154]) J' J) ∧ UPO c m 0 0 S s (t + b) (upV J') (usV J') (ulV J') z ∧ (¬ z = 0 → ∀ y, VN c m y → uoV J' y = -1))) zN := by
  refine tz_Ok.of hl (by decide +kernel) rfl (tb_c1 rfl) (Nat.le_of_ble_eq_true rfl) ?_
  show tz_At l G M_X10_wayOf (tb_rm 4 0 0) none (tb_ZM G 0 0 (zQ n 0 (zqi (fun z J' => ((z = 0 ∨ z = 1 ∨ z = 2) ∧ UI J' b m ∧ J' 145 10 = J 145 10 + 1 ∧ zOf (zbut [145, 146, 147, 148, 149, 150, 151, 152, 153, 154]) J' J) ∧ UPO c m 0 0 S s (t + b) (upV J') (usV J') (ulV J') z ∧ (¬ z = 0 → ∀ y, VN c m y → uoV J' y = -1)))) (zX n 0 zN)) 0 0 n J 0 [some (.ref 145), some (zi s), some (zi t), some (zi b), none, none] []
  have hm := C.told.2
  have h0 := hR.1
  have hc9 : c = 400 ∨ c = 800 := by omega
  have N0 : NDE c m S J := nde_mk E C hm6 hbc
  have vs9 : VN c m s := (nd.vn hbc hm).1 (Or.inl hs)
  have h89 : ∀ u, VN c m u → -8 ≤ hdN S 0 u := fun u hu => by have i9 := ((nd.vn hbc hm).2 hu).ix hm; rw [(N0 u hu).1]; exact (C.ar i9.1 i9.2).2.2.1
  refine tz_aload_n (pc := 0) dX10_wayOf_0 rfl rfl ?_
  refine tz_dup (pc := 1) dX10_wayOf_1 rfl ?_
  refine tz_fI (pc := 2) (kz := 10) (v := (J 145 10)) dX10_wayOf_2 fl_X10_39 i_145_10 rfl rfl (fun r_2 => ?_)
  refine tz_iconst (pc := 5) dX10_wayOf_5 ?_
  refine tz_iadd (pc := 6) (v := (J 145 10) + 1) dX10_wayOf_6 rfl ?_
  refine tz_pI (pc := 7) (kz := 10) dX10_wayOf_7 fl_X10_39 i_145_10 rfl rfl (by omega) ?_
  refine tz_aload_n (pc := 10) dX10_wayOf_10 rfl rfl ?_
  refine tz_iconst (pc := 11) dX10_wayOf_11 ?_
  refine tz_pI (pc := 12) (kz := 11) dX10_wayOf_12 fl_X10_43 i_145_11 rfl rfl (by decide) ?_
  refine tz_aload_n (pc := 15) dX10_wayOf_15 rfl rfl ?_
  refine tz_iload_n (pc := 16) dX10_wayOf_16 rfl rfl ?_
  refine tz_iload_n (pc := 17) dX10_wayOf_17 rfl rfl ?_
  refine tz_iload_n (pc := 18) dX10_wayOf_18 rfl rfl ?_
  refine tz_iadd (pc := 19) (v := t + b) dX10_wayOf_19 rfl ?_
  refine tz_cV (pc := 20) (u_addPair hl n _ _ _ (by omega) (by omega) b m ⟨⟨Int.le_refl 0, (by decide : (0 : Int) ≤ 2401)⟩, fun k a c => absurd c (by show ¬ k < 0; omega)⟩ (Or.inl hs) (by unfold nd; omega)) vl_X10_50 dX10_wayOf_20 o_145 rfl rfl (Nat.le_of_ble_eq_true rfl) ⟨(Nat.le_of_ble_eq_true rfl), (Nat.le_of_ble_eq_true rfl)⟩ rfl rfl (Nat.le_of_ble_eq_true rfl) (Nat.le_of_ble_eq_true rfl) (fun r9 J_20 hq9 => ?_)
  obtain ⟨rfl, ⟨k1, k2, k3⟩, k4⟩ := hq9
  have u0 : UI J_20 b m := hR.start (by rw [k2]; rfl) (k3 146 rfl)
  have f0 : zOf (zbut [145, 146, 147, 148, 149, 150, 151, 152, 153, 154]) J_20 J := (k3.mono (fun c hc => by simp [zbut] at hc ⊢; omega)).tr (zOf.up rfl (zOf.up rfl zOf.rf))
  have e0 : J_20 145 10 = J 145 10 + 1 := k2
  have kk9 := k4 (by show (0 : Int) < 2401; decide)
  have wy0 : WAY c m S s (t + b) J_20 0 := WAY.start hc9 (fun u hu q9 => by have r9 := hR.2 u (hu.b hc9).1 (hu.b hc9).2; rw [e0, k3 146 rfl] at q9; have q8 : J 146 u = J 145 10 + 1 := q9; omega) (fun u hu => by rw [k3 7 rfl]; exact (N0 u hu).1) (by rw [← kk9]; rfl) (by rw [← kk9]; rfl) (by rw [← kk9]; rfl)
  refine tz_iconst (pc := 23) dX10_wayOf_23 ?_
  refine tz_istore (pc := 24) (L2 := [_, _, _, _, _, _]) dX10_wayOf_24 (by decide) rfl ?_
  have loop26 : ∀ (f9 : Nat) (k : Int) (J1 : zJ), ((2401 - k).toNat) < f9 → (0 ≤ k ∧ k ≤ 2401) → (UI J1 b m) → (J1 145 10 = J 145 10 + 1) → (PI J1 b m) → (zOf (zbut [145, 146, 147, 148, 149, 150, 151, 152, 153, 154]) J1 J) → (WAY c m S s (t + b) J1 k) → tz_At l G M_X10_wayOf (tb_rm 4 0 0) none (tb_ZM G 0 0 (zQ n 0 (zqi (fun z J' => ((z = 0 ∨ z = 1 ∨ z = 2) ∧ UI J' b m ∧ J' 145 10 = J 145 10 + 1 ∧ zOf (zbut [145, 146, 147, 148, 149, 150, 151, 152, 153, 154]) J' J) ∧ UPO c m 0 0 S s (t + b) (upV J') (usV J') (ulV J') z ∧ (¬ z = 0 → ∀ y, VN c m y → uoV J' y = -1)))) (zX n 0 zN)) 0 0 n J1 26 [some (.ref 145), some (zi s), some (zi t), some (zi b), some (zi k), none] [] := by
    intro f9
    induction f9 with
    | zero => intro k J1 hm9; exact absurd hm9 (Nat.not_lt_zero _)
    | succ f9 ih26 =>
      intro k J1 hm26 hk hu e1 hP1 fr wy
      have pr9 := hP1.1
      refine tz_iload (pc := 26) dX10_wayOf_26 rfl ?_
      refine tz_aload_n (pc := 28) dX10_wayOf_28 rfl rfl ?_
      refine tz_fI (pc := 29) (kz := 11) (v := (J1 145 11)) dX10_wayOf_29 fl_X10_43 i_145_11 rfl rfl (fun r_29 => ?_)
      refine tz_icmp_ge (pc := 32) (tgt := 82) dX10_wayOf_32 (by decide) (by omega) (by omega) (fun h_32 => ?_) (fun h_32 => ?_)
      · refine tz_aload_n (pc := 82) dX10_wayOf_82 rfl rfl ?_
        refine tz_iload_n (pc := 83) dX10_wayOf_83 rfl rfl ?_
        have n_84 : nd b m _ := (Or.inl hs)
        have nr_84 := n_84.rg hm
        refine tz_cV (pc := 84) (u_top hl n _ _ (by omega) b m c hm n_84 hu wy.1 hbc) vl_X10_54 dX10_wayOf_84 o_145 rfl rfl (Nat.le_of_ble_eq_true rfl) ⟨(Nat.le_of_ble_eq_true rfl), (Nat.le_of_ble_eq_true rfl)⟩ rfl rfl (Nat.le_of_ble_eq_true rfl) (Nat.le_of_ble_eq_true rfl) (fun r9 J_84 hq9 => ?_)
        obtain ⟨z_84, rfl, hz_84, ⟨u_84, ⟨v_84, w_84⟩, f_84⟩, ve_84, tz_84⟩ := hq9
        have vr_84 := v_84.rg hm
        have wy84 := wy.e ve_84 (congrFun (f_84 145 rfl) 11) (f_84 151 rfl) (f_84 152 rfl)
        have vn_84 := (nd.vn hbc hm).1 n_84
        have vz_84 := (nd.vn hbc hm).1 v_84
        refine tz_istore (pc := 87) (L2 := [_, _, _, _, _, _]) dX10_wayOf_87 (by decide) rfl ?_
        refine tz_aload_n (pc := 89) dX10_wayOf_89 rfl rfl ?_
        refine tz_iload (pc := 90) dX10_wayOf_90 rfl ?_
        have rx9 : upV J_84 z_84 = z_84 := by rw [tz_84, ← ve_84.2.1 _ vn_84]; exact (wy84.1.root vn_84).1
        have E84 : A0 J_84 S := E.f (fun c hc => (f_84 c (by simp [zbut]; omega)).trans (fr c (by simp [zbut]; omega)))
        have m84 : J_84 6 12 = m := by rw [f_84 6 rfl, fr 6 rfl]; exact hm6
        have C84 : CT J_84 m := (C.of (fun c hc => ((f_84 c (by simp [zbut]; omega)).trans (fr c (by simp [zbut]; omega)))))
        refine tz_cV (pc := 92) (u_listAll hl n _ _ (by omega) b m c S (tp (upV J_84)) (usV J_84) C84 m84 E84 u_84.1 v_84 (by rw [w_84, u_84.2.1]) wy84.1 wy84.2.1 rx9 (fun _ _ => rfl) (fun _ _ => rfl) hbc (fun y hy => (wy84.2.2.1 y hy).1)) vl_X10_62 dX10_wayOf_92 o_145 rfl rfl (Nat.le_of_ble_eq_true rfl) ⟨(Nat.le_of_ble_eq_true rfl), (Nat.le_of_ble_eq_true rfl)⟩ rfl rfl (Nat.le_of_ble_eq_true rfl) (Nat.le_of_ble_eq_true rfl) (fun r9 J_92 hq9 => ?_)
        obtain ⟨z_92, rfl, hz_92, ⟨l1, l2⟩, ⟨L9, hE9⟩, lv9⟩ := hq9
        refine tz_istore (pc := 95) (L2 := [_, _, _, _, _, _]) dX10_wayOf_95 (by decide) rfl ?_
        refine tz_aload_n (pc := 97) dX10_wayOf_97 rfl rfl ?_
        refine tz_iload (pc := 98) dX10_wayOf_98 rfl ?_
        have rx8 : upV J_92 z_84 = z_84 := by have q9 := (lv9.1.root vz_84).1; rw [lv9.2.1 _ vz_84, tp_r rx9] at q9; exact q9
        have m92 : J_92 6 12 = m := by rw [l2 6 rfl]; exact m84
        have E92 : A0 J_92 S := E84.f (fun c hc => l2 c (by simp [zbut]; omega))
        refine tz_cV (pc := 100) (u_taken hl n _ _ (by omega) b m c S (tp (upV J_84)) (usV J_84) L9 z_92 (C84.of (fun c hc => l2 c (by simp [zbut]; omega))) m92 E92 l1.1 v_84 (by have := l1.2.2 z_84 (by rw [w_84, u_84.2.1]); rw [this, l1.2.1]) lv9.1 (wy84.2.1.eqt wy84.1 lv9.2.1 (fun y hy => (lv9.2.2 y hy).1) (fun y hy => (lv9.2.2 y hy).2.1)) rx8 lv9.2.1 (fun y hy => (lv9.2.2 y hy).1) hbc hE9) vl_X10_65 dX10_wayOf_100 o_145 rfl rfl (Nat.le_of_ble_eq_true rfl) ⟨(Nat.le_of_ble_eq_true rfl), (Nat.le_of_ble_eq_true rfl)⟩ rfl rfl (Nat.le_of_ble_eq_true rfl) (Nat.le_of_ble_eq_true rfl) (fun r9 J_100 hq9 => ?_)
        obtain ⟨z_100, rfl, hz_100, ⟨t1, t2⟩, ⟨tn9, ty9⟩, tv9⟩ := hq9
        have hfr4 : zOf (zbut [145, 146, 147, 148, 149, 150, 151, 152, 153, 154]) J_100 J := (t2.mono (fun c hc => by simp [zbut] at hc ⊢; omega)).tr ((l2.mono (fun c hc => by simp [zbut] at hc ⊢; omega)).tr ((f_84.mono (fun c hc => by simp [zbut] at hc ⊢; omega)).tr fr))
        have vf9 : vF c m J_100 J_84 := ⟨tv9.1, fun y hy => (tv9.2.1 y hy).trans (lv9.2.1 y hy), fun y hy => ⟨(tv9.2.2 y hy).1.trans (lv9.2.2 y hy).1, (tv9.2.2 y hy).2.1.trans (lv9.2.2 y hy).2.1, (tv9.2.2 y hy).2.2.trans (lv9.2.2 y hy).2.2⟩⟩
        refine tz_iload (pc := 103) dX10_wayOf_103 rfl ?_
        refine tz_icmp_ge (pc := 105) (tgt := 112) dX10_wayOf_105 (by decide) (by omega) (by omega) (fun h_105 => ?_) (fun h_105 => ?_)
        · refine tz_iconst (pc := 112) dX10_wayOf_112 ?_
          exact tz_iret (pc := 113) (z := 1) dX10_wayOf_113 rfl (Nat.le_of_ble_eq_true rfl) (Nat.le_of_ble_eq_true rfl) ⟨Nat.le_refl _, Nat.le_add_right _ _⟩ ⟨_, rfl, (by decide), ⟨⟨by omega, t1.1, by rw [t1.2.1, l1.2.1, u_84.2.1, e1], hfr4⟩, way_end (k := k) wy84 (by rw [congrFun (f_84 145 rfl) 11]; omega) vs9 (by rw [ve_84.2.1 _ vn_84]; exact tz_84.symm) vf9 tn9 ty9 (by omega), fun _ y hy => (vf9.2.2 y hy).2.2.trans (wy84.2.2.1 y hy).2⟩⟩
        · refine tz_iconst (pc := 108) dX10_wayOf_108 ?_
          refine tz_goto (pc := 109) (tgt := 113) dX10_wayOf_109 (by decide) ?_
          exact tz_iret (pc := 113) (z := 2) dX10_wayOf_113 rfl (Nat.le_of_ble_eq_true rfl) (Nat.le_of_ble_eq_true rfl) ⟨Nat.le_refl _, Nat.le_add_right _ _⟩ ⟨_, rfl, (by decide), ⟨⟨by omega, t1.1, by rw [t1.2.1, l1.2.1, u_84.2.1, e1], hfr4⟩, way_end (k := k) wy84 (by rw [congrFun (f_84 145 rfl) 11]; omega) vs9 (by rw [ve_84.2.1 _ vn_84]; exact tz_84.symm) vf9 tn9 ty9 (by omega), fun _ y hy => (vf9.2.2 y hy).2.2.trans (wy84.2.2.1 y hy).2⟩⟩
      · refine tz_iload (pc := 35) dX10_wayOf_35 rfl ?_
        refine tz_aload_n (pc := 37) dX10_wayOf_37 rfl rfl ?_
        refine tz_fR (pc := 38) dX10_wayOf_38 fl_X10_27 r_145_6 ?_
        refine tz_aN (pc := 41) (lz := 2401) dX10_wayOf_41 a_151 rfl ?_
        refine tz_icmp_ge (pc := 42) (tgt := 82) dX10_wayOf_42 (by decide) (by omega) (by decide) (fun h_42 => ?_) (fun h_42 => ?_)
        · refine tz_aload_n (pc := 82) dX10_wayOf_82 rfl rfl ?_
          refine tz_iload_n (pc := 83) dX10_wayOf_83 rfl rfl ?_
          have n_84 : nd b m _ := (Or.inl hs)
          have nr_84 := n_84.rg hm
          refine tz_cV (pc := 84) (u_top hl n _ _ (by omega) b m c hm n_84 hu wy.1 hbc) vl_X10_54 dX10_wayOf_84 o_145 rfl rfl (Nat.le_of_ble_eq_true rfl) ⟨(Nat.le_of_ble_eq_true rfl), (Nat.le_of_ble_eq_true rfl)⟩ rfl rfl (Nat.le_of_ble_eq_true rfl) (Nat.le_of_ble_eq_true rfl) (fun r9 J_84 hq9 => ?_)
          obtain ⟨z_84, rfl, hz_84, ⟨u_84, ⟨v_84, w_84⟩, f_84⟩, ve_84, tz_84⟩ := hq9
          have vr_84 := v_84.rg hm
          have wy84 := wy.e ve_84 (congrFun (f_84 145 rfl) 11) (f_84 151 rfl) (f_84 152 rfl)
          have vn_84 := (nd.vn hbc hm).1 n_84
          have vz_84 := (nd.vn hbc hm).1 v_84
          refine tz_istore (pc := 87) (L2 := [_, _, _, _, _, _]) dX10_wayOf_87 (by decide) rfl ?_
          refine tz_aload_n (pc := 89) dX10_wayOf_89 rfl rfl ?_
          refine tz_iload (pc := 90) dX10_wayOf_90 rfl ?_
          have rx9 : upV J_84 z_84 = z_84 := by rw [tz_84, ← ve_84.2.1 _ vn_84]; exact (wy84.1.root vn_84).1
          have E84 : A0 J_84 S := E.f (fun c hc => (f_84 c (by simp [zbut]; omega)).trans (fr c (by simp [zbut]; omega)))
          have m84 : J_84 6 12 = m := by rw [f_84 6 rfl, fr 6 rfl]; exact hm6
          have C84 : CT J_84 m := (C.of (fun c hc => ((f_84 c (by simp [zbut]; omega)).trans (fr c (by simp [zbut]; omega)))))
          refine tz_cV (pc := 92) (u_listAll hl n _ _ (by omega) b m c S (tp (upV J_84)) (usV J_84) C84 m84 E84 u_84.1 v_84 (by rw [w_84, u_84.2.1]) wy84.1 wy84.2.1 rx9 (fun _ _ => rfl) (fun _ _ => rfl) hbc (fun y hy => (wy84.2.2.1 y hy).1)) vl_X10_62 dX10_wayOf_92 o_145 rfl rfl (Nat.le_of_ble_eq_true rfl) ⟨(Nat.le_of_ble_eq_true rfl), (Nat.le_of_ble_eq_true rfl)⟩ rfl rfl (Nat.le_of_ble_eq_true rfl) (Nat.le_of_ble_eq_true rfl) (fun r9 J_92 hq9 => ?_)
          obtain ⟨z_92, rfl, hz_92, ⟨l1, l2⟩, ⟨L9, hE9⟩, lv9⟩ := hq9
          refine tz_istore (pc := 95) (L2 := [_, _, _, _, _, _]) dX10_wayOf_95 (by decide) rfl ?_
          refine tz_aload_n (pc := 97) dX10_wayOf_97 rfl rfl ?_
          refine tz_iload (pc := 98) dX10_wayOf_98 rfl ?_
          have rx8 : upV J_92 z_84 = z_84 := by have q9 := (lv9.1.root vz_84).1; rw [lv9.2.1 _ vz_84, tp_r rx9] at q9; exact q9
          have m92 : J_92 6 12 = m := by rw [l2 6 rfl]; exact m84
          have E92 : A0 J_92 S := E84.f (fun c hc => l2 c (by simp [zbut]; omega))
          refine tz_cV (pc := 100) (u_taken hl n _ _ (by omega) b m c S (tp (upV J_84)) (usV J_84) L9 z_92 (C84.of (fun c hc => l2 c (by simp [zbut]; omega))) m92 E92 l1.1 v_84 (by have := l1.2.2 z_84 (by rw [w_84, u_84.2.1]); rw [this, l1.2.1]) lv9.1 (wy84.2.1.eqt wy84.1 lv9.2.1 (fun y hy => (lv9.2.2 y hy).1) (fun y hy => (lv9.2.2 y hy).2.1)) rx8 lv9.2.1 (fun y hy => (lv9.2.2 y hy).1) hbc hE9) vl_X10_65 dX10_wayOf_100 o_145 rfl rfl (Nat.le_of_ble_eq_true rfl) ⟨(Nat.le_of_ble_eq_true rfl), (Nat.le_of_ble_eq_true rfl)⟩ rfl rfl (Nat.le_of_ble_eq_true rfl) (Nat.le_of_ble_eq_true rfl) (fun r9 J_100 hq9 => ?_)
          obtain ⟨z_100, rfl, hz_100, ⟨t1, t2⟩, ⟨tn9, ty9⟩, tv9⟩ := hq9
          have hfr4 : zOf (zbut [145, 146, 147, 148, 149, 150, 151, 152, 153, 154]) J_100 J := (t2.mono (fun c hc => by simp [zbut] at hc ⊢; omega)).tr ((l2.mono (fun c hc => by simp [zbut] at hc ⊢; omega)).tr ((f_84.mono (fun c hc => by simp [zbut] at hc ⊢; omega)).tr fr))
          have vf9 : vF c m J_100 J_84 := ⟨tv9.1, fun y hy => (tv9.2.1 y hy).trans (lv9.2.1 y hy), fun y hy => ⟨(tv9.2.2 y hy).1.trans (lv9.2.2 y hy).1, (tv9.2.2 y hy).2.1.trans (lv9.2.2 y hy).2.1, (tv9.2.2 y hy).2.2.trans (lv9.2.2 y hy).2.2⟩⟩
          refine tz_iload (pc := 103) dX10_wayOf_103 rfl ?_
          refine tz_icmp_ge (pc := 105) (tgt := 112) dX10_wayOf_105 (by decide) (by omega) (by omega) (fun h_105 => ?_) (fun h_105 => ?_)
          · refine tz_iconst (pc := 112) dX10_wayOf_112 ?_
            exact tz_iret (pc := 113) (z := 1) dX10_wayOf_113 rfl (Nat.le_of_ble_eq_true rfl) (Nat.le_of_ble_eq_true rfl) ⟨Nat.le_refl _, Nat.le_add_right _ _⟩ ⟨_, rfl, (by decide), ⟨⟨by omega, t1.1, by rw [t1.2.1, l1.2.1, u_84.2.1, e1], hfr4⟩, way_end (k := k) wy84 (by rw [congrFun (f_84 145 rfl) 11]; omega) vs9 (by rw [ve_84.2.1 _ vn_84]; exact tz_84.symm) vf9 tn9 ty9 (by omega), fun _ y hy => (vf9.2.2 y hy).2.2.trans (wy84.2.2.1 y hy).2⟩⟩
          · refine tz_iconst (pc := 108) dX10_wayOf_108 ?_
            refine tz_goto (pc := 109) (tgt := 113) dX10_wayOf_109 (by decide) ?_
            exact tz_iret (pc := 113) (z := 2) dX10_wayOf_113 rfl (Nat.le_of_ble_eq_true rfl) (Nat.le_of_ble_eq_true rfl) ⟨Nat.le_refl _, Nat.le_add_right _ _⟩ ⟨_, rfl, (by decide), ⟨⟨by omega, t1.1, by rw [t1.2.1, l1.2.1, u_84.2.1, e1], hfr4⟩, way_end (k := k) wy84 (by rw [congrFun (f_84 145 rfl) 11]; omega) vs9 (by rw [ve_84.2.1 _ vn_84]; exact tz_84.symm) vf9 tn9 ty9 (by omega), fun _ y hy => (vf9.2.2 y hy).2.2.trans (wy84.2.2.1 y hy).2⟩⟩
        · refine tz_aload_n (pc := 45) dX10_wayOf_45 rfl rfl ?_
          refine tz_aload_n (pc := 46) dX10_wayOf_46 rfl rfl ?_
          refine tz_aload_n (pc := 47) dX10_wayOf_47 rfl rfl ?_
          refine tz_fR (pc := 48) dX10_wayOf_48 fl_X10_27 r_145_6 ?_
          refine tz_iload (pc := 51) dX10_wayOf_51 rfl ?_
          refine tz_aL (pc := 53) (z := k) (v := (J1 151 k)) dX10_wayOf_53 a_151 rfl (by omega) rfl (fun r_53 => ?_)
          have n_54 : nd b m _ := (hP1.2 k (by omega) (by omega)).1
          have nr_54 := n_54.rg hm
          refine tz_cV (pc := 54) (u_top hl n _ _ (by omega) b m c hm n_54 hu wy.1 hbc) vl_X10_54 dX10_wayOf_54 o_145 rfl rfl (Nat.le_of_ble_eq_true rfl) ⟨(Nat.le_of_ble_eq_true rfl), (Nat.le_of_ble_eq_true rfl)⟩ rfl rfl (Nat.le_of_ble_eq_true rfl) (Nat.le_of_ble_eq_true rfl) (fun r9 J_54 hq9 => ?_)
          obtain ⟨z_54, rfl, hz_54, ⟨u_54, ⟨v_54, w_54⟩, f_54⟩, ve_54, tz_54⟩ := hq9
          have vr_54 := v_54.rg hm
          have wy54 := wy.e ve_54 (congrFun (f_54 145 rfl) 11) (f_54 151 rfl) (f_54 152 rfl)
          have vn_54 := (nd.vn hbc hm).1 n_54
          have vz_54 := (nd.vn hbc hm).1 v_54
          refine tz_aload_n (pc := 57) dX10_wayOf_57 rfl rfl ?_
          refine tz_aload_n (pc := 58) dX10_wayOf_58 rfl rfl ?_
          refine tz_fR (pc := 59) dX10_wayOf_59 fl_X10_30 r_145_7 ?_
          refine tz_iload (pc := 62) dX10_wayOf_62 rfl ?_
          refine tz_aL (pc := 64) (z := k) (v := (J1 152 k)) dX10_wayOf_64 a_152 rfl (by omega) (Eq.trans (congrFun (f_54 152 rfl) k) rfl) (fun r_64 => ?_)
          have n_65 : nd b m _ := (hP1.2 k (by omega) (by omega)).2
          have nr_65 := n_65.rg hm
          refine tz_cV (pc := 65) (u_top hl n _ _ (by omega) b m c hm n_65 u_54.1 wy54.1 hbc) vl_X10_54 dX10_wayOf_65 o_145 rfl rfl (Nat.le_of_ble_eq_true rfl) ⟨(Nat.le_of_ble_eq_true rfl), (Nat.le_of_ble_eq_true rfl)⟩ rfl rfl (Nat.le_of_ble_eq_true rfl) (Nat.le_of_ble_eq_true rfl) (fun r9 J_65 hq9 => ?_)
          obtain ⟨z_65, rfl, hz_65, ⟨u_65, ⟨v_65, w_65⟩, f_65⟩, ve_65, tz_65⟩ := hq9
          have vr_65 := v_65.rg hm
          have wy65 := wy54.e ve_65 (congrFun (f_65 145 rfl) 11) (f_65 151 rfl) (f_65 152 rfl)
          have vn_65 := (nd.vn hbc hm).1 n_65
          have vz_65 := (nd.vn hbc hm).1 v_65
          have aw54 : J_65 146 z_54 = J_65 145 10 := by have := u_65.2.2 _ (w_54.trans u_54.2.1.symm); rw [this, u_65.2.1]
          have aw65 : J_65 146 z_65 = J_65 145 10 := by rw [w_65, u_65.2.1]
          have N65 : NDE c m S J_65 := N0.of ((f_65 7 rfl).trans ((f_54 7 rfl).trans (fr 7 rfl))) ((f_65 8 rfl).trans ((f_54 8 rfl).trans (fr 8 rfl))) ((f_65 9 rfl).trans ((f_54 9 rfl).trans (fr 9 rfl)))
          have e151 : J_65 151 = J1 151 := (f_65 151 rfl).trans (f_54 151 rfl)
          have e152 : J_65 152 = J1 152 := (f_65 152 rfl).trans (f_54 152 rfl)
          have e145 : J_65 145 11 = J1 145 11 := (congrFun (f_65 145 rfl) 11).trans (congrFun (f_54 145 rfl) 11)
          have ea9 : tp (upV J_65) (J_65 151 k) = z_54 := by rw [e151, ve_65.2.1 _ vn_54, ve_54.2.1 _ vn_54]; exact tz_54.symm
          have eb9 : tp (upV J_65) (J_65 152 k) = z_65 := by rw [e152, ve_65.2.1 _ vn_65]; exact tz_65.symm
          have ra9 : upV J_65 z_54 = z_54 := by rw [← ea9]; exact (wy65.1.root (by rw [e151]; exact vn_54)).1
          have rb9 : upV J_65 z_65 = z_65 := by rw [← eb9]; exact (wy65.1.root (by rw [e152]; exact vn_65)).1
          refine tz_cV (pc := 68) (u_joined hl n _ _ _ (by omega) (by omega) b m c (C.of (fun c hc => ((f_65 c (by simp [zbut]; omega)).trans ((f_54 c (by simp [zbut]; omega)).trans (fr c (by simp [zbut]; omega)))))) u_65.1 (hP1.of (by rw [congrFun (f_65 145 rfl) 11, congrFun (f_54 145 rfl) 11]) (by rw [f_65 151 rfl, f_54 151 rfl]) (by rw [f_65 152 rfl, f_54 152 rfl])) v_54 v_65 aw54 aw65 hbc (fun q9 => wy65.lst vz_54 ra9 aw54 h89 q9) (fun q9 => wy65.lst vz_65 rb9 aw65 h89 q9)) vl_X10_58 dX10_wayOf_68 o_145 rfl rfl (Nat.le_of_ble_eq_true rfl) ⟨(Nat.le_of_ble_eq_true rfl), (Nat.le_of_ble_eq_true rfl)⟩ rfl rfl (Nat.le_of_ble_eq_true rfl) (Nat.le_of_ble_eq_true rfl) (fun r9 J_68 hq9 => ?_)
          obtain ⟨z_68, rfl, hz_68, ⟨j1, j2, j3, j4⟩, jn⟩ := hq9
          have hfr3 : zOf (zbut [145, 146, 147, 148, 149, 150, 151, 152, 153, 154]) J_68 J := (j4.mono (fun c hc => by simp [zbut] at hc ⊢; omega)).tr ((f_65.mono (fun c hc => by simp [zbut] at hc ⊢; omega)).tr ((f_54.mono (fun c hc => by simp [zbut] at hc ⊢; omega)).tr fr))
          refine tz_if_ne (pc := 71) (tgt := 76) dX10_wayOf_71 (by decide) (by omega) (fun h_71 => ?_) (fun h_71 => ?_)
          · refine tz_iinc (pc := 76) (z := k + 1) (L2 := [_, _, _, _, _, _]) dX10_wayOf_76 rfl (by omega) rfl ?_
            refine tz_goto (pc := 79) (tgt := 26) dX10_wayOf_79 (by decide) ?_
            exact ih26 (k + 1) _ (by omega) (by omega) j1.1 (by rw [j1.2.1, u_65.2.1, u_54.2.1, e1]) j2 hfr3 (way_next hc9 wy65 (by omega) (by rw [e151]; exact vn_54) (by rw [e152]; exact vn_65) ea9 eb9 aw54 aw65 N65 jn (by omega))
          · refine tz_iconst (pc := 74) dX10_wayOf_74 ?_
            exact tz_iret (pc := 75) (z := 0) dX10_wayOf_75 rfl (Nat.le_of_ble_eq_true rfl) (Nat.le_of_ble_eq_true rfl) ⟨Nat.le_refl _, Nat.le_add_right _ _⟩ ⟨_, rfl, (by decide), ⟨⟨Or.inl rfl, j1.1, by rw [j1.2.1, u_65.2.1, u_54.2.1, e1], hfr3⟩, Or.inl ⟨rfl, way_clash (by exact wy65) (by omega) (by rw [e151]; exact vn_54) (by rw [e152]; exact vn_65) ea9 eb9 aw54 aw65 N65 jn (by omega)⟩, fun q9 => absurd q9 (by decide)⟩⟩
  exact loop26 _ 0 _ (Nat.lt_succ_self _) (by omega) u0 e0 k1 f0 wy0

end
section
/-! ===== what classes are made to ===== -/
/-- the terms that were there are there still -/
def OLD (m0 : Int) (S S' : zJ) : Prop := m0 ≤ S' 165 0 ∧ S' 170 = S 170 ∧ ∀ t, 0 ≤ t → t < m0 → S' 166 (0 + t) = S 166 (0 + t) ∧ ∀ i, 0 ≤ i → i < 3 → S' 167 (3 * (0 + t) + i) = S 167 (3 * (0 + t) + i)
theorem OLD.tm {m0 : Int} {S G : zJ} {h x y w : Int} (o : OLD m0 S G) (h0 : 0 ≤ m0) : OLD m0 S (tmO G h x y w).1 := by
  obtain ⟨o1, o2, o3⟩ := o
  unfold tmO
  split
  · split
    · exact ⟨o1, o2, o3⟩
    · split
      · refine ⟨by (try dsimp only); rw [chT_5, if_pos rfl]; omega, by (try dsimp only); rw [chT4 170 (by decide)]; exact o2, fun t a b => ?_⟩
        (try dsimp only)
        obtain ⟨p, q⟩ := o3 t a b
        refine ⟨by rw [chT_6, if_neg (by omega)]; exact p, fun i c d => ?_⟩
        rw [chT_7, if_neg (by omega), if_neg (by omega), if_neg (by omega)]
        exact q i c d
      · exact ⟨o1, o2, o3⟩
  · exact ⟨o1, o2, o3⟩
theorem OLD.gst {m0 : Int} {S : zJ} {T : zJ → Int → zJ × Int} {A : Int} (hT : ∀ H i, OLD m0 S H → OLD m0 S (T H i).1) {G : zJ} (o : OLD m0 S G) : ∀ i, OLD m0 S (gst T G A i).1
  | 0 => o
  | i + 1 => by
    rw [gst_s]
    unfold gA
    split
    · exact hT _ _ (OLD.gst hT o i)
    · exact OLD.gst hT o i
theorem OLD.gr {m0 : Int} {S : zJ} {ρ : Int → Int} (h0 : 0 ≤ m0) : ∀ (k : Nat) (G : zJ) (t : Int), OLD m0 S G → OLD m0 S (grO ρ k G t).1
  | 0, G, t, o => by
    by_cases e : G 164 21 = 0
    · rw [grO_0 e]; exact o
    · rw [grO_F e]; exact o
  | k + 1, G, t, o => by
    rw [grO_s]
    split
    · split
      · exact o
      · unfold gR
        exact OLD.tm (OLD.gst (fun H i q => OLD.gr h0 k H _ q) o 3) h0
    · exact o
theorem gst_c9 {m0 : Int} {S : zJ} {T1 T2 : zJ → Int → zJ × Int} {A : Int} (hT : ∀ H i, OLD m0 S H → OLD m0 S (T1 H i).1) (e : ∀ H (i : Int), OLD m0 S H → 0 ≤ i → i < 3 → i < A → T1 H i = T2 H i) {G : zJ} (o : OLD m0 S G) : ∀ i : Nat, i ≤ 3 → gst T1 G A i = gst T2 G A i
  | 0, _ => rfl
  | i + 1, hi => by
    rw [gst_s, gst_s, ← gst_c9 hT e o i (by omega)]
    unfold gA
    by_cases q : (i : Int) < A
    · rw [if_pos q, if_pos q]
      exact e _ _ (OLD.gst hT o i) (by omega) (by omega) q
    · rw [if_neg q, if_neg q]
theorem gR_c9 {m0 : Int} {S : zJ} {T1 T2 : zJ → Int → zJ × Int} (hT : ∀ H i, OLD m0 S H → OLD m0 S (T1 H i).1) {G : zJ} {h : Int} (e : ∀ H (i : Int), OLD m0 S H → 0 ≤ i → i < 3 → i < oar G h → T1 H i = T2 H i) (o : OLD m0 S G) : gR T1 G h = gR T2 G h := by
  unfold gR
  rw [gst_c9 hT e o 1 (by decide), gst_c9 hT e o 2 (by decide), gst_c9 hT e o 3 (by decide)]
/-- what a class is, as one sees it -/
def RHO (S : zJ) (m0 : Int) (T sh lv ρ : Int → Int) : Prop := ∀ t, VN 400 m0 t → VN 400 m0 (ρ t) ∧ (sh (T t) = -1 → S 166 (0 + ρ t) = -1 - lv (T t)) ∧ (¬ sh (T t) = -1 → ρ t = sh (T t))
/-- a sound table has each variable once -/
def VUN (S : zJ) (m0 : Int) : Prop := ∀ a b, VN 400 m0 a → VN 400 m0 b → S 166 (0 + a) < 0 → S 166 (0 + a) = S 166 (0 + b) → a = b
theorem hdN_4 {S : zJ} {m0 t : Int} (h : VN 400 m0 t) : hdN S 0 t = S 166 (0 + t) ∧ arN S 0 0 t = mar S 0 0 t ∧ ∀ i, agN S 0 t i = S 167 (3 * (0 + t) + i) := by
  have e : t % 400 = t := by have := h.1; omega
  have e2 : t / 400 = 0 := by have := h.1; omega
  unfold hdN arN agN
  rw [e, e2]
  exact ⟨rfl, rfl, fun i => by omega⟩
theorem rho_eq {S : zJ} {m0 s t : Int} {p1 p2 sh1 sh2 lv1 lv2 ρ1 ρ2 : Int → Int} (h0 : 0 ≤ m0) (U1 : UFp (VN 400 m0) p1) (S1 : SHp (VN 400 m0) (hdN S 0) p1 sh1 lv1) (K1 : ∀ u v, VN 400 m0 u → VN 400 m0 v → (tp p1 u = tp p1 v ↔ LCu (VN 400 m0) (hdN S 0) (arN S 0 0) (agN S 0) s t u v)) (R1 : RHO S m0 (tp p1) sh1 lv1 ρ1) (U2 : UFp (VN 400 m0) p2) (S2 : SHp (VN 400 m0) (hdN S 0) p2 sh2 lv2) (K2 : ∀ u v, VN 400 m0 u → VN 400 m0 v → (tp p2 u = tp p2 v ↔ LCu (VN 400 m0) (hdN S 0) (arN S 0 0) (agN S 0) s t u v)) (R2 : RHO S m0 (tp p2) sh2 lv2 ρ2) (g : CGm (VN 400 m0) (hdN S 0) (arN S 0 0) (agN S 0) (tp p1)) (hV : ∀ x i, VN 400 m0 x → 0 ≤ hdN S 0 x → 0 ≤ i → i < arN S 0 0 x → VN 400 m0 (agN S 0 x i)) (vu : VUN S m0) : ∀ (k : Nat) (S' : zJ) (u w : Int), OLD m0 S S' → VN 400 m0 u → VN 400 m0 w → tp p1 u = tp p1 w → grO ρ1 k S' u = grO ρ2 k S' w
  | 0, _, _, _, _, _, _, _ => rfl
  | k + 1, S', u, w, o, hu, hw, e => by
    have r1 := U1.root hu
    have r2 := U2.root hw
    obtain ⟨a1, b1, c1⟩ := R1 u hu
    obtain ⟨a2, b2, c2⟩ := R2 w hw
    obtain ⟨x1, y1⟩ := S1 _ r1.2 r1.1
    obtain ⟨x2, y2⟩ := S2 _ r2.2 r2.1
    have tr : ∀ q, VN 400 m0 q → (tp p1 q = tp p1 u ↔ tp p2 q = tp p2 w) := fun q hq => by rw [e, K1 q w hq hw, K2 q w hq hw]
    by_cases n1 : sh1 (tp p1 u) = -1
    · have n2 : sh2 (tp p2 w) = -1 := Classical.byContradiction (fun n => by
        obtain ⟨q1, q2, q3⟩ := x2.resolve_left n
        have := ((y1 n1).1 _ q1 ((tr _ q1).2 q3)).1
        omega)
      have el : lv1 (tp p1 u) = lv2 (tp p2 w) := by
        obtain ⟨m1, v1, hv1, ev1, l1⟩ := y1 n1
        obtain ⟨m2, v2, hv2, ev2, l2⟩ := y2 n2
        have := (m1 v2 hv2 ((tr _ hv2).2 ev2)).2
        have := (m2 v1 hv1 ((tr _ hv1).1 ev1)).2
        omega
      have hh : S 166 (0 + ρ1 u) = S 166 (0 + ρ2 w) := by rw [b1 n1, b2 n2, el]
      have neg : S 166 (0 + ρ1 u) < 0 := by
        obtain ⟨m1, v1, hv1, ev1, l1⟩ := y1 n1
        have := (m1 v1 hv1 ev1).1
        have := b1 n1
        omega
      have er := vu _ _ a1 a2 neg hh
      rw [grO_s, grO_s, er]
      have h6 := (o.2.2 (ρ2 w) a2.1.1 (by have := a2.1; have := a2.2; omega)).1
      have neg2 : S' 166 (0 + ρ2 w) < 0 := by rw [h6, ← hh]; exact neg
      rw [if_pos neg2, if_pos neg2]
    · have n2 : ¬ sh2 (tp p2 w) = -1 := fun n => by
        obtain ⟨q1, q2, q3⟩ := x1.resolve_left n1
        have := ((y2 n).1 _ q1 ((tr _ q1).1 q3)).1
        omega
      obtain ⟨q1, q2, q3⟩ := x1.resolve_left n1
      obtain ⟨z1, z2, z3⟩ := x2.resolve_left n2
      have ez : tp p1 (sh1 (tp p1 u)) = tp p1 (sh2 (tp p2 w)) := q3.trans ((tr _ z1).2 z3).symm
      obtain ⟨g1, g2⟩ := g _ _ q1 z1 ez q2 z2
      have d1 := hdN_4 (S := S) q1
      have d2 := hdN_4 (S := S) z1
      have m1 : sh1 (tp p1 u) < m0 := by have := q1.1; have := q1.2; omega
      have m2 : sh2 (tp p2 w) < m0 := by have := z1.1; have := z1.2; omega
      obtain ⟨o6, o7⟩ := o.2.2 _ q1.1.1 m1
      obtain ⟨o8, o9⟩ := o.2.2 _ z1.1.1 m2
      rw [grO_s, grO_s, c1 n1, c2 n2, o6, o8, ← d1.1, ← d2.1, ← g1]
      by_cases f : S' 164 21 = 0
      · rw [if_pos f, if_pos f, if_neg (by omega), if_neg (by omega)]
        have eo : oar S' (hdN S 0 (sh1 (tp p1 u))) = arN S 0 0 (sh1 (tp p1 u)) := by
          rw [d1.2.1, d1.1]
          unfold oar mar
          rw [o.2.1]
        refine gR_c9 (fun H i q => OLD.gr h0 k H _ q) (fun H i q i0 i3 iA => ?_) o
        (try dsimp only)
        rw [eo] at iA
        rw [(q.2.2 _ q1.1.1 m1).2 i i0 i3, (q.2.2 _ z1.1.1 m2).2 i i0 i3, ← d1.2.2 i, ← d2.2.2 i]
        have ea : arN S 0 0 (sh2 (tp p2 w)) = arN S 0 0 (sh1 (tp p1 u)) := by
          unfold arN mar
          unfold hdN at g1
          rw [g1]
        exact rho_eq h0 U1 S1 K1 R1 U2 S2 K2 R2 g hV vu k H _ _ q (hV _ i q1 q2 i0 iA) (hV _ i z1 z2 i0 (by omega)) (g2 i i0 iA)
      · rw [if_neg f, if_neg f]
/-- one variable's binding, by what classes are made to -/
noncomputable def bn1 (ρ : Int → Int) (bs v : Int) (G : zJ) : zJ := @ite _ (G 164 21 = 0) (Classical.propDecidable _) (@ite _ (bt bs v) (Classical.propDecidable _) (if ρ (ofi G (-1 - v) 0 0 0) = ofi G (-1 - v) 0 0 0 then zup G 165 (1 + v) 0 else zup (grO ρ 6 (zup G 165 (1 + v) 0) (ofi G (-1 - v) 0 0 0)).1 165 (1 + v) (1 + (grO ρ 6 (zup G 165 (1 + v) 0) (ofi G (-1 - v) 0 0 0)).2)) (zup G 165 (1 + v) 0)) G
noncomputable def bnO (ρ : Int → Int) (bs : Int) (G : zJ) : Nat → zJ
  | 0 => G
  | v + 1 => bn1 ρ bs v (bnO ρ bs G v)
theorem bnO_s {ρ : Int → Int} {bs : Int} {G : zJ} {v : Nat} : bnO ρ bs G (v + 1) = bn1 ρ bs v (bnO ρ bs G v) := rfl
theorem bn1_F {ρ : Int → Int} {bs v : Int} {G : zJ} (h : ¬ G 164 21 = 0) : bn1 ρ bs v G = G := by
  unfold bn1
  rw [@if_neg _ (Classical.propDecidable _) h]
theorem bn1_n {ρ : Int → Int} {bs v : Int} {G : zJ} (h : G 164 21 = 0) (b : ¬ bt bs v) : bn1 ρ bs v G = zup G 165 (1 + v) 0 := by
  unfold bn1
  rw [@if_pos _ (Classical.propDecidable _) h, @if_neg _ (Classical.propDecidable _) b]
theorem bn1_i {ρ : Int → Int} {bs v : Int} {G : zJ} (h : G 164 21 = 0) (b : bt bs v) (e : ρ (ofi G (-1 - v) 0 0 0) = ofi G (-1 - v) 0 0 0) : bn1 ρ bs v G = zup G 165 (1 + v) 0 := by
  unfold bn1
  rw [@if_pos _ (Classical.propDecidable _) h, @if_pos _ (Classical.propDecidable _) b, if_pos e]
theorem bn1_g {ρ : Int → Int} {bs v : Int} {G : zJ} (h : G 164 21 = 0) (b : bt bs v) (e : ¬ ρ (ofi G (-1 - v) 0 0 0) = ofi G (-1 - v) 0 0 0) : bn1 ρ bs v G = zup (grO ρ 6 (zup G 165 (1 + v) 0) (ofi G (-1 - v) 0 0 0)).1 165 (1 + v) (1 + (grO ρ 6 (zup G 165 (1 + v) 0) (ofi G (-1 - v) 0 0 0)).2) := by
  unfold bn1
  rw [@if_pos _ (Classical.propDecidable _) h, @if_pos _ (Classical.propDecidable _) b, if_neg e]
theorem bnO_f {ρ : Int → Int} {bs : Int} {G : zJ} {v : Nat} (h : ¬ (bnO ρ bs G v) 164 21 = 0) : ∀ j, bnO ρ bs G (v + j) = bnO ρ bs G v
  | 0 => rfl
  | j + 1 => by rw [show v + (j + 1) = (v + j) + 1 from rfl, bnO_s, bnO_f h j, bn1_F h]
end
section
/-! ===== solved of the reference, exact ===== -/
def WKR (J' : zJ) (z : Int) (F : zJ × Int) : Prop := (J' 164 21 = 0 → (tb0 J', z) = F) ∧ (¬ J' 164 21 = 0 → ¬ F.1 164 21 = 0)
theorem ms_vu {J : zJ} {s m a b : Int} (hM : MS J 0 0 0 s m) (ha : 0 ≤ a ∧ a < m) (hb : 0 ≤ b ∧ b < m) (h : J 166 (0 + a) < 0) (e : J 166 (0 + a) = J 166 (0 + b)) : a = b := by
  refine hM.2.2.2.2.2.2.2.2 a b ha.1 ha.2 hb.1 hb.2 ⟨e, fun i i0 iA => ?_⟩
  unfold arh at iA
  rw [if_pos (by show J 166 (0 + b) < 0; omega)] at iA
  omega
theorem tm_fv {J : zJ} {s m t v : Int} (hM : MS J 0 0 0 s m) (ht : 0 ≤ t ∧ t < m) (hv : 0 ≤ v) (e : J 166 (0 + t) = -1 - v) : ofi (tb0 J) (-1 - v) 0 0 0 = t ∧ (J 164 21 = 0 → tmO (tb0 J) (-1 - v) 0 0 0 = (tb0 J, t)) := by
  have hT := hM.told
  have hm : tb0 J 165 0 = m := hM.2.2.2.2.1
  have ar : oar (tb0 J) (-1 - v) = 0 := by unfold oar arh; rw [if_pos (by omega)]
  have q : ofi (tb0 J) (-1 - v) 0 0 0 = t := by
    unfold ofi
    rw [hm]
    refine fnB_eq ht.1 (by omega) (fun j a c => dcB_t (fun k => ?_)) (Or.inr (dcB_f (fun k => k ?_)))
    · have h6 := k.1
      rw [tb0_6, if_pos (by omega)] at h6
      have := ms_vu hM ht ⟨a, by omega⟩ (by omega) (e.trans h6.symm)
      omega
    · refine ⟨by rw [tb0_6, if_pos (by omega)]; exact e, fun y => ?_, fun y => ?_, fun y => ?_⟩ <;> omega
  refine ⟨q, fun f => ?_⟩
  unfold tmO
  rw [if_pos (show tb0 J 164 21 = 0 from f), q, hm, if_pos ht.2]
theorem gr_cu {ρ : Int → Int} {J Jd J0 J1 J2 J' : zJ} {s m t u z0 z1 z2 z : Int} {k : Nat} (hM : MS J 0 0 0 s m) (ht : 0 ≤ u ∧ u < m) (h : J 164 21 = 0) (e : zup J 164 21 0 = Jd) (hk : ¬ k = 0) (hv : ¬ J 166 (0 + u) < 0) (er : ρ t = u) (a0 : (0 < mar J 0 0 u ∧ (tb0 J0, z0) = grO ρ (k - 1) (tb0 Jd) (Jd 167 (3 * (0 + u) + 0))) ∨ (¬ 0 < mar J 0 0 u ∧ J0 = Jd ∧ z0 = 0)) (a1 : (1 < mar J 0 0 u ∧ (tb0 J1, z1) = grO ρ (k - 1) (tb0 J0) (J0 167 (3 * (0 + u) + 1))) ∨ (¬ 1 < mar J 0 0 u ∧ J1 = J0 ∧ z1 = 0)) (a2 : (2 < mar J 0 0 u ∧ (tb0 J2, z2) = grO ρ (k - 1) (tb0 J1) (J1 167 (3 * (0 + u) + 2))) ∨ (¬ 2 < mar J 0 0 u ∧ J2 = J1 ∧ z2 = 0)) (p : (tb0 J', z) = tmO (tb0 J2) (J 166 (0 + u)) z0 z1 z2) : (tb0 J', z) = grO ρ k (tb0 J) t := by
  have hT := hM.told
  have ed := tb0_2z e h
  obtain ⟨k, rfl⟩ : ∃ k', k = k' + 1 := ⟨k - 1, by omega⟩
  rw [show k + 1 - 1 = k from rfl] at a0 a1 a2
  rw [grO_s, if_pos (show tb0 J 164 21 = 0 from h), er, (hM.oa ht).1, if_neg hv]
  have w : ∀ (Q : zJ) (i : Int), 0 ≤ i → i < 3 → tb0 Q 167 (3 * (0 + u) + i) = Q 167 (3 * (0 + u) + i) := fun Q i a b => by rw [tb0_7, if_pos (by omega)]
  refine gm_end (A := mar J 0 0 u) (G0 := tb0 J0) (G1 := tb0 J1) (G2 := tb0 J2) (z0 := z0) (z1 := z1) (z2 := z2) ?_ ?_ ?_ ?_ p
  · have := (hM.oa ht).2
    rw [(hM.oa ht).1] at this
    exact this
  · rcases a0 with ⟨a, b⟩ | ⟨a, b, c⟩
    · refine Or.inl ⟨a, ?_⟩
      (try dsimp only)
      rw [← ed, w Jd 0 (by decide) (by decide)]
      exact b
    · exact Or.inr ⟨a, by rw [b, ed], c⟩
  · rcases a1 with ⟨a, b⟩ | ⟨a, b, c⟩
    · refine Or.inl ⟨a, ?_⟩
      (try dsimp only)
      rw [w J0 1 (by decide) (by decide)]
      exact b
    · exact Or.inr ⟨a, by rw [b], c⟩
  · rcases a2 with ⟨a, b⟩ | ⟨a, b, c⟩
    · refine Or.inl ⟨a, ?_⟩
      (try dsimp only)
      rw [w J1 2 (by decide) (by decide)]
      exact b
    · exact Or.inr ⟨a, by rw [b], c⟩
/-- an argument's stage, exact as long as there is room -/
def WST (ρ : Int → Int) (k : Nat) (u A i : Int) (J1 J0 : zJ) (z : Int) : Prop := (i < A ∧ WKR J1 z (grO ρ k (tb0 J0) (J0 167 (3 * (0 + u) + i))) ∧ (J1 164 21 = 0 → J0 164 21 = 0)) ∨ (¬ i < A ∧ J1 = J0 ∧ z = 0)
theorem WST.x {ρ : Int → Int} {k : Nat} {u A i z : Int} {J1 J0 : zJ} (h : WST ρ k u A i J1 J0 z) (f : J1 164 21 = 0) : J0 164 21 = 0 ∧ ((i < A ∧ (tb0 J1, z) = grO ρ k (tb0 J0) (J0 167 (3 * (0 + u) + i))) ∨ (¬ i < A ∧ J1 = J0 ∧ z = 0)) := by
  rcases h with ⟨a, b, c⟩ | ⟨a, b, c⟩
  · exact ⟨c f, Or.inl ⟨a, b.1 f⟩⟩
  · exact ⟨by rw [← b]; exact f, Or.inr ⟨a, b, c⟩⟩
theorem WST.g {ρ : Int → Int} {k : Nat} {u A i z : Int} {J1 J0 : zJ} (hu : 0 ≤ u ∧ u < 400) (hi : 0 ≤ i ∧ i < 3) (h : WST ρ k u A i J1 J0 z) (f0 : J0 164 21 = 0) : (J1 164 21 = 0 → gA (fun H i => grO ρ k H (H 167 (3 * (0 + u) + i))) (tb0 J0) A i = (tb0 J1, z)) ∧ (¬ J1 164 21 = 0 → ¬ (gA (fun H i => grO ρ k H (H 167 (3 * (0 + u) + i))) (tb0 J0) A i).1 164 21 = 0) := by
  have w : tb0 J0 167 (3 * (0 + u) + i) = J0 167 (3 * (0 + u) + i) := by rw [tb0_7, if_pos (by omega)]
  unfold gA
  rcases h with ⟨a, b, c⟩ | ⟨a, b, c⟩
  · rw [if_pos a]
    (try dsimp only)
    rw [w]
    exact ⟨fun f => (b.1 f).symm, b.2⟩
  · rw [if_neg a, b, c]
    exact ⟨fun _ => rfl, fun n => absurd f0 n⟩
theorem gr_cw {ρ : Int → Int} {J Jd J0 J1 J2 J' : zJ} {s m t u z0 z1 z2 z : Int} {k : Nat} (hM : MS J 0 0 0 s m) (ht : 0 ≤ u ∧ u < m) (h : J 164 21 = 0) (e : zup J 164 21 0 = Jd) (hk : ¬ k = 0) (hv : ¬ J 166 (0 + u) < 0) (er : ρ t = u) (a0 : WST ρ (k - 1) u (mar J 0 0 u) 0 J0 Jd z0) (a1 : WST ρ (k - 1) u (mar J 0 0 u) 1 J1 J0 z1) (a2 : WST ρ (k - 1) u (mar J 0 0 u) 2 J2 J1 z2) (p : (tb0 J', z) = tmO (tb0 J2) (J 166 (0 + u)) z0 z1 z2) : WKR J' z (grO ρ k (tb0 J) t) := by
  have hT := hM.told
  by_cases f2 : J2 164 21 = 0
  · obtain ⟨f1, b2⟩ := a2.x f2
    obtain ⟨f0, b1⟩ := a1.x f1
    obtain ⟨_, b0⟩ := a0.x f0
    have q := gr_cu hM ht h e hk hv er b0 b1 b2 p
    exact ⟨fun _ => q, fun n => by rw [← q]; exact n⟩
  · have fd : Jd 164 21 = 0 := by rw [← e]; exact zup_at
    have ed := tb0_2z e h
    have q : (tb0 J', z) = (tb0 J2, 0) := by rw [p, tmO_f (show ¬ tb0 J2 164 21 = 0 from f2)]
    have q1 : ¬ J' 164 21 = 0 := by
      have : tb0 J' 164 21 = tb0 J2 164 21 := by rw [(Prod.mk.inj q).1]
      exact fun y => f2 (this.symm.trans y)
    refine ⟨fun y => absurd y q1, fun _ => ?_⟩
    obtain ⟨k, rfl⟩ : ∃ k', k = k' + 1 := ⟨k - 1, by omega⟩
    rw [show k + 1 - 1 = k from rfl] at a0 a1 a2
    rw [grO_s, if_pos (show tb0 J 164 21 = 0 from h), er, (hM.oa ht).1, if_neg hv]
    have eA : oar (tb0 J) (J 166 (0 + u)) = mar J 0 0 u := by
      have := (hM.oa ht).2
      rw [(hM.oa ht).1] at this
      exact this
    refine gR_f ?_
    rw [eA]
    have hT9 : ∀ S i, ¬ S 164 21 = 0 → ¬ ((fun (H : zJ) (i : Int) => grO ρ k H (H 167 (3 * (0 + u) + i))) S i).1 164 21 = 0 := fun S i h => grO_f h
    obtain ⟨x0, y0⟩ := a0.g (by omega) (by decide) fd
    rw [ed] at x0 y0
    by_cases f0 : J0 164 21 = 0
    · have s1 : gst (fun H i => grO ρ k H (H 167 (3 * (0 + u) + i))) (tb0 J) (mar J 0 0 u) 1 = (tb0 J0, z0) := x0 f0
      obtain ⟨x1, y1⟩ := a1.g (by omega) (by decide) f0
      by_cases f1 : J1 164 21 = 0
      · have s2 : gst (fun H i => grO ρ k H (H 167 (3 * (0 + u) + i))) (tb0 J) (mar J 0 0 u) 2 = (tb0 J1, z1) := by rw [gst_s, s1]; exact x1 f1
        obtain ⟨x2, y2⟩ := a2.g (by omega) (by decide) f1
        rw [gst_s, s2]
        exact y2 f2
      · refine gst_f hT9 (i := 2) ?_ 1
        rw [gst_s, s1]
        exact y1 f1
    · exact gst_f hT9 (i := 1) (y0 f0) 2
/-- what classes are, as the reference has them -/
def mRHO (J : zJ) (m0 : Int) (ρ : Int → Int) : Prop := ∀ t, VN 400 m0 t → VN 400 m0 (ρ t) ∧ (J 178 (tp (J 177) t) = -1 → J 166 (0 + ρ t) = -1 - J 179 (tp (J 177) t)) ∧ (¬ J 178 (tp (J 177) t) = -1 → ρ t = J 178 (tp (J 177) t) ∧ 0 ≤ J 166 (0 + ρ t))
theorem mRHO.mg {rp : Int → Bool} {J' J : zJ} {s m m' m0 : Int} {ρ : Int → Int} (h : mRHO J m0 ρ) (hm : m0 ≤ m) (g : MG [] [] rp J' J 0 0 0 s m m') : mRHO J' m0 ρ := fun t ht => by
  have e7 : J' 177 = J 177 := g.2.2.1.2.2.2 177 rfl
  have e8 : J' 178 = J 178 := g.2.2.1.2.2.2 178 rfl
  have e9 : J' 179 = J 179 := g.2.2.1.2.2.2 179 rfl
  obtain ⟨a, b, c⟩ := h t ht
  rw [e7, e8, e9, (g.2.1 _ a.1.1 (by have := a.1; have := a.2; omega)).1.1]
  exact ⟨a, b, c⟩
set_option maxHeartbeats 4000000 in
set_option maxRecDepth 100000 in
theorem x_solvedR {l : Launch} {G : tb_G} (hl : l.stackTraces = false) (n : Nat) : ∀ (r9 : Nat) (J : zJ) (x : Int) (y : Int) (hr_x : -2147483648 ≤ x ∧ x < 2147483648) (hr_y : -2147483648 ≤ y ∧ y < 2147483648) (s m m0 : Int) (ρ : Int → Int) (hM : MS J 0 0 0 s m) (hs : J 164 9 = s) (hU : UF J 400 m0) (hm : m0 ≤ m) (hx : 0 ≤ x ∧ x < m0) (hy : 0 ≤ y ∧ y ≤ 7) (hρ : mRHO J m0 ρ), ((7 - y).toNat) < r9 → tz_Ok l G M_X12_solved (5 + 1 * r9) 0 0 [.ref 164, zi x, zi y] n J (zqi (fun z J' => ∃ m', MG [] [] (fun _ => false) J' J 0 0 0 s m m' ∧ (J' 164 21 = 0 → 0 ≤ z ∧ z < m') ∧ WKR J' z (grO ρ (7 - y).toNat (tb0 J) x))) zN := by
  intro r9
  induction r9 with
  | zero => intro J x y hr_x hr_y s m m0 ρ hM hs hU hm hx hy hρ hm9; exact absurd hm9 (Nat.not_lt_zero _)
  | succ r9 ih =>
    intro J x y hr_x hr_y s m m0 ρ hM hs hU hm hx hy hρ hm9
    refine tz_Ok.of hl (by decide +kernel) rfl (tb_c1 rfl) (Nat.le_of_ble_eq_true rfl) ?_
    show tz_At l G M_X12_solved (tb_rm (5 + 1 * (r9 + 1)) 0 0) none (tb_ZM G 0 0 (zQ n 0 (zqi (fun z J' => ∃ m', MG [] [] (fun _ => false) J' J 0 0 0 s m m' ∧ (J' 164 21 = 0 → 0 ≤ z ∧ z < m') ∧ WKR J' z (grO ρ (7 - y).toNat (tb0 J) x)))) (zX n 0 zN)) 0 0 n J 0 [some (.ref 164), some (zi x), some (zi y), none, none, none, none, none, none] []
    have hT := hM.told
    have hxv : VN 400 m0 x := ⟨by omega, by omega⟩
    have g0 : MG [] [] (fun _ => false) J J 0 0 0 s m m := MG.rf hM
    refine tz_aload_n (pc := 0) dX12_solved_0 rfl rfl ?_
    refine tz_iload_n (pc := 1) dX12_solved_1 rfl rfl ?_
    refine tz_cV (pc := 2) (x_top hl n _ _ (by omega) 400 m0 hU hxv) vl_X12_164 dX12_solved_2 o_164 rfl rfl (Nat.le_of_ble_eq_true rfl) ⟨(show 0 + 1 ≤ 5 + 1 * (r9 + 1) by omega), (show 8 + (3 + 11) + 40 * (0) ≤ 40 * (5 + 1 * (r9 + 1)) by omega)⟩ rfl rfl (Nat.le_of_ble_eq_true rfl) (Nat.le_of_ble_eq_true rfl) (fun r9 J_2 hq9 => ?_)
    obtain ⟨z_2, rfl, hz_2, rfl, v_2, b_2, t_2⟩ := hq9
    have a_2 := v_2.1
    have c_2 := v_2.2
    refine tz_istore_n (pc := 5) (L2 := [_, _, _, _, _, _, _, _, _]) dX12_solved_5 rfl (by decide) rfl ?_
    have ua := (hU.at a_2).2
    have va := c_2
    refine tz_aload_n (pc := 6) dX12_solved_6 rfl rfl ?_
    refine tz_iload_n (pc := 7) dX12_solved_7 rfl rfl ?_
    refine tz_cV (pc := 8) (o_deep hl n _ _ (by omega)) vl_X12_155 dX12_solved_8 o_164 rfl rfl (Nat.le_of_ble_eq_true rfl) ⟨(show 0 + 1 ≤ 5 + 1 * (r9 + 1) by omega), (show 8 + (2 + 11) + 40 * (0) ≤ 40 * (5 + 1 * (r9 + 1)) by omega)⟩ rfl rfl (Nat.le_of_ble_eq_true rfl) (Nat.le_of_ble_eq_true rfl) (fun r9 J_8 hq9 => ?_)
    obtain ⟨z_8, rfl, hz_8, d1, d2⟩ := hq9
    have dd_8 : zOf (zbut [164]) J_8 J ∧ ∀ k, ¬ k = 21 → J_8 164 k = J 164 k := by rw [← d1]; exact ⟨zOf.up rfl zOf.rf, fun k hk => zup_ne hk⟩
    have z21_8 : J_8 164 21 = z_8 := by rw [← d1]; exact zup_at
    have q_8 := MG.deep hM dd_8 (by omega)
    have l_8 := q_8.1.2
    rcases d2 with ⟨rfl, d2⟩ | ⟨rfl, d2⟩
    · refine tz_if_eqT (pc := 11) (tgt := 16) (by decide) dX12_solved_11 (by decide) (by decide) ?_
      refine tz_aload_n (pc := 16) dX12_solved_16 rfl rfl ?_
      refine tz_fR (pc := 17) dX12_solved_17 fl_X12_53 r_164_26 ?_
      refine tz_iload_n (pc := 20) dX12_solved_20 rfl rfl ?_
      refine tz_aL (pc := 21) (z := z_2) (v := (J 178 z_2)) dX12_solved_21 a_178 rfl (by omega) (Eq.trans (congrFun (show J_8 178 = J 178 by rw [← d1]; exact zup_nc (by decide)) z_2) rfl) (fun r_21 => ?_)
      refine tz_iconst (pc := 22) dX12_solved_22 ?_
      refine tz_icmp_ne (pc := 23) (tgt := 37) dX12_solved_23 (by decide) (by omega) (by decide) (fun h_23 => ?_) (fun h_23 => ?_)
      · refine tz_aload_n (pc := 37) dX12_solved_37 rfl rfl ?_
        refine tz_fR (pc := 38) dX12_solved_38 fl_X12_53 r_164_26 ?_
        refine tz_iload_n (pc := 41) dX12_solved_41 rfl rfl ?_
        refine tz_aL (pc := 42) (z := z_2) (v := (J 178 z_2)) dX12_solved_42 a_178 rfl (by omega) (Eq.trans (congrFun (show J_8 178 = J 178 by rw [← d1]; exact zup_nc (by decide)) z_2) rfl) (fun r_42 => ?_)
        have rr9 := (hρ x hxv).2.2 (by rw [t_2]; omega)
        rw [t_2] at rr9
        generalize hu9 : J 178 z_2 = u
        rw [hu9] at rr9
        have er9 := rr9.1
        have hn9 := rr9.2
        rw [er9] at hn9
        have hu : 0 ≤ u ∧ u < m := by omega
        have ha := hM.ar hu
        refine tz_istore (pc := 43) (L2 := [_, _, _, _, _, _, _, _, _]) dX12_solved_43 (by decide) rfl ?_
        refine tz_aload_n (pc := 45) dX12_solved_45 rfl rfl ?_
        refine tz_iload (pc := 46) dX12_solved_46 rfl ?_
        have l_48 := (q_8).1.2
        have tt_48 := (q_8).1.1.told
        refine tz_cV (pc := 48) (m_arity hl n _ _ (by omega) 0 0 0 s m (q_8).1.1 (by omega)) vl_X12_111 dX12_solved_48 o_164 rfl rfl (Nat.le_of_ble_eq_true rfl) ⟨(show 2 + 1 ≤ 5 + 1 * (r9 + 1) by omega), (show 8 + (2 + 11) + 40 * (2) ≤ 40 * (5 + 1 * (r9 + 1)) by omega)⟩ rfl rfl (Nat.le_of_ble_eq_true rfl) (Nat.le_of_ble_eq_true rfl) (fun r9 J_48 hq9 => ?_)
        obtain ⟨z_48, rfl, hz_48, rfl, hv_48⟩ := hq9
        have he_48 : mar J_8 0 0 u = mar J 0 0 u := (q_8).ar hu ((q_8).2.2.1.2.2.2 170 rfl)
        rw [he_48] at hv_48
        obtain rfl : mar J 0 0 u = z_48 := hv_48
        refine tz_istore (pc := 51) (L2 := [_, _, _, _, _, _, _, _, _]) dX12_solved_51 (by decide) rfl ?_
        refine tz_iload (pc := 53) dX12_solved_53 rfl ?_
        refine tz_if_le (pc := 55) (tgt := 75) dX12_solved_55 (by decide) (by omega) (fun h_55 => ?_) (fun h_55 => ?_)
        · refine tz_iconst (pc := 75) dX12_solved_75 ?_
          refine tz_istore (pc := 76) (L2 := [_, _, _, _, _, _, _, _, _]) dX12_solved_76 (by decide) rfl ?_
          refine tz_iload (pc := 78) dX12_solved_78 rfl ?_
          refine tz_iconst (pc := 80) dX12_solved_80 ?_
          refine tz_icmp_le (pc := 81) (tgt := 101) dX12_solved_81 (by decide) (by omega) (by decide) (fun h_81 => ?_) (fun h_81 => ?_)
          · refine tz_iconst (pc := 101) dX12_solved_101 ?_
            refine tz_istore (pc := 102) (L2 := [_, _, _, _, _, _, _, _, _]) dX12_solved_102 (by decide) rfl ?_
            refine tz_iload (pc := 104) dX12_solved_104 rfl ?_
            refine tz_iconst (pc := 106) dX12_solved_106 ?_
            refine tz_icmp_le (pc := 107) (tgt := 127) dX12_solved_107 (by decide) (by omega) (by decide) (fun h_107 => ?_) (fun h_107 => ?_)
            · refine tz_iconst (pc := 127) dX12_solved_127 ?_
              refine tz_istore (pc := 128) (L2 := [_, _, _, _, _, _, _, _, _]) dX12_solved_128 (by decide) rfl ?_
              refine tz_aload_n (pc := 130) dX12_solved_130 rfl rfl ?_
              refine tz_iload (pc := 131) dX12_solved_131 rfl ?_
              refine tz_iload (pc := 133) dX12_solved_133 rfl ?_
              refine tz_iload (pc := 135) dX12_solved_135 rfl ?_
              refine tz_iload (pc := 137) dX12_solved_137 rfl ?_
              have l0_139 := (q_8).1.2
              have t0_139 := (q_8).1.1.told
              refine tz_cV (pc := 139) (o_remade hl n _ _ _ _ _ (by omega) (by omega) (by omega) (by omega) s m (q_8).1.1 (((q_8).2.2.1.2.2.1 9 rfl).trans hs) (by omega) (fun q9 => by have e9 := (q_8).ar hu ((q_8).2.2.1.2.2.2 170 rfl); rw [e9]; omega)) vl_X12_152 dX12_solved_139 o_164 rfl rfl (Nat.le_of_ble_eq_true rfl) ⟨(show 3 + 1 ≤ 5 + 1 * (r9 + 1) by omega), (show 8 + (5 + 11) + 40 * (3) ≤ 40 * (5 + 1 * (r9 + 1)) by omega)⟩ rfl rfl (Nat.le_of_ble_eq_true rfl) (Nat.le_of_ble_eq_true rfl) (fun r9 J_139 hq9 => ?_)
              obtain ⟨z_139, rfl, hz_139, m_139, g_139, h_139, x_139⟩ := hq9
              have q_139 := MG.tr q_8 g_139
              have f_139 := g_139.2.2.2
              have l_139 := g_139.1.2
              exact tz_iret (pc := 142) (z := z_139) dX12_solved_142 rfl (Nat.le_of_ble_eq_true rfl) (Nat.le_of_ble_eq_true rfl) ⟨Nat.le_refl _, Nat.le_add_right _ _⟩ ⟨_, rfl, (by omega), ⟨m_139, q_139, h_139, gr_cw hM hu (by omega) d1 (by omega) (by omega) er9 (Or.inr ⟨by omega, rfl, rfl⟩) (Or.inr ⟨by omega, rfl, rfl⟩) (Or.inr ⟨by omega, rfl, rfl⟩) (by have e7 := x_139; rw [show J_8 166 (0 + u) = J 166 (0 + u) from ((q_8).2.1 u hu.1 hu.2).1.1] at e7; exact e7)⟩⟩
            · refine tz_aload_n (pc := 110) dX12_solved_110 rfl rfl ?_
              refine tz_aload_n (pc := 111) dX12_solved_111 rfl rfl ?_
              refine tz_iload (pc := 112) dX12_solved_112 rfl ?_
              refine tz_iconst (pc := 114) dX12_solved_114 ?_
              have l_115 := (q_8).1.2
              have tt_115 := (q_8).1.1.told
              refine tz_cV (pc := 115) (m_arg hl n _ _ _ (by omega) (by decide) 0 0 0 s m (q_8).1.1 (by omega) (by omega)) vl_X12_88 dX12_solved_115 o_164 rfl rfl (Nat.le_of_ble_eq_true rfl) ⟨(show 0 + 1 ≤ 5 + 1 * (r9 + 1) by omega), (show 8 + (3 + 11) + 40 * (0) ≤ 40 * (5 + 1 * (r9 + 1)) by omega)⟩ rfl rfl (Nat.le_of_ble_eq_true rfl) (Nat.le_of_ble_eq_true rfl) (fun r9 J_115 hq9 => ?_)
              obtain ⟨z_115, rfl, hz_115, rfl, hv_115⟩ := hq9
              have he_115 : J_8 167 (3 * (0 + u) + 2) = J 167 (3 * (0 + u) + 2) := ((q_8).2.1 u hu.1 hu.2).2 2 (by omega) (by omega)
              rw [he_115] at hv_115
              obtain rfl : J 167 (3 * (0 + u) + 2) = z_115 := hv_115
              refine tz_iload_n (pc := 118) dX12_solved_118 rfl rfl ?_
              refine tz_iconst (pc := 119) dX12_solved_119 ?_
              refine tz_iadd (pc := 120) (v := y + 1) dX12_solved_120 rfl ?_
              have l0_121 := (q_8).1.2
              have t0_121 := (q_8).1.1.told
              have a_121 := hM.arg (t := u) (i := 2) hu (by omega)
              refine tz_cV (pc := 121) (ih _ _ _ (by omega) (by omega) s m m0 ρ (q_8).1.1 (((q_8).2.2.1.2.2.1 9 rfl).trans hs) (hU.mg (q_8) ⟨rfl, rfl, rfl⟩) (by omega) (by omega) (by omega) (hρ.mg hm (q_8)) (by omega)) vl_X12_183 dX12_solved_121 o_164 rfl rfl (Nat.le_of_ble_eq_true rfl) ⟨(show (5 + 1 * r9) + 1 ≤ 5 + 1 * (r9 + 1) by omega), (show 8 + (9 + 11) + 40 * ((5 + 1 * r9)) ≤ 40 * (5 + 1 * (r9 + 1)) by omega)⟩ rfl rfl (Nat.le_of_ble_eq_true rfl) (Nat.le_of_ble_eq_true rfl) (fun r9 J_121 hq9 => ?_)
              obtain ⟨z_121, rfl, hz_121, m_121, g_121, h_121, x_121⟩ := hq9
              have q_121 := MG.tr q_8 g_121
              have f_121 := g_121.2.2.2
              have l_121 := g_121.1.2
              have w_121 : J_8 167 (3 * (0 + u) + 2) = J 167 (3 * (0 + u) + 2) := ((q_8).2.1 u hu.1 hu.2).2 2 (by decide) (by decide)
              rw [show (7 - (y + 1)).toNat = (7 - y).toNat - 1 from by omega, ← w_121] at x_121
              refine tz_goto (pc := 124) (tgt := 128) dX12_solved_124 (by decide) ?_
              refine tz_istore (pc := 128) (L2 := [_, _, _, _, _, _, _, _, _]) dX12_solved_128 (by decide) rfl ?_
              refine tz_aload_n (pc := 130) dX12_solved_130 rfl rfl ?_
              refine tz_iload (pc := 131) dX12_solved_131 rfl ?_
              refine tz_iload (pc := 133) dX12_solved_133 rfl ?_
              refine tz_iload (pc := 135) dX12_solved_135 rfl ?_
              refine tz_iload (pc := 137) dX12_solved_137 rfl ?_
              have l0_139 := (q_121).1.2
              have t0_139 := (q_121).1.1.told
              refine tz_cV (pc := 139) (o_remade hl n _ _ _ _ _ (by omega) (by omega) (by omega) (by omega) s m_121 (q_121).1.1 (((q_121).2.2.1.2.2.1 9 rfl).trans hs) (by omega) (fun q9 => by have e9 := (q_121).ar hu ((q_121).2.2.1.2.2.2 170 rfl); rw [e9]; omega)) vl_X12_152 dX12_solved_139 o_164 rfl rfl (Nat.le_of_ble_eq_true rfl) ⟨(show 3 + 1 ≤ 5 + 1 * (r9 + 1) by omega), (show 8 + (5 + 11) + 40 * (3) ≤ 40 * (5 + 1 * (r9 + 1)) by omega)⟩ rfl rfl (Nat.le_of_ble_eq_true rfl) (Nat.le_of_ble_eq_true rfl) (fun r9 J_139 hq9 => ?_)
              obtain ⟨z_139, rfl, hz_139, m_139, g_139, h_139, x_139⟩ := hq9
              have q_139 := MG.tr q_121 g_139
              have f_139 := g_139.2.2.2
              have l_139 := g_139.1.2
              exact tz_iret (pc := 142) (z := z_139) dX12_solved_142 rfl (Nat.le_of_ble_eq_true rfl) (Nat.le_of_ble_eq_true rfl) ⟨Nat.le_refl _, Nat.le_add_right _ _⟩ ⟨_, rfl, (by omega), ⟨m_139, q_139, h_139, gr_cw hM hu (by omega) d1 (by omega) (by omega) er9 (Or.inr ⟨by omega, rfl, rfl⟩) (Or.inr ⟨by omega, rfl, rfl⟩) (Or.inl ⟨by omega, x_121, g_121.2.2.2⟩) (by have e7 := x_139; rw [show J_121 166 (0 + u) = J 166 (0 + u) from ((q_121).2.1 u hu.1 hu.2).1.1] at e7; exact e7)⟩⟩
          · refine tz_aload_n (pc := 84) dX12_solved_84 rfl rfl ?_
            refine tz_aload_n (pc := 85) dX12_solved_85 rfl rfl ?_
            refine tz_iload (pc := 86) dX12_solved_86 rfl ?_
            refine tz_iconst (pc := 88) dX12_solved_88 ?_
            have l_89 := (q_8).1.2
            have tt_89 := (q_8).1.1.told
            refine tz_cV (pc := 89) (m_arg hl n _ _ _ (by omega) (by decide) 0 0 0 s m (q_8).1.1 (by omega) (by omega)) vl_X12_88 dX12_solved_89 o_164 rfl rfl (Nat.le_of_ble_eq_true rfl) ⟨(show 0 + 1 ≤ 5 + 1 * (r9 + 1) by omega), (show 8 + (3 + 11) + 40 * (0) ≤ 40 * (5 + 1 * (r9 + 1)) by omega)⟩ rfl rfl (Nat.le_of_ble_eq_true rfl) (Nat.le_of_ble_eq_true rfl) (fun r9 J_89 hq9 => ?_)
            obtain ⟨z_89, rfl, hz_89, rfl, hv_89⟩ := hq9
            have he_89 : J_8 167 (3 * (0 + u) + 1) = J 167 (3 * (0 + u) + 1) := ((q_8).2.1 u hu.1 hu.2).2 1 (by omega) (by omega)
            rw [he_89] at hv_89
            obtain rfl : J 167 (3 * (0 + u) + 1) = z_89 := hv_89
            refine tz_iload_n (pc := 92) dX12_solved_92 rfl rfl ?_
            refine tz_iconst (pc := 93) dX12_solved_93 ?_
            refine tz_iadd (pc := 94) (v := y + 1) dX12_solved_94 rfl ?_
            have l0_95 := (q_8).1.2
            have t0_95 := (q_8).1.1.told
            have a_95 := hM.arg (t := u) (i := 1) hu (by omega)
            refine tz_cV (pc := 95) (ih _ _ _ (by omega) (by omega) s m m0 ρ (q_8).1.1 (((q_8).2.2.1.2.2.1 9 rfl).trans hs) (hU.mg (q_8) ⟨rfl, rfl, rfl⟩) (by omega) (by omega) (by omega) (hρ.mg hm (q_8)) (by omega)) vl_X12_183 dX12_solved_95 o_164 rfl rfl (Nat.le_of_ble_eq_true rfl) ⟨(show (5 + 1 * r9) + 1 ≤ 5 + 1 * (r9 + 1) by omega), (show 8 + (9 + 11) + 40 * ((5 + 1 * r9)) ≤ 40 * (5 + 1 * (r9 + 1)) by omega)⟩ rfl rfl (Nat.le_of_ble_eq_true rfl) (Nat.le_of_ble_eq_true rfl) (fun r9 J_95 hq9 => ?_)
            obtain ⟨z_95, rfl, hz_95, m_95, g_95, h_95, x_95⟩ := hq9
            have q_95 := MG.tr q_8 g_95
            have f_95 := g_95.2.2.2
            have l_95 := g_95.1.2
            have w_95 : J_8 167 (3 * (0 + u) + 1) = J 167 (3 * (0 + u) + 1) := ((q_8).2.1 u hu.1 hu.2).2 1 (by decide) (by decide)
            rw [show (7 - (y + 1)).toNat = (7 - y).toNat - 1 from by omega, ← w_95] at x_95
            refine tz_goto (pc := 98) (tgt := 102) dX12_solved_98 (by decide) ?_
            refine tz_istore (pc := 102) (L2 := [_, _, _, _, _, _, _, _, _]) dX12_solved_102 (by decide) rfl ?_
            refine tz_iload (pc := 104) dX12_solved_104 rfl ?_
            refine tz_iconst (pc := 106) dX12_solved_106 ?_
            refine tz_icmp_le (pc := 107) (tgt := 127) dX12_solved_107 (by decide) (by omega) (by decide) (fun h_107 => ?_) (fun h_107 => ?_)
            · refine tz_iconst (pc := 127) dX12_solved_127 ?_
              refine tz_istore (pc := 128) (L2 := [_, _, _, _, _, _, _, _, _]) dX12_solved_128 (by decide) rfl ?_
              refine tz_aload_n (pc := 130) dX12_solved_130 rfl rfl ?_
              refine tz_iload (pc := 131) dX12_solved_131 rfl ?_
              refine tz_iload (pc := 133) dX12_solved_133 rfl ?_
              refine tz_iload (pc := 135) dX12_solved_135 rfl ?_
              refine tz_iload (pc := 137) dX12_solved_137 rfl ?_
              have l0_139 := (q_95).1.2
              have t0_139 := (q_95).1.1.told
              refine tz_cV (pc := 139) (o_remade hl n _ _ _ _ _ (by omega) (by omega) (by omega) (by omega) s m_95 (q_95).1.1 (((q_95).2.2.1.2.2.1 9 rfl).trans hs) (by omega) (fun q9 => by have e9 := (q_95).ar hu ((q_95).2.2.1.2.2.2 170 rfl); rw [e9]; omega)) vl_X12_152 dX12_solved_139 o_164 rfl rfl (Nat.le_of_ble_eq_true rfl) ⟨(show 3 + 1 ≤ 5 + 1 * (r9 + 1) by omega), (show 8 + (5 + 11) + 40 * (3) ≤ 40 * (5 + 1 * (r9 + 1)) by omega)⟩ rfl rfl (Nat.le_of_ble_eq_true rfl) (Nat.le_of_ble_eq_true rfl) (fun r9 J_139 hq9 => ?_)
              obtain ⟨z_139, rfl, hz_139, m_139, g_139, h_139, x_139⟩ := hq9
              have q_139 := MG.tr q_95 g_139
              have f_139 := g_139.2.2.2
              have l_139 := g_139.1.2
              exact tz_iret (pc := 142) (z := z_139) dX12_solved_142 rfl (Nat.le_of_ble_eq_true rfl) (Nat.le_of_ble_eq_true rfl) ⟨Nat.le_refl _, Nat.le_add_right _ _⟩ ⟨_, rfl, (by omega), ⟨m_139, q_139, h_139, gr_cw hM hu (by omega) d1 (by omega) (by omega) er9 (Or.inr ⟨by omega, rfl, rfl⟩) (Or.inl ⟨by omega, x_95, g_95.2.2.2⟩) (Or.inr ⟨by omega, rfl, rfl⟩) (by have e7 := x_139; rw [show J_95 166 (0 + u) = J 166 (0 + u) from ((q_95).2.1 u hu.1 hu.2).1.1] at e7; exact e7)⟩⟩
            · refine tz_aload_n (pc := 110) dX12_solved_110 rfl rfl ?_
              refine tz_aload_n (pc := 111) dX12_solved_111 rfl rfl ?_
              refine tz_iload (pc := 112) dX12_solved_112 rfl ?_
              refine tz_iconst (pc := 114) dX12_solved_114 ?_
              have l_115 := (q_95).1.2
              have tt_115 := (q_95).1.1.told
              refine tz_cV (pc := 115) (m_arg hl n _ _ _ (by omega) (by decide) 0 0 0 s m_95 (q_95).1.1 (by omega) (by omega)) vl_X12_88 dX12_solved_115 o_164 rfl rfl (Nat.le_of_ble_eq_true rfl) ⟨(show 0 + 1 ≤ 5 + 1 * (r9 + 1) by omega), (show 8 + (3 + 11) + 40 * (0) ≤ 40 * (5 + 1 * (r9 + 1)) by omega)⟩ rfl rfl (Nat.le_of_ble_eq_true rfl) (Nat.le_of_ble_eq_true rfl) (fun r9 J_115 hq9 => ?_)
              obtain ⟨z_115, rfl, hz_115, rfl, hv_115⟩ := hq9
              have he_115 : J_95 167 (3 * (0 + u) + 2) = J 167 (3 * (0 + u) + 2) := ((q_95).2.1 u hu.1 hu.2).2 2 (by omega) (by omega)
              rw [he_115] at hv_115
              obtain rfl : J 167 (3 * (0 + u) + 2) = z_115 := hv_115
              refine tz_iload_n (pc := 118) dX12_solved_118 rfl rfl ?_
              refine tz_iconst (pc := 119) dX12_solved_119 ?_
              refine tz_iadd (pc := 120) (v := y + 1) dX12_solved_120 rfl ?_
              have l0_121 := (q_95).1.2
              have t0_121 := (q_95).1.1.told
              have a_121 := hM.arg (t := u) (i := 2) hu (by omega)
              refine tz_cV (pc := 121) (ih _ _ _ (by omega) (by omega) s m_95 m0 ρ (q_95).1.1 (((q_95).2.2.1.2.2.1 9 rfl).trans hs) (hU.mg (q_95) ⟨rfl, rfl, rfl⟩) (by omega) (by omega) (by omega) (hρ.mg hm (q_95)) (by omega)) vl_X12_183 dX12_solved_121 o_164 rfl rfl (Nat.le_of_ble_eq_true rfl) ⟨(show (5 + 1 * r9) + 1 ≤ 5 + 1 * (r9 + 1) by omega), (show 8 + (9 + 11) + 40 * ((5 + 1 * r9)) ≤ 40 * (5 + 1 * (r9 + 1)) by omega)⟩ rfl rfl (Nat.le_of_ble_eq_true rfl) (Nat.le_of_ble_eq_true rfl) (fun r9 J_121 hq9 => ?_)
              obtain ⟨z_121, rfl, hz_121, m_121, g_121, h_121, x_121⟩ := hq9
              have q_121 := MG.tr q_95 g_121
              have f_121 := g_121.2.2.2
              have l_121 := g_121.1.2
              have w_121 : J_95 167 (3 * (0 + u) + 2) = J 167 (3 * (0 + u) + 2) := ((q_95).2.1 u hu.1 hu.2).2 2 (by decide) (by decide)
              rw [show (7 - (y + 1)).toNat = (7 - y).toNat - 1 from by omega, ← w_121] at x_121
              refine tz_goto (pc := 124) (tgt := 128) dX12_solved_124 (by decide) ?_
              refine tz_istore (pc := 128) (L2 := [_, _, _, _, _, _, _, _, _]) dX12_solved_128 (by decide) rfl ?_
              refine tz_aload_n (pc := 130) dX12_solved_130 rfl rfl ?_
              refine tz_iload (pc := 131) dX12_solved_131 rfl ?_
              refine tz_iload (pc := 133) dX12_solved_133 rfl ?_
              refine tz_iload (pc := 135) dX12_solved_135 rfl ?_
              refine tz_iload (pc := 137) dX12_solved_137 rfl ?_
              have l0_139 := (q_121).1.2
              have t0_139 := (q_121).1.1.told
              refine tz_cV (pc := 139) (o_remade hl n _ _ _ _ _ (by omega) (by omega) (by omega) (by omega) s m_121 (q_121).1.1 (((q_121).2.2.1.2.2.1 9 rfl).trans hs) (by omega) (fun q9 => by have e9 := (q_121).ar hu ((q_121).2.2.1.2.2.2 170 rfl); rw [e9]; omega)) vl_X12_152 dX12_solved_139 o_164 rfl rfl (Nat.le_of_ble_eq_true rfl) ⟨(show 3 + 1 ≤ 5 + 1 * (r9 + 1) by omega), (show 8 + (5 + 11) + 40 * (3) ≤ 40 * (5 + 1 * (r9 + 1)) by omega)⟩ rfl rfl (Nat.le_of_ble_eq_true rfl) (Nat.le_of_ble_eq_true rfl) (fun r9 J_139 hq9 => ?_)
              obtain ⟨z_139, rfl, hz_139, m_139, g_139, h_139, x_139⟩ := hq9
              have q_139 := MG.tr q_121 g_139
              have f_139 := g_139.2.2.2
              have l_139 := g_139.1.2
              exact tz_iret (pc := 142) (z := z_139) dX12_solved_142 rfl (Nat.le_of_ble_eq_true rfl) (Nat.le_of_ble_eq_true rfl) ⟨Nat.le_refl _, Nat.le_add_right _ _⟩ ⟨_, rfl, (by omega), ⟨m_139, q_139, h_139, gr_cw hM hu (by omega) d1 (by omega) (by omega) er9 (Or.inr ⟨by omega, rfl, rfl⟩) (Or.inl ⟨by omega, x_95, g_95.2.2.2⟩) (Or.inl ⟨by omega, x_121, g_121.2.2.2⟩) (by have e7 := x_139; rw [show J_121 166 (0 + u) = J 166 (0 + u) from ((q_121).2.1 u hu.1 hu.2).1.1] at e7; exact e7)⟩⟩
        · refine tz_aload_n (pc := 58) dX12_solved_58 rfl rfl ?_
          refine tz_aload_n (pc := 59) dX12_solved_59 rfl rfl ?_
          refine tz_iload (pc := 60) dX12_solved_60 rfl ?_
          refine tz_iconst (pc := 62) dX12_solved_62 ?_
          have l_63 := (q_8).1.2
          have tt_63 := (q_8).1.1.told
          refine tz_cV (pc := 63) (m_arg hl n _ _ _ (by omega) (by decide) 0 0 0 s m (q_8).1.1 (by omega) (by omega)) vl_X12_88 dX12_solved_63 o_164 rfl rfl (Nat.le_of_ble_eq_true rfl) ⟨(show 0 + 1 ≤ 5 + 1 * (r9 + 1) by omega), (show 8 + (3 + 11) + 40 * (0) ≤ 40 * (5 + 1 * (r9 + 1)) by omega)⟩ rfl rfl (Nat.le_of_ble_eq_true rfl) (Nat.le_of_ble_eq_true rfl) (fun r9 J_63 hq9 => ?_)
          obtain ⟨z_63, rfl, hz_63, rfl, hv_63⟩ := hq9
          have he_63 : J_8 167 (3 * (0 + u) + 0) = J 167 (3 * (0 + u) + 0) := ((q_8).2.1 u hu.1 hu.2).2 0 (by omega) (by omega)
          rw [he_63] at hv_63
          obtain rfl : J 167 (3 * (0 + u) + 0) = z_63 := hv_63
          refine tz_iload_n (pc := 66) dX12_solved_66 rfl rfl ?_
          refine tz_iconst (pc := 67) dX12_solved_67 ?_
          refine tz_iadd (pc := 68) (v := y + 1) dX12_solved_68 rfl ?_
          have l0_69 := (q_8).1.2
          have t0_69 := (q_8).1.1.told
          have a_69 := hM.arg (t := u) (i := 0) hu (by omega)
          refine tz_cV (pc := 69) (ih _ _ _ (by omega) (by omega) s m m0 ρ (q_8).1.1 (((q_8).2.2.1.2.2.1 9 rfl).trans hs) (hU.mg (q_8) ⟨rfl, rfl, rfl⟩) (by omega) (by omega) (by omega) (hρ.mg hm (q_8)) (by omega)) vl_X12_183 dX12_solved_69 o_164 rfl rfl (Nat.le_of_ble_eq_true rfl) ⟨(show (5 + 1 * r9) + 1 ≤ 5 + 1 * (r9 + 1) by omega), (show 8 + (9 + 11) + 40 * ((5 + 1 * r9)) ≤ 40 * (5 + 1 * (r9 + 1)) by omega)⟩ rfl rfl (Nat.le_of_ble_eq_true rfl) (Nat.le_of_ble_eq_true rfl) (fun r9 J_69 hq9 => ?_)
          obtain ⟨z_69, rfl, hz_69, m_69, g_69, h_69, x_69⟩ := hq9
          have q_69 := MG.tr q_8 g_69
          have f_69 := g_69.2.2.2
          have l_69 := g_69.1.2
          have w_69 : J_8 167 (3 * (0 + u) + 0) = J 167 (3 * (0 + u) + 0) := ((q_8).2.1 u hu.1 hu.2).2 0 (by decide) (by decide)
          rw [show (7 - (y + 1)).toNat = (7 - y).toNat - 1 from by omega, ← w_69] at x_69
          refine tz_goto (pc := 72) (tgt := 76) dX12_solved_72 (by decide) ?_
          refine tz_istore (pc := 76) (L2 := [_, _, _, _, _, _, _, _, _]) dX12_solved_76 (by decide) rfl ?_
          refine tz_iload (pc := 78) dX12_solved_78 rfl ?_
          refine tz_iconst (pc := 80) dX12_solved_80 ?_
          refine tz_icmp_le (pc := 81) (tgt := 101) dX12_solved_81 (by decide) (by omega) (by decide) (fun h_81 => ?_) (fun h_81 => ?_)
          · refine tz_iconst (pc := 101) dX12_solved_101 ?_
            refine tz_istore (pc := 102) (L2 := [_, _, _, _, _, _, _, _, _]) dX12_solved_102 (by decide) rfl ?_
            refine tz_iload (pc := 104) dX12_solved_104 rfl ?_
            refine tz_iconst (pc := 106) dX12_solved_106 ?_
            refine tz_icmp_le (pc := 107) (tgt := 127) dX12_solved_107 (by decide) (by omega) (by decide) (fun h_107 => ?_) (fun h_107 => ?_)
            · refine tz_iconst (pc := 127) dX12_solved_127 ?_
              refine tz_istore (pc := 128) (L2 := [_, _, _, _, _, _, _, _, _]) dX12_solved_128 (by decide) rfl ?_
              refine tz_aload_n (pc := 130) dX12_solved_130 rfl rfl ?_
              refine tz_iload (pc := 131) dX12_solved_131 rfl ?_
              refine tz_iload (pc := 133) dX12_solved_133 rfl ?_
              refine tz_iload (pc := 135) dX12_solved_135 rfl ?_
              refine tz_iload (pc := 137) dX12_solved_137 rfl ?_
              have l0_139 := (q_69).1.2
              have t0_139 := (q_69).1.1.told
              refine tz_cV (pc := 139) (o_remade hl n _ _ _ _ _ (by omega) (by omega) (by omega) (by omega) s m_69 (q_69).1.1 (((q_69).2.2.1.2.2.1 9 rfl).trans hs) (by omega) (fun q9 => by have e9 := (q_69).ar hu ((q_69).2.2.1.2.2.2 170 rfl); rw [e9]; omega)) vl_X12_152 dX12_solved_139 o_164 rfl rfl (Nat.le_of_ble_eq_true rfl) ⟨(show 3 + 1 ≤ 5 + 1 * (r9 + 1) by omega), (show 8 + (5 + 11) + 40 * (3) ≤ 40 * (5 + 1 * (r9 + 1)) by omega)⟩ rfl rfl (Nat.le_of_ble_eq_true rfl) (Nat.le_of_ble_eq_true rfl) (fun r9 J_139 hq9 => ?_)
              obtain ⟨z_139, rfl, hz_139, m_139, g_139, h_139, x_139⟩ := hq9
              have q_139 := MG.tr q_69 g_139
              have f_139 := g_139.2.2.2
              have l_139 := g_139.1.2
              exact tz_iret (pc := 142) (z := z_139) dX12_solved_142 rfl (Nat.le_of_ble_eq_true rfl) (Nat.le_of_ble_eq_true rfl) ⟨Nat.le_refl _, Nat.le_add_right _ _⟩ ⟨_, rfl, (by omega), ⟨m_139, q_139, h_139, gr_cw hM hu (by omega) d1 (by omega) (by omega) er9 (Or.inl ⟨by omega, x_69, g_69.2.2.2⟩) (Or.inr ⟨by omega, rfl, rfl⟩) (Or.inr ⟨by omega, rfl, rfl⟩) (by have e7 := x_139; rw [show J_69 166 (0 + u) = J 166 (0 + u) from ((q_69).2.1 u hu.1 hu.2).1.1] at e7; exact e7)⟩⟩
            · refine tz_aload_n (pc := 110) dX12_solved_110 rfl rfl ?_
              refine tz_aload_n (pc := 111) dX12_solved_111 rfl rfl ?_
              refine tz_iload (pc := 112) dX12_solved_112 rfl ?_
              refine tz_iconst (pc := 114) dX12_solved_114 ?_
              have l_115 := (q_69).1.2
              have tt_115 := (q_69).1.1.told
              refine tz_cV (pc := 115) (m_arg hl n _ _ _ (by omega) (by decide) 0 0 0 s m_69 (q_69).1.1 (by omega) (by omega)) vl_X12_88 dX12_solved_115 o_164 rfl rfl (Nat.le_of_ble_eq_true rfl) ⟨(show 0 + 1 ≤ 5 + 1 * (r9 + 1) by omega), (show 8 + (3 + 11) + 40 * (0) ≤ 40 * (5 + 1 * (r9 + 1)) by omega)⟩ rfl rfl (Nat.le_of_ble_eq_true rfl) (Nat.le_of_ble_eq_true rfl) (fun r9 J_115 hq9 => ?_)
              obtain ⟨z_115, rfl, hz_115, rfl, hv_115⟩ := hq9
              have he_115 : J_69 167 (3 * (0 + u) + 2) = J 167 (3 * (0 + u) + 2) := ((q_69).2.1 u hu.1 hu.2).2 2 (by omega) (by omega)
              rw [he_115] at hv_115
              obtain rfl : J 167 (3 * (0 + u) + 2) = z_115 := hv_115
              refine tz_iload_n (pc := 118) dX12_solved_118 rfl rfl ?_
              refine tz_iconst (pc := 119) dX12_solved_119 ?_
              refine tz_iadd (pc := 120) (v := y + 1) dX12_solved_120 rfl ?_
              have l0_121 := (q_69).1.2
              have t0_121 := (q_69).1.1.told
              have a_121 := hM.arg (t := u) (i := 2) hu (by omega)
              refine tz_cV (pc := 121) (ih _ _ _ (by omega) (by omega) s m_69 m0 ρ (q_69).1.1 (((q_69).2.2.1.2.2.1 9 rfl).trans hs) (hU.mg (q_69) ⟨rfl, rfl, rfl⟩) (by omega) (by omega) (by omega) (hρ.mg hm (q_69)) (by omega)) vl_X12_183 dX12_solved_121 o_164 rfl rfl (Nat.le_of_ble_eq_true rfl) ⟨(show (5 + 1 * r9) + 1 ≤ 5 + 1 * (r9 + 1) by omega), (show 8 + (9 + 11) + 40 * ((5 + 1 * r9)) ≤ 40 * (5 + 1 * (r9 + 1)) by omega)⟩ rfl rfl (Nat.le_of_ble_eq_true rfl) (Nat.le_of_ble_eq_true rfl) (fun r9 J_121 hq9 => ?_)
              obtain ⟨z_121, rfl, hz_121, m_121, g_121, h_121, x_121⟩ := hq9
              have q_121 := MG.tr q_69 g_121
              have f_121 := g_121.2.2.2
              have l_121 := g_121.1.2
              have w_121 : J_69 167 (3 * (0 + u) + 2) = J 167 (3 * (0 + u) + 2) := ((q_69).2.1 u hu.1 hu.2).2 2 (by decide) (by decide)
              rw [show (7 - (y + 1)).toNat = (7 - y).toNat - 1 from by omega, ← w_121] at x_121
              refine tz_goto (pc := 124) (tgt := 128) dX12_solved_124 (by decide) ?_
              refine tz_istore (pc := 128) (L2 := [_, _, _, _, _, _, _, _, _]) dX12_solved_128 (by decide) rfl ?_
              refine tz_aload_n (pc := 130) dX12_solved_130 rfl rfl ?_
              refine tz_iload (pc := 131) dX12_solved_131 rfl ?_
              refine tz_iload (pc := 133) dX12_solved_133 rfl ?_
              refine tz_iload (pc := 135) dX12_solved_135 rfl ?_
              refine tz_iload (pc := 137) dX12_solved_137 rfl ?_
              have l0_139 := (q_121).1.2
              have t0_139 := (q_121).1.1.told
              refine tz_cV (pc := 139) (o_remade hl n _ _ _ _ _ (by omega) (by omega) (by omega) (by omega) s m_121 (q_121).1.1 (((q_121).2.2.1.2.2.1 9 rfl).trans hs) (by omega) (fun q9 => by have e9 := (q_121).ar hu ((q_121).2.2.1.2.2.2 170 rfl); rw [e9]; omega)) vl_X12_152 dX12_solved_139 o_164 rfl rfl (Nat.le_of_ble_eq_true rfl) ⟨(show 3 + 1 ≤ 5 + 1 * (r9 + 1) by omega), (show 8 + (5 + 11) + 40 * (3) ≤ 40 * (5 + 1 * (r9 + 1)) by omega)⟩ rfl rfl (Nat.le_of_ble_eq_true rfl) (Nat.le_of_ble_eq_true rfl) (fun r9 J_139 hq9 => ?_)
              obtain ⟨z_139, rfl, hz_139, m_139, g_139, h_139, x_139⟩ := hq9
              have q_139 := MG.tr q_121 g_139
              have f_139 := g_139.2.2.2
              have l_139 := g_139.1.2
              exact tz_iret (pc := 142) (z := z_139) dX12_solved_142 rfl (Nat.le_of_ble_eq_true rfl) (Nat.le_of_ble_eq_true rfl) ⟨Nat.le_refl _, Nat.le_add_right _ _⟩ ⟨_, rfl, (by omega), ⟨m_139, q_139, h_139, gr_cw hM hu (by omega) d1 (by omega) (by omega) er9 (Or.inl ⟨by omega, x_69, g_69.2.2.2⟩) (Or.inr ⟨by omega, rfl, rfl⟩) (Or.inl ⟨by omega, x_121, g_121.2.2.2⟩) (by have e7 := x_139; rw [show J_121 166 (0 + u) = J 166 (0 + u) from ((q_121).2.1 u hu.1 hu.2).1.1] at e7; exact e7)⟩⟩
          · refine tz_aload_n (pc := 84) dX12_solved_84 rfl rfl ?_
            refine tz_aload_n (pc := 85) dX12_solved_85 rfl rfl ?_
            refine tz_iload (pc := 86) dX12_solved_86 rfl ?_
            refine tz_iconst (pc := 88) dX12_solved_88 ?_
            have l_89 := (q_69).1.2
            have tt_89 := (q_69).1.1.told
            refine tz_cV (pc := 89) (m_arg hl n _ _ _ (by omega) (by decide) 0 0 0 s m_69 (q_69).1.1 (by omega) (by omega)) vl_X12_88 dX12_solved_89 o_164 rfl rfl (Nat.le_of_ble_eq_true rfl) ⟨(show 0 + 1 ≤ 5 + 1 * (r9 + 1) by omega), (show 8 + (3 + 11) + 40 * (0) ≤ 40 * (5 + 1 * (r9 + 1)) by omega)⟩ rfl rfl (Nat.le_of_ble_eq_true rfl) (Nat.le_of_ble_eq_true rfl) (fun r9 J_89 hq9 => ?_)
            obtain ⟨z_89, rfl, hz_89, rfl, hv_89⟩ := hq9
            have he_89 : J_69 167 (3 * (0 + u) + 1) = J 167 (3 * (0 + u) + 1) := ((q_69).2.1 u hu.1 hu.2).2 1 (by omega) (by omega)
            rw [he_89] at hv_89
            obtain rfl : J 167 (3 * (0 + u) + 1) = z_89 := hv_89
            refine tz_iload_n (pc := 92) dX12_solved_92 rfl rfl ?_
            refine tz_iconst (pc := 93) dX12_solved_93 ?_
            refine tz_iadd (pc := 94) (v := y + 1) dX12_solved_94 rfl ?_
            have l0_95 := (q_69).1.2
            have t0_95 := (q_69).1.1.told
            have a_95 := hM.arg (t := u) (i := 1) hu (by omega)
            refine tz_cV (pc := 95) (ih _ _ _ (by omega) (by omega) s m_69 m0 ρ (q_69).1.1 (((q_69).2.2.1.2.2.1 9 rfl).trans hs) (hU.mg (q_69) ⟨rfl, rfl, rfl⟩) (by omega) (by omega) (by omega) (hρ.mg hm (q_69)) (by omega)) vl_X12_183 dX12_solved_95 o_164 rfl rfl (Nat.le_of_ble_eq_true rfl) ⟨(show (5 + 1 * r9) + 1 ≤ 5 + 1 * (r9 + 1) by omega), (show 8 + (9 + 11) + 40 * ((5 + 1 * r9)) ≤ 40 * (5 + 1 * (r9 + 1)) by omega)⟩ rfl rfl (Nat.le_of_ble_eq_true rfl) (Nat.le_of_ble_eq_true rfl) (fun r9 J_95 hq9 => ?_)
            obtain ⟨z_95, rfl, hz_95, m_95, g_95, h_95, x_95⟩ := hq9
            have q_95 := MG.tr q_69 g_95
            have f_95 := g_95.2.2.2
            have l_95 := g_95.1.2
            have w_95 : J_69 167 (3 * (0 + u) + 1) = J 167 (3 * (0 + u) + 1) := ((q_69).2.1 u hu.1 hu.2).2 1 (by decide) (by decide)
            rw [show (7 - (y + 1)).toNat = (7 - y).toNat - 1 from by omega, ← w_95] at x_95
            refine tz_goto (pc := 98) (tgt := 102) dX12_solved_98 (by decide) ?_
            refine tz_istore (pc := 102) (L2 := [_, _, _, _, _, _, _, _, _]) dX12_solved_102 (by decide) rfl ?_
            refine tz_iload (pc := 104) dX12_solved_104 rfl ?_
            refine tz_iconst (pc := 106) dX12_solved_106 ?_
            refine tz_icmp_le (pc := 107) (tgt := 127) dX12_solved_107 (by decide) (by omega) (by decide) (fun h_107 => ?_) (fun h_107 => ?_)
            · refine tz_iconst (pc := 127) dX12_solved_127 ?_
              refine tz_istore (pc := 128) (L2 := [_, _, _, _, _, _, _, _, _]) dX12_solved_128 (by decide) rfl ?_
              refine tz_aload_n (pc := 130) dX12_solved_130 rfl rfl ?_
              refine tz_iload (pc := 131) dX12_solved_131 rfl ?_
              refine tz_iload (pc := 133) dX12_solved_133 rfl ?_
              refine tz_iload (pc := 135) dX12_solved_135 rfl ?_
              refine tz_iload (pc := 137) dX12_solved_137 rfl ?_
              have l0_139 := (q_95).1.2
              have t0_139 := (q_95).1.1.told
              refine tz_cV (pc := 139) (o_remade hl n _ _ _ _ _ (by omega) (by omega) (by omega) (by omega) s m_95 (q_95).1.1 (((q_95).2.2.1.2.2.1 9 rfl).trans hs) (by omega) (fun q9 => by have e9 := (q_95).ar hu ((q_95).2.2.1.2.2.2 170 rfl); rw [e9]; omega)) vl_X12_152 dX12_solved_139 o_164 rfl rfl (Nat.le_of_ble_eq_true rfl) ⟨(show 3 + 1 ≤ 5 + 1 * (r9 + 1) by omega), (show 8 + (5 + 11) + 40 * (3) ≤ 40 * (5 + 1 * (r9 + 1)) by omega)⟩ rfl rfl (Nat.le_of_ble_eq_true rfl) (Nat.le_of_ble_eq_true rfl) (fun r9 J_139 hq9 => ?_)
              obtain ⟨z_139, rfl, hz_139, m_139, g_139, h_139, x_139⟩ := hq9
              have q_139 := MG.tr q_95 g_139
              have f_139 := g_139.2.2.2
              have l_139 := g_139.1.2
              exact tz_iret (pc := 142) (z := z_139) dX12_solved_142 rfl (Nat.le_of_ble_eq_true rfl) (Nat.le_of_ble_eq_true rfl) ⟨Nat.le_refl _, Nat.le_add_right _ _⟩ ⟨_, rfl, (by omega), ⟨m_139, q_139, h_139, gr_cw hM hu (by omega) d1 (by omega) (by omega) er9 (Or.inl ⟨by omega, x_69, g_69.2.2.2⟩) (Or.inl ⟨by omega, x_95, g_95.2.2.2⟩) (Or.inr ⟨by omega, rfl, rfl⟩) (by have e7 := x_139; rw [show J_95 166 (0 + u) = J 166 (0 + u) from ((q_95).2.1 u hu.1 hu.2).1.1] at e7; exact e7)⟩⟩
            · refine tz_aload_n (pc := 110) dX12_solved_110 rfl rfl ?_
              refine tz_aload_n (pc := 111) dX12_solved_111 rfl rfl ?_
              refine tz_iload (pc := 112) dX12_solved_112 rfl ?_
              refine tz_iconst (pc := 114) dX12_solved_114 ?_
              have l_115 := (q_95).1.2
              have tt_115 := (q_95).1.1.told
              refine tz_cV (pc := 115) (m_arg hl n _ _ _ (by omega) (by decide) 0 0 0 s m_95 (q_95).1.1 (by omega) (by omega)) vl_X12_88 dX12_solved_115 o_164 rfl rfl (Nat.le_of_ble_eq_true rfl) ⟨(show 0 + 1 ≤ 5 + 1 * (r9 + 1) by omega), (show 8 + (3 + 11) + 40 * (0) ≤ 40 * (5 + 1 * (r9 + 1)) by omega)⟩ rfl rfl (Nat.le_of_ble_eq_true rfl) (Nat.le_of_ble_eq_true rfl) (fun r9 J_115 hq9 => ?_)
              obtain ⟨z_115, rfl, hz_115, rfl, hv_115⟩ := hq9
              have he_115 : J_95 167 (3 * (0 + u) + 2) = J 167 (3 * (0 + u) + 2) := ((q_95).2.1 u hu.1 hu.2).2 2 (by omega) (by omega)
              rw [he_115] at hv_115
              obtain rfl : J 167 (3 * (0 + u) + 2) = z_115 := hv_115
              refine tz_iload_n (pc := 118) dX12_solved_118 rfl rfl ?_
              refine tz_iconst (pc := 119) dX12_solved_119 ?_
              refine tz_iadd (pc := 120) (v := y + 1) dX12_solved_120 rfl ?_
              have l0_121 := (q_95).1.2
              have t0_121 := (q_95).1.1.told
              have a_121 := hM.arg (t := u) (i := 2) hu (by omega)
              refine tz_cV (pc := 121) (ih _ _ _ (by omega) (by omega) s m_95 m0 ρ (q_95).1.1 (((q_95).2.2.1.2.2.1 9 rfl).trans hs) (hU.mg (q_95) ⟨rfl, rfl, rfl⟩) (by omega) (by omega) (by omega) (hρ.mg hm (q_95)) (by omega)) vl_X12_183 dX12_solved_121 o_164 rfl rfl (Nat.le_of_ble_eq_true rfl) ⟨(show (5 + 1 * r9) + 1 ≤ 5 + 1 * (r9 + 1) by omega), (show 8 + (9 + 11) + 40 * ((5 + 1 * r9)) ≤ 40 * (5 + 1 * (r9 + 1)) by omega)⟩ rfl rfl (Nat.le_of_ble_eq_true rfl) (Nat.le_of_ble_eq_true rfl) (fun r9 J_121 hq9 => ?_)
              obtain ⟨z_121, rfl, hz_121, m_121, g_121, h_121, x_121⟩ := hq9
              have q_121 := MG.tr q_95 g_121
              have f_121 := g_121.2.2.2
              have l_121 := g_121.1.2
              have w_121 : J_95 167 (3 * (0 + u) + 2) = J 167 (3 * (0 + u) + 2) := ((q_95).2.1 u hu.1 hu.2).2 2 (by decide) (by decide)
              rw [show (7 - (y + 1)).toNat = (7 - y).toNat - 1 from by omega, ← w_121] at x_121
              refine tz_goto (pc := 124) (tgt := 128) dX12_solved_124 (by decide) ?_
              refine tz_istore (pc := 128) (L2 := [_, _, _, _, _, _, _, _, _]) dX12_solved_128 (by decide) rfl ?_
              refine tz_aload_n (pc := 130) dX12_solved_130 rfl rfl ?_
              refine tz_iload (pc := 131) dX12_solved_131 rfl ?_
              refine tz_iload (pc := 133) dX12_solved_133 rfl ?_
              refine tz_iload (pc := 135) dX12_solved_135 rfl ?_
              refine tz_iload (pc := 137) dX12_solved_137 rfl ?_
              have l0_139 := (q_121).1.2
              have t0_139 := (q_121).1.1.told
              refine tz_cV (pc := 139) (o_remade hl n _ _ _ _ _ (by omega) (by omega) (by omega) (by omega) s m_121 (q_121).1.1 (((q_121).2.2.1.2.2.1 9 rfl).trans hs) (by omega) (fun q9 => by have e9 := (q_121).ar hu ((q_121).2.2.1.2.2.2 170 rfl); rw [e9]; omega)) vl_X12_152 dX12_solved_139 o_164 rfl rfl (Nat.le_of_ble_eq_true rfl) ⟨(show 3 + 1 ≤ 5 + 1 * (r9 + 1) by omega), (show 8 + (5 + 11) + 40 * (3) ≤ 40 * (5 + 1 * (r9 + 1)) by omega)⟩ rfl rfl (Nat.le_of_ble_eq_true rfl) (Nat.le_of_ble_eq_true rfl) (fun r9 J_139 hq9 => ?_)
              obtain ⟨z_139, rfl, hz_139, m_139, g_139, h_139, x_139⟩ := hq9
              have q_139 := MG.tr q_121 g_139
              have f_139 := g_139.2.2.2
              have l_139 := g_139.1.2
              exact tz_iret (pc := 142) (z := z_139) dX12_solved_142 rfl (Nat.le_of_ble_eq_true rfl) (Nat.le_of_ble_eq_true rfl) ⟨Nat.le_refl _, Nat.le_add_right _ _⟩ ⟨_, rfl, (by omega), ⟨m_139, q_139, h_139, gr_cw hM hu (by omega) d1 (by omega) (by omega) er9 (Or.inl ⟨by omega, x_69, g_69.2.2.2⟩) (Or.inl ⟨by omega, x_95, g_95.2.2.2⟩) (Or.inl ⟨by omega, x_121, g_121.2.2.2⟩) (by have e7 := x_139; rw [show J_121 166 (0 + u) = J 166 (0 + u) from ((q_121).2.1 u hu.1 hu.2).1.1] at e7; exact e7)⟩⟩
      · have rv9 := And.intro (hρ x hxv).1 ((hρ x hxv).2.1 (by rw [t_2]; omega))
        rw [t_2] at rv9
        refine tz_aload_n (pc := 26) dX12_solved_26 rfl rfl ?_
        refine tz_aload_n (pc := 27) dX12_solved_27 rfl rfl ?_
        refine tz_fR (pc := 28) dX12_solved_28 fl_X12_56 r_164_27 ?_
        refine tz_iload_n (pc := 31) dX12_solved_31 rfl rfl ?_
        refine tz_aL (pc := 32) (z := z_2) (v := (J 179 z_2)) dX12_solved_32 a_179 rfl (by omega) (Eq.trans (congrFun (show J_8 179 = J 179 by rw [← d1]; exact zup_nc (by decide)) z_2) rfl) (fun r_32 => ?_)
        have l0_33 := (q_8).1.2
        have t0_33 := (q_8).1.1.told
        refine tz_cV (pc := 33) (o_varTerm hl n _ _ (by omega) s m (q_8).1.1 (((q_8).2.2.1.2.2.1 9 rfl).trans hs) (by omega)) vl_X12_180 dX12_solved_33 o_164 rfl rfl (Nat.le_of_ble_eq_true rfl) ⟨(show 3 + 1 ≤ 5 + 1 * (r9 + 1) by omega), (show 8 + (2 + 11) + 40 * (3) ≤ 40 * (5 + 1 * (r9 + 1)) by omega)⟩ rfl rfl (Nat.le_of_ble_eq_true rfl) (Nat.le_of_ble_eq_true rfl) (fun r9 J_33 hq9 => ?_)
        obtain ⟨z_33, rfl, hz_33, x_33, m_33, g_33, h_33⟩ := hq9
        have q_33 := MG.tr q_8 g_33
        have f_33 := g_33.2.2.2
        have l_33 := g_33.1.2
        exact tz_iret (pc := 36) (z := z_33) dX12_solved_36 rfl (Nat.le_of_ble_eq_true rfl) (Nat.le_of_ble_eq_true rfl) ⟨Nat.le_refl _, Nat.le_add_right _ _⟩ ⟨_, rfl, (by omega), ⟨m_33, q_33, h_33, (by have f8 : J 164 21 = 0 := (by omega); have w9 : (tb0 J_33, z_33) = (tb0 J_8, ρ x) := (by rw [← (tm_fv q_8.1.1 (t := ρ x) (v := J 179 z_2) (by have := rv9.1.1; have := rv9.1.2; omega) (by omega) (by rw [(q_8.2.1 _ rv9.1.1.1 (by have := rv9.1.1; have := rv9.1.2; omega)).1.1]; exact rv9.2)).2 z21_8]; exact Prod.ext x_33.1 x_33.2); have s9 : grO ρ (7 - y).toNat (tb0 J) x = (tb0 J_8, ρ x) := (by rw [show (7 - y).toNat = (6 - y).toNat + 1 from by omega, grO_s, if_pos (show tb0 J 164 21 = 0 from f8), (hM.oa (t := ρ x) (by have := rv9.1.1; have := rv9.1.2; omega)).1, if_pos (by omega), tb0_2z d1 f8]); rw [s9]; exact ⟨fun _ => w9, fun n9 => by have q7 : tb0 J_33 = tb0 J_8 := (Prod.mk.inj w9).1; have q6 : J_33 164 21 = J_8 164 21 := congrFun (congrFun q7 164) 21; omega⟩)⟩⟩
    · refine tz_if_eqF (pc := 11) (tgt := 16) (by decide) dX12_solved_11 (by decide) (by decide) ?_
      refine tz_iconst (pc := 14) dX12_solved_14 ?_
      exact tz_iret (pc := 15) (z := 0) dX12_solved_15 rfl (Nat.le_of_ble_eq_true rfl) (Nat.le_of_ble_eq_true rfl) ⟨Nat.le_refl _, Nat.le_add_right _ _⟩ ⟨_, rfl, (by decide), ⟨m, q_8, fun q9 => by omega, fun q9 => by omega, fun _ => (Decidable.em (J 164 21 = 0)).elim (fun f9 => by rw [show (7 - y).toNat = 0 from by omega]; exact grO_0f) (fun f9 => grO_f (show ¬ tb0 J 164 21 = 0 from f9))⟩⟩

theorem x_solved {l : Launch} {G : tb_G} (hl : l.stackTraces = false) (n : Nat) (J : zJ) (x y : Int) (hr_x : -2147483648 ≤ x ∧ x < 2147483648) (hr_y : -2147483648 ≤ y ∧ y < 2147483648) (s m m0 : Int) (ρ : Int → Int) (hM : MS J 0 0 0 s m) (hs : J 164 9 = s) (hU : UF J 400 m0) (hm : m0 ≤ m) (hx : 0 ≤ x ∧ x < m0) (hy : 0 ≤ y ∧ y ≤ 7) (hρ : mRHO J m0 ρ) : tz_Ok l G M_X12_solved 13 0 0 [.ref 164, zi x, zi y] n J (zqi (fun z J' => ∃ m', MG [] [] (fun _ => false) J' J 0 0 0 s m m' ∧ (J' 164 21 = 0 → 0 ≤ z ∧ z < m') ∧ WKR J' z (grO ρ (7 - y).toNat (tb0 J) x))) zN := x_solvedR hl n 8 J x y hr_x hr_y s m m0 ρ hM hs hU hm hx hy hρ (by omega)
end
