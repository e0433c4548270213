theorem z_not8 {v : Int} (h : 0 ≤ v ∧ v < 8) : zxor v (-1) = -1 - v := by
  have h3 : v = 0 ∨ v = 1 ∨ v = 2 ∨ v = 3 ∨ v = 4 ∨ v = 5 ∨ v = 6 ∨ v = 7 := by omega
  rcases h3 with rfl | rfl | rfl | rfl | rfl | rfl | rfl | rfl <;> decide
theorem ltA_var {J : zJ} {v m : Int} (h : 0 ≤ v) : ltA (arh (J 3) (-1 - v)) (-1) (-1) (-1) m := by
  unfold ltA arh
  rw [if_pos (by omega)]
  omega
set_option maxHeartbeats 4000000 in
set_option maxRecDepth 100000 in
theorem c_varTerm {l : Launch} {G : tb_G} (hl : l.stackTraces = false) (n : Nat) (J : zJ) (v : Int) (hr_v : -2147483648 ≤ v ∧ v < 2147483648) (m : Int) (C : CT J m) (hm : J 6 12 = m) (hv : 0 ≤ v ∧ v < 8) : tz_Ok l G M_X9_variableTerm 3 0 0 [.ref 6, zi v] n J (zqi (fun z J' => madeP J m (-1 - v) (-1) (-1) (-1) z J')) zN := by
  refine tz_Ok.of hl (by decide +kernel) rfl (tb_c1 rfl) (Nat.le_of_ble_eq_true rfl) ?_
  show tz_At l G M_X9_variableTerm (tb_rm 3 0 0) none (tb_ZM G 0 0 (zQ n 0 (zqi (fun z J' => madeP J m (-1 - v) (-1) (-1) (-1) z J'))) (zX n 0 zN)) 0 0 n J 0 [some (.ref 6), some (zi v)] []
  have ht := C.told
  refine tz_aload_n (pc := 0) dX9_variableTerm_0 rfl rfl ?_
  refine tz_iload_n (pc := 1) dX9_variableTerm_1 rfl rfl ?_
  refine tz_iconst (pc := 2) dX9_variableTerm_2 ?_
  refine tz_ixor (pc := 3) (v := -1 - v) dX9_variableTerm_3 (z_not8 hv) ?_
  refine tz_iconst (pc := 4) dX9_variableTerm_4 ?_
  refine tz_iconst (pc := 5) dX9_variableTerm_5 ?_
  refine tz_iconst (pc := 6) dX9_variableTerm_6 ?_
  refine tz_cV (pc := 7) (c_made hl n _ _ _ _ _ (by omega) (by decide) (by decide) (by decide) m C hm (by omega) (ltA_var hv.1)) vl_X9_59 dX9_variableTerm_7 o_6 rfl rfl (Nat.le_of_ble_eq_true rfl) ⟨(Nat.le_of_ble_eq_true rfl), (Nat.le_of_ble_eq_true rfl)⟩ rfl rfl (Nat.le_of_ble_eq_true rfl) (Nat.le_of_ble_eq_true rfl) (fun r9 J_7 hq9 => ?_)
  obtain ⟨z_7, rfl, hz_7, hp⟩ := hq9
  exact tz_iret (pc := 10) (z := z_7) dX9_variableTerm_10 rfl (Nat.le_of_ble_eq_true rfl) (Nat.le_of_ble_eq_true rfl) ⟨Nat.le_refl _, Nat.le_add_right _ _⟩ ⟨_, rfl, (by omega), hp⟩

set_option maxHeartbeats 4000000 in
set_option maxRecDepth 100000 in
theorem c_hasPlace {l : Launch} {G : tb_G} (hl : l.stackTraces = false) (n : Nat) (J : zJ) (t : Int) (p : Int) (hr_t : -2147483648 ≤ t ∧ t < 2147483648) (hr_p : -2147483648 ≤ p ∧ p < 2147483648)  (h0 : 0 ≤ t ∧ t < 401) : tz_Ok l G M_X9_hasPlace 0 0 0 [.ref 6, zi t, zi p] n J (zqi (fun z J' => J = J' ∧ (if 0 ≤ p ∧ p < J 10 t then 1 else 0) = z)) zN := by
  refine tz_Ok.of hl (by decide +kernel) rfl (tb_c1 rfl) (Nat.le_of_ble_eq_true rfl) ?_
  show tz_At l G M_X9_hasPlace (tb_rm 0 0 0) none (tb_ZM G 0 0 (zQ n 0 (zqi (fun z J' => J = J' ∧ (if 0 ≤ p ∧ p < J 10 t then 1 else 0) = z))) (zX n 0 zN)) 0 0 n J 0 [some (.ref 6), some (zi t), some (zi p)] []
  refine tz_iload_n (pc := 0) dX9_hasPlace_0 rfl rfl ?_
  refine tz_if_lt (pc := 1) (tgt := 18) dX9_hasPlace_1 (by decide) (by omega) (fun h_1 => ?_) (fun h_1 => ?_)
  · refine tz_iconst (pc := 18) dX9_hasPlace_18 ?_
    exact tz_zret (pc := 19) (z := 0) dX9_hasPlace_19 rfl (Or.inl rfl) (Nat.le_of_ble_eq_true rfl) (Nat.le_of_ble_eq_true rfl) ⟨Nat.le_refl _, Nat.le_add_right _ _⟩ ⟨_, rfl, (by decide), ⟨rfl, by split <;> omega⟩⟩
  · refine tz_iload_n (pc := 4) dX9_hasPlace_4 rfl rfl ?_
    refine tz_aload_n (pc := 5) dX9_hasPlace_5 rfl rfl ?_
    refine tz_fR (pc := 6) dX9_hasPlace_6 fl_X9_21 r_6_4 ?_
    refine tz_iload_n (pc := 9) dX9_hasPlace_9 rfl rfl ?_
    refine tz_aL (pc := 10) (z := t) (v := (J 10 t)) dX9_hasPlace_10 a_10 rfl (by omega) rfl (fun r_10 => ?_)
    refine tz_icmp_ge (pc := 11) (tgt := 18) dX9_hasPlace_11 (by decide) (by omega) (by omega) (fun h_11 => ?_) (fun h_11 => ?_)
    · refine tz_iconst (pc := 18) dX9_hasPlace_18 ?_
      exact tz_zret (pc := 19) (z := 0) dX9_hasPlace_19 rfl (Or.inl rfl) (Nat.le_of_ble_eq_true rfl) (Nat.le_of_ble_eq_true rfl) ⟨Nat.le_refl _, Nat.le_add_right _ _⟩ ⟨_, rfl, (by decide), ⟨rfl, by split <;> omega⟩⟩
    · refine tz_iconst (pc := 14) dX9_hasPlace_14 ?_
      refine tz_goto (pc := 15) (tgt := 19) dX9_hasPlace_15 (by decide) ?_
      exact tz_zret (pc := 19) (z := 1) dX9_hasPlace_19 rfl (Or.inr rfl) (Nat.le_of_ble_eq_true rfl) (Nat.le_of_ble_eq_true rfl) ⟨Nat.le_refl _, Nat.le_add_right _ _⟩ ⟨_, rfl, (by decide), ⟨rfl, by split <;> omega⟩⟩

/-! cutTo: the latest term goes -/
theorem CT.pop {J : zJ} {t : Int} (C : CT J (t + 1)) (h0 : 0 ≤ t) : CT (zup (zup J 16 (zbk J t) (J 15 t)) 6 12 t) t := by
  generalize hJ : zup (zup J 16 (zbk J t) (J 15 t)) 6 12 t = J'
  have hs : zSU J' J (t + 1) := by rw [← hJ]; exact ⟨fun _ _ _ => ⟨rfl, rfl, rfl, rfl, rfl, rfl, rfl, rfl⟩, fun _ _ _ => rfl⟩
  have r1 : J' 1 = J 1 := by rw [← hJ]; rfl
  have r3 : J' 3 = J 3 := by rw [← hJ]; rfl
  have r4 : J' 4 = J 4 := by rw [← hJ]; rfl
  have rB : J' 16 (zbk J t) = J 15 t := by
    rw [← hJ]
    show (if zbk J t = zbk J t then J 15 t else J 16 (zbk J t)) = _
    rw [if_pos rfl]
  have rN : ∀ b, ¬ b = zbk J t → J' 16 b = J 16 b := fun b h => by
    rw [← hJ]
    show (if b = zbk J t then J 15 t else J 16 b) = _
    rw [if_neg h]
  obtain ⟨c1, c2⟩ := (C.2.1 t h0 (by omega)).2
  have hk : ∀ s, 0 ≤ s → s < t + 1 → zbk J' s = zbk J s := fun s a b => zbk_su C hs a b
  refine ⟨⟨TT.cut (cTT_su C r1 r3 hs) h0 (by omega), by unfold cSW; rw [r1, r4]; exact C.1.2⟩, fun s a b => ⟨cR1_su C r3 r4 hs a (by omega), cC1_su C hs a (by omega)⟩, fun b x y => ?_⟩
  by_cases e : b = zbk J t
  · subst e
    rw [cB1, rB]
    refine ⟨?_, fun s p q r => ?_⟩
    · rcases c1 with g | ⟨g1, g2⟩
      · exact Or.inl g
      · exact Or.inr ⟨g1, by rw [hk _ g1.1 (by omega)]; exact g2⟩
    · rw [hk s p (by omega)] at r
      exact c2 s p q r
  · obtain ⟨p, q⟩ := C.2.2 b x y
    rw [cB1, rN b e]
    refine ⟨?_, fun s u v w => ?_⟩
    · rcases p with p | ⟨p1, p2⟩
      · exact Or.inl p
      · have : ¬ J 16 b = t := fun h => e (by rw [← p2, h])
        exact Or.inr ⟨by omega, by rw [hk _ p1.1 p1.2]; exact p2⟩
    · rw [hk s u (by omega)] at w
      exact q s u (by omega) w
set_option maxHeartbeats 4000000 in
set_option maxRecDepth 100000 in
theorem c_cutTo {l : Launch} {G : tb_G} (hl : l.stackTraces = false) (n : Nat) (J : zJ) (x : Int) (hr_x : -2147483648 ≤ x ∧ x < 2147483648) (m : Int) (C : CT J m) (hm : J 6 12 = m) (hx : 0 ≤ x ∧ x ≤ m) : tz_Ok l G M_X9_cutTo 2 0 0 [.ref 6, zi x] n J (zqv (fun J' => zOf (zbut [6, 16]) J' J ∧ J' 6 12 = x ∧ CT J' x)) zN := by
  refine tz_Ok.of hl (by decide +kernel) rfl (tb_c1 rfl) (Nat.le_of_ble_eq_true rfl) ?_
  show tz_At l G M_X9_cutTo (tb_rm 2 0 0) none (tb_ZM G 0 0 (zQ n 0 (zqv (fun J' => zOf (zbut [6, 16]) J' J ∧ J' 6 12 = x ∧ CT J' x))) (zX n 0 zN)) 0 0 n J 0 [some (.ref 6), some (zi x), none] []
  have ht := C.told
  refine tz_aload_n (pc := 0) dX9_cutTo_0 rfl rfl ?_
  refine tz_fI (pc := 1) (kz := 12) (v := m) dX9_cutTo_1 fl_X9_45 i_6_12 rfl hm (fun r_1 => ?_)
  refine tz_iconst (pc := 4) dX9_cutTo_4 ?_
  refine tz_isub (pc := 5) (v := m - 1) dX9_cutTo_5 rfl ?_
  refine tz_istore_n (pc := 6) (L2 := [_, _, _]) dX9_cutTo_6 rfl (by decide) rfl ?_
  have loop7 : ∀ (f9 : Nat) (t : Int) (J1 : zJ), ((t + 1).toNat) < f9 → (x - 1 ≤ t ∧ t < m) → (zOf (zbut [6, 16]) J1 J) → (J1 6 12 = t + 1) → (CT J1 (t + 1)) → tz_At l G M_X9_cutTo (tb_rm 2 0 0) none (tb_ZM G 0 0 (zQ n 0 (zqv (fun J' => zOf (zbut [6, 16]) J' J ∧ J' 6 12 = x ∧ CT J' x))) (zX n 0 zN)) 0 0 n J1 7 [some (.ref 6), some (zi x), some (zi t)] [] := by
    intro f9
    induction f9 with
    | zero => intro t J1 hm9; exact absurd hm9 (Nat.not_lt_zero _)
    | succ f9 ih7 =>
      intro t J1 hm7 hi fr hm1 C1
      refine tz_iload_n (pc := 7) dX9_cutTo_7 rfl rfl ?_
      refine tz_iload_n (pc := 8) dX9_cutTo_8 rfl rfl ?_
      refine tz_icmp_lt (pc := 9) (tgt := 43) dX9_cutTo_9 (by decide) (by omega) (by omega) (fun h_9 => ?_) (fun h_9 => ?_)
      · exact tz_vret (pc := 43) dX9_cutTo_43 rfl (Nat.le_of_ble_eq_true rfl) (Nat.le_of_ble_eq_true rfl) ⟨Nat.le_refl _, Nat.le_add_right _ _⟩ ⟨rfl, ⟨fr, by omega, by rw [show x = t + 1 by omega]; exact C1⟩⟩
      · refine tz_iload_n (pc := 12) dX9_cutTo_12 rfl rfl ?_
        refine tz_if_ltF (pc := 13) (tgt := 43) (by omega) dX9_cutTo_13 (by decide) (by omega) ?_
        have hB := zbk_rg J1 t
        have har := C1.ar (t := t) (by omega) (by omega)
        refine tz_aload_n (pc := 16) dX9_cutTo_16 rfl rfl ?_
        refine tz_fR (pc := 17) dX9_cutTo_17 fl_X9_39 r_6_10 ?_
        refine tz_aload_n (pc := 20) dX9_cutTo_20 rfl rfl ?_
        refine tz_iload_n (pc := 21) dX9_cutTo_21 rfl rfl ?_
        refine tz_cV (pc := 22) (c_bucket hl n _ _ (by omega) (by omega) har.1 (fun i p q => by have := C1.arg (by omega) (by omega) p q; omega)) vl_X9_71 dX9_cutTo_22 o_6 rfl rfl (Nat.le_of_ble_eq_true rfl) ⟨(Nat.le_of_ble_eq_true rfl), (Nat.le_of_ble_eq_true rfl)⟩ rfl rfl (Nat.le_of_ble_eq_true rfl) (Nat.le_of_ble_eq_true rfl) (fun r9 J_22 hq9 => ?_)
        obtain ⟨z_22, rfl, hz_22, rfl, rfl⟩ := hq9
        refine tz_aload_n (pc := 25) dX9_cutTo_25 rfl rfl ?_
        refine tz_fR (pc := 26) dX9_cutTo_26 fl_X9_36 r_6_9 ?_
        refine tz_iload_n (pc := 29) dX9_cutTo_29 rfl rfl ?_
        refine tz_aL (pc := 30) (z := t) (v := (J1 15 t)) dX9_cutTo_30 a_15 rfl (by omega) rfl (fun r_30 => ?_)
        refine tz_aS (pc := 31) (z := (zbk J1 t)) dX9_cutTo_31 a_16 rfl (by omega) (by omega) ?_
        refine tz_aload_n (pc := 32) dX9_cutTo_32 rfl rfl ?_
        refine tz_iload_n (pc := 33) dX9_cutTo_33 rfl rfl ?_
        refine tz_pI (pc := 34) (kz := 12) dX9_cutTo_34 fl_X9_45 i_6_12 rfl rfl (by omega) ?_
        refine tz_iinc (pc := 37) (z := t - 1) (L2 := [_, _, _]) dX9_cutTo_37 rfl (by omega) rfl ?_
        refine tz_goto (pc := 40) (tgt := 7) dX9_cutTo_40 (by decide) ?_
        exact ih7 (t - 1) _ (by omega) (by omega) (zOf.up rfl (zOf.up rfl fr)) (show t = t - 1 + 1 by omega) (by rw [show t - 1 + 1 = t by omega]; exact C1.pop (by omega))
  exact loop7 _ _ _ (Nat.lt_succ_self _) (by omega) zOf.rf (by omega) (by rw [show m - 1 + 1 = m by omega]; exact C)

/-- where an argument's places begin -/
def zfr (J : zJ) (t : Int) : Nat → Int
  | 0 => 1
  | i + 1 => zfr J t i + J 10 (J 9 (t * 3 + i))
theorem zfr_end {J : zJ} {m t : Int} (C : CT J m) (h0 : 0 ≤ t) (h1 : t < m) : zfr J t (J 8 t).toNat = J 10 t := by
  have ha := (C.ar h0 h1).1
  rw [(C.2.1 t h0 h1).1.2.1.1]
  rcases (show J 8 t = 0 ∨ J 8 t = 1 ∨ J 8 t = 2 ∨ J 8 t = 3 by omega) with h | h | h | h
  · simp [zs3, h, zfr]
  · simp [zs3, h, zfr]
  · simp [zs3, h, zfr]
    omega
  · simp [zs3, h, zfr]
    omega
theorem zfr_bd {J : zJ} {m t : Int} (C : CT J m) (h0 : 0 ≤ t) (h1 : t < m) : ∀ k : Nat, (k : Int) ≤ J 8 t → 1 + (k : Int) ≤ zfr J t k ∧ zfr J t k ≤ 1 + 364 * (k : Int)
  | 0, _ => by simp [zfr]
  | k + 1, h => by
    have ih := zfr_bd C h0 h1 k (by omega)
    have ha := C.arg h0 h1 (i := (k : Int)) (by omega) (by omega)
    have hn := C.nums (t := J 9 (t * 3 + k)) ha.1.1 (by omega)
    simp only [zfr]
    omega
theorem zfr_s {J : zJ} {t i : Int} (h : 0 ≤ i) : zfr J t (i + 1).toNat = zfr J t i.toNat + J 10 (J 9 (t * 3 + i)) := by
  rw [show (i + 1).toNat = i.toNat + 1 by omega]
  simp only [zfr]
  rw [show ((i.toNat : Nat) : Int) = i by omega]
set_option maxHeartbeats 4000000 in
set_option maxRecDepth 100000 in
theorem c_inArg {l : Launch} {G : tb_G} (hl : l.stackTraces = false) (n : Nat) (J : zJ) (t : Int) (p : Int) (i : Int) (hr_t : -2147483648 ≤ t ∧ t < 2147483648) (hr_p : -2147483648 ≤ p ∧ p < 2147483648) (hr_i : -2147483648 ≤ i ∧ i < 2147483648) (m : Int) (C : CT J m) (h0 : 0 ≤ t ∧ t < m) (hi : 0 ≤ i ∧ i ≤ J 8 t) (hp : 0 ≤ p ∧ p ≤ 400) : tz_Ok l G M_X9_placeInArgument 1 0 0 [.ref 6, zi t, zi p, zi i] n J (zqi (fun z J' => J = J' ∧ p - zfr J t i.toNat = z)) zN := by
  refine tz_Ok.of hl (by decide +kernel) rfl (tb_c1 rfl) (Nat.le_of_ble_eq_true rfl) ?_
  show tz_At l G M_X9_placeInArgument (tb_rm 1 0 0) none (tb_ZM G 0 0 (zQ n 0 (zqi (fun z J' => J = J' ∧ p - zfr J t i.toNat = z))) (zX n 0 zN)) 0 0 n J 0 [some (.ref 6), some (zi t), some (zi p), some (zi i), none, none] []
  have ht := C.told
  have har := C.ar h0.1 h0.2
  refine tz_iconst (pc := 0) dX9_placeInArgument_0 ?_
  refine tz_istore (pc := 1) (L2 := [_, _, _, _, _, _]) dX9_placeInArgument_1 (by decide) rfl ?_
  refine tz_iconst (pc := 3) dX9_placeInArgument_3 ?_
  refine tz_istore (pc := 4) (L2 := [_, _, _, _, _, _]) dX9_placeInArgument_4 (by decide) rfl ?_
  have loop6 : ∀ (f9 : Nat) (j : Int) (f : Int), ((3 - j).toNat) < f9 → (0 ≤ j ∧ j ≤ i) → (f = zfr J t j.toNat) → tz_At l G M_X9_placeInArgument (tb_rm 1 0 0) none (tb_ZM G 0 0 (zQ n 0 (zqi (fun z J' => J = J' ∧ p - zfr J t i.toNat = z))) (zX n 0 zN)) 0 0 n J 6 [some (.ref 6), some (zi t), some (zi p), some (zi i), some (zi f), some (zi j)] [] := by
    intro f9
    induction f9 with
    | zero => intro j f hm9; exact absurd hm9 (Nat.not_lt_zero _)
    | succ f9 ih6 =>
      intro j f hm6 hj hf
      have hb := zfr_bd C h0.1 h0.2 j.toNat (by omega)
      rw [← hf] at hb
      refine tz_iload (pc := 6) dX9_placeInArgument_6 rfl ?_
      refine tz_iload_n (pc := 8) dX9_placeInArgument_8 rfl rfl ?_
      refine tz_icmp_ge (pc := 9) (tgt := 35) dX9_placeInArgument_9 (by decide) (by omega) (by omega) (fun h_9 => ?_) (fun h_9 => ?_)
      · refine tz_iload_n (pc := 35) dX9_placeInArgument_35 rfl rfl ?_
        refine tz_iload (pc := 36) dX9_placeInArgument_36 rfl ?_
        refine tz_isub (pc := 38) (v := p - f) dX9_placeInArgument_38 rfl ?_
        exact tz_iret (pc := 39) (z := (p - f)) dX9_placeInArgument_39 rfl (Nat.le_of_ble_eq_true rfl) (Nat.le_of_ble_eq_true rfl) ⟨Nat.le_refl _, Nat.le_add_right _ _⟩ ⟨_, rfl, (by omega), ⟨rfl, by rw [hf, show i = j by omega]⟩⟩
      · refine tz_iload (pc := 12) dX9_placeInArgument_12 rfl ?_
        refine tz_aload_n (pc := 14) dX9_placeInArgument_14 rfl rfl ?_
        refine tz_fR (pc := 15) dX9_placeInArgument_15 fl_X9_21 r_6_4 ?_
        refine tz_aload_n (pc := 18) dX9_placeInArgument_18 rfl rfl ?_
        refine tz_iload_n (pc := 19) dX9_placeInArgument_19 rfl rfl ?_
        refine tz_iload (pc := 20) dX9_placeInArgument_20 rfl ?_
        refine tz_cV (pc := 22) (c_arg hl n _ _ _ (by omega) (by omega) (by omega)) vl_X9_99 dX9_placeInArgument_22 o_6 rfl rfl (Nat.le_of_ble_eq_true rfl) ⟨(Nat.le_of_ble_eq_true rfl), (Nat.le_of_ble_eq_true rfl)⟩ rfl rfl (Nat.le_of_ble_eq_true rfl) (Nat.le_of_ble_eq_true rfl) (fun r9 J_22 hq9 => ?_)
        obtain ⟨z_22, rfl, hz_22, rfl, rfl⟩ := hq9
        have hg := C.arg h0.1 h0.2 (i := j) (by omega) (by omega)
        have hn := C.nums (t := J 9 (t * 3 + j)) hg.1.1 (by omega)
        refine tz_aL (pc := 25) (z := (J 9 (t * 3 + j))) (v := (J 10 (J 9 (t * 3 + j)))) dX9_placeInArgument_25 a_10 rfl (by omega) rfl (fun r_25 => ?_)
        refine tz_iadd (pc := 26) (v := f + (J 10 (J 9 (t * 3 + j)))) dX9_placeInArgument_26 rfl ?_
        refine tz_istore (pc := 27) (L2 := [_, _, _, _, _, _]) dX9_placeInArgument_27 (by decide) rfl ?_
        refine tz_iinc (pc := 29) (z := j + 1) (L2 := [_, _, _, _, _, _]) dX9_placeInArgument_29 rfl (by omega) rfl ?_
        refine tz_goto (pc := 32) (tgt := 6) dX9_placeInArgument_32 (by decide) ?_
        exact ih6 (j + 1) _ (by omega) (by omega) (by rw [zfr_s (by omega), hf])
  exact loop6 _ 0 _ (Nat.lt_succ_self _) (by omega) rfl

set_option maxHeartbeats 4000000 in
set_option maxRecDepth 100000 in
theorem c_atPlace {l : Launch} {G : tb_G} (hl : l.stackTraces = false) (n : Nat) (J : zJ) (t : Int) (p : Int) (hr_t : -2147483648 ≤ t ∧ t < 2147483648) (hr_p : -2147483648 ≤ p ∧ p < 2147483648) (m : Int) (C : CT J m) (h0 : 0 ≤ t ∧ t < m) (hp : 1 ≤ p ∧ p < J 10 t) : tz_Ok l G M_X9_argumentAtPlace 1 0 0 [.ref 6, zi t, zi p] n J (zqi (fun z J' => J = J' ∧ (0 ≤ z ∧ z < J 8 t) ∧ zfr J t z.toNat ≤ p ∧ p < zfr J t (z + 1).toNat)) zN := by
  refine tz_Ok.of hl (by decide +kernel) rfl (tb_c1 rfl) (Nat.le_of_ble_eq_true rfl) ?_
  show tz_At l G M_X9_argumentAtPlace (tb_rm 1 0 0) none (tb_ZM G 0 0 (zQ n 0 (zqi (fun z J' => J = J' ∧ (0 ≤ z ∧ z < J 8 t) ∧ zfr J t z.toNat ≤ p ∧ p < zfr J t (z + 1).toNat))) (zX n 0 zN)) 0 0 n J 0 [some (.ref 6), some (zi t), some (zi p), none, none, none] []
  have ht := C.told
  have har := C.ar h0.1 h0.2
  have hE := zfr_end C h0.1 h0.2
  have ha1 : 1 ≤ J 8 t := by
    rcases (show J 8 t = 0 ∨ 1 ≤ J 8 t by omega) with h | h
    · rw [h] at hE
      have : zfr J t 0 = 1 := rfl
      simp at hE
      omega
    · exact h
  refine tz_iconst (pc := 0) dX9_argumentAtPlace_0 ?_
  refine tz_istore_n (pc := 1) (L2 := [_, _, _, _, _, _]) dX9_argumentAtPlace_1 rfl (by decide) rfl ?_
  refine tz_aload_n (pc := 2) dX9_argumentAtPlace_2 rfl rfl ?_
  refine tz_fR (pc := 3) dX9_argumentAtPlace_3 fl_X9_15 r_6_2 ?_
  refine tz_iload_n (pc := 6) dX9_argumentAtPlace_6 rfl rfl ?_
  refine tz_aL (pc := 7) (z := t) (v := (J 8 t)) dX9_argumentAtPlace_7 a_8 rfl (by omega) rfl (fun r_7 => ?_)
  refine tz_iconst (pc := 8) dX9_argumentAtPlace_8 ?_
  refine tz_isub (pc := 9) (v := (J 8 t) - 1) dX9_argumentAtPlace_9 rfl ?_
  refine tz_istore (pc := 10) (L2 := [_, _, _, _, _, _]) dX9_argumentAtPlace_10 (by decide) rfl ?_
  refine tz_iconst (pc := 12) dX9_argumentAtPlace_12 ?_
  refine tz_istore (pc := 13) (L2 := [_, _, _, _, _, _]) dX9_argumentAtPlace_13 (by decide) rfl ?_
  have loop15 : ∀ (f9 : Nat) (j : Int) (f : Int), ((3 - j).toNat) < f9 → (0 ≤ j ∧ j ≤ J 8 t - 1) → (f = zfr J t j.toNat) → (f ≤ p) → tz_At l G M_X9_argumentAtPlace (tb_rm 1 0 0) none (tb_ZM G 0 0 (zQ n 0 (zqi (fun z J' => J = J' ∧ (0 ≤ z ∧ z < J 8 t) ∧ zfr J t z.toNat ≤ p ∧ p < zfr J t (z + 1).toNat))) (zX n 0 zN)) 0 0 n J 15 [some (.ref 6), some (zi t), some (zi p), some (zi f), some (zi ((J 8 t) - 1)), some (zi j)] [] := by
    intro f9
    induction f9 with
    | zero => intro j f hm9; exact absurd hm9 (Nat.not_lt_zero _)
    | succ f9 ih15 =>
      intro j f hm15 hj hf hfp
      have hb := zfr_bd C h0.1 h0.2 j.toNat (by omega)
      have hs9 := zfr_s (J := J) (t := t) (i := j) (by omega)
      rw [← hf] at hb hs9
      refine tz_iload (pc := 15) dX9_argumentAtPlace_15 rfl ?_
      refine tz_iload (pc := 17) dX9_argumentAtPlace_17 rfl ?_
      refine tz_icmp_ge (pc := 19) (tgt := 51) dX9_argumentAtPlace_19 (by decide) (by omega) (by omega) (fun h_19 => ?_) (fun h_19 => ?_)
      · refine tz_iload (pc := 51) dX9_argumentAtPlace_51 rfl ?_
        refine tz_iconst (pc := 53) dX9_argumentAtPlace_53 ?_
        have hm_54 := zmax_le ((J 8 t) - 1) 0
        refine tz_mx (pc := 54) (v := zmax ((J 8 t) - 1) 0) dX9_argumentAtPlace_54 ml_X9_86 (Nat.le_of_ble_eq_true rfl) (Nat.le_of_ble_eq_true rfl) (Nat.le_of_ble_eq_true rfl) (Nat.le_of_ble_eq_true rfl) (by omega) (by decide) rfl ?_
        exact tz_iret (pc := 57) (z := (zmax ((J 8 t) - 1) 0)) dX9_argumentAtPlace_57 rfl (Nat.le_of_ble_eq_true rfl) (Nat.le_of_ble_eq_true rfl) ⟨Nat.le_refl _, Nat.le_add_right _ _⟩ ⟨_, rfl, (by omega), ⟨rfl, by omega, by rw [show zmax (J 8 t - 1) 0 = j by omega, ← hf]; exact hfp, by rw [show zmax (J 8 t - 1) 0 + 1 = J 8 t by omega, hE]; omega⟩⟩
      · refine tz_iload_n (pc := 22) dX9_argumentAtPlace_22 rfl rfl ?_
        refine tz_aload_n (pc := 23) dX9_argumentAtPlace_23 rfl rfl ?_
        refine tz_fR (pc := 24) dX9_argumentAtPlace_24 fl_X9_21 r_6_4 ?_
        refine tz_aload_n (pc := 27) dX9_argumentAtPlace_27 rfl rfl ?_
        refine tz_iload_n (pc := 28) dX9_argumentAtPlace_28 rfl rfl ?_
        refine tz_iload (pc := 29) dX9_argumentAtPlace_29 rfl ?_
        refine tz_cV (pc := 31) (c_arg hl n _ _ _ (by omega) (by omega) (by omega)) vl_X9_99 dX9_argumentAtPlace_31 o_6 rfl rfl (Nat.le_of_ble_eq_true rfl) ⟨(Nat.le_of_ble_eq_true rfl), (Nat.le_of_ble_eq_true rfl)⟩ rfl rfl (Nat.le_of_ble_eq_true rfl) (Nat.le_of_ble_eq_true rfl) (fun r9 J_31 hq9 => ?_)
        obtain ⟨z_31, rfl, hz_31, rfl, rfl⟩ := hq9
        have hg := C.arg h0.1 h0.2 (i := j) (by omega) (by omega)
        have hn := C.nums (t := J 9 (t * 3 + j)) hg.1.1 (by omega)
        refine tz_aL (pc := 34) (z := (J 9 (t * 3 + j))) (v := (J 10 (J 9 (t * 3 + j)))) dX9_argumentAtPlace_34 a_10 rfl (by omega) rfl (fun r_34 => ?_)
        refine tz_iadd (pc := 35) (v := f + (J 10 (J 9 (t * 3 + j)))) dX9_argumentAtPlace_35 rfl ?_
        refine tz_istore_n (pc := 36) (L2 := [_, _, _, _, _, _]) dX9_argumentAtPlace_36 rfl (by decide) rfl ?_
        refine tz_iload_n (pc := 37) dX9_argumentAtPlace_37 rfl rfl ?_
        refine tz_iload_n (pc := 38) dX9_argumentAtPlace_38 rfl rfl ?_
        refine tz_icmp_ge (pc := 39) (tgt := 45) dX9_argumentAtPlace_39 (by decide) (by omega) (by omega) (fun h_39 => ?_) (fun h_39 => ?_)
        · refine tz_iinc (pc := 45) (z := j + 1) (L2 := [_, _, _, _, _, _]) dX9_argumentAtPlace_45 rfl (by omega) rfl ?_
          refine tz_goto (pc := 48) (tgt := 15) dX9_argumentAtPlace_48 (by decide) ?_
          exact ih15 (j + 1) _ (by omega) (by omega) (by rw [hs9]) (by omega)
        · refine tz_iload (pc := 42) dX9_argumentAtPlace_42 rfl ?_
          exact tz_iret (pc := 44) (z := j) dX9_argumentAtPlace_44 rfl (Nat.le_of_ble_eq_true rfl) (Nat.le_of_ble_eq_true rfl) ⟨Nat.le_refl _, Nat.le_add_right _ _⟩ ⟨_, rfl, (by omega), ⟨rfl, by omega, by rw [← hf]; exact hfp, by rw [hs9]; omega⟩⟩
  exact loop15 _ 0 _ (Nat.lt_succ_self _) (by omega) rfl (by omega)

