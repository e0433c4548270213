/-! ===== feed and bank of the class ===== -/
theorem bv8 (x : BitVec 32) (s : Nat) (hs : s ≤ 24) : (x >>> s) &&& 255#32 = (x.sshiftRight s) &&& 255#32 := by
  apply BitVec.eq_of_getLsbD_eq
  intro i hi
  rw [BitVec.getLsbD_and, BitVec.getLsbD_and, BitVec.getLsbD_ushiftRight, BitVec.getLsbD_sshiftRight]
  by_cases h8 : i < 8
  · rw [if_pos (by omega)]
    simp [show ¬ (32 ≤ i) by omega]
  · have : (255#32).getLsbD i = false := by
      have : ∀ j : Fin 32, ¬ j.1 < 8 → (255#32).getLsbD j.1 = false := by decide
      exact this ⟨i, hi⟩ h8
    rw [this, Bool.and_false, Bool.and_false]
theorem sh24 (x : Int32) : ((x.toUInt32 >>> ((Int32.ofInt 24).toUInt32 &&& Int32.toUInt32 31)).toInt32 &&& 255) = ((x >>> (Int32.ofInt 24 &&& 31)) &&& 255) := by
  apply Int32.toBitVec_inj.1
  exact bv8 x.toBitVec 24 (by decide)
theorem sh16 (x : Int32) : ((x.toUInt32 >>> ((Int32.ofInt 16).toUInt32 &&& Int32.toUInt32 31)).toInt32 &&& 255) = ((x >>> (Int32.ofInt 16 &&& 31)) &&& 255) := by
  apply Int32.toBitVec_inj.1
  exact bv8 x.toBitVec 16 (by decide)
theorem sh08 (x : Int32) : ((x.toUInt32 >>> ((Int32.ofInt 8).toUInt32 &&& Int32.toUInt32 31)).toInt32 &&& 255) = ((x >>> (Int32.ofInt 8 &&& 31)) &&& 255) := by
  apply Int32.toBitVec_inj.1
  exact bv8 x.toBitVec 8 (by decide)
theorem sh00 (x : Int32) : ((x.toUInt32 >>> ((Int32.ofInt 0).toUInt32 &&& Int32.toUInt32 31)).toInt32 &&& 255) = ((x >>> (Int32.ofInt 0 &&& 31)) &&& 255) := by
  apply Int32.toBitVec_inj.1
  exact bv8 x.toBitVec 0 (by decide)
theorem z255 {a s : Int} (h : s = 24 ∨ s = 16 ∨ s = 8 ∨ s = 0) : zand (zushr a s) 255 = zand (zshr a s) 255 := by
  unfold zand zushr zshr
  rw [Int32.ofInt_toInt, Int32.ofInt_toInt]
  refine congrArg Int32.toInt ?_
  rcases h with rfl | rfl | rfl | rfl
  · exact sh24 _
  · exact sh16 _
  · exact sh08 _
  · exact sh00 _
/-- a byte of a number, of five numbers -/
def wB (v k : Int) : Int := zand (zshr v (24 - 8 * k)) 255
def fB (a b c d e k : Int) : Int := wB (if k < 4 then a else if k < 8 then b else if k < 12 then c else if k < 16 then d else e) (k % 4)
theorem tpN {J1 J : zJ} {a q : Int} (hq : (-8 ≤ q ∧ q ≤ 24) ∧ 8 * (J1 0 13 - J 0 13) = 24 - q) (h0 : 0 ≤ q) (t : ∀ x, J1 162 x = if J 0 13 ≤ x ∧ x < J1 0 13 then wB a (x - J 0 13) else J 162 x) : ∀ x, zup (zup J1 162 (J1 0 13) (zand (zushr a q) 255)) 0 13 (J1 0 13 + 1) 162 x = if J 0 13 ≤ x ∧ x < J1 0 13 + 1 then wB a (x - J 0 13) else J 162 x := fun x => by
  show (if x = J1 0 13 then zand (zushr a q) 255 else J1 162 x) = _
  by_cases e : x = J1 0 13
  · rw [if_pos e, if_pos (by omega), z255 (by omega)]
    unfold wB
    rw [show 24 - 8 * (x - J 0 13) = q from by omega]
  · rw [if_neg e, t x]
    by_cases c : J 0 13 ≤ x ∧ x < J1 0 13
    · rw [if_pos c, if_pos (by omega)]
    · rw [if_neg c, if_neg (by omega)]
theorem fd5 {T5 T4 T3 T2 T1 T0 : Int → Int} {p p1 p2 p3 p4 a b c d e : Int} (e1 : p1 = p + 4) (e2 : p2 = p1 + 4) (e3 : p3 = p2 + 4) (e4 : p4 = p3 + 4) (h1 : ∀ x, T1 x = if p ≤ x ∧ x < p + 4 then wB a (x - p) else T0 x) (h2 : ∀ x, T2 x = if p1 ≤ x ∧ x < p1 + 4 then wB b (x - p1) else T1 x) (h3 : ∀ x, T3 x = if p2 ≤ x ∧ x < p2 + 4 then wB c (x - p2) else T2 x) (h4 : ∀ x, T4 x = if p3 ≤ x ∧ x < p3 + 4 then wB d (x - p3) else T3 x) (h5 : ∀ x, T5 x = if p4 ≤ x ∧ x < p4 + 4 then wB e (x - p4) else T4 x) : ∀ x, T5 x = if p ≤ x ∧ x < p + 20 then fB a b c d e (x - p) else T0 x := fun x => by
  unfold fB
  rw [h5]
  by_cases c5 : p4 ≤ x ∧ x < p4 + 4
  · rw [if_pos c5, if_pos (by omega), if_neg (by omega), if_neg (by omega), if_neg (by omega), if_neg (by omega), show x - p4 = (x - p) % 4 from by omega]
  rw [if_neg c5, h4]
  by_cases c4 : p3 ≤ x ∧ x < p3 + 4
  · rw [if_pos c4, if_pos (by omega), if_neg (by omega), if_neg (by omega), if_neg (by omega), if_pos (by omega), show x - p3 = (x - p) % 4 from by omega]
  rw [if_neg c4, h3]
  by_cases c3 : p2 ≤ x ∧ x < p2 + 4
  · rw [if_pos c3, if_pos (by omega), if_neg (by omega), if_neg (by omega), if_pos (by omega), show x - p2 = (x - p) % 4 from by omega]
  rw [if_neg c3, h2]
  by_cases c2 : p1 ≤ x ∧ x < p1 + 4
  · rw [if_pos c2, if_pos (by omega), if_neg (by omega), if_pos (by omega), show x - p1 = (x - p) % 4 from by omega]
  rw [if_neg c2, h1]
  by_cases c1 : p ≤ x ∧ x < p + 4
  · rw [if_pos c1, if_pos (by omega), if_pos (by omega), show x - p = (x - p) % 4 from by omega]
    congr 1
    omega
  rw [if_neg c1, if_neg (by omega)]
set_option maxHeartbeats 4000000 in
set_option maxRecDepth 100000 in
theorem x_tapeN {l : Launch} {G : tb_G} (hl : l.stackTraces = false) (n : Nat) (J : zJ) (a : Int) (hr_a : -2147483648 ≤ a ∧ a < 2147483648)  (h0 : 0 ≤ J 0 13 ∧ J 0 13 + 4 ≤ 700) : tz_Ok l G M_X11_tapeNumber 0 0 0 [.ref 0, zi a] n J (zqv (fun J' => zOf (zbut [0, 162]) J' J ∧ (∀ k, ¬ k = 13 → J' 0 k = J 0 k) ∧ J' 0 13 = J 0 13 + 4 ∧ ∀ x, J' 162 x = if J 0 13 ≤ x ∧ x < J 0 13 + 4 then wB a (x - J 0 13) else J 162 x)) zN := by
  refine tz_Ok.of hl (by decide +kernel) rfl (tb_c1 rfl) (Nat.le_of_ble_eq_true rfl) ?_
  show tz_At l G M_X11_tapeNumber (tb_rm 0 0 0) none (tb_ZM G 0 0 (zQ n 0 (zqv (fun J' => zOf (zbut [0, 162]) J' J ∧ (∀ k, ¬ k = 13 → J' 0 k = J 0 k) ∧ J' 0 13 = J 0 13 + 4 ∧ ∀ x, J' 162 x = if J 0 13 ≤ x ∧ x < J 0 13 + 4 then wB a (x - J 0 13) else J 162 x))) (zX n 0 zN)) 0 0 n J 0 [some (.ref 0), some (zi a), none] []
  refine tz_bipush (pc := 0) dX11_tapeNumber_0 (by decide) ?_
  refine tz_istore_n (pc := 2) (L2 := [_, _, _]) dX11_tapeNumber_2 rfl (by decide) rfl ?_
  have loop3 : ∀ (f9 : Nat) (q : Int) (J1 : zJ), ((q + 8).toNat) < f9 → ((-8 ≤ q ∧ q ≤ 24) ∧ 8 * (J1 0 13 - J 0 13) = 24 - q) → (zOf (zbut [0, 162]) J1 J ∧ ∀ k, ¬ k = 13 → J1 0 k = J 0 k) → (∀ x, J1 162 x = if J 0 13 ≤ x ∧ x < J1 0 13 then wB a (x - J 0 13) else J 162 x) → tz_At l G M_X11_tapeNumber (tb_rm 0 0 0) none (tb_ZM G 0 0 (zQ n 0 (zqv (fun J' => zOf (zbut [0, 162]) J' J ∧ (∀ k, ¬ k = 13 → J' 0 k = J 0 k) ∧ J' 0 13 = J 0 13 + 4 ∧ ∀ x, J' 162 x = if J 0 13 ≤ x ∧ x < J 0 13 + 4 then wB a (x - J 0 13) else J 162 x))) (zX n 0 zN)) 0 0 n J1 3 [some (.ref 0), some (zi a), some (zi q)] [] := by
    intro f9
    induction f9 with
    | zero => intro q J1 hm9; exact absurd hm9 (Nat.not_lt_zero _)
    | succ f9 ih3 =>
      intro q J1 hm3 hq f1 t1
      refine tz_iload_n (pc := 3) dX11_tapeNumber_3 rfl rfl ?_
      refine tz_if_lt (pc := 4) (tgt := 49) dX11_tapeNumber_4 (by decide) (by omega) (fun h_4 => ?_) (fun h_4 => ?_)
      · exact tz_vret (pc := 49) dX11_tapeNumber_49 rfl (Nat.le_of_ble_eq_true rfl) (Nat.le_of_ble_eq_true rfl) ⟨Nat.le_refl _, Nat.le_add_right _ _⟩ ⟨rfl, ⟨f1.1, f1.2, by omega, fun x => by rw [t1 x, show J1 0 13 = J 0 13 + 4 from by omega]⟩⟩
      · refine tz_aload_n (pc := 7) dX11_tapeNumber_7 rfl rfl ?_
        refine tz_fI (pc := 8) (kz := 13) (v := (J1 0 13)) dX11_tapeNumber_8 fl_X11_107 i_0_13 rfl rfl (fun r_8 => ?_)
        refine tz_sipush (pc := 11) dX11_tapeNumber_11 (by decide) ?_
        refine tz_icmp_geF (pc := 14) (tgt := 49) (by omega) dX11_tapeNumber_14 (by decide) (by omega) (by decide) ?_
        refine tz_aload_n (pc := 17) dX11_tapeNumber_17 rfl rfl ?_
        refine tz_fR (pc := 18) dX11_tapeNumber_18 fl_X11_94 r_0_12 ?_
        refine tz_aload_n (pc := 21) dX11_tapeNumber_21 rfl rfl ?_
        refine tz_fI (pc := 22) (kz := 13) (v := (J1 0 13)) dX11_tapeNumber_22 fl_X11_107 i_0_13 rfl rfl (fun r_22 => ?_)
        refine tz_iload_n (pc := 25) dX11_tapeNumber_25 rfl rfl ?_
        refine tz_iload_n (pc := 26) dX11_tapeNumber_26 rfl rfl ?_
        refine tz_iushr (pc := 27) (v := zushr a q) dX11_tapeNumber_27 rfl ?_
        refine tz_sipush (pc := 28) dX11_tapeNumber_28 (by decide) ?_
        refine tz_iand (pc := 31) (v := zand (zushr a q) 255) dX11_tapeNumber_31 rfl ?_
        have r_31 := zand_rg (zushr a q) 255
        refine tz_aS (pc := 32) (z := (J1 0 13)) dX11_tapeNumber_32 a_162 rfl (by omega) (zand_rg _ _) ?_
        refine tz_aload_n (pc := 33) dX11_tapeNumber_33 rfl rfl ?_
        refine tz_dup (pc := 34) dX11_tapeNumber_34 rfl ?_
        refine tz_fI (pc := 35) (kz := 13) (v := (J1 0 13)) dX11_tapeNumber_35 fl_X11_107 i_0_13 rfl rfl (fun r_35 => ?_)
        refine tz_iconst (pc := 38) dX11_tapeNumber_38 ?_
        refine tz_iadd (pc := 39) (v := (J1 0 13) + 1) dX11_tapeNumber_39 rfl ?_
        refine tz_pI (pc := 40) (kz := 13) dX11_tapeNumber_40 fl_X11_107 i_0_13 rfl rfl (by omega) ?_
        refine tz_iinc (pc := 43) (z := q - 8) (L2 := [_, _, _]) dX11_tapeNumber_43 rfl (by omega) rfl ?_
        refine tz_goto (pc := 46) (tgt := 3) dX11_tapeNumber_46 (by decide) ?_
        exact ih3 (q - 8) _ (by omega) ⟨by omega, by show 8 * (J1 0 13 + 1 - J 0 13) = 24 - (q - 8); omega⟩ ⟨zOf.up rfl (zOf.up rfl f1.1), fun k hk => (zup_ne hk).trans (f1.2 k hk)⟩ (tpN hq (by omega) t1)
  exact loop3 _ 24 _ (Nat.lt_succ_self _) (by omega) ⟨zOf.rf, fun _ _ => rfl⟩ (fun x => (if_neg (by omega)).symm)

set_option maxHeartbeats 4000000 in
set_option maxRecDepth 100000 in
theorem x_startAnew {l : Launch} {G : tb_G} (hl : l.stackTraces = false) (n : Nat) (J : zJ)     : tz_Ok l G M_X11_startAnew 3 0 0 [.ref 0] n J (zqv (fun J' => ((CT J' 0 ∧ J' 6 12 = 0 ∧ LI (J' 19) 0) ∧ CE J') ∧ zOf (zbut [1, 6, 16, 19]) J' J)) zN := by
  refine tz_Ok.of hl (by decide +kernel) rfl (tb_c1 rfl) (Nat.le_of_ble_eq_true rfl) ?_
  show tz_At l G M_X11_startAnew (tb_rm 3 0 0) none (tb_ZM G 0 0 (zQ n 0 (zqv (fun J' => ((CT J' 0 ∧ J' 6 12 = 0 ∧ LI (J' 19) 0) ∧ CE J') ∧ zOf (zbut [1, 6, 16, 19]) J' J))) (zX n 0 zN)) 0 0 n J 0 [some (.ref 0)] []
  refine tz_aload_n (pc := 0) dX11_startAnew_0 rfl rfl ?_
  refine tz_fR (pc := 1) dX11_startAnew_1 fl_X11_10 r_0_0 ?_
  refine tz_cV (pc := 4) (c_syEmpty hl n _) vl_X11_162 dX11_startAnew_4 o_1 rfl rfl (Nat.le_of_ble_eq_true rfl) ⟨(Nat.le_of_ble_eq_true rfl), (Nat.le_of_ble_eq_true rfl)⟩ rfl rfl (Nat.le_of_ble_eq_true rfl) (Nat.le_of_ble_eq_true rfl) (fun r9 J_4 hq9 => ?_)
  obtain ⟨rfl, rfl⟩ := hq9
  refine tz_aload_n (pc := 7) dX11_startAnew_7 rfl rfl ?_
  refine tz_fR (pc := 8) dX11_startAnew_8 fl_X11_29 r_0_1 ?_
  refine tz_fR (pc := 11) dX11_startAnew_11 fl_X11_49 r_5_0 ?_
  refine tz_cV (pc := 14) (c_teEmpty hl n _) vl_X11_165 dX11_startAnew_14 o_6 rfl rfl (Nat.le_of_ble_eq_true rfl) ⟨(Nat.le_of_ble_eq_true rfl), (Nat.le_of_ble_eq_true rfl)⟩ rfl rfl (Nat.le_of_ble_eq_true rfl) (Nat.le_of_ble_eq_true rfl) (fun r9 J_14 hq9 => ?_)
  obtain ⟨rfl, rfl⟩ := hq9
  refine tz_aload_n (pc := 17) dX11_startAnew_17 rfl rfl ?_
  refine tz_fR (pc := 18) dX11_startAnew_18 fl_X11_29 r_0_1 ?_
  refine tz_fR (pc := 21) dX11_startAnew_21 fl_X11_156 r_5_1 ?_
  refine tz_cV (pc := 24) (c_leEmpty hl n _) vl_X11_166 dX11_startAnew_24 o_18 rfl rfl (Nat.le_of_ble_eq_true rfl) ⟨(Nat.le_of_ble_eq_true rfl), (Nat.le_of_ble_eq_true rfl)⟩ rfl rfl (Nat.le_of_ble_eq_true rfl) (Nat.le_of_ble_eq_true rfl) (fun r9 J1 hq9 => ?_)
  obtain ⟨rfl, f1, e1⟩ := hq9
  exact tz_vret (pc := 27) dX11_startAnew_27 rfl (Nat.le_of_ble_eq_true rfl) (Nat.le_of_ble_eq_true rfl) ⟨Nat.le_refl _, Nat.le_add_right _ _⟩ ⟨rfl, ⟨⟨⟨CT.none ⟨by rw [f1 1 rfl]; exact ⟨Int.le_refl 0, by show (0 : Int) ≤ 10; decide⟩, fun k a b => absurd b (by rw [f1 1 rfl]; show ¬ k < 0; omega)⟩ (fun k a b => absurd b (by rw [f1 1 rfl]; show ¬ k < 0; omega)) (fun b x y => by rw [f1 16 rfl]; exact zfl_in y), by rw [f1 6 rfl]; rfl, LI.new (Int.le_refl 0) e1⟩, by rw [f1 1 rfl]; rfl, by rw [f1 6 rfl]; rfl, (e1 4 (by decide) (by decide)).trans rfl, (e1 5 (by decide) (by decide)).trans rfl, (e1 1 (by decide) (by decide)).trans rfl, ⟨(e1 2 (by decide) (by decide)).trans rfl, (e1 3 (by decide) (by decide)).trans rfl, (e1 6 (by decide) (by decide)).trans rfl⟩, fun v a b => by rw [e1 (7 + v) (by omega) (by omega)]; show (if 7 + v = 1 then (4 : Int) else if 7 ≤ 7 + v ∧ 7 + v < 15 then -1 else 0) = -1; rw [if_neg (by omega), if_pos (by omega)]⟩, (f1.mono (fun c hc => by simp [zbut] at hc ⊢; omega)).tr (zOf.fl rfl (zOf.up rfl (zOf.up rfl zOf.rf)))⟩⟩

set_option maxHeartbeats 4000000 in
set_option maxRecDepth 100000 in
theorem x_fplace {l : Launch} {G : tb_G} (hl : l.stackTraces = false) (n : Nat) (J : zJ)     : tz_Ok l G M_X5_faultPlace 0 0 0 [.ref 163] n J (zqi (fun z J' => J = J' ∧ J 163 9 = z)) zN := by
  refine tz_Ok.of hl (by decide +kernel) rfl (tb_c1 rfl) (Nat.le_of_ble_eq_true rfl) ?_
  show tz_At l G M_X5_faultPlace (tb_rm 0 0 0) none (tb_ZM G 0 0 (zQ n 0 (zqi (fun z J' => J = J' ∧ J 163 9 = z))) (zX n 0 zN)) 0 0 n J 0 [some (.ref 163)] []
  refine tz_aload_n (pc := 0) dX5_faultPlace_0 rfl rfl ?_
  refine tz_fI (pc := 1) (kz := 9) (v := (J 163 9)) dX5_faultPlace_1 fl_X5_27 i_163_9 rfl rfl (fun r_1 => ?_)
  exact tz_iret (pc := 4) (z := (J 163 9)) dX5_faultPlace_4 rfl (Nat.le_of_ble_eq_true rfl) (Nat.le_of_ble_eq_true rfl) ⟨Nat.le_refl _, Nat.le_add_right _ _⟩ ⟨_, rfl, (by omega), ⟨rfl, rfl⟩⟩
