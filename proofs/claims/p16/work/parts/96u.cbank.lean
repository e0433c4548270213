/-! ===== bank of the class, in the frame of states ===== -/
/-- the state that a reading tells -/
def BS (r : zJ) : zJ := fun c k => if c = 164 then (if k = 9 then r 164 44 else 0) else if c = 165 then (if 0 ≤ k ∧ k < 63 then r 165 (126 + k) else 0) else if c = 166 ∨ c = 168 then (if 0 ≤ k ∧ k < 400 then r c (800 + k) else 0) else if c = 167 then (if 0 ≤ k ∧ k < 1200 then r 167 (2400 + k) else 0) else if c = 169 ∨ c = 170 ∨ c = 171 then (if 0 ≤ k ∧ k < 10 then r c (10 + k) else 0) else 0
theorem BS_5 {r : zJ} {k : Int} (h : 0 ≤ k ∧ k < 63) : BS r 165 k = r 165 (126 + k) := if_pos h
theorem BS_6 {r : zJ} {k : Int} (h : 0 ≤ k ∧ k < 400) : BS r 166 k = r 166 (800 + k) ∧ BS r 168 k = r 168 (800 + k) := ⟨if_pos h, if_pos h⟩
theorem BS_7 {r : zJ} {k : Int} (h : 0 ≤ k ∧ k < 1200) : BS r 167 k = r 167 (2400 + k) := if_pos h
theorem BS_9 {r : zJ} {k : Int} (h : 0 ≤ k ∧ k < 10) : BS r 169 k = r 169 (10 + k) ∧ BS r 170 k = r 170 (10 + k) ∧ BS r 171 k = r 171 (10 + k) := ⟨if_pos h, if_pos h, if_pos h⟩
theorem ET.f {J' J g : zJ} (h : ET J g) (f : ∀ c, 0 < c → c < 20 → ¬ c = 5 → J' c = J c) : ET J' g := by
  unfold ET
  rw [f 1 (by decide) (by decide) (by decide), f 2 (by decide) (by decide) (by decide), f 3 (by decide) (by decide) (by decide), f 4 (by decide) (by decide) (by decide), f 6 (by decide) (by decide) (by decide), f 7 (by decide) (by decide) (by decide), f 8 (by decide) (by decide) (by decide), f 12 (by decide) (by decide) (by decide), f 9 (by decide) (by decide) (by decide), f 19 (by decide) (by decide) (by decide)]
  exact h
/-- the class's tables are those of the state that was told -/
theorem et_cal {J r : zJ} {m n : Int} {RR : Int → Int → Int} (E : ET J r) (C : CT J m) (hm : J 6 12 = m) (hs : 0 ≤ r 164 44 ∧ r 164 44 ≤ 10) (h6 : r 165 166 = 0) (hL : LI (J 19) m) (h56 : J 5 6 = 0) (hn : n = 0) : CAL J (BS r) n RR := by
  obtain ⟨⟨a1, a2⟩, ⟨b1, b2, b3⟩, ⟨c1, c2⟩, ⟨d1, d2⟩, e1, ⟨e2, e3, e4⟩, e5⟩ := E
  have T := C.told
  have l4 := hL.1.2.1
  have l5 := hL.1.2.2.1
  refine ⟨⟨⟨a1, fun k a b => ?_⟩, ?_, fun t a b => ?_, fun t i a b x y => ?_⟩, ⟨⟨?_, ?_, ?_⟩, ⟨?_, fun i p q => ?_⟩, ⟨?_, fun i p q => ?_⟩, ⟨?_, fun i p q => ?_⟩, fun v p q => ?_⟩, by rw [hn]; exact h56, fun k a b => by omega⟩
  · have b' : k < r 164 44 := b
    rw [Int.zero_add, (BS_9 (by omega)).1, (BS_9 (by omega)).2.1, (BS_9 (by omega)).2.2]
    exact a2 k a b
  · rw [BS_5 (by decide)]; exact b1
  · rw [BS_5 (by decide)] at b
    have b' : t < r 165 126 := b
    rw [Int.zero_add, (BS_6 (by omega)).1, (BS_6 (by omega)).2]
    exact b2 t a b
  · rw [BS_5 (by decide)] at b
    have b' : t < r 165 126 := b
    have ar := (C.ar a (by omega)).1
    rw [BS_7 (by omega), show 2400 + (3 * (0 + t) + i) = 3 * (800 + t) + i by omega]
    exact b3 t i a b x y
  · rw [BS_5 (by decide)]; exact e1
  · rw [BS_5 (by decide)]; exact e2
  · rw [BS_5 (by decide)]; exact e3
  · rw [BS_5 (by decide)]; exact c1
  · rw [BS_5 (by decide)] at q
    have q' : i < r 165 135 := q
    rw [BS_5 (by omega), BS_5 (by omega), show 126 + (10 + 2 * i) = 136 + 2 * i by omega, show 126 + (10 + 2 * i + 1) = 137 + 2 * i by omega]
    exact c2 i p q
  · rw [BS_5 (by decide)]; exact d1
  · rw [BS_5 (by decide)] at q
    have q' : i < r 165 152 := q
    rw [BS_5 (by omega), show 126 + (27 + i) = 153 + i by omega]
    exact d2 i p q
  · rw [BS_5 (by decide)]
    exact e4.trans h6.symm
  · rw [BS_5 (by decide)] at q
    have q' : i < r 165 166 := q
    omega
  · rw [BS_5 (by omega), show 126 + (1 + v) = 127 + v by omega]
    exact e5 v p q
/-- what was set aside is back: all is as before -/
theorem cal_bk {J' J1 J S : zJ} {n m : Int} {RR : Int → Int → Int} (c : CAL J S n RR) (hI : CI J m) (b : BK J1 J) (e : ∀ q, 0 < q → q < 20 → ¬ q = 5 → J' q = J1 q) (f : ∀ c, c = 5 ∨ (20 ≤ c ∧ c ≤ 120 ∧ ¬ c = 62) → J' c = J c) : CAL J' S n RR := by
  obtain ⟨⟨b1, b2⟩, ⟨b3, b4, _⟩, b6⟩ := b
  obtain ⟨⟨⟨E0, E1⟩, e6, E2, E3⟩, W, U⟩ := c
  have T := hI.1.1.1.told
  have ts := hI.1.1.1.1.1.1
  have hn := hI.2.1
  have nn := U.1
  have hm := hI.1.1.2.1
  refine ⟨⟨⟨?_, fun k a b => ?_⟩, ?_, fun t a b => ?_, fun t i a b x y => ?_⟩, W.of hI.1.1.2.2 (fun k a b => ?_), U.of (by omega) (f 5 (by omega)) (fun i a b => f _ (by unfold zU; omega))⟩
  · rw [e 1 (by decide) (by decide) (by decide), b1]; exact E0
  · have w := b2 k a (by omega)
    rw [e 2 (by decide) (by decide) (by decide), e 3 (by decide) (by decide) (by decide), e 4 (by decide) (by decide) (by decide), w.1, w.2.1, w.2.2]
    exact E1 k a b
  · rw [e 6 (by decide) (by decide) (by decide), b3]; exact e6
  · have w := b4.1 t a (by omega)
    rw [e 7 (by decide) (by decide) (by decide), e 12 (by decide) (by decide) (by decide), w.1, w.2.2.2.2.1]
    exact E2 t a b
  · have w := b4.1 t a (by omega)
    rw [e 8 (by decide) (by decide) (by decide), w.2.1] at y
    have ar := (hI.1.1.1.ar a (by omega)).1
    rw [e 9 (by decide) (by decide) (by decide), b4.2 (t * 3 + i) (by omega) (by omega)]
    exact E3 t i a b x y
  · rw [e 19 (by decide) (by decide) (by decide)]; exact b6 k (by omega) b
set_option maxHeartbeats 4000000 in
set_option maxRecDepth 100000 in
theorem v_bankC {l : Launch} {G : tb_G} (hl : l.stackTraces = false) (n : Nat) (J : zJ) (x : Int) (hr_x : -2147483648 ≤ x ∧ x < 2147483648) (m : Int) (S : zJ) (pn : Int) (RR : Int → Int → Int) (hnb : n ≤ tb_sc) (hI : CI J m) (h9 : J 145 10 < 1000000000) (cc : CAL J S pn RR) (h21 : S 164 21 = 0) (hT : J 162 = J 173) : tz_Ok l G M_X11_bank 37 1 6 [.ref 0, zi x] n J (zqi (fun z J' => ((∃ m', CI J' m') ∧ J' 145 10 ≤ J 145 10 + 24000 ∧ (J' 0 13 = 0 ∧ 0 ≤ x ∧ x ≤ J 0 13) ∧ zOf foi J' J ∧ (z = (pAl 703 (pN (pG J x))) 0 4 ∧ (¬ (pAl 703 (pN (pG J x))) 0 4 = 0 → J' 0 14 = (pAl 703 (pN (pG J x))) 0 5 ∧ J' 0 15 = J 0 15) ∧ ((pAl 703 (pN (pG J x))) 0 4 = 0 → J' 0 14 = -1 ∧ J' 0 15 = 0))) ∧ (¬ (pAl 703 (pN (pG J x))) 0 4 = 0 → CAL J' S pn RR ∧ zOf fou J' J) ∧ ((pAl 703 (pN (pG J x))) 0 4 = 0 → ET J' (pAl 703 (pN (pG J x))) ∧ J' 5 6 = 0))) (fun E J' => E = "java/lang/IllegalArgumentException" ∧ J = J' ∧ ¬ (0 ≤ x ∧ x ≤ J 0 13)) := by
  refine tz_Ok.of hl (by decide +kernel) rfl (tb_c1 rfl) (Nat.le_of_ble_eq_true rfl) ?_
  show tz_At l G M_X11_bank (tb_rm 37 1 6) none (tb_ZM G 1 6 (zQ n 1 (zqi (fun z J' => ((∃ m', CI J' m') ∧ J' 145 10 ≤ J 145 10 + 24000 ∧ (J' 0 13 = 0 ∧ 0 ≤ x ∧ x ≤ J 0 13) ∧ zOf foi J' J ∧ (z = (pAl 703 (pN (pG J x))) 0 4 ∧ (¬ (pAl 703 (pN (pG J x))) 0 4 = 0 → J' 0 14 = (pAl 703 (pN (pG J x))) 0 5 ∧ J' 0 15 = J 0 15) ∧ ((pAl 703 (pN (pG J x))) 0 4 = 0 → J' 0 14 = -1 ∧ J' 0 15 = 0))) ∧ (¬ (pAl 703 (pN (pG J x))) 0 4 = 0 → CAL J' S pn RR ∧ zOf fou J' J) ∧ ((pAl 703 (pN (pG J x))) 0 4 = 0 → ET J' (pAl 703 (pN (pG J x))) ∧ J' 5 6 = 0)))) (zX n 1 (fun E J' => E = "java/lang/IllegalArgumentException" ∧ J = J' ∧ ¬ (0 ≤ x ∧ x ≤ J 0 13)))) 0 0 n J 0 [some (.ref 0), some (zi x), none] []
  have hC := hI.1.1.1
  have hm := hI.1.1.2.1
  have hL := hI.1.1.2.2
  have hb := hC.told
  have wb := cc.2.1.b hL
  have htp := hI.1.2.2.1
  refine tz_iload_n (pc := 0) dX11_bank_0 rfl rfl ?_
  refine tz_if_lt (pc := 1) (tgt := 12) dX11_bank_1 (by decide) (by omega) (fun h_1 => ?_) (fun h_1 => ?_)
  · exact tz_throw (pc := 12) (text := "the tape has not so many bytes") th_X11_122_126 (by decide +kernel) rfl dX11_bank_12 dX11_bank_15 dX11_bank_16 dX11_bank_18 dX11_bank_21 (Nat.le_of_ble_eq_true rfl) (Nat.le_of_ble_eq_true rfl) (Nat.le_of_ble_eq_true rfl) (Nat.le_of_ble_eq_true rfl) (Nat.le_of_ble_eq_true rfl) (Nat.le_of_ble_eq_true rfl) ⟨Nat.le_refl _, Nat.le_add_right _ _⟩ ⟨rfl, rfl, by omega⟩
  · refine tz_iload_n (pc := 4) dX11_bank_4 rfl rfl ?_
    refine tz_aload_n (pc := 5) dX11_bank_5 rfl rfl ?_
    refine tz_fI (pc := 6) (kz := 13) (v := (J 0 13)) dX11_bank_6 fl_X11_107 i_0_13 rfl rfl (fun r_6 => ?_)
    refine tz_icmp_le (pc := 9) (tgt := 22) dX11_bank_9 (by decide) (by omega) (by omega) (fun h_9 => ?_) (fun h_9 => ?_)
    · refine tz_aload_n (pc := 22) dX11_bank_22 rfl rfl ?_
      refine tz_iconst (pc := 23) dX11_bank_23 ?_
      refine tz_pI (pc := 24) (kz := 13) dX11_bank_24 fl_X11_107 i_0_13 rfl rfl (by decide) ?_
      refine tz_aload_n (pc := 27) dX11_bank_27 rfl rfl ?_
      refine tz_cV (pc := 28) (c_setAside hl n _ (by rw [zup_nc (by decide), hm]; exact hb.2)) vl_X11_129 dX11_bank_28 o_0 rfl rfl (Nat.le_of_ble_eq_true rfl) ⟨(Nat.le_of_ble_eq_true rfl), (Nat.le_of_ble_eq_true rfl)⟩ rfl rfl (Nat.le_of_ble_eq_true rfl) (Nat.le_of_ble_eq_true rfl) (fun r9 J1 hq9 => ?_)
      obtain ⟨rfl, p1, p2⟩ := hq9
      have p3 : SV J1 J := p1
      refine tz_aload_n (pc := 31) dX11_bank_31 rfl rfl ?_
      refine tz_cV (pc := 32) (x_startAnew hl n _) vl_X11_132 dX11_bank_32 o_0 rfl rfl (Nat.le_of_ble_eq_true rfl) ⟨(Nat.le_of_ble_eq_true rfl), (Nat.le_of_ble_eq_true rfl)⟩ rfl rfl (Nat.le_of_ble_eq_true rfl) (Nat.le_of_ble_eq_true rfl) (fun r9 J2 hq9 => ?_)
      obtain ⟨rfl, ⟨n1, nE⟩, n2⟩ := hq9
      have p4 : SV J2 J := p3.of (fun c hc => n2 c (by simp [zbut]; omega))
      have n3 : J2 156 3 = -1 := by rw [n2 156 rfl, p2 156 rfl]; exact hI.1.2.2.1.2
      have hz7 : zmn x 700 = x := by unfold zmn; rw [if_neg (by omega)]
      refine tz_aload_n (pc := 35) dX11_bank_35 rfl rfl ?_
      refine tz_fR (pc := 36) dX11_bank_36 fl_X11_103 r_0_11 ?_
      refine tz_iload_n (pc := 39) dX11_bank_39 rfl rfl ?_
      refine tz_cV (pc := 40) (w_readBank hl n _ _ (by omega) 0 (pG J x) hnb n1.1 n1.2.1 n1.2.2 (by omega) n3 ⟨hz7.symm, rfl, rfl, rfl⟩ (by rw [n2 162 rfl, p2 162 rfl]; exact hT) nE.et (GB.g0 (by omega))) vl_X11_135 dX11_bank_40 o_163 rfl rfl (Nat.le_of_ble_eq_true rfl) ⟨(Nat.le_of_ble_eq_true rfl), (Nat.le_of_ble_eq_true rfl)⟩ rfl rfl (Nat.le_of_ble_eq_true rfl) (Nat.le_of_ble_eq_true rfl) (fun r9 J3 hq9 => ?_)
      obtain ⟨zf, rfl, hz_40, m3, r1, rz, rR⟩ := hq9
      have p5 : SV J3 J := p4.of (fun c hc => r1.2.1 c (by simp [zbut]; omega))
      refine tz_istore_n (pc := 43) (L2 := [_, _, _]) dX11_bank_43 rfl (by decide) rfl ?_
      refine tz_iload_n (pc := 44) dX11_bank_44 rfl rfl ?_
      refine tz_if_eq (pc := 45) (tgt := 78) dX11_bank_45 (by decide) (by omega) (fun h_45 => ?_) (fun h_45 => ?_)
      · refine tz_aload_n (pc := 78) dX11_bank_78 rfl rfl ?_
        refine tz_fR (pc := 79) dX11_bank_79 fl_X11_29 r_0_1 ?_
        refine tz_cV (pc := 82) (c_forget hl n _) vl_X11_148 dX11_bank_82 o_5 rfl rfl (Nat.le_of_ble_eq_true rfl) ⟨(Nat.le_of_ble_eq_true rfl), (Nat.le_of_ble_eq_true rfl)⟩ rfl rfl (Nat.le_of_ble_eq_true rfl) (Nat.le_of_ble_eq_true rfl) (fun r9 J_82 hq9 => ?_)
        obtain ⟨rfl, rfl⟩ := hq9
        refine tz_aload_n (pc := 85) dX11_bank_85 rfl rfl ?_
        refine tz_iconst (pc := 86) dX11_bank_86 ?_
        refine tz_pZ (pc := 87) (kz := 15) dX11_bank_87 fl_X11_114 i_0_15 rfl rfl (Or.inl rfl) ?_
        refine tz_aload_n (pc := 90) dX11_bank_90 rfl rfl ?_
        refine tz_iconst (pc := 91) dX11_bank_91 ?_
        refine tz_pI (pc := 92) (kz := 14) dX11_bank_92 fl_X11_111 i_0_14 rfl rfl (by decide) ?_
        refine tz_iconst (pc := 95) dX11_bank_95 ?_
        have ff : ∀ c, (c = 145 ∨ c = 146 ∨ c = 162 ∨ 164 ≤ c) → J3 c = J c := fun c hc => by rw [r1.2.1 c (by simp [zbut]; omega), n2 c (by simp [zbut]; omega), p2 c (decide_eq_true (by omega)), zup_nc (by omega)]
        have e0 : ∀ k, J3 0 k = zup J 0 13 0 0 k := fun k => by rw [r1.2.1 0 rfl, n2 0 rfl, p2 0 rfl]
        have h4 : (pAl 703 (pN (pG J x))) 0 4 = 0 := by rw [← rR.1, rz]; omega
        exact tz_iret (pc := 96) (z := 0) dX11_bank_96 rfl (Nat.le_of_ble_eq_true rfl) (Nat.le_of_ble_eq_true rfl) ⟨Nat.le_refl _, Nat.le_add_right _ _⟩ ⟨_, rfl, (by decide), ⟨⟨⟨m3, CI.new (J2 := J) hI (r1.1.1.of (fun c hc => by rw [zup_nc (by omega), zup_nc (by omega), zup_nc (by omega), zup_nc (by omega)])) r1.1.2.1 r1.1.2.2.1 (hI.1.2.1.of (by rw [zup_nc (by decide), zup_nc (by decide), zup_nc (by decide), zup_nc (by decide)]; exact ff 145 (by omega)) (by rw [zup_nc (by decide), zup_nc (by decide), zup_nc (by decide), zup_nc (by decide)]; exact ff 146 (by omega))) (by rw [zup_nc (by decide), zup_nc (by decide), zup_nc (by decide), zup_nc (by decide), r1.2.2]; exact n3) (by rw [zup_ne (by decide), zup_ne (by decide), zup_nc (by decide), zup_nc (by decide), e0, zup_at]) (by rw [zup_ne (by decide), zup_at]) rfl rfl⟩, by rw [zup_nc (by decide), zup_nc (by decide), zup_nc (by decide), zup_nc (by decide), ff 145 (by omega)]; omega, ⟨by rw [zup_ne (by decide), zup_ne (by decide), zup_nc (by decide), zup_nc (by decide), e0, zup_at], by omega⟩, fun c hc => by have hc9 := of_decide_eq_true hc; rw [zup_nc (by omega), zup_nc (by omega), zup_nc (by omega), zup_nc (by omega)]; exact ff c (by omega), h4.symm, fun q => absurd h4 q, fun _ => ⟨zup_at, by rw [zup_ne (by decide), zup_at]⟩⟩, fun q => absurd h4 q, fun _ => ⟨((rR.2.2 h4).2.2.2.2).f (fun c a b d => by rw [zup_nc (by omega), zup_nc (by omega), zup_nc d, zup_nc d]), by rw [zup_nc (by decide), zup_nc (by decide), zup_ne (by decide), zup_at] ; try rfl⟩⟩⟩
      · refine tz_aload_n (pc := 48) dX11_bank_48 rfl rfl ?_
        refine tz_cV (pc := 49) (c_takeBack0 hl n _ J p5 (by rw [hm]; exact hb.2)) vl_X11_139 dX11_bank_49 o_0 rfl rfl (Nat.le_of_ble_eq_true rfl) ⟨(Nat.le_of_ble_eq_true rfl), (Nat.le_of_ble_eq_true rfl)⟩ rfl rfl (Nat.le_of_ble_eq_true rfl) (Nat.le_of_ble_eq_true rfl) (fun r9 J4 hq9 => ?_)
        obtain ⟨rfl, b1, b2⟩ := hq9
        refine tz_aload_n (pc := 52) dX11_bank_52 rfl rfl ?_
        refine tz_fR (pc := 53) dX11_bank_53 fl_X11_29 r_0_1 ?_
        refine tz_fR (pc := 56) dX11_bank_56 fl_X11_142 r_5_4 ?_
        refine tz_iconst (pc := 59) dX11_bank_59 ?_
        refine tz_dup2 (pc := 60) dX11_bank_60 rfl rfl ?_
        refine tz_aL (pc := 61) (z := 0) (v := (J4 62 0)) dX11_bank_61 a_62 rfl (by decide) rfl (fun r_61 => ?_)
        refine tz_iconst (pc := 62) dX11_bank_62 ?_
        refine tz_iadd (pc := 63) (v := (J4 62 0) + 1) dX11_bank_63 rfl ?_
        refine tz_tw ?_
        have rw_64 := zw_rg ((J4 62 0) + 1)
        refine tz_aS (pc := 64) (z := 0) dX11_bank_64 a_62 rfl (by decide) (zw_rg _) ?_
        refine tz_aload_n (pc := 65) dX11_bank_65 rfl rfl ?_
        refine tz_aload_n (pc := 66) dX11_bank_66 rfl rfl ?_
        refine tz_fR (pc := 67) dX11_bank_67 fl_X11_103 r_0_11 ?_
        refine tz_cV (pc := 70) (x_fplace hl n _) vl_X11_145 dX11_bank_70 o_163 rfl rfl (Nat.le_of_ble_eq_true rfl) ⟨(Nat.le_of_ble_eq_true rfl), (Nat.le_of_ble_eq_true rfl)⟩ rfl rfl (Nat.le_of_ble_eq_true rfl) (Nat.le_of_ble_eq_true rfl) (fun r9 J_70 hq9 => ?_)
        obtain ⟨z_70, rfl, hz_70, rfl, rfl⟩ := hq9
        refine tz_pI (pc := 73) (kz := 14) dX11_bank_73 fl_X11_111 i_0_14 rfl rfl (by omega) ?_
        refine tz_iload_n (pc := 76) dX11_bank_76 rfl rfl ?_
        have ff : ∀ c, (c = 5 ∨ (20 ≤ c ∧ c ≤ 120 ∧ ¬ c = 62) ∨ c = 145 ∨ c = 146 ∨ c = 162 ∨ 164 ≤ c) → zup (zup J4 62 0 (zw (J4 62 0 + 1))) 0 14 (zup J4 62 0 (zw (J4 62 0 + 1)) 163 9) c = J c := fun c hc => by rw [zup_nc (by omega), zup_nc (by omega), b2 c (by simp [zbut]; omega), r1.2.1 c (by simp [zbut]; omega), n2 c (by simp [zbut]; omega), p2 c (decide_eq_true (by omega)), zup_nc (by omega)]
        have e0 : ∀ k, J4 0 k = zup J 0 13 0 0 k := fun k => by rw [b2 0 rfl, r1.2.1 0 rfl, n2 0 rfl, p2 0 rfl]
        have h4 : ¬ (pAl 703 (pN (pG J x))) 0 4 = 0 := by rw [← rR.1, rz]; omega
        exact tz_iret (pc := 77) (z := zf) dX11_bank_77 rfl (Nat.le_of_ble_eq_true rfl) (Nat.le_of_ble_eq_true rfl) ⟨Nat.le_refl _, Nat.le_add_right _ _⟩ ⟨_, rfl, (by omega), ⟨⟨⟨m, hI.bk (J' := zup (zup J4 62 0 (zw (J4 62 0 + 1))) 0 14 (zup J4 62 0 (zw (J4 62 0 + 1)) 163 9)) b1 (by rw [zup_ne (by decide), zup_nc (by decide), e0, zup_at]; decide) (by rw [zup_nc (by decide), zup_nc (by decide), b2 156 rfl, r1.2.2]; exact n3) (by rw [zup_ne (by decide), zup_nc (by decide), e0, zup_ne (by decide)]) (fun c hc => ff c (by omega))⟩, by rw [ff 145 (by omega)]; omega, ⟨by rw [zup_ne (by decide), zup_nc (by decide), e0, zup_at], by omega⟩, fun c hc => ff c (by have := of_decide_eq_true hc; omega), rz.symm.trans rR.1, fun q => ⟨by rw [zup_at, zup_nc (by decide), b2 163 rfl]; exact rR.2.1 q, by rw [zup_ne (by decide), zup_nc (by decide), e0, zup_ne (by decide)]⟩, fun q => absurd q h4⟩, fun _ => ⟨cal_bk (J' := (zup (zup J4 62 0 (zw (J4 62 0 + 1))) 0 14 (zup J4 62 0 (zw (J4 62 0 + 1)) 163 9) : zJ)) cc hI b1 (fun q a b _ => (zup_nc (by omega)).trans (zup_nc (by omega))) (fun c hc => ff c (by omega)), fun c hc => ff c (by have := of_decide_eq_true hc; omega)⟩, fun q => absurd q h4⟩⟩
    · exact tz_throw (pc := 12) (text := "the tape has not so many bytes") th_X11_122_126 (by decide +kernel) rfl dX11_bank_12 dX11_bank_15 dX11_bank_16 dX11_bank_18 dX11_bank_21 (Nat.le_of_ble_eq_true rfl) (Nat.le_of_ble_eq_true rfl) (Nat.le_of_ble_eq_true rfl) (Nat.le_of_ble_eq_true rfl) (Nat.le_of_ble_eq_true rfl) (Nat.le_of_ble_eq_true rfl) ⟨Nat.le_refl _, Nat.le_add_right _ _⟩ ⟨rfl, rfl, by omega⟩

