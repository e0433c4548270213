/-- a couple that is there -/
def inC (J : zJ) (s t : Int) : Prop := ∃ i, (0 ≤ i ∧ i < J 141 4) ∧ J 143 i = s ∧ J 144 i = t
/-- down to k levels: a couple, or one symbol and so on -/
def cpl (J : zJ) : Nat → Int → Int → Prop
  | 0, _, _ => True
  | k + 1, s, t => inC J s t ∨ (0 ≤ J 7 s ∧ J 7 s = J 7 t ∧ ∀ i, 0 ≤ i → i < J 8 s → cpl J k (J 9 (s * 3 + i)) (J 9 (t * 3 + i)))
theorem cpl.mono {J' J : zJ} {m : Int} (C : CT J m) (h7 : ∀ t, 0 ≤ t → t < m → J' 7 t = J 7 t ∧ J' 8 t = J 8 t) (h9 : ∀ k, 0 ≤ k → k < m * 3 → J' 9 k = J 9 k) (hi : ∀ s t, inC J s t → inC J' s t) : ∀ (k : Nat) (s t : Int), (0 ≤ s ∧ s < m) → (0 ≤ t ∧ t < m) → cpl J k s t → cpl J' k s t
  | 0, _, _, _, _, _ => trivial
  | k + 1, s, t, hs, ht, h => by
    rcases h with h | ⟨h1, h2, h3⟩
    · exact Or.inl (hi s t h)
    · obtain ⟨es7, es8⟩ := h7 s hs.1 hs.2
      obtain ⟨et7, et8⟩ := h7 t ht.1 ht.2
      refine Or.inr ⟨by omega, by omega, fun i a b => ?_⟩
      rw [es8] at b
      have ha := (C.ar hs.1 hs.2).1
      have hb := C.arh hs ht h2
      have hc := C.arg hs.1 hs.2 a b
      have hd := C.arg ht.1 ht.2 a (by omega)
      rw [h9 (s * 3 + i) (by omega) (by omega), h9 (t * 3 + i) (by omega) (by omega)]
      exact cpl.mono C h7 h9 hi k _ _ (by omega) (by omega) (h3 i a b)
theorem cpl.gx {X : List Nat} {J' J : zJ} {m m' : Int} (C : CT J m) (g : GX X J' J m m') (hX : zbut (6 :: 7 :: 8 :: 9 :: 10 :: 11 :: 12 :: 13 :: 14 :: 15 :: 16 :: 17 :: X) 141 = true ∧ zbut (6 :: 7 :: 8 :: 9 :: 10 :: 11 :: 12 :: 13 :: 14 :: 15 :: 16 :: 17 :: X) 143 = true ∧ zbut (6 :: 7 :: 8 :: 9 :: 10 :: 11 :: 12 :: 13 :: 14 :: 15 :: 16 :: 17 :: X) 144 = true) {k : Nat} {s t : Int} (hs : 0 ≤ s ∧ s < m) (ht : 0 ≤ t ∧ t < m) (h : cpl J k s t) : cpl J' k s t := by
  refine cpl.mono C (fun t a b => ⟨(g.2.2.2.1.1 t a b).1, (g.2.2.2.1.1 t a b).2.1⟩) g.2.2.2.1.2 (fun s t q => ?_) k s t hs ht h
  obtain ⟨i, a, b⟩ := q
  exact ⟨i, by rw [g.2.2.2.2 141 hX.1]; exact a, by rw [g.2.2.2.2 143 hX.2.1, g.2.2.2.2 144 hX.2.2]; exact b⟩
/-- more couples -/
def mC (J' J : zJ) : Prop := (0 ≤ J' 141 4 ∧ J' 141 4 ≤ 8) ∧ zOf (zbut [141, 143, 144]) J' J ∧ ∀ s t, inC J s t → inC J' s t
theorem mC.tr {J3 J2 J1 : zJ} (h : mC J3 J2) (g : mC J2 J1) : mC J3 J1 := ⟨h.1, h.2.1.tr g.2.1, fun s t q => h.2.2 s t (g.2.2 s t q)⟩
theorem mC.cpl {J' J : zJ} {m : Int} (C : CT J m) (h : mC J' J) {k : Nat} {s t : Int} (hs : 0 ≤ s ∧ s < m) (ht : 0 ≤ t ∧ t < m) (q : cpl J k s t) : cpl J' k s t :=
  cpl.mono C (fun t _ _ => ⟨congrFun (h.2.1 7 rfl) t, congrFun (h.2.1 8 rfl) t⟩) (fun k _ _ => congrFun (h.2.1 9 rfl) k) h.2.2 k s t hs ht q
theorem mC.add {J : zJ} {s t : Int} (h0 : 0 ≤ J 141 4 ∧ J 141 4 < 8) : mC (zup (zup (zup J 143 (J 141 4) s) 144 (J 141 4) t) 141 4 (J 141 4 + 1)) J ∧ inC (zup (zup (zup J 143 (J 141 4) s) 144 (J 141 4) t) 141 4 (J 141 4 + 1)) s t := by
  have e4 : zup (zup (zup J 143 (J 141 4) s) 144 (J 141 4) t) 141 4 (J 141 4 + 1) 141 4 = J 141 4 + 1 := zup_at
  have e3 : ∀ i, zup (zup (zup J 143 (J 141 4) s) 144 (J 141 4) t) 141 4 (J 141 4 + 1) 143 i = if i = J 141 4 then s else J 143 i := fun i => rfl
  have e2 : ∀ i, zup (zup (zup J 143 (J 141 4) s) 144 (J 141 4) t) 141 4 (J 141 4 + 1) 144 i = if i = J 141 4 then t else J 144 i := fun i => rfl
  refine ⟨⟨by rw [e4]; omega, zOf.up rfl (zOf.up rfl (zOf.up rfl zOf.rf)), fun s9 t9 q => ?_⟩, ⟨J 141 4, by rw [e4]; omega, by rw [e3, if_pos rfl], by rw [e2, if_pos rfl]⟩⟩
  obtain ⟨i, a, b, c⟩ := q
  exact ⟨i, by rw [e4]; omega, by rw [e3, if_neg (by omega)]; exact b, by rw [e2, if_neg (by omega)]; exact c⟩
theorem mC.ac {J J' : zJ} {s t z : Int} (h0 : 0 ≤ J 141 4 ∧ J 141 4 ≤ 8) (h : ((∃ i, (0 ≤ i ∧ i < J 141 4) ∧ J 143 i = s ∧ J 144 i = t) ∧ z = 1 ∧ J = J') ∨ ((∀ i, 0 ≤ i → i < J 141 4 → ¬ (J 143 i = s ∧ J 144 i = t)) ∧ ((J 141 4 = 8 ∧ z = 0 ∧ J = J') ∨ (J 141 4 < 8 ∧ z = 1 ∧ zup (zup (zup J 143 (J 141 4) s) 144 (J 141 4) t) 141 4 (J 141 4 + 1) = J')))) : mC J' J ∧ (z = 0 ∨ z = 1) ∧ (z = 1 → inC J' s t) := by
  rcases h with ⟨q, hz, rfl⟩ | ⟨-, ⟨h8, hz, rfl⟩ | ⟨h8, hz, rfl⟩⟩
  · exact ⟨⟨h0, zOf.rf, fun _ _ q => q⟩, Or.inr hz, fun _ => q⟩
  · exact ⟨⟨h0, zOf.rf, fun _ _ q => q⟩, Or.inl hz, fun e => by omega⟩
  · have := mC.add (J := J) (s := s) (t := t) (by omega)
    exact ⟨this.1, Or.inr hz, fun _ => this.2⟩
theorem cpl.s {J : zJ} {k : Int} {s t : Int} (hk : 1 ≤ k) (h : inC J s t ∨ (0 ≤ J 7 s ∧ J 7 s = J 7 t ∧ ∀ i, 0 ≤ i → i < J 8 s → cpl J (k - 1).toNat (J 9 (s * 3 + i)) (J 9 (t * 3 + i)))) : cpl J k.toNat s t := by
  have : k.toNat = (k - 1).toNat + 1 := by omega
  rw [this]
  exact h
set_option maxHeartbeats 4000000 in
set_option maxRecDepth 100000 in
theorem c_couple {l : Launch} {G : tb_G} (hl : l.stackTraces = false) (n : Nat) : ∀ (r9 : Nat) (J : zJ) (s : Int) (t : Int) (lv : Int) (hr_s : -2147483648 ≤ s ∧ s < 2147483648) (hr_t : -2147483648 ≤ t ∧ t < 2147483648) (hr_lv : -2147483648 ≤ lv ∧ lv < 2147483648) (m : Int) (C : CT J m) (hs : 0 ≤ s ∧ s < m) (ht : 0 ≤ t ∧ t < m) (h0 : 0 ≤ J 141 4 ∧ J 141 4 ≤ 8), ((7 - lv).toNat) < r9 → tz_Ok l G M_X2_couple (2 + 1 * r9) 0 0 [.ref 141, zi s, zi t, zi lv] n J (zqi (fun z J' => mC J' J ∧ (z = 0 ∨ z = 1) ∧ (z = 1 → cpl J' (7 - lv).toNat s t))) zN := by
  intro r9
  induction r9 with
  | zero => intro J s t lv hr_s hr_t hr_lv m C hs ht h0 hm9; exact absurd hm9 (Nat.not_lt_zero _)
  | succ r9 ih =>
    intro J s t lv hr_s hr_t hr_lv m C hs ht h0 hm9
    refine tz_Ok.of hl (by decide +kernel) rfl (tb_c1 rfl) (Nat.le_of_ble_eq_true rfl) ?_
    show tz_At l G M_X2_couple (tb_rm (2 + 1 * (r9 + 1)) 0 0) none (tb_ZM G 0 0 (zQ n 0 (zqi (fun z J' => mC J' J ∧ (z = 0 ∨ z = 1) ∧ (z = 1 → cpl J' (7 - lv).toNat s t)))) (zX n 0 zN)) 0 0 n J 0 [some (.ref 141), some (zi s), some (zi t), some (zi lv), none] []
    have hb := C.told
    have ha := C.ar hs.1 hs.2
    have ha2 := C.ar ht.1 ht.2
    refine tz_iload_n (pc := 0) dX2_couple_0 rfl rfl ?_
    refine tz_bipush (pc := 1) dX2_couple_1 (by decide) ?_
    refine tz_icmp_le (pc := 3) (tgt := 8) dX2_couple_3 (by decide) (by omega) (by decide) (fun h_3 => ?_) (fun h_3 => ?_)
    · refine tz_aload_n (pc := 8) dX2_couple_8 rfl rfl ?_
      refine tz_fR (pc := 9) dX2_couple_9 fl_X2_28 r_141_0 ?_
      refine tz_iload_n (pc := 12) dX2_couple_12 rfl rfl ?_
      refine tz_cV (pc := 13) (c_isVar hl n _ _ (by omega) (by omega)) vl_X2_36 dX2_couple_13 o_6 rfl rfl (Nat.le_of_ble_eq_true rfl) ⟨(show 0 + 1 ≤ 2 + 1 * (r9 + 1) by omega), (show 8 + (2 + 11) + 40 * (0) ≤ 40 * (2 + 1 * (r9 + 1)) by omega)⟩ rfl rfl (Nat.le_of_ble_eq_true rfl) (Nat.le_of_ble_eq_true rfl) (fun r9 J_13 hq9 => ?_)
      obtain ⟨z_13, rfl, hz_13, rfl, rfl⟩ := hq9
      by_cases hw_16 : J 7 s < 0
      · rw [show (if J 7 s < 0 then 1 else 0 : Int) = 1 from if_pos hw_16]
        refine tz_if_neT (pc := 16) (tgt := 40) (by decide) dX2_couple_16 (by decide) (by decide) ?_
        refine tz_aload_n (pc := 40) dX2_couple_40 rfl rfl ?_
        refine tz_iload_n (pc := 41) dX2_couple_41 rfl rfl ?_
        refine tz_iload_n (pc := 42) dX2_couple_42 rfl rfl ?_
        refine tz_cV (pc := 43) (c_addCouple hl n _ _ _ (by omega) (by omega) h0) vl_X2_89 dX2_couple_43 o_141 rfl rfl (Nat.le_of_ble_eq_true rfl) ⟨(show 1 + 1 ≤ 2 + 1 * (r9 + 1) by omega), (show 8 + (3 + 11) + 40 * (1) ≤ 40 * (2 + 1 * (r9 + 1)) by omega)⟩ rfl rfl (Nat.le_of_ble_eq_true rfl) (Nat.le_of_ble_eq_true rfl) (fun r9 J_43 hq9 => ?_)
        obtain ⟨z_43, rfl, hz_43, p_43⟩ := hq9
        obtain ⟨a9, b9, c9⟩ := mC.ac h0 p_43
        exact tz_zret (pc := 46) (z := z_43) dX2_couple_46 rfl (by omega) (Nat.le_of_ble_eq_true rfl) (Nat.le_of_ble_eq_true rfl) ⟨Nat.le_refl _, Nat.le_add_right _ _⟩ ⟨_, rfl, (by omega), (by first | exact ⟨⟨h0, zOf.rf, fun _ _ q => q⟩, Or.inl rfl, fun e => by omega⟩ | exact ⟨a9, b9, fun e => cpl.s (by omega) (Or.inl (c9 e))⟩ | exact ⟨fr, Or.inr rfl, fun _ => cpl.s (by omega) (Or.inr ⟨by rw [e7]; omega, by rw [e7]; omega, fun q a b => by rw [e8] at b; rw [e9, show 7 - lv - 1 = 6 - lv by omega]; exact hq q a (by omega)⟩)⟩ | exact ⟨f2.tr fr, Or.inl rfl, fun e => by omega⟩)⟩
      · rw [show (if J 7 s < 0 then 1 else 0 : Int) = 0 from if_neg hw_16]
        refine tz_if_neF (pc := 16) (tgt := 40) (by decide) dX2_couple_16 (by decide) (by decide) ?_
        refine tz_aload_n (pc := 19) dX2_couple_19 rfl rfl ?_
        refine tz_fR (pc := 20) dX2_couple_20 fl_X2_28 r_141_0 ?_
        refine tz_fR (pc := 23) dX2_couple_23 fl_X2_42 r_6_1 ?_
        refine tz_iload_n (pc := 26) dX2_couple_26 rfl rfl ?_
        refine tz_aL (pc := 27) (z := s) (v := (J 7 s)) dX2_couple_27 a_7 rfl (by omega) rfl (fun r_27 => ?_)
        refine tz_aload_n (pc := 28) dX2_couple_28 rfl rfl ?_
        refine tz_fR (pc := 29) dX2_couple_29 fl_X2_28 r_141_0 ?_
        refine tz_fR (pc := 32) dX2_couple_32 fl_X2_42 r_6_1 ?_
        refine tz_iload_n (pc := 35) dX2_couple_35 rfl rfl ?_
        refine tz_aL (pc := 36) (z := t) (v := (J 7 t)) dX2_couple_36 a_7 rfl (by omega) rfl (fun r_36 => ?_)
        refine tz_icmp_eq (pc := 37) (tgt := 47) dX2_couple_37 (by decide) (by omega) (by omega) (fun h_37 => ?_) (fun h_37 => ?_)
        · refine tz_iconst (pc := 47) dX2_couple_47 ?_
          refine tz_istore (pc := 48) (L2 := [_, _, _, _, _]) dX2_couple_48 (by decide) rfl ?_
          have loop50 : ∀ (f9 : Nat) (i : Int) (J1 : zJ), ((3 - i).toNat) < f9 → (0 ≤ i ∧ i ≤ J 8 s) → (mC J1 J) → (∀ q, 0 ≤ q → q < i → cpl J1 (6 - lv).toNat (J 9 (s * 3 + q)) (J 9 (t * 3 + q))) → tz_At l G M_X2_couple (tb_rm (2 + 1 * (r9 + 1)) 0 0) none (tb_ZM G 0 0 (zQ n 0 (zqi (fun z J' => mC J' J ∧ (z = 0 ∨ z = 1) ∧ (z = 1 → cpl J' (7 - lv).toNat s t)))) (zX n 0 zN)) 0 0 n J1 50 [some (.ref 141), some (zi s), some (zi t), some (zi lv), some (zi i)] [] := by
            intro f9
            induction f9 with
            | zero => intro i J1 hm9; exact absurd hm9 (Nat.not_lt_zero _)
            | succ f9 ih50 =>
              intro i J1 hm50 hi fr hq
              have he := C.arh hs ht (by omega)
              have e9 := fr.2.1 9 rfl
              have e7 := fr.2.1 7 rfl
              have e8 := fr.2.1 8 rfl
              refine tz_iload (pc := 50) dX2_couple_50 rfl ?_
              refine tz_aload_n (pc := 52) dX2_couple_52 rfl rfl ?_
              refine tz_fR (pc := 53) dX2_couple_53 fl_X2_28 r_141_0 ?_
              refine tz_fR (pc := 56) dX2_couple_56 fl_X2_45 r_6_2 ?_
              refine tz_iload_n (pc := 59) dX2_couple_59 rfl rfl ?_
              refine tz_aL (pc := 60) (z := s) (v := (J 8 s)) dX2_couple_60 a_8 rfl (by omega) (Eq.trans (congrFun (fr.2.1 8 rfl) s) rfl) (fun r_60 => ?_)
              refine tz_icmp_ge (pc := 61) (tgt := 102) dX2_couple_61 (by decide) (by omega) (by omega) (fun h_61 => ?_) (fun h_61 => ?_)
              · refine tz_iconst (pc := 102) dX2_couple_102 ?_
                exact tz_zret (pc := 103) (z := 1) dX2_couple_103 rfl (Or.inr rfl) (Nat.le_of_ble_eq_true rfl) (Nat.le_of_ble_eq_true rfl) ⟨Nat.le_refl _, Nat.le_add_right _ _⟩ ⟨_, rfl, (by decide), (by first | exact ⟨⟨h0, zOf.rf, fun _ _ q => q⟩, Or.inl rfl, fun e => by omega⟩ | exact ⟨a9, b9, fun e => cpl.s (by omega) (Or.inl (c9 e))⟩ | exact ⟨fr, Or.inr rfl, fun _ => cpl.s (by omega) (Or.inr ⟨by rw [e7]; omega, by rw [e7]; omega, fun q a b => by rw [e8] at b; rw [e9, show 7 - lv - 1 = 6 - lv by omega]; exact hq q a (by omega)⟩)⟩ | exact ⟨f2.tr fr, Or.inl rfl, fun e => by omega⟩)⟩
              · refine tz_aload_n (pc := 64) dX2_couple_64 rfl rfl ?_
                refine tz_aload_n (pc := 65) dX2_couple_65 rfl rfl ?_
                refine tz_fR (pc := 66) dX2_couple_66 fl_X2_28 r_141_0 ?_
                refine tz_iload_n (pc := 69) dX2_couple_69 rfl rfl ?_
                refine tz_iload (pc := 70) dX2_couple_70 rfl ?_
                refine tz_cV (pc := 72) (c_arg hl n _ _ _ (by omega) (by omega) (by omega)) vl_X2_48 dX2_couple_72 o_6 rfl rfl (Nat.le_of_ble_eq_true rfl) ⟨(show 0 + 1 ≤ 2 + 1 * (r9 + 1) by omega), (show 8 + (3 + 11) + 40 * (0) ≤ 40 * (2 + 1 * (r9 + 1)) by omega)⟩ rfl rfl (Nat.le_of_ble_eq_true rfl) (Nat.le_of_ble_eq_true rfl) (fun r9 J_72 hq9 => ?_)
                obtain ⟨z_72, rfl, hz_72, rfl, rfl⟩ := hq9
                refine tz_aload_n (pc := 75) dX2_couple_75 rfl rfl ?_
                refine tz_fR (pc := 76) dX2_couple_76 fl_X2_28 r_141_0 ?_
                refine tz_iload_n (pc := 79) dX2_couple_79 rfl rfl ?_
                refine tz_iload (pc := 80) dX2_couple_80 rfl ?_
                refine tz_cV (pc := 82) (c_arg hl n _ _ _ (by omega) (by omega) (by omega)) vl_X2_48 dX2_couple_82 o_6 rfl rfl (Nat.le_of_ble_eq_true rfl) ⟨(show 0 + 1 ≤ 2 + 1 * (r9 + 1) by omega), (show 8 + (3 + 11) + 40 * (0) ≤ 40 * (2 + 1 * (r9 + 1)) by omega)⟩ rfl rfl (Nat.le_of_ble_eq_true rfl) (Nat.le_of_ble_eq_true rfl) (fun r9 J_82 hq9 => ?_)
                obtain ⟨z_82, rfl, hz_82, rfl, rfl⟩ := hq9
                refine tz_iload_n (pc := 85) dX2_couple_85 rfl rfl ?_
                refine tz_iconst (pc := 86) dX2_couple_86 ?_
                refine tz_iadd (pc := 87) (v := lv + 1) dX2_couple_87 rfl ?_
                have g1 := (C.arg (t := s) (i := i) (by omega) (by omega) (by omega) (by omega)).1
                have g2 := (C.arg (t := t) (i := i) (by omega) (by omega) (by omega) (by omega)).1
                rw [← e9] at g1 g2
                refine tz_cV (pc := 88) (ih _ _ _ _ (by omega) (by omega) (by omega) m (C.of (fun c hc => fr.2.1 c (by simp [zbut]; omega))) (by omega) (by omega) fr.1 (by omega)) vl_X2_85 dX2_couple_88 o_141 rfl rfl (Nat.le_of_ble_eq_true rfl) ⟨(show (2 + 1 * r9) + 1 ≤ 2 + 1 * (r9 + 1) by omega), (show 8 + (5 + 11) + 40 * ((2 + 1 * r9)) ≤ 40 * (2 + 1 * (r9 + 1)) by omega)⟩ rfl rfl (Nat.le_of_ble_eq_true rfl) (Nat.le_of_ble_eq_true rfl) (fun r9 J2 hq9 => ?_)
                obtain ⟨z2, rfl, hz_88, f2, hz2, hc2⟩ := hq9
                refine tz_if_ne (pc := 91) (tgt := 96) dX2_couple_91 (by decide) (by omega) (fun h_91 => ?_) (fun h_91 => ?_)
                · refine tz_iinc (pc := 96) (z := i + 1) (L2 := [_, _, _, _, _]) dX2_couple_96 rfl (by omega) rfl ?_
                  refine tz_goto (pc := 99) (tgt := 50) dX2_couple_99 (by decide) ?_
                  exact ih50 (i + 1) _ (by omega) (by omega) (f2.tr fr) (fun q a b => (Decidable.em (q = i)).elim (fun e => by rw [e, ← e9]; have := hc2 (by omega); rw [show 6 - lv = 7 - (lv + 1) by omega]; exact this) (fun e => f2.cpl (C.of (fun c hc => fr.2.1 c (by simp [zbut]; omega))) (by have := C.arg (t := s) (i := q) (by omega) (by omega) a (by omega); omega) (by have := C.arg (t := t) (i := q) (by omega) (by omega) a (by omega); omega) (hq q a (by omega))))
                · refine tz_iconst (pc := 94) dX2_couple_94 ?_
                  exact tz_zret (pc := 95) (z := 0) dX2_couple_95 rfl (Or.inl rfl) (Nat.le_of_ble_eq_true rfl) (Nat.le_of_ble_eq_true rfl) ⟨Nat.le_refl _, Nat.le_add_right _ _⟩ ⟨_, rfl, (by decide), (by first | exact ⟨⟨h0, zOf.rf, fun _ _ q => q⟩, Or.inl rfl, fun e => by omega⟩ | exact ⟨a9, b9, fun e => cpl.s (by omega) (Or.inl (c9 e))⟩ | exact ⟨fr, Or.inr rfl, fun _ => cpl.s (by omega) (Or.inr ⟨by rw [e7]; omega, by rw [e7]; omega, fun q a b => by rw [e8] at b; rw [e9, show 7 - lv - 1 = 6 - lv by omega]; exact hq q a (by omega)⟩)⟩ | exact ⟨f2.tr fr, Or.inl rfl, fun e => by omega⟩)⟩
          exact loop50 _ 0 _ (Nat.lt_succ_self _) (by omega) ⟨h0, zOf.rf, fun _ _ q => q⟩ (fun q a b => by omega)
        · refine tz_aload_n (pc := 40) dX2_couple_40 rfl rfl ?_
          refine tz_iload_n (pc := 41) dX2_couple_41 rfl rfl ?_
          refine tz_iload_n (pc := 42) dX2_couple_42 rfl rfl ?_
          refine tz_cV (pc := 43) (c_addCouple hl n _ _ _ (by omega) (by omega) h0) vl_X2_89 dX2_couple_43 o_141 rfl rfl (Nat.le_of_ble_eq_true rfl) ⟨(show 1 + 1 ≤ 2 + 1 * (r9 + 1) by omega), (show 8 + (3 + 11) + 40 * (1) ≤ 40 * (2 + 1 * (r9 + 1)) by omega)⟩ rfl rfl (Nat.le_of_ble_eq_true rfl) (Nat.le_of_ble_eq_true rfl) (fun r9 J_43 hq9 => ?_)
          obtain ⟨z_43, rfl, hz_43, p_43⟩ := hq9
          obtain ⟨a9, b9, c9⟩ := mC.ac h0 p_43
          exact tz_zret (pc := 46) (z := z_43) dX2_couple_46 rfl (by omega) (Nat.le_of_ble_eq_true rfl) (Nat.le_of_ble_eq_true rfl) ⟨Nat.le_refl _, Nat.le_add_right _ _⟩ ⟨_, rfl, (by omega), (by first | exact ⟨⟨h0, zOf.rf, fun _ _ q => q⟩, Or.inl rfl, fun e => by omega⟩ | exact ⟨a9, b9, fun e => cpl.s (by omega) (Or.inl (c9 e))⟩ | exact ⟨fr, Or.inr rfl, fun _ => cpl.s (by omega) (Or.inr ⟨by rw [e7]; omega, by rw [e7]; omega, fun q a b => by rw [e8] at b; rw [e9, show 7 - lv - 1 = 6 - lv by omega]; exact hq q a (by omega)⟩)⟩ | exact ⟨f2.tr fr, Or.inl rfl, fun e => by omega⟩)⟩
    · refine tz_iconst (pc := 6) dX2_couple_6 ?_
      exact tz_zret (pc := 7) (z := 0) dX2_couple_7 rfl (Or.inl rfl) (Nat.le_of_ble_eq_true rfl) (Nat.le_of_ble_eq_true rfl) ⟨Nat.le_refl _, Nat.le_add_right _ _⟩ ⟨_, rfl, (by decide), (by first | exact ⟨⟨h0, zOf.rf, fun _ _ q => q⟩, Or.inl rfl, fun e => by omega⟩ | exact ⟨a9, b9, fun e => cpl.s (by omega) (Or.inl (c9 e))⟩ | exact ⟨fr, Or.inr rfl, fun _ => cpl.s (by omega) (Or.inr ⟨by rw [e7]; omega, by rw [e7]; omega, fun q a b => by rw [e8] at b; rw [e9, show 7 - lv - 1 = 6 - lv by omega]; exact hq q a (by omega)⟩)⟩ | exact ⟨f2.tr fr, Or.inl rfl, fun e => by omega⟩)⟩

set_option maxHeartbeats 4000000 in
set_option maxRecDepth 100000 in
theorem c_haveCommon {l : Launch} {G : tb_G} (hl : l.stackTraces = false) (n : Nat) (J : zJ) (s : Int) (t : Int) (hr_s : -2147483648 ≤ s ∧ s < 2147483648) (hr_t : -2147483648 ≤ t ∧ t < 2147483648) (m : Int) (C : CT J m) (hs : 0 ≤ s ∧ s < m) (ht : 0 ≤ t ∧ t < m) : tz_Ok l G M_X2_haveCommon 10 0 0 [.ref 141, zi s, zi t] n J (zqi (fun z J' => zOf (zbut [141, 143, 144]) J' J ∧ (0 ≤ J' 141 4 ∧ J' 141 4 ≤ 8) ∧ (z = 0 ∨ z = 1) ∧ (z = 1 → cpl J' 6 s t))) zN := by
  refine tz_Ok.of hl (by decide +kernel) rfl (tb_c1 rfl) (Nat.le_of_ble_eq_true rfl) ?_
  show tz_At l G M_X2_haveCommon (tb_rm 10 0 0) none (tb_ZM G 0 0 (zQ n 0 (zqi (fun z J' => zOf (zbut [141, 143, 144]) J' J ∧ (0 ≤ J' 141 4 ∧ J' 141 4 ≤ 8) ∧ (z = 0 ∨ z = 1) ∧ (z = 1 → cpl J' 6 s t)))) (zX n 0 zN)) 0 0 n J 0 [some (.ref 141), some (zi s), some (zi t)] []
  refine tz_aload_n (pc := 0) dX2_haveCommon_0 rfl rfl ?_
  refine tz_iconst (pc := 1) dX2_haveCommon_1 ?_
  refine tz_pI (pc := 2) (kz := 4) dX2_haveCommon_2 fl_X2_21 i_141_4 rfl rfl (by decide) ?_
  refine tz_aload_n (pc := 5) dX2_haveCommon_5 rfl rfl ?_
  refine tz_iload_n (pc := 6) dX2_haveCommon_6 rfl rfl ?_
  refine tz_iload_n (pc := 7) dX2_haveCommon_7 rfl rfl ?_
  refine tz_iconst (pc := 8) dX2_haveCommon_8 ?_
  refine tz_cV (pc := 9) (c_couple hl n 7 _ _ _ 1 (by omega) (by omega) (by omega) m (C.of (fun c hc => zup_nc (by omega))) hs ht ⟨Int.le_refl 0, (by decide : (0 : Int) ≤ 8)⟩ (by decide)) vl_X2_85 dX2_haveCommon_9 o_141 rfl rfl (Nat.le_of_ble_eq_true rfl) ⟨(Nat.le_of_ble_eq_true rfl), (Nat.le_of_ble_eq_true rfl)⟩ rfl rfl (Nat.le_of_ble_eq_true rfl) (Nat.le_of_ble_eq_true rfl) (fun r9 J_9 hq9 => ?_)
  obtain ⟨z_9, rfl, hz_9, a1, a2, a3⟩ := hq9
  exact tz_zret (pc := 12) (z := z_9) dX2_haveCommon_12 rfl (by omega) (Nat.le_of_ble_eq_true rfl) (Nat.le_of_ble_eq_true rfl) ⟨Nat.le_refl _, Nat.le_add_right _ _⟩ ⟨_, rfl, (by omega), ⟨a1.2.1.tr (zOf.up rfl zOf.rf), a1.1, a2, a3⟩⟩

theorem cpl.nx {J : zJ} {k : Int} {s t : Int} (hk : 1 ≤ k) (h : cpl J k.toNat s t) (hn : ¬ inC J s t) : 0 ≤ J 7 s ∧ J 7 s = J 7 t ∧ ∀ i, 0 ≤ i → i < J 8 s → cpl J (k - 1).toNat (J 9 (s * 3 + i)) (J 9 (t * 3 + i)) := by
  have : k.toNat = (k - 1).toNat + 1 := by omega
  rw [this] at h
  exact h.elim (fun q => absurd q hn) id
set_option maxHeartbeats 4000000 in
set_option maxRecDepth 100000 in
theorem c_commonP {l : Launch} {G : tb_G} (hl : l.stackTraces = false) (n : Nat) : ∀ (r9 : Nat) (J : zJ) (s : Int) (t : Int) (lv : Int) (hr_s : -2147483648 ≤ s ∧ s < 2147483648) (hr_t : -2147483648 ≤ t ∧ t < 2147483648) (hr_lv : -2147483648 ≤ lv ∧ lv < 2147483648) (m : Int) (C : CT J m) (hm : J 6 12 = m) (hs : 0 ≤ s ∧ s < m) (ht : 0 ≤ t ∧ t < m) (h0 : 0 ≤ J 141 4 ∧ J 141 4 ≤ 8) (hc : cpl J (7 - lv).toNat s t), ((7 - lv).toNat) < r9 → tz_Ok l G M_X2_commonPart (4 + 1 * r9) 0 0 [.ref 141, zi s, zi t, zi lv] n J (zqi (fun z J' => ∃ m', GX [] J' J m m' ∧ (z = -3 ∨ (0 ≤ z ∧ z < m')))) zN := by
  intro r9
  induction r9 with
  | zero => intro J s t lv hr_s hr_t hr_lv m C hm hs ht h0 hc hm9; exact absurd hm9 (Nat.not_lt_zero _)
  | succ r9 ih =>
    intro J s t lv hr_s hr_t hr_lv m C hm hs ht h0 hc hm9
    refine tz_Ok.of hl (by decide +kernel) rfl (tb_c1 rfl) (Nat.le_of_ble_eq_true rfl) ?_
    show tz_At l G M_X2_commonPart (tb_rm (4 + 1 * (r9 + 1)) 0 0) none (tb_ZM G 0 0 (zQ n 0 (zqi (fun z J' => ∃ m', GX [] J' J m m' ∧ (z = -3 ∨ (0 ≤ z ∧ z < m'))))) (zX n 0 zN)) 0 0 n J 0 [some (.ref 141), some (zi s), some (zi t), some (zi lv), none, none, none, none, none] []
    have hb := C.told
    have ha := C.ar hs.1 hs.2
    have ha2 := C.ar ht.1 ht.2
    have g0 : GX [] J J m m := GX.rf C hm
    refine tz_iload_n (pc := 0) dX2_commonPart_0 rfl rfl ?_
    refine tz_bipush (pc := 1) dX2_commonPart_1 (by decide) ?_
    refine tz_icmp_le (pc := 3) (tgt := 9) dX2_commonPart_3 (by decide) (by omega) (by decide) (fun h_3 => ?_) (fun h_3 => ?_)
    · refine tz_aload_n (pc := 9) dX2_commonPart_9 rfl rfl ?_
      refine tz_iload_n (pc := 10) dX2_commonPart_10 rfl rfl ?_
      refine tz_iload_n (pc := 11) dX2_commonPart_11 rfl rfl ?_
      refine tz_cV (pc := 12) (c_coupleOf hl n _ _ _ (by omega) (by omega) h0) vl_X2_93 dX2_commonPart_12 o_141 rfl rfl (Nat.le_of_ble_eq_true rfl) ⟨(show 0 + 1 ≤ 4 + 1 * (r9 + 1) by omega), (show 8 + (4 + 11) + 40 * (0) ≤ 40 * (4 + 1 * (r9 + 1)) by omega)⟩ rfl rfl (Nat.le_of_ble_eq_true rfl) (Nat.le_of_ble_eq_true rfl) (fun r9 J_12 hq9 => ?_)
      obtain ⟨z9, rfl, hz_12, rfl, p_9⟩ := hq9
      refine tz_istore (pc := 15) (L2 := [_, _, _, _, _, _, _, _, _]) dX2_commonPart_15 (by decide) rfl ?_
      refine tz_iload (pc := 17) dX2_commonPart_17 rfl ?_
      refine tz_iconst (pc := 19) dX2_commonPart_19 ?_
      refine tz_icmp_eq (pc := 20) (tgt := 33) dX2_commonPart_20 (by decide) (by omega) (by decide) (fun h_20 => ?_) (fun h_20 => ?_)
      · have hx := cpl.nx (by omega) hc (fun q => by obtain ⟨i, q1, q2⟩ := q; rcases p_9 with p_9 | p_9 <;> first | omega | exact p_9.2 i q1.1 q1.2 q2)
        have hn := hx.2.2
        rw [show 7 - lv - 1 = 6 - lv by omega] at hn
        have he := C.arh hs ht hx.2.1
        refine tz_aload_n (pc := 33) dX2_commonPart_33 rfl rfl ?_
        refine tz_fR (pc := 34) dX2_commonPart_34 fl_X2_28 r_141_0 ?_
        refine tz_fR (pc := 37) dX2_commonPart_37 fl_X2_45 r_6_2 ?_
        refine tz_iload_n (pc := 40) dX2_commonPart_40 rfl rfl ?_
        refine tz_aL (pc := 41) (z := s) (v := (J 8 s)) dX2_commonPart_41 a_8 rfl (by omega) rfl (fun r_41 => ?_)
        refine tz_istore (pc := 42) (L2 := [_, _, _, _, _, _, _, _, _]) dX2_commonPart_42 (by decide) rfl ?_
        refine tz_iload (pc := 44) dX2_commonPart_44 rfl ?_
        refine tz_iconst (pc := 46) dX2_commonPart_46 ?_
        refine tz_icmp_ge (pc := 47) (tgt := 54) dX2_commonPart_47 (by decide) (by omega) (by decide) (fun h_47 => ?_) (fun h_47 => ?_)
        · refine tz_aload_n (pc := 54) dX2_commonPart_54 rfl rfl ?_
          refine tz_aload_n (pc := 55) dX2_commonPart_55 rfl rfl ?_
          refine tz_fR (pc := 56) dX2_commonPart_56 fl_X2_28 r_141_0 ?_
          refine tz_iload_n (pc := 59) dX2_commonPart_59 rfl rfl ?_
          refine tz_iconst (pc := 60) dX2_commonPart_60 ?_
          refine tz_cV (pc := 61) (c_arg hl n _ _ _ (by omega) (by decide) (by omega)) vl_X2_48 dX2_commonPart_61 o_6 rfl rfl (Nat.le_of_ble_eq_true rfl) ⟨(show 0 + 1 ≤ 4 + 1 * (r9 + 1) by omega), (show 8 + (3 + 11) + 40 * (0) ≤ 40 * (4 + 1 * (r9 + 1)) by omega)⟩ rfl rfl (Nat.le_of_ble_eq_true rfl) (Nat.le_of_ble_eq_true rfl) (fun r9 J_61 hq9 => ?_)
          obtain ⟨z_61, rfl, hz_61, rfl, rfl⟩ := hq9
          refine tz_aload_n (pc := 64) dX2_commonPart_64 rfl rfl ?_
          refine tz_fR (pc := 65) dX2_commonPart_65 fl_X2_28 r_141_0 ?_
          refine tz_iload_n (pc := 68) dX2_commonPart_68 rfl rfl ?_
          refine tz_iconst (pc := 69) dX2_commonPart_69 ?_
          refine tz_cV (pc := 70) (c_arg hl n _ _ _ (by omega) (by decide) (by omega)) vl_X2_48 dX2_commonPart_70 o_6 rfl rfl (Nat.le_of_ble_eq_true rfl) ⟨(show 0 + 1 ≤ 4 + 1 * (r9 + 1) by omega), (show 8 + (3 + 11) + 40 * (0) ≤ 40 * (4 + 1 * (r9 + 1)) by omega)⟩ rfl rfl (Nat.le_of_ble_eq_true rfl) (Nat.le_of_ble_eq_true rfl) (fun r9 J_70 hq9 => ?_)
          obtain ⟨z_70, rfl, hz_70, rfl, rfl⟩ := hq9
          refine tz_iload_n (pc := 73) dX2_commonPart_73 rfl rfl ?_
          refine tz_iconst (pc := 74) dX2_commonPart_74 ?_
          refine tz_iadd (pc := 75) (v := lv + 1) dX2_commonPart_75 rfl ?_
          have b_76 := GX.arg g0 C hs (i := 0) (by omega)
          have b2_76 := GX.arg g0 C ht (i := 0) (by omega)
          have c_76 := (g0).1
          have k_76 := (g0).2.2.2.2 141 rfl
          have a_76 := cpl.gx C g0 ⟨rfl, rfl, rfl⟩ (by omega) (by omega) (hn 0 (by omega) (by omega))
          rw [← b_76.2, ← b2_76.2, show 6 - lv = 7 - (lv + 1) by omega] at a_76
          refine tz_cV (pc := 76) (ih _ _ _ _ (by omega) (by omega) (by omega) m (g0).2.1 (g0).2.2.1 (by omega) (by omega) (by rw [k_76]; exact h0) a_76 (by omega)) vl_X2_96 dX2_commonPart_76 o_141 rfl rfl (Nat.le_of_ble_eq_true rfl) ⟨(show (4 + 1 * r9) + 1 ≤ 4 + 1 * (r9 + 1) by omega), (show 8 + (9 + 11) + 40 * ((4 + 1 * r9)) ≤ 40 * (4 + 1 * (r9 + 1)) by omega)⟩ rfl rfl (Nat.le_of_ble_eq_true rfl) (Nat.le_of_ble_eq_true rfl) (fun r9 J_76 hq9 => ?_)
          obtain ⟨z_76, rfl, hz_76, m_76, g_76, h_76⟩ := hq9
          have q_76 := GX.tr g0 g_76
          have d_76 := q_76.1
          have e_76 := g_76.1
          refine tz_istore (pc := 79) (L2 := [_, _, _, _, _, _, _, _, _]) dX2_commonPart_79 (by decide) rfl ?_
          refine tz_iload (pc := 81) dX2_commonPart_81 rfl ?_
          refine tz_iconst (pc := 83) dX2_commonPart_83 ?_
          refine tz_icmp_ge (pc := 84) (tgt := 91) dX2_commonPart_84 (by decide) (by omega) (by decide) (fun h_84 => ?_) (fun h_84 => ?_)
          · refine tz_aload_n (pc := 91) dX2_commonPart_91 rfl rfl ?_
            refine tz_aload_n (pc := 92) dX2_commonPart_92 rfl rfl ?_
            refine tz_fR (pc := 93) dX2_commonPart_93 fl_X2_28 r_141_0 ?_
            refine tz_iload_n (pc := 96) dX2_commonPart_96 rfl rfl ?_
            refine tz_iconst (pc := 97) dX2_commonPart_97 ?_
            refine tz_cV (pc := 98) (c_arg hl n _ _ _ (by omega) (by decide) (by omega)) vl_X2_48 dX2_commonPart_98 o_6 rfl rfl (Nat.le_of_ble_eq_true rfl) ⟨(show 0 + 1 ≤ 4 + 1 * (r9 + 1) by omega), (show 8 + (3 + 11) + 40 * (0) ≤ 40 * (4 + 1 * (r9 + 1)) by omega)⟩ rfl rfl (Nat.le_of_ble_eq_true rfl) (Nat.le_of_ble_eq_true rfl) (fun r9 J_98 hq9 => ?_)
            obtain ⟨z_98, rfl, hz_98, rfl, rfl⟩ := hq9
            refine tz_aload_n (pc := 101) dX2_commonPart_101 rfl rfl ?_
            refine tz_fR (pc := 102) dX2_commonPart_102 fl_X2_28 r_141_0 ?_
            refine tz_iload_n (pc := 105) dX2_commonPart_105 rfl rfl ?_
            refine tz_iconst (pc := 106) dX2_commonPart_106 ?_
            refine tz_cV (pc := 107) (c_arg hl n _ _ _ (by omega) (by decide) (by omega)) vl_X2_48 dX2_commonPart_107 o_6 rfl rfl (Nat.le_of_ble_eq_true rfl) ⟨(show 0 + 1 ≤ 4 + 1 * (r9 + 1) by omega), (show 8 + (3 + 11) + 40 * (0) ≤ 40 * (4 + 1 * (r9 + 1)) by omega)⟩ rfl rfl (Nat.le_of_ble_eq_true rfl) (Nat.le_of_ble_eq_true rfl) (fun r9 J_107 hq9 => ?_)
            obtain ⟨z_107, rfl, hz_107, rfl, rfl⟩ := hq9
            refine tz_iload_n (pc := 110) dX2_commonPart_110 rfl rfl ?_
            refine tz_iconst (pc := 111) dX2_commonPart_111 ?_
            refine tz_iadd (pc := 112) (v := lv + 1) dX2_commonPart_112 rfl ?_
            have b_113 := GX.arg q_76 C hs (i := 1) (by omega)
            have b2_113 := GX.arg q_76 C ht (i := 1) (by omega)
            have c_113 := (q_76).1
            have k_113 := (q_76).2.2.2.2 141 rfl
            have a_113 := cpl.gx C q_76 ⟨rfl, rfl, rfl⟩ (by omega) (by omega) (hn 1 (by omega) (by omega))
            rw [← b_113.2, ← b2_113.2, show 6 - lv = 7 - (lv + 1) by omega] at a_113
            refine tz_cV (pc := 113) (ih _ _ _ _ (by omega) (by omega) (by omega) m_76 (q_76).2.1 (q_76).2.2.1 (by omega) (by omega) (by rw [k_113]; exact h0) a_113 (by omega)) vl_X2_96 dX2_commonPart_113 o_141 rfl rfl (Nat.le_of_ble_eq_true rfl) ⟨(show (4 + 1 * r9) + 1 ≤ 4 + 1 * (r9 + 1) by omega), (show 8 + (9 + 11) + 40 * ((4 + 1 * r9)) ≤ 40 * (4 + 1 * (r9 + 1)) by omega)⟩ rfl rfl (Nat.le_of_ble_eq_true rfl) (Nat.le_of_ble_eq_true rfl) (fun r9 J_113 hq9 => ?_)
            obtain ⟨z_113, rfl, hz_113, m_113, g_113, h_113⟩ := hq9
            have q_113 := GX.tr q_76 g_113
            have d_113 := q_113.1
            have e_113 := g_113.1
            refine tz_istore (pc := 116) (L2 := [_, _, _, _, _, _, _, _, _]) dX2_commonPart_116 (by decide) rfl ?_
            refine tz_iload (pc := 118) dX2_commonPart_118 rfl ?_
            refine tz_iconst (pc := 120) dX2_commonPart_120 ?_
            refine tz_icmp_ge (pc := 121) (tgt := 128) dX2_commonPart_121 (by decide) (by omega) (by decide) (fun h_121 => ?_) (fun h_121 => ?_)
            · refine tz_aload_n (pc := 128) dX2_commonPart_128 rfl rfl ?_
              refine tz_aload_n (pc := 129) dX2_commonPart_129 rfl rfl ?_
              refine tz_fR (pc := 130) dX2_commonPart_130 fl_X2_28 r_141_0 ?_
              refine tz_iload_n (pc := 133) dX2_commonPart_133 rfl rfl ?_
              refine tz_iconst (pc := 134) dX2_commonPart_134 ?_
              refine tz_cV (pc := 135) (c_arg hl n _ _ _ (by omega) (by decide) (by omega)) vl_X2_48 dX2_commonPart_135 o_6 rfl rfl (Nat.le_of_ble_eq_true rfl) ⟨(show 0 + 1 ≤ 4 + 1 * (r9 + 1) by omega), (show 8 + (3 + 11) + 40 * (0) ≤ 40 * (4 + 1 * (r9 + 1)) by omega)⟩ rfl rfl (Nat.le_of_ble_eq_true rfl) (Nat.le_of_ble_eq_true rfl) (fun r9 J_135 hq9 => ?_)
              obtain ⟨z_135, rfl, hz_135, rfl, rfl⟩ := hq9
              refine tz_aload_n (pc := 138) dX2_commonPart_138 rfl rfl ?_
              refine tz_fR (pc := 139) dX2_commonPart_139 fl_X2_28 r_141_0 ?_
              refine tz_iload_n (pc := 142) dX2_commonPart_142 rfl rfl ?_
              refine tz_iconst (pc := 143) dX2_commonPart_143 ?_
              refine tz_cV (pc := 144) (c_arg hl n _ _ _ (by omega) (by decide) (by omega)) vl_X2_48 dX2_commonPart_144 o_6 rfl rfl (Nat.le_of_ble_eq_true rfl) ⟨(show 0 + 1 ≤ 4 + 1 * (r9 + 1) by omega), (show 8 + (3 + 11) + 40 * (0) ≤ 40 * (4 + 1 * (r9 + 1)) by omega)⟩ rfl rfl (Nat.le_of_ble_eq_true rfl) (Nat.le_of_ble_eq_true rfl) (fun r9 J_144 hq9 => ?_)
              obtain ⟨z_144, rfl, hz_144, rfl, rfl⟩ := hq9
              refine tz_iload_n (pc := 147) dX2_commonPart_147 rfl rfl ?_
              refine tz_iconst (pc := 148) dX2_commonPart_148 ?_
              refine tz_iadd (pc := 149) (v := lv + 1) dX2_commonPart_149 rfl ?_
              have b_150 := GX.arg q_113 C hs (i := 2) (by omega)
              have b2_150 := GX.arg q_113 C ht (i := 2) (by omega)
              have c_150 := (q_113).1
              have k_150 := (q_113).2.2.2.2 141 rfl
              have a_150 := cpl.gx C q_113 ⟨rfl, rfl, rfl⟩ (by omega) (by omega) (hn 2 (by omega) (by omega))
              rw [← b_150.2, ← b2_150.2, show 6 - lv = 7 - (lv + 1) by omega] at a_150
              refine tz_cV (pc := 150) (ih _ _ _ _ (by omega) (by omega) (by omega) m_113 (q_113).2.1 (q_113).2.2.1 (by omega) (by omega) (by rw [k_150]; exact h0) a_150 (by omega)) vl_X2_96 dX2_commonPart_150 o_141 rfl rfl (Nat.le_of_ble_eq_true rfl) ⟨(show (4 + 1 * r9) + 1 ≤ 4 + 1 * (r9 + 1) by omega), (show 8 + (9 + 11) + 40 * ((4 + 1 * r9)) ≤ 40 * (4 + 1 * (r9 + 1)) by omega)⟩ rfl rfl (Nat.le_of_ble_eq_true rfl) (Nat.le_of_ble_eq_true rfl) (fun r9 J_150 hq9 => ?_)
              obtain ⟨z_150, rfl, hz_150, m_150, g_150, h_150⟩ := hq9
              have q_150 := GX.tr q_113 g_150
              have d_150 := q_150.1
              have e_150 := g_150.1
              refine tz_istore (pc := 153) (L2 := [_, _, _, _, _, _, _, _, _]) dX2_commonPart_153 (by decide) rfl ?_
              refine tz_aload_n (pc := 155) dX2_commonPart_155 rfl rfl ?_
              refine tz_fR (pc := 156) dX2_commonPart_156 fl_X2_28 r_141_0 ?_
              refine tz_aload_n (pc := 159) dX2_commonPart_159 rfl rfl ?_
              refine tz_fR (pc := 160) dX2_commonPart_160 fl_X2_28 r_141_0 ?_
              refine tz_fR (pc := 163) dX2_commonPart_163 fl_X2_42 r_6_1 ?_
              refine tz_iload_n (pc := 166) dX2_commonPart_166 rfl rfl ?_
              refine tz_aL (pc := 167) (z := s) (v := (J_150 7 s)) dX2_commonPart_167 a_7 rfl (by omega) rfl (fun r_167 => ?_)
              refine tz_iload (pc := 168) dX2_commonPart_168 rfl ?_
              refine tz_iload (pc := 170) dX2_commonPart_170 rfl ?_
              refine tz_iload (pc := 172) dX2_commonPart_172 rfl ?_
              refine tz_cV (pc := 174) (c_made hl n _ _ _ _ _ (by omega) (by omega) (by omega) (by omega) m_150 (q_150).2.1 (q_150).2.2.1 (by have := (q_150).2.1.ar (t := s) (by omega) (by have := (q_150).1; omega); omega) (ltA_of (by omega) (by omega) (by omega))) vl_X2_52 dX2_commonPart_174 o_6 rfl rfl (Nat.le_of_ble_eq_true rfl) ⟨(show 2 + 1 ≤ 4 + 1 * (r9 + 1) by omega), (show 8 + (11 + 11) + 40 * (2) ≤ 40 * (4 + 1 * (r9 + 1)) by omega)⟩ rfl rfl (Nat.le_of_ble_eq_true rfl) (Nat.le_of_ble_eq_true rfl) (fun r9 J_174 hq9 => ?_)
              obtain ⟨z_174, rfl, hz_174, p_174⟩ := hq9
              obtain ⟨m_174, g_174, h_174⟩ := GR.made p_174 (by omega)
              have q_174 : GX [] J_174 J m m_174 := GX.tr q_150 (GR.x g_174)
              exact tz_iret (pc := 177) (z := z_174) dX2_commonPart_177 rfl (Nat.le_of_ble_eq_true rfl) (Nat.le_of_ble_eq_true rfl) ⟨Nat.le_refl _, Nat.le_add_right _ _⟩ ⟨_, rfl, (by omega), ⟨m_174, q_174, h_174⟩⟩
            · refine tz_iconst (pc := 124) dX2_commonPart_124 ?_
              refine tz_goto (pc := 125) (tgt := 153) dX2_commonPart_125 (by decide) ?_
              refine tz_istore (pc := 153) (L2 := [_, _, _, _, _, _, _, _, _]) dX2_commonPart_153 (by decide) rfl ?_
              refine tz_aload_n (pc := 155) dX2_commonPart_155 rfl rfl ?_
              refine tz_fR (pc := 156) dX2_commonPart_156 fl_X2_28 r_141_0 ?_
              refine tz_aload_n (pc := 159) dX2_commonPart_159 rfl rfl ?_
              refine tz_fR (pc := 160) dX2_commonPart_160 fl_X2_28 r_141_0 ?_
              refine tz_fR (pc := 163) dX2_commonPart_163 fl_X2_42 r_6_1 ?_
              refine tz_iload_n (pc := 166) dX2_commonPart_166 rfl rfl ?_
              refine tz_aL (pc := 167) (z := s) (v := (J_113 7 s)) dX2_commonPart_167 a_7 rfl (by omega) rfl (fun r_167 => ?_)
              refine tz_iload (pc := 168) dX2_commonPart_168 rfl ?_
              refine tz_iload (pc := 170) dX2_commonPart_170 rfl ?_
              refine tz_iload (pc := 172) dX2_commonPart_172 rfl ?_
              refine tz_cV (pc := 174) (c_made hl n _ _ _ _ _ (by omega) (by omega) (by omega) (by omega) m_113 (q_113).2.1 (q_113).2.2.1 (by have := (q_113).2.1.ar (t := s) (by omega) (by have := (q_113).1; omega); omega) (ltA_of (by omega) (by omega) (by omega))) vl_X2_52 dX2_commonPart_174 o_6 rfl rfl (Nat.le_of_ble_eq_true rfl) ⟨(show 2 + 1 ≤ 4 + 1 * (r9 + 1) by omega), (show 8 + (11 + 11) + 40 * (2) ≤ 40 * (4 + 1 * (r9 + 1)) by omega)⟩ rfl rfl (Nat.le_of_ble_eq_true rfl) (Nat.le_of_ble_eq_true rfl) (fun r9 J_174 hq9 => ?_)
              obtain ⟨z_174, rfl, hz_174, p_174⟩ := hq9
              obtain ⟨m_174, g_174, h_174⟩ := GR.made p_174 (by omega)
              have q_174 : GX [] J_174 J m m_174 := GX.tr q_113 (GR.x g_174)
              exact tz_iret (pc := 177) (z := z_174) dX2_commonPart_177 rfl (Nat.le_of_ble_eq_true rfl) (Nat.le_of_ble_eq_true rfl) ⟨Nat.le_refl _, Nat.le_add_right _ _⟩ ⟨_, rfl, (by omega), ⟨m_174, q_174, h_174⟩⟩
          · refine tz_iconst (pc := 87) dX2_commonPart_87 ?_
            refine tz_goto (pc := 88) (tgt := 116) dX2_commonPart_88 (by decide) ?_
            refine tz_istore (pc := 116) (L2 := [_, _, _, _, _, _, _, _, _]) dX2_commonPart_116 (by decide) rfl ?_
            refine tz_iload (pc := 118) dX2_commonPart_118 rfl ?_
            refine tz_iconst (pc := 120) dX2_commonPart_120 ?_
            refine tz_icmp_ge (pc := 121) (tgt := 128) dX2_commonPart_121 (by decide) (by omega) (by decide) (fun h_121 => ?_) (fun h_121 => ?_)
            · refine tz_aload_n (pc := 128) dX2_commonPart_128 rfl rfl ?_
              refine tz_aload_n (pc := 129) dX2_commonPart_129 rfl rfl ?_
              refine tz_fR (pc := 130) dX2_commonPart_130 fl_X2_28 r_141_0 ?_
              refine tz_iload_n (pc := 133) dX2_commonPart_133 rfl rfl ?_
              refine tz_iconst (pc := 134) dX2_commonPart_134 ?_
              refine tz_cV (pc := 135) (c_arg hl n _ _ _ (by omega) (by decide) (by omega)) vl_X2_48 dX2_commonPart_135 o_6 rfl rfl (Nat.le_of_ble_eq_true rfl) ⟨(show 0 + 1 ≤ 4 + 1 * (r9 + 1) by omega), (show 8 + (3 + 11) + 40 * (0) ≤ 40 * (4 + 1 * (r9 + 1)) by omega)⟩ rfl rfl (Nat.le_of_ble_eq_true rfl) (Nat.le_of_ble_eq_true rfl) (fun r9 J_135 hq9 => ?_)
              obtain ⟨z_135, rfl, hz_135, rfl, rfl⟩ := hq9
              refine tz_aload_n (pc := 138) dX2_commonPart_138 rfl rfl ?_
              refine tz_fR (pc := 139) dX2_commonPart_139 fl_X2_28 r_141_0 ?_
              refine tz_iload_n (pc := 142) dX2_commonPart_142 rfl rfl ?_
              refine tz_iconst (pc := 143) dX2_commonPart_143 ?_
              refine tz_cV (pc := 144) (c_arg hl n _ _ _ (by omega) (by decide) (by omega)) vl_X2_48 dX2_commonPart_144 o_6 rfl rfl (Nat.le_of_ble_eq_true rfl) ⟨(show 0 + 1 ≤ 4 + 1 * (r9 + 1) by omega), (show 8 + (3 + 11) + 40 * (0) ≤ 40 * (4 + 1 * (r9 + 1)) by omega)⟩ rfl rfl (Nat.le_of_ble_eq_true rfl) (Nat.le_of_ble_eq_true rfl) (fun r9 J_144 hq9 => ?_)
              obtain ⟨z_144, rfl, hz_144, rfl, rfl⟩ := hq9
              refine tz_iload_n (pc := 147) dX2_commonPart_147 rfl rfl ?_
              refine tz_iconst (pc := 148) dX2_commonPart_148 ?_
              refine tz_iadd (pc := 149) (v := lv + 1) dX2_commonPart_149 rfl ?_
              have b_150 := GX.arg q_76 C hs (i := 2) (by omega)
              have b2_150 := GX.arg q_76 C ht (i := 2) (by omega)
              have c_150 := (q_76).1
              have k_150 := (q_76).2.2.2.2 141 rfl
              have a_150 := cpl.gx C q_76 ⟨rfl, rfl, rfl⟩ (by omega) (by omega) (hn 2 (by omega) (by omega))
              rw [← b_150.2, ← b2_150.2, show 6 - lv = 7 - (lv + 1) by omega] at a_150
              refine tz_cV (pc := 150) (ih _ _ _ _ (by omega) (by omega) (by omega) m_76 (q_76).2.1 (q_76).2.2.1 (by omega) (by omega) (by rw [k_150]; exact h0) a_150 (by omega)) vl_X2_96 dX2_commonPart_150 o_141 rfl rfl (Nat.le_of_ble_eq_true rfl) ⟨(show (4 + 1 * r9) + 1 ≤ 4 + 1 * (r9 + 1) by omega), (show 8 + (9 + 11) + 40 * ((4 + 1 * r9)) ≤ 40 * (4 + 1 * (r9 + 1)) by omega)⟩ rfl rfl (Nat.le_of_ble_eq_true rfl) (Nat.le_of_ble_eq_true rfl) (fun r9 J_150 hq9 => ?_)
              obtain ⟨z_150, rfl, hz_150, m_150, g_150, h_150⟩ := hq9
              have q_150 := GX.tr q_76 g_150
              have d_150 := q_150.1
              have e_150 := g_150.1
              refine tz_istore (pc := 153) (L2 := [_, _, _, _, _, _, _, _, _]) dX2_commonPart_153 (by decide) rfl ?_
              refine tz_aload_n (pc := 155) dX2_commonPart_155 rfl rfl ?_
              refine tz_fR (pc := 156) dX2_commonPart_156 fl_X2_28 r_141_0 ?_
              refine tz_aload_n (pc := 159) dX2_commonPart_159 rfl rfl ?_
              refine tz_fR (pc := 160) dX2_commonPart_160 fl_X2_28 r_141_0 ?_
              refine tz_fR (pc := 163) dX2_commonPart_163 fl_X2_42 r_6_1 ?_
              refine tz_iload_n (pc := 166) dX2_commonPart_166 rfl rfl ?_
              refine tz_aL (pc := 167) (z := s) (v := (J_150 7 s)) dX2_commonPart_167 a_7 rfl (by omega) rfl (fun r_167 => ?_)
              refine tz_iload (pc := 168) dX2_commonPart_168 rfl ?_
              refine tz_iload (pc := 170) dX2_commonPart_170 rfl ?_
              refine tz_iload (pc := 172) dX2_commonPart_172 rfl ?_
              refine tz_cV (pc := 174) (c_made hl n _ _ _ _ _ (by omega) (by omega) (by omega) (by omega) m_150 (q_150).2.1 (q_150).2.2.1 (by have := (q_150).2.1.ar (t := s) (by omega) (by have := (q_150).1; omega); omega) (ltA_of (by omega) (by omega) (by omega))) vl_X2_52 dX2_commonPart_174 o_6 rfl rfl (Nat.le_of_ble_eq_true rfl) ⟨(show 2 + 1 ≤ 4 + 1 * (r9 + 1) by omega), (show 8 + (11 + 11) + 40 * (2) ≤ 40 * (4 + 1 * (r9 + 1)) by omega)⟩ rfl rfl (Nat.le_of_ble_eq_true rfl) (Nat.le_of_ble_eq_true rfl) (fun r9 J_174 hq9 => ?_)
              obtain ⟨z_174, rfl, hz_174, p_174⟩ := hq9
              obtain ⟨m_174, g_174, h_174⟩ := GR.made p_174 (by omega)
              have q_174 : GX [] J_174 J m m_174 := GX.tr q_150 (GR.x g_174)
              exact tz_iret (pc := 177) (z := z_174) dX2_commonPart_177 rfl (Nat.le_of_ble_eq_true rfl) (Nat.le_of_ble_eq_true rfl) ⟨Nat.le_refl _, Nat.le_add_right _ _⟩ ⟨_, rfl, (by omega), ⟨m_174, q_174, h_174⟩⟩
            · refine tz_iconst (pc := 124) dX2_commonPart_124 ?_
              refine tz_goto (pc := 125) (tgt := 153) dX2_commonPart_125 (by decide) ?_
              refine tz_istore (pc := 153) (L2 := [_, _, _, _, _, _, _, _, _]) dX2_commonPart_153 (by decide) rfl ?_
              refine tz_aload_n (pc := 155) dX2_commonPart_155 rfl rfl ?_
              refine tz_fR (pc := 156) dX2_commonPart_156 fl_X2_28 r_141_0 ?_
              refine tz_aload_n (pc := 159) dX2_commonPart_159 rfl rfl ?_
              refine tz_fR (pc := 160) dX2_commonPart_160 fl_X2_28 r_141_0 ?_
              refine tz_fR (pc := 163) dX2_commonPart_163 fl_X2_42 r_6_1 ?_
              refine tz_iload_n (pc := 166) dX2_commonPart_166 rfl rfl ?_
              refine tz_aL (pc := 167) (z := s) (v := (J_76 7 s)) dX2_commonPart_167 a_7 rfl (by omega) rfl (fun r_167 => ?_)
              refine tz_iload (pc := 168) dX2_commonPart_168 rfl ?_
              refine tz_iload (pc := 170) dX2_commonPart_170 rfl ?_
              refine tz_iload (pc := 172) dX2_commonPart_172 rfl ?_
              refine tz_cV (pc := 174) (c_made hl n _ _ _ _ _ (by omega) (by omega) (by omega) (by omega) m_76 (q_76).2.1 (q_76).2.2.1 (by have := (q_76).2.1.ar (t := s) (by omega) (by have := (q_76).1; omega); omega) (ltA_of (by omega) (by omega) (by omega))) vl_X2_52 dX2_commonPart_174 o_6 rfl rfl (Nat.le_of_ble_eq_true rfl) ⟨(show 2 + 1 ≤ 4 + 1 * (r9 + 1) by omega), (show 8 + (11 + 11) + 40 * (2) ≤ 40 * (4 + 1 * (r9 + 1)) by omega)⟩ rfl rfl (Nat.le_of_ble_eq_true rfl) (Nat.le_of_ble_eq_true rfl) (fun r9 J_174 hq9 => ?_)
              obtain ⟨z_174, rfl, hz_174, p_174⟩ := hq9
              obtain ⟨m_174, g_174, h_174⟩ := GR.made p_174 (by omega)
              have q_174 : GX [] J_174 J m m_174 := GX.tr q_76 (GR.x g_174)
              exact tz_iret (pc := 177) (z := z_174) dX2_commonPart_177 rfl (Nat.le_of_ble_eq_true rfl) (Nat.le_of_ble_eq_true rfl) ⟨Nat.le_refl _, Nat.le_add_right _ _⟩ ⟨_, rfl, (by omega), ⟨m_174, q_174, h_174⟩⟩
        · refine tz_iconst (pc := 50) dX2_commonPart_50 ?_
          refine tz_goto (pc := 51) (tgt := 79) dX2_commonPart_51 (by decide) ?_
          refine tz_istore (pc := 79) (L2 := [_, _, _, _, _, _, _, _, _]) dX2_commonPart_79 (by decide) rfl ?_
          refine tz_iload (pc := 81) dX2_commonPart_81 rfl ?_
          refine tz_iconst (pc := 83) dX2_commonPart_83 ?_
          refine tz_icmp_ge (pc := 84) (tgt := 91) dX2_commonPart_84 (by decide) (by omega) (by decide) (fun h_84 => ?_) (fun h_84 => ?_)
          · refine tz_aload_n (pc := 91) dX2_commonPart_91 rfl rfl ?_
            refine tz_aload_n (pc := 92) dX2_commonPart_92 rfl rfl ?_
            refine tz_fR (pc := 93) dX2_commonPart_93 fl_X2_28 r_141_0 ?_
            refine tz_iload_n (pc := 96) dX2_commonPart_96 rfl rfl ?_
            refine tz_iconst (pc := 97) dX2_commonPart_97 ?_
            refine tz_cV (pc := 98) (c_arg hl n _ _ _ (by omega) (by decide) (by omega)) vl_X2_48 dX2_commonPart_98 o_6 rfl rfl (Nat.le_of_ble_eq_true rfl) ⟨(show 0 + 1 ≤ 4 + 1 * (r9 + 1) by omega), (show 8 + (3 + 11) + 40 * (0) ≤ 40 * (4 + 1 * (r9 + 1)) by omega)⟩ rfl rfl (Nat.le_of_ble_eq_true rfl) (Nat.le_of_ble_eq_true rfl) (fun r9 J_98 hq9 => ?_)
            obtain ⟨z_98, rfl, hz_98, rfl, rfl⟩ := hq9
            refine tz_aload_n (pc := 101) dX2_commonPart_101 rfl rfl ?_
            refine tz_fR (pc := 102) dX2_commonPart_102 fl_X2_28 r_141_0 ?_
            refine tz_iload_n (pc := 105) dX2_commonPart_105 rfl rfl ?_
            refine tz_iconst (pc := 106) dX2_commonPart_106 ?_
            refine tz_cV (pc := 107) (c_arg hl n _ _ _ (by omega) (by decide) (by omega)) vl_X2_48 dX2_commonPart_107 o_6 rfl rfl (Nat.le_of_ble_eq_true rfl) ⟨(show 0 + 1 ≤ 4 + 1 * (r9 + 1) by omega), (show 8 + (3 + 11) + 40 * (0) ≤ 40 * (4 + 1 * (r9 + 1)) by omega)⟩ rfl rfl (Nat.le_of_ble_eq_true rfl) (Nat.le_of_ble_eq_true rfl) (fun r9 J_107 hq9 => ?_)
            obtain ⟨z_107, rfl, hz_107, rfl, rfl⟩ := hq9
            refine tz_iload_n (pc := 110) dX2_commonPart_110 rfl rfl ?_
            refine tz_iconst (pc := 111) dX2_commonPart_111 ?_
            refine tz_iadd (pc := 112) (v := lv + 1) dX2_commonPart_112 rfl ?_
            have b_113 := GX.arg g0 C hs (i := 1) (by omega)
            have b2_113 := GX.arg g0 C ht (i := 1) (by omega)
            have c_113 := (g0).1
            have k_113 := (g0).2.2.2.2 141 rfl
            have a_113 := cpl.gx C g0 ⟨rfl, rfl, rfl⟩ (by omega) (by omega) (hn 1 (by omega) (by omega))
            rw [← b_113.2, ← b2_113.2, show 6 - lv = 7 - (lv + 1) by omega] at a_113
            refine tz_cV (pc := 113) (ih _ _ _ _ (by omega) (by omega) (by omega) m (g0).2.1 (g0).2.2.1 (by omega) (by omega) (by rw [k_113]; exact h0) a_113 (by omega)) vl_X2_96 dX2_commonPart_113 o_141 rfl rfl (Nat.le_of_ble_eq_true rfl) ⟨(show (4 + 1 * r9) + 1 ≤ 4 + 1 * (r9 + 1) by omega), (show 8 + (9 + 11) + 40 * ((4 + 1 * r9)) ≤ 40 * (4 + 1 * (r9 + 1)) by omega)⟩ rfl rfl (Nat.le_of_ble_eq_true rfl) (Nat.le_of_ble_eq_true rfl) (fun r9 J_113 hq9 => ?_)
            obtain ⟨z_113, rfl, hz_113, m_113, g_113, h_113⟩ := hq9
            have q_113 := GX.tr g0 g_113
            have d_113 := q_113.1
            have e_113 := g_113.1
            refine tz_istore (pc := 116) (L2 := [_, _, _, _, _, _, _, _, _]) dX2_commonPart_116 (by decide) rfl ?_
            refine tz_iload (pc := 118) dX2_commonPart_118 rfl ?_
            refine tz_iconst (pc := 120) dX2_commonPart_120 ?_
            refine tz_icmp_ge (pc := 121) (tgt := 128) dX2_commonPart_121 (by decide) (by omega) (by decide) (fun h_121 => ?_) (fun h_121 => ?_)
            · refine tz_aload_n (pc := 128) dX2_commonPart_128 rfl rfl ?_
              refine tz_aload_n (pc := 129) dX2_commonPart_129 rfl rfl ?_
              refine tz_fR (pc := 130) dX2_commonPart_130 fl_X2_28 r_141_0 ?_
              refine tz_iload_n (pc := 133) dX2_commonPart_133 rfl rfl ?_
              refine tz_iconst (pc := 134) dX2_commonPart_134 ?_
              refine tz_cV (pc := 135) (c_arg hl n _ _ _ (by omega) (by decide) (by omega)) vl_X2_48 dX2_commonPart_135 o_6 rfl rfl (Nat.le_of_ble_eq_true rfl) ⟨(show 0 + 1 ≤ 4 + 1 * (r9 + 1) by omega), (show 8 + (3 + 11) + 40 * (0) ≤ 40 * (4 + 1 * (r9 + 1)) by omega)⟩ rfl rfl (Nat.le_of_ble_eq_true rfl) (Nat.le_of_ble_eq_true rfl) (fun r9 J_135 hq9 => ?_)
              obtain ⟨z_135, rfl, hz_135, rfl, rfl⟩ := hq9
              refine tz_aload_n (pc := 138) dX2_commonPart_138 rfl rfl ?_
              refine tz_fR (pc := 139) dX2_commonPart_139 fl_X2_28 r_141_0 ?_
              refine tz_iload_n (pc := 142) dX2_commonPart_142 rfl rfl ?_
              refine tz_iconst (pc := 143) dX2_commonPart_143 ?_
              refine tz_cV (pc := 144) (c_arg hl n _ _ _ (by omega) (by decide) (by omega)) vl_X2_48 dX2_commonPart_144 o_6 rfl rfl (Nat.le_of_ble_eq_true rfl) ⟨(show 0 + 1 ≤ 4 + 1 * (r9 + 1) by omega), (show 8 + (3 + 11) + 40 * (0) ≤ 40 * (4 + 1 * (r9 + 1)) by omega)⟩ rfl rfl (Nat.le_of_ble_eq_true rfl) (Nat.le_of_ble_eq_true rfl) (fun r9 J_144 hq9 => ?_)
              obtain ⟨z_144, rfl, hz_144, rfl, rfl⟩ := hq9
              refine tz_iload_n (pc := 147) dX2_commonPart_147 rfl rfl ?_
              refine tz_iconst (pc := 148) dX2_commonPart_148 ?_
              refine tz_iadd (pc := 149) (v := lv + 1) dX2_commonPart_149 rfl ?_
              have b_150 := GX.arg q_113 C hs (i := 2) (by omega)
              have b2_150 := GX.arg q_113 C ht (i := 2) (by omega)
              have c_150 := (q_113).1
              have k_150 := (q_113).2.2.2.2 141 rfl
              have a_150 := cpl.gx C q_113 ⟨rfl, rfl, rfl⟩ (by omega) (by omega) (hn 2 (by omega) (by omega))
              rw [← b_150.2, ← b2_150.2, show 6 - lv = 7 - (lv + 1) by omega] at a_150
              refine tz_cV (pc := 150) (ih _ _ _ _ (by omega) (by omega) (by omega) m_113 (q_113).2.1 (q_113).2.2.1 (by omega) (by omega) (by rw [k_150]; exact h0) a_150 (by omega)) vl_X2_96 dX2_commonPart_150 o_141 rfl rfl (Nat.le_of_ble_eq_true rfl) ⟨(show (4 + 1 * r9) + 1 ≤ 4 + 1 * (r9 + 1) by omega), (show 8 + (9 + 11) + 40 * ((4 + 1 * r9)) ≤ 40 * (4 + 1 * (r9 + 1)) by omega)⟩ rfl rfl (Nat.le_of_ble_eq_true rfl) (Nat.le_of_ble_eq_true rfl) (fun r9 J_150 hq9 => ?_)
              obtain ⟨z_150, rfl, hz_150, m_150, g_150, h_150⟩ := hq9
              have q_150 := GX.tr q_113 g_150
              have d_150 := q_150.1
              have e_150 := g_150.1
              refine tz_istore (pc := 153) (L2 := [_, _, _, _, _, _, _, _, _]) dX2_commonPart_153 (by decide) rfl ?_
              refine tz_aload_n (pc := 155) dX2_commonPart_155 rfl rfl ?_
              refine tz_fR (pc := 156) dX2_commonPart_156 fl_X2_28 r_141_0 ?_
              refine tz_aload_n (pc := 159) dX2_commonPart_159 rfl rfl ?_
              refine tz_fR (pc := 160) dX2_commonPart_160 fl_X2_28 r_141_0 ?_
              refine tz_fR (pc := 163) dX2_commonPart_163 fl_X2_42 r_6_1 ?_
              refine tz_iload_n (pc := 166) dX2_commonPart_166 rfl rfl ?_
              refine tz_aL (pc := 167) (z := s) (v := (J_150 7 s)) dX2_commonPart_167 a_7 rfl (by omega) rfl (fun r_167 => ?_)
              refine tz_iload (pc := 168) dX2_commonPart_168 rfl ?_
              refine tz_iload (pc := 170) dX2_commonPart_170 rfl ?_
              refine tz_iload (pc := 172) dX2_commonPart_172 rfl ?_
              refine tz_cV (pc := 174) (c_made hl n _ _ _ _ _ (by omega) (by omega) (by omega) (by omega) m_150 (q_150).2.1 (q_150).2.2.1 (by have := (q_150).2.1.ar (t := s) (by omega) (by have := (q_150).1; omega); omega) (ltA_of (by omega) (by omega) (by omega))) vl_X2_52 dX2_commonPart_174 o_6 rfl rfl (Nat.le_of_ble_eq_true rfl) ⟨(show 2 + 1 ≤ 4 + 1 * (r9 + 1) by omega), (show 8 + (11 + 11) + 40 * (2) ≤ 40 * (4 + 1 * (r9 + 1)) by omega)⟩ rfl rfl (Nat.le_of_ble_eq_true rfl) (Nat.le_of_ble_eq_true rfl) (fun r9 J_174 hq9 => ?_)
              obtain ⟨z_174, rfl, hz_174, p_174⟩ := hq9
              obtain ⟨m_174, g_174, h_174⟩ := GR.made p_174 (by omega)
              have q_174 : GX [] J_174 J m m_174 := GX.tr q_150 (GR.x g_174)
              exact tz_iret (pc := 177) (z := z_174) dX2_commonPart_177 rfl (Nat.le_of_ble_eq_true rfl) (Nat.le_of_ble_eq_true rfl) ⟨Nat.le_refl _, Nat.le_add_right _ _⟩ ⟨_, rfl, (by omega), ⟨m_174, q_174, h_174⟩⟩
            · refine tz_iconst (pc := 124) dX2_commonPart_124 ?_
              refine tz_goto (pc := 125) (tgt := 153) dX2_commonPart_125 (by decide) ?_
              refine tz_istore (pc := 153) (L2 := [_, _, _, _, _, _, _, _, _]) dX2_commonPart_153 (by decide) rfl ?_
              refine tz_aload_n (pc := 155) dX2_commonPart_155 rfl rfl ?_
              refine tz_fR (pc := 156) dX2_commonPart_156 fl_X2_28 r_141_0 ?_
              refine tz_aload_n (pc := 159) dX2_commonPart_159 rfl rfl ?_
              refine tz_fR (pc := 160) dX2_commonPart_160 fl_X2_28 r_141_0 ?_
              refine tz_fR (pc := 163) dX2_commonPart_163 fl_X2_42 r_6_1 ?_
              refine tz_iload_n (pc := 166) dX2_commonPart_166 rfl rfl ?_
              refine tz_aL (pc := 167) (z := s) (v := (J_113 7 s)) dX2_commonPart_167 a_7 rfl (by omega) rfl (fun r_167 => ?_)
              refine tz_iload (pc := 168) dX2_commonPart_168 rfl ?_
              refine tz_iload (pc := 170) dX2_commonPart_170 rfl ?_
              refine tz_iload (pc := 172) dX2_commonPart_172 rfl ?_
              refine tz_cV (pc := 174) (c_made hl n _ _ _ _ _ (by omega) (by omega) (by omega) (by omega) m_113 (q_113).2.1 (q_113).2.2.1 (by have := (q_113).2.1.ar (t := s) (by omega) (by have := (q_113).1; omega); omega) (ltA_of (by omega) (by omega) (by omega))) vl_X2_52 dX2_commonPart_174 o_6 rfl rfl (Nat.le_of_ble_eq_true rfl) ⟨(show 2 + 1 ≤ 4 + 1 * (r9 + 1) by omega), (show 8 + (11 + 11) + 40 * (2) ≤ 40 * (4 + 1 * (r9 + 1)) by omega)⟩ rfl rfl (Nat.le_of_ble_eq_true rfl) (Nat.le_of_ble_eq_true rfl) (fun r9 J_174 hq9 => ?_)
              obtain ⟨z_174, rfl, hz_174, p_174⟩ := hq9
              obtain ⟨m_174, g_174, h_174⟩ := GR.made p_174 (by omega)
              have q_174 : GX [] J_174 J m m_174 := GX.tr q_113 (GR.x g_174)
              exact tz_iret (pc := 177) (z := z_174) dX2_commonPart_177 rfl (Nat.le_of_ble_eq_true rfl) (Nat.le_of_ble_eq_true rfl) ⟨Nat.le_refl _, Nat.le_add_right _ _⟩ ⟨_, rfl, (by omega), ⟨m_174, q_174, h_174⟩⟩
          · refine tz_iconst (pc := 87) dX2_commonPart_87 ?_
            refine tz_goto (pc := 88) (tgt := 116) dX2_commonPart_88 (by decide) ?_
            refine tz_istore (pc := 116) (L2 := [_, _, _, _, _, _, _, _, _]) dX2_commonPart_116 (by decide) rfl ?_
            refine tz_iload (pc := 118) dX2_commonPart_118 rfl ?_
            refine tz_iconst (pc := 120) dX2_commonPart_120 ?_
            refine tz_icmp_ge (pc := 121) (tgt := 128) dX2_commonPart_121 (by decide) (by omega) (by decide) (fun h_121 => ?_) (fun h_121 => ?_)
            · refine tz_aload_n (pc := 128) dX2_commonPart_128 rfl rfl ?_
              refine tz_aload_n (pc := 129) dX2_commonPart_129 rfl rfl ?_
              refine tz_fR (pc := 130) dX2_commonPart_130 fl_X2_28 r_141_0 ?_
              refine tz_iload_n (pc := 133) dX2_commonPart_133 rfl rfl ?_
              refine tz_iconst (pc := 134) dX2_commonPart_134 ?_
              refine tz_cV (pc := 135) (c_arg hl n _ _ _ (by omega) (by decide) (by omega)) vl_X2_48 dX2_commonPart_135 o_6 rfl rfl (Nat.le_of_ble_eq_true rfl) ⟨(show 0 + 1 ≤ 4 + 1 * (r9 + 1) by omega), (show 8 + (3 + 11) + 40 * (0) ≤ 40 * (4 + 1 * (r9 + 1)) by omega)⟩ rfl rfl (Nat.le_of_ble_eq_true rfl) (Nat.le_of_ble_eq_true rfl) (fun r9 J_135 hq9 => ?_)
              obtain ⟨z_135, rfl, hz_135, rfl, rfl⟩ := hq9
              refine tz_aload_n (pc := 138) dX2_commonPart_138 rfl rfl ?_
              refine tz_fR (pc := 139) dX2_commonPart_139 fl_X2_28 r_141_0 ?_
              refine tz_iload_n (pc := 142) dX2_commonPart_142 rfl rfl ?_
              refine tz_iconst (pc := 143) dX2_commonPart_143 ?_
              refine tz_cV (pc := 144) (c_arg hl n _ _ _ (by omega) (by decide) (by omega)) vl_X2_48 dX2_commonPart_144 o_6 rfl rfl (Nat.le_of_ble_eq_true rfl) ⟨(show 0 + 1 ≤ 4 + 1 * (r9 + 1) by omega), (show 8 + (3 + 11) + 40 * (0) ≤ 40 * (4 + 1 * (r9 + 1)) by omega)⟩ rfl rfl (Nat.le_of_ble_eq_true rfl) (Nat.le_of_ble_eq_true rfl) (fun r9 J_144 hq9 => ?_)
              obtain ⟨z_144, rfl, hz_144, rfl, rfl⟩ := hq9
              refine tz_iload_n (pc := 147) dX2_commonPart_147 rfl rfl ?_
              refine tz_iconst (pc := 148) dX2_commonPart_148 ?_
              refine tz_iadd (pc := 149) (v := lv + 1) dX2_commonPart_149 rfl ?_
              have b_150 := GX.arg g0 C hs (i := 2) (by omega)
              have b2_150 := GX.arg g0 C ht (i := 2) (by omega)
              have c_150 := (g0).1
              have k_150 := (g0).2.2.2.2 141 rfl
              have a_150 := cpl.gx C g0 ⟨rfl, rfl, rfl⟩ (by omega) (by omega) (hn 2 (by omega) (by omega))
              rw [← b_150.2, ← b2_150.2, show 6 - lv = 7 - (lv + 1) by omega] at a_150
              refine tz_cV (pc := 150) (ih _ _ _ _ (by omega) (by omega) (by omega) m (g0).2.1 (g0).2.2.1 (by omega) (by omega) (by rw [k_150]; exact h0) a_150 (by omega)) vl_X2_96 dX2_commonPart_150 o_141 rfl rfl (Nat.le_of_ble_eq_true rfl) ⟨(show (4 + 1 * r9) + 1 ≤ 4 + 1 * (r9 + 1) by omega), (show 8 + (9 + 11) + 40 * ((4 + 1 * r9)) ≤ 40 * (4 + 1 * (r9 + 1)) by omega)⟩ rfl rfl (Nat.le_of_ble_eq_true rfl) (Nat.le_of_ble_eq_true rfl) (fun r9 J_150 hq9 => ?_)
              obtain ⟨z_150, rfl, hz_150, m_150, g_150, h_150⟩ := hq9
              have q_150 := GX.tr g0 g_150
              have d_150 := q_150.1
              have e_150 := g_150.1
              refine tz_istore (pc := 153) (L2 := [_, _, _, _, _, _, _, _, _]) dX2_commonPart_153 (by decide) rfl ?_
              refine tz_aload_n (pc := 155) dX2_commonPart_155 rfl rfl ?_
              refine tz_fR (pc := 156) dX2_commonPart_156 fl_X2_28 r_141_0 ?_
              refine tz_aload_n (pc := 159) dX2_commonPart_159 rfl rfl ?_
              refine tz_fR (pc := 160) dX2_commonPart_160 fl_X2_28 r_141_0 ?_
              refine tz_fR (pc := 163) dX2_commonPart_163 fl_X2_42 r_6_1 ?_
              refine tz_iload_n (pc := 166) dX2_commonPart_166 rfl rfl ?_
              refine tz_aL (pc := 167) (z := s) (v := (J_150 7 s)) dX2_commonPart_167 a_7 rfl (by omega) rfl (fun r_167 => ?_)
              refine tz_iload (pc := 168) dX2_commonPart_168 rfl ?_
              refine tz_iload (pc := 170) dX2_commonPart_170 rfl ?_
              refine tz_iload (pc := 172) dX2_commonPart_172 rfl ?_
              refine tz_cV (pc := 174) (c_made hl n _ _ _ _ _ (by omega) (by omega) (by omega) (by omega) m_150 (q_150).2.1 (q_150).2.2.1 (by have := (q_150).2.1.ar (t := s) (by omega) (by have := (q_150).1; omega); omega) (ltA_of (by omega) (by omega) (by omega))) vl_X2_52 dX2_commonPart_174 o_6 rfl rfl (Nat.le_of_ble_eq_true rfl) ⟨(show 2 + 1 ≤ 4 + 1 * (r9 + 1) by omega), (show 8 + (11 + 11) + 40 * (2) ≤ 40 * (4 + 1 * (r9 + 1)) by omega)⟩ rfl rfl (Nat.le_of_ble_eq_true rfl) (Nat.le_of_ble_eq_true rfl) (fun r9 J_174 hq9 => ?_)
              obtain ⟨z_174, rfl, hz_174, p_174⟩ := hq9
              obtain ⟨m_174, g_174, h_174⟩ := GR.made p_174 (by omega)
              have q_174 : GX [] J_174 J m m_174 := GX.tr q_150 (GR.x g_174)
              exact tz_iret (pc := 177) (z := z_174) dX2_commonPart_177 rfl (Nat.le_of_ble_eq_true rfl) (Nat.le_of_ble_eq_true rfl) ⟨Nat.le_refl _, Nat.le_add_right _ _⟩ ⟨_, rfl, (by omega), ⟨m_174, q_174, h_174⟩⟩
            · refine tz_iconst (pc := 124) dX2_commonPart_124 ?_
              refine tz_goto (pc := 125) (tgt := 153) dX2_commonPart_125 (by decide) ?_
              refine tz_istore (pc := 153) (L2 := [_, _, _, _, _, _, _, _, _]) dX2_commonPart_153 (by decide) rfl ?_
              refine tz_aload_n (pc := 155) dX2_commonPart_155 rfl rfl ?_
              refine tz_fR (pc := 156) dX2_commonPart_156 fl_X2_28 r_141_0 ?_
              refine tz_aload_n (pc := 159) dX2_commonPart_159 rfl rfl ?_
              refine tz_fR (pc := 160) dX2_commonPart_160 fl_X2_28 r_141_0 ?_
              refine tz_fR (pc := 163) dX2_commonPart_163 fl_X2_42 r_6_1 ?_
              refine tz_iload_n (pc := 166) dX2_commonPart_166 rfl rfl ?_
              refine tz_aL (pc := 167) (z := s) (v := (J 7 s)) dX2_commonPart_167 a_7 rfl (by omega) rfl (fun r_167 => ?_)
              refine tz_iload (pc := 168) dX2_commonPart_168 rfl ?_
              refine tz_iload (pc := 170) dX2_commonPart_170 rfl ?_
              refine tz_iload (pc := 172) dX2_commonPart_172 rfl ?_
              refine tz_cV (pc := 174) (c_made hl n _ _ _ _ _ (by omega) (by omega) (by omega) (by omega) m (g0).2.1 (g0).2.2.1 (by have := (g0).2.1.ar (t := s) (by omega) (by have := (g0).1; omega); omega) (ltA_of (by omega) (by omega) (by omega))) vl_X2_52 dX2_commonPart_174 o_6 rfl rfl (Nat.le_of_ble_eq_true rfl) ⟨(show 2 + 1 ≤ 4 + 1 * (r9 + 1) by omega), (show 8 + (11 + 11) + 40 * (2) ≤ 40 * (4 + 1 * (r9 + 1)) by omega)⟩ rfl rfl (Nat.le_of_ble_eq_true rfl) (Nat.le_of_ble_eq_true rfl) (fun r9 J_174 hq9 => ?_)
              obtain ⟨z_174, rfl, hz_174, p_174⟩ := hq9
              obtain ⟨m_174, g_174, h_174⟩ := GR.made p_174 (by omega)
              have q_174 : GX [] J_174 J m m_174 := GX.tr g0 (GR.x g_174)
              exact tz_iret (pc := 177) (z := z_174) dX2_commonPart_177 rfl (Nat.le_of_ble_eq_true rfl) (Nat.le_of_ble_eq_true rfl) ⟨Nat.le_refl _, Nat.le_add_right _ _⟩ ⟨_, rfl, (by omega), ⟨m_174, q_174, h_174⟩⟩
      · refine tz_aload_n (pc := 23) dX2_commonPart_23 rfl rfl ?_
        refine tz_fR (pc := 24) dX2_commonPart_24 fl_X2_28 r_141_0 ?_
        refine tz_iload (pc := 27) dX2_commonPart_27 rfl ?_
        refine tz_cV (pc := 29) (c_varTerm hl n _ _ (by omega) m C hm (by omega)) vl_X2_99 dX2_commonPart_29 o_6 rfl rfl (Nat.le_of_ble_eq_true rfl) ⟨(show 3 + 1 ≤ 4 + 1 * (r9 + 1) by omega), (show 8 + (2 + 11) + 40 * (3) ≤ 40 * (4 + 1 * (r9 + 1)) by omega)⟩ rfl rfl (Nat.le_of_ble_eq_true rfl) (Nat.le_of_ble_eq_true rfl) (fun r9 J_29 hq9 => ?_)
        obtain ⟨z_29, rfl, hz_29, p_29⟩ := hq9
        obtain ⟨m_29, g_29, h_29⟩ := GR.made p_29 (by omega)
        have q_29 : GX [] J_29 J m m_29 := GR.x g_29
        exact tz_iret (pc := 32) (z := z_29) dX2_commonPart_32 rfl (Nat.le_of_ble_eq_true rfl) (Nat.le_of_ble_eq_true rfl) ⟨Nat.le_refl _, Nat.le_add_right _ _⟩ ⟨_, rfl, (by omega), ⟨m_29, q_29, h_29⟩⟩
    · refine tz_bipush (pc := 6) dX2_commonPart_6 (by decide) ?_
      exact tz_iret (pc := 8) (z := (-3)) dX2_commonPart_8 rfl (Nat.le_of_ble_eq_true rfl) (Nat.le_of_ble_eq_true rfl) ⟨Nat.le_refl _, Nat.le_add_right _ _⟩ ⟨_, rfl, (by decide), ⟨m, GX.rf C hm, Or.inl rfl⟩⟩

set_option maxHeartbeats 4000000 in
set_option maxRecDepth 100000 in
theorem c_commonOf {l : Launch} {G : tb_G} (hl : l.stackTraces = false) (n : Nat) (J : zJ) (s : Int) (t : Int) (hr_s : -2147483648 ≤ s ∧ s < 2147483648) (hr_t : -2147483648 ≤ t ∧ t < 2147483648) (m : Int) (C : CT J m) (hm : J 6 12 = m) (hs : 0 ≤ s ∧ s < m) (ht : 0 ≤ t ∧ t < m) (h0 : 0 ≤ J 141 4 ∧ J 141 4 ≤ 8) (hc : cpl J 6 s t) : tz_Ok l G M_X2_commonOf 12 0 0 [.ref 141, zi s, zi t] n J (zqi (fun z J' => ∃ m', GX [] J' J m m' ∧ (z = -3 ∨ (0 ≤ z ∧ z < m')))) zN := by
  refine tz_Ok.of hl (by decide +kernel) rfl (tb_c1 rfl) (Nat.le_of_ble_eq_true rfl) ?_
  show tz_At l G M_X2_commonOf (tb_rm 12 0 0) none (tb_ZM G 0 0 (zQ n 0 (zqi (fun z J' => ∃ m', GX [] J' J m m' ∧ (z = -3 ∨ (0 ≤ z ∧ z < m'))))) (zX n 0 zN)) 0 0 n J 0 [some (.ref 141), some (zi s), some (zi t)] []
  refine tz_aload_n (pc := 0) dX2_commonOf_0 rfl rfl ?_
  refine tz_iload_n (pc := 1) dX2_commonOf_1 rfl rfl ?_
  refine tz_iload_n (pc := 2) dX2_commonOf_2 rfl rfl ?_
  refine tz_iconst (pc := 3) dX2_commonOf_3 ?_
  refine tz_cV (pc := 4) (c_commonP hl n 7 _ _ _ 1 (by omega) (by omega) (by omega) m C hm hs ht h0 hc (by decide)) vl_X2_96 dX2_commonOf_4 o_141 rfl rfl (Nat.le_of_ble_eq_true rfl) ⟨(Nat.le_of_ble_eq_true rfl), (Nat.le_of_ble_eq_true rfl)⟩ rfl rfl (Nat.le_of_ble_eq_true rfl) (Nat.le_of_ble_eq_true rfl) (fun r9 J_4 hq9 => ?_)
  obtain ⟨z_4, rfl, hz_4, m1, g1, h1⟩ := hq9
  exact tz_iret (pc := 7) (z := z_4) dX2_commonOf_7 rfl (Nat.le_of_ble_eq_true rfl) (Nat.le_of_ble_eq_true rfl) ⟨Nat.le_refl _, Nat.le_add_right _ _⟩ ⟨_, rfl, (by omega), ⟨m1, g1, h1⟩⟩

