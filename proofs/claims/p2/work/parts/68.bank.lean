/-- the bank set aside -/
def SV (J1 J : zJ) : Prop := (J1 121 3 = J 1 3 ∧ (∀ k, 0 ≤ k → k < 10 → J1 123 k = J 3 k ∧ J1 124 k = J 4 k)) ∧ (J1 125 12 = J 6 12 ∧ (∀ t, 0 ≤ t → t < J 6 12 → J1 126 t = J 7 t ∧ J1 127 t = J 8 t ∧ J1 129 t = J 10 t ∧ J1 130 t = J 11 t ∧ J1 131 t = J 12 t ∧ J1 132 t = J 13 t ∧ J1 133 t = J 14 t ∧ J1 134 t = J 15 t) ∧ (∀ k, 0 ≤ k → k < J 6 12 * 3 → J1 128 k = J 9 k) ∧ (∀ b, 0 ≤ b → b < 256 → J1 135 b = J 16 b)) ∧ ∀ k, 0 ≤ k → k < 61 → J1 138 k = J 19 k
theorem SV.of {J2 J1 J : zJ} (h : SV J1 J) (e : ∀ c, 121 ≤ c ∧ c ≤ 138 → J2 c = J1 c) : SV J2 J := by
  unfold SV
  rw [e 121 (by omega), e 123 (by omega), e 124 (by omega), e 125 (by omega), e 126 (by omega), e 127 (by omega), e 128 (by omega), e 129 (by omega), e 130 (by omega), e 131 (by omega), e 132 (by omega), e 133 (by omega), e 134 (by omega), e 135 (by omega), e 138 (by omega)]
  exact h
def fsp (c : Nat) : Bool := decide (c < 121 ∨ 138 < c)
theorem z10 {f : Int → Int} {g : Int} {k n : Int} (h : 0 ≤ k ∧ k < n) : (if 0 ≤ k ∧ k < 0 + n then f (0 + (k - 0)) else g) = f k := z0t h
set_option maxHeartbeats 4000000 in
set_option maxRecDepth 100000 in
theorem c_setAside {l : Launch} {G : tb_G} (hl : l.stackTraces = false) (n : Nat) (J : zJ)    (h0 : 0 ≤ J 6 12 ∧ J 6 12 ≤ 400) : tz_Ok l G M_X11_setAside 2 0 0 [.ref 0] n J (zqv (fun J' => SV J' J ∧ zOf fsp J' J)) zN := by
  refine tz_Ok.of hl (by decide +kernel) rfl (tb_c1 rfl) (Nat.le_of_ble_eq_true rfl) ?_
  show tz_At l G M_X11_setAside (tb_rm 2 0 0) none (tb_ZM G 0 0 (zQ n 0 (zqv (fun J' => SV J' J ∧ zOf fsp J' J))) (zX n 0 zN)) 0 0 n J 0 [some (.ref 0)] []
  refine tz_aload_n (pc := 0) dX11_setAside_0 rfl rfl ?_
  refine tz_fR (pc := 1) dX11_setAside_1 fl_X11_36 r_0_3 ?_
  refine tz_aload_n (pc := 4) dX11_setAside_4 rfl rfl ?_
  refine tz_fR (pc := 5) dX11_setAside_5 fl_X11_10 r_0_0 ?_
  refine tz_cV (pc := 8) (c_syTake121 hl n _) vl_X11_151 dX11_setAside_8 o_121 rfl rfl (Nat.le_of_ble_eq_true rfl) ⟨(Nat.le_of_ble_eq_true rfl), (Nat.le_of_ble_eq_true rfl)⟩ rfl rfl (Nat.le_of_ble_eq_true rfl) (Nat.le_of_ble_eq_true rfl) (fun r9 J1 hq9 => ?_)
  obtain ⟨rfl, hj1⟩ := hq9
  have f1 : zOf (zbut [121, 122, 123, 124]) J1 J := by rw [← hj1]; exact zOf.up rfl (zOf.cp rfl (zOf.cp rfl (zOf.cp rfl zOf.rf)))
  have s1 : J1 121 3 = J 1 3 ∧ ∀ k, 0 ≤ k → k < 10 → J1 123 k = J 3 k ∧ J1 124 k = J 4 k := by rw [← hj1]; exact ⟨rfl, fun k a b => ⟨z10 ⟨a, b⟩, z10 ⟨a, b⟩⟩⟩
  refine tz_aload_n (pc := 11) dX11_setAside_11 rfl rfl ?_
  refine tz_fR (pc := 12) dX11_setAside_12 fl_X11_39 r_0_4 ?_
  refine tz_aload_n (pc := 15) dX11_setAside_15 rfl rfl ?_
  refine tz_fR (pc := 16) dX11_setAside_16 fl_X11_29 r_0_1 ?_
  refine tz_fR (pc := 19) dX11_setAside_19 fl_X11_49 r_5_0 ?_
  refine tz_cV (pc := 22) (c_teTake125_6 hl n _ (by rw [f1 6 rfl]; exact h0)) vl_X11_154 dX11_setAside_22 o_125 rfl rfl (Nat.le_of_ble_eq_true rfl) ⟨(Nat.le_of_ble_eq_true rfl), (Nat.le_of_ble_eq_true rfl)⟩ rfl rfl (Nat.le_of_ble_eq_true rfl) (Nat.le_of_ble_eq_true rfl) (fun r9 J2 hq9 => ?_)
  obtain ⟨rfl, hj2⟩ := hq9
  have t2 : TQ 125 6 J2 J1 := by rw [← hj2]; exact te_125_6
  refine tz_aload_n (pc := 25) dX11_setAside_25 rfl rfl ?_
  refine tz_fR (pc := 26) dX11_setAside_26 fl_X11_43 r_0_5 ?_
  refine tz_aload_n (pc := 29) dX11_setAside_29 rfl rfl ?_
  refine tz_fR (pc := 30) dX11_setAside_30 fl_X11_29 r_0_1 ?_
  refine tz_fR (pc := 33) dX11_setAside_33 fl_X11_156 r_5_1 ?_
  refine tz_cV (pc := 36) (c_leTake137_18 hl n _) vl_X11_159 dX11_setAside_36 o_137 rfl rfl (Nat.le_of_ble_eq_true rfl) ⟨(Nat.le_of_ble_eq_true rfl), (Nat.le_of_ble_eq_true rfl)⟩ rfl rfl (Nat.le_of_ble_eq_true rfl) (Nat.le_of_ble_eq_true rfl) (fun r9 J3 hq9 => ?_)
  obtain ⟨rfl, hj3⟩ := hq9
  have f3 : zOf (zbut [138]) J3 J2 := by rw [← hj3]; exact zOf.cp rfl zOf.rf
  have e3 : ∀ k, 0 ≤ k → k < 61 → J3 138 k = J2 19 k := by rw [← hj3]; exact fun k a b => z10 ⟨a, b⟩
  obtain ⟨t21, t22, t23, t24, t25⟩ := t2
  simp only [f1 6 rfl] at t21 t22 t23
  exact tz_vret (pc := 39) dX11_setAside_39 rfl (Nat.le_of_ble_eq_true rfl) (Nat.le_of_ble_eq_true rfl) ⟨Nat.le_refl _, Nat.le_add_right _ _⟩ ⟨rfl, ⟨⟨⟨by rw [f3 121 rfl, t25 121 rfl]; exact s1.1, fun k a b => by rw [f3 123 rfl, t25 123 rfl, f3 124 rfl, t25 124 rfl]; exact s1.2 k a b⟩, ⟨by rw [f3 125 rfl]; exact t21, fun t a b => by have q := t22 t a b; rw [f1 (6 + 1) rfl, f1 (6 + 2) rfl, f1 (6 + 4) rfl, f1 (6 + 5) rfl, f1 (6 + 6) rfl, f1 (6 + 7) rfl, f1 (6 + 8) rfl, f1 (6 + 9) rfl] at q; rw [f3 126 rfl, f3 127 rfl, f3 129 rfl, f3 130 rfl, f3 131 rfl, f3 132 rfl, f3 133 rfl, f3 134 rfl]; exact q, fun k a b => by have q := t23 k a b; rw [f1 (6 + 3) rfl] at q; rw [f3 128 rfl]; exact q, fun x a b => by have q := t24 x a b; rw [f1 (6 + 10) rfl] at q; rw [f3 135 rfl]; exact q⟩, fun k a b => by rw [e3 k a b, t25 19 rfl, f1 19 rfl]⟩, fun c hc => by have hc9 := of_decide_eq_true hc; rw [f3 c (by simp [zbut]; omega), t25 c (decide_eq_true (by omega)), f1 c (by simp [zbut]; omega)]⟩⟩

set_option maxHeartbeats 4000000 in
set_option maxRecDepth 100000 in
theorem c_startAnew {l : Launch} {G : tb_G} (hl : l.stackTraces = false) (n : Nat) (J : zJ)     : tz_Ok l G M_X11_startAnew 3 0 0 [.ref 0] n J (zqv (fun J' => (CT J' 0 ∧ J' 6 12 = 0 ∧ LI (J' 19) 0) ∧ zOf (zbut [1, 6, 16, 19]) J' J)) zN := by
  refine tz_Ok.of hl (by decide +kernel) rfl (tb_c1 rfl) (Nat.le_of_ble_eq_true rfl) ?_
  show tz_At l G M_X11_startAnew (tb_rm 3 0 0) none (tb_ZM G 0 0 (zQ n 0 (zqv (fun J' => (CT J' 0 ∧ J' 6 12 = 0 ∧ LI (J' 19) 0) ∧ zOf (zbut [1, 6, 16, 19]) J' J))) (zX n 0 zN)) 0 0 n J 0 [some (.ref 0)] []
  refine tz_aload_n (pc := 0) dX11_startAnew_0 rfl rfl ?_
  refine tz_fR (pc := 1) dX11_startAnew_1 fl_X11_10 r_0_0 ?_
  refine tz_cV (pc := 4) (c_syEmpty hl n _) vl_X11_162 dX11_startAnew_4 o_1 rfl rfl (Nat.le_of_ble_eq_true rfl) ⟨(Nat.le_of_ble_eq_true rfl), (Nat.le_of_ble_eq_true rfl)⟩ rfl rfl (Nat.le_of_ble_eq_true rfl) (Nat.le_of_ble_eq_true rfl) (fun r9 J_4 hq9 => ?_)
  obtain ⟨rfl, rfl⟩ := hq9
  refine tz_aload_n (pc := 7) dX11_startAnew_7 rfl rfl ?_
  refine tz_fR (pc := 8) dX11_startAnew_8 fl_X11_29 r_0_1 ?_
  refine tz_fR (pc := 11) dX11_startAnew_11 fl_X11_49 r_5_0 ?_
  refine tz_cV (pc := 14) (c_teEmpty hl n _) vl_X11_165 dX11_startAnew_14 o_6 rfl rfl (Nat.le_of_ble_eq_true rfl) ⟨(Nat.le_of_ble_eq_true rfl), (Nat.le_of_ble_eq_true rfl)⟩ rfl rfl (Nat.le_of_ble_eq_true rfl) (Nat.le_of_ble_eq_true rfl) (fun r9 J_14 hq9 => ?_)
  obtain ⟨rfl, rfl⟩ := hq9
  refine tz_aload_n (pc := 17) dX11_startAnew_17 rfl rfl ?_
  refine tz_fR (pc := 18) dX11_startAnew_18 fl_X11_29 r_0_1 ?_
  refine tz_fR (pc := 21) dX11_startAnew_21 fl_X11_156 r_5_1 ?_
  refine tz_cV (pc := 24) (c_leEmpty hl n _) vl_X11_166 dX11_startAnew_24 o_18 rfl rfl (Nat.le_of_ble_eq_true rfl) ⟨(Nat.le_of_ble_eq_true rfl), (Nat.le_of_ble_eq_true rfl)⟩ rfl rfl (Nat.le_of_ble_eq_true rfl) (Nat.le_of_ble_eq_true rfl) (fun r9 J1 hq9 => ?_)
  obtain ⟨rfl, f1, e1⟩ := hq9
  exact tz_vret (pc := 27) dX11_startAnew_27 rfl (Nat.le_of_ble_eq_true rfl) (Nat.le_of_ble_eq_true rfl) ⟨Nat.le_refl _, Nat.le_add_right _ _⟩ ⟨rfl, ⟨⟨CT.none ⟨by rw [f1 1 rfl]; exact ⟨Int.le_refl 0, by show (0 : Int) ≤ 10; decide⟩, fun k a b => absurd b (by rw [f1 1 rfl]; show ¬ k < 0; omega)⟩ (fun k a b => absurd b (by rw [f1 1 rfl]; show ¬ k < 0; omega)) (fun b x y => by rw [f1 16 rfl]; exact zfl_in y), by rw [f1 6 rfl]; rfl, LI.new (Int.le_refl 0) e1⟩, (f1.mono (fun c hc => by simp [zbut] at hc ⊢; omega)).tr (zOf.fl rfl (zOf.up rfl (zOf.up rfl zOf.rf)))⟩⟩

/-- what was set aside is back -/
def BK (J1 J : zJ) : Prop := (J1 1 3 = J 1 3 ∧ (∀ k, 0 ≤ k → k < 10 → J1 3 k = J 3 k ∧ J1 4 k = J 4 k)) ∧ (J1 6 12 = J 6 12 ∧ zSU J1 J (J 6 12) ∧ (∀ b, 0 ≤ b → b < 256 → J1 16 b = J 16 b)) ∧ ∀ k, 0 ≤ k → k < 61 → J1 19 k = J 19 k
set_option maxHeartbeats 4000000 in
set_option maxRecDepth 100000 in
theorem c_takeBack0 {l : Launch} {G : tb_G} (hl : l.stackTraces = false) (n : Nat) (J : zJ)   (J0 : zJ) (hs : SV J J0) (h0 : 0 ≤ J0 6 12 ∧ J0 6 12 ≤ 400) : tz_Ok l G M_X11_takeBack 2 0 0 [.ref 0] n J (zqv (fun J' => BK J' J0 ∧ zOf (zbut [1, 2, 3, 4, 6, 7, 8, 9, 10, 11, 12, 13, 14, 15, 16, 19]) J' J)) zN := by
  refine tz_Ok.of hl (by decide +kernel) rfl (tb_c1 rfl) (Nat.le_of_ble_eq_true rfl) ?_
  show tz_At l G M_X11_takeBack (tb_rm 2 0 0) none (tb_ZM G 0 0 (zQ n 0 (zqv (fun J' => BK J' J0 ∧ zOf (zbut [1, 2, 3, 4, 6, 7, 8, 9, 10, 11, 12, 13, 14, 15, 16, 19]) J' J))) (zX n 0 zN)) 0 0 n J 0 [some (.ref 0)] []
  obtain ⟨⟨s1, s2⟩, ⟨s3, s4, s5, s6⟩, s7⟩ := hs
  refine tz_aload_n (pc := 0) dX11_takeBack_0 rfl rfl ?_
  refine tz_fR (pc := 1) dX11_takeBack_1 fl_X11_10 r_0_0 ?_
  refine tz_aload_n (pc := 4) dX11_takeBack_4 rfl rfl ?_
  refine tz_fR (pc := 5) dX11_takeBack_5 fl_X11_36 r_0_3 ?_
  refine tz_cV (pc := 8) (c_syTake1 hl n _) vl_X11_151 dX11_takeBack_8 o_1 rfl rfl (Nat.le_of_ble_eq_true rfl) ⟨(Nat.le_of_ble_eq_true rfl), (Nat.le_of_ble_eq_true rfl)⟩ rfl rfl (Nat.le_of_ble_eq_true rfl) (Nat.le_of_ble_eq_true rfl) (fun r9 J1 hq9 => ?_)
  obtain ⟨rfl, hj1⟩ := hq9
  have f1 : zOf (zbut [1, 2, 3, 4]) J1 J := by rw [← hj1]; exact zOf.up rfl (zOf.cp rfl (zOf.cp rfl (zOf.cp rfl zOf.rf)))
  have u1 : J1 1 3 = J 121 3 ∧ ∀ k, 0 ≤ k → k < 10 → J1 3 k = J 123 k ∧ J1 4 k = J 124 k := by rw [← hj1]; exact ⟨rfl, fun k a b => ⟨z10 ⟨a, b⟩, z10 ⟨a, b⟩⟩⟩
  refine tz_aload_n (pc := 11) dX11_takeBack_11 rfl rfl ?_
  refine tz_fR (pc := 12) dX11_takeBack_12 fl_X11_29 r_0_1 ?_
  refine tz_fR (pc := 15) dX11_takeBack_15 fl_X11_49 r_5_0 ?_
  refine tz_aload_n (pc := 18) dX11_takeBack_18 rfl rfl ?_
  refine tz_fR (pc := 19) dX11_takeBack_19 fl_X11_39 r_0_4 ?_
  refine tz_cV (pc := 22) (c_teTake6_125 hl n _ (by rw [f1 125 rfl, s3]; exact h0)) vl_X11_154 dX11_takeBack_22 o_6 rfl rfl (Nat.le_of_ble_eq_true rfl) ⟨(Nat.le_of_ble_eq_true rfl), (Nat.le_of_ble_eq_true rfl)⟩ rfl rfl (Nat.le_of_ble_eq_true rfl) (Nat.le_of_ble_eq_true rfl) (fun r9 J2 hq9 => ?_)
  obtain ⟨rfl, hj2⟩ := hq9
  have t2 : TQ 6 125 J2 J1 := by rw [← hj2]; exact te_6_125
  refine tz_aload_n (pc := 25) dX11_takeBack_25 rfl rfl ?_
  refine tz_fR (pc := 26) dX11_takeBack_26 fl_X11_29 r_0_1 ?_
  refine tz_fR (pc := 29) dX11_takeBack_29 fl_X11_156 r_5_1 ?_
  refine tz_aload_n (pc := 32) dX11_takeBack_32 rfl rfl ?_
  refine tz_fR (pc := 33) dX11_takeBack_33 fl_X11_43 r_0_5 ?_
  refine tz_cV (pc := 36) (c_leTake18_137 hl n _) vl_X11_159 dX11_takeBack_36 o_18 rfl rfl (Nat.le_of_ble_eq_true rfl) ⟨(Nat.le_of_ble_eq_true rfl), (Nat.le_of_ble_eq_true rfl)⟩ rfl rfl (Nat.le_of_ble_eq_true rfl) (Nat.le_of_ble_eq_true rfl) (fun r9 J3 hq9 => ?_)
  obtain ⟨rfl, hj3⟩ := hq9
  have f3 : zOf (zbut [19]) J3 J2 := by rw [← hj3]; exact zOf.cp rfl zOf.rf
  have e3 : ∀ k, 0 ≤ k → k < 61 → J3 19 k = J2 138 k := by rw [← hj3]; exact fun k a b => z10 ⟨a, b⟩
  obtain ⟨t21, t22, t23, t24, t25⟩ := t2
  simp only [f1 125 rfl, s3] at t21 t22 t23
  exact tz_vret (pc := 39) dX11_takeBack_39 rfl (Nat.le_of_ble_eq_true rfl) (Nat.le_of_ble_eq_true rfl) ⟨Nat.le_refl _, Nat.le_add_right _ _⟩ ⟨rfl, ⟨⟨⟨by rw [f3 1 rfl, t25 1 rfl, u1.1]; exact s1, fun k a b => by rw [f3 3 rfl, t25 3 rfl, f3 4 rfl, t25 4 rfl, (u1.2 k a b).1, (u1.2 k a b).2]; exact s2 k a b⟩, ⟨by rw [f3 6 rfl]; exact t21, ⟨fun t a b => by have q := t22 t a b; rw [f1 (125 + 1) rfl, f1 (125 + 2) rfl, f1 (125 + 4) rfl, f1 (125 + 5) rfl, f1 (125 + 6) rfl, f1 (125 + 7) rfl, f1 (125 + 8) rfl, f1 (125 + 9) rfl] at q; have p := s4 t a b; rw [f3 7 rfl, f3 8 rfl, f3 10 rfl, f3 11 rfl, f3 12 rfl, f3 13 rfl, f3 14 rfl, f3 15 rfl]; exact ⟨q.1.trans p.1, q.2.1.trans p.2.1, q.2.2.1.trans p.2.2.1, q.2.2.2.1.trans p.2.2.2.1, q.2.2.2.2.1.trans p.2.2.2.2.1, q.2.2.2.2.2.1.trans p.2.2.2.2.2.1, q.2.2.2.2.2.2.1.trans p.2.2.2.2.2.2.1, q.2.2.2.2.2.2.2.trans p.2.2.2.2.2.2.2⟩, fun k a b => by have q := t23 k a b; rw [f1 (125 + 3) rfl] at q; rw [f3 9 rfl]; exact q.trans (s5 k a b)⟩, fun x a b => by have q := t24 x a b; rw [f1 (125 + 10) rfl] at q; rw [f3 16 rfl]; exact q.trans (s6 x a b)⟩, fun k a b => by rw [e3 k a b, t25 138 rfl, f1 138 rfl]; exact s7 k a b⟩, fun c hc => by simp [zbut] at hc; rw [f3 c (by simp [zbut]; omega), t25 c (decide_eq_true (by omega)), f1 c (by simp [zbut]; omega)]⟩⟩

set_option maxHeartbeats 4000000 in
set_option maxRecDepth 100000 in
theorem c_fplace {l : Launch} {G : tb_G} (hl : l.stackTraces = false) (n : Nat) (J : zJ)     : tz_Ok l G M_X5_faultPlace 0 0 0 [.ref 163] n J (zqi (fun z J' => J = J')) zN := by
  refine tz_Ok.of hl (by decide +kernel) rfl (tb_c1 rfl) (Nat.le_of_ble_eq_true rfl) ?_
  show tz_At l G M_X5_faultPlace (tb_rm 0 0 0) none (tb_ZM G 0 0 (zQ n 0 (zqi (fun z J' => J = J'))) (zX n 0 zN)) 0 0 n J 0 [some (.ref 163)] []
  refine tz_aload_n (pc := 0) dX5_faultPlace_0 rfl rfl ?_
  refine tz_fI (pc := 1) (kz := 9) (v := (J 163 9)) dX5_faultPlace_1 fl_X5_27 i_163_9 rfl rfl (fun r_1 => ?_)
  exact tz_iret (pc := 4) (z := (J 163 9)) dX5_faultPlace_4 rfl (Nat.le_of_ble_eq_true rfl) (Nat.le_of_ble_eq_true rfl) ⟨Nat.le_refl _, Nat.le_add_right _ _⟩ ⟨_, rfl, (by omega), rfl⟩

/-- after a text that is none -/
theorem CI.bk {J' J : zJ} {m : Int} (h : CI J m) (b : BK J' J) (ht : 0 ≤ J' 0 13 ∧ J' 0 13 ≤ 700) (h15 : J' 0 15 = J 0 15) (f : ∀ c, c = 5 ∨ (20 ≤ c ∧ c ≤ 120 ∧ ¬ c = 62) ∨ c = 145 ∨ c = 146 → J' c = J c) : CI J' m := by
  obtain ⟨⟨b1, b2⟩, ⟨b3, b4, b5⟩, b6⟩ := b
  have hm := h.1.1.2.1
  have hb := h.1.1.1.told
  rw [hm] at b4
  refine ⟨⟨⟨h.1.1.1.su3 b1 (fun k a c => b2 k a (by omega)) b5 b4, b3.trans hm, h.1.1.2.2.c61 b6⟩, h.1.2.1.of (f 145 (by omega)) (f 146 (by omega)), ⟨ht, ?_⟩⟩, h.2.of (Int.le_refl _) (congrFun (f 5 (by omega)) 5) (congrFun (f 5 (by omega)) 6) (fun i a c => f _ (by unfold zU; omega))⟩
  rw [h15]
  refine h.1.2.2.2.imp id (fun q => ⟨q.1, ?_⟩)
  obtain ⟨mk, hk⟩ := q.2
  refine ⟨mk, ⟨⟨hk.1.1.su3 b1 (fun k a c => b2 k a (Int.lt_of_lt_of_le c hb.1.2)) (fun x _ _ => congrFun (f 74 (by omega)) x) ⟨fun t _ _ => ⟨congrFun (f 65 (by omega)) t, congrFun (f 66 (by omega)) t, congrFun (f 68 (by omega)) t, congrFun (f 69 (by omega)) t, congrFun (f 70 (by omega)) t, congrFun (f 71 (by omega)) t, congrFun (f 72 (by omega)) t, congrFun (f 73 (by omega)) t⟩, fun k _ _ => congrFun (f 67 (by omega)) k⟩, by rw [f 64 (by omega)]; exact hk.1.2⟩, by rw [f 77 (by omega)]; exact hk.2.1, hk.2.2.of (Int.le_refl _) (congrFun (f 63 (by omega)) 5) (congrFun (f 63 (by omega)) 6) (fun i a c => f _ (by unfold zV; omega))⟩⟩
theorem CI.new {J' J2 J : zJ} {m m' : Int} (h : CI J m) (hC : CT J' m') (hm : J' 6 12 = m') (hL : LI (J' 19) m') (hR : RU J') (h13 : J' 0 13 = 0) (h15 : J' 0 15 = 0) (h5 : J' 5 5 = 0) (h6 : J' 5 6 = 0) : CI J' m' := ⟨⟨⟨hC, hm, hL⟩, hR, ⟨by omega, Or.inl h15⟩⟩, ⟨by omega, fun k a b => by omega⟩⟩
set_option maxHeartbeats 4000000 in
set_option maxRecDepth 100000 in
theorem t_bank {l : Launch} {G : tb_G} (hl : l.stackTraces = false) (n : Nat) (J : zJ) (x : Int) (hr_x : -2147483648 ≤ x ∧ x < 2147483648) (m : Int) (hnb : n ≤ tb_sc) (hI : CI J m) (h9 : J 145 10 < 1000000000) : tz_Ok l G M_X11_bank 34 1 6 [.ref 0, zi x] n J (zqi (fun z J' => (∃ m', CI J' m') ∧ J' 145 10 ≤ J 145 10 + 24000 ∧ (J' 0 13 = 0 ∧ 0 ≤ x ∧ x ≤ J 0 13) ∧ zOf fou J' J)) (fun E J' => E = "java/lang/IllegalArgumentException" ∧ J = J' ∧ ¬ (0 ≤ x ∧ x ≤ J 0 13)) := by
  refine tz_Ok.of hl (by decide +kernel) rfl (tb_c1 rfl) (Nat.le_of_ble_eq_true rfl) ?_
  show tz_At l G M_X11_bank (tb_rm 34 1 6) none (tb_ZM G 1 6 (zQ n 1 (zqi (fun z J' => (∃ m', CI J' m') ∧ J' 145 10 ≤ J 145 10 + 24000 ∧ (J' 0 13 = 0 ∧ 0 ≤ x ∧ x ≤ J 0 13) ∧ zOf fou J' J))) (zX n 1 (fun E J' => E = "java/lang/IllegalArgumentException" ∧ J = J' ∧ ¬ (0 ≤ x ∧ x ≤ J 0 13)))) 0 0 n J 0 [some (.ref 0), some (zi x), none] []
  have hC := hI.1.1.1
  have hm := hI.1.1.2.1
  have hL := hI.1.1.2.2
  have hb := hC.told
  have htp := hI.1.2.2.1
  refine tz_iload_n (pc := 0) dX11_bank_0 rfl rfl ?_
  refine tz_if_lt (pc := 1) (tgt := 12) dX11_bank_1 (by decide) (by omega) (fun h_1 => ?_) (fun h_1 => ?_)
  · exact tz_throw (pc := 12) (text := "the tape has not so many bytes") th_X11_122_126 (by decide +kernel) rfl dX11_bank_12 dX11_bank_15 dX11_bank_16 dX11_bank_18 dX11_bank_21 (Nat.le_of_ble_eq_true rfl) (Nat.le_of_ble_eq_true rfl) (Nat.le_of_ble_eq_true rfl) (Nat.le_of_ble_eq_true rfl) (Nat.le_of_ble_eq_true rfl) (Nat.le_of_ble_eq_true rfl) ⟨Nat.le_refl _, Nat.le_add_right _ _⟩ ⟨rfl, rfl, by omega⟩
  · refine tz_iload_n (pc := 4) dX11_bank_4 rfl rfl ?_
    refine tz_aload_n (pc := 5) dX11_bank_5 rfl rfl ?_
    refine tz_fI (pc := 6) (kz := 13) (v := (J 0 13)) dX11_bank_6 fl_X11_107 i_0_13 rfl rfl (fun r_6 => ?_)
    refine tz_icmp_le (pc := 9) (tgt := 22) dX11_bank_9 (by decide) (by omega) (by omega) (fun h_9 => ?_) (fun h_9 => ?_)
    · refine tz_aload_n (pc := 22) dX11_bank_22 rfl rfl ?_
      refine tz_iconst (pc := 23) dX11_bank_23 ?_
      refine tz_pI (pc := 24) (kz := 13) dX11_bank_24 fl_X11_107 i_0_13 rfl rfl (by decide) ?_
      refine tz_aload_n (pc := 27) dX11_bank_27 rfl rfl ?_
      refine tz_cV (pc := 28) (c_setAside hl n _ (by rw [zup_nc (by decide), hm]; exact hb.2)) vl_X11_129 dX11_bank_28 o_0 rfl rfl (Nat.le_of_ble_eq_true rfl) ⟨(Nat.le_of_ble_eq_true rfl), (Nat.le_of_ble_eq_true rfl)⟩ rfl rfl (Nat.le_of_ble_eq_true rfl) (Nat.le_of_ble_eq_true rfl) (fun r9 J1 hq9 => ?_)
      obtain ⟨rfl, p1, p2⟩ := hq9
      have p3 : SV J1 J := p1
      refine tz_aload_n (pc := 31) dX11_bank_31 rfl rfl ?_
      refine tz_cV (pc := 32) (c_startAnew hl n _) vl_X11_132 dX11_bank_32 o_0 rfl rfl (Nat.le_of_ble_eq_true rfl) ⟨(Nat.le_of_ble_eq_true rfl), (Nat.le_of_ble_eq_true rfl)⟩ rfl rfl (Nat.le_of_ble_eq_true rfl) (Nat.le_of_ble_eq_true rfl) (fun r9 J2 hq9 => ?_)
      obtain ⟨rfl, n1, n2⟩ := hq9
      have p4 : SV J2 J := p3.of (fun c hc => n2 c (by simp [zbut]; omega))
      refine tz_aload_n (pc := 35) dX11_bank_35 rfl rfl ?_
      refine tz_fR (pc := 36) dX11_bank_36 fl_X11_103 r_0_11 ?_
      refine tz_iload_n (pc := 39) dX11_bank_39 rfl rfl ?_
      refine tz_cV (pc := 40) (c_readBank hl n _ _ (by omega) 0 hnb n1.1 n1.2.1 n1.2.2 (by omega)) vl_X11_135 dX11_bank_40 o_163 rfl rfl (Nat.le_of_ble_eq_true rfl) ⟨(Nat.le_of_ble_eq_true rfl), (Nat.le_of_ble_eq_true rfl)⟩ rfl rfl (Nat.le_of_ble_eq_true rfl) (Nat.le_of_ble_eq_true rfl) (fun r9 J3 hq9 => ?_)
      obtain ⟨zf, rfl, hz_40, m3, r1, -⟩ := hq9
      have p5 : SV J3 J := p4.of (fun c hc => r1.2 c (by simp [zbut]; omega))
      refine tz_istore_n (pc := 43) (L2 := [_, _, _]) dX11_bank_43 rfl (by decide) rfl ?_
      refine tz_iload_n (pc := 44) dX11_bank_44 rfl rfl ?_
      refine tz_if_eq (pc := 45) (tgt := 78) dX11_bank_45 (by decide) (by omega) (fun h_45 => ?_) (fun h_45 => ?_)
      · refine tz_aload_n (pc := 78) dX11_bank_78 rfl rfl ?_
        refine tz_fR (pc := 79) dX11_bank_79 fl_X11_29 r_0_1 ?_
        refine tz_cV (pc := 82) (c_forget hl n _) vl_X11_148 dX11_bank_82 o_5 rfl rfl (Nat.le_of_ble_eq_true rfl) ⟨(Nat.le_of_ble_eq_true rfl), (Nat.le_of_ble_eq_true rfl)⟩ rfl rfl (Nat.le_of_ble_eq_true rfl) (Nat.le_of_ble_eq_true rfl) (fun r9 J_82 hq9 => ?_)
        obtain ⟨rfl, rfl⟩ := hq9
        refine tz_aload_n (pc := 85) dX11_bank_85 rfl rfl ?_
        refine tz_iconst (pc := 86) dX11_bank_86 ?_
        refine tz_pZ (pc := 87) (kz := 15) dX11_bank_87 fl_X11_114 i_0_15 rfl rfl (Or.inl rfl) ?_
        refine tz_aload_n (pc := 90) dX11_bank_90 rfl rfl ?_
        refine tz_iconst (pc := 91) dX11_bank_91 ?_
        refine tz_pI (pc := 92) (kz := 14) dX11_bank_92 fl_X11_111 i_0_14 rfl rfl (by decide) ?_
        refine tz_iconst (pc := 95) dX11_bank_95 ?_
        have ff : ∀ c, (c = 145 ∨ c = 146 ∨ 164 ≤ c) → J3 c = J c := fun c hc => by rw [r1.2 c (by simp [zbut]; omega), n2 c (by simp [zbut]; omega), p2 c (decide_eq_true (by omega)), zup_nc (by omega)]
        have e0 : ∀ k, J3 0 k = zup J 0 13 0 0 k := fun k => by rw [r1.2 0 rfl, n2 0 rfl, p2 0 rfl]
        exact tz_iret (pc := 96) (z := 0) dX11_bank_96 rfl (Nat.le_of_ble_eq_true rfl) (Nat.le_of_ble_eq_true rfl) ⟨Nat.le_refl _, Nat.le_add_right _ _⟩ ⟨_, rfl, (by decide), ⟨⟨m3, CI.new (J2 := J) hI (r1.1.1.of (fun c hc => by rw [zup_nc (by omega), zup_nc (by omega), zup_nc (by omega), zup_nc (by omega)])) r1.1.2.1 r1.1.2.2.1 (hI.1.2.1.of (by rw [zup_nc (by decide), zup_nc (by decide), zup_nc (by decide), zup_nc (by decide)]; exact ff 145 (by omega)) (by rw [zup_nc (by decide), zup_nc (by decide), zup_nc (by decide), zup_nc (by decide)]; exact ff 146 (by omega))) (by rw [zup_ne (by decide), zup_ne (by decide), zup_nc (by decide), zup_nc (by decide), e0, zup_at]) (by rw [zup_ne (by decide), zup_at]) rfl rfl⟩, by rw [zup_nc (by decide), zup_nc (by decide), zup_nc (by decide), zup_nc (by decide), ff 145 (by omega)]; omega, ⟨by rw [zup_ne (by decide), zup_ne (by decide), zup_nc (by decide), zup_nc (by decide), e0, zup_at], by omega⟩, fun c hc => by have hc9 := of_decide_eq_true hc; rw [zup_nc (by omega), zup_nc (by omega), zup_nc (by omega), zup_nc (by omega)]; exact ff c (by omega)⟩⟩
      · refine tz_aload_n (pc := 48) dX11_bank_48 rfl rfl ?_
        refine tz_cV (pc := 49) (c_takeBack0 hl n _ J p5 (by rw [hm]; exact hb.2)) vl_X11_139 dX11_bank_49 o_0 rfl rfl (Nat.le_of_ble_eq_true rfl) ⟨(Nat.le_of_ble_eq_true rfl), (Nat.le_of_ble_eq_true rfl)⟩ rfl rfl (Nat.le_of_ble_eq_true rfl) (Nat.le_of_ble_eq_true rfl) (fun r9 J4 hq9 => ?_)
        obtain ⟨rfl, b1, b2⟩ := hq9
        refine tz_aload_n (pc := 52) dX11_bank_52 rfl rfl ?_
        refine tz_fR (pc := 53) dX11_bank_53 fl_X11_29 r_0_1 ?_
        refine tz_fR (pc := 56) dX11_bank_56 fl_X11_142 r_5_4 ?_
        refine tz_iconst (pc := 59) dX11_bank_59 ?_
        refine tz_dup2 (pc := 60) dX11_bank_60 rfl rfl ?_
        refine tz_aL (pc := 61) (z := 0) (v := (J4 62 0)) dX11_bank_61 a_62 rfl (by decide) rfl (fun r_61 => ?_)
        refine tz_iconst (pc := 62) dX11_bank_62 ?_
        refine tz_iadd (pc := 63) (v := (J4 62 0) + 1) dX11_bank_63 rfl ?_
        refine tz_tw ?_
        have rw_64 := zw_rg ((J4 62 0) + 1)
        refine tz_aS (pc := 64) (z := 0) dX11_bank_64 a_62 rfl (by decide) (zw_rg _) ?_
        refine tz_aload_n (pc := 65) dX11_bank_65 rfl rfl ?_
        refine tz_aload_n (pc := 66) dX11_bank_66 rfl rfl ?_
        refine tz_fR (pc := 67) dX11_bank_67 fl_X11_103 r_0_11 ?_
        refine tz_cV (pc := 70) (c_fplace hl n _) vl_X11_145 dX11_bank_70 o_163 rfl rfl (Nat.le_of_ble_eq_true rfl) ⟨(Nat.le_of_ble_eq_true rfl), (Nat.le_of_ble_eq_true rfl)⟩ rfl rfl (Nat.le_of_ble_eq_true rfl) (Nat.le_of_ble_eq_true rfl) (fun r9 J_70 hq9 => ?_)
        obtain ⟨z_70, rfl, hz_70, rfl⟩ := hq9
        refine tz_pI (pc := 73) (kz := 14) dX11_bank_73 fl_X11_111 i_0_14 rfl rfl (by omega) ?_
        refine tz_iload_n (pc := 76) dX11_bank_76 rfl rfl ?_
        have ff : ∀ c, (c = 5 ∨ (20 ≤ c ∧ c ≤ 120 ∧ ¬ c = 62) ∨ c = 145 ∨ c = 146 ∨ 164 ≤ c) → zup (zup J4 62 0 (zw (J4 62 0 + 1))) 0 14 z_70 c = J c := fun c hc => by rw [zup_nc (by omega), zup_nc (by omega), b2 c (by simp [zbut]; omega), r1.2 c (by simp [zbut]; omega), n2 c (by simp [zbut]; omega), p2 c (decide_eq_true (by omega)), zup_nc (by omega)]
        have e0 : ∀ k, J4 0 k = zup J 0 13 0 0 k := fun k => by rw [b2 0 rfl, r1.2 0 rfl, n2 0 rfl, p2 0 rfl]
        exact tz_iret (pc := 77) (z := zf) dX11_bank_77 rfl (Nat.le_of_ble_eq_true rfl) (Nat.le_of_ble_eq_true rfl) ⟨Nat.le_refl _, Nat.le_add_right _ _⟩ ⟨_, rfl, (by omega), ⟨⟨m, hI.bk (J' := zup (zup J4 62 0 (zw (J4 62 0 + 1))) 0 14 z_70) b1 (by rw [zup_ne (by decide), zup_nc (by decide), e0, zup_at]; decide) (by rw [zup_ne (by decide), zup_nc (by decide), e0, zup_ne (by decide)]) (fun c hc => ff c (by omega))⟩, by rw [ff 145 (by omega)]; omega, ⟨by rw [zup_ne (by decide), zup_nc (by decide), e0, zup_at], by omega⟩, fun c hc => ff c (by have := of_decide_eq_true hc; omega)⟩⟩
    · exact tz_throw (pc := 12) (text := "the tape has not so many bytes") th_X11_122_126 (by decide +kernel) rfl dX11_bank_12 dX11_bank_15 dX11_bank_16 dX11_bank_18 dX11_bank_21 (Nat.le_of_ble_eq_true rfl) (Nat.le_of_ble_eq_true rfl) (Nat.le_of_ble_eq_true rfl) (Nat.le_of_ble_eq_true rfl) (Nat.le_of_ble_eq_true rfl) (Nat.le_of_ble_eq_true rfl) ⟨Nat.le_refl _, Nat.le_add_right _ _⟩ ⟨rfl, rfl, by omega⟩

theorem CI.tape {J' J : zJ} {m : Int} (h : CI J m) (f : zOf (zbut [0, 162]) J' J) (h13 : 0 ≤ J' 0 13 ∧ J' 0 13 ≤ 700) (h15 : J' 0 15 = J 0 15) : CI J' m := by
  have g : ∀ c, ¬ c = 0 → ¬ c = 162 → J' c = J c := fun c a b => f c (by simp [zbut]; omega)
  refine ⟨⟨⟨h.1.1.1.of (fun c hc => g c (by omega) (by omega)), by rw [g 6 (by omega) (by omega)]; exact h.1.1.2.1, by rw [g 19 (by omega) (by omega)]; exact h.1.1.2.2⟩, h.1.2.1.of (g _ (by omega) (by omega)) (g _ (by omega) (by omega)), ⟨h13, ?_⟩⟩, h.2.of (Int.le_refl _) (congrFun (g 5 (by omega) (by omega)) 5) (congrFun (g 5 (by omega) (by omega)) 6) (fun i a b => g _ (by unfold zU; omega) (by unfold zU; omega))⟩
  rw [h15]
  refine h.1.2.2.2.imp id (fun q => ⟨q.1, ?_⟩)
  obtain ⟨mk, hk⟩ := q.2
  exact ⟨mk, hk.of (fun c hc => g c (by omega) (by omega))⟩
set_option maxHeartbeats 4000000 in
set_option maxRecDepth 100000 in
theorem c_tapeN {l : Launch} {G : tb_G} (hl : l.stackTraces = false) (n : Nat) (J : zJ) (a : Int) (hr_a : -2147483648 ≤ a ∧ a < 2147483648)  (h0 : 0 ≤ J 0 13 ∧ J 0 13 + 4 ≤ 700) : tz_Ok l G M_X11_tapeNumber 0 0 0 [.ref 0, zi a] n J (zqv (fun J' => zOf (zbut [0, 162]) J' J ∧ (∀ k, ¬ k = 13 → J' 0 k = J 0 k) ∧ J' 0 13 = J 0 13 + 4)) zN := by
  refine tz_Ok.of hl (by decide +kernel) rfl (tb_c1 rfl) (Nat.le_of_ble_eq_true rfl) ?_
  show tz_At l G M_X11_tapeNumber (tb_rm 0 0 0) none (tb_ZM G 0 0 (zQ n 0 (zqv (fun J' => zOf (zbut [0, 162]) J' J ∧ (∀ k, ¬ k = 13 → J' 0 k = J 0 k) ∧ J' 0 13 = J 0 13 + 4))) (zX n 0 zN)) 0 0 n J 0 [some (.ref 0), some (zi a), none] []
  refine tz_bipush (pc := 0) dX11_tapeNumber_0 (by decide) ?_
  refine tz_istore_n (pc := 2) (L2 := [_, _, _]) dX11_tapeNumber_2 rfl (by decide) rfl ?_
  have loop3 : ∀ (f9 : Nat) (q : Int) (J1 : zJ), ((q + 8).toNat) < f9 → ((-8 ≤ q ∧ q ≤ 24) ∧ 8 * (J1 0 13 - J 0 13) = 24 - q) → (zOf (zbut [0, 162]) J1 J ∧ ∀ k, ¬ k = 13 → J1 0 k = J 0 k) → tz_At l G M_X11_tapeNumber (tb_rm 0 0 0) none (tb_ZM G 0 0 (zQ n 0 (zqv (fun J' => zOf (zbut [0, 162]) J' J ∧ (∀ k, ¬ k = 13 → J' 0 k = J 0 k) ∧ J' 0 13 = J 0 13 + 4))) (zX n 0 zN)) 0 0 n J1 3 [some (.ref 0), some (zi a), some (zi q)] [] := by
    intro f9
    induction f9 with
    | zero => intro q J1 hm9; exact absurd hm9 (Nat.not_lt_zero _)
    | succ f9 ih3 =>
      intro q J1 hm3 hq f1
      refine tz_iload_n (pc := 3) dX11_tapeNumber_3 rfl rfl ?_
      refine tz_if_lt (pc := 4) (tgt := 49) dX11_tapeNumber_4 (by decide) (by omega) (fun h_4 => ?_) (fun h_4 => ?_)
      · exact tz_vret (pc := 49) dX11_tapeNumber_49 rfl (Nat.le_of_ble_eq_true rfl) (Nat.le_of_ble_eq_true rfl) ⟨Nat.le_refl _, Nat.le_add_right _ _⟩ ⟨rfl, ⟨f1.1, f1.2, by omega⟩⟩
      · refine tz_aload_n (pc := 7) dX11_tapeNumber_7 rfl rfl ?_
        refine tz_fI (pc := 8) (kz := 13) (v := (J1 0 13)) dX11_tapeNumber_8 fl_X11_107 i_0_13 rfl rfl (fun r_8 => ?_)
        refine tz_sipush (pc := 11) dX11_tapeNumber_11 (by decide) ?_
        refine tz_icmp_geF (pc := 14) (tgt := 49) (by omega) dX11_tapeNumber_14 (by decide) (by omega) (by decide) ?_
        refine tz_aload_n (pc := 17) dX11_tapeNumber_17 rfl rfl ?_
        refine tz_fR (pc := 18) dX11_tapeNumber_18 fl_X11_94 r_0_12 ?_
        refine tz_aload_n (pc := 21) dX11_tapeNumber_21 rfl rfl ?_
        refine tz_fI (pc := 22) (kz := 13) (v := (J1 0 13)) dX11_tapeNumber_22 fl_X11_107 i_0_13 rfl rfl (fun r_22 => ?_)
        refine tz_iload_n (pc := 25) dX11_tapeNumber_25 rfl rfl ?_
        refine tz_iload_n (pc := 26) dX11_tapeNumber_26 rfl rfl ?_
        refine tz_iushr (pc := 27) (v := zushr a q) dX11_tapeNumber_27 rfl ?_
        refine tz_sipush (pc := 28) dX11_tapeNumber_28 (by decide) ?_
        refine tz_iand (pc := 31) (v := zand (zushr a q) 255) dX11_tapeNumber_31 rfl ?_
        have r_31 := zand_rg (zushr a q) 255
        refine tz_aS (pc := 32) (z := (J1 0 13)) dX11_tapeNumber_32 a_162 rfl (by omega) (zand_rg _ _) ?_
        refine tz_aload_n (pc := 33) dX11_tapeNumber_33 rfl rfl ?_
        refine tz_dup (pc := 34) dX11_tapeNumber_34 rfl ?_
        refine tz_fI (pc := 35) (kz := 13) (v := (J1 0 13)) dX11_tapeNumber_35 fl_X11_107 i_0_13 rfl rfl (fun r_35 => ?_)
        refine tz_iconst (pc := 38) dX11_tapeNumber_38 ?_
        refine tz_iadd (pc := 39) (v := (J1 0 13) + 1) dX11_tapeNumber_39 rfl ?_
        refine tz_pI (pc := 40) (kz := 13) dX11_tapeNumber_40 fl_X11_107 i_0_13 rfl rfl (by omega) ?_
        refine tz_iinc (pc := 43) (z := q - 8) (L2 := [_, _, _]) dX11_tapeNumber_43 rfl (by omega) rfl ?_
        refine tz_goto (pc := 46) (tgt := 3) dX11_tapeNumber_46 (by decide) ?_
        exact ih3 (q - 8) _ (by omega) ⟨by omega, by show 8 * (J1 0 13 + 1 - J 0 13) = 24 - (q - 8); omega⟩ ⟨zOf.up rfl (zOf.up rfl f1.1), fun k hk => (zup_ne hk).trans (f1.2 k hk)⟩
  exact loop3 _ 24 _ (Nat.lt_succ_self _) (by omega) ⟨zOf.rf, fun _ _ => rfl⟩

set_option maxHeartbeats 4000000 in
set_option maxRecDepth 100000 in
theorem t_feed {l : Launch} {G : tb_G} (hl : l.stackTraces = false) (n : Nat) (J : zJ) (a : Int) (b : Int) (c : Int) (d : Int) (e : Int) (hr_a : -2147483648 ≤ a ∧ a < 2147483648) (hr_b : -2147483648 ≤ b ∧ b < 2147483648) (hr_c : -2147483648 ≤ c ∧ c < 2147483648) (hr_d : -2147483648 ≤ d ∧ d < 2147483648) (hr_e : -2147483648 ≤ e ∧ e < 2147483648) (m : Int) (hI : CI J m) (h9 : J 145 10 < 1000000000) : tz_Ok l G M_X11_feed 1 0 0 [.ref 0, zi a, zi b, zi c, zi d, zi e] n J (zqi (fun z J' => (∃ m', CI J' m') ∧ J' 145 10 ≤ J 145 10 + 24000 ∧ zOf fou J' J ∧ ((J 0 13 + 20 ≤ 700 ∧ z = J 0 13 + 20 ∧ J' 0 13 = J 0 13 + 20) ∨ (700 < J 0 13 + 20 ∧ z = -1 ∧ J' 0 13 = J 0 13)))) zN := by
  refine tz_Ok.of hl (by decide +kernel) rfl (tb_c1 rfl) (Nat.le_of_ble_eq_true rfl) ?_
  show tz_At l G M_X11_feed (tb_rm 1 0 0) none (tb_ZM G 0 0 (zQ n 0 (zqi (fun z J' => (∃ m', CI J' m') ∧ J' 145 10 ≤ J 145 10 + 24000 ∧ zOf fou J' J ∧ ((J 0 13 + 20 ≤ 700 ∧ z = J 0 13 + 20 ∧ J' 0 13 = J 0 13 + 20) ∨ (700 < J 0 13 + 20 ∧ z = -1 ∧ J' 0 13 = J 0 13))))) (zX n 0 zN)) 0 0 n J 0 [some (.ref 0), some (zi a), some (zi b), some (zi c), some (zi d), some (zi e)] []
  have htp := hI.1.2.2.1
  refine tz_aload_n (pc := 0) dX11_feed_0 rfl rfl ?_
  refine tz_fI (pc := 1) (kz := 13) (v := (J 0 13)) dX11_feed_1 fl_X11_107 i_0_13 rfl rfl (fun r_1 => ?_)
  refine tz_bipush (pc := 4) dX11_feed_4 (by decide) ?_
  refine tz_iadd (pc := 6) (v := (J 0 13) + 20) dX11_feed_6 rfl ?_
  refine tz_sipush (pc := 7) dX11_feed_7 (by decide) ?_
  refine tz_icmp_le (pc := 10) (tgt := 15) dX11_feed_10 (by decide) (by omega) (by decide) (fun h_10 => ?_) (fun h_10 => ?_)
  · refine tz_aload_n (pc := 15) dX11_feed_15 rfl rfl ?_
    refine tz_iload_n (pc := 16) dX11_feed_16 rfl rfl ?_
    refine tz_cV (pc := 17) (c_tapeN hl n _ _ (by omega) (by omega)) vl_X11_118 dX11_feed_17 o_0 rfl rfl (Nat.le_of_ble_eq_true rfl) ⟨(Nat.le_of_ble_eq_true rfl), (Nat.le_of_ble_eq_true rfl)⟩ rfl rfl (Nat.le_of_ble_eq_true rfl) (Nat.le_of_ble_eq_true rfl) (fun r9 J_17 hq9 => ?_)
    obtain ⟨rfl, f_17, k_17, e_17⟩ := hq9
    refine tz_aload_n (pc := 20) dX11_feed_20 rfl rfl ?_
    refine tz_iload_n (pc := 21) dX11_feed_21 rfl rfl ?_
    refine tz_cV (pc := 22) (c_tapeN hl n _ _ (by omega) (by omega)) vl_X11_118 dX11_feed_22 o_0 rfl rfl (Nat.le_of_ble_eq_true rfl) ⟨(Nat.le_of_ble_eq_true rfl), (Nat.le_of_ble_eq_true rfl)⟩ rfl rfl (Nat.le_of_ble_eq_true rfl) (Nat.le_of_ble_eq_true rfl) (fun r9 J_22 hq9 => ?_)
    obtain ⟨rfl, f_22, k_22, e_22⟩ := hq9
    refine tz_aload_n (pc := 25) dX11_feed_25 rfl rfl ?_
    refine tz_iload_n (pc := 26) dX11_feed_26 rfl rfl ?_
    refine tz_cV (pc := 27) (c_tapeN hl n _ _ (by omega) (by omega)) vl_X11_118 dX11_feed_27 o_0 rfl rfl (Nat.le_of_ble_eq_true rfl) ⟨(Nat.le_of_ble_eq_true rfl), (Nat.le_of_ble_eq_true rfl)⟩ rfl rfl (Nat.le_of_ble_eq_true rfl) (Nat.le_of_ble_eq_true rfl) (fun r9 J_27 hq9 => ?_)
    obtain ⟨rfl, f_27, k_27, e_27⟩ := hq9
    refine tz_aload_n (pc := 30) dX11_feed_30 rfl rfl ?_
    refine tz_iload (pc := 31) dX11_feed_31 rfl ?_
    refine tz_cV (pc := 33) (c_tapeN hl n _ _ (by omega) (by omega)) vl_X11_118 dX11_feed_33 o_0 rfl rfl (Nat.le_of_ble_eq_true rfl) ⟨(Nat.le_of_ble_eq_true rfl), (Nat.le_of_ble_eq_true rfl)⟩ rfl rfl (Nat.le_of_ble_eq_true rfl) (Nat.le_of_ble_eq_true rfl) (fun r9 J_33 hq9 => ?_)
    obtain ⟨rfl, f_33, k_33, e_33⟩ := hq9
    refine tz_aload_n (pc := 36) dX11_feed_36 rfl rfl ?_
    refine tz_iload (pc := 37) dX11_feed_37 rfl ?_
    refine tz_cV (pc := 39) (c_tapeN hl n _ _ (by omega) (by omega)) vl_X11_118 dX11_feed_39 o_0 rfl rfl (Nat.le_of_ble_eq_true rfl) ⟨(Nat.le_of_ble_eq_true rfl), (Nat.le_of_ble_eq_true rfl)⟩ rfl rfl (Nat.le_of_ble_eq_true rfl) (Nat.le_of_ble_eq_true rfl) (fun r9 J_39 hq9 => ?_)
    obtain ⟨rfl, f_39, k_39, e_39⟩ := hq9
    refine tz_aload_n (pc := 42) dX11_feed_42 rfl rfl ?_
    refine tz_fI (pc := 43) (kz := 13) (v := (J_39 0 13)) dX11_feed_43 fl_X11_107 i_0_13 rfl rfl (fun r_43 => ?_)
    have ff : zOf (zbut [0, 162]) J_39 J := f_39.tr (f_33.tr (f_27.tr (f_22.tr f_17)))
    exact tz_iret (pc := 46) (z := (J_39 0 13)) dX11_feed_46 rfl (Nat.le_of_ble_eq_true rfl) (Nat.le_of_ble_eq_true rfl) ⟨Nat.le_refl _, Nat.le_add_right _ _⟩ ⟨_, rfl, (by omega), ⟨⟨m, hI.tape ff (by omega) (by rw [k_39 15 (by decide), k_33 15 (by decide), k_27 15 (by decide), k_22 15 (by decide), k_17 15 (by decide)])⟩, by rw [ff 145 rfl]; omega, ff.mono (fun c hc => by have := of_decide_eq_true hc; simp [zbut]; omega), by omega⟩⟩
  · refine tz_iconst (pc := 13) dX11_feed_13 ?_
    exact tz_iret (pc := 14) (z := (-1)) dX11_feed_14 rfl (Nat.le_of_ble_eq_true rfl) (Nat.le_of_ble_eq_true rfl) ⟨Nat.le_refl _, Nat.le_add_right _ _⟩ ⟨_, rfl, (by decide), ⟨⟨m, hI⟩, by omega, zOf.rf, by omega⟩⟩

