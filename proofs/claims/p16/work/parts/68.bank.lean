/-- the bank set aside -/
def SV (J1 J : zJ) : Prop := (J1 121 3 = J 1 3 ∧ (∀ k, 0 ≤ k → k < 10 → J1 123 k = J 3 k ∧ J1 124 k = J 4 k ∧ J1 122 k = J 2 k)) ∧ (J1 125 12 = J 6 12 ∧ (∀ t, 0 ≤ t → t < J 6 12 → J1 126 t = J 7 t ∧ J1 127 t = J 8 t ∧ J1 129 t = J 10 t ∧ J1 130 t = J 11 t ∧ J1 131 t = J 12 t ∧ J1 132 t = J 13 t ∧ J1 133 t = J 14 t ∧ J1 134 t = J 15 t) ∧ (∀ k, 0 ≤ k → k < J 6 12 * 3 → J1 128 k = J 9 k) ∧ (∀ b, 0 ≤ b → b < 256 → J1 135 b = J 16 b)) ∧ ∀ k, 0 ≤ k → k < 61 → J1 138 k = J 19 k
theorem SV.of {J2 J1 J : zJ} (h : SV J1 J) (e : ∀ c, 121 ≤ c ∧ c ≤ 138 → J2 c = J1 c) : SV J2 J := by
  unfold SV
  rw [e 121 (by omega), e 122 (by omega), e 123 (by omega), e 124 (by omega), e 125 (by omega), e 126 (by omega), e 127 (by omega), e 128 (by omega), e 129 (by omega), e 130 (by omega), e 131 (by omega), e 132 (by omega), e 133 (by omega), e 134 (by omega), e 135 (by omega), e 138 (by omega)]
  exact h
def fsp (c : Nat) : Bool := decide (c < 121 ∨ 138 < c)
theorem z10 {f : Int → Int} {g : Int} {k n : Int} (h : 0 ≤ k ∧ k < n) : (if 0 ≤ k ∧ k < 0 + n then f (0 + (k - 0)) else g) = f k := z0t h
set_option maxHeartbeats 4000000 in
set_option maxRecDepth 100000 in
theorem c_setAside {l : Launch} {G : tb_G} (hl : l.stackTraces = false) (n : Nat) (J : zJ)    (h0 : 0 ≤ J 6 12 ∧ J 6 12 ≤ 400) : tz_Ok l G M_X11_setAside 2 0 0 [.ref 0] n J (zqv (fun J' => SV J' J ∧ zOf fsp J' J)) zN := by
  refine tz_Ok.of hl (by decide +kernel) rfl (tb_c1 rfl) (Nat.le_of_ble_eq_true rfl) ?_
  show tz_At l G M_X11_setAside (tb_rm 2 0 0) none (tb_ZM G 0 0 (zQ n 0 (zqv (fun J' => SV J' J ∧ zOf fsp J' J))) (zX n 0 zN)) 0 0 n J 0 [some (.ref 0)] []
  refine tz_aload_n (pc := 0) dX11_setAside_0 rfl rfl ?_
  refine tz_fR (pc := 1) dX11_setAside_1 fl_X11_36 r_0_3 ?_
  refine tz_aload_n (pc := 4) dX11_setAside_4 rfl rfl ?_
  refine tz_fR (pc := 5) dX11_setAside_5 fl_X11_10 r_0_0 ?_
  refine tz_cV (pc := 8) (c_syTake121 hl n _) vl_X11_151 dX11_setAside_8 o_121 rfl rfl (Nat.le_of_ble_eq_true rfl) ⟨(Nat.le_of_ble_eq_true rfl), (Nat.le_of_ble_eq_true rfl)⟩ rfl rfl (Nat.le_of_ble_eq_true rfl) (Nat.le_of_ble_eq_true rfl) (fun r9 J1 hq9 => ?_)
  obtain ⟨rfl, hj1⟩ := hq9
  have f1 : zOf (zbut [121, 122, 123, 124]) J1 J := by rw [← hj1]; exact zOf.up rfl (zOf.cp rfl (zOf.cp rfl (zOf.cp rfl zOf.rf)))
  have s1 : J1 121 3 = J 1 3 ∧ ∀ k, 0 ≤ k → k < 10 → J1 123 k = J 3 k ∧ J1 124 k = J 4 k ∧ J1 122 k = J 2 k := by rw [← hj1]; exact ⟨rfl, fun k a b => ⟨z10 ⟨a, b⟩, z10 ⟨a, b⟩, z10 ⟨a, b⟩⟩⟩
  refine tz_aload_n (pc := 11) dX11_setAside_11 rfl rfl ?_
  refine tz_fR (pc := 12) dX11_setAside_12 fl_X11_39 r_0_4 ?_
  refine tz_aload_n (pc := 15) dX11_setAside_15 rfl rfl ?_
  refine tz_fR (pc := 16) dX11_setAside_16 fl_X11_29 r_0_1 ?_
  refine tz_fR (pc := 19) dX11_setAside_19 fl_X11_49 r_5_0 ?_
  refine tz_cV (pc := 22) (c_teTake125_6 hl n _ (by rw [f1 6 rfl]; exact h0)) vl_X11_154 dX11_setAside_22 o_125 rfl rfl (Nat.le_of_ble_eq_true rfl) ⟨(Nat.le_of_ble_eq_true rfl), (Nat.le_of_ble_eq_true rfl)⟩ rfl rfl (Nat.le_of_ble_eq_true rfl) (Nat.le_of_ble_eq_true rfl) (fun r9 J2 hq9 => ?_)
  obtain ⟨rfl, hj2⟩ := hq9
  have t2 : TQ 125 6 J2 J1 := by rw [← hj2]; exact te_125_6
  refine tz_aload_n (pc := 25) dX11_setAside_25 rfl rfl ?_
  refine tz_fR (pc := 26) dX11_setAside_26 fl_X11_43 r_0_5 ?_
  refine tz_aload_n (pc := 29) dX11_setAside_29 rfl rfl ?_
  refine tz_fR (pc := 30) dX11_setAside_30 fl_X11_29 r_0_1 ?_
  refine tz_fR (pc := 33) dX11_setAside_33 fl_X11_156 r_5_1 ?_
  refine tz_cV (pc := 36) (c_leTake137_18 hl n _) vl_X11_159 dX11_setAside_36 o_137 rfl rfl (Nat.le_of_ble_eq_true rfl) ⟨(Nat.le_of_ble_eq_true rfl), (Nat.le_of_ble_eq_true rfl)⟩ rfl rfl (Nat.le_of_ble_eq_true rfl) (Nat.le_of_ble_eq_true rfl) (fun r9 J3 hq9 => ?_)
  obtain ⟨rfl, hj3⟩ := hq9
  have f3 : zOf (zbut [138]) J3 J2 := by rw [← hj3]; exact zOf.cp rfl zOf.rf
  have e3 : ∀ k, 0 ≤ k → k < 61 → J3 138 k = J2 19 k := by rw [← hj3]; exact fun k a b => z10 ⟨a, b⟩
  obtain ⟨t21, t22, t23, t24, t25⟩ := t2
  simp only [f1 6 rfl] at t21 t22 t23
  exact tz_vret (pc := 39) dX11_setAside_39 rfl (Nat.le_of_ble_eq_true rfl) (Nat.le_of_ble_eq_true rfl) ⟨Nat.le_refl _, Nat.le_add_right _ _⟩ ⟨rfl, ⟨⟨⟨by rw [f3 121 rfl, t25 121 rfl]; exact s1.1, fun k a b => by rw [f3 122 rfl, t25 122 rfl, f3 123 rfl, t25 123 rfl, f3 124 rfl, t25 124 rfl]; exact s1.2 k a b⟩, ⟨by rw [f3 125 rfl]; exact t21, fun t a b => by have q := t22 t a b; rw [f1 (6 + 1) rfl, f1 (6 + 2) rfl, f1 (6 + 4) rfl, f1 (6 + 5) rfl, f1 (6 + 6) rfl, f1 (6 + 7) rfl, f1 (6 + 8) rfl, f1 (6 + 9) rfl] at q; rw [f3 126 rfl, f3 127 rfl, f3 129 rfl, f3 130 rfl, f3 131 rfl, f3 132 rfl, f3 133 rfl, f3 134 rfl]; exact q, fun k a b => by have q := t23 k a b; rw [f1 (6 + 3) rfl] at q; rw [f3 128 rfl]; exact q, fun x a b => by have q := t24 x a b; rw [f1 (6 + 10) rfl] at q; rw [f3 135 rfl]; exact q⟩, fun k a b => by rw [e3 k a b, t25 19 rfl, f1 19 rfl]⟩, fun c hc => by have hc9 := of_decide_eq_true hc; rw [f3 c (by simp [zbut]; omega), t25 c (decide_eq_true (by omega)), f1 c (by simp [zbut]; omega)]⟩⟩

/-- what was set aside is back -/
def BK (J1 J : zJ) : Prop := (J1 1 3 = J 1 3 ∧ (∀ k, 0 ≤ k → k < 10 → J1 3 k = J 3 k ∧ J1 4 k = J 4 k ∧ J1 2 k = J 2 k)) ∧ (J1 6 12 = J 6 12 ∧ zSU J1 J (J 6 12) ∧ (∀ b, 0 ≤ b → b < 256 → J1 16 b = J 16 b)) ∧ ∀ k, 0 ≤ k → k < 61 → J1 19 k = J 19 k
set_option maxHeartbeats 4000000 in
set_option maxRecDepth 100000 in
theorem c_takeBack0 {l : Launch} {G : tb_G} (hl : l.stackTraces = false) (n : Nat) (J : zJ)   (J0 : zJ) (hs : SV J J0) (h0 : 0 ≤ J0 6 12 ∧ J0 6 12 ≤ 400) : tz_Ok l G M_X11_takeBack 2 0 0 [.ref 0] n J (zqv (fun J' => BK J' J0 ∧ zOf (zbut [1, 2, 3, 4, 6, 7, 8, 9, 10, 11, 12, 13, 14, 15, 16, 19]) J' J)) zN := by
  refine tz_Ok.of hl (by decide +kernel) rfl (tb_c1 rfl) (Nat.le_of_ble_eq_true rfl) ?_
  show tz_At l G M_X11_takeBack (tb_rm 2 0 0) none (tb_ZM G 0 0 (zQ n 0 (zqv (fun J' => BK J' J0 ∧ zOf (zbut [1, 2, 3, 4, 6, 7, 8, 9, 10, 11, 12, 13, 14, 15, 16, 19]) J' J))) (zX n 0 zN)) 0 0 n J 0 [some (.ref 0)] []
  obtain ⟨⟨s1, s2⟩, ⟨s3, s4, s5, s6⟩, s7⟩ := hs
  refine tz_aload_n (pc := 0) dX11_takeBack_0 rfl rfl ?_
  refine tz_fR (pc := 1) dX11_takeBack_1 fl_X11_10 r_0_0 ?_
  refine tz_aload_n (pc := 4) dX11_takeBack_4 rfl rfl ?_
  refine tz_fR (pc := 5) dX11_takeBack_5 fl_X11_36 r_0_3 ?_
  refine tz_cV (pc := 8) (c_syTake1 hl n _) vl_X11_151 dX11_takeBack_8 o_1 rfl rfl (Nat.le_of_ble_eq_true rfl) ⟨(Nat.le_of_ble_eq_true rfl), (Nat.le_of_ble_eq_true rfl)⟩ rfl rfl (Nat.le_of_ble_eq_true rfl) (Nat.le_of_ble_eq_true rfl) (fun r9 J1 hq9 => ?_)
  obtain ⟨rfl, hj1⟩ := hq9
  have f1 : zOf (zbut [1, 2, 3, 4]) J1 J := by rw [← hj1]; exact zOf.up rfl (zOf.cp rfl (zOf.cp rfl (zOf.cp rfl zOf.rf)))
  have u1 : J1 1 3 = J 121 3 ∧ ∀ k, 0 ≤ k → k < 10 → J1 3 k = J 123 k ∧ J1 4 k = J 124 k ∧ J1 2 k = J 122 k := by rw [← hj1]; exact ⟨rfl, fun k a b => ⟨z10 ⟨a, b⟩, z10 ⟨a, b⟩, z10 ⟨a, b⟩⟩⟩
  refine tz_aload_n (pc := 11) dX11_takeBack_11 rfl rfl ?_
  refine tz_fR (pc := 12) dX11_takeBack_12 fl_X11_29 r_0_1 ?_
  refine tz_fR (pc := 15) dX11_takeBack_15 fl_X11_49 r_5_0 ?_
  refine tz_aload_n (pc := 18) dX11_takeBack_18 rfl rfl ?_
  refine tz_fR (pc := 19) dX11_takeBack_19 fl_X11_39 r_0_4 ?_
  refine tz_cV (pc := 22) (c_teTake6_125 hl n _ (by rw [f1 125 rfl, s3]; exact h0)) vl_X11_154 dX11_takeBack_22 o_6 rfl rfl (Nat.le_of_ble_eq_true rfl) ⟨(Nat.le_of_ble_eq_true rfl), (Nat.le_of_ble_eq_true rfl)⟩ rfl rfl (Nat.le_of_ble_eq_true rfl) (Nat.le_of_ble_eq_true rfl) (fun r9 J2 hq9 => ?_)
  obtain ⟨rfl, hj2⟩ := hq9
  have t2 : TQ 6 125 J2 J1 := by rw [← hj2]; exact te_6_125
  refine tz_aload_n (pc := 25) dX11_takeBack_25 rfl rfl ?_
  refine tz_fR (pc := 26) dX11_takeBack_26 fl_X11_29 r_0_1 ?_
  refine tz_fR (pc := 29) dX11_takeBack_29 fl_X11_156 r_5_1 ?_
  refine tz_aload_n (pc := 32) dX11_takeBack_32 rfl rfl ?_
  refine tz_fR (pc := 33) dX11_takeBack_33 fl_X11_43 r_0_5 ?_
  refine tz_cV (pc := 36) (c_leTake18_137 hl n _) vl_X11_159 dX11_takeBack_36 o_18 rfl rfl (Nat.le_of_ble_eq_true rfl) ⟨(Nat.le_of_ble_eq_true rfl), (Nat.le_of_ble_eq_true rfl)⟩ rfl rfl (Nat.le_of_ble_eq_true rfl) (Nat.le_of_ble_eq_true rfl) (fun r9 J3 hq9 => ?_)
  obtain ⟨rfl, hj3⟩ := hq9
  have f3 : zOf (zbut [19]) J3 J2 := by rw [← hj3]; exact zOf.cp rfl zOf.rf
  have e3 : ∀ k, 0 ≤ k → k < 61 → J3 19 k = J2 138 k := by rw [← hj3]; exact fun k a b => z10 ⟨a, b⟩
  obtain ⟨t21, t22, t23, t24, t25⟩ := t2
  simp only [f1 125 rfl, s3] at t21 t22 t23
  exact tz_vret (pc := 39) dX11_takeBack_39 rfl (Nat.le_of_ble_eq_true rfl) (Nat.le_of_ble_eq_true rfl) ⟨Nat.le_refl _, Nat.le_add_right _ _⟩ ⟨rfl, ⟨⟨⟨by rw [f3 1 rfl, t25 1 rfl, u1.1]; exact s1, fun k a b => by rw [f3 2 rfl, t25 2 rfl, f3 3 rfl, t25 3 rfl, f3 4 rfl, t25 4 rfl, (u1.2 k a b).1, (u1.2 k a b).2.1, (u1.2 k a b).2.2]; exact s2 k a b⟩, ⟨by rw [f3 6 rfl]; exact t21, ⟨fun t a b => by have q := t22 t a b; rw [f1 (125 + 1) rfl, f1 (125 + 2) rfl, f1 (125 + 4) rfl, f1 (125 + 5) rfl, f1 (125 + 6) rfl, f1 (125 + 7) rfl, f1 (125 + 8) rfl, f1 (125 + 9) rfl] at q; have p := s4 t a b; rw [f3 7 rfl, f3 8 rfl, f3 10 rfl, f3 11 rfl, f3 12 rfl, f3 13 rfl, f3 14 rfl, f3 15 rfl]; exact ⟨q.1.trans p.1, q.2.1.trans p.2.1, q.2.2.1.trans p.2.2.1, q.2.2.2.1.trans p.2.2.2.1, q.2.2.2.2.1.trans p.2.2.2.2.1, q.2.2.2.2.2.1.trans p.2.2.2.2.2.1, q.2.2.2.2.2.2.1.trans p.2.2.2.2.2.2.1, q.2.2.2.2.2.2.2.trans p.2.2.2.2.2.2.2⟩, fun k a b => by have q := t23 k a b; rw [f1 (125 + 3) rfl] at q; rw [f3 9 rfl]; exact q.trans (s5 k a b)⟩, fun x a b => by have q := t24 x a b; rw [f1 (125 + 10) rfl] at q; rw [f3 16 rfl]; exact q.trans (s6 x a b)⟩, fun k a b => by rw [e3 k a b, t25 138 rfl, f1 138 rfl]; exact s7 k a b⟩, fun c hc => by simp [zbut] at hc; rw [f3 c (by simp [zbut]; omega), t25 c (decide_eq_true (by omega)), f1 c (by simp [zbut]; omega)]⟩⟩

/-- after a text that is none -/
theorem CI.bk {J' J : zJ} {m : Int} (h : CI J m) (b : BK J' J) (ht : 0 ≤ J' 0 13 ∧ J' 0 13 ≤ 700) (h3 : J' 156 3 = -1) (h15 : J' 0 15 = J 0 15) (f : ∀ c, c = 5 ∨ (20 ≤ c ∧ c ≤ 120 ∧ ¬ c = 62) ∨ c = 145 ∨ c = 146 → J' c = J c) : CI J' m := by
  obtain ⟨⟨b1, b2⟩, ⟨b3, b4, b5⟩, b6⟩ := b
  have hm := h.1.1.2.1
  have hb := h.1.1.1.told
  rw [hm] at b4
  refine ⟨⟨⟨h.1.1.1.su3 b1 (fun k a c => ⟨(b2 k a (by omega)).1, (b2 k a (by omega)).2.1⟩) b5 b4, b3.trans hm, h.1.1.2.2.c61 b6⟩, h.1.2.1.of (f 145 (by omega)) (f 146 (by omega)), ⟨⟨ht, h3⟩, ?_⟩⟩, h.2.of (Int.le_refl _) (congrFun (f 5 (by omega)) 5) (congrFun (f 5 (by omega)) 6) (fun i a c => f _ (by unfold zU; omega))⟩
  rw [h15]
  refine h.1.2.2.2.imp id (fun q => ⟨q.1, ?_⟩)
  obtain ⟨mk, hk⟩ := q.2
  refine ⟨mk, ⟨⟨hk.1.1.su3 b1 (fun k a c => ⟨(b2 k a (Int.lt_of_lt_of_le c hb.1.2)).1, (b2 k a (Int.lt_of_lt_of_le c hb.1.2)).2.1⟩) (fun x _ _ => congrFun (f 74 (by omega)) x) ⟨fun t _ _ => ⟨congrFun (f 65 (by omega)) t, congrFun (f 66 (by omega)) t, congrFun (f 68 (by omega)) t, congrFun (f 69 (by omega)) t, congrFun (f 70 (by omega)) t, congrFun (f 71 (by omega)) t, congrFun (f 72 (by omega)) t, congrFun (f 73 (by omega)) t⟩, fun k _ _ => congrFun (f 67 (by omega)) k⟩, by rw [f 64 (by omega)]; exact hk.1.2⟩, by rw [f 77 (by omega)]; exact hk.2.1, hk.2.2.of (Int.le_refl _) (congrFun (f 63 (by omega)) 5) (congrFun (f 63 (by omega)) 6) (fun i a c => f _ (by unfold zV; omega))⟩⟩
theorem CI.new {J' J2 J : zJ} {m m' : Int} (h : CI J m) (hC : CT J' m') (hm : J' 6 12 = m') (hL : LI (J' 19) m') (hR : RU J') (h3 : J' 156 3 = -1) (h13 : J' 0 13 = 0) (h15 : J' 0 15 = 0) (h5 : J' 5 5 = 0) (h6 : J' 5 6 = 0) : CI J' m' := ⟨⟨⟨hC, hm, hL⟩, hR, ⟨⟨by omega, h3⟩, Or.inl h15⟩⟩, ⟨by omega, fun k a b => by omega⟩⟩
theorem CI.tape {J' J : zJ} {m : Int} (h : CI J m) (f : zOf (zbut [0, 162]) J' J) (h13 : 0 ≤ J' 0 13 ∧ J' 0 13 ≤ 700) (h15 : J' 0 15 = J 0 15) : CI J' m := by
  have g : ∀ c, ¬ c = 0 → ¬ c = 162 → J' c = J c := fun c a b => f c (by simp [zbut]; omega)
  refine ⟨⟨⟨h.1.1.1.of (fun c hc => g c (by omega) (by omega)), by rw [g 6 (by omega) (by omega)]; exact h.1.1.2.1, by rw [g 19 (by omega) (by omega)]; exact h.1.1.2.2⟩, h.1.2.1.of (g _ (by omega) (by omega)) (g _ (by omega) (by omega)), ⟨⟨h13, by rw [g 156 (by omega) (by omega)]; exact h.1.2.2.1.2⟩, ?_⟩⟩, h.2.of (Int.le_refl _) (congrFun (g 5 (by omega) (by omega)) 5) (congrFun (g 5 (by omega) (by omega)) 6) (fun i a b => g _ (by unfold zU; omega) (by unfold zU; omega))⟩
  rw [h15]
  refine h.1.2.2.2.imp id (fun q => ⟨q.1, ?_⟩)
  obtain ⟨mk, hk⟩ := q.2
  exact ⟨mk, hk.of (fun c hc => g c (by omega) (by omega))⟩
