/-! ===== the law ===== -/
def tb_Iz : tb_I := fun _ _ => 0
def tb_I0 : tb_I := tb_row (i_kc_mo (tb_row (i_kc_tb (tb_row tb_Iz 0 (fun _ => 0))) 164 (fun _ => 0))) 183 (fun _ => 0)
theorem law_sh : ∀ c, c < 184 → tb_sup (s_kc_mo (tb_sup (s_kc_tb (tb_sup (fun _ => ((100, 3, []) : tb_Sh)) 0 (11, 16, List.replicate 16 none))) 164 (12, 47, List.replicate 47 none))) 183 (102, 1, []) c = tb_shT c := by
  have h : (List.range 184).all (fun c => decide (tb_sup (s_kc_mo (tb_sup (s_kc_tb (tb_sup (fun _ => ((100, 3, []) : tb_Sh)) 0 (11, 16, List.replicate 16 none))) 164 (12, 47, List.replicate 47 none))) 183 (102, 1, []) c = tb_shT c)) = true := by decide +kernel
  intro c hc
  exact of_decide_eq_true (List.all_eq_true.mp h c (List.mem_range.mpr hc))
set_option maxHeartbeats 4000000 in
set_option maxRecDepth 100000 in
theorem law_new {l : Launch} {G : tb_G} {Lx : Nat} {xs : Nat → Int32} (hl : l.stackTraces = false) (h : tb_At l G M_L_law room_1 (some (Lx, xs)) tb_LZ 184 54325 184 tb_shT tb_I0 20 [some (.ref tb_sc), some (.ref 0), some (.ref 164), some (.ref 183), none, none, none] []) : tb_At l G M_L_law room_1 (some (Lx, xs)) tb_LZ 0 0 0 (fun _ => (100, 3, [])) (fun _ _ => 0) 0 [some (.ref tb_sc), none, none, none, none, none, none] [] := by
  refine tb_new (pc := 0) dL_law_0 nw_L_8 (by decide) rfl rfl rfl (Nat.le_of_ble_eq_true rfl) (Nat.le_of_ble_eq_true rfl) ?_
  refine tb_dup (pc := 3) dL_law_3 rfl ?_
  refine tb_callI (pc := 4) (kc_tb hl _ _ rfl) il_L_55 dL_law_4 rfl rfl (Nat.le_of_ble_eq_true rfl) ⟨(Nat.le_of_ble_eq_true rfl), (Nat.le_of_ble_eq_true rfl)⟩ rfl rfl (Nat.le_of_ble_eq_true rfl) (Nat.le_of_ble_eq_true rfl) (fun r9 n9 sh9 I9 hq9 => ?_)
  obtain ⟨rfl, rfl, rfl, rfl⟩ := hq9
  refine tb_astore_n (pc := 7) (L2 := [_, _, _, _, _, _, _]) dL_law_7 rfl (by decide) rfl ?_
  refine tb_new (pc := 8) dL_law_8 nw_L_56 (by decide) rfl rfl rfl (Nat.le_of_ble_eq_true rfl) (Nat.le_of_ble_eq_true rfl) ?_
  refine tb_dup (pc := 11) dL_law_11 rfl ?_
  refine tb_callI (pc := 12) (kc_mo hl _ _ rfl) il_L_58 dL_law_12 rfl rfl (Nat.le_of_ble_eq_true rfl) ⟨(Nat.le_of_ble_eq_true rfl), (Nat.le_of_ble_eq_true rfl)⟩ rfl rfl (Nat.le_of_ble_eq_true rfl) (Nat.le_of_ble_eq_true rfl) (fun r9 n9 sh9 I9 hq9 => ?_)
  obtain ⟨rfl, rfl, rfl, rfl⟩ := hq9
  refine tb_astore_n (pc := 15) (L2 := [_, _, _, _, _, _, _]) dL_law_15 rfl (by decide) rfl ?_
  refine tb_iconst (pc := 16) (v := 1) dL_law_16 (by decide) ?_
  refine tb_newl (pc := 17) (len := 1) dL_law_17 wk_arr_long (by decide) (by decide) (Nat.le_of_ble_eq_true rfl) rfl rfl rfl (Nat.le_of_ble_eq_true rfl) (Nat.le_of_ble_eq_true rfl) ?_
  refine tb_astore_n (pc := 19) (L2 := [_, _, _, _, _, _, _]) dL_law_19 rfl (by decide) rfl ?_
  exact tb_shcong law_sh h
/-- what is alike on both sides -/
def SM (J : zJ) : Prop := J 0 13 = J 164 19 ∧ J 162 = J 173 ∧ J 0 15 = J 164 14 ∧ J 0 14 = J 164 20
/-- the image, where there is one -/
def IMx (J : zJ) : Prop := ¬ J 164 14 = 0 → ∃ Gi ni Ri, CALk J Gi ni Ri ∧ (MBI J Gi ∧ MUi J ni Ri) ∧ (0 ≤ Gi 165 0 ∧ Gi 165 0 ≤ 400)
/-- both sides are in like states -/
def AL (J : zJ) : Prop := ∃ pn RR, CAL J (tbz J) pn RR ∧ MUr J pn RR ∧ IMx J
theorem IMx.hi {J1 J : zJ} (h : IMx J) (f : ∀ c, (63 ≤ c ∧ c ≤ 120) ∨ (164 ≤ c ∧ c < 183) → J1 c = J c) : IMx J1 := fun q => by
  rw [f 164 (by decide)] at q
  obtain ⟨Gi, ni, Ri, k, ⟨mb, mu⟩, g⟩ := h q
  refine ⟨Gi, ni, Ri, k.of (fun c a b => f c (Or.inl ⟨a, b⟩)), ⟨?_, ?_⟩, g⟩
  · unfold MBI
    rw [f 165 (by decide), f 166 (by decide), f 167 (by decide), f 168 (by decide)]
    exact mb
  · unfold MUi
    rw [f 164 (by decide), f 165 (by decide)]
    exact mu
theorem AL.mk {J2 J1 : zJ} {m : Int} (h : IMx J1) (hI : CI J1 m) (lo : ∀ c, c < 164 → J2 c = J1 c) (e14 : J2 164 14 = J1 164 14) (fi : MFI J2 J1) (bo : BO J1 J2) : AL J2 := by
  obtain ⟨S, n, R, c, b, u⟩ := bo
  refine ⟨n, R, (c.lo hI lo).mbt (hI.lo lo) b, u, fun q => ?_⟩
  rw [e14] at q
  obtain ⟨Gi, ni, Ri, k, ⟨mb, mu⟩, g⟩ := h q
  exact ⟨Gi, ni, Ri, k.of (fun c _ b => lo c (by omega)), ⟨mb.fi fi g, mu.fi fi⟩, g⟩
theorem al_w {J : zJ} {n m : Int} {R : Int → Int → Int} (c : CAL J (tbz J) n R) (hI : CI J m) : ∀ k, 0 ≤ k → k < J 164 9 → 1 ≤ J 171 (0 + k) ∧ J 171 (0 + k) ≤ 9 := fun k a b => by
  have ts := hI.1.1.1.told
  have e : J 1 3 = J 164 9 := c.1.1.1
  have q := (c.1.1.2 k a b).2.2
  rw [show tbz J 171 (0 + k) = J 171 (0 + k) from if_pos ⟨by omega, by omega⟩] at q
  rw [← q]
  exact hI.1.1.1.1.2 k a (by omega)
/-- what holds as a turn of the law begins, at the place i of the script -/
def LV (J : zJ) (n k1 k2 : Nat) (i : Int) : Prop := (∃ m, CI J m) ∧ (∃ m, MI J m) ∧ SM J ∧ 6 * J 145 10 ≤ 24000 * i ∧ (184 ≤ n ∧ 6 * (n : Int) ≤ 1104 + 7 * i) ∧ (6 * (k1 : Int) ≤ 1104 + 7 * i ∧ 6 * (k2 : Int) ≤ 325950 + 21 * i) ∧ AL J
theorem LV.q {J2 J1 J : zJ} {n n' k1 k2 k1' k2' : Nat} {i : Int} (h : LV J n k1 k2 i) (c : CW J1 J) (q : MQr J2 J1) (fi : MFI J2 J1) (bo : BO J1 J2) (hn : n ≤ n' ∧ n' ≤ n + 7) (h1 : k1' ≤ k1 + 7) (h2 : k2' ≤ k2 + 21) : LV J2 n' k1' k2' (i + 6) := by
  obtain ⟨a1, a2, ⟨a3, a8, a9, a0⟩, a4, a5, ⟨a6, a7⟩, pn, RR, _, _, im⟩ := h
  obtain ⟨⟨m, c1⟩, c2, ⟨c3, c5, c6⟩, c4⟩ := c
  have e1 : J1 164 = J 164 := c4 164 (by decide)
  obtain ⟨q1, q2, q3, q4, q5⟩ := q
  refine ⟨⟨m, c1.lo (fun c hc => q2 c (Or.inl hc))⟩, q1, ⟨?_, ?_, ?_, ?_⟩, ?_, by omega, by omega, AL.mk (im.hi (fun c hc => c4 c (by omega))) c1 (fun c hc => q2 c (Or.inl hc)) q5 fi bo⟩
  · rw [q2 0 (by decide), q3, c3, e1]; exact a3
  · rw [q2 162 (by decide), q2 173 (by decide), c4 162 (by decide), c4 173 (by decide)]; exact a8
  · rw [q2 0 (by decide), q5, c5, e1]; exact a9
  · rw [q2 0 (by decide), q4, c6, e1]; exact a0
  · rw [q2 145 (by decide)]; omega
theorem LV.i {J2 J1 J : zJ} {n n' k1 k2 k1' k2' : Nat} {i pn : Int} {RR : Int → Int → Int} (h : LV J n k1 k2 i) (c : ((∃ m', CI J1 m') ∧ J1 145 10 ≤ J 145 10 + 24000 ∧ (J1 0 13 = J 0 13 ∧ J1 0 14 = J 0 14 ∧ J1 0 15 = 1) ∧ zOf foi J1 J) ∧ CAL J1 (tbz J) pn RR ∧ CALk J1 (tbz J) pn RR) (q : MQi J2 J1 ∧ (MBT J2 (tbz J1) ∧ MUr J2 pn RR) ∧ (MBI J2 (tbz J1) ∧ MUi J2 pn RR)) (hn : n ≤ n' ∧ n' ≤ n + 7) (h1 : k1' ≤ k1 + 7) (h2 : k2' ≤ k2 + 21) : LV J2 n' k1' k2' (i + 6) := by
  obtain ⟨a1, ⟨m2, a2⟩, ⟨a3, a8, a9, a0⟩, a4, a5, ⟨a6, a7⟩, _⟩ := h
  obtain ⟨⟨⟨m, c1⟩, c2, ⟨c3, c5, c6⟩, c4⟩, cc, ck⟩ := c
  have e1 : J1 164 = J 164 := c4 164 rfl
  have et : tbz J1 = tbz J := tbz_hi (fun c a b => c4 c (decide_eq_true (Or.inr a)))
  obtain ⟨⟨q1, q2, q3, q4, q5⟩, ⟨b1, b2⟩, ⟨b3, b4⟩⟩ := q
  rw [et] at b1 b3
  have lo : ∀ c, c < 164 → J2 c = J1 c := fun c hc => q2 c (Or.inl hc)
  have t2 := a2.told
  have z0 : tbz J 165 0 = m2 := t2.2.2.1
  refine ⟨⟨m, c1.lo lo⟩, q1, ⟨?_, ?_, ?_, ?_⟩, ?_, by omega, by omega, pn, RR, (cc.lo c1 lo).mbt (c1.lo lo) b1, b2, fun _ => ⟨tbz J, pn, RR, ck.of (fun c _ b => lo c (by omega)), ⟨b3, b4⟩, by rw [z0]; exact t2.2.1⟩⟩
  · rw [q2 0 (by decide), q3, c3, e1]; exact a3
  · rw [q2 162 (by decide), q2 173 (by decide), c4 162 rfl, c4 173 rfl]; exact a8
  · rw [q2 0 (by decide), q5, c6]
  · rw [q2 0 (by decide), q4, c5, e1]; exact a0
  · rw [q2 145 (by decide)]; omega
/-- bank -/
theorem LV.b {J2 J1 J : zJ} {n n' k1 k2 k1' k2' : Nat} {i x z k pn : Int} {RR : Int → Int → Int} (h : LV J n k1 k2 i) (hM : ∃ m, MI J m) (im : IMx J) (c : CB3 x k pn RR J1 J) (q : ((∃ m, MI J2 m) ∧ (∀ c, c < 164 ∨ c = 173 → J2 c = J1 c) ∧ J2 183 = J1 183 ∧ ((0 ≤ x ∧ x ≤ J1 164 19 ∧ J2 164 19 = 0 ∧ J2 164 8 = 0 ∧ z = (pAl 703 (pN (pG J1 x))) 0 4 ∧ (¬ (pAl 703 (pN (pG J1 x))) 0 4 = 0 → J2 164 20 = (pAl 703 (pN (pG J1 x))) 0 5 ∧ J2 164 14 = J1 164 14) ∧ ((pAl 703 (pN (pG J1 x))) 0 4 = 0 → J2 164 20 = -1 ∧ J2 164 14 = 0)) ∨ (¬ (0 ≤ x ∧ x ≤ J1 164 19) ∧ J2 164 19 = J1 164 19 ∧ J2 164 8 = 1 ∧ J2 164 20 = J1 164 20 ∧ J2 164 14 = J1 164 14))) ∧ ((¬ (0 ≤ x ∧ x ≤ J1 164 19) ∨ ¬ (pAl 703 (pN (pG J1 x))) 0 4 = 0) → (MBT J2 (tbz J1) ∧ MUr J2 pn RR) ∧ MFI J2 J1) ∧ ((0 ≤ x ∧ x ≤ J1 164 19) → (pAl 703 (pN (pG J1 x))) 0 4 = 0 → (MBT J2 (BS (pAl 703 (pN (pG J1 x)))) ∧ J2 164 10 = 0) ∧ (pAl 703 (pN (pG J1 x))) 165 166 = 0 ∧ (0 ≤ (pAl 703 (pN (pG J1 x))) 165 126 ∧ (pAl 703 (pN (pG J1 x))) 165 126 ≤ 400) ∧ (0 ≤ (pAl 703 (pN (pG J1 x))) 164 44 ∧ (pAl 703 (pN (pG J1 x))) 164 44 ≤ 10))) (hn : n ≤ n' ∧ n' ≤ n + 7) (h1 : k1' ≤ k1 + 7) (h2 : k2' ≤ k2 + 21) : LV J2 n' k1' k2' (i + 6) ∧ J2 164 8 = k ∧ (k = 0 → J2 183 0 = z) := by
  obtain ⟨a1, a2, ⟨a3, a8, a9, a0⟩, a4, a5, ⟨a6, a7⟩, _⟩ := h
  obtain ⟨⟨m, c1⟩, c2, c4, c3⟩ := c
  have e1 : J1 164 = J 164 := c4 164 (by decide)
  have et : tbz J1 = tbz J := tbz_hi (fun c a b => c4 c (by omega))
  obtain ⟨⟨q1, q2, q8, q3⟩, q9, q10⟩ := q
  rw [show pG J1 x = pG J x from pG_e (fun c u v => c4 c (by omega)), e1] at q3
  rw [show pG J1 x = pG J x from pG_e (fun c u v => c4 c (by omega)), e1] at q9 q10
  rw [et] at q9
  have t9 : J2 162 = J2 173 := by rw [q2 162 (by decide), q2 173 (by decide), c4 162 (by decide), c4 173 (by decide)]; exact a8
  have e0 := q2 0 (by decide)
  have lo : ∀ c, c < 164 → J2 c = J1 c := fun c hc => q2 c (Or.inl hc)
  generalize pAl 703 (pN (pG J x)) = r at *
  rcases c3 with ⟨b1, b2, b3, b4, b5, b6⟩ | ⟨b1, b2, ⟨b3, b4, b5⟩, b6, b7⟩
  · rcases q3 with ⟨d1, d2, d3, d4, d5, d6, d7⟩ | ⟨d1, _⟩
    · by_cases hr : r 0 4 = 0
      · obtain ⟨⟨p1, p2⟩, p3, p4, p5⟩ := q10 ⟨d1, d2⟩ hr
        obtain ⟨⟨f1, f2⟩, f3, f4⟩ := b6 hr
        have cc : CAL J1 (BS r) 0 (fun _ _ => 0) := et_cal f3 c1.1.1.1 c1.1.1.2.1 p5 p3 c1.1.1.2.2 f4 rfl
        refine ⟨⟨⟨m, c1.lo lo⟩, q1, ⟨by rw [e0]; omega, t9, by rw [e0, f2, (d7 hr).2], by rw [e0, f1, (d7 hr).1]⟩, by rw [q2 145 (by decide)]; omega, by omega, by omega, 0, (fun _ _ => 0), (cc.lo c1 lo).mbt (c1.lo lo) p1, ⟨p2, fun k a b => absurd b (by omega)⟩, fun w => absurd (d7 hr).2 w⟩, by omega, fun _ => by rw [q8]; omega⟩
      · obtain ⟨⟨p1, p2⟩, p3⟩ := q9 (Or.inr hr)
        obtain ⟨⟨f1, f2⟩, f3, f4⟩ := b5 hr
        exact ⟨⟨⟨m, c1.lo lo⟩, q1, ⟨by rw [e0]; omega, t9, by rw [e0, f2, (d6 hr).2]; exact a9, by rw [e0, f1, (d6 hr).1]⟩, by rw [q2 145 (by decide)]; omega, by omega, by omega, AL.mk (im.hi (fun c hc => hc.elim (fun w => f4 c w.1 w.2) (fun w => c4 c (Or.inr w)))) c1 lo ((d6 hr).2.trans (congrFun e1 14).symm) p3 ⟨_, _, _, f3, p1, p2⟩⟩, by omega, fun _ => by rw [q8]; omega⟩
    · exact absurd ⟨b2.1, by omega⟩ d1
  · rcases q3 with ⟨d1, d2, _⟩ | ⟨d1, d2, d3, d4, d5⟩
    · exact absurd ⟨d1, by omega⟩ b2
    · obtain ⟨⟨p1, p2⟩, p3⟩ := q9 (Or.inl d1)
      exact ⟨⟨⟨m, c1.lo lo⟩, q1, ⟨by rw [e0]; omega, t9, by rw [e0, b4, d5]; exact a9, by rw [e0, b5, d4]; exact a0⟩, by rw [q2 145 (by decide)]; omega, by omega, by omega, AL.mk (im.hi (fun c hc => hc.elim (fun w => b7 c w.1 w.2) (fun w => c4 c (Or.inr w)))) c1 lo (d5.trans (congrFun e1 14).symm) p3 ⟨_, _, _, b6, p1, p2⟩⟩, by omega, fun _ => by omega⟩
theorem LV.f {J2 J1 J : zJ} {n k1 k2 : Nat} {i z1 z2 a b c d e : Int} (h : LV J n k1 k2 i) (x : (∃ m', CI J1 m') ∧ J1 145 10 ≤ J 145 10 + 24000 ∧ zOf (zbut [0, 162]) J1 J ∧ (J1 0 14 = J 0 14 ∧ J1 0 15 = J 0 15) ∧ ((J 0 13 + 20 ≤ 700 ∧ z1 = J 0 13 + 20 ∧ J1 0 13 = J 0 13 + 20 ∧ ∀ x, J1 162 x = if J 0 13 ≤ x ∧ x < J 0 13 + 20 then fB a b c d e (x - J 0 13) else J 162 x) ∨ (700 < J 0 13 + 20 ∧ z1 = -1 ∧ J1 0 13 = J 0 13 ∧ J1 162 = J 162))) (q : (∃ m, MI J2 m) ∧ (zOf (zbut [164, 173]) J2 J1 ∧ ∀ k, ¬ k = 8 → ¬ k = 19 → J2 164 k = J1 164 k) ∧ ((700 < J1 164 19 + 20 ∧ z2 = -1 ∧ J2 164 19 = J1 164 19 ∧ J2 173 = J1 173) ∨ (J1 164 19 + 20 ≤ 700 ∧ z2 = J1 164 19 + 20 ∧ J2 164 19 = J1 164 19 + 20 ∧ ∀ x, J2 173 x = if J1 164 19 ≤ x ∧ x < J1 164 19 + 20 then fB a b c d e (x - J1 164 19) else J1 173 x))) : z1 = z2 ∧ LV J2 n k1 k2 (i + 6) := by
  obtain ⟨⟨m0, a1⟩, ⟨m2, a2⟩, ⟨a3, a8, a9, a0⟩, a4, a5, ⟨a6, a7⟩, pn, RR, cc, uu, im⟩ := h
  obtain ⟨⟨m, c1⟩, c2, c3, ⟨c6, c5⟩, c4⟩ := x
  have e1 : J1 164 = J 164 := c3 164 rfl
  have e3 : J1 173 = J 173 := c3 173 rfl
  obtain ⟨q1, ⟨q2, q4⟩, q3⟩ := q
  rw [e1, e3] at q3
  have e0 := q2 0 rfl
  have f : J2 162 = J1 162 := q2 162 rfl
  have lo : ∀ c, c < 164 → J2 c = J1 c := fun c hc => q2 c (by simp [zbut]; omega)
  have g5 : J2 0 15 = J2 164 14 ∧ J2 0 14 = J2 164 20 := ⟨by rw [e0, q4 14 (by decide) (by decide), c5, e1]; exact a9, by rw [e0, q4 20 (by decide) (by decide), c6, e1]; exact a0⟩
  have hi : ∀ c, 164 ≤ c → c < 183 → J1 c = J c := fun c x y => c3 c (by simp [zbut]; omega)
  have cc1 : CAL J1 (tbz J) pn RR := cc.fr a1 (fun q x y => c3 q (by simp [zbut]; omega))
  have u2 : MUr J2 pn RR := (uu.mid hi).of (q4 10 (by decide) (by decide)) (q4 11 (by decide) (by decide)) (fun k _ => by rw [q2 165 rfl])
  have t2 := a2.told
  have b2 : MBT J2 (tbz J) := by
    rw [← tbz_hi hi]
    have m9 : MBT J1 (tbz J1) := MBT.z (a2.mid hi) MZ.rf
    refine ⟨⟨(q4 9 (by decide) (by decide)).trans m9.1.1, fun k x y => by rw [q2 169 rfl, q2 170 rfl, q2 171 rfl]; exact m9.1.2 k x y⟩, fun k x y => by rw [q2 165 rfl]; exact m9.2.1 k x y, fun t x y => by rw [q2 166 rfl, q2 168 rfl]; exact m9.2.2.1 t x y, fun k x y => by rw [q2 167 rfl]; exact m9.2.2.2 k x y⟩
  have fi : MFI J2 J1 := ⟨fun k _ => by rw [q2 165 rfl], fun k _ _ => ⟨by rw [q2 166 rfl], by rw [q2 168 rfl]⟩, fun k _ _ => by rw [q2 167 rfl], q4 12 (by decide) (by decide), q4 13 (by decide) (by decide)⟩
  have al : AL J2 := AL.mk (im.hi (fun c hc => c3 c (by simp [zbut]; omega))) c1 lo (q4 14 (by decide) (by decide)) fi ⟨_, _, _, cc1, b2, u2⟩
  rcases c4 with ⟨b1, b2, b3, b4⟩ | ⟨b1, b2, b3, b4⟩
  · rcases q3 with ⟨d1, _⟩ | ⟨d1, d2, d3, d4⟩
    · omega
    · refine ⟨by omega, ⟨m, c1.lo lo⟩, q1, ⟨by rw [e0]; omega, ?_, g5⟩, by rw [q2 145 rfl]; omega, by omega, by omega, al⟩
      rw [f]
      funext y
      rw [b4 y, d4 y, ← a3, ← a8]
  · rcases q3 with ⟨d1, d2, d3, d4⟩ | ⟨d1, _⟩
    · exact ⟨by omega, ⟨m, c1.lo lo⟩, q1, ⟨by rw [e0]; omega, by rw [f, b4, d4]; exact a8, g5⟩, by rw [q2 145 rfl]; omega, by omega, by omega, al⟩
    · omega
theorem bo_r {J2 J1 J Gi : zJ} {n ni : Int} {R Ri : Int → Int → Int} (e : J 0 15 = J 164 14) (f : ∀ c, 164 ≤ c → c < 183 → J1 c = J c) (x1 : J 0 15 = 0 → CAL J1 (tbz J) n R) (x2 : ¬ J 0 15 = 0 → CAL J1 (gsy (tbz J) Gi) ni Ri) (y1 : J1 164 14 = 0 → MBT J2 (tbz J1) ∧ MUr J2 n R) (y2 : ¬ J1 164 14 = 0 → MBT J2 (gsy (tbz J1) Gi) ∧ MUr J2 ni Ri) : BO J1 J2 := by
  rw [tbz_hi f] at y1 y2
  rw [f 164 (by decide) (by decide)] at y1 y2
  by_cases q : J 164 14 = 0
  · exact ⟨_, _, _, x1 (by omega), (y1 q).1, (y1 q).2⟩
  · exact ⟨_, _, _, x2 (by omega), (y2 q).1, (y2 q).2⟩
theorem bo_q {J2 J1 J : zJ} {n : Int} {R : Int → Int → Int} (f : ∀ c, 164 ≤ c → c < 183 → J1 c = J c) (x : CAL J1 (tbz J) n R) (y : MBT J2 (tbz J1) ∧ MUr J2 n R) : BO J1 J2 := by
  rw [tbz_hi f] at y
  exact ⟨_, _, _, x, y.1, y.2⟩
theorem wv_bank {J1 J : zJ} {x k pn m : Int} {RR : Int → Int → Int} (c0 : CAL J (tbz J) pn RR) (hI : CI J m) (v : WVX J) (c : CB3 x k pn RR J1 J) (e19 : J 0 13 = J 164 19) (q : (0 ≤ x ∧ x ≤ J1 164 19) → (pAl 703 (pN (pG J1 x))) 0 4 = 0 → (pAl 703 (pN (pG J1 x))) 165 166 = 0 ∧ (0 ≤ (pAl 703 (pN (pG J1 x))) 165 126 ∧ (pAl 703 (pN (pG J1 x))) 165 126 ≤ 400) ∧ (0 ≤ (pAl 703 (pN (pG J1 x))) 164 44 ∧ (pAl 703 (pN (pG J1 x))) 164 44 ≤ 10)) : WVX J1 := by
  have h13 := hI.1.2.2.1.1
  obtain ⟨⟨m1, c1⟩, c2, c4, c3⟩ := c
  have e1 : J1 164 = J 164 := c4 164 (by decide)
  rw [show pG J1 x = pG J x from pG_e (fun c u v => c4 c (by omega)), e1] at q
  rcases c3 with ⟨b1, b2, b3, b4, b5, b6⟩ | ⟨b1, b2, ⟨b3, b4, b5⟩, b6, b7⟩
  · have hx : 0 ≤ x ∧ x ≤ 700 := by omega
    have B : GB (pAl 703 (pN (pG J x))) := pAl_g 703 _ (GB.g0 hx)
    have P : PQ9 (pAl 703 (pN (pG J x))) := pAl_q 703 _ (GB.g0 hx) pG_q
    generalize pAl 703 (pN (pG J x)) = r at *
    by_cases hr : r 0 4 = 0
    · obtain ⟨p3, p4, p5⟩ := q (by omega) hr
      obtain ⟨⟨f1, f2⟩, f3, f4⟩ := b6 hr
      have cc : CAL J1 (BS r) 0 (fun _ _ => 0) := et_cal f3 c1.1.1.1 c1.1.1.2.1 p5 p3 c1.1.1.2.2 f4 rfl
      have e126 : m1 = r 165 126 := c1.1.1.2.1.symm.trans (cc.1.2.1.trans (BS_5 (by decide)))
      exact ⟨cc.wv.2 ⟨wv_new cc.1 c1.1.1.1 c1.1.1.2.1 (by rw [e126]; exact wv_bs P B hr p5 p4) ((BS_5 (by decide)).trans p3), fun k a b => absurd b (by omega)⟩, fun w => absurd f2 w⟩
    · obtain ⟨⟨f1, f2⟩, f3, f4⟩ := b5 hr
      exact ⟨wv_eq c0 hI c1 f3 v.1, v.2.of f4 f2⟩
  · exact ⟨wv_eq c0 hI c1 b6 v.1, v.2.of b7 b4⟩
/-- what holds as a turn of the law begins, the rules besides -/
def LVr (J : zJ) (n k1 k2 : Nat) (i : Int) : Prop := LV J n k1 k2 i ∧ WVX J
set_option maxHeartbeats 4000000 in
set_option maxRecDepth 100000 in
theorem v_feedC {l : Launch} {G : tb_G} (hl : l.stackTraces = false) (n : Nat) (J : zJ) (a : Int) (b : Int) (c : Int) (d : Int) (e : Int) (hr_a : -2147483648 ≤ a ∧ a < 2147483648) (hr_b : -2147483648 ≤ b ∧ b < 2147483648) (hr_c : -2147483648 ≤ c ∧ c < 2147483648) (hr_d : -2147483648 ≤ d ∧ d < 2147483648) (hr_e : -2147483648 ≤ e ∧ e < 2147483648) (m : Int) (hI : CI J m) (h9 : J 145 10 < 1000000000) : tz_Ok l G M_X11_feed 1 0 0 [.ref 0, zi a, zi b, zi c, zi d, zi e] n J (zqi (fun z J' => (∃ m', CI J' m') ∧ J' 145 10 ≤ J 145 10 + 24000 ∧ zOf (zbut [0, 162]) J' J ∧ (J' 0 14 = J 0 14 ∧ J' 0 15 = J 0 15) ∧ ((J 0 13 + 20 ≤ 700 ∧ z = J 0 13 + 20 ∧ J' 0 13 = J 0 13 + 20 ∧ ∀ x, J' 162 x = if J 0 13 ≤ x ∧ x < J 0 13 + 20 then fB a b c d e (x - J 0 13) else J 162 x) ∨ (700 < J 0 13 + 20 ∧ z = -1 ∧ J' 0 13 = J 0 13 ∧ J' 162 = J 162)))) zN := by
  refine tz_Ok.of hl (by decide +kernel) rfl (tb_c1 rfl) (Nat.le_of_ble_eq_true rfl) ?_
  show tz_At l G M_X11_feed (tb_rm 1 0 0) none (tb_ZM G 0 0 (zQ n 0 (zqi (fun z J' => (∃ m', CI J' m') ∧ J' 145 10 ≤ J 145 10 + 24000 ∧ zOf (zbut [0, 162]) J' J ∧ (J' 0 14 = J 0 14 ∧ J' 0 15 = J 0 15) ∧ ((J 0 13 + 20 ≤ 700 ∧ z = J 0 13 + 20 ∧ J' 0 13 = J 0 13 + 20 ∧ ∀ x, J' 162 x = if J 0 13 ≤ x ∧ x < J 0 13 + 20 then fB a b c d e (x - J 0 13) else J 162 x) ∨ (700 < J 0 13 + 20 ∧ z = -1 ∧ J' 0 13 = J 0 13 ∧ J' 162 = J 162))))) (zX n 0 zN)) 0 0 n J 0 [some (.ref 0), some (zi a), some (zi b), some (zi c), some (zi d), some (zi e)] []
  have htp := hI.1.2.2.1
  refine tz_aload_n (pc := 0) dX11_feed_0 rfl rfl ?_
  refine tz_fI (pc := 1) (kz := 13) (v := (J 0 13)) dX11_feed_1 fl_X11_107 i_0_13 rfl rfl (fun r_1 => ?_)
  refine tz_bipush (pc := 4) dX11_feed_4 (by decide) ?_
  refine tz_iadd (pc := 6) (v := (J 0 13) + 20) dX11_feed_6 rfl ?_
  refine tz_sipush (pc := 7) dX11_feed_7 (by decide) ?_
  refine tz_icmp_le (pc := 10) (tgt := 15) dX11_feed_10 (by decide) (by omega) (by decide) (fun h_10 => ?_) (fun h_10 => ?_)
  · refine tz_aload_n (pc := 15) dX11_feed_15 rfl rfl ?_
    refine tz_iload_n (pc := 16) dX11_feed_16 rfl rfl ?_
    refine tz_cV (pc := 17) (x_tapeN hl n _ _ (by omega) (by omega)) vl_X11_118 dX11_feed_17 o_0 rfl rfl (Nat.le_of_ble_eq_true rfl) ⟨(Nat.le_of_ble_eq_true rfl), (Nat.le_of_ble_eq_true rfl)⟩ rfl rfl (Nat.le_of_ble_eq_true rfl) (Nat.le_of_ble_eq_true rfl) (fun r9 J_17 hq9 => ?_)
    obtain ⟨rfl, f_17, k_17, e_17, t_17⟩ := hq9
    refine tz_aload_n (pc := 20) dX11_feed_20 rfl rfl ?_
    refine tz_iload_n (pc := 21) dX11_feed_21 rfl rfl ?_
    refine tz_cV (pc := 22) (x_tapeN hl n _ _ (by omega) (by omega)) vl_X11_118 dX11_feed_22 o_0 rfl rfl (Nat.le_of_ble_eq_true rfl) ⟨(Nat.le_of_ble_eq_true rfl), (Nat.le_of_ble_eq_true rfl)⟩ rfl rfl (Nat.le_of_ble_eq_true rfl) (Nat.le_of_ble_eq_true rfl) (fun r9 J_22 hq9 => ?_)
    obtain ⟨rfl, f_22, k_22, e_22, t_22⟩ := hq9
    refine tz_aload_n (pc := 25) dX11_feed_25 rfl rfl ?_
    refine tz_iload_n (pc := 26) dX11_feed_26 rfl rfl ?_
    refine tz_cV (pc := 27) (x_tapeN hl n _ _ (by omega) (by omega)) vl_X11_118 dX11_feed_27 o_0 rfl rfl (Nat.le_of_ble_eq_true rfl) ⟨(Nat.le_of_ble_eq_true rfl), (Nat.le_of_ble_eq_true rfl)⟩ rfl rfl (Nat.le_of_ble_eq_true rfl) (Nat.le_of_ble_eq_true rfl) (fun r9 J_27 hq9 => ?_)
    obtain ⟨rfl, f_27, k_27, e_27, t_27⟩ := hq9
    refine tz_aload_n (pc := 30) dX11_feed_30 rfl rfl ?_
    refine tz_iload (pc := 31) dX11_feed_31 rfl ?_
    refine tz_cV (pc := 33) (x_tapeN hl n _ _ (by omega) (by omega)) vl_X11_118 dX11_feed_33 o_0 rfl rfl (Nat.le_of_ble_eq_true rfl) ⟨(Nat.le_of_ble_eq_true rfl), (Nat.le_of_ble_eq_true rfl)⟩ rfl rfl (Nat.le_of_ble_eq_true rfl) (Nat.le_of_ble_eq_true rfl) (fun r9 J_33 hq9 => ?_)
    obtain ⟨rfl, f_33, k_33, e_33, t_33⟩ := hq9
    refine tz_aload_n (pc := 36) dX11_feed_36 rfl rfl ?_
    refine tz_iload (pc := 37) dX11_feed_37 rfl ?_
    refine tz_cV (pc := 39) (x_tapeN hl n _ _ (by omega) (by omega)) vl_X11_118 dX11_feed_39 o_0 rfl rfl (Nat.le_of_ble_eq_true rfl) ⟨(Nat.le_of_ble_eq_true rfl), (Nat.le_of_ble_eq_true rfl)⟩ rfl rfl (Nat.le_of_ble_eq_true rfl) (Nat.le_of_ble_eq_true rfl) (fun r9 J_39 hq9 => ?_)
    obtain ⟨rfl, f_39, k_39, e_39, t_39⟩ := hq9
    refine tz_aload_n (pc := 42) dX11_feed_42 rfl rfl ?_
    refine tz_fI (pc := 43) (kz := 13) (v := (J_39 0 13)) dX11_feed_43 fl_X11_107 i_0_13 rfl rfl (fun r_43 => ?_)
    have ff : zOf (zbut [0, 162]) J_39 J := f_39.tr (f_33.tr (f_27.tr (f_22.tr f_17)))
    have kk : ∀ k, ¬ k = 13 → J_39 0 k = J 0 k := fun k hk => by rw [k_39 k hk, k_33 k hk, k_27 k hk, k_22 k hk, k_17 k hk]
    exact tz_iret (pc := 46) (z := (J_39 0 13)) dX11_feed_46 rfl (Nat.le_of_ble_eq_true rfl) (Nat.le_of_ble_eq_true rfl) ⟨Nat.le_refl _, Nat.le_add_right _ _⟩ ⟨_, rfl, (by omega), ⟨⟨m, hI.tape ff (by omega) (kk 15 (by decide))⟩, by rw [ff 145 rfl]; omega, ff, ⟨kk 14 (by decide), kk 15 (by decide)⟩, Or.inl ⟨by omega, by omega, by omega, fd5 e_17 e_22 e_27 e_33 t_17 t_22 t_27 t_33 t_39⟩⟩⟩
  · refine tz_iconst (pc := 13) dX11_feed_13 ?_
    exact tz_iret (pc := 14) (z := (-1)) dX11_feed_14 rfl (Nat.le_of_ble_eq_true rfl) (Nat.le_of_ble_eq_true rfl) ⟨Nat.le_refl _, Nat.le_add_right _ _⟩ ⟨_, rfl, (by decide), ⟨⟨m, hI⟩, by omega, zOf.rf, ⟨rfl, rfl⟩, Or.inr ⟨by omega, rfl, rfl, rfl⟩⟩⟩

set_option maxHeartbeats 4000000 in
set_option maxRecDepth 100000 in
theorem v_qfeedC {l : Launch} {G : tb_G} (hl : l.stackTraces = false) (n : Nat) (J : zJ) (a : Int) (b : Int) (c : Int) (d : Int) (e : Int) (hr_a : -2147483648 ≤ a ∧ a < 2147483648) (hr_b : -2147483648 ≤ b ∧ b < 2147483648) (hr_c : -2147483648 ≤ c ∧ c < 2147483648) (hr_d : -2147483648 ≤ d ∧ d < 2147483648) (hr_e : -2147483648 ≤ e ∧ e < 2147483648) (m : Int) (hI : MI J m)  : tz_Ok l G M_X12_feed 0 0 0 [.ref 164, zi a, zi b, zi c, zi d, zi e] n J (zqi (fun z J' => (∃ m, MI J' m) ∧ (zOf (zbut [164, 173]) J' J ∧ ∀ k, ¬ k = 8 → ¬ k = 19 → J' 164 k = J 164 k) ∧ ((700 < J 164 19 + 20 ∧ z = -1 ∧ J' 164 19 = J 164 19 ∧ J' 173 = J 173) ∨ (J 164 19 + 20 ≤ 700 ∧ z = J 164 19 + 20 ∧ J' 164 19 = J 164 19 + 20 ∧ ∀ x, J' 173 x = if J 164 19 ≤ x ∧ x < J 164 19 + 20 then fB a b c d e (x - J 164 19) else J 173 x)))) zN := by
  refine tz_Ok.of hl (by decide +kernel) rfl (tb_c1 rfl) (Nat.le_of_ble_eq_true rfl) ?_
  show tz_At l G M_X12_feed (tb_rm 0 0 0) none (tb_ZM G 0 0 (zQ n 0 (zqi (fun z J' => (∃ m, MI J' m) ∧ (zOf (zbut [164, 173]) J' J ∧ ∀ k, ¬ k = 8 → ¬ k = 19 → J' 164 k = J 164 k) ∧ ((700 < J 164 19 + 20 ∧ z = -1 ∧ J' 164 19 = J 164 19 ∧ J' 173 = J 173) ∨ (J 164 19 + 20 ≤ 700 ∧ z = J 164 19 + 20 ∧ J' 164 19 = J 164 19 + 20 ∧ ∀ x, J' 173 x = if J 164 19 ≤ x ∧ x < J 164 19 + 20 then fB a b c d e (x - J 164 19) else J 173 x))))) (zX n 0 zN)) 0 0 n J 0 [some (.ref 164), some (zi a), some (zi b), some (zi c), some (zi d), some (zi e), none, none] []
  have hT := hI.told
  have hW := hI.row
  have hM := hI.1
  have hL := hI.2.1
  refine tz_aload_n (pc := 0) dX12_feed_0 rfl rfl ?_
  refine tz_iconst (pc := 1) dX12_feed_1 ?_
  refine tz_pI (pc := 2) (kz := 8) dX12_feed_2 fl_X12_68 i_164_8 rfl rfl (by decide) ?_
  refine tz_aload_n (pc := 5) dX12_feed_5 rfl rfl ?_
  refine tz_fI (pc := 6) (kz := 19) (v := (J 164 19)) dX12_feed_6 fl_X12_328 i_164_19 rfl rfl (fun r_6 => ?_)
  refine tz_bipush (pc := 9) dX12_feed_9 (by decide) ?_
  refine tz_iadd (pc := 11) (v := (J 164 19) + 20) dX12_feed_11 rfl ?_
  refine tz_sipush (pc := 12) dX12_feed_12 (by decide) ?_
  refine tz_icmp_le (pc := 15) (tgt := 20) dX12_feed_15 (by decide) (by omega) (by decide) (fun h_15 => ?_) (fun h_15 => ?_)
  · refine tz_iconst (pc := 20) dX12_feed_20 ?_
    refine tz_istore (pc := 21) (L2 := [_, _, _, _, _, _, _, _]) dX12_feed_21 (by decide) rfl ?_
    have loop23 : ∀ (f9 : Nat) (k : Int) (d7 : Option Value) (J1 : zJ), ((20 - k).toNat) < f9 → (0 ≤ k ∧ k ≤ 20) → (zOf (zbut [173]) J1 (zup J 164 8 0)) → (∀ x, J1 173 x = if J 164 19 ≤ x ∧ x < J 164 19 + k then fB a b c d e (x - J 164 19) else J 173 x) → tz_At l G M_X12_feed (tb_rm 0 0 0) none (tb_ZM G 0 0 (zQ n 0 (zqi (fun z J' => (∃ m, MI J' m) ∧ (zOf (zbut [164, 173]) J' J ∧ ∀ k, ¬ k = 8 → ¬ k = 19 → J' 164 k = J 164 k) ∧ ((700 < J 164 19 + 20 ∧ z = -1 ∧ J' 164 19 = J 164 19 ∧ J' 173 = J 173) ∨ (J 164 19 + 20 ≤ 700 ∧ z = J 164 19 + 20 ∧ J' 164 19 = J 164 19 + 20 ∧ ∀ x, J' 173 x = if J 164 19 ≤ x ∧ x < J 164 19 + 20 then fB a b c d e (x - J 164 19) else J 173 x))))) (zX n 0 zN)) 0 0 n J1 23 [some (.ref 164), some (zi a), some (zi b), some (zi c), some (zi d), some (zi e), some (zi k), d7] [] := by
      intro f9
      induction f9 with
      | zero => intro k d7 J1 hm9; exact absurd hm9 (Nat.not_lt_zero _)
      | succ f9 ih23 =>
        intro k d7 J1 hm23 hk f1 t1
        refine tz_iload (pc := 23) dX12_feed_23 rfl ?_
        refine tz_bipush (pc := 25) dX12_feed_25 (by decide) ?_
        refine tz_icmp_ge (pc := 27) (tgt := 113) dX12_feed_27 (by decide) (by omega) (by decide) (fun h_27 => ?_) (fun h_27 => ?_)
        · refine tz_aload_n (pc := 113) dX12_feed_113 rfl rfl ?_
          refine tz_dup (pc := 114) dX12_feed_114 rfl ?_
          refine tz_fI (pc := 115) (kz := 19) (v := (J 164 19)) dX12_feed_115 fl_X12_328 i_164_19 rfl (Eq.trans (congrFun (f1 164 rfl) 19) rfl) (fun r_115 => ?_)
          refine tz_bipush (pc := 118) dX12_feed_118 (by decide) ?_
          refine tz_iadd (pc := 120) (v := (J 164 19) + 20) dX12_feed_120 rfl ?_
          refine tz_pI (pc := 121) (kz := 19) dX12_feed_121 fl_X12_328 i_164_19 rfl rfl (by omega) ?_
          refine tz_aload_n (pc := 124) dX12_feed_124 rfl rfl ?_
          refine tz_fI (pc := 125) (kz := 19) (v := ((J 164 19) + 20)) dX12_feed_125 fl_X12_328 i_164_19 rfl rfl (fun r_125 => ?_)
          exact tz_iret (pc := 128) (z := ((J 164 19) + 20)) dX12_feed_128 rfl (Nat.le_of_ble_eq_true rfl) (Nat.le_of_ble_eq_true rfl) ⟨Nat.le_refl _, Nat.le_add_right _ _⟩ ⟨_, rfl, (by omega), ⟨(MI.feed (v := J 164 19 + 20) hI f1 (by omega)).1, ⟨zOf.up rfl ((f1.mono (zbut_sub (fun c hc => by simp at hc ⊢; omega))).tr (zOf.up rfl zOf.rf)), fun k x y => (zup_ne y).trans ((congrFun (f1 164 rfl) k).trans (zup_ne x))⟩, Or.inr ⟨by omega, rfl, zup_at, fun x => by show J1 173 x = _; rw [t1 x, show k = 20 from by omega]⟩⟩⟩
        · refine tz_iload (pc := 30) dX12_feed_30 rfl ?_
          refine tz_iconst (pc := 32) dX12_feed_32 ?_
          refine tz_icmp_ge (pc := 33) (tgt := 40) dX12_feed_33 (by decide) (by omega) (by decide) (fun h_33 => ?_) (fun h_33 => ?_)
          · refine tz_iload (pc := 40) dX12_feed_40 rfl ?_
            refine tz_bipush (pc := 42) dX12_feed_42 (by decide) ?_
            refine tz_icmp_ge (pc := 44) (tgt := 51) dX12_feed_44 (by decide) (by omega) (by decide) (fun h_44 => ?_) (fun h_44 => ?_)
            · refine tz_iload (pc := 51) dX12_feed_51 rfl ?_
              refine tz_bipush (pc := 53) dX12_feed_53 (by decide) ?_
              refine tz_icmp_ge (pc := 55) (tgt := 62) dX12_feed_55 (by decide) (by omega) (by decide) (fun h_55 => ?_) (fun h_55 => ?_)
              · refine tz_iload (pc := 62) dX12_feed_62 rfl ?_
                refine tz_bipush (pc := 64) dX12_feed_64 (by decide) ?_
                refine tz_icmp_ge (pc := 66) (tgt := 74) dX12_feed_66 (by decide) (by omega) (by decide) (fun h_66 => ?_) (fun h_66 => ?_)
                · refine tz_iload (pc := 74) dX12_feed_74 rfl ?_
                  refine tz_istore (pc := 76) (L2 := [_, _, _, _, _, _, _, _]) dX12_feed_76 (by decide) rfl ?_
                  refine tz_aload_n (pc := 78) dX12_feed_78 rfl rfl ?_
                  refine tz_fR (pc := 79) dX12_feed_79 fl_X12_34 r_164_18 ?_
                  refine tz_aload_n (pc := 82) dX12_feed_82 rfl rfl ?_
                  refine tz_fI (pc := 83) (kz := 19) (v := (J 164 19)) dX12_feed_83 fl_X12_328 i_164_19 rfl (Eq.trans (congrFun (f1 164 rfl) 19) rfl) (fun r_83 => ?_)
                  refine tz_iload (pc := 86) dX12_feed_86 rfl ?_
                  refine tz_iadd (pc := 88) (v := (J 164 19) + k) dX12_feed_88 rfl ?_
                  refine tz_iload (pc := 89) dX12_feed_89 rfl ?_
                  refine tz_bipush (pc := 91) dX12_feed_91 (by decide) ?_
                  refine tz_bipush (pc := 93) dX12_feed_93 (by decide) ?_
                  refine tz_iload (pc := 95) dX12_feed_95 rfl ?_
                  refine tz_iconst (pc := 97) dX12_feed_97 ?_
                  refine tz_irem (pc := 98) (a := k) (b := 4) (v := (k % 4)) dX12_feed_98 (by omega) (by omega) rfl ?_
                  refine tz_imul (pc := 99) (v := 8 * (k % 4)) dX12_feed_99 rfl ?_
                  refine tz_isub (pc := 100) (v := 24 - (8 * (k % 4))) dX12_feed_100 rfl ?_
                  refine tz_ishr (pc := 101) (v := zshr e (24 - (8 * (k % 4)))) dX12_feed_101 rfl ?_
                  refine tz_sipush (pc := 102) dX12_feed_102 (by decide) ?_
                  refine tz_iand (pc := 105) (v := zand (zshr e (24 - (8 * (k % 4)))) 255) dX12_feed_105 rfl ?_
                  refine tz_aS (pc := 106) (z := ((J 164 19) + k)) dX12_feed_106 a_173 rfl (by omega) (zand_rg _ _) ?_
                  refine tz_iinc (pc := 107) (z := k + 1) (L2 := [_, _, _, _, _, _, _, _]) dX12_feed_107 rfl (by omega) rfl ?_
                  refine tz_goto (pc := 110) (tgt := 23) dX12_feed_110 (by decide) ?_
                  exact ih23 (k + 1) _ _ (by omega) (by omega) (zOf.up rfl f1) (fdM (by omega) (by unfold fB wB; (repeat (first | rw [if_pos (by omega)] | rw [if_neg (by omega)]))) t1)
                · refine tz_iload (pc := 69) dX12_feed_69 rfl ?_
                  refine tz_goto (pc := 71) (tgt := 76) dX12_feed_71 (by decide) ?_
                  refine tz_istore (pc := 76) (L2 := [_, _, _, _, _, _, _, _]) dX12_feed_76 (by decide) rfl ?_
                  refine tz_aload_n (pc := 78) dX12_feed_78 rfl rfl ?_
                  refine tz_fR (pc := 79) dX12_feed_79 fl_X12_34 r_164_18 ?_
                  refine tz_aload_n (pc := 82) dX12_feed_82 rfl rfl ?_
                  refine tz_fI (pc := 83) (kz := 19) (v := (J 164 19)) dX12_feed_83 fl_X12_328 i_164_19 rfl (Eq.trans (congrFun (f1 164 rfl) 19) rfl) (fun r_83 => ?_)
                  refine tz_iload (pc := 86) dX12_feed_86 rfl ?_
                  refine tz_iadd (pc := 88) (v := (J 164 19) + k) dX12_feed_88 rfl ?_
                  refine tz_iload (pc := 89) dX12_feed_89 rfl ?_
                  refine tz_bipush (pc := 91) dX12_feed_91 (by decide) ?_
                  refine tz_bipush (pc := 93) dX12_feed_93 (by decide) ?_
                  refine tz_iload (pc := 95) dX12_feed_95 rfl ?_
                  refine tz_iconst (pc := 97) dX12_feed_97 ?_
                  refine tz_irem (pc := 98) (a := k) (b := 4) (v := (k % 4)) dX12_feed_98 (by omega) (by omega) rfl ?_
                  refine tz_imul (pc := 99) (v := 8 * (k % 4)) dX12_feed_99 rfl ?_
                  refine tz_isub (pc := 100) (v := 24 - (8 * (k % 4))) dX12_feed_100 rfl ?_
                  refine tz_ishr (pc := 101) (v := zshr d (24 - (8 * (k % 4)))) dX12_feed_101 rfl ?_
                  refine tz_sipush (pc := 102) dX12_feed_102 (by decide) ?_
                  refine tz_iand (pc := 105) (v := zand (zshr d (24 - (8 * (k % 4)))) 255) dX12_feed_105 rfl ?_
                  refine tz_aS (pc := 106) (z := ((J 164 19) + k)) dX12_feed_106 a_173 rfl (by omega) (zand_rg _ _) ?_
                  refine tz_iinc (pc := 107) (z := k + 1) (L2 := [_, _, _, _, _, _, _, _]) dX12_feed_107 rfl (by omega) rfl ?_
                  refine tz_goto (pc := 110) (tgt := 23) dX12_feed_110 (by decide) ?_
                  exact ih23 (k + 1) _ _ (by omega) (by omega) (zOf.up rfl f1) (fdM (by omega) (by unfold fB wB; (repeat (first | rw [if_pos (by omega)] | rw [if_neg (by omega)]))) t1)
              · refine tz_iload_n (pc := 58) dX12_feed_58 rfl rfl ?_
                refine tz_goto (pc := 59) (tgt := 76) dX12_feed_59 (by decide) ?_
                refine tz_istore (pc := 76) (L2 := [_, _, _, _, _, _, _, _]) dX12_feed_76 (by decide) rfl ?_
                refine tz_aload_n (pc := 78) dX12_feed_78 rfl rfl ?_
                refine tz_fR (pc := 79) dX12_feed_79 fl_X12_34 r_164_18 ?_
                refine tz_aload_n (pc := 82) dX12_feed_82 rfl rfl ?_
                refine tz_fI (pc := 83) (kz := 19) (v := (J 164 19)) dX12_feed_83 fl_X12_328 i_164_19 rfl (Eq.trans (congrFun (f1 164 rfl) 19) rfl) (fun r_83 => ?_)
                refine tz_iload (pc := 86) dX12_feed_86 rfl ?_
                refine tz_iadd (pc := 88) (v := (J 164 19) + k) dX12_feed_88 rfl ?_
                refine tz_iload (pc := 89) dX12_feed_89 rfl ?_
                refine tz_bipush (pc := 91) dX12_feed_91 (by decide) ?_
                refine tz_bipush (pc := 93) dX12_feed_93 (by decide) ?_
                refine tz_iload (pc := 95) dX12_feed_95 rfl ?_
                refine tz_iconst (pc := 97) dX12_feed_97 ?_
                refine tz_irem (pc := 98) (a := k) (b := 4) (v := (k % 4)) dX12_feed_98 (by omega) (by omega) rfl ?_
                refine tz_imul (pc := 99) (v := 8 * (k % 4)) dX12_feed_99 rfl ?_
                refine tz_isub (pc := 100) (v := 24 - (8 * (k % 4))) dX12_feed_100 rfl ?_
                refine tz_ishr (pc := 101) (v := zshr c (24 - (8 * (k % 4)))) dX12_feed_101 rfl ?_
                refine tz_sipush (pc := 102) dX12_feed_102 (by decide) ?_
                refine tz_iand (pc := 105) (v := zand (zshr c (24 - (8 * (k % 4)))) 255) dX12_feed_105 rfl ?_
                refine tz_aS (pc := 106) (z := ((J 164 19) + k)) dX12_feed_106 a_173 rfl (by omega) (zand_rg _ _) ?_
                refine tz_iinc (pc := 107) (z := k + 1) (L2 := [_, _, _, _, _, _, _, _]) dX12_feed_107 rfl (by omega) rfl ?_
                refine tz_goto (pc := 110) (tgt := 23) dX12_feed_110 (by decide) ?_
                exact ih23 (k + 1) _ _ (by omega) (by omega) (zOf.up rfl f1) (fdM (by omega) (by unfold fB wB; (repeat (first | rw [if_pos (by omega)] | rw [if_neg (by omega)]))) t1)
            · refine tz_iload_n (pc := 47) dX12_feed_47 rfl rfl ?_
              refine tz_goto (pc := 48) (tgt := 76) dX12_feed_48 (by decide) ?_
              refine tz_istore (pc := 76) (L2 := [_, _, _, _, _, _, _, _]) dX12_feed_76 (by decide) rfl ?_
              refine tz_aload_n (pc := 78) dX12_feed_78 rfl rfl ?_
              refine tz_fR (pc := 79) dX12_feed_79 fl_X12_34 r_164_18 ?_
              refine tz_aload_n (pc := 82) dX12_feed_82 rfl rfl ?_
              refine tz_fI (pc := 83) (kz := 19) (v := (J 164 19)) dX12_feed_83 fl_X12_328 i_164_19 rfl (Eq.trans (congrFun (f1 164 rfl) 19) rfl) (fun r_83 => ?_)
              refine tz_iload (pc := 86) dX12_feed_86 rfl ?_
              refine tz_iadd (pc := 88) (v := (J 164 19) + k) dX12_feed_88 rfl ?_
              refine tz_iload (pc := 89) dX12_feed_89 rfl ?_
              refine tz_bipush (pc := 91) dX12_feed_91 (by decide) ?_
              refine tz_bipush (pc := 93) dX12_feed_93 (by decide) ?_
              refine tz_iload (pc := 95) dX12_feed_95 rfl ?_
              refine tz_iconst (pc := 97) dX12_feed_97 ?_
              refine tz_irem (pc := 98) (a := k) (b := 4) (v := (k % 4)) dX12_feed_98 (by omega) (by omega) rfl ?_
              refine tz_imul (pc := 99) (v := 8 * (k % 4)) dX12_feed_99 rfl ?_
              refine tz_isub (pc := 100) (v := 24 - (8 * (k % 4))) dX12_feed_100 rfl ?_
              refine tz_ishr (pc := 101) (v := zshr b (24 - (8 * (k % 4)))) dX12_feed_101 rfl ?_
              refine tz_sipush (pc := 102) dX12_feed_102 (by decide) ?_
              refine tz_iand (pc := 105) (v := zand (zshr b (24 - (8 * (k % 4)))) 255) dX12_feed_105 rfl ?_
              refine tz_aS (pc := 106) (z := ((J 164 19) + k)) dX12_feed_106 a_173 rfl (by omega) (zand_rg _ _) ?_
              refine tz_iinc (pc := 107) (z := k + 1) (L2 := [_, _, _, _, _, _, _, _]) dX12_feed_107 rfl (by omega) rfl ?_
              refine tz_goto (pc := 110) (tgt := 23) dX12_feed_110 (by decide) ?_
              exact ih23 (k + 1) _ _ (by omega) (by omega) (zOf.up rfl f1) (fdM (by omega) (by unfold fB wB; (repeat (first | rw [if_pos (by omega)] | rw [if_neg (by omega)]))) t1)
          · refine tz_iload_n (pc := 36) dX12_feed_36 rfl rfl ?_
            refine tz_goto (pc := 37) (tgt := 76) dX12_feed_37 (by decide) ?_
            refine tz_istore (pc := 76) (L2 := [_, _, _, _, _, _, _, _]) dX12_feed_76 (by decide) rfl ?_
            refine tz_aload_n (pc := 78) dX12_feed_78 rfl rfl ?_
            refine tz_fR (pc := 79) dX12_feed_79 fl_X12_34 r_164_18 ?_
            refine tz_aload_n (pc := 82) dX12_feed_82 rfl rfl ?_
            refine tz_fI (pc := 83) (kz := 19) (v := (J 164 19)) dX12_feed_83 fl_X12_328 i_164_19 rfl (Eq.trans (congrFun (f1 164 rfl) 19) rfl) (fun r_83 => ?_)
            refine tz_iload (pc := 86) dX12_feed_86 rfl ?_
            refine tz_iadd (pc := 88) (v := (J 164 19) + k) dX12_feed_88 rfl ?_
            refine tz_iload (pc := 89) dX12_feed_89 rfl ?_
            refine tz_bipush (pc := 91) dX12_feed_91 (by decide) ?_
            refine tz_bipush (pc := 93) dX12_feed_93 (by decide) ?_
            refine tz_iload (pc := 95) dX12_feed_95 rfl ?_
            refine tz_iconst (pc := 97) dX12_feed_97 ?_
            refine tz_irem (pc := 98) (a := k) (b := 4) (v := (k % 4)) dX12_feed_98 (by omega) (by omega) rfl ?_
            refine tz_imul (pc := 99) (v := 8 * (k % 4)) dX12_feed_99 rfl ?_
            refine tz_isub (pc := 100) (v := 24 - (8 * (k % 4))) dX12_feed_100 rfl ?_
            refine tz_ishr (pc := 101) (v := zshr a (24 - (8 * (k % 4)))) dX12_feed_101 rfl ?_
            refine tz_sipush (pc := 102) dX12_feed_102 (by decide) ?_
            refine tz_iand (pc := 105) (v := zand (zshr a (24 - (8 * (k % 4)))) 255) dX12_feed_105 rfl ?_
            refine tz_aS (pc := 106) (z := ((J 164 19) + k)) dX12_feed_106 a_173 rfl (by omega) (zand_rg _ _) ?_
            refine tz_iinc (pc := 107) (z := k + 1) (L2 := [_, _, _, _, _, _, _, _]) dX12_feed_107 rfl (by omega) rfl ?_
            refine tz_goto (pc := 110) (tgt := 23) dX12_feed_110 (by decide) ?_
            exact ih23 (k + 1) _ _ (by omega) (by omega) (zOf.up rfl f1) (fdM (by omega) (by unfold fB wB; (repeat (first | rw [if_pos (by omega)] | rw [if_neg (by omega)]))) t1)
    exact loop23 _ 0 none _ (Nat.lt_succ_self _) (by omega) zOf.rf (fun x => (if_neg (by omega)).symm)
  · refine tz_iconst (pc := 18) dX12_feed_18 ?_
    exact tz_iret (pc := 19) (z := (-1)) dX12_feed_19 rfl (Nat.le_of_ble_eq_true rfl) (Nat.le_of_ble_eq_true rfl) ⟨Nat.le_refl _, Nat.le_add_right _ _⟩ ⟨_, rfl, (by decide), ⟨⟨m, hI.z (MZ.up (k := 8) MZ.rf (by decide))⟩, ⟨zOf.up rfl zOf.rf, fun k x y => zup_ne x⟩, Or.inl ⟨by omega, rfl, rfl, rfl⟩⟩⟩

set_option maxHeartbeats 4000000 in
set_option maxRecDepth 100000 in
theorem law_feed {l : Launch} {G : tb_G} {Lx : Nat} {xs : Nat → Int32} {k1 k2 n : Nat} {J : zJ} (hl : l.stackTraces = false) (i : Int) (hi : 0 ≤ i ∧ i + 6 ≤ (Lx : Int)) (hx : Lx ≤ 3072) (d5 d6 : Option Value) (h : LVr J n k1 k2 i) (nx : ∀ (k1 k2 n : Nat) (J : zJ) (d5 d6 : Option Value), LVr J n k1 k2 (i + 6) → tz_At l G M_L_law room_1 (some (Lx, xs)) tb_LZ k1 k2 n J 1330 [some (.ref tb_sc), some (.ref 0), some (.ref 164), some (.ref 183), some (zi i), d5, d6] []) : tz_At l G M_L_law room_1 (some (Lx, xs)) tb_LZ k1 k2 n J 188 [some (.ref tb_sc), some (.ref 0), some (.ref 164), some (.ref 183), some (zi i), d5, d6] [] := by
  obtain ⟨h, hrv⟩ := h
  obtain ⟨⟨m, hC⟩, ⟨m2, hM⟩, h3, h4, h5, ⟨h6, h7⟩, pn, RR, hcc, huu, him⟩ := id h
  have h9 : J 145 10 < 1000000000 := by omega
  have hnb : n ≤ tb_sc := by show n ≤ 1000000; omega
  refine tz_aload_n (pc := 188) dL_law_188 rfl rfl ?_
  refine tz_aload_n (pc := 189) dL_law_189 rfl rfl ?_
  refine tz_iload (pc := 190) dL_law_190 rfl ?_
  refine tz_iconst (pc := 192) dL_law_192 ?_
  refine tz_iadd (pc := 193) (v := i + 1) dL_law_193 rfl ?_
  refine tz_sld (pc := 194) (z := (i + 1)) rfl dL_law_194 (by omega) (by omega) (fun r_194 => ?_)
  refine tz_aload_n (pc := 195) dL_law_195 rfl rfl ?_
  refine tz_iload (pc := 196) dL_law_196 rfl ?_
  refine tz_iconst (pc := 198) dL_law_198 ?_
  refine tz_iadd (pc := 199) (v := i + 2) dL_law_199 rfl ?_
  refine tz_sld (pc := 200) (z := (i + 2)) rfl dL_law_200 (by omega) (by omega) (fun r_200 => ?_)
  refine tz_aload_n (pc := 201) dL_law_201 rfl rfl ?_
  refine tz_iload (pc := 202) dL_law_202 rfl ?_
  refine tz_iconst (pc := 204) dL_law_204 ?_
  refine tz_iadd (pc := 205) (v := i + 3) dL_law_205 rfl ?_
  refine tz_sld (pc := 206) (z := (i + 3)) rfl dL_law_206 (by omega) (by omega) (fun r_206 => ?_)
  refine tz_aload_n (pc := 207) dL_law_207 rfl rfl ?_
  refine tz_iload (pc := 208) dL_law_208 rfl ?_
  refine tz_iconst (pc := 210) dL_law_210 ?_
  refine tz_iadd (pc := 211) (v := i + 4) dL_law_211 rfl ?_
  refine tz_sld (pc := 212) (z := (i + 4)) rfl dL_law_212 (by omega) (by omega) (fun r_212 => ?_)
  refine tz_aload_n (pc := 213) dL_law_213 rfl rfl ?_
  refine tz_iload (pc := 214) dL_law_214 rfl ?_
  refine tz_iconst (pc := 216) dL_law_216 ?_
  refine tz_iadd (pc := 217) (v := i + 5) dL_law_217 rfl ?_
  refine tz_sld (pc := 218) (z := (i + 5)) rfl dL_law_218 (by omega) (by omega) (fun r_218 => ?_)
  refine tz_cV (pc := 219) (v_feedC hl _ _ _ _ _ _ _ (z_rg _) (z_rg _) (z_rg _) (z_rg _) (z_rg _) m hC h9) vl_L_59 dL_law_219 o_0 rfl rfl (Nat.le_of_ble_eq_true rfl) ⟨(Nat.le_of_ble_eq_true rfl), (Nat.le_of_ble_eq_true rfl)⟩ rfl rfl (show k1 ≤ 601024 by omega) (show k2 ≤ 7293034 by omega) (fun r9 J_219 hq9 => ?_)
  obtain ⟨z_219, rfl, hz_219, x_219⟩ := hq9
  have hM2 := hM.mid (fun c x y => x_219.2.2.1 c (by simp [zbut]; omega))
  refine tz_pop (pc := 222) dL_law_222 rfl ?_
  refine tz_aload_n (pc := 223) dL_law_223 rfl rfl ?_
  refine tz_aload_n (pc := 224) dL_law_224 rfl rfl ?_
  refine tz_iload (pc := 225) dL_law_225 rfl ?_
  refine tz_iconst (pc := 227) dL_law_227 ?_
  refine tz_iadd (pc := 228) (v := i + 1) dL_law_228 rfl ?_
  refine tz_sld (pc := 229) (z := (i + 1)) rfl dL_law_229 (by omega) (by omega) (fun r_229 => ?_)
  refine tz_aload_n (pc := 230) dL_law_230 rfl rfl ?_
  refine tz_iload (pc := 231) dL_law_231 rfl ?_
  refine tz_iconst (pc := 233) dL_law_233 ?_
  refine tz_iadd (pc := 234) (v := i + 2) dL_law_234 rfl ?_
  refine tz_sld (pc := 235) (z := (i + 2)) rfl dL_law_235 (by omega) (by omega) (fun r_235 => ?_)
  refine tz_aload_n (pc := 236) dL_law_236 rfl rfl ?_
  refine tz_iload (pc := 237) dL_law_237 rfl ?_
  refine tz_iconst (pc := 239) dL_law_239 ?_
  refine tz_iadd (pc := 240) (v := i + 3) dL_law_240 rfl ?_
  refine tz_sld (pc := 241) (z := (i + 3)) rfl dL_law_241 (by omega) (by omega) (fun r_241 => ?_)
  refine tz_aload_n (pc := 242) dL_law_242 rfl rfl ?_
  refine tz_iload (pc := 243) dL_law_243 rfl ?_
  refine tz_iconst (pc := 245) dL_law_245 ?_
  refine tz_iadd (pc := 246) (v := i + 4) dL_law_246 rfl ?_
  refine tz_sld (pc := 247) (z := (i + 4)) rfl dL_law_247 (by omega) (by omega) (fun r_247 => ?_)
  refine tz_aload_n (pc := 248) dL_law_248 rfl rfl ?_
  refine tz_iload (pc := 249) dL_law_249 rfl ?_
  refine tz_iconst (pc := 251) dL_law_251 ?_
  refine tz_iadd (pc := 252) (v := i + 5) dL_law_252 rfl ?_
  refine tz_sld (pc := 253) (z := (i + 5)) rfl dL_law_253 (by omega) (by omega) (fun r_253 => ?_)
  refine tz_cV (pc := 254) (v_qfeedC hl _ _ _ _ _ _ _ (z_rg _) (z_rg _) (z_rg _) (z_rg _) (z_rg _) m2 hM2) vl_L_63 dL_law_254 o_164 rfl rfl (Nat.le_of_ble_eq_true rfl) ⟨(Nat.le_of_ble_eq_true rfl), (Nat.le_of_ble_eq_true rfl)⟩ rfl rfl (show k1 ≤ 601024 by omega) (show k2 ≤ 7293034 by omega) (fun r9 J_254 hq9 => ?_)
  obtain ⟨z_254, rfl, hz_254, y_254⟩ := hq9
  obtain ⟨ez9, lv9⟩ := LV.f h x_219 y_254
  refine tz_pop (pc := 257) dL_law_257 rfl ?_
  refine tz_goto (pc := 258) (tgt := 1330) dL_law_258 (by decide) ?_
  exact nx _ _ _ _ _ _ ⟨lv9, (WVX.lo (⟨hrv.1.of (fun c a b => x_219.2.2.1 c (by simp [zbut]; omega)), hrv.2.of (fun c a b => x_219.2.2.1 c (by simp [zbut]; omega)) x_219.2.2.2.1.2⟩) (fun c hc => y_254.2.1.1 c (by simp [zbut]; omega)))⟩

set_option maxHeartbeats 4000000 in
set_option maxRecDepth 100000 in
theorem law_bank {l : Launch} {G : tb_G} {Lx : Nat} {xs : Nat → Int32} {k1 k2 n : Nat} {J : zJ} (hl : l.stackTraces = false) (i : Int) (hi : 0 ≤ i ∧ i + 6 ≤ (Lx : Int)) (hx : Lx ≤ 3072) (d5 d6 : Option Value) (h : LVr J n k1 k2 i) (nx : ∀ (k1 k2 n : Nat) (J : zJ) (d5 d6 : Option Value), LVr J n k1 k2 (i + 6) → tz_At l G M_L_law room_1 (some (Lx, xs)) tb_LZ k1 k2 n J 1330 [some (.ref tb_sc), some (.ref 0), some (.ref 164), some (.ref 183), some (zi i), d5, d6] []) : tz_At l G M_L_law room_1 (some (Lx, xs)) tb_LZ k1 k2 n J 261 [some (.ref tb_sc), some (.ref 0), some (.ref 164), some (.ref 183), some (zi i), d5, d6] [] := by
  obtain ⟨h, hrv⟩ := h
  obtain ⟨⟨m, hC⟩, ⟨m2, hM⟩, h3, h4, h5, ⟨h6, h7⟩, pn, RR, hcc, huu, him⟩ := id h
  have h9 : J 145 10 < 1000000000 := by omega
  have hnb : n ≤ tb_sc := by show n ≤ 1000000; omega
  refine tz_aload_n (pc := 261) dL_law_261 rfl rfl ?_
  refine tz_aload_n (pc := 262) dL_law_262 rfl rfl ?_
  refine tz_iload (pc := 263) dL_law_263 rfl ?_
  refine tz_iconst (pc := 265) dL_law_265 ?_
  refine tz_iadd (pc := 266) (v := i + 1) dL_law_266 rfl ?_
  refine tz_sld (pc := 267) (z := (i + 1)) rfl dL_law_267 (by omega) (by omega) (fun r_267 => ?_)
  refine tz_aload_n (pc := 268) dL_law_268 rfl rfl ?_
  refine tz_cH (pc := 269) (nA := 3) (lw_bank hl _ _ _ (z_rg _) m pn RR hnb hC h9 hcc h3.2.1) ml_L_64 ms_L_bank ch_L_bank wk_ini_L (by decide +kernel) dL_law_269 rfl rfl (Nat.le_of_ble_eq_true rfl) ⟨(Nat.le_of_ble_eq_true rfl), (Nat.le_of_ble_eq_true rfl)⟩ rfl rfl (show k1 + 1 ≤ 601024 by omega) (show k2 + 6 ≤ 7293034 by omega) (fun r9 n_269 J_269 hn1_269 hn2_269 hq9 => ?_)
  obtain ⟨z_269, rfl, hz_269, cw_269⟩ := hq9
  have fh9 : ∀ c, 164 ≤ c → c < 183 → J_269 c = J c := fun c x y => cw_269.2.2.1 c (Or.inr ⟨x, y⟩)
  have hM2 := hM.mid fh9
  have hu2 := huu.mid fh9
  refine tz_istore (pc := 272) (L2 := [_, _, _, _, _, _, _]) dL_law_272 (by decide) rfl ?_
  refine tz_aload_n (pc := 274) dL_law_274 rfl rfl ?_
  refine tz_aload_n (pc := 275) dL_law_275 rfl rfl ?_
  refine tz_iload (pc := 276) dL_law_276 rfl ?_
  refine tz_iconst (pc := 278) dL_law_278 ?_
  refine tz_iadd (pc := 279) (v := i + 1) dL_law_279 rfl ?_
  refine tz_sld (pc := 280) (z := (i + 1)) rfl dL_law_280 (by omega) (by omega) (fun r_280 => ?_)
  refine tz_cV (pc := 281) (v_qbankC hl _ _ _ (z_rg _) m2 pn RR hM2 hu2) vl_L_69 dL_law_281 o_164 rfl rfl (Nat.le_of_ble_eq_true rfl) ⟨(Nat.le_of_ble_eq_true rfl), (Nat.le_of_ble_eq_true rfl)⟩ rfl rfl (show k1 + 1 ≤ 601024 by omega) (show k2 + 6 ≤ 7293034 by omega) (fun r9 J_281 hq9 => ?_)
  obtain ⟨z_281, rfl, hz_281, y_281⟩ := hq9
  obtain ⟨lv9, et9, eo9⟩ := LV.b (n' := n_269) (k1' := k1 + 1) (k2' := k2 + 6) h ⟨m2, hM⟩ him cw_269 y_281 ⟨by omega, by omega⟩ (by omega) (by omega)
  refine tz_istore (pc := 284) (L2 := [_, _, _, _, _, _, _]) dL_law_284 (by decide) rfl ?_
  refine tz_goto (pc := 286) (tgt := 1330) dL_law_286 (by decide) ?_
  exact nx _ _ _ _ _ _ ⟨lv9, (WVX.lo (wv_bank hcc hC hrv cw_269 h3.1 (fun a b => (y_281.2.2 a b).2)) (fun c hc => y_281.1.2.1 c (Or.inl hc)))⟩

set_option maxHeartbeats 4000000 in
set_option maxRecDepth 100000 in
theorem law_fault {l : Launch} {G : tb_G} {Lx : Nat} {xs : Nat → Int32} {k1 k2 n : Nat} {J : zJ} (hl : l.stackTraces = false) (i : Int) (hi : 0 ≤ i ∧ i + 6 ≤ (Lx : Int)) (hx : Lx ≤ 3072) (d5 d6 : Option Value) (h : LVr J n k1 k2 i) (nx : ∀ (k1 k2 n : Nat) (J : zJ) (d5 d6 : Option Value), LVr J n k1 k2 (i + 6) → tz_At l G M_L_law room_1 (some (Lx, xs)) tb_LZ k1 k2 n J 1330 [some (.ref tb_sc), some (.ref 0), some (.ref 164), some (.ref 183), some (zi i), d5, d6] []) : tz_At l G M_L_law room_1 (some (Lx, xs)) tb_LZ k1 k2 n J 289 [some (.ref tb_sc), some (.ref 0), some (.ref 164), some (.ref 183), some (zi i), d5, d6] [] := by
  obtain ⟨h, hrv⟩ := h
  obtain ⟨⟨m, hC⟩, ⟨m2, hM⟩, h3, h4, h5, ⟨h6, h7⟩, pn, RR, hcc, huu, him⟩ := id h
  have h9 : J 145 10 < 1000000000 := by omega
  have hnb : n ≤ tb_sc := by show n ≤ 1000000; omega
  refine tz_aload_n (pc := 289) dL_law_289 rfl rfl ?_
  refine tz_cV (pc := 290) (l_fault hl _ _   m (tbz J) pn RR hC h9 hcc rfl) vl_L_70 dL_law_290 o_0 rfl rfl (Nat.le_of_ble_eq_true rfl) ⟨(Nat.le_of_ble_eq_true rfl), (Nat.le_of_ble_eq_true rfl)⟩ rfl rfl (show k1 ≤ 601024 by omega) (show k2 ≤ 7293034 by omega) (fun r9 J_290 hq9 => ?_)
  obtain ⟨z_290, rfl, hz_290, x_290⟩ := hq9
  have cw_290 : CW J_290 J := CW.c x_290.1
  have fh9 : ∀ c, 164 ≤ c → c < 183 → J_290 c = J c := fun c x y => cw_290.2.2.2 c (Or.inr (Or.inr ⟨x, y⟩))
  have hM2 := hM.mid fh9
  have hu2 := huu.mid fh9
  refine tz_pop (pc := 293) dL_law_293 rfl ?_
  refine tz_aload_n (pc := 294) dL_law_294 rfl rfl ?_
  refine tz_cV (pc := 295) (k_fault hl _ _   m2 pn RR hM2 hu2) vl_L_74 dL_law_295 o_164 rfl rfl (Nat.le_of_ble_eq_true rfl) ⟨(Nat.le_of_ble_eq_true rfl), (Nat.le_of_ble_eq_true rfl)⟩ rfl rfl (show k1 ≤ 601024 by omega) (show k2 ≤ 7293034 by omega) (fun r9 J_295 hq9 => ?_)
  obtain ⟨z_295, rfl, hz_295, y_295⟩ := hq9
  have bo9 := bo_q fh9 x_290.2.1 ⟨y_295.2.2.1, y_295.2.2.2.1⟩
  have ez9 : z_290 = z_295 := (x_290.2.2.symm).trans (h3.2.2.2.trans ((congrFun (fh9 164 (by decide) (by decide)) 20).symm.trans y_295.2.2.2.2))
  refine tz_pop (pc := 298) dL_law_298 rfl ?_
  refine tz_goto (pc := 299) (tgt := 1330) dL_law_299 (by decide) ?_
  exact nx _ _ _ _ _ _ ⟨(LV.q h cw_290 y_295.1 y_295.2.1 bo9 ⟨by omega, by omega⟩ (by omega) (by omega)), (WVX.lo (⟨cw_290.1.elim (fun m1 h1 => wv_eq hcc hC h1 x_290.2.1 hrv.1), hrv.2.of (fun c a b => cw_290.2.2.2 c (Or.inl ⟨a, b⟩)) cw_290.2.2.1.2.1⟩) (fun c hc => y_295.1.2.1 c (Or.inl hc)))⟩

set_option maxHeartbeats 4000000 in
set_option maxRecDepth 100000 in
theorem law_count {l : Launch} {G : tb_G} {Lx : Nat} {xs : Nat → Int32} {k1 k2 n : Nat} {J : zJ} (hl : l.stackTraces = false) (i : Int) (hi : 0 ≤ i ∧ i + 6 ≤ (Lx : Int)) (hx : Lx ≤ 3072) (d5 d6 : Option Value) (h : LVr J n k1 k2 i) (nx : ∀ (k1 k2 n : Nat) (J : zJ) (d5 d6 : Option Value), LVr J n k1 k2 (i + 6) → tz_At l G M_L_law room_1 (some (Lx, xs)) tb_LZ k1 k2 n J 1330 [some (.ref tb_sc), some (.ref 0), some (.ref 164), some (.ref 183), some (zi i), d5, d6] []) : tz_At l G M_L_law room_1 (some (Lx, xs)) tb_LZ k1 k2 n J 302 [some (.ref tb_sc), some (.ref 0), some (.ref 164), some (.ref 183), some (zi i), d5, d6] [] := by
  obtain ⟨h, hrv⟩ := h
  obtain ⟨⟨m, hC⟩, ⟨m2, hM⟩, h3, h4, h5, ⟨h6, h7⟩, pn, RR, hcc, huu, him⟩ := id h
  have h9 : J 145 10 < 1000000000 := by omega
  have hnb : n ≤ tb_sc := by show n ≤ 1000000; omega
  refine tz_aload_n (pc := 302) dL_law_302 rfl rfl ?_
  refine tz_aload_n (pc := 303) dL_law_303 rfl rfl ?_
  refine tz_iload (pc := 304) dL_law_304 rfl ?_
  refine tz_iconst (pc := 306) dL_law_306 ?_
  refine tz_iadd (pc := 307) (v := i + 1) dL_law_307 rfl ?_
  refine tz_sld (pc := 308) (z := (i + 1)) rfl dL_law_308 (by omega) (by omega) (fun r_308 => ?_)
  refine tz_aload_n (pc := 309) dL_law_309 rfl rfl ?_
  refine tz_cH (pc := 310) (nA := 3) (lw_count hl _ _ _ (z_rg _) m pn RR hC h9 hcc) ml_L_75 ms_L_count ch_L_count wk_ini_L (by decide +kernel) dL_law_310 rfl rfl (Nat.le_of_ble_eq_true rfl) ⟨(Nat.le_of_ble_eq_true rfl), (Nat.le_of_ble_eq_true rfl)⟩ rfl rfl (show k1 + 1 ≤ 601024 by omega) (show k2 + 6 ≤ 7293034 by omega) (fun r9 n_310 J_310 hn1_310 hn2_310 hq9 => ?_)
  obtain ⟨z_310, rfl, hz_310, cw_310, cc_310⟩ := hq9
  have fh9 : ∀ c, 164 ≤ c → c < 183 → J_310 c = J c := fun c x y => cw_310.2.2.2 c (Or.inr (Or.inr ⟨x, y⟩))
  have hM2 := hM.mid fh9
  have hu2 := huu.mid fh9
  refine tz_istore (pc := 313) (L2 := [_, _, _, _, _, _, _]) dL_law_313 (by decide) rfl ?_
  refine tz_aload_n (pc := 315) dL_law_315 rfl rfl ?_
  refine tz_aload_n (pc := 316) dL_law_316 rfl rfl ?_
  refine tz_iload (pc := 317) dL_law_317 rfl ?_
  refine tz_iconst (pc := 319) dL_law_319 ?_
  refine tz_iadd (pc := 320) (v := i + 1) dL_law_320 rfl ?_
  refine tz_sld (pc := 321) (z := (i + 1)) rfl dL_law_321 (by omega) (by omega) (fun r_321 => ?_)
  refine tz_cV (pc := 322) (k_count hl _ _ _ (z_rg _) m2 pn RR hM2 hu2) vl_L_77 dL_law_322 o_164 rfl rfl (Nat.le_of_ble_eq_true rfl) ⟨(Nat.le_of_ble_eq_true rfl), (Nat.le_of_ble_eq_true rfl)⟩ rfl rfl (show k1 + 1 ≤ 601024 by omega) (show k2 + 6 ≤ 7293034 by omega) (fun r9 J_322 hq9 => ?_)
  obtain ⟨z_322, rfl, hz_322, y_322⟩ := hq9
  have bo9 := bo_q fh9 cc_310 y_322.2.2
  refine tz_istore (pc := 325) (L2 := [_, _, _, _, _, _, _]) dL_law_325 (by decide) rfl ?_
  refine tz_goto (pc := 327) (tgt := 1330) dL_law_327 (by decide) ?_
  exact nx _ _ _ _ _ _ ⟨(LV.q h cw_310 y_322.1 y_322.2.1 bo9 ⟨by omega, by omega⟩ (by omega) (by omega)), (WVX.lo (⟨cw_310.1.elim (fun m1 h1 => wv_eq hcc hC h1 cc_310 hrv.1), hrv.2.of (fun c a b => cw_310.2.2.2 c (Or.inl ⟨a, b⟩)) cw_310.2.2.1.2.1⟩) (fun c hc => y_322.1.2.1 c (Or.inl hc)))⟩

set_option maxHeartbeats 4000000 in
set_option maxRecDepth 100000 in
theorem law_symbol {l : Launch} {G : tb_G} {Lx : Nat} {xs : Nat → Int32} {k1 k2 n : Nat} {J : zJ} (hl : l.stackTraces = false) (i : Int) (hi : 0 ≤ i ∧ i + 6 ≤ (Lx : Int)) (hx : Lx ≤ 3072) (d5 d6 : Option Value) (h : LVr J n k1 k2 i) (nx : ∀ (k1 k2 n : Nat) (J : zJ) (d5 d6 : Option Value), LVr J n k1 k2 (i + 6) → tz_At l G M_L_law room_1 (some (Lx, xs)) tb_LZ k1 k2 n J 1330 [some (.ref tb_sc), some (.ref 0), some (.ref 164), some (.ref 183), some (zi i), d5, d6] []) : tz_At l G M_L_law room_1 (some (Lx, xs)) tb_LZ k1 k2 n J 330 [some (.ref tb_sc), some (.ref 0), some (.ref 164), some (.ref 183), some (zi i), d5, d6] [] := by
  obtain ⟨h, hrv⟩ := h
  obtain ⟨⟨m, hC⟩, ⟨m2, hM⟩, h3, h4, h5, ⟨h6, h7⟩, pn, RR, hcc, huu, him⟩ := id h
  have h9 : J 145 10 < 1000000000 := by omega
  have hnb : n ≤ tb_sc := by show n ≤ 1000000; omega
  refine tz_aload_n (pc := 330) dL_law_330 rfl rfl ?_
  refine tz_aload_n (pc := 331) dL_law_331 rfl rfl ?_
  refine tz_iload (pc := 332) dL_law_332 rfl ?_
  refine tz_iconst (pc := 334) dL_law_334 ?_
  refine tz_iadd (pc := 335) (v := i + 1) dL_law_335 rfl ?_
  refine tz_sld (pc := 336) (z := (i + 1)) rfl dL_law_336 (by omega) (by omega) (fun r_336 => ?_)
  refine tz_aload_n (pc := 337) dL_law_337 rfl rfl ?_
  refine tz_iload (pc := 338) dL_law_338 rfl ?_
  refine tz_iconst (pc := 340) dL_law_340 ?_
  refine tz_iadd (pc := 341) (v := i + 2) dL_law_341 rfl ?_
  refine tz_sld (pc := 342) (z := (i + 2)) rfl dL_law_342 (by omega) (by omega) (fun r_342 => ?_)
  refine tz_aload_n (pc := 343) dL_law_343 rfl rfl ?_
  refine tz_cH (pc := 344) (nA := 4) (lw_symbol hl _ _ _ _ (z_rg _) (z_rg _) m pn RR hC h9 hcc) ml_L_78 ms_L_symbol ch_L_symbol wk_ini_L (by decide +kernel) dL_law_344 rfl rfl (Nat.le_of_ble_eq_true rfl) ⟨(Nat.le_of_ble_eq_true rfl), (Nat.le_of_ble_eq_true rfl)⟩ rfl rfl (show k1 + 1 ≤ 601024 by omega) (show k2 + 6 ≤ 7293034 by omega) (fun r9 n_344 J_344 hn1_344 hn2_344 hq9 => ?_)
  obtain ⟨z_344, rfl, hz_344, cw_344, cc_344⟩ := hq9
  have fh9 : ∀ c, 164 ≤ c → c < 183 → J_344 c = J c := fun c x y => cw_344.2.2.2 c (Or.inr (Or.inr ⟨x, y⟩))
  have hM2 := hM.mid fh9
  have hu2 := huu.mid fh9
  refine tz_istore (pc := 347) (L2 := [_, _, _, _, _, _, _]) dL_law_347 (by decide) rfl ?_
  refine tz_aload_n (pc := 349) dL_law_349 rfl rfl ?_
  refine tz_aload_n (pc := 350) dL_law_350 rfl rfl ?_
  refine tz_iload (pc := 351) dL_law_351 rfl ?_
  refine tz_iconst (pc := 353) dL_law_353 ?_
  refine tz_iadd (pc := 354) (v := i + 1) dL_law_354 rfl ?_
  refine tz_sld (pc := 355) (z := (i + 1)) rfl dL_law_355 (by omega) (by omega) (fun r_355 => ?_)
  refine tz_aload_n (pc := 356) dL_law_356 rfl rfl ?_
  refine tz_iload (pc := 357) dL_law_357 rfl ?_
  refine tz_iconst (pc := 359) dL_law_359 ?_
  refine tz_iadd (pc := 360) (v := i + 2) dL_law_360 rfl ?_
  refine tz_sld (pc := 361) (z := (i + 2)) rfl dL_law_361 (by omega) (by omega) (fun r_361 => ?_)
  refine tz_cV (pc := 362) (k_symbol hl _ _ _ _ (z_rg _) (z_rg _) m2 pn RR hM2 hu2) vl_L_81 dL_law_362 o_164 rfl rfl (Nat.le_of_ble_eq_true rfl) ⟨(Nat.le_of_ble_eq_true rfl), (Nat.le_of_ble_eq_true rfl)⟩ rfl rfl (show k1 + 1 ≤ 601024 by omega) (show k2 + 6 ≤ 7293034 by omega) (fun r9 J_362 hq9 => ?_)
  obtain ⟨z_362, rfl, hz_362, y_362⟩ := hq9
  have bo9 := bo_q fh9 cc_344 y_362.2.2
  refine tz_istore (pc := 365) (L2 := [_, _, _, _, _, _, _]) dL_law_365 (by decide) rfl ?_
  refine tz_goto (pc := 367) (tgt := 1330) dL_law_367 (by decide) ?_
  exact nx _ _ _ _ _ _ ⟨(LV.q h cw_344 y_362.1 y_362.2.1 bo9 ⟨by omega, by omega⟩ (by omega) (by omega)), (WVX.lo (⟨cw_344.1.elim (fun m1 h1 => wv_eq hcc hC h1 cc_344 hrv.1), hrv.2.of (fun c a b => cw_344.2.2.2 c (Or.inl ⟨a, b⟩)) cw_344.2.2.1.2.1⟩) (fun c hc => y_362.1.2.1 c (Or.inl hc)))⟩

set_option maxHeartbeats 4000000 in
set_option maxRecDepth 100000 in
theorem law_term {l : Launch} {G : tb_G} {Lx : Nat} {xs : Nat → Int32} {k1 k2 n : Nat} {J : zJ} (hl : l.stackTraces = false) (i : Int) (hi : 0 ≤ i ∧ i + 6 ≤ (Lx : Int)) (hx : Lx ≤ 3072) (d5 d6 : Option Value) (h : LVr J n k1 k2 i) (nx : ∀ (k1 k2 n : Nat) (J : zJ) (d5 d6 : Option Value), LVr J n k1 k2 (i + 6) → tz_At l G M_L_law room_1 (some (Lx, xs)) tb_LZ k1 k2 n J 1330 [some (.ref tb_sc), some (.ref 0), some (.ref 164), some (.ref 183), some (zi i), d5, d6] []) : tz_At l G M_L_law room_1 (some (Lx, xs)) tb_LZ k1 k2 n J 370 [some (.ref tb_sc), some (.ref 0), some (.ref 164), some (.ref 183), some (zi i), d5, d6] [] := by
  obtain ⟨h, hrv⟩ := h
  obtain ⟨⟨m, hC⟩, ⟨m2, hM⟩, h3, h4, h5, ⟨h6, h7⟩, pn, RR, hcc, huu, him⟩ := id h
  have h9 : J 145 10 < 1000000000 := by omega
  have hnb : n ≤ tb_sc := by show n ≤ 1000000; omega
  refine tz_aload_n (pc := 370) dL_law_370 rfl rfl ?_
  refine tz_aload_n (pc := 371) dL_law_371 rfl rfl ?_
  refine tz_iload (pc := 372) dL_law_372 rfl ?_
  refine tz_iconst (pc := 374) dL_law_374 ?_
  refine tz_iadd (pc := 375) (v := i + 1) dL_law_375 rfl ?_
  refine tz_sld (pc := 376) (z := (i + 1)) rfl dL_law_376 (by omega) (by omega) (fun r_376 => ?_)
  refine tz_aload_n (pc := 377) dL_law_377 rfl rfl ?_
  refine tz_iload (pc := 378) dL_law_378 rfl ?_
  refine tz_iconst (pc := 380) dL_law_380 ?_
  refine tz_iadd (pc := 381) (v := i + 2) dL_law_381 rfl ?_
  refine tz_sld (pc := 382) (z := (i + 2)) rfl dL_law_382 (by omega) (by omega) (fun r_382 => ?_)
  refine tz_aload_n (pc := 383) dL_law_383 rfl rfl ?_
  refine tz_cH (pc := 384) (nA := 4) (lw_term hl _ _ _ _ (z_rg _) (z_rg _) m pn RR hC h9 hcc) ml_L_82 ms_L_term ch_L_term wk_ini_L (by decide +kernel) dL_law_384 rfl rfl (Nat.le_of_ble_eq_true rfl) ⟨(Nat.le_of_ble_eq_true rfl), (Nat.le_of_ble_eq_true rfl)⟩ rfl rfl (show k1 + 1 ≤ 601024 by omega) (show k2 + 6 ≤ 7293034 by omega) (fun r9 n_384 J_384 hn1_384 hn2_384 hq9 => ?_)
  obtain ⟨z_384, rfl, hz_384, cw_384, cc_384⟩ := hq9
  have fh9 : ∀ c, 164 ≤ c → c < 183 → J_384 c = J c := fun c x y => cw_384.2.2.2 c (Or.inr (Or.inr ⟨x, y⟩))
  have hM2 := hM.mid fh9
  have hu2 := huu.mid fh9
  refine tz_istore (pc := 387) (L2 := [_, _, _, _, _, _, _]) dL_law_387 (by decide) rfl ?_
  refine tz_aload_n (pc := 389) dL_law_389 rfl rfl ?_
  refine tz_aload_n (pc := 390) dL_law_390 rfl rfl ?_
  refine tz_iload (pc := 391) dL_law_391 rfl ?_
  refine tz_iconst (pc := 393) dL_law_393 ?_
  refine tz_iadd (pc := 394) (v := i + 1) dL_law_394 rfl ?_
  refine tz_sld (pc := 395) (z := (i + 1)) rfl dL_law_395 (by omega) (by omega) (fun r_395 => ?_)
  refine tz_aload_n (pc := 396) dL_law_396 rfl rfl ?_
  refine tz_iload (pc := 397) dL_law_397 rfl ?_
  refine tz_iconst (pc := 399) dL_law_399 ?_
  refine tz_iadd (pc := 400) (v := i + 2) dL_law_400 rfl ?_
  refine tz_sld (pc := 401) (z := (i + 2)) rfl dL_law_401 (by omega) (by omega) (fun r_401 => ?_)
  refine tz_cV (pc := 402) (k_term hl _ _ _ _ (z_rg _) (z_rg _) m2 pn RR hM2 hu2) vl_L_84 dL_law_402 o_164 rfl rfl (Nat.le_of_ble_eq_true rfl) ⟨(Nat.le_of_ble_eq_true rfl), (Nat.le_of_ble_eq_true rfl)⟩ rfl rfl (show k1 + 1 ≤ 601024 by omega) (show k2 + 6 ≤ 7293034 by omega) (fun r9 J_402 hq9 => ?_)
  obtain ⟨z_402, rfl, hz_402, y_402⟩ := hq9
  have bo9 := bo_q fh9 cc_384 y_402.2.2
  refine tz_istore (pc := 405) (L2 := [_, _, _, _, _, _, _]) dL_law_405 (by decide) rfl ?_
  refine tz_goto (pc := 407) (tgt := 1330) dL_law_407 (by decide) ?_
  exact nx _ _ _ _ _ _ ⟨(LV.q h cw_384 y_402.1 y_402.2.1 bo9 ⟨by omega, by omega⟩ (by omega) (by omega)), (WVX.lo (⟨cw_384.1.elim (fun m1 h1 => wv_eq hcc hC h1 cc_384 hrv.1), hrv.2.of (fun c a b => cw_384.2.2.2 c (Or.inl ⟨a, b⟩)) cw_384.2.2.1.2.1⟩) (fun c hc => y_402.1.2.1 c (Or.inl hc)))⟩

set_option maxHeartbeats 4000000 in
set_option maxRecDepth 100000 in
theorem law_argument {l : Launch} {G : tb_G} {Lx : Nat} {xs : Nat → Int32} {k1 k2 n : Nat} {J : zJ} (hl : l.stackTraces = false) (i : Int) (hi : 0 ≤ i ∧ i + 6 ≤ (Lx : Int)) (hx : Lx ≤ 3072) (d5 d6 : Option Value) (h : LVr J n k1 k2 i) (nx : ∀ (k1 k2 n : Nat) (J : zJ) (d5 d6 : Option Value), LVr J n k1 k2 (i + 6) → tz_At l G M_L_law room_1 (some (Lx, xs)) tb_LZ k1 k2 n J 1330 [some (.ref tb_sc), some (.ref 0), some (.ref 164), some (.ref 183), some (zi i), d5, d6] []) : tz_At l G M_L_law room_1 (some (Lx, xs)) tb_LZ k1 k2 n J 410 [some (.ref tb_sc), some (.ref 0), some (.ref 164), some (.ref 183), some (zi i), d5, d6] [] := by
  obtain ⟨h, hrv⟩ := h
  obtain ⟨⟨m, hC⟩, ⟨m2, hM⟩, h3, h4, h5, ⟨h6, h7⟩, pn, RR, hcc, huu, him⟩ := id h
  have h9 : J 145 10 < 1000000000 := by omega
  have hnb : n ≤ tb_sc := by show n ≤ 1000000; omega
  refine tz_aload_n (pc := 410) dL_law_410 rfl rfl ?_
  refine tz_aload_n (pc := 411) dL_law_411 rfl rfl ?_
  refine tz_iload (pc := 412) dL_law_412 rfl ?_
  refine tz_iconst (pc := 414) dL_law_414 ?_
  refine tz_iadd (pc := 415) (v := i + 1) dL_law_415 rfl ?_
  refine tz_sld (pc := 416) (z := (i + 1)) rfl dL_law_416 (by omega) (by omega) (fun r_416 => ?_)
  refine tz_aload_n (pc := 417) dL_law_417 rfl rfl ?_
  refine tz_iload (pc := 418) dL_law_418 rfl ?_
  refine tz_iconst (pc := 420) dL_law_420 ?_
  refine tz_iadd (pc := 421) (v := i + 2) dL_law_421 rfl ?_
  refine tz_sld (pc := 422) (z := (i + 2)) rfl dL_law_422 (by omega) (by omega) (fun r_422 => ?_)
  refine tz_aload_n (pc := 423) dL_law_423 rfl rfl ?_
  refine tz_cH (pc := 424) (nA := 4) (lw_argument hl _ _ _ _ (z_rg _) (z_rg _) m pn RR hC h9 hcc) ml_L_85 ms_L_argument ch_L_argument wk_ini_L (by decide +kernel) dL_law_424 rfl rfl (Nat.le_of_ble_eq_true rfl) ⟨(Nat.le_of_ble_eq_true rfl), (Nat.le_of_ble_eq_true rfl)⟩ rfl rfl (show k1 + 1 ≤ 601024 by omega) (show k2 + 6 ≤ 7293034 by omega) (fun r9 n_424 J_424 hn1_424 hn2_424 hq9 => ?_)
  obtain ⟨z_424, rfl, hz_424, cw_424, cc_424⟩ := hq9
  have fh9 : ∀ c, 164 ≤ c → c < 183 → J_424 c = J c := fun c x y => cw_424.2.2.2 c (Or.inr (Or.inr ⟨x, y⟩))
  have hM2 := hM.mid fh9
  have hu2 := huu.mid fh9
  refine tz_istore (pc := 427) (L2 := [_, _, _, _, _, _, _]) dL_law_427 (by decide) rfl ?_
  refine tz_aload_n (pc := 429) dL_law_429 rfl rfl ?_
  refine tz_aload_n (pc := 430) dL_law_430 rfl rfl ?_
  refine tz_iload (pc := 431) dL_law_431 rfl ?_
  refine tz_iconst (pc := 433) dL_law_433 ?_
  refine tz_iadd (pc := 434) (v := i + 1) dL_law_434 rfl ?_
  refine tz_sld (pc := 435) (z := (i + 1)) rfl dL_law_435 (by omega) (by omega) (fun r_435 => ?_)
  refine tz_aload_n (pc := 436) dL_law_436 rfl rfl ?_
  refine tz_iload (pc := 437) dL_law_437 rfl ?_
  refine tz_iconst (pc := 439) dL_law_439 ?_
  refine tz_iadd (pc := 440) (v := i + 2) dL_law_440 rfl ?_
  refine tz_sld (pc := 441) (z := (i + 2)) rfl dL_law_441 (by omega) (by omega) (fun r_441 => ?_)
  refine tz_cV (pc := 442) (k_argument hl _ _ _ _ (z_rg _) (z_rg _) m2 pn RR hM2 hu2) vl_L_87 dL_law_442 o_164 rfl rfl (Nat.le_of_ble_eq_true rfl) ⟨(Nat.le_of_ble_eq_true rfl), (Nat.le_of_ble_eq_true rfl)⟩ rfl rfl (show k1 + 1 ≤ 601024 by omega) (show k2 + 6 ≤ 7293034 by omega) (fun r9 J_442 hq9 => ?_)
  obtain ⟨z_442, rfl, hz_442, y_442⟩ := hq9
  have bo9 := bo_q fh9 cc_424 y_442.2.2
  refine tz_istore (pc := 445) (L2 := [_, _, _, _, _, _, _]) dL_law_445 (by decide) rfl ?_
  refine tz_goto (pc := 447) (tgt := 1330) dL_law_447 (by decide) ?_
  exact nx _ _ _ _ _ _ ⟨(LV.q h cw_424 y_442.1 y_442.2.1 bo9 ⟨by omega, by omega⟩ (by omega) (by omega)), (WVX.lo (⟨cw_424.1.elim (fun m1 h1 => wv_eq hcc hC h1 cc_424 hrv.1), hrv.2.of (fun c a b => cw_424.2.2.2 c (Or.inl ⟨a, b⟩)) cw_424.2.2.1.2.1⟩) (fun c hc => y_442.1.2.1 c (Or.inl hc)))⟩

set_option maxHeartbeats 4000000 in
set_option maxRecDepth 100000 in
theorem law_place {l : Launch} {G : tb_G} {Lx : Nat} {xs : Nat → Int32} {k1 k2 n : Nat} {J : zJ} (hl : l.stackTraces = false) (i : Int) (hi : 0 ≤ i ∧ i + 6 ≤ (Lx : Int)) (hx : Lx ≤ 3072) (d5 d6 : Option Value) (h : LVr J n k1 k2 i) (nx : ∀ (k1 k2 n : Nat) (J : zJ) (d5 d6 : Option Value), LVr J n k1 k2 (i + 6) → tz_At l G M_L_law room_1 (some (Lx, xs)) tb_LZ k1 k2 n J 1330 [some (.ref tb_sc), some (.ref 0), some (.ref 164), some (.ref 183), some (zi i), d5, d6] []) : tz_At l G M_L_law room_1 (some (Lx, xs)) tb_LZ k1 k2 n J 450 [some (.ref tb_sc), some (.ref 0), some (.ref 164), some (.ref 183), some (zi i), d5, d6] [] := by
  obtain ⟨h, hrv⟩ := h
  obtain ⟨⟨m, hC⟩, ⟨m2, hM⟩, h3, h4, h5, ⟨h6, h7⟩, pn, RR, hcc, huu, him⟩ := id h
  have h9 : J 145 10 < 1000000000 := by omega
  have hnb : n ≤ tb_sc := by show n ≤ 1000000; omega
  refine tz_aload_n (pc := 450) dL_law_450 rfl rfl ?_
  refine tz_aload_n (pc := 451) dL_law_451 rfl rfl ?_
  refine tz_iload (pc := 452) dL_law_452 rfl ?_
  refine tz_iconst (pc := 454) dL_law_454 ?_
  refine tz_iadd (pc := 455) (v := i + 1) dL_law_455 rfl ?_
  refine tz_sld (pc := 456) (z := (i + 1)) rfl dL_law_456 (by omega) (by omega) (fun r_456 => ?_)
  refine tz_aload_n (pc := 457) dL_law_457 rfl rfl ?_
  refine tz_iload (pc := 458) dL_law_458 rfl ?_
  refine tz_iconst (pc := 460) dL_law_460 ?_
  refine tz_iadd (pc := 461) (v := i + 2) dL_law_461 rfl ?_
  refine tz_sld (pc := 462) (z := (i + 2)) rfl dL_law_462 (by omega) (by omega) (fun r_462 => ?_)
  refine tz_aload_n (pc := 463) dL_law_463 rfl rfl ?_
  refine tz_cH (pc := 464) (nA := 4) (lw_place hl _ _ _ _ (z_rg _) (z_rg _) m pn RR hC h9 hcc) ml_L_88 ms_L_place ch_L_place wk_ini_L (by decide +kernel) dL_law_464 rfl rfl (Nat.le_of_ble_eq_true rfl) ⟨(Nat.le_of_ble_eq_true rfl), (Nat.le_of_ble_eq_true rfl)⟩ rfl rfl (show k1 + 1 ≤ 601024 by omega) (show k2 + 6 ≤ 7293034 by omega) (fun r9 n_464 J_464 hn1_464 hn2_464 hq9 => ?_)
  obtain ⟨z_464, rfl, hz_464, cw_464, cc_464⟩ := hq9
  have fh9 : ∀ c, 164 ≤ c → c < 183 → J_464 c = J c := fun c x y => cw_464.2.2.2 c (Or.inr (Or.inr ⟨x, y⟩))
  have hM2 := hM.mid fh9
  have hu2 := huu.mid fh9
  refine tz_istore (pc := 467) (L2 := [_, _, _, _, _, _, _]) dL_law_467 (by decide) rfl ?_
  refine tz_aload_n (pc := 469) dL_law_469 rfl rfl ?_
  refine tz_aload_n (pc := 470) dL_law_470 rfl rfl ?_
  refine tz_iload (pc := 471) dL_law_471 rfl ?_
  refine tz_iconst (pc := 473) dL_law_473 ?_
  refine tz_iadd (pc := 474) (v := i + 1) dL_law_474 rfl ?_
  refine tz_sld (pc := 475) (z := (i + 1)) rfl dL_law_475 (by omega) (by omega) (fun r_475 => ?_)
  refine tz_aload_n (pc := 476) dL_law_476 rfl rfl ?_
  refine tz_iload (pc := 477) dL_law_477 rfl ?_
  refine tz_iconst (pc := 479) dL_law_479 ?_
  refine tz_iadd (pc := 480) (v := i + 2) dL_law_480 rfl ?_
  refine tz_sld (pc := 481) (z := (i + 2)) rfl dL_law_481 (by omega) (by omega) (fun r_481 => ?_)
  refine tz_cV (pc := 482) (k_place hl _ _ _ _ (z_rg _) (z_rg _) m2 pn RR hM2 hu2) vl_L_90 dL_law_482 o_164 rfl rfl (Nat.le_of_ble_eq_true rfl) ⟨(Nat.le_of_ble_eq_true rfl), (Nat.le_of_ble_eq_true rfl)⟩ rfl rfl (show k1 + 1 ≤ 601024 by omega) (show k2 + 6 ≤ 7293034 by omega) (fun r9 J_482 hq9 => ?_)
  obtain ⟨z_482, rfl, hz_482, y_482⟩ := hq9
  have bo9 := bo_q fh9 cc_464 y_482.2.2
  refine tz_istore (pc := 485) (L2 := [_, _, _, _, _, _, _]) dL_law_485 (by decide) rfl ?_
  refine tz_goto (pc := 487) (tgt := 1330) dL_law_487 (by decide) ?_
  exact nx _ _ _ _ _ _ ⟨(LV.q h cw_464 y_482.1 y_482.2.1 bo9 ⟨by omega, by omega⟩ (by omega) (by omega)), (WVX.lo (⟨cw_464.1.elim (fun m1 h1 => wv_eq hcc hC h1 cc_464 hrv.1), hrv.2.of (fun c a b => cw_464.2.2.2 c (Or.inl ⟨a, b⟩)) cw_464.2.2.1.2.1⟩) (fun c hc => y_482.1.2.1 c (Or.inl hc)))⟩

set_option maxHeartbeats 4000000 in
set_option maxRecDepth 100000 in
theorem law_order {l : Launch} {G : tb_G} {Lx : Nat} {xs : Nat → Int32} {k1 k2 n : Nat} {J : zJ} (hl : l.stackTraces = false) (i : Int) (hi : 0 ≤ i ∧ i + 6 ≤ (Lx : Int)) (hx : Lx ≤ 3072) (d5 d6 : Option Value) (h : LVr J n k1 k2 i) (nx : ∀ (k1 k2 n : Nat) (J : zJ) (d5 d6 : Option Value), LVr J n k1 k2 (i + 6) → tz_At l G M_L_law room_1 (some (Lx, xs)) tb_LZ k1 k2 n J 1330 [some (.ref tb_sc), some (.ref 0), some (.ref 164), some (.ref 183), some (zi i), d5, d6] []) : tz_At l G M_L_law room_1 (some (Lx, xs)) tb_LZ k1 k2 n J 490 [some (.ref tb_sc), some (.ref 0), some (.ref 164), some (.ref 183), some (zi i), d5, d6] [] := by
  obtain ⟨h, hrv⟩ := h
  obtain ⟨⟨m, hC⟩, ⟨m2, hM⟩, h3, h4, h5, ⟨h6, h7⟩, pn, RR, hcc, huu, him⟩ := id h
  have h9 : J 145 10 < 1000000000 := by omega
  have hnb : n ≤ tb_sc := by show n ≤ 1000000; omega
  refine tz_aload_n (pc := 490) dL_law_490 rfl rfl ?_
  refine tz_aload_n (pc := 491) dL_law_491 rfl rfl ?_
  refine tz_iload (pc := 492) dL_law_492 rfl ?_
  refine tz_iconst (pc := 494) dL_law_494 ?_
  refine tz_iadd (pc := 495) (v := i + 1) dL_law_495 rfl ?_
  refine tz_sld (pc := 496) (z := (i + 1)) rfl dL_law_496 (by omega) (by omega) (fun r_496 => ?_)
  refine tz_aload_n (pc := 497) dL_law_497 rfl rfl ?_
  refine tz_iload (pc := 498) dL_law_498 rfl ?_
  refine tz_iconst (pc := 500) dL_law_500 ?_
  refine tz_iadd (pc := 501) (v := i + 2) dL_law_501 rfl ?_
  refine tz_sld (pc := 502) (z := (i + 2)) rfl dL_law_502 (by omega) (by omega) (fun r_502 => ?_)
  refine tz_aload_n (pc := 503) dL_law_503 rfl rfl ?_
  refine tz_cH (pc := 504) (nA := 4) (lw_order hl _ _ _ _ (z_rg _) (z_rg _) m pn RR hC h9 hcc) ml_L_91 ms_L_order ch_L_order wk_ini_L (by decide +kernel) dL_law_504 rfl rfl (Nat.le_of_ble_eq_true rfl) ⟨(Nat.le_of_ble_eq_true rfl), (Nat.le_of_ble_eq_true rfl)⟩ rfl rfl (show k1 + 1 ≤ 601024 by omega) (show k2 + 6 ≤ 7293034 by omega) (fun r9 n_504 J_504 hn1_504 hn2_504 hq9 => ?_)
  obtain ⟨z_504, rfl, hz_504, cw_504, cc_504⟩ := hq9
  have fh9 : ∀ c, 164 ≤ c → c < 183 → J_504 c = J c := fun c x y => cw_504.2.2.2 c (Or.inr (Or.inr ⟨x, y⟩))
  have hM2 := hM.mid fh9
  have hu2 := huu.mid fh9
  refine tz_istore (pc := 507) (L2 := [_, _, _, _, _, _, _]) dL_law_507 (by decide) rfl ?_
  refine tz_aload_n (pc := 509) dL_law_509 rfl rfl ?_
  refine tz_aload_n (pc := 510) dL_law_510 rfl rfl ?_
  refine tz_iload (pc := 511) dL_law_511 rfl ?_
  refine tz_iconst (pc := 513) dL_law_513 ?_
  refine tz_iadd (pc := 514) (v := i + 1) dL_law_514 rfl ?_
  refine tz_sld (pc := 515) (z := (i + 1)) rfl dL_law_515 (by omega) (by omega) (fun r_515 => ?_)
  refine tz_aload_n (pc := 516) dL_law_516 rfl rfl ?_
  refine tz_iload (pc := 517) dL_law_517 rfl ?_
  refine tz_iconst (pc := 519) dL_law_519 ?_
  refine tz_iadd (pc := 520) (v := i + 2) dL_law_520 rfl ?_
  refine tz_sld (pc := 521) (z := (i + 2)) rfl dL_law_521 (by omega) (by omega) (fun r_521 => ?_)
  refine tz_cV (pc := 522) (k_order hl _ _ _ _ (z_rg _) (z_rg _) m2 pn RR hM2 hu2) vl_L_93 dL_law_522 o_164 rfl rfl (Nat.le_of_ble_eq_true rfl) ⟨(Nat.le_of_ble_eq_true rfl), (Nat.le_of_ble_eq_true rfl)⟩ rfl rfl (show k1 + 1 ≤ 601024 by omega) (show k2 + 6 ≤ 7293034 by omega) (fun r9 J_522 hq9 => ?_)
  obtain ⟨z_522, rfl, hz_522, y_522⟩ := hq9
  have bo9 := bo_q fh9 cc_504 y_522.2.2
  refine tz_istore (pc := 525) (L2 := [_, _, _, _, _, _, _]) dL_law_525 (by decide) rfl ?_
  refine tz_goto (pc := 527) (tgt := 1330) dL_law_527 (by decide) ?_
  exact nx _ _ _ _ _ _ ⟨(LV.q h cw_504 y_522.1 y_522.2.1 bo9 ⟨by omega, by omega⟩ (by omega) (by omega)), (WVX.lo (⟨cw_504.1.elim (fun m1 h1 => wv_eq hcc hC h1 cc_504 hrv.1), hrv.2.of (fun c a b => cw_504.2.2.2 c (Or.inl ⟨a, b⟩)) cw_504.2.2.1.2.1⟩) (fun c hc => y_522.1.2.1 c (Or.inl hc)))⟩

set_option maxHeartbeats 4000000 in
set_option maxRecDepth 100000 in
theorem law_find {l : Launch} {G : tb_G} {Lx : Nat} {xs : Nat → Int32} {k1 k2 n : Nat} {J : zJ} (hl : l.stackTraces = false) (i : Int) (hi : 0 ≤ i ∧ i + 6 ≤ (Lx : Int)) (hx : Lx ≤ 3072) (d5 d6 : Option Value) (h : LVr J n k1 k2 i) (nx : ∀ (k1 k2 n : Nat) (J : zJ) (d5 d6 : Option Value), LVr J n k1 k2 (i + 6) → tz_At l G M_L_law room_1 (some (Lx, xs)) tb_LZ k1 k2 n J 1330 [some (.ref tb_sc), some (.ref 0), some (.ref 164), some (.ref 183), some (zi i), d5, d6] []) : tz_At l G M_L_law room_1 (some (Lx, xs)) tb_LZ k1 k2 n J 530 [some (.ref tb_sc), some (.ref 0), some (.ref 164), some (.ref 183), some (zi i), d5, d6] [] := by
  obtain ⟨h, hrv⟩ := h
  obtain ⟨⟨m, hC⟩, ⟨m2, hM⟩, h3, h4, h5, ⟨h6, h7⟩, pn, RR, hcc, huu, him⟩ := id h
  have h9 : J 145 10 < 1000000000 := by omega
  have hnb : n ≤ tb_sc := by show n ≤ 1000000; omega
  refine tz_aload_n (pc := 530) dL_law_530 rfl rfl ?_
  refine tz_aload_n (pc := 531) dL_law_531 rfl rfl ?_
  refine tz_iload (pc := 532) dL_law_532 rfl ?_
  refine tz_iconst (pc := 534) dL_law_534 ?_
  refine tz_iadd (pc := 535) (v := i + 1) dL_law_535 rfl ?_
  refine tz_sld (pc := 536) (z := (i + 1)) rfl dL_law_536 (by omega) (by omega) (fun r_536 => ?_)
  refine tz_aload_n (pc := 537) dL_law_537 rfl rfl ?_
  refine tz_iload (pc := 538) dL_law_538 rfl ?_
  refine tz_iconst (pc := 540) dL_law_540 ?_
  refine tz_iadd (pc := 541) (v := i + 2) dL_law_541 rfl ?_
  refine tz_sld (pc := 542) (z := (i + 2)) rfl dL_law_542 (by omega) (by omega) (fun r_542 => ?_)
  refine tz_aload_n (pc := 543) dL_law_543 rfl rfl ?_
  refine tz_cH (pc := 544) (nA := 4) (lw_find hl _ _ _ _ (z_rg _) (z_rg _) m pn RR hC h9 hcc) ml_L_94 ms_L_find ch_L_find wk_ini_L (by decide +kernel) dL_law_544 rfl rfl (Nat.le_of_ble_eq_true rfl) ⟨(Nat.le_of_ble_eq_true rfl), (Nat.le_of_ble_eq_true rfl)⟩ rfl rfl (show k1 + 1 ≤ 601024 by omega) (show k2 + 6 ≤ 7293034 by omega) (fun r9 n_544 J_544 hn1_544 hn2_544 hq9 => ?_)
  obtain ⟨z_544, rfl, hz_544, cw_544, cc_544⟩ := hq9
  have fh9 : ∀ c, 164 ≤ c → c < 183 → J_544 c = J c := fun c x y => cw_544.2.2.2 c (Or.inr (Or.inr ⟨x, y⟩))
  have hM2 := hM.mid fh9
  have hu2 := huu.mid fh9
  refine tz_istore (pc := 547) (L2 := [_, _, _, _, _, _, _]) dL_law_547 (by decide) rfl ?_
  refine tz_aload_n (pc := 549) dL_law_549 rfl rfl ?_
  refine tz_aload_n (pc := 550) dL_law_550 rfl rfl ?_
  refine tz_iload (pc := 551) dL_law_551 rfl ?_
  refine tz_iconst (pc := 553) dL_law_553 ?_
  refine tz_iadd (pc := 554) (v := i + 1) dL_law_554 rfl ?_
  refine tz_sld (pc := 555) (z := (i + 1)) rfl dL_law_555 (by omega) (by omega) (fun r_555 => ?_)
  refine tz_aload_n (pc := 556) dL_law_556 rfl rfl ?_
  refine tz_iload (pc := 557) dL_law_557 rfl ?_
  refine tz_iconst (pc := 559) dL_law_559 ?_
  refine tz_iadd (pc := 560) (v := i + 2) dL_law_560 rfl ?_
  refine tz_sld (pc := 561) (z := (i + 2)) rfl dL_law_561 (by omega) (by omega) (fun r_561 => ?_)
  refine tz_cV (pc := 562) (k_find hl _ _ _ _ (z_rg _) (z_rg _) m2 pn RR hM2 hu2) vl_L_96 dL_law_562 o_164 rfl rfl (Nat.le_of_ble_eq_true rfl) ⟨(Nat.le_of_ble_eq_true rfl), (Nat.le_of_ble_eq_true rfl)⟩ rfl rfl (show k1 + 1 ≤ 601024 by omega) (show k2 + 6 ≤ 7293034 by omega) (fun r9 J_562 hq9 => ?_)
  obtain ⟨z_562, rfl, hz_562, y_562⟩ := hq9
  have bo9 := bo_q fh9 cc_544 y_562.2.2
  refine tz_istore (pc := 565) (L2 := [_, _, _, _, _, _, _]) dL_law_565 (by decide) rfl ?_
  refine tz_goto (pc := 567) (tgt := 1330) dL_law_567 (by decide) ?_
  exact nx _ _ _ _ _ _ ⟨(LV.q h cw_544 y_562.1 y_562.2.1 bo9 ⟨by omega, by omega⟩ (by omega) (by omega)), (WVX.lo (⟨cw_544.1.elim (fun m1 h1 => wv_eq hcc hC h1 cc_544 hrv.1), hrv.2.of (fun c a b => cw_544.2.2.2 c (Or.inl ⟨a, b⟩)) cw_544.2.2.1.2.1⟩) (fun c hc => y_562.1.2.1 c (Or.inl hc)))⟩

set_option maxHeartbeats 4000000 in
set_option maxRecDepth 100000 in
theorem law_rule {l : Launch} {G : tb_G} {Lx : Nat} {xs : Nat → Int32} {k1 k2 n : Nat} {J : zJ} (hl : l.stackTraces = false) (i : Int) (hi : 0 ≤ i ∧ i + 6 ≤ (Lx : Int)) (hx : Lx ≤ 3072) (d5 d6 : Option Value) (h : LVr J n k1 k2 i) (nx : ∀ (k1 k2 n : Nat) (J : zJ) (d5 d6 : Option Value), LVr J n k1 k2 (i + 6) → tz_At l G M_L_law room_1 (some (Lx, xs)) tb_LZ k1 k2 n J 1330 [some (.ref tb_sc), some (.ref 0), some (.ref 164), some (.ref 183), some (zi i), d5, d6] []) : tz_At l G M_L_law room_1 (some (Lx, xs)) tb_LZ k1 k2 n J 570 [some (.ref tb_sc), some (.ref 0), some (.ref 164), some (.ref 183), some (zi i), d5, d6] [] := by
  obtain ⟨h, hrv⟩ := h
  obtain ⟨⟨m, hC⟩, ⟨m2, hM⟩, h3, h4, h5, ⟨h6, h7⟩, pn, RR, hcc, huu, him⟩ := id h
  have h9 : J 145 10 < 1000000000 := by omega
  have hnb : n ≤ tb_sc := by show n ≤ 1000000; omega
  refine tz_aload_n (pc := 570) dL_law_570 rfl rfl ?_
  refine tz_aload_n (pc := 571) dL_law_571 rfl rfl ?_
  refine tz_iload (pc := 572) dL_law_572 rfl ?_
  refine tz_iconst (pc := 574) dL_law_574 ?_
  refine tz_iadd (pc := 575) (v := i + 1) dL_law_575 rfl ?_
  refine tz_sld (pc := 576) (z := (i + 1)) rfl dL_law_576 (by omega) (by omega) (fun r_576 => ?_)
  refine tz_aload_n (pc := 577) dL_law_577 rfl rfl ?_
  refine tz_iload (pc := 578) dL_law_578 rfl ?_
  refine tz_iconst (pc := 580) dL_law_580 ?_
  refine tz_iadd (pc := 581) (v := i + 2) dL_law_581 rfl ?_
  refine tz_sld (pc := 582) (z := (i + 2)) rfl dL_law_582 (by omega) (by omega) (fun r_582 => ?_)
  refine tz_aload_n (pc := 583) dL_law_583 rfl rfl ?_
  refine tz_cH (pc := 584) (nA := 4) (lw_rule hl _ _ _ _ (z_rg _) (z_rg _) m pn RR hC h9 hcc) ml_L_97 ms_L_rule ch_L_rule wk_ini_L (by decide +kernel) dL_law_584 rfl rfl (Nat.le_of_ble_eq_true rfl) ⟨(Nat.le_of_ble_eq_true rfl), (Nat.le_of_ble_eq_true rfl)⟩ rfl rfl (show k1 + 1 ≤ 601024 by omega) (show k2 + 6 ≤ 7293034 by omega) (fun r9 n_584 J_584 hn1_584 hn2_584 hq9 => ?_)
  obtain ⟨z_584, rfl, hz_584, cw_584, cc_584⟩ := hq9
  have fh9 : ∀ c, 164 ≤ c → c < 183 → J_584 c = J c := fun c x y => cw_584.2.2.2 c (Or.inr (Or.inr ⟨x, y⟩))
  have hM2 := hM.mid fh9
  have hu2 := huu.mid fh9
  refine tz_istore (pc := 587) (L2 := [_, _, _, _, _, _, _]) dL_law_587 (by decide) rfl ?_
  refine tz_aload_n (pc := 589) dL_law_589 rfl rfl ?_
  refine tz_aload_n (pc := 590) dL_law_590 rfl rfl ?_
  refine tz_iload (pc := 591) dL_law_591 rfl ?_
  refine tz_iconst (pc := 593) dL_law_593 ?_
  refine tz_iadd (pc := 594) (v := i + 1) dL_law_594 rfl ?_
  refine tz_sld (pc := 595) (z := (i + 1)) rfl dL_law_595 (by omega) (by omega) (fun r_595 => ?_)
  refine tz_aload_n (pc := 596) dL_law_596 rfl rfl ?_
  refine tz_iload (pc := 597) dL_law_597 rfl ?_
  refine tz_iconst (pc := 599) dL_law_599 ?_
  refine tz_iadd (pc := 600) (v := i + 2) dL_law_600 rfl ?_
  refine tz_sld (pc := 601) (z := (i + 2)) rfl dL_law_601 (by omega) (by omega) (fun r_601 => ?_)
  refine tz_cV (pc := 602) (k_rule hl _ _ _ _ (z_rg _) (z_rg _) m2 pn RR hM2 hu2) vl_L_99 dL_law_602 o_164 rfl rfl (Nat.le_of_ble_eq_true rfl) ⟨(Nat.le_of_ble_eq_true rfl), (Nat.le_of_ble_eq_true rfl)⟩ rfl rfl (show k1 + 1 ≤ 601024 by omega) (show k2 + 6 ≤ 7293034 by omega) (fun r9 J_602 hq9 => ?_)
  obtain ⟨z_602, rfl, hz_602, y_602⟩ := hq9
  have bo9 := bo_q fh9 cc_584 y_602.2.2
  refine tz_istore (pc := 605) (L2 := [_, _, _, _, _, _, _]) dL_law_605 (by decide) rfl ?_
  refine tz_goto (pc := 607) (tgt := 1330) dL_law_607 (by decide) ?_
  exact nx _ _ _ _ _ _ ⟨(LV.q h cw_584 y_602.1 y_602.2.1 bo9 ⟨by omega, by omega⟩ (by omega) (by omega)), (WVX.lo (⟨cw_584.1.elim (fun m1 h1 => wv_eq hcc hC h1 cc_584 hrv.1), hrv.2.of (fun c a b => cw_584.2.2.2 c (Or.inl ⟨a, b⟩)) cw_584.2.2.1.2.1⟩) (fun c hc => y_602.1.2.1 c (Or.inl hc)))⟩

set_option maxHeartbeats 4000000 in
set_option maxRecDepth 100000 in
theorem law_entry {l : Launch} {G : tb_G} {Lx : Nat} {xs : Nat → Int32} {k1 k2 n : Nat} {J : zJ} (hl : l.stackTraces = false) (i : Int) (hi : 0 ≤ i ∧ i + 6 ≤ (Lx : Int)) (hx : Lx ≤ 3072) (d5 d6 : Option Value) (h : LVr J n k1 k2 i) (nx : ∀ (k1 k2 n : Nat) (J : zJ) (d5 d6 : Option Value), LVr J n k1 k2 (i + 6) → tz_At l G M_L_law room_1 (some (Lx, xs)) tb_LZ k1 k2 n J 1330 [some (.ref tb_sc), some (.ref 0), some (.ref 164), some (.ref 183), some (zi i), d5, d6] []) : tz_At l G M_L_law room_1 (some (Lx, xs)) tb_LZ k1 k2 n J 610 [some (.ref tb_sc), some (.ref 0), some (.ref 164), some (.ref 183), some (zi i), d5, d6] [] := by
  obtain ⟨h, hrv⟩ := h
  obtain ⟨⟨m, hC⟩, ⟨m2, hM⟩, h3, h4, h5, ⟨h6, h7⟩, pn, RR, hcc, huu, him⟩ := id h
  have h9 : J 145 10 < 1000000000 := by omega
  have hnb : n ≤ tb_sc := by show n ≤ 1000000; omega
  refine tz_aload_n (pc := 610) dL_law_610 rfl rfl ?_
  refine tz_aload_n (pc := 611) dL_law_611 rfl rfl ?_
  refine tz_iload (pc := 612) dL_law_612 rfl ?_
  refine tz_iconst (pc := 614) dL_law_614 ?_
  refine tz_iadd (pc := 615) (v := i + 1) dL_law_615 rfl ?_
  refine tz_sld (pc := 616) (z := (i + 1)) rfl dL_law_616 (by omega) (by omega) (fun r_616 => ?_)
  refine tz_aload_n (pc := 617) dL_law_617 rfl rfl ?_
  refine tz_cH (pc := 618) (nA := 3) (lw_entry hl _ _ _ (z_rg _) m pn RR hC h9 hcc) ml_L_100 ms_L_entry ch_L_entry wk_ini_L (by decide +kernel) dL_law_618 rfl rfl (Nat.le_of_ble_eq_true rfl) ⟨(Nat.le_of_ble_eq_true rfl), (Nat.le_of_ble_eq_true rfl)⟩ rfl rfl (show k1 + 1 ≤ 601024 by omega) (show k2 + 6 ≤ 7293034 by omega) (fun r9 n_618 J_618 hn1_618 hn2_618 hq9 => ?_)
  obtain ⟨z_618, rfl, hz_618, cw_618, cc_618⟩ := hq9
  have fh9 : ∀ c, 164 ≤ c → c < 183 → J_618 c = J c := fun c x y => cw_618.2.2.2 c (Or.inr (Or.inr ⟨x, y⟩))
  have hM2 := hM.mid fh9
  have hu2 := huu.mid fh9
  refine tz_istore (pc := 621) (L2 := [_, _, _, _, _, _, _]) dL_law_621 (by decide) rfl ?_
  refine tz_aload_n (pc := 623) dL_law_623 rfl rfl ?_
  refine tz_aload_n (pc := 624) dL_law_624 rfl rfl ?_
  refine tz_iload (pc := 625) dL_law_625 rfl ?_
  refine tz_iconst (pc := 627) dL_law_627 ?_
  refine tz_iadd (pc := 628) (v := i + 1) dL_law_628 rfl ?_
  refine tz_sld (pc := 629) (z := (i + 1)) rfl dL_law_629 (by omega) (by omega) (fun r_629 => ?_)
  refine tz_cV (pc := 630) (k_entry hl _ _ _ (z_rg _) m2 pn RR hM2 hu2) vl_L_102 dL_law_630 o_164 rfl rfl (Nat.le_of_ble_eq_true rfl) ⟨(Nat.le_of_ble_eq_true rfl), (Nat.le_of_ble_eq_true rfl)⟩ rfl rfl (show k1 + 1 ≤ 601024 by omega) (show k2 + 6 ≤ 7293034 by omega) (fun r9 J_630 hq9 => ?_)
  obtain ⟨z_630, rfl, hz_630, y_630⟩ := hq9
  have bo9 := bo_q fh9 cc_618 y_630.2.2
  refine tz_istore (pc := 633) (L2 := [_, _, _, _, _, _, _]) dL_law_633 (by decide) rfl ?_
  refine tz_goto (pc := 635) (tgt := 1330) dL_law_635 (by decide) ?_
  exact nx _ _ _ _ _ _ ⟨(LV.q h cw_618 y_630.1 y_630.2.1 bo9 ⟨by omega, by omega⟩ (by omega) (by omega)), (WVX.lo (⟨cw_618.1.elim (fun m1 h1 => wv_eq hcc hC h1 cc_618 hrv.1), hrv.2.of (fun c a b => cw_618.2.2.2 c (Or.inl ⟨a, b⟩)) cw_618.2.2.1.2.1⟩) (fun c hc => y_630.1.2.1 c (Or.inl hc)))⟩

set_option maxHeartbeats 4000000 in
set_option maxRecDepth 100000 in
theorem law_memo {l : Launch} {G : tb_G} {Lx : Nat} {xs : Nat → Int32} {k1 k2 n : Nat} {J : zJ} (hl : l.stackTraces = false) (i : Int) (hi : 0 ≤ i ∧ i + 6 ≤ (Lx : Int)) (hx : Lx ≤ 3072) (d5 d6 : Option Value) (h : LVr J n k1 k2 i) (nx : ∀ (k1 k2 n : Nat) (J : zJ) (d5 d6 : Option Value), LVr J n k1 k2 (i + 6) → tz_At l G M_L_law room_1 (some (Lx, xs)) tb_LZ k1 k2 n J 1330 [some (.ref tb_sc), some (.ref 0), some (.ref 164), some (.ref 183), some (zi i), d5, d6] []) : tz_At l G M_L_law room_1 (some (Lx, xs)) tb_LZ k1 k2 n J 638 [some (.ref tb_sc), some (.ref 0), some (.ref 164), some (.ref 183), some (zi i), d5, d6] [] := by
  obtain ⟨h, hrv⟩ := h
  obtain ⟨⟨m, hC⟩, ⟨m2, hM⟩, h3, h4, h5, ⟨h6, h7⟩, pn, RR, hcc, huu, him⟩ := id h
  have h9 : J 145 10 < 1000000000 := by omega
  have hnb : n ≤ tb_sc := by show n ≤ 1000000; omega
  refine tz_aload_n (pc := 638) dL_law_638 rfl rfl ?_
  refine tz_aload_n (pc := 639) dL_law_639 rfl rfl ?_
  refine tz_iload (pc := 640) dL_law_640 rfl ?_
  refine tz_iconst (pc := 642) dL_law_642 ?_
  refine tz_iadd (pc := 643) (v := i + 1) dL_law_643 rfl ?_
  refine tz_sld (pc := 644) (z := (i + 1)) rfl dL_law_644 (by omega) (by omega) (fun r_644 => ?_)
  refine tz_aload_n (pc := 645) dL_law_645 rfl rfl ?_
  refine tz_iload (pc := 646) dL_law_646 rfl ?_
  refine tz_iconst (pc := 648) dL_law_648 ?_
  refine tz_iadd (pc := 649) (v := i + 2) dL_law_649 rfl ?_
  refine tz_sld (pc := 650) (z := (i + 2)) rfl dL_law_650 (by omega) (by omega) (fun r_650 => ?_)
  refine tz_aload_n (pc := 651) dL_law_651 rfl rfl ?_
  refine tz_cH (pc := 652) (nA := 4) (lw_memo hl _ _ _ _ (z_rg _) (z_rg _) m pn RR hC h9 hcc) ml_L_103 ms_L_memo ch_L_memo wk_ini_L (by decide +kernel) dL_law_652 rfl rfl (Nat.le_of_ble_eq_true rfl) ⟨(Nat.le_of_ble_eq_true rfl), (Nat.le_of_ble_eq_true rfl)⟩ rfl rfl (show k1 + 1 ≤ 601024 by omega) (show k2 + 6 ≤ 7293034 by omega) (fun r9 n_652 J_652 hn1_652 hn2_652 hq9 => ?_)
  obtain ⟨z_652, rfl, hz_652, cw_652, cc_652⟩ := hq9
  have fh9 : ∀ c, 164 ≤ c → c < 183 → J_652 c = J c := fun c x y => cw_652.2.2.2 c (Or.inr (Or.inr ⟨x, y⟩))
  have hM2 := hM.mid fh9
  have hu2 := huu.mid fh9
  refine tz_istore (pc := 655) (L2 := [_, _, _, _, _, _, _]) dL_law_655 (by decide) rfl ?_
  refine tz_aload_n (pc := 657) dL_law_657 rfl rfl ?_
  refine tz_aload_n (pc := 658) dL_law_658 rfl rfl ?_
  refine tz_iload (pc := 659) dL_law_659 rfl ?_
  refine tz_iconst (pc := 661) dL_law_661 ?_
  refine tz_iadd (pc := 662) (v := i + 1) dL_law_662 rfl ?_
  refine tz_sld (pc := 663) (z := (i + 1)) rfl dL_law_663 (by omega) (by omega) (fun r_663 => ?_)
  refine tz_aload_n (pc := 664) dL_law_664 rfl rfl ?_
  refine tz_iload (pc := 665) dL_law_665 rfl ?_
  refine tz_iconst (pc := 667) dL_law_667 ?_
  refine tz_iadd (pc := 668) (v := i + 2) dL_law_668 rfl ?_
  refine tz_sld (pc := 669) (z := (i + 2)) rfl dL_law_669 (by omega) (by omega) (fun r_669 => ?_)
  refine tz_cV (pc := 670) (k_memo hl _ _ _ _ (z_rg _) (z_rg _) m2 pn RR hM2 hu2) vl_L_105 dL_law_670 o_164 rfl rfl (Nat.le_of_ble_eq_true rfl) ⟨(Nat.le_of_ble_eq_true rfl), (Nat.le_of_ble_eq_true rfl)⟩ rfl rfl (show k1 + 1 ≤ 601024 by omega) (show k2 + 6 ≤ 7293034 by omega) (fun r9 J_670 hq9 => ?_)
  obtain ⟨z_670, rfl, hz_670, y_670⟩ := hq9
  have bo9 := bo_q fh9 cc_652 y_670.2.2
  refine tz_istore (pc := 673) (L2 := [_, _, _, _, _, _, _]) dL_law_673 (by decide) rfl ?_
  refine tz_goto (pc := 675) (tgt := 1330) dL_law_675 (by decide) ?_
  exact nx _ _ _ _ _ _ ⟨(LV.q h cw_652 y_670.1 y_670.2.1 bo9 ⟨by omega, by omega⟩ (by omega) (by omega)), (WVX.lo (⟨cw_652.1.elim (fun m1 h1 => wv_eq hcc hC h1 cc_652 hrv.1), hrv.2.of (fun c a b => cw_652.2.2.2 c (Or.inl ⟨a, b⟩)) cw_652.2.2.1.2.1⟩) (fun c hc => y_670.1.2.1 c (Or.inl hc)))⟩

set_option maxHeartbeats 4000000 in
set_option maxRecDepth 100000 in
theorem law_bound {l : Launch} {G : tb_G} {Lx : Nat} {xs : Nat → Int32} {k1 k2 n : Nat} {J : zJ} (hl : l.stackTraces = false) (i : Int) (hi : 0 ≤ i ∧ i + 6 ≤ (Lx : Int)) (hx : Lx ≤ 3072) (d5 d6 : Option Value) (h : LVr J n k1 k2 i) (nx : ∀ (k1 k2 n : Nat) (J : zJ) (d5 d6 : Option Value), LVr J n k1 k2 (i + 6) → tz_At l G M_L_law room_1 (some (Lx, xs)) tb_LZ k1 k2 n J 1330 [some (.ref tb_sc), some (.ref 0), some (.ref 164), some (.ref 183), some (zi i), d5, d6] []) : tz_At l G M_L_law room_1 (some (Lx, xs)) tb_LZ k1 k2 n J 678 [some (.ref tb_sc), some (.ref 0), some (.ref 164), some (.ref 183), some (zi i), d5, d6] [] := by
  obtain ⟨h, hrv⟩ := h
  obtain ⟨⟨m, hC⟩, ⟨m2, hM⟩, h3, h4, h5, ⟨h6, h7⟩, pn, RR, hcc, huu, him⟩ := id h
  have h9 : J 145 10 < 1000000000 := by omega
  have hnb : n ≤ tb_sc := by show n ≤ 1000000; omega
  refine tz_aload_n (pc := 678) dL_law_678 rfl rfl ?_
  refine tz_aload_n (pc := 679) dL_law_679 rfl rfl ?_
  refine tz_iload (pc := 680) dL_law_680 rfl ?_
  refine tz_iconst (pc := 682) dL_law_682 ?_
  refine tz_iadd (pc := 683) (v := i + 1) dL_law_683 rfl ?_
  refine tz_sld (pc := 684) (z := (i + 1)) rfl dL_law_684 (by omega) (by omega) (fun r_684 => ?_)
  refine tz_aload_n (pc := 685) dL_law_685 rfl rfl ?_
  refine tz_cH (pc := 686) (nA := 3) (lw_bound hl _ _ _ (z_rg _) m pn RR hC h9 hcc) ml_L_106 ms_L_bound ch_L_bound wk_ini_L (by decide +kernel) dL_law_686 rfl rfl (Nat.le_of_ble_eq_true rfl) ⟨(Nat.le_of_ble_eq_true rfl), (Nat.le_of_ble_eq_true rfl)⟩ rfl rfl (show k1 + 1 ≤ 601024 by omega) (show k2 + 6 ≤ 7293034 by omega) (fun r9 n_686 J_686 hn1_686 hn2_686 hq9 => ?_)
  obtain ⟨z_686, rfl, hz_686, cw_686, cc_686⟩ := hq9
  have fh9 : ∀ c, 164 ≤ c → c < 183 → J_686 c = J c := fun c x y => cw_686.2.2.2 c (Or.inr (Or.inr ⟨x, y⟩))
  have hM2 := hM.mid fh9
  have hu2 := huu.mid fh9
  refine tz_istore (pc := 689) (L2 := [_, _, _, _, _, _, _]) dL_law_689 (by decide) rfl ?_
  refine tz_aload_n (pc := 691) dL_law_691 rfl rfl ?_
  refine tz_aload_n (pc := 692) dL_law_692 rfl rfl ?_
  refine tz_iload (pc := 693) dL_law_693 rfl ?_
  refine tz_iconst (pc := 695) dL_law_695 ?_
  refine tz_iadd (pc := 696) (v := i + 1) dL_law_696 rfl ?_
  refine tz_sld (pc := 697) (z := (i + 1)) rfl dL_law_697 (by omega) (by omega) (fun r_697 => ?_)
  refine tz_cV (pc := 698) (k_bound hl _ _ _ (z_rg _) m2 pn RR hM2 hu2) vl_L_108 dL_law_698 o_164 rfl rfl (Nat.le_of_ble_eq_true rfl) ⟨(Nat.le_of_ble_eq_true rfl), (Nat.le_of_ble_eq_true rfl)⟩ rfl rfl (show k1 + 1 ≤ 601024 by omega) (show k2 + 6 ≤ 7293034 by omega) (fun r9 J_698 hq9 => ?_)
  obtain ⟨z_698, rfl, hz_698, y_698⟩ := hq9
  have bo9 := bo_q fh9 cc_686 y_698.2.2
  refine tz_istore (pc := 701) (L2 := [_, _, _, _, _, _, _]) dL_law_701 (by decide) rfl ?_
  refine tz_goto (pc := 703) (tgt := 1330) dL_law_703 (by decide) ?_
  exact nx _ _ _ _ _ _ ⟨(LV.q h cw_686 y_698.1 y_698.2.1 bo9 ⟨by omega, by omega⟩ (by omega) (by omega)), (WVX.lo (⟨cw_686.1.elim (fun m1 h1 => wv_eq hcc hC h1 cc_686 hrv.1), hrv.2.of (fun c a b => cw_686.2.2.2 c (Or.inl ⟨a, b⟩)) cw_686.2.2.1.2.1⟩) (fun c hc => y_698.1.2.1 c (Or.inl hc)))⟩

set_option maxHeartbeats 4000000 in
set_option maxRecDepth 100000 in
theorem law_variable {l : Launch} {G : tb_G} {Lx : Nat} {xs : Nat → Int32} {k1 k2 n : Nat} {J : zJ} (hl : l.stackTraces = false) (i : Int) (hi : 0 ≤ i ∧ i + 6 ≤ (Lx : Int)) (hx : Lx ≤ 3072) (d5 d6 : Option Value) (h : LVr J n k1 k2 i) (nx : ∀ (k1 k2 n : Nat) (J : zJ) (d5 d6 : Option Value), LVr J n k1 k2 (i + 6) → tz_At l G M_L_law room_1 (some (Lx, xs)) tb_LZ k1 k2 n J 1330 [some (.ref tb_sc), some (.ref 0), some (.ref 164), some (.ref 183), some (zi i), d5, d6] []) : tz_At l G M_L_law room_1 (some (Lx, xs)) tb_LZ k1 k2 n J 706 [some (.ref tb_sc), some (.ref 0), some (.ref 164), some (.ref 183), some (zi i), d5, d6] [] := by
  obtain ⟨h, hrv⟩ := h
  obtain ⟨⟨m, hC⟩, ⟨m2, hM⟩, h3, h4, h5, ⟨h6, h7⟩, pn, RR, hcc, huu, him⟩ := id h
  have h9 : J 145 10 < 1000000000 := by omega
  have hnb : n ≤ tb_sc := by show n ≤ 1000000; omega
  refine tz_aload_n (pc := 706) dL_law_706 rfl rfl ?_
  refine tz_aload_n (pc := 707) dL_law_707 rfl rfl ?_
  refine tz_iload (pc := 708) dL_law_708 rfl ?_
  refine tz_iconst (pc := 710) dL_law_710 ?_
  refine tz_iadd (pc := 711) (v := i + 1) dL_law_711 rfl ?_
  refine tz_sld (pc := 712) (z := (i + 1)) rfl dL_law_712 (by omega) (by omega) (fun r_712 => ?_)
  refine tz_cV (pc := 713) (v_variable hl _ _ _ (z_rg _) m (tbz J) pn RR hC h9 hcc rfl) vl_L_109 dL_law_713 o_0 rfl rfl (Nat.le_of_ble_eq_true rfl) ⟨(Nat.le_of_ble_eq_true rfl), (Nat.le_of_ble_eq_true rfl)⟩ rfl rfl (show k1 ≤ 601024 by omega) (show k2 ≤ 7293034 by omega) (fun r9 J_713 hq9 => ?_)
  obtain ⟨z_713, rfl, hz_713, x_713⟩ := hq9
  have cw_713 : CW J_713 J := CW.c x_713.1
  have fh9 : ∀ c, 164 ≤ c → c < 183 → J_713 c = J c := fun c x y => cw_713.2.2.2 c (Or.inr (Or.inr ⟨x, y⟩))
  have hM2 := hM.mid fh9
  have hu2 := huu.mid fh9
  refine tz_pop (pc := 716) dL_law_716 rfl ?_
  refine tz_aload_n (pc := 717) dL_law_717 rfl rfl ?_
  refine tz_aload_n (pc := 718) dL_law_718 rfl rfl ?_
  refine tz_iload (pc := 719) dL_law_719 rfl ?_
  refine tz_iconst (pc := 721) dL_law_721 ?_
  refine tz_iadd (pc := 722) (v := i + 1) dL_law_722 rfl ?_
  refine tz_sld (pc := 723) (z := (i + 1)) rfl dL_law_723 (by omega) (by omega) (fun r_723 => ?_)
  refine tz_cV (pc := 724) (v_qvariable hl _ _ _ (z_rg _) m2 pn RR hM2 hu2) vl_L_112 dL_law_724 o_164 rfl rfl (Nat.le_of_ble_eq_true rfl) ⟨(Nat.le_of_ble_eq_true rfl), (Nat.le_of_ble_eq_true rfl)⟩ rfl rfl (show k1 ≤ 601024 by omega) (show k2 ≤ 7293034 by omega) (fun r9 J_724 hq9 => ?_)
  obtain ⟨z_724, rfl, hz_724, y_724⟩ := hq9
  obtain ⟨ez9, bo9⟩ := b_variable (m2 := m2) hcc hC fh9 x_713.2 y_724.2.2
  refine tz_pop (pc := 727) dL_law_727 rfl ?_
  refine tz_goto (pc := 728) (tgt := 1330) dL_law_728 (by decide) ?_
  exact nx _ _ _ _ _ _ ⟨(LV.q h cw_713 y_724.1 y_724.2.1 bo9 ⟨by omega, by omega⟩ (by omega) (by omega)), (WVX.lo (⟨cw_713.1.elim (fun m1 h1 => wv_variable hcc hC h1 hrv.1 x_713.2), hrv.2.of (fun c a b => cw_713.2.2.2 c (Or.inl ⟨a, b⟩)) cw_713.2.2.1.2.1⟩) (fun c hc => y_724.1.2.1 c (Or.inl hc)))⟩

set_option maxHeartbeats 4000000 in
set_option maxRecDepth 100000 in
theorem law_make {l : Launch} {G : tb_G} {Lx : Nat} {xs : Nat → Int32} {k1 k2 n : Nat} {J : zJ} (hl : l.stackTraces = false) (i : Int) (hi : 0 ≤ i ∧ i + 6 ≤ (Lx : Int)) (hx : Lx ≤ 3072) (d5 d6 : Option Value) (h : LVr J n k1 k2 i) (nx : ∀ (k1 k2 n : Nat) (J : zJ) (d5 d6 : Option Value), LVr J n k1 k2 (i + 6) → tz_At l G M_L_law room_1 (some (Lx, xs)) tb_LZ k1 k2 n J 1330 [some (.ref tb_sc), some (.ref 0), some (.ref 164), some (.ref 183), some (zi i), d5, d6] []) : tz_At l G M_L_law room_1 (some (Lx, xs)) tb_LZ k1 k2 n J 731 [some (.ref tb_sc), some (.ref 0), some (.ref 164), some (.ref 183), some (zi i), d5, d6] [] := by
  obtain ⟨h, hrv⟩ := h
  obtain ⟨⟨m, hC⟩, ⟨m2, hM⟩, h3, h4, h5, ⟨h6, h7⟩, pn, RR, hcc, huu, him⟩ := id h
  have h9 : J 145 10 < 1000000000 := by omega
  have hnb : n ≤ tb_sc := by show n ≤ 1000000; omega
  refine tz_aload_n (pc := 731) dL_law_731 rfl rfl ?_
  refine tz_aload_n (pc := 732) dL_law_732 rfl rfl ?_
  refine tz_iload (pc := 733) dL_law_733 rfl ?_
  refine tz_iconst (pc := 735) dL_law_735 ?_
  refine tz_iadd (pc := 736) (v := i + 1) dL_law_736 rfl ?_
  refine tz_sld (pc := 737) (z := (i + 1)) rfl dL_law_737 (by omega) (by omega) (fun r_737 => ?_)
  refine tz_aload_n (pc := 738) dL_law_738 rfl rfl ?_
  refine tz_iload (pc := 739) dL_law_739 rfl ?_
  refine tz_iconst (pc := 741) dL_law_741 ?_
  refine tz_iadd (pc := 742) (v := i + 2) dL_law_742 rfl ?_
  refine tz_sld (pc := 743) (z := (i + 2)) rfl dL_law_743 (by omega) (by omega) (fun r_743 => ?_)
  refine tz_aload_n (pc := 744) dL_law_744 rfl rfl ?_
  refine tz_iload (pc := 745) dL_law_745 rfl ?_
  refine tz_iconst (pc := 747) dL_law_747 ?_
  refine tz_iadd (pc := 748) (v := i + 3) dL_law_748 rfl ?_
  refine tz_sld (pc := 749) (z := (i + 3)) rfl dL_law_749 (by omega) (by omega) (fun r_749 => ?_)
  refine tz_aload_n (pc := 750) dL_law_750 rfl rfl ?_
  refine tz_iload (pc := 751) dL_law_751 rfl ?_
  refine tz_iconst (pc := 753) dL_law_753 ?_
  refine tz_iadd (pc := 754) (v := i + 4) dL_law_754 rfl ?_
  refine tz_sld (pc := 755) (z := (i + 4)) rfl dL_law_755 (by omega) (by omega) (fun r_755 => ?_)
  refine tz_cV (pc := 756) (v_make hl _ _ _ _ _ _ (z_rg _) (z_rg _) (z_rg _) (z_rg _) m (tbz J) pn RR hC h9 hcc rfl) vl_L_113 dL_law_756 o_0 rfl rfl (Nat.le_of_ble_eq_true rfl) ⟨(Nat.le_of_ble_eq_true rfl), (Nat.le_of_ble_eq_true rfl)⟩ rfl rfl (show k1 ≤ 601024 by omega) (show k2 ≤ 7293034 by omega) (fun r9 J_756 hq9 => ?_)
  obtain ⟨z_756, rfl, hz_756, x_756⟩ := hq9
  have cw_756 : CW J_756 J := CW.c x_756.1
  have fh9 : ∀ c, 164 ≤ c → c < 183 → J_756 c = J c := fun c x y => cw_756.2.2.2 c (Or.inr (Or.inr ⟨x, y⟩))
  have hM2 := hM.mid fh9
  have hu2 := huu.mid fh9
  refine tz_pop (pc := 759) dL_law_759 rfl ?_
  refine tz_aload_n (pc := 760) dL_law_760 rfl rfl ?_
  refine tz_aload_n (pc := 761) dL_law_761 rfl rfl ?_
  refine tz_iload (pc := 762) dL_law_762 rfl ?_
  refine tz_iconst (pc := 764) dL_law_764 ?_
  refine tz_iadd (pc := 765) (v := i + 1) dL_law_765 rfl ?_
  refine tz_sld (pc := 766) (z := (i + 1)) rfl dL_law_766 (by omega) (by omega) (fun r_766 => ?_)
  refine tz_aload_n (pc := 767) dL_law_767 rfl rfl ?_
  refine tz_iload (pc := 768) dL_law_768 rfl ?_
  refine tz_iconst (pc := 770) dL_law_770 ?_
  refine tz_iadd (pc := 771) (v := i + 2) dL_law_771 rfl ?_
  refine tz_sld (pc := 772) (z := (i + 2)) rfl dL_law_772 (by omega) (by omega) (fun r_772 => ?_)
  refine tz_aload_n (pc := 773) dL_law_773 rfl rfl ?_
  refine tz_iload (pc := 774) dL_law_774 rfl ?_
  refine tz_iconst (pc := 776) dL_law_776 ?_
  refine tz_iadd (pc := 777) (v := i + 3) dL_law_777 rfl ?_
  refine tz_sld (pc := 778) (z := (i + 3)) rfl dL_law_778 (by omega) (by omega) (fun r_778 => ?_)
  refine tz_aload_n (pc := 779) dL_law_779 rfl rfl ?_
  refine tz_iload (pc := 780) dL_law_780 rfl ?_
  refine tz_iconst (pc := 782) dL_law_782 ?_
  refine tz_iadd (pc := 783) (v := i + 4) dL_law_783 rfl ?_
  refine tz_sld (pc := 784) (z := (i + 4)) rfl dL_law_784 (by omega) (by omega) (fun r_784 => ?_)
  refine tz_cV (pc := 785) (v_qmake hl _ _ _ _ _ _ (z_rg _) (z_rg _) (z_rg _) (z_rg _) m2 pn RR hM2 hu2) vl_L_117 dL_law_785 o_164 rfl rfl (Nat.le_of_ble_eq_true rfl) ⟨(Nat.le_of_ble_eq_true rfl), (Nat.le_of_ble_eq_true rfl)⟩ rfl rfl (show k1 ≤ 601024 by omega) (show k2 ≤ 7293034 by omega) (fun r9 J_785 hq9 => ?_)
  obtain ⟨z_785, rfl, hz_785, y_785⟩ := hq9
  obtain ⟨ez9, bo9⟩ := b_make (m2 := m2) hcc hC fh9 x_756.2 y_785.2.2
  refine tz_pop (pc := 788) dL_law_788 rfl ?_
  refine tz_goto (pc := 789) (tgt := 1330) dL_law_789 (by decide) ?_
  exact nx _ _ _ _ _ _ ⟨(LV.q h cw_756 y_785.1 y_785.2.1 bo9 ⟨by omega, by omega⟩ (by omega) (by omega)), (WVX.lo (⟨cw_756.1.elim (fun m1 h1 => wv_make hcc hC h1 hrv.1 x_756.2), hrv.2.of (fun c a b => cw_756.2.2.2 c (Or.inl ⟨a, b⟩)) cw_756.2.2.1.2.1⟩) (fun c hc => y_785.1.2.1 c (Or.inl hc)))⟩

set_option maxHeartbeats 4000000 in
set_option maxRecDepth 100000 in
theorem law_bind {l : Launch} {G : tb_G} {Lx : Nat} {xs : Nat → Int32} {k1 k2 n : Nat} {J : zJ} (hl : l.stackTraces = false) (i : Int) (hi : 0 ≤ i ∧ i + 6 ≤ (Lx : Int)) (hx : Lx ≤ 3072) (d5 d6 : Option Value) (h : LVr J n k1 k2 i) (nx : ∀ (k1 k2 n : Nat) (J : zJ) (d5 d6 : Option Value), LVr J n k1 k2 (i + 6) → tz_At l G M_L_law room_1 (some (Lx, xs)) tb_LZ k1 k2 n J 1330 [some (.ref tb_sc), some (.ref 0), some (.ref 164), some (.ref 183), some (zi i), d5, d6] []) : tz_At l G M_L_law room_1 (some (Lx, xs)) tb_LZ k1 k2 n J 792 [some (.ref tb_sc), some (.ref 0), some (.ref 164), some (.ref 183), some (zi i), d5, d6] [] := by
  obtain ⟨h, hrv⟩ := h
  obtain ⟨⟨m, hC⟩, ⟨m2, hM⟩, h3, h4, h5, ⟨h6, h7⟩, pn, RR, hcc, huu, him⟩ := id h
  have h9 : J 145 10 < 1000000000 := by omega
  have hnb : n ≤ tb_sc := by show n ≤ 1000000; omega
  refine tz_aload_n (pc := 792) dL_law_792 rfl rfl ?_
  refine tz_aload_n (pc := 793) dL_law_793 rfl rfl ?_
  refine tz_iload (pc := 794) dL_law_794 rfl ?_
  refine tz_iconst (pc := 796) dL_law_796 ?_
  refine tz_iadd (pc := 797) (v := i + 1) dL_law_797 rfl ?_
  refine tz_sld (pc := 798) (z := (i + 1)) rfl dL_law_798 (by omega) (by omega) (fun r_798 => ?_)
  refine tz_aload_n (pc := 799) dL_law_799 rfl rfl ?_
  refine tz_iload (pc := 800) dL_law_800 rfl ?_
  refine tz_iconst (pc := 802) dL_law_802 ?_
  refine tz_iadd (pc := 803) (v := i + 2) dL_law_803 rfl ?_
  refine tz_sld (pc := 804) (z := (i + 2)) rfl dL_law_804 (by omega) (by omega) (fun r_804 => ?_)
  refine tz_cV (pc := 805) (v_bind hl _ _ _ _ (z_rg _) (z_rg _) m (tbz J) pn RR hC h9 hcc rfl) vl_L_118 dL_law_805 o_0 rfl rfl (Nat.le_of_ble_eq_true rfl) ⟨(Nat.le_of_ble_eq_true rfl), (Nat.le_of_ble_eq_true rfl)⟩ rfl rfl (show k1 ≤ 601024 by omega) (show k2 ≤ 7293034 by omega) (fun r9 J_805 hq9 => ?_)
  obtain ⟨z_805, rfl, hz_805, x_805⟩ := hq9
  have cw_805 : CW J_805 J := CW.c x_805.1
  have fh9 : ∀ c, 164 ≤ c → c < 183 → J_805 c = J c := fun c x y => cw_805.2.2.2 c (Or.inr (Or.inr ⟨x, y⟩))
  have hM2 := hM.mid fh9
  have hu2 := huu.mid fh9
  refine tz_pop (pc := 808) dL_law_808 rfl ?_
  refine tz_aload_n (pc := 809) dL_law_809 rfl rfl ?_
  refine tz_aload_n (pc := 810) dL_law_810 rfl rfl ?_
  refine tz_iload (pc := 811) dL_law_811 rfl ?_
  refine tz_iconst (pc := 813) dL_law_813 ?_
  refine tz_iadd (pc := 814) (v := i + 1) dL_law_814 rfl ?_
  refine tz_sld (pc := 815) (z := (i + 1)) rfl dL_law_815 (by omega) (by omega) (fun r_815 => ?_)
  refine tz_aload_n (pc := 816) dL_law_816 rfl rfl ?_
  refine tz_iload (pc := 817) dL_law_817 rfl ?_
  refine tz_iconst (pc := 819) dL_law_819 ?_
  refine tz_iadd (pc := 820) (v := i + 2) dL_law_820 rfl ?_
  refine tz_sld (pc := 821) (z := (i + 2)) rfl dL_law_821 (by omega) (by omega) (fun r_821 => ?_)
  refine tz_cV (pc := 822) (v_qbind hl _ _ _ _ (z_rg _) (z_rg _) m2 pn RR hM2 hu2) vl_L_121 dL_law_822 o_164 rfl rfl (Nat.le_of_ble_eq_true rfl) ⟨(Nat.le_of_ble_eq_true rfl), (Nat.le_of_ble_eq_true rfl)⟩ rfl rfl (show k1 ≤ 601024 by omega) (show k2 ≤ 7293034 by omega) (fun r9 J_822 hq9 => ?_)
  obtain ⟨z_822, rfl, hz_822, y_822⟩ := hq9
  obtain ⟨ez9, bo9⟩ := b_bind (m2 := m2) hcc hC fh9 x_805.2 y_822.2.2
  refine tz_pop (pc := 825) dL_law_825 rfl ?_
  refine tz_goto (pc := 826) (tgt := 1330) dL_law_826 (by decide) ?_
  exact nx _ _ _ _ _ _ ⟨(LV.q h cw_805 y_822.1 y_822.2.1 bo9 ⟨by omega, by omega⟩ (by omega) (by omega)), (WVX.lo (⟨cw_805.1.elim (fun m1 h1 => wv_bind hcc hC h1 hrv.1 x_805.2), hrv.2.of (fun c a b => cw_805.2.2.2 c (Or.inl ⟨a, b⟩)) cw_805.2.2.1.2.1⟩) (fun c hc => y_822.1.2.1 c (Or.inl hc)))⟩

set_option maxHeartbeats 4000000 in
set_option maxRecDepth 100000 in
theorem law_apply {l : Launch} {G : tb_G} {Lx : Nat} {xs : Nat → Int32} {k1 k2 n : Nat} {J : zJ} (hl : l.stackTraces = false) (i : Int) (hi : 0 ≤ i ∧ i + 6 ≤ (Lx : Int)) (hx : Lx ≤ 3072) (d5 d6 : Option Value) (h : LVr J n k1 k2 i) (nx : ∀ (k1 k2 n : Nat) (J : zJ) (d5 d6 : Option Value), LVr J n k1 k2 (i + 6) → tz_At l G M_L_law room_1 (some (Lx, xs)) tb_LZ k1 k2 n J 1330 [some (.ref tb_sc), some (.ref 0), some (.ref 164), some (.ref 183), some (zi i), d5, d6] []) : tz_At l G M_L_law room_1 (some (Lx, xs)) tb_LZ k1 k2 n J 829 [some (.ref tb_sc), some (.ref 0), some (.ref 164), some (.ref 183), some (zi i), d5, d6] [] := by
  obtain ⟨h, hrv⟩ := h
  obtain ⟨⟨m, hC⟩, ⟨m2, hM⟩, h3, h4, h5, ⟨h6, h7⟩, pn, RR, hcc, huu, him⟩ := id h
  have h9 : J 145 10 < 1000000000 := by omega
  have hnb : n ≤ tb_sc := by show n ≤ 1000000; omega
  refine tz_aload_n (pc := 829) dL_law_829 rfl rfl ?_
  refine tz_aload_n (pc := 830) dL_law_830 rfl rfl ?_
  refine tz_iload (pc := 831) dL_law_831 rfl ?_
  refine tz_iconst (pc := 833) dL_law_833 ?_
  refine tz_iadd (pc := 834) (v := i + 1) dL_law_834 rfl ?_
  refine tz_sld (pc := 835) (z := (i + 1)) rfl dL_law_835 (by omega) (by omega) (fun r_835 => ?_)
  refine tz_cV (pc := 836) (v_apply hl _ _ _ (z_rg _) m (tbz J) pn RR hC h9 hcc rfl) vl_L_122 dL_law_836 o_0 rfl rfl (Nat.le_of_ble_eq_true rfl) ⟨(Nat.le_of_ble_eq_true rfl), (Nat.le_of_ble_eq_true rfl)⟩ rfl rfl (show k1 ≤ 601024 by omega) (show k2 ≤ 7293034 by omega) (fun r9 J_836 hq9 => ?_)
  obtain ⟨z_836, rfl, hz_836, x_836⟩ := hq9
  have cw_836 : CW J_836 J := CW.c x_836.1
  have fh9 : ∀ c, 164 ≤ c → c < 183 → J_836 c = J c := fun c x y => cw_836.2.2.2 c (Or.inr (Or.inr ⟨x, y⟩))
  have hM2 := hM.mid fh9
  have hu2 := huu.mid fh9
  refine tz_pop (pc := 839) dL_law_839 rfl ?_
  refine tz_aload_n (pc := 840) dL_law_840 rfl rfl ?_
  refine tz_aload_n (pc := 841) dL_law_841 rfl rfl ?_
  refine tz_iload (pc := 842) dL_law_842 rfl ?_
  refine tz_iconst (pc := 844) dL_law_844 ?_
  refine tz_iadd (pc := 845) (v := i + 1) dL_law_845 rfl ?_
  refine tz_sld (pc := 846) (z := (i + 1)) rfl dL_law_846 (by omega) (by omega) (fun r_846 => ?_)
  refine tz_cV (pc := 847) (v_qapply hl _ _ _ (z_rg _) m2 pn RR hM2 hu2) vl_L_125 dL_law_847 o_164 rfl rfl (Nat.le_of_ble_eq_true rfl) ⟨(Nat.le_of_ble_eq_true rfl), (Nat.le_of_ble_eq_true rfl)⟩ rfl rfl (show k1 ≤ 601024 by omega) (show k2 ≤ 7293034 by omega) (fun r9 J_847 hq9 => ?_)
  obtain ⟨z_847, rfl, hz_847, y_847⟩ := hq9
  obtain ⟨ez9, bo9⟩ := b_apply (m2 := m2) hcc hC fh9 x_836.2 y_847.2.2
  refine tz_pop (pc := 850) dL_law_850 rfl ?_
  refine tz_goto (pc := 851) (tgt := 1330) dL_law_851 (by decide) ?_
  exact nx _ _ _ _ _ _ ⟨(LV.q h cw_836 y_847.1 y_847.2.1 bo9 ⟨by omega, by omega⟩ (by omega) (by omega)), (WVX.lo (⟨cw_836.1.elim (fun m1 h1 => wv_apply hcc hC h1 hrv.1 x_836.2), hrv.2.of (fun c a b => cw_836.2.2.2 c (Or.inl ⟨a, b⟩)) cw_836.2.2.1.2.1⟩) (fun c hc => y_847.1.2.1 c (Or.inl hc)))⟩

set_option maxHeartbeats 4000000 in
set_option maxRecDepth 100000 in
theorem law_close {l : Launch} {G : tb_G} {Lx : Nat} {xs : Nat → Int32} {k1 k2 n : Nat} {J : zJ} (hl : l.stackTraces = false) (i : Int) (hi : 0 ≤ i ∧ i + 6 ≤ (Lx : Int)) (hx : Lx ≤ 3072) (d5 d6 : Option Value) (h : LVr J n k1 k2 i) (nx : ∀ (k1 k2 n : Nat) (J : zJ) (d5 d6 : Option Value), LVr J n k1 k2 (i + 6) → tz_At l G M_L_law room_1 (some (Lx, xs)) tb_LZ k1 k2 n J 1330 [some (.ref tb_sc), some (.ref 0), some (.ref 164), some (.ref 183), some (zi i), d5, d6] []) : tz_At l G M_L_law room_1 (some (Lx, xs)) tb_LZ k1 k2 n J 854 [some (.ref tb_sc), some (.ref 0), some (.ref 164), some (.ref 183), some (zi i), d5, d6] [] := by
  obtain ⟨h, hrv⟩ := h
  obtain ⟨⟨m, hC⟩, ⟨m2, hM⟩, h3, h4, h5, ⟨h6, h7⟩, pn, RR, hcc, huu, him⟩ := id h
  have h9 : J 145 10 < 1000000000 := by omega
  have hnb : n ≤ tb_sc := by show n ≤ 1000000; omega
  refine tz_aload_n (pc := 854) dL_law_854 rfl rfl ?_
  refine tz_aload_n (pc := 855) dL_law_855 rfl rfl ?_
  refine tz_iload (pc := 856) dL_law_856 rfl ?_
  refine tz_iconst (pc := 858) dL_law_858 ?_
  refine tz_iadd (pc := 859) (v := i + 1) dL_law_859 rfl ?_
  refine tz_sld (pc := 860) (z := (i + 1)) rfl dL_law_860 (by omega) (by omega) (fun r_860 => ?_)
  refine tz_cV (pc := 861) (v_close hl _ _ _ (z_rg _) m (tbz J) pn RR hC h9 hcc rfl) vl_L_126 dL_law_861 o_0 rfl rfl (Nat.le_of_ble_eq_true rfl) ⟨(Nat.le_of_ble_eq_true rfl), (Nat.le_of_ble_eq_true rfl)⟩ rfl rfl (show k1 ≤ 601024 by omega) (show k2 ≤ 7293034 by omega) (fun r9 J_861 hq9 => ?_)
  obtain ⟨z_861, rfl, hz_861, x_861⟩ := hq9
  have cw_861 : CW J_861 J := CW.c x_861.1
  have fh9 : ∀ c, 164 ≤ c → c < 183 → J_861 c = J c := fun c x y => cw_861.2.2.2 c (Or.inr (Or.inr ⟨x, y⟩))
  have hM2 := hM.mid fh9
  have hu2 := huu.mid fh9
  refine tz_pop (pc := 864) dL_law_864 rfl ?_
  refine tz_aload_n (pc := 865) dL_law_865 rfl rfl ?_
  refine tz_aload_n (pc := 866) dL_law_866 rfl rfl ?_
  refine tz_iload (pc := 867) dL_law_867 rfl ?_
  refine tz_iconst (pc := 869) dL_law_869 ?_
  refine tz_iadd (pc := 870) (v := i + 1) dL_law_870 rfl ?_
  refine tz_sld (pc := 871) (z := (i + 1)) rfl dL_law_871 (by omega) (by omega) (fun r_871 => ?_)
  refine tz_cV (pc := 872) (v_qclose hl _ _ _ (z_rg _) m2 pn RR hM2 hu2) vl_L_129 dL_law_872 o_164 rfl rfl (Nat.le_of_ble_eq_true rfl) ⟨(Nat.le_of_ble_eq_true rfl), (Nat.le_of_ble_eq_true rfl)⟩ rfl rfl (show k1 ≤ 601024 by omega) (show k2 ≤ 7293034 by omega) (fun r9 J_872 hq9 => ?_)
  obtain ⟨z_872, rfl, hz_872, y_872⟩ := hq9
  obtain ⟨ez9, bo9⟩ := b_close (m2 := m2) hcc hC fh9 x_861.2 y_872.2.2
  refine tz_pop (pc := 875) dL_law_875 rfl ?_
  refine tz_goto (pc := 876) (tgt := 1330) dL_law_876 (by decide) ?_
  exact nx _ _ _ _ _ _ ⟨(LV.q h cw_861 y_872.1 y_872.2.1 bo9 ⟨by omega, by omega⟩ (by omega) (by omega)), (WVX.lo (⟨cw_861.1.elim (fun m1 h1 => wv_close hcc hC h1 hrv.1 x_861.2), hrv.2.of (fun c a b => cw_861.2.2.2 c (Or.inl ⟨a, b⟩)) cw_861.2.2.1.2.1⟩) (fun c hc => y_872.1.2.1 c (Or.inl hc)))⟩

set_option maxHeartbeats 4000000 in
set_option maxRecDepth 100000 in
theorem law_unify {l : Launch} {G : tb_G} {Lx : Nat} {xs : Nat → Int32} {k1 k2 n : Nat} {J : zJ} (hl : l.stackTraces = false) (i : Int) (hi : 0 ≤ i ∧ i + 6 ≤ (Lx : Int)) (hx : Lx ≤ 3072) (d5 d6 : Option Value) (h : LVr J n k1 k2 i) (nx : ∀ (k1 k2 n : Nat) (J : zJ) (d5 d6 : Option Value), LVr J n k1 k2 (i + 6) → tz_At l G M_L_law room_1 (some (Lx, xs)) tb_LZ k1 k2 n J 1330 [some (.ref tb_sc), some (.ref 0), some (.ref 164), some (.ref 183), some (zi i), d5, d6] []) : tz_At l G M_L_law room_1 (some (Lx, xs)) tb_LZ k1 k2 n J 879 [some (.ref tb_sc), some (.ref 0), some (.ref 164), some (.ref 183), some (zi i), d5, d6] [] := by
  obtain ⟨h, hrv⟩ := h
  obtain ⟨⟨m, hC⟩, ⟨m2, hM⟩, h3, h4, h5, ⟨h6, h7⟩, pn, RR, hcc, huu, him⟩ := id h
  have h9 : J 145 10 < 1000000000 := by omega
  have hnb : n ≤ tb_sc := by show n ≤ 1000000; omega
  refine tz_aload_n (pc := 879) dL_law_879 rfl rfl ?_
  refine tz_aload_n (pc := 880) dL_law_880 rfl rfl ?_
  refine tz_iload (pc := 881) dL_law_881 rfl ?_
  refine tz_iconst (pc := 883) dL_law_883 ?_
  refine tz_iadd (pc := 884) (v := i + 1) dL_law_884 rfl ?_
  refine tz_sld (pc := 885) (z := (i + 1)) rfl dL_law_885 (by omega) (by omega) (fun r_885 => ?_)
  refine tz_aload_n (pc := 886) dL_law_886 rfl rfl ?_
  refine tz_iload (pc := 887) dL_law_887 rfl ?_
  refine tz_iconst (pc := 889) dL_law_889 ?_
  refine tz_iadd (pc := 890) (v := i + 2) dL_law_890 rfl ?_
  refine tz_sld (pc := 891) (z := (i + 2)) rfl dL_law_891 (by omega) (by omega) (fun r_891 => ?_)
  refine tz_cV (pc := 892) (v_unify hl _ _ _ _ (z_rg _) (z_rg _) m (tbz J) pn RR hC h9 hcc rfl) vl_L_130 dL_law_892 o_0 rfl rfl (Nat.le_of_ble_eq_true rfl) ⟨(Nat.le_of_ble_eq_true rfl), (Nat.le_of_ble_eq_true rfl)⟩ rfl rfl (show k1 ≤ 601024 by omega) (show k2 ≤ 7293034 by omega) (fun r9 J_892 hq9 => ?_)
  obtain ⟨z_892, rfl, hz_892, x_892⟩ := hq9
  have cw_892 : CW J_892 J := CW.c x_892.1
  have fh9 : ∀ c, 164 ≤ c → c < 183 → J_892 c = J c := fun c x y => cw_892.2.2.2 c (Or.inr (Or.inr ⟨x, y⟩))
  have hM2 := hM.mid fh9
  have hu2 := huu.mid fh9
  refine tz_pop (pc := 895) dL_law_895 rfl ?_
  refine tz_aload_n (pc := 896) dL_law_896 rfl rfl ?_
  refine tz_aload_n (pc := 897) dL_law_897 rfl rfl ?_
  refine tz_iload (pc := 898) dL_law_898 rfl ?_
  refine tz_iconst (pc := 900) dL_law_900 ?_
  refine tz_iadd (pc := 901) (v := i + 1) dL_law_901 rfl ?_
  refine tz_sld (pc := 902) (z := (i + 1)) rfl dL_law_902 (by omega) (by omega) (fun r_902 => ?_)
  refine tz_aload_n (pc := 903) dL_law_903 rfl rfl ?_
  refine tz_iload (pc := 904) dL_law_904 rfl ?_
  refine tz_iconst (pc := 906) dL_law_906 ?_
  refine tz_iadd (pc := 907) (v := i + 2) dL_law_907 rfl ?_
  refine tz_sld (pc := 908) (z := (i + 2)) rfl dL_law_908 (by omega) (by omega) (fun r_908 => ?_)
  refine tz_cV (pc := 909) (v_qunify hl _ _ _ _ (z_rg _) (z_rg _) m2 pn RR hM2 hu2) vl_L_133 dL_law_909 o_164 rfl rfl (Nat.le_of_ble_eq_true rfl) ⟨(Nat.le_of_ble_eq_true rfl), (Nat.le_of_ble_eq_true rfl)⟩ rfl rfl (show k1 ≤ 601024 by omega) (show k2 ≤ 7293034 by omega) (fun r9 J_909 hq9 => ?_)
  obtain ⟨z_909, rfl, hz_909, y_909⟩ := hq9
  obtain ⟨ez9, bo9⟩ := b_unify (m2 := m2) hcc hC fh9 hM.1 x_892.2 y_909.2.2
  refine tz_pop (pc := 912) dL_law_912 rfl ?_
  refine tz_goto (pc := 913) (tgt := 1330) dL_law_913 (by decide) ?_
  exact nx _ _ _ _ _ _ ⟨(LV.q h cw_892 y_909.1 y_909.2.1 bo9 ⟨by omega, by omega⟩ (by omega) (by omega)), (WVX.lo (⟨cw_892.1.elim (fun m1 h1 => wv_unify hcc hC h1 hrv.1 x_892.2), hrv.2.of (fun c a b => cw_892.2.2.2 c (Or.inl ⟨a, b⟩)) cw_892.2.2.1.2.1⟩) (fun c hc => y_909.1.2.1 c (Or.inl hc)))⟩

set_option maxHeartbeats 4000000 in
set_option maxRecDepth 100000 in
theorem law_match {l : Launch} {G : tb_G} {Lx : Nat} {xs : Nat → Int32} {k1 k2 n : Nat} {J : zJ} (hl : l.stackTraces = false) (i : Int) (hi : 0 ≤ i ∧ i + 6 ≤ (Lx : Int)) (hx : Lx ≤ 3072) (d5 d6 : Option Value) (h : LVr J n k1 k2 i) (nx : ∀ (k1 k2 n : Nat) (J : zJ) (d5 d6 : Option Value), LVr J n k1 k2 (i + 6) → tz_At l G M_L_law room_1 (some (Lx, xs)) tb_LZ k1 k2 n J 1330 [some (.ref tb_sc), some (.ref 0), some (.ref 164), some (.ref 183), some (zi i), d5, d6] []) : tz_At l G M_L_law room_1 (some (Lx, xs)) tb_LZ k1 k2 n J 916 [some (.ref tb_sc), some (.ref 0), some (.ref 164), some (.ref 183), some (zi i), d5, d6] [] := by
  obtain ⟨h, hrv⟩ := h
  obtain ⟨⟨m, hC⟩, ⟨m2, hM⟩, h3, h4, h5, ⟨h6, h7⟩, pn, RR, hcc, huu, him⟩ := id h
  have h9 : J 145 10 < 1000000000 := by omega
  have hnb : n ≤ tb_sc := by show n ≤ 1000000; omega
  refine tz_aload_n (pc := 916) dL_law_916 rfl rfl ?_
  refine tz_aload_n (pc := 917) dL_law_917 rfl rfl ?_
  refine tz_iload (pc := 918) dL_law_918 rfl ?_
  refine tz_iconst (pc := 920) dL_law_920 ?_
  refine tz_iadd (pc := 921) (v := i + 1) dL_law_921 rfl ?_
  refine tz_sld (pc := 922) (z := (i + 1)) rfl dL_law_922 (by omega) (by omega) (fun r_922 => ?_)
  refine tz_aload_n (pc := 923) dL_law_923 rfl rfl ?_
  refine tz_iload (pc := 924) dL_law_924 rfl ?_
  refine tz_iconst (pc := 926) dL_law_926 ?_
  refine tz_iadd (pc := 927) (v := i + 2) dL_law_927 rfl ?_
  refine tz_sld (pc := 928) (z := (i + 2)) rfl dL_law_928 (by omega) (by omega) (fun r_928 => ?_)
  refine tz_cV (pc := 929) (v_match hl _ _ _ _ (z_rg _) (z_rg _) m (tbz J) pn RR hC h9 hcc rfl) vl_L_134 dL_law_929 o_0 rfl rfl (Nat.le_of_ble_eq_true rfl) ⟨(Nat.le_of_ble_eq_true rfl), (Nat.le_of_ble_eq_true rfl)⟩ rfl rfl (show k1 ≤ 601024 by omega) (show k2 ≤ 7293034 by omega) (fun r9 J_929 hq9 => ?_)
  obtain ⟨z_929, rfl, hz_929, x_929⟩ := hq9
  have cw_929 : CW J_929 J := CW.c x_929.1
  have fh9 : ∀ c, 164 ≤ c → c < 183 → J_929 c = J c := fun c x y => cw_929.2.2.2 c (Or.inr (Or.inr ⟨x, y⟩))
  have hM2 := hM.mid fh9
  have hu2 := huu.mid fh9
  refine tz_pop (pc := 932) dL_law_932 rfl ?_
  refine tz_aload_n (pc := 933) dL_law_933 rfl rfl ?_
  refine tz_aload_n (pc := 934) dL_law_934 rfl rfl ?_
  refine tz_iload (pc := 935) dL_law_935 rfl ?_
  refine tz_iconst (pc := 937) dL_law_937 ?_
  refine tz_iadd (pc := 938) (v := i + 1) dL_law_938 rfl ?_
  refine tz_sld (pc := 939) (z := (i + 1)) rfl dL_law_939 (by omega) (by omega) (fun r_939 => ?_)
  refine tz_aload_n (pc := 940) dL_law_940 rfl rfl ?_
  refine tz_iload (pc := 941) dL_law_941 rfl ?_
  refine tz_iconst (pc := 943) dL_law_943 ?_
  refine tz_iadd (pc := 944) (v := i + 2) dL_law_944 rfl ?_
  refine tz_sld (pc := 945) (z := (i + 2)) rfl dL_law_945 (by omega) (by omega) (fun r_945 => ?_)
  refine tz_cV (pc := 946) (v_qmatch hl _ _ _ _ (z_rg _) (z_rg _) m2 pn RR hM2 hu2) vl_L_137 dL_law_946 o_164 rfl rfl (Nat.le_of_ble_eq_true rfl) ⟨(Nat.le_of_ble_eq_true rfl), (Nat.le_of_ble_eq_true rfl)⟩ rfl rfl (show k1 ≤ 601024 by omega) (show k2 ≤ 7293034 by omega) (fun r9 J_946 hq9 => ?_)
  obtain ⟨z_946, rfl, hz_946, y_946⟩ := hq9
  obtain ⟨ez9, bo9⟩ := b_match (m2 := m2) hcc hC fh9 x_929.2 y_946.2.2
  refine tz_pop (pc := 949) dL_law_949 rfl ?_
  refine tz_goto (pc := 950) (tgt := 1330) dL_law_950 (by decide) ?_
  exact nx _ _ _ _ _ _ ⟨(LV.q h cw_929 y_946.1 y_946.2.1 bo9 ⟨by omega, by omega⟩ (by omega) (by omega)), (WVX.lo (⟨cw_929.1.elim (fun m1 h1 => wv_match hcc hC h1 hrv.1 x_929.2), hrv.2.of (fun c a b => cw_929.2.2.2 c (Or.inl ⟨a, b⟩)) cw_929.2.2.1.2.1⟩) (fun c hc => y_946.1.2.1 c (Or.inl hc)))⟩

set_option maxHeartbeats 4000000 in
set_option maxRecDepth 100000 in
theorem law_common {l : Launch} {G : tb_G} {Lx : Nat} {xs : Nat → Int32} {k1 k2 n : Nat} {J : zJ} (hl : l.stackTraces = false) (i : Int) (hi : 0 ≤ i ∧ i + 6 ≤ (Lx : Int)) (hx : Lx ≤ 3072) (d5 d6 : Option Value) (h : LVr J n k1 k2 i) (nx : ∀ (k1 k2 n : Nat) (J : zJ) (d5 d6 : Option Value), LVr J n k1 k2 (i + 6) → tz_At l G M_L_law room_1 (some (Lx, xs)) tb_LZ k1 k2 n J 1330 [some (.ref tb_sc), some (.ref 0), some (.ref 164), some (.ref 183), some (zi i), d5, d6] []) : tz_At l G M_L_law room_1 (some (Lx, xs)) tb_LZ k1 k2 n J 953 [some (.ref tb_sc), some (.ref 0), some (.ref 164), some (.ref 183), some (zi i), d5, d6] [] := by
  obtain ⟨h, hrv⟩ := h
  obtain ⟨⟨m, hC⟩, ⟨m2, hM⟩, h3, h4, h5, ⟨h6, h7⟩, pn, RR, hcc, huu, him⟩ := id h
  have h9 : J 145 10 < 1000000000 := by omega
  have hnb : n ≤ tb_sc := by show n ≤ 1000000; omega
  refine tz_aload_n (pc := 953) dL_law_953 rfl rfl ?_
  refine tz_aload_n (pc := 954) dL_law_954 rfl rfl ?_
  refine tz_iload (pc := 955) dL_law_955 rfl ?_
  refine tz_iconst (pc := 957) dL_law_957 ?_
  refine tz_iadd (pc := 958) (v := i + 1) dL_law_958 rfl ?_
  refine tz_sld (pc := 959) (z := (i + 1)) rfl dL_law_959 (by omega) (by omega) (fun r_959 => ?_)
  refine tz_aload_n (pc := 960) dL_law_960 rfl rfl ?_
  refine tz_iload (pc := 961) dL_law_961 rfl ?_
  refine tz_iconst (pc := 963) dL_law_963 ?_
  refine tz_iadd (pc := 964) (v := i + 2) dL_law_964 rfl ?_
  refine tz_sld (pc := 965) (z := (i + 2)) rfl dL_law_965 (by omega) (by omega) (fun r_965 => ?_)
  refine tz_cV (pc := 966) (v_common hl _ _ _ _ (z_rg _) (z_rg _) m (tbz J) pn RR hC h9 hcc rfl) vl_L_138 dL_law_966 o_0 rfl rfl (Nat.le_of_ble_eq_true rfl) ⟨(Nat.le_of_ble_eq_true rfl), (Nat.le_of_ble_eq_true rfl)⟩ rfl rfl (show k1 ≤ 601024 by omega) (show k2 ≤ 7293034 by omega) (fun r9 J_966 hq9 => ?_)
  obtain ⟨z_966, rfl, hz_966, x_966⟩ := hq9
  have cw_966 : CW J_966 J := CW.c x_966.1
  have fh9 : ∀ c, 164 ≤ c → c < 183 → J_966 c = J c := fun c x y => cw_966.2.2.2 c (Or.inr (Or.inr ⟨x, y⟩))
  have hM2 := hM.mid fh9
  have hu2 := huu.mid fh9
  refine tz_pop (pc := 969) dL_law_969 rfl ?_
  refine tz_aload_n (pc := 970) dL_law_970 rfl rfl ?_
  refine tz_aload_n (pc := 971) dL_law_971 rfl rfl ?_
  refine tz_iload (pc := 972) dL_law_972 rfl ?_
  refine tz_iconst (pc := 974) dL_law_974 ?_
  refine tz_iadd (pc := 975) (v := i + 1) dL_law_975 rfl ?_
  refine tz_sld (pc := 976) (z := (i + 1)) rfl dL_law_976 (by omega) (by omega) (fun r_976 => ?_)
  refine tz_aload_n (pc := 977) dL_law_977 rfl rfl ?_
  refine tz_iload (pc := 978) dL_law_978 rfl ?_
  refine tz_iconst (pc := 980) dL_law_980 ?_
  refine tz_iadd (pc := 981) (v := i + 2) dL_law_981 rfl ?_
  refine tz_sld (pc := 982) (z := (i + 2)) rfl dL_law_982 (by omega) (by omega) (fun r_982 => ?_)
  refine tz_cV (pc := 983) (v_qcommon hl _ _ _ _ (z_rg _) (z_rg _) m2 pn RR hM2 hu2) vl_L_141 dL_law_983 o_164 rfl rfl (Nat.le_of_ble_eq_true rfl) ⟨(Nat.le_of_ble_eq_true rfl), (Nat.le_of_ble_eq_true rfl)⟩ rfl rfl (show k1 ≤ 601024 by omega) (show k2 ≤ 7293034 by omega) (fun r9 J_983 hq9 => ?_)
  obtain ⟨z_983, rfl, hz_983, y_983⟩ := hq9
  have bo9 := b_common (m2 := m2) hcc hC fh9 x_966.2 y_983.2.2
  refine tz_pop (pc := 986) dL_law_986 rfl ?_
  refine tz_goto (pc := 987) (tgt := 1330) dL_law_987 (by decide) ?_
  exact nx _ _ _ _ _ _ ⟨(LV.q h cw_966 y_983.1 y_983.2.1 bo9 ⟨by omega, by omega⟩ (by omega) (by omega)), (WVX.lo (⟨cw_966.1.elim (fun m1 h1 => wv_common hcc hC h1 hrv.1 x_966.2), hrv.2.of (fun c a b => cw_966.2.2.2 c (Or.inl ⟨a, b⟩)) cw_966.2.2.1.2.1⟩) (fun c hc => y_983.1.2.1 c (Or.inl hc)))⟩

set_option maxHeartbeats 4000000 in
set_option maxRecDepth 100000 in
theorem law_normal {l : Launch} {G : tb_G} {Lx : Nat} {xs : Nat → Int32} {k1 k2 n : Nat} {J : zJ} (hl : l.stackTraces = false) (i : Int) (hi : 0 ≤ i ∧ i + 6 ≤ (Lx : Int)) (hx : Lx ≤ 3072) (d5 d6 : Option Value) (h : LVr J n k1 k2 i) (nx : ∀ (k1 k2 n : Nat) (J : zJ) (d5 d6 : Option Value), LVr J n k1 k2 (i + 6) → tz_At l G M_L_law room_1 (some (Lx, xs)) tb_LZ k1 k2 n J 1330 [some (.ref tb_sc), some (.ref 0), some (.ref 164), some (.ref 183), some (zi i), d5, d6] []) : tz_At l G M_L_law room_1 (some (Lx, xs)) tb_LZ k1 k2 n J 990 [some (.ref tb_sc), some (.ref 0), some (.ref 164), some (.ref 183), some (zi i), d5, d6] [] := by
  obtain ⟨h, hrv⟩ := h
  obtain ⟨⟨m, hC⟩, ⟨m2, hM⟩, h3, h4, h5, ⟨h6, h7⟩, pn, RR, hcc, huu, him⟩ := id h
  have h9 : J 145 10 < 1000000000 := by omega
  have hnb : n ≤ tb_sc := by show n ≤ 1000000; omega
  refine tz_aload_n (pc := 990) dL_law_990 rfl rfl ?_
  refine tz_aload_n (pc := 991) dL_law_991 rfl rfl ?_
  refine tz_iload (pc := 992) dL_law_992 rfl ?_
  refine tz_iconst (pc := 994) dL_law_994 ?_
  refine tz_iadd (pc := 995) (v := i + 1) dL_law_995 rfl ?_
  refine tz_sld (pc := 996) (z := (i + 1)) rfl dL_law_996 (by omega) (by omega) (fun r_996 => ?_)
  refine tz_cV (pc := 997) (v_normal hl _ _ _ (z_rg _) m (tbz J) pn RR hC h9 hcc rfl (show tbz J 165 40 ≤ tbz J 165 39 from hM.2.1.2.1.2.1.2)) vl_L_142 dL_law_997 o_0 rfl rfl (Nat.le_of_ble_eq_true rfl) ⟨(Nat.le_of_ble_eq_true rfl), (Nat.le_of_ble_eq_true rfl)⟩ rfl rfl (show k1 ≤ 601024 by omega) (show k2 ≤ 7293034 by omega) (fun r9 J_997 hq9 => ?_)
  obtain ⟨z_997, rfl, hz_997, x_997⟩ := hq9
  have cw_997 : CW J_997 J := CW.c x_997.1
  have fh9 : ∀ c, 164 ≤ c → c < 183 → J_997 c = J c := fun c x y => cw_997.2.2.2 c (Or.inr (Or.inr ⟨x, y⟩))
  have hM2 := hM.mid fh9
  have hu2 := huu.mid fh9
  refine tz_pop (pc := 1000) dL_law_1000 rfl ?_
  refine tz_aload_n (pc := 1001) dL_law_1001 rfl rfl ?_
  refine tz_aload_n (pc := 1002) dL_law_1002 rfl rfl ?_
  refine tz_iload (pc := 1003) dL_law_1003 rfl ?_
  refine tz_iconst (pc := 1005) dL_law_1005 ?_
  refine tz_iadd (pc := 1006) (v := i + 1) dL_law_1006 rfl ?_
  refine tz_sld (pc := 1007) (z := (i + 1)) rfl dL_law_1007 (by omega) (by omega) (fun r_1007 => ?_)
  refine tz_cV (pc := 1008) (v_qnormal hl _ _ _ (z_rg _) m2 pn RR hM2 hu2) vl_L_145 dL_law_1008 o_164 rfl rfl (Nat.le_of_ble_eq_true rfl) ⟨(Nat.le_of_ble_eq_true rfl), (Nat.le_of_ble_eq_true rfl)⟩ rfl rfl (show k1 ≤ 601024 by omega) (show k2 ≤ 7293034 by omega) (fun r9 J_1008 hq9 => ?_)
  obtain ⟨z_1008, rfl, hz_1008, y_1008⟩ := hq9
  obtain ⟨ez9, bo9⟩ := b_normal (m2 := m2) hcc hC fh9 x_997.2 y_1008.2.2
  refine tz_pop (pc := 1011) dL_law_1011 rfl ?_
  refine tz_goto (pc := 1012) (tgt := 1330) dL_law_1012 (by decide) ?_
  exact nx _ _ _ _ _ _ ⟨(LV.q h cw_997 y_1008.1 y_1008.2.1 bo9 ⟨by omega, by omega⟩ (by omega) (by omega)), (WVX.lo (⟨cw_997.1.elim (fun m1 h1 => wv_normal hcc hC h1 hrv.1 fh9 y_1008.2.2 (show tbz J 165 40 ≤ tbz J 165 39 from hM.2.1.2.1.2.1.2) x_997.2), hrv.2.of (fun c a b => cw_997.2.2.2 c (Or.inl ⟨a, b⟩)) cw_997.2.2.1.2.1⟩) (fun c hc => y_1008.1.2.1 c (Or.inl hc)))⟩

set_option maxHeartbeats 4000000 in
set_option maxRecDepth 100000 in
theorem law_put {l : Launch} {G : tb_G} {Lx : Nat} {xs : Nat → Int32} {k1 k2 n : Nat} {J : zJ} (hl : l.stackTraces = false) (i : Int) (hi : 0 ≤ i ∧ i + 6 ≤ (Lx : Int)) (hx : Lx ≤ 3072) (d5 d6 : Option Value) (h : LVr J n k1 k2 i) (nx : ∀ (k1 k2 n : Nat) (J : zJ) (d5 d6 : Option Value), LVr J n k1 k2 (i + 6) → tz_At l G M_L_law room_1 (some (Lx, xs)) tb_LZ k1 k2 n J 1330 [some (.ref tb_sc), some (.ref 0), some (.ref 164), some (.ref 183), some (zi i), d5, d6] []) : tz_At l G M_L_law room_1 (some (Lx, xs)) tb_LZ k1 k2 n J 1015 [some (.ref tb_sc), some (.ref 0), some (.ref 164), some (.ref 183), some (zi i), d5, d6] [] := by
  obtain ⟨h, hrv⟩ := h
  obtain ⟨⟨m, hC⟩, ⟨m2, hM⟩, h3, h4, h5, ⟨h6, h7⟩, pn, RR, hcc, huu, him⟩ := id h
  have h9 : J 145 10 < 1000000000 := by omega
  have hnb : n ≤ tb_sc := by show n ≤ 1000000; omega
  refine tz_aload_n (pc := 1015) dL_law_1015 rfl rfl ?_
  refine tz_aload_n (pc := 1016) dL_law_1016 rfl rfl ?_
  refine tz_iload (pc := 1017) dL_law_1017 rfl ?_
  refine tz_iconst (pc := 1019) dL_law_1019 ?_
  refine tz_iadd (pc := 1020) (v := i + 1) dL_law_1020 rfl ?_
  refine tz_sld (pc := 1021) (z := (i + 1)) rfl dL_law_1021 (by omega) (by omega) (fun r_1021 => ?_)
  refine tz_aload_n (pc := 1022) dL_law_1022 rfl rfl ?_
  refine tz_iload (pc := 1023) dL_law_1023 rfl ?_
  refine tz_iconst (pc := 1025) dL_law_1025 ?_
  refine tz_iadd (pc := 1026) (v := i + 2) dL_law_1026 rfl ?_
  refine tz_sld (pc := 1027) (z := (i + 2)) rfl dL_law_1027 (by omega) (by omega) (fun r_1027 => ?_)
  refine tz_aload_n (pc := 1028) dL_law_1028 rfl rfl ?_
  refine tz_iload (pc := 1029) dL_law_1029 rfl ?_
  refine tz_iconst (pc := 1031) dL_law_1031 ?_
  refine tz_iadd (pc := 1032) (v := i + 3) dL_law_1032 rfl ?_
  refine tz_sld (pc := 1033) (z := (i + 3)) rfl dL_law_1033 (by omega) (by omega) (fun r_1033 => ?_)
  refine tz_cV (pc := 1034) (v_put hl _ _ _ _ _ (z_rg _) (z_rg _) (z_rg _) m (tbz J) pn RR hC h9 hcc rfl) vl_L_146 dL_law_1034 o_0 rfl rfl (Nat.le_of_ble_eq_true rfl) ⟨(Nat.le_of_ble_eq_true rfl), (Nat.le_of_ble_eq_true rfl)⟩ rfl rfl (show k1 ≤ 601024 by omega) (show k2 ≤ 7293034 by omega) (fun r9 J_1034 hq9 => ?_)
  obtain ⟨z_1034, rfl, hz_1034, x_1034⟩ := hq9
  have cw_1034 : CW J_1034 J := CW.c x_1034.1
  have fh9 : ∀ c, 164 ≤ c → c < 183 → J_1034 c = J c := fun c x y => cw_1034.2.2.2 c (Or.inr (Or.inr ⟨x, y⟩))
  have hM2 := hM.mid fh9
  have hu2 := huu.mid fh9
  refine tz_pop (pc := 1037) dL_law_1037 rfl ?_
  refine tz_aload_n (pc := 1038) dL_law_1038 rfl rfl ?_
  refine tz_aload_n (pc := 1039) dL_law_1039 rfl rfl ?_
  refine tz_iload (pc := 1040) dL_law_1040 rfl ?_
  refine tz_iconst (pc := 1042) dL_law_1042 ?_
  refine tz_iadd (pc := 1043) (v := i + 1) dL_law_1043 rfl ?_
  refine tz_sld (pc := 1044) (z := (i + 1)) rfl dL_law_1044 (by omega) (by omega) (fun r_1044 => ?_)
  refine tz_aload_n (pc := 1045) dL_law_1045 rfl rfl ?_
  refine tz_iload (pc := 1046) dL_law_1046 rfl ?_
  refine tz_iconst (pc := 1048) dL_law_1048 ?_
  refine tz_iadd (pc := 1049) (v := i + 2) dL_law_1049 rfl ?_
  refine tz_sld (pc := 1050) (z := (i + 2)) rfl dL_law_1050 (by omega) (by omega) (fun r_1050 => ?_)
  refine tz_aload_n (pc := 1051) dL_law_1051 rfl rfl ?_
  refine tz_iload (pc := 1052) dL_law_1052 rfl ?_
  refine tz_iconst (pc := 1054) dL_law_1054 ?_
  refine tz_iadd (pc := 1055) (v := i + 3) dL_law_1055 rfl ?_
  refine tz_sld (pc := 1056) (z := (i + 3)) rfl dL_law_1056 (by omega) (by omega) (fun r_1056 => ?_)
  refine tz_cVX (pc := 1057) (v_qput hl _ _ _ _ _ (z_rg _) (z_rg _) (z_rg _) m2 pn RR hM2 hu2 (by omega) (show _ + 7 < 1000000 by omega)) vl_L_149 dL_law_1057 o_164 rfl rfl (Nat.le_of_ble_eq_true rfl) ⟨(Nat.le_of_ble_eq_true rfl), (Nat.le_of_ble_eq_true rfl)⟩ rfl rfl (show k1 + 7 ≤ 601024 by omega) (show k2 + 21 ≤ 7293034 by omega) (fun r8 n_1057 J_1057 hn1_1057 hn2_1057 hq9 => ?_) (fun E9 n_1057 J_1057 hn1_1057 hn2_1057 hx9 => hx9.elim)
  obtain ⟨z_1057, rfl, hz_1057, y_1057⟩ := hq9
  obtain ⟨ez9, bo9⟩ := b_put (m2 := m2) hcc hC fh9 x_1034.2 y_1057.2.2
  refine tz_pop (pc := 1060) dL_law_1060 rfl ?_
  refine tz_goto (pc := 1061) (tgt := 1330) dL_law_1061 (by decide) ?_
  exact nx _ _ _ _ _ _ ⟨(LV.q h cw_1034 y_1057.1 y_1057.2.1 bo9 ⟨by omega, by omega⟩ (by omega) (by omega)), (WVX.lo (⟨cw_1034.1.elim (fun m1 h1 => wv_put hcc hC h1 hrv.1 x_1034.2), hrv.2.of (fun c a b => cw_1034.2.2.2 c (Or.inl ⟨a, b⟩)) cw_1034.2.2.1.2.1⟩) (fun c hc => y_1057.1.2.1 c (Or.inl hc)))⟩

set_option maxHeartbeats 4000000 in
set_option maxRecDepth 100000 in
theorem law_rules {l : Launch} {G : tb_G} {Lx : Nat} {xs : Nat → Int32} {k1 k2 n : Nat} {J : zJ} (hl : l.stackTraces = false) (i : Int) (hi : 0 ≤ i ∧ i + 6 ≤ (Lx : Int)) (hx : Lx ≤ 3072) (d5 d6 : Option Value) (h : LVr J n k1 k2 i) (nx : ∀ (k1 k2 n : Nat) (J : zJ) (d5 d6 : Option Value), LVr J n k1 k2 (i + 6) → tz_At l G M_L_law room_1 (some (Lx, xs)) tb_LZ k1 k2 n J 1330 [some (.ref tb_sc), some (.ref 0), some (.ref 164), some (.ref 183), some (zi i), d5, d6] []) : tz_At l G M_L_law room_1 (some (Lx, xs)) tb_LZ k1 k2 n J 1064 [some (.ref tb_sc), some (.ref 0), some (.ref 164), some (.ref 183), some (zi i), d5, d6] [] := by
  obtain ⟨h, hrv⟩ := h
  obtain ⟨⟨m, hC⟩, ⟨m2, hM⟩, h3, h4, h5, ⟨h6, h7⟩, pn, RR, hcc, huu, him⟩ := id h
  have h9 : J 145 10 < 1000000000 := by omega
  have hnb : n ≤ tb_sc := by show n ≤ 1000000; omega
  refine tz_aload_n (pc := 1064) dL_law_1064 rfl rfl ?_
  refine tz_aload_n (pc := 1065) dL_law_1065 rfl rfl ?_
  refine tz_iload (pc := 1066) dL_law_1066 rfl ?_
  refine tz_iconst (pc := 1068) dL_law_1068 ?_
  refine tz_iadd (pc := 1069) (v := i + 1) dL_law_1069 rfl ?_
  refine tz_sld (pc := 1070) (z := (i + 1)) rfl dL_law_1070 (by omega) (by omega) (fun r_1070 => ?_)
  refine tz_aload_n (pc := 1071) dL_law_1071 rfl rfl ?_
  refine tz_iload (pc := 1072) dL_law_1072 rfl ?_
  refine tz_iconst (pc := 1074) dL_law_1074 ?_
  refine tz_iadd (pc := 1075) (v := i + 2) dL_law_1075 rfl ?_
  refine tz_sld (pc := 1076) (z := (i + 2)) rfl dL_law_1076 (by omega) (by omega) (fun r_1076 => ?_)
  refine tz_cV (pc := 1077) (v_rules hl _ _ _ _ (z_rg _) (z_rg _) m (tbz J) pn RR hC h9 hcc rfl) vl_L_150 dL_law_1077 o_0 rfl rfl (Nat.le_of_ble_eq_true rfl) ⟨(Nat.le_of_ble_eq_true rfl), (Nat.le_of_ble_eq_true rfl)⟩ rfl rfl (show k1 ≤ 601024 by omega) (show k2 ≤ 7293034 by omega) (fun r9 J_1077 hq9 => ?_)
  obtain ⟨z_1077, rfl, hz_1077, x_1077⟩ := hq9
  have cw_1077 : CW J_1077 J := CW.c x_1077.1
  have fh9 : ∀ c, 164 ≤ c → c < 183 → J_1077 c = J c := fun c x y => cw_1077.2.2.2 c (Or.inr (Or.inr ⟨x, y⟩))
  have hM2 := hM.mid fh9
  have hu2 := huu.mid fh9
  refine tz_pop (pc := 1080) dL_law_1080 rfl ?_
  refine tz_aload_n (pc := 1081) dL_law_1081 rfl rfl ?_
  refine tz_aload_n (pc := 1082) dL_law_1082 rfl rfl ?_
  refine tz_iload (pc := 1083) dL_law_1083 rfl ?_
  refine tz_iconst (pc := 1085) dL_law_1085 ?_
  refine tz_iadd (pc := 1086) (v := i + 1) dL_law_1086 rfl ?_
  refine tz_sld (pc := 1087) (z := (i + 1)) rfl dL_law_1087 (by omega) (by omega) (fun r_1087 => ?_)
  refine tz_aload_n (pc := 1088) dL_law_1088 rfl rfl ?_
  refine tz_iload (pc := 1089) dL_law_1089 rfl ?_
  refine tz_iconst (pc := 1091) dL_law_1091 ?_
  refine tz_iadd (pc := 1092) (v := i + 2) dL_law_1092 rfl ?_
  refine tz_sld (pc := 1093) (z := (i + 2)) rfl dL_law_1093 (by omega) (by omega) (fun r_1093 => ?_)
  refine tz_cV (pc := 1094) (v_qrules hl _ _ _ _ (z_rg _) (z_rg _) m2 pn RR hM2 hu2 (fun k x y => by rw [fh9 164 (by decide) (by decide)] at y; rw [fh9 171 (by decide) (by decide)]; exact al_w hcc hC k x y)) vl_L_153 dL_law_1094 o_164 rfl rfl (Nat.le_of_ble_eq_true rfl) ⟨(Nat.le_of_ble_eq_true rfl), (Nat.le_of_ble_eq_true rfl)⟩ rfl rfl (show k1 ≤ 601024 by omega) (show k2 ≤ 7293034 by omega) (fun r9 J_1094 hq9 => ?_)
  obtain ⟨z_1094, rfl, hz_1094, y_1094⟩ := hq9
  obtain ⟨ez9, bo9⟩ := b_rules (m2 := m2) hcc hC fh9 x_1077.2 y_1094.2.2
  refine tz_pop (pc := 1097) dL_law_1097 rfl ?_
  refine tz_goto (pc := 1098) (tgt := 1330) dL_law_1098 (by decide) ?_
  exact nx _ _ _ _ _ _ ⟨(LV.q h cw_1077 y_1094.1 y_1094.2.1 bo9 ⟨by omega, by omega⟩ (by omega) (by omega)), (WVX.lo (⟨cw_1077.1.elim (fun m1 h1 => wv_rules hcc hC h1 hrv.1 x_1077.2), hrv.2.of (fun c a b => cw_1077.2.2.2 c (Or.inl ⟨a, b⟩)) cw_1077.2.2.1.2.1⟩) (fun c hc => y_1094.1.2.1 c (Or.inl hc)))⟩

set_option maxHeartbeats 4000000 in
set_option maxRecDepth 100000 in
theorem law_enter {l : Launch} {G : tb_G} {Lx : Nat} {xs : Nat → Int32} {k1 k2 n : Nat} {J : zJ} (hl : l.stackTraces = false) (i : Int) (hi : 0 ≤ i ∧ i + 6 ≤ (Lx : Int)) (hx : Lx ≤ 3072) (d5 d6 : Option Value) (h : LVr J n k1 k2 i) (nx : ∀ (k1 k2 n : Nat) (J : zJ) (d5 d6 : Option Value), LVr J n k1 k2 (i + 6) → tz_At l G M_L_law room_1 (some (Lx, xs)) tb_LZ k1 k2 n J 1330 [some (.ref tb_sc), some (.ref 0), some (.ref 164), some (.ref 183), some (zi i), d5, d6] []) : tz_At l G M_L_law room_1 (some (Lx, xs)) tb_LZ k1 k2 n J 1101 [some (.ref tb_sc), some (.ref 0), some (.ref 164), some (.ref 183), some (zi i), d5, d6] [] := by
  obtain ⟨h, hrv⟩ := h
  obtain ⟨⟨m, hC⟩, ⟨m2, hM⟩, h3, h4, h5, ⟨h6, h7⟩, pn, RR, hcc, huu, him⟩ := id h
  have h9 : J 145 10 < 1000000000 := by omega
  have hnb : n ≤ tb_sc := by show n ≤ 1000000; omega
  refine tz_aload_n (pc := 1101) dL_law_1101 rfl rfl ?_
  refine tz_aload_n (pc := 1102) dL_law_1102 rfl rfl ?_
  refine tz_iload (pc := 1103) dL_law_1103 rfl ?_
  refine tz_iconst (pc := 1105) dL_law_1105 ?_
  refine tz_iadd (pc := 1106) (v := i + 1) dL_law_1106 rfl ?_
  refine tz_sld (pc := 1107) (z := (i + 1)) rfl dL_law_1107 (by omega) (by omega) (fun r_1107 => ?_)
  refine tz_cV (pc := 1108) (v_enter hl _ _ _ (z_rg _) m (tbz J) pn RR hC h9 hcc rfl) vl_L_154 dL_law_1108 o_0 rfl rfl (Nat.le_of_ble_eq_true rfl) ⟨(Nat.le_of_ble_eq_true rfl), (Nat.le_of_ble_eq_true rfl)⟩ rfl rfl (show k1 ≤ 601024 by omega) (show k2 ≤ 7293034 by omega) (fun r9 J_1108 hq9 => ?_)
  obtain ⟨z_1108, rfl, hz_1108, x_1108⟩ := hq9
  have cw_1108 : CW J_1108 J := CW.c x_1108.1
  have fh9 : ∀ c, 164 ≤ c → c < 183 → J_1108 c = J c := fun c x y => cw_1108.2.2.2 c (Or.inr (Or.inr ⟨x, y⟩))
  have hM2 := hM.mid fh9
  have hu2 := huu.mid fh9
  refine tz_pop (pc := 1111) dL_law_1111 rfl ?_
  refine tz_aload_n (pc := 1112) dL_law_1112 rfl rfl ?_
  refine tz_aload_n (pc := 1113) dL_law_1113 rfl rfl ?_
  refine tz_iload (pc := 1114) dL_law_1114 rfl ?_
  refine tz_iconst (pc := 1116) dL_law_1116 ?_
  refine tz_iadd (pc := 1117) (v := i + 1) dL_law_1117 rfl ?_
  refine tz_sld (pc := 1118) (z := (i + 1)) rfl dL_law_1118 (by omega) (by omega) (fun r_1118 => ?_)
  refine tz_cV (pc := 1119) (v_qenter hl _ _ _ (z_rg _) m2 pn RR hM2 hu2) vl_L_157 dL_law_1119 o_164 rfl rfl (Nat.le_of_ble_eq_true rfl) ⟨(Nat.le_of_ble_eq_true rfl), (Nat.le_of_ble_eq_true rfl)⟩ rfl rfl (show k1 ≤ 601024 by omega) (show k2 ≤ 7293034 by omega) (fun r9 J_1119 hq9 => ?_)
  obtain ⟨z_1119, rfl, hz_1119, y_1119⟩ := hq9
  obtain ⟨ez9, bo9⟩ := b_enter (m2 := m2) hcc hC fh9 x_1108.2 y_1119.2.2
  refine tz_pop (pc := 1122) dL_law_1122 rfl ?_
  refine tz_goto (pc := 1123) (tgt := 1330) dL_law_1123 (by decide) ?_
  exact nx _ _ _ _ _ _ ⟨(LV.q h cw_1108 y_1119.1 y_1119.2.1 bo9 ⟨by omega, by omega⟩ (by omega) (by omega)), (WVX.lo (⟨cw_1108.1.elim (fun m1 h1 => wv_enter hcc hC h1 hrv.1 x_1108.2), hrv.2.of (fun c a b => cw_1108.2.2.2 c (Or.inl ⟨a, b⟩)) cw_1108.2.2.1.2.1⟩) (fun c hc => y_1119.1.2.1 c (Or.inl hc)))⟩

set_option maxHeartbeats 4000000 in
set_option maxRecDepth 100000 in
theorem law_leave {l : Launch} {G : tb_G} {Lx : Nat} {xs : Nat → Int32} {k1 k2 n : Nat} {J : zJ} (hl : l.stackTraces = false) (i : Int) (hi : 0 ≤ i ∧ i + 6 ≤ (Lx : Int)) (hx : Lx ≤ 3072) (d5 d6 : Option Value) (h : LVr J n k1 k2 i) (nx : ∀ (k1 k2 n : Nat) (J : zJ) (d5 d6 : Option Value), LVr J n k1 k2 (i + 6) → tz_At l G M_L_law room_1 (some (Lx, xs)) tb_LZ k1 k2 n J 1330 [some (.ref tb_sc), some (.ref 0), some (.ref 164), some (.ref 183), some (zi i), d5, d6] []) : tz_At l G M_L_law room_1 (some (Lx, xs)) tb_LZ k1 k2 n J 1126 [some (.ref tb_sc), some (.ref 0), some (.ref 164), some (.ref 183), some (zi i), d5, d6] [] := by
  obtain ⟨h, hrv⟩ := h
  obtain ⟨⟨m, hC⟩, ⟨m2, hM⟩, h3, h4, h5, ⟨h6, h7⟩, pn, RR, hcc, huu, him⟩ := id h
  have h9 : J 145 10 < 1000000000 := by omega
  have hnb : n ≤ tb_sc := by show n ≤ 1000000; omega
  refine tz_aload_n (pc := 1126) dL_law_1126 rfl rfl ?_
  refine tz_aload_n (pc := 1127) dL_law_1127 rfl rfl ?_
  refine tz_iload (pc := 1128) dL_law_1128 rfl ?_
  refine tz_iconst (pc := 1130) dL_law_1130 ?_
  refine tz_iadd (pc := 1131) (v := i + 1) dL_law_1131 rfl ?_
  refine tz_sld (pc := 1132) (z := (i + 1)) rfl dL_law_1132 (by omega) (by omega) (fun r_1132 => ?_)
  refine tz_cV (pc := 1133) (v_leave hl _ _ _ (z_rg _) m (tbz J) pn RR hC h9 hcc rfl) vl_L_158 dL_law_1133 o_0 rfl rfl (Nat.le_of_ble_eq_true rfl) ⟨(Nat.le_of_ble_eq_true rfl), (Nat.le_of_ble_eq_true rfl)⟩ rfl rfl (show k1 ≤ 601024 by omega) (show k2 ≤ 7293034 by omega) (fun r9 J_1133 hq9 => ?_)
  obtain ⟨z_1133, rfl, hz_1133, x_1133⟩ := hq9
  have cw_1133 : CW J_1133 J := CW.c x_1133.1
  have fh9 : ∀ c, 164 ≤ c → c < 183 → J_1133 c = J c := fun c x y => cw_1133.2.2.2 c (Or.inr (Or.inr ⟨x, y⟩))
  have hM2 := hM.mid fh9
  have hu2 := huu.mid fh9
  refine tz_pop (pc := 1136) dL_law_1136 rfl ?_
  refine tz_aload_n (pc := 1137) dL_law_1137 rfl rfl ?_
  refine tz_aload_n (pc := 1138) dL_law_1138 rfl rfl ?_
  refine tz_iload (pc := 1139) dL_law_1139 rfl ?_
  refine tz_iconst (pc := 1141) dL_law_1141 ?_
  refine tz_iadd (pc := 1142) (v := i + 1) dL_law_1142 rfl ?_
  refine tz_sld (pc := 1143) (z := (i + 1)) rfl dL_law_1143 (by omega) (by omega) (fun r_1143 => ?_)
  refine tz_cV (pc := 1144) (v_qleave hl _ _ _ (z_rg _) m2 pn RR hM2 hu2) vl_L_161 dL_law_1144 o_164 rfl rfl (Nat.le_of_ble_eq_true rfl) ⟨(Nat.le_of_ble_eq_true rfl), (Nat.le_of_ble_eq_true rfl)⟩ rfl rfl (show k1 ≤ 601024 by omega) (show k2 ≤ 7293034 by omega) (fun r9 J_1144 hq9 => ?_)
  obtain ⟨z_1144, rfl, hz_1144, y_1144⟩ := hq9
  obtain ⟨ez9, bo9⟩ := b_leave (m2 := m2) hcc hC fh9 x_1133.2 y_1144.2.2
  refine tz_pop (pc := 1147) dL_law_1147 rfl ?_
  refine tz_goto (pc := 1148) (tgt := 1330) dL_law_1148 (by decide) ?_
  exact nx _ _ _ _ _ _ ⟨(LV.q h cw_1133 y_1144.1 y_1144.2.1 bo9 ⟨by omega, by omega⟩ (by omega) (by omega)), (WVX.lo (⟨cw_1133.1.elim (fun m1 h1 => wv_leave hcc hC h1 hrv.1 x_1133.2), hrv.2.of (fun c a b => cw_1133.2.2.2 c (Or.inl ⟨a, b⟩)) cw_1133.2.2.1.2.1⟩) (fun c hc => y_1144.1.2.1 c (Or.inl hc)))⟩

set_option maxHeartbeats 4000000 in
set_option maxRecDepth 100000 in
theorem law_room {l : Launch} {G : tb_G} {Lx : Nat} {xs : Nat → Int32} {k1 k2 n : Nat} {J : zJ} (hl : l.stackTraces = false) (i : Int) (hi : 0 ≤ i ∧ i + 6 ≤ (Lx : Int)) (hx : Lx ≤ 3072) (d5 d6 : Option Value) (h : LVr J n k1 k2 i) (nx : ∀ (k1 k2 n : Nat) (J : zJ) (d5 d6 : Option Value), LVr J n k1 k2 (i + 6) → tz_At l G M_L_law room_1 (some (Lx, xs)) tb_LZ k1 k2 n J 1330 [some (.ref tb_sc), some (.ref 0), some (.ref 164), some (.ref 183), some (zi i), d5, d6] []) : tz_At l G M_L_law room_1 (some (Lx, xs)) tb_LZ k1 k2 n J 1151 [some (.ref tb_sc), some (.ref 0), some (.ref 164), some (.ref 183), some (zi i), d5, d6] [] := by
  obtain ⟨h, hrv⟩ := h
  obtain ⟨⟨m, hC⟩, ⟨m2, hM⟩, h3, h4, h5, ⟨h6, h7⟩, pn, RR, hcc, huu, him⟩ := id h
  have h9 : J 145 10 < 1000000000 := by omega
  have hnb : n ≤ tb_sc := by show n ≤ 1000000; omega
  refine tz_aload_n (pc := 1151) dL_law_1151 rfl rfl ?_
  refine tz_aload_n (pc := 1152) dL_law_1152 rfl rfl ?_
  refine tz_iload (pc := 1153) dL_law_1153 rfl ?_
  refine tz_iconst (pc := 1155) dL_law_1155 ?_
  refine tz_iadd (pc := 1156) (v := i + 1) dL_law_1156 rfl ?_
  refine tz_sld (pc := 1157) (z := (i + 1)) rfl dL_law_1157 (by omega) (by omega) (fun r_1157 => ?_)
  refine tz_cV (pc := 1158) (v_room hl _ _ _ (z_rg _) m (tbz J) pn RR hC h9 hcc rfl) vl_L_162 dL_law_1158 o_0 rfl rfl (Nat.le_of_ble_eq_true rfl) ⟨(Nat.le_of_ble_eq_true rfl), (Nat.le_of_ble_eq_true rfl)⟩ rfl rfl (show k1 ≤ 601024 by omega) (show k2 ≤ 7293034 by omega) (fun r9 J_1158 hq9 => ?_)
  obtain ⟨z_1158, rfl, hz_1158, x_1158⟩ := hq9
  have cw_1158 : CW J_1158 J := CW.c x_1158.1
  have fh9 : ∀ c, 164 ≤ c → c < 183 → J_1158 c = J c := fun c x y => cw_1158.2.2.2 c (Or.inr (Or.inr ⟨x, y⟩))
  have hM2 := hM.mid fh9
  have hu2 := huu.mid fh9
  refine tz_pop (pc := 1161) dL_law_1161 rfl ?_
  refine tz_aload_n (pc := 1162) dL_law_1162 rfl rfl ?_
  refine tz_aload_n (pc := 1163) dL_law_1163 rfl rfl ?_
  refine tz_iload (pc := 1164) dL_law_1164 rfl ?_
  refine tz_iconst (pc := 1166) dL_law_1166 ?_
  refine tz_iadd (pc := 1167) (v := i + 1) dL_law_1167 rfl ?_
  refine tz_sld (pc := 1168) (z := (i + 1)) rfl dL_law_1168 (by omega) (by omega) (fun r_1168 => ?_)
  refine tz_cV (pc := 1169) (v_qroom hl _ _ _ (z_rg _) m2 pn RR hM2 hu2) vl_L_165 dL_law_1169 o_164 rfl rfl (Nat.le_of_ble_eq_true rfl) ⟨(Nat.le_of_ble_eq_true rfl), (Nat.le_of_ble_eq_true rfl)⟩ rfl rfl (show k1 ≤ 601024 by omega) (show k2 ≤ 7293034 by omega) (fun r9 J_1169 hq9 => ?_)
  obtain ⟨z_1169, rfl, hz_1169, y_1169⟩ := hq9
  obtain ⟨ez9, bo9⟩ := b_room (m2 := m2) hcc hC fh9 x_1158.2 y_1169.2.2
  refine tz_pop (pc := 1172) dL_law_1172 rfl ?_
  refine tz_goto (pc := 1173) (tgt := 1330) dL_law_1173 (by decide) ?_
  exact nx _ _ _ _ _ _ ⟨(LV.q h cw_1158 y_1169.1 y_1169.2.1 bo9 ⟨by omega, by omega⟩ (by omega) (by omega)), (WVX.lo (⟨cw_1158.1.elim (fun m1 h1 => wv_room hcc hC h1 hrv.1 x_1158.2), hrv.2.of (fun c a b => cw_1158.2.2.2 c (Or.inl ⟨a, b⟩)) cw_1158.2.2.1.2.1⟩) (fun c hc => y_1169.1.2.1 c (Or.inl hc)))⟩

set_option maxHeartbeats 4000000 in
set_option maxRecDepth 100000 in
theorem law_draw {l : Launch} {G : tb_G} {Lx : Nat} {xs : Nat → Int32} {k1 k2 n : Nat} {J : zJ} (hl : l.stackTraces = false) (i : Int) (hi : 0 ≤ i ∧ i + 6 ≤ (Lx : Int)) (hx : Lx ≤ 3072) (d5 d6 : Option Value) (h : LVr J n k1 k2 i) (nx : ∀ (k1 k2 n : Nat) (J : zJ) (d5 d6 : Option Value), LVr J n k1 k2 (i + 6) → tz_At l G M_L_law room_1 (some (Lx, xs)) tb_LZ k1 k2 n J 1330 [some (.ref tb_sc), some (.ref 0), some (.ref 164), some (.ref 183), some (zi i), d5, d6] []) : tz_At l G M_L_law room_1 (some (Lx, xs)) tb_LZ k1 k2 n J 1176 [some (.ref tb_sc), some (.ref 0), some (.ref 164), some (.ref 183), some (zi i), d5, d6] [] := by
  obtain ⟨h, hrv⟩ := h
  obtain ⟨⟨m, hC⟩, ⟨m2, hM⟩, h3, h4, h5, ⟨h6, h7⟩, pn, RR, hcc, huu, him⟩ := id h
  have h9 : J 145 10 < 1000000000 := by omega
  have hnb : n ≤ tb_sc := by show n ≤ 1000000; omega
  refine tz_aload_n (pc := 1176) dL_law_1176 rfl rfl ?_
  refine tz_aload_n (pc := 1177) dL_law_1177 rfl rfl ?_
  refine tz_iload (pc := 1178) dL_law_1178 rfl ?_
  refine tz_iconst (pc := 1180) dL_law_1180 ?_
  refine tz_iadd (pc := 1181) (v := i + 1) dL_law_1181 rfl ?_
  refine tz_sld (pc := 1182) (z := (i + 1)) rfl dL_law_1182 (by omega) (by omega) (fun r_1182 => ?_)
  refine tz_aload_n (pc := 1183) dL_law_1183 rfl rfl ?_
  refine tz_iload (pc := 1184) dL_law_1184 rfl ?_
  refine tz_iconst (pc := 1186) dL_law_1186 ?_
  refine tz_iadd (pc := 1187) (v := i + 2) dL_law_1187 rfl ?_
  refine tz_sld (pc := 1188) (z := (i + 2)) rfl dL_law_1188 (by omega) (by omega) (fun r_1188 => ?_)
  refine tz_cV (pc := 1189) (v_draw hl _ _ _ _ (z_rg _) (z_rg _) m (tbz J) pn RR hC h9 hcc rfl) vl_L_166 dL_law_1189 o_0 rfl rfl (Nat.le_of_ble_eq_true rfl) ⟨(Nat.le_of_ble_eq_true rfl), (Nat.le_of_ble_eq_true rfl)⟩ rfl rfl (show k1 ≤ 601024 by omega) (show k2 ≤ 7293034 by omega) (fun r9 J_1189 hq9 => ?_)
  obtain ⟨z_1189, rfl, hz_1189, x_1189⟩ := hq9
  have cw_1189 : CW J_1189 J := CW.c x_1189.1
  have fh9 : ∀ c, 164 ≤ c → c < 183 → J_1189 c = J c := fun c x y => cw_1189.2.2.2 c (Or.inr (Or.inr ⟨x, y⟩))
  have hM2 := hM.mid fh9
  have hu2 := huu.mid fh9
  refine tz_pop (pc := 1192) dL_law_1192 rfl ?_
  refine tz_aload_n (pc := 1193) dL_law_1193 rfl rfl ?_
  refine tz_aload_n (pc := 1194) dL_law_1194 rfl rfl ?_
  refine tz_iload (pc := 1195) dL_law_1195 rfl ?_
  refine tz_iconst (pc := 1197) dL_law_1197 ?_
  refine tz_iadd (pc := 1198) (v := i + 1) dL_law_1198 rfl ?_
  refine tz_sld (pc := 1199) (z := (i + 1)) rfl dL_law_1199 (by omega) (by omega) (fun r_1199 => ?_)
  refine tz_aload_n (pc := 1200) dL_law_1200 rfl rfl ?_
  refine tz_iload (pc := 1201) dL_law_1201 rfl ?_
  refine tz_iconst (pc := 1203) dL_law_1203 ?_
  refine tz_iadd (pc := 1204) (v := i + 2) dL_law_1204 rfl ?_
  refine tz_sld (pc := 1205) (z := (i + 2)) rfl dL_law_1205 (by omega) (by omega) (fun r_1205 => ?_)
  refine tz_cV (pc := 1206) (v_qdraw hl _ _ _ _ (z_rg _) (z_rg _) m2 pn RR hM2 hu2) vl_L_169 dL_law_1206 o_164 rfl rfl (Nat.le_of_ble_eq_true rfl) ⟨(Nat.le_of_ble_eq_true rfl), (Nat.le_of_ble_eq_true rfl)⟩ rfl rfl (show k1 ≤ 601024 by omega) (show k2 ≤ 7293034 by omega) (fun r9 J_1206 hq9 => ?_)
  obtain ⟨z_1206, rfl, hz_1206, y_1206⟩ := hq9
  obtain ⟨ez9, bo9⟩ := b_draw (m2 := m2) hcc hC fh9 x_1189.2 y_1206.2.2
  refine tz_pop (pc := 1209) dL_law_1209 rfl ?_
  refine tz_goto (pc := 1210) (tgt := 1330) dL_law_1210 (by decide) ?_
  exact nx _ _ _ _ _ _ ⟨(LV.q h cw_1189 y_1206.1 y_1206.2.1 bo9 ⟨by omega, by omega⟩ (by omega) (by omega)), (WVX.lo (⟨cw_1189.1.elim (fun m1 h1 => wv_draw hcc hC h1 hrv.1 x_1189.2), hrv.2.of (fun c a b => cw_1189.2.2.2 c (Or.inl ⟨a, b⟩)) cw_1189.2.2.1.2.1⟩) (fun c hc => y_1206.1.2.1 c (Or.inl hc)))⟩

set_option maxHeartbeats 4000000 in
set_option maxRecDepth 100000 in
theorem law_undo {l : Launch} {G : tb_G} {Lx : Nat} {xs : Nat → Int32} {k1 k2 n : Nat} {J : zJ} (hl : l.stackTraces = false) (i : Int) (hi : 0 ≤ i ∧ i + 6 ≤ (Lx : Int)) (hx : Lx ≤ 3072) (d5 d6 : Option Value) (h : LVr J n k1 k2 i) (nx : ∀ (k1 k2 n : Nat) (J : zJ) (d5 d6 : Option Value), LVr J n k1 k2 (i + 6) → tz_At l G M_L_law room_1 (some (Lx, xs)) tb_LZ k1 k2 n J 1330 [some (.ref tb_sc), some (.ref 0), some (.ref 164), some (.ref 183), some (zi i), d5, d6] []) : tz_At l G M_L_law room_1 (some (Lx, xs)) tb_LZ k1 k2 n J 1213 [some (.ref tb_sc), some (.ref 0), some (.ref 164), some (.ref 183), some (zi i), d5, d6] [] := by
  obtain ⟨h, hrv⟩ := h
  obtain ⟨⟨m, hC⟩, ⟨m2, hM⟩, h3, h4, h5, ⟨h6, h7⟩, pn, RR, hcc, huu, him⟩ := id h
  have h9 : J 145 10 < 1000000000 := by omega
  have hnb : n ≤ tb_sc := by show n ≤ 1000000; omega
  refine tz_aload_n (pc := 1213) dL_law_1213 rfl rfl ?_
  refine tz_cV (pc := 1214) (v_undo hl _ _   m (tbz J) pn RR hC h9 hcc) vl_L_170 dL_law_1214 o_0 rfl rfl (Nat.le_of_ble_eq_true rfl) ⟨(Nat.le_of_ble_eq_true rfl), (Nat.le_of_ble_eq_true rfl)⟩ rfl rfl (show k1 ≤ 601024 by omega) (show k2 ≤ 7293034 by omega) (fun r9 J_1214 hq9 => ?_)
  obtain ⟨z_1214, rfl, hz_1214, x_1214⟩ := hq9
  have cw_1214 : CW J_1214 J := CW.c x_1214.1
  have fh9 : ∀ c, 164 ≤ c → c < 183 → J_1214 c = J c := fun c x y => cw_1214.2.2.2 c (Or.inr (Or.inr ⟨x, y⟩))
  have hM2 := hM.mid fh9
  have hu2 := huu.mid fh9
  refine tz_pop (pc := 1217) dL_law_1217 rfl ?_
  refine tz_aload_n (pc := 1218) dL_law_1218 rfl rfl ?_
  refine tz_cV (pc := 1219) (v_qundo hl _ _   m2 pn RR hM2 hu2) vl_L_173 dL_law_1219 o_164 rfl rfl (Nat.le_of_ble_eq_true rfl) ⟨(Nat.le_of_ble_eq_true rfl), (Nat.le_of_ble_eq_true rfl)⟩ rfl rfl (show k1 ≤ 601024 by omega) (show k2 ≤ 7293034 by omega) (fun r9 J_1219 hq9 => ?_)
  obtain ⟨z_1219, rfl, hz_1219, y_1219⟩ := hq9
  obtain ⟨ez9, bo9⟩ := b_undo (m2 := m2) hcc hC fh9 x_1214.2 y_1219.2.2
  refine tz_pop (pc := 1222) dL_law_1222 rfl ?_
  refine tz_goto (pc := 1223) (tgt := 1330) dL_law_1223 (by decide) ?_
  exact nx _ _ _ _ _ _ ⟨(LV.q h cw_1214 y_1219.1 y_1219.2.1 bo9 ⟨by omega, by omega⟩ (by omega) (by omega)), (WVX.lo (⟨cw_1214.1.elim (fun m1 h1 => wv_undo hcc hC h1 hrv.1 x_1214.2), hrv.2.of (fun c a b => cw_1214.2.2.2 c (Or.inl ⟨a, b⟩)) cw_1214.2.2.1.2.1⟩) (fun c hc => y_1219.1.2.1 c (Or.inl hc)))⟩

set_option maxHeartbeats 4000000 in
set_option maxRecDepth 100000 in
theorem law_years {l : Launch} {G : tb_G} {Lx : Nat} {xs : Nat → Int32} {k1 k2 n : Nat} {J : zJ} (hl : l.stackTraces = false) (i : Int) (hi : 0 ≤ i ∧ i + 6 ≤ (Lx : Int)) (hx : Lx ≤ 3072) (d5 d6 : Option Value) (h : LVr J n k1 k2 i) (nx : ∀ (k1 k2 n : Nat) (J : zJ) (d5 d6 : Option Value), LVr J n k1 k2 (i + 6) → tz_At l G M_L_law room_1 (some (Lx, xs)) tb_LZ k1 k2 n J 1330 [some (.ref tb_sc), some (.ref 0), some (.ref 164), some (.ref 183), some (zi i), d5, d6] []) : tz_At l G M_L_law room_1 (some (Lx, xs)) tb_LZ k1 k2 n J 1226 [some (.ref tb_sc), some (.ref 0), some (.ref 164), some (.ref 183), some (zi i), d5, d6] [] := by
  obtain ⟨h, hrv⟩ := h
  obtain ⟨⟨m, hC⟩, ⟨m2, hM⟩, h3, h4, h5, ⟨h6, h7⟩, pn, RR, hcc, huu, him⟩ := id h
  have h9 : J 145 10 < 1000000000 := by omega
  have hnb : n ≤ tb_sc := by show n ≤ 1000000; omega
  refine tz_aload_n (pc := 1226) dL_law_1226 rfl rfl ?_
  refine tz_aload_n (pc := 1227) dL_law_1227 rfl rfl ?_
  refine tz_iload (pc := 1228) dL_law_1228 rfl ?_
  refine tz_iconst (pc := 1230) dL_law_1230 ?_
  refine tz_iadd (pc := 1231) (v := i + 1) dL_law_1231 rfl ?_
  refine tz_sld (pc := 1232) (z := (i + 1)) rfl dL_law_1232 (by omega) (by omega) (fun r_1232 => ?_)
  refine tz_aload_n (pc := 1233) dL_law_1233 rfl rfl ?_
  refine tz_iload (pc := 1234) dL_law_1234 rfl ?_
  refine tz_iconst (pc := 1236) dL_law_1236 ?_
  refine tz_iadd (pc := 1237) (v := i + 2) dL_law_1237 rfl ?_
  refine tz_sld (pc := 1238) (z := (i + 2)) rfl dL_law_1238 (by omega) (by omega) (fun r_1238 => ?_)
  refine tz_aload_n (pc := 1239) dL_law_1239 rfl rfl ?_
  refine tz_iload (pc := 1240) dL_law_1240 rfl ?_
  refine tz_iconst (pc := 1242) dL_law_1242 ?_
  refine tz_iadd (pc := 1243) (v := i + 3) dL_law_1243 rfl ?_
  refine tz_sld (pc := 1244) (z := (i + 3)) rfl dL_law_1244 (by omega) (by omega) (fun r_1244 => ?_)
  refine tz_aload_n (pc := 1245) dL_law_1245 rfl rfl ?_
  refine tz_cH (pc := 1246) (nA := 5) (lw_years hl _ _ _ _ _ (z_rg _) (z_rg _) (z_rg _) m pn RR hC h9 hcc (show tbz J 165 40 ≤ tbz J 165 39 from hM.2.1.2.1.2.1.2) (fun k9 e9 => (yr_w (mwi_of hcc.1 hC.1.1.1 hC.1.1.2.1 hcc.2.1 hC.1.1.2.2 (show tbz J 165 40 ≤ tbz J 165 39 from hM.2.1.2.1.2.1.2) hrv.1.1) rfl k9 e9).2)) ml_L_174 ms_L_years ch_L_years wk_ini_L (by decide +kernel) dL_law_1246 rfl rfl (Nat.le_of_ble_eq_true rfl) ⟨(Nat.le_of_ble_eq_true rfl), (Nat.le_of_ble_eq_true rfl)⟩ rfl rfl (show k1 + 1 ≤ 601024 by omega) (show k2 + 6 ≤ 7293034 by omega) (fun r9 n_1246 J_1246 hn1_1246 hn2_1246 hq9 => ?_)
  obtain ⟨z_1246, rfl, hz_1246, cw_1246, cc_1246, ca_1246⟩ := hq9
  have fh9 : ∀ c, 164 ≤ c → c < 183 → J_1246 c = J c := fun c x y => cw_1246.2.2.2 c (Or.inr (Or.inr ⟨x, y⟩))
  have hM2 := hM.mid fh9
  have hu2 := huu.mid fh9
  refine tz_istore (pc := 1249) (L2 := [_, _, _, _, _, _, _]) dL_law_1249 (by decide) rfl ?_
  refine tz_aload_n (pc := 1251) dL_law_1251 rfl rfl ?_
  refine tz_aload_n (pc := 1252) dL_law_1252 rfl rfl ?_
  refine tz_iload (pc := 1253) dL_law_1253 rfl ?_
  refine tz_iconst (pc := 1255) dL_law_1255 ?_
  refine tz_iadd (pc := 1256) (v := i + 1) dL_law_1256 rfl ?_
  refine tz_sld (pc := 1257) (z := (i + 1)) rfl dL_law_1257 (by omega) (by omega) (fun r_1257 => ?_)
  refine tz_aload_n (pc := 1258) dL_law_1258 rfl rfl ?_
  refine tz_iload (pc := 1259) dL_law_1259 rfl ?_
  refine tz_iconst (pc := 1261) dL_law_1261 ?_
  refine tz_iadd (pc := 1262) (v := i + 2) dL_law_1262 rfl ?_
  refine tz_sld (pc := 1263) (z := (i + 2)) rfl dL_law_1263 (by omega) (by omega) (fun r_1263 => ?_)
  refine tz_aload_n (pc := 1264) dL_law_1264 rfl rfl ?_
  refine tz_iload (pc := 1265) dL_law_1265 rfl ?_
  refine tz_iconst (pc := 1267) dL_law_1267 ?_
  refine tz_iadd (pc := 1268) (v := i + 3) dL_law_1268 rfl ?_
  refine tz_sld (pc := 1269) (z := (i + 3)) rfl dL_law_1269 (by omega) (by omega) (fun r_1269 => ?_)
  refine tz_cV (pc := 1270) (e_qyears hl _ _ _ _ _ (z_rg _) (z_rg _) (z_rg _) m2 pn RR hM2 hu2 (fun k x y => by rw [fh9 164 (by decide) (by decide)] at y; rw [fh9 171 (by decide) (by decide)]; exact al_w hcc hC k x y)) vl_L_177 dL_law_1270 o_164 rfl rfl (Nat.le_of_ble_eq_true rfl) ⟨(Nat.le_of_ble_eq_true rfl), (Nat.le_of_ble_eq_true rfl)⟩ rfl rfl (show k1 + 1 ≤ 601024 by omega) (show k2 + 6 ≤ 7293034 by omega) (fun r9 J_1270 hq9 => ?_)
  obtain ⟨z_1270, rfl, hz_1270, y_1270⟩ := hq9
  have bo9 := bo_q fh9 cc_1246 ⟨y_1270.2.2.1, y_1270.2.2.2.1⟩
  have yq9 := y_1270.2.2.2.2.2
  rw [tbz_hi fh9] at yq9
  have aq9 := ask_eq3 Iff.rfl Iff.rfl ca_1246 yq9
  have et9 := aq9.1
  have eo9 : z_1246 = 0 → J_1270 183 0 = z_1270 := fun q9 => (congrFun y_1270.2.2.2.2.1 0).trans (aq9.2 q9)
  refine tz_istore (pc := 1273) (L2 := [_, _, _, _, _, _, _]) dL_law_1273 (by decide) rfl ?_
  refine tz_aload_n (pc := 1275) dL_law_1275 rfl rfl ?_
  refine tz_cV (pc := 1276) (x_thrown hl _ _) vl_L_178 dL_law_1276 o_164 rfl rfl (Nat.le_of_ble_eq_true rfl) ⟨(Nat.le_of_ble_eq_true rfl), (Nat.le_of_ble_eq_true rfl)⟩ rfl rfl (show k1 + 1 ≤ 601024 by omega) (show k2 + 6 ≤ 7293034 by omega) (fun r9 J_1276 hq9 => ?_)
  obtain ⟨z_1276, rfl, hz_1276, rfl, rfl⟩ := hq9
  refine tz_iload (pc := 1279) dL_law_1279 rfl ?_
  refine tz_icmp_eqT (pc := 1281) (tgt := 1286) et9 dL_law_1281 (by decide) (by omega) hz_1246 ?_
  refine tz_iload (pc := 1286) dL_law_1286 rfl ?_
  refine tz_if_ne (pc := 1288) (tgt := 1303) dL_law_1288 (by decide) (by omega) (fun h_1288 => ?_) (fun h_1288 => ?_)
  · refine tz_goto (pc := 1303) (tgt := 1330) dL_law_1303 (by decide) ?_
    exact nx _ _ _ _ _ _ ⟨(LV.q h cw_1246 y_1270.1 y_1270.2.1 bo9 ⟨by omega, by omega⟩ (by omega) (by omega)), (WVX.lo (⟨cw_1246.1.elim (fun m1 h1 => wv_eq hcc hC h1 cc_1246 hrv.1), hrv.2.of (fun c a b => cw_1246.2.2.2 c (Or.inl ⟨a, b⟩)) cw_1246.2.2.1.2.1⟩) (fun c hc => y_1270.1.2.1 c (Or.inl hc)))⟩
  · refine tz_aload_n (pc := 1291) dL_law_1291 rfl rfl ?_
    refine tz_iconst (pc := 1292) dL_law_1292 ?_
    refine tz_lald (pc := 1293) (z := 0) (v := _) dL_law_1293 l_183 rfl (by decide) (eo9 (by omega)) (fun r_1293 => ?_)
    refine tz_iload (pc := 1294) dL_law_1294 rfl ?_
    refine tz_i2l (pc := 1296) dL_law_1296 ?_
    refine tz_lcmp (pc := 1297) (v := 0) dL_law_1297 hz_1270 hz_1270 (by simp) ?_
    refine tz_if_eqT (pc := 1298) (tgt := 1303) (by decide) dL_law_1298 (by decide) (by decide) ?_
    refine tz_goto (pc := 1303) (tgt := 1330) dL_law_1303 (by decide) ?_
    exact nx _ _ _ _ _ _ ⟨(LV.q h cw_1246 y_1270.1 y_1270.2.1 bo9 ⟨by omega, by omega⟩ (by omega) (by omega)), (WVX.lo (⟨cw_1246.1.elim (fun m1 h1 => wv_eq hcc hC h1 cc_1246 hrv.1), hrv.2.of (fun c a b => cw_1246.2.2.2 c (Or.inl ⟨a, b⟩)) cw_1246.2.2.1.2.1⟩) (fun c hc => y_1270.1.2.1 c (Or.inl hc)))⟩

set_option maxHeartbeats 4000000 in
set_option maxRecDepth 100000 in
theorem law_image {l : Launch} {G : tb_G} {Lx : Nat} {xs : Nat → Int32} {k1 k2 n : Nat} {J : zJ} (hl : l.stackTraces = false) (i : Int) (hi : 0 ≤ i ∧ i + 6 ≤ (Lx : Int)) (hx : Lx ≤ 3072) (d5 d6 : Option Value) (h : LVr J n k1 k2 i) (nx : ∀ (k1 k2 n : Nat) (J : zJ) (d5 d6 : Option Value), LVr J n k1 k2 (i + 6) → tz_At l G M_L_law room_1 (some (Lx, xs)) tb_LZ k1 k2 n J 1330 [some (.ref tb_sc), some (.ref 0), some (.ref 164), some (.ref 183), some (zi i), d5, d6] []) : tz_At l G M_L_law room_1 (some (Lx, xs)) tb_LZ k1 k2 n J 1306 [some (.ref tb_sc), some (.ref 0), some (.ref 164), some (.ref 183), some (zi i), d5, d6] [] := by
  obtain ⟨h, hrv⟩ := h
  obtain ⟨⟨m, hC⟩, ⟨m2, hM⟩, h3, h4, h5, ⟨h6, h7⟩, pn, RR, hcc, huu, him⟩ := id h
  have h9 : J 145 10 < 1000000000 := by omega
  have hnb : n ≤ tb_sc := by show n ≤ 1000000; omega
  refine tz_aload_n (pc := 1306) dL_law_1306 rfl rfl ?_
  refine tz_cV (pc := 1307) (v_image hl _ _ m (tbz J) pn RR hC h9 hcc rfl) vl_L_181 dL_law_1307 o_0 rfl rfl (Nat.le_of_ble_eq_true rfl) ⟨(Nat.le_of_ble_eq_true rfl), (Nat.le_of_ble_eq_true rfl)⟩ rfl rfl (show k1 ≤ 601024 by omega) (show k2 ≤ 7293034 by omega) (fun r9 J_1307 hq9 => ?_)
  obtain ⟨rfl, x_1307⟩ := hq9
  have fh9 : ∀ c, 164 ≤ c → c < 183 → J_1307 c = J c := fun c x y => x_1307.1.2.2.2 c (decide_eq_true (Or.inr x))
  have hM2 := hM.mid fh9
  have hu2 := huu.mid fh9
  refine tz_aload_n (pc := 1310) dL_law_1310 rfl rfl ?_
  refine tz_cV (pc := 1311) (v_qimage hl _ _ m2 pn RR hM2 hu2) vl_L_184 dL_law_1311 o_164 rfl rfl (Nat.le_of_ble_eq_true rfl) ⟨(Nat.le_of_ble_eq_true rfl), (Nat.le_of_ble_eq_true rfl)⟩ rfl rfl (show k1 ≤ 601024 by omega) (show k2 ≤ 7293034 by omega) (fun r9 J_1311 hq9 => ?_)
  obtain ⟨rfl, y_1311⟩ := hq9
  refine tz_goto (pc := 1314) (tgt := 1330) dL_law_1314 (by decide) ?_
  exact nx _ _ _ _ _ _ ⟨(LV.i h x_1307 y_1311 ⟨by omega, by omega⟩ (by omega) (by omega)), (WVX.lo (x_1307.1.1.elim (fun m1 h1 => ⟨wv_eq hcc hC h1 x_1307.2.1 hrv.1, wv_image x_1307.2.1 x_1307.2.2 h1 (wv_eq hcc hC h1 x_1307.2.1 hrv.1)⟩)) (fun c hc => y_1311.1.2.1 c (Or.inl hc)))⟩

set_option maxHeartbeats 4000000 in
set_option maxRecDepth 100000 in
theorem law_restore {l : Launch} {G : tb_G} {Lx : Nat} {xs : Nat → Int32} {k1 k2 n : Nat} {J : zJ} (hl : l.stackTraces = false) (i : Int) (hi : 0 ≤ i ∧ i + 6 ≤ (Lx : Int)) (hx : Lx ≤ 3072) (d5 d6 : Option Value) (h : LVr J n k1 k2 i) (nx : ∀ (k1 k2 n : Nat) (J : zJ) (d5 d6 : Option Value), LVr J n k1 k2 (i + 6) → tz_At l G M_L_law room_1 (some (Lx, xs)) tb_LZ k1 k2 n J 1330 [some (.ref tb_sc), some (.ref 0), some (.ref 164), some (.ref 183), some (zi i), d5, d6] []) : tz_At l G M_L_law room_1 (some (Lx, xs)) tb_LZ k1 k2 n J 1317 [some (.ref tb_sc), some (.ref 0), some (.ref 164), some (.ref 183), some (zi i), d5, d6] [] := by
  obtain ⟨h, hrv⟩ := h
  obtain ⟨⟨m, hC⟩, ⟨m2, hM⟩, h3, h4, h5, ⟨h6, h7⟩, pn, RR, hcc, huu, him⟩ := id h
  have h9 : J 145 10 < 1000000000 := by omega
  have hnb : n ≤ tb_sc := by show n ≤ 1000000; omega
  obtain ⟨Gi, ni, Ri, hk9⟩ : ∃ Gi ni Ri, ¬ J 164 14 = 0 → (CALk J Gi ni Ri ∧ (MBI J Gi ∧ MUi J ni Ri) ∧ (0 ≤ Gi 165 0 ∧ Gi 165 0 ≤ 400)) := (Classical.em (J 164 14 = 0)).elim (fun q9 => ⟨tbz J, 0, fun _ _ => 0, fun w => absurd q9 w⟩) (fun q9 => (him q9).elim (fun Gi w => w.elim (fun ni w => w.elim (fun Ri w => ⟨Gi, ni, Ri, fun _ => w⟩))))
  refine tz_aload_n (pc := 1317) dL_law_1317 rfl rfl ?_
  refine tz_cV (pc := 1318) (v_restore hl _ _ m (tbz J) pn RR Gi ni Ri hC h9 hcc rfl (fun q => (hk9 (by rw [← h3.2.2.1]; exact q)).1)) vl_L_185 dL_law_1318 o_0 rfl rfl (Nat.le_of_ble_eq_true rfl) ⟨(Nat.le_of_ble_eq_true rfl), (Nat.le_of_ble_eq_true rfl)⟩ rfl rfl (show k1 ≤ 601024 by omega) (show k2 ≤ 7293034 by omega) (fun r9 J_1318 hq9 => ?_)
  obtain ⟨z_1318, rfl, hz_1318, x_1318⟩ := hq9
  have cw_1318 : CW J_1318 J := CW.c x_1318.1.1
  have fh9 : ∀ c, 164 ≤ c → c < 183 → J_1318 c = J c := fun c x y => cw_1318.2.2.2 c (Or.inr (Or.inr ⟨x, y⟩))
  have hM2 := hM.mid fh9
  have hu2 := huu.mid fh9
  refine tz_pop (pc := 1321) dL_law_1321 rfl ?_
  refine tz_aload_n (pc := 1322) dL_law_1322 rfl rfl ?_
  refine tz_cV (pc := 1323) (v_qrestore hl _ _ m2 pn RR Gi ni Ri hM2 hu2 (fun q => by rw [fh9 164 (by decide) (by decide)] at q; obtain ⟨_, ⟨k1, k2⟩, k3⟩ := hk9 q; refine ⟨⟨?_, ?_⟩, k3⟩; (unfold MBI; rw [fh9 165 (by decide) (by decide), fh9 166 (by decide) (by decide), fh9 167 (by decide) (by decide), fh9 168 (by decide) (by decide)]; exact k1); (unfold MUi; rw [fh9 164 (by decide) (by decide), fh9 165 (by decide) (by decide)]; exact k2))) vl_L_189 dL_law_1323 o_164 rfl rfl (Nat.le_of_ble_eq_true rfl) ⟨(Nat.le_of_ble_eq_true rfl), (Nat.le_of_ble_eq_true rfl)⟩ rfl rfl (show k1 ≤ 601024 by omega) (show k2 ≤ 7293034 by omega) (fun r9 J_1323 hq9 => ?_)
  obtain ⟨z_1323, rfl, hz_1323, y_1323⟩ := hq9
  have bo9 := bo_r h3.2.2.1 fh9 x_1318.2.1 x_1318.2.2 y_1323.2.2.1 y_1323.2.2.2
  have ez9 : z_1318 = z_1323 := x_1318.1.2.trans (by rw [y_1323.1.2, congrFun (fh9 164 (by decide) (by decide)) 14, h3.2.2.1])
  refine tz_pop (pc := 1326) dL_law_1326 rfl ?_
  refine tz_goto (pc := 1327) (tgt := 1330) dL_law_1327 (by decide) ?_
  exact nx _ _ _ _ _ _ ⟨(LV.q h cw_1318 y_1323.1.1 y_1323.2.1 bo9 ⟨by omega, by omega⟩ (by omega) (by omega)), (WVX.lo (⟨cw_1318.1.elim (fun m1 h1 => (Decidable.em (J 0 15 = 0)).elim (fun q9 => wv_eq hcc hC h1 (x_1318.2.1 q9) hrv.1) (fun q9 => wv_restore hcc (hk9 (by rw [← h3.2.2.1]; exact q9)).1 hC h1 (x_1318.2.2 q9) hrv.2 q9)), hrv.2.of (fun c a b => cw_1318.2.2.2 c (Or.inl ⟨a, b⟩)) cw_1318.2.2.1.2.1⟩) (fun c hc => y_1323.1.1.2.1 c (Or.inl hc)))⟩

