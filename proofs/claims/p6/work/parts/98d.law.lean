/-! ===== the law ===== -/
def tb_Iz : tb_I := fun _ _ => 0
def tb_I0 : tb_I := tb_row (i_kc_mo (tb_row (i_kc_tb (tb_row tb_Iz 0 (fun _ => 0))) 164 (fun _ => 0))) 183 (fun _ => 0)
theorem law_sh : ∀ c, c < 184 → tb_sup (s_kc_mo (tb_sup (s_kc_tb (tb_sup (fun _ => ((100, 3, []) : tb_Sh)) 0 (11, 16, List.replicate 16 none))) 164 (12, 47, List.replicate 47 none))) 183 (102, 1, []) c = tb_shT c := by
  have h : (List.range 184).all (fun c => decide (tb_sup (s_kc_mo (tb_sup (s_kc_tb (tb_sup (fun _ => ((100, 3, []) : tb_Sh)) 0 (11, 16, List.replicate 16 none))) 164 (12, 47, List.replicate 47 none))) 183 (102, 1, []) c = tb_shT c)) = true := by decide +kernel
  intro c hc
  exact of_decide_eq_true (List.all_eq_true.mp h c (List.mem_range.mpr hc))
set_option maxHeartbeats 4000000 in
set_option maxRecDepth 100000 in
theorem law_new {l : Launch} {G : tb_G} {Lx : Nat} {xs : Nat → Int32} (hl : l.stackTraces = false) (h : tb_At l G M_L_law room_1 (some (Lx, xs)) tb_LZ 184 54325 184 tb_shT tb_I0 20 [some (.ref tb_sc), some (.ref 0), some (.ref 164), some (.ref 183), none, none, none] []) : tb_At l G M_L_law room_1 (some (Lx, xs)) tb_LZ 0 0 0 (fun _ => (100, 3, [])) (fun _ _ => 0) 0 [some (.ref tb_sc), none, none, none, none, none, none] [] := by
  refine tb_new (pc := 0) dL_law_0 nw_L_8 (by decide) rfl rfl rfl (Nat.le_of_ble_eq_true rfl) (Nat.le_of_ble_eq_true rfl) ?_
  refine tb_dup (pc := 3) dL_law_3 rfl ?_
  refine tb_callI (pc := 4) (kc_tb hl _ _ rfl) il_L_55 dL_law_4 rfl rfl (Nat.le_of_ble_eq_true rfl) ⟨(Nat.le_of_ble_eq_true rfl), (Nat.le_of_ble_eq_true rfl)⟩ rfl rfl (Nat.le_of_ble_eq_true rfl) (Nat.le_of_ble_eq_true rfl) (fun r9 n9 sh9 I9 hq9 => ?_)
  obtain ⟨rfl, rfl, rfl, rfl⟩ := hq9
  refine tb_astore_n (pc := 7) (L2 := [_, _, _, _, _, _, _]) dL_law_7 rfl (by decide) rfl ?_
  refine tb_new (pc := 8) dL_law_8 nw_L_56 (by decide) rfl rfl rfl (Nat.le_of_ble_eq_true rfl) (Nat.le_of_ble_eq_true rfl) ?_
  refine tb_dup (pc := 11) dL_law_11 rfl ?_
  refine tb_callI (pc := 12) (kc_mo hl _ _ rfl) il_L_58 dL_law_12 rfl rfl (Nat.le_of_ble_eq_true rfl) ⟨(Nat.le_of_ble_eq_true rfl), (Nat.le_of_ble_eq_true rfl)⟩ rfl rfl (Nat.le_of_ble_eq_true rfl) (Nat.le_of_ble_eq_true rfl) (fun r9 n9 sh9 I9 hq9 => ?_)
  obtain ⟨rfl, rfl, rfl, rfl⟩ := hq9
  refine tb_astore_n (pc := 15) (L2 := [_, _, _, _, _, _, _]) dL_law_15 rfl (by decide) rfl ?_
  refine tb_iconst (pc := 16) (v := 1) dL_law_16 (by decide) ?_
  refine tb_newl (pc := 17) (len := 1) dL_law_17 wk_arr_long (by decide) (by decide) (Nat.le_of_ble_eq_true rfl) rfl rfl rfl (Nat.le_of_ble_eq_true rfl) (Nat.le_of_ble_eq_true rfl) ?_
  refine tb_astore_n (pc := 19) (L2 := [_, _, _, _, _, _, _]) dL_law_19 rfl (by decide) rfl ?_
  exact tb_shcong law_sh h
/-- what is alike on both sides -/
def SM (J : zJ) : Prop := J 0 13 = J 164 19 ∧ J 162 = J 173 ∧ J 0 15 = J 164 14 ∧ J 0 14 = J 164 20
/-- the image, where there is one -/
def IMx (J : zJ) : Prop := ¬ J 164 14 = 0 → ∃ Gi ni Ri, CALk J Gi ni Ri ∧ (MBI J Gi ∧ MUi J ni Ri) ∧ (0 ≤ Gi 165 0 ∧ Gi 165 0 ≤ 400)
/-- both sides are in like states -/
def AL (J : zJ) : Prop := ∃ pn RR, CAL J (tbz J) pn RR ∧ MUr J pn RR ∧ IMx J
theorem IMx.hi {J1 J : zJ} (h : IMx J) (f : ∀ c, (63 ≤ c ∧ c ≤ 120) ∨ (164 ≤ c ∧ c < 183) → J1 c = J c) : IMx J1 := fun q => by
  rw [f 164 (by decide)] at q
  obtain ⟨Gi, ni, Ri, k, ⟨mb, mu⟩, g⟩ := h q
  refine ⟨Gi, ni, Ri, k.of (fun c a b => f c (Or.inl ⟨a, b⟩)), ⟨?_, ?_⟩, g⟩
  · unfold MBI
    rw [f 165 (by decide), f 166 (by decide), f 167 (by decide), f 168 (by decide)]
    exact mb
  · unfold MUi
    rw [f 164 (by decide), f 165 (by decide)]
    exact mu
theorem AL.mk {J2 J1 : zJ} {m : Int} (h : IMx J1) (hI : CI J1 m) (lo : ∀ c, c < 164 → J2 c = J1 c) (e14 : J2 164 14 = J1 164 14) (fi : MFI J2 J1) (bo : BO J1 J2) : AL J2 := by
  obtain ⟨S, n, R, c, b, u⟩ := bo
  refine ⟨n, R, (c.lo hI lo).mbt (hI.lo lo) b, u, fun q => ?_⟩
  rw [e14] at q
  obtain ⟨Gi, ni, Ri, k, ⟨mb, mu⟩, g⟩ := h q
  exact ⟨Gi, ni, Ri, k.of (fun c _ b => lo c (by omega)), ⟨mb.fi fi g, mu.fi fi⟩, g⟩
theorem al_w {J : zJ} {n m : Int} {R : Int → Int → Int} (c : CAL J (tbz J) n R) (hI : CI J m) : ∀ k, 0 ≤ k → k < J 164 9 → 1 ≤ J 171 (0 + k) ∧ J 171 (0 + k) ≤ 9 := fun k a b => by
  have ts := hI.1.1.1.told
  have e : J 1 3 = J 164 9 := c.1.1.1
  have q := (c.1.1.2 k a b).2.2
  rw [show tbz J 171 (0 + k) = J 171 (0 + k) from if_pos ⟨by omega, by omega⟩] at q
  rw [← q]
  exact hI.1.1.1.1.2 k a (by omega)
/-- what holds as a turn of the law begins, at the place i of the script -/
def LV (J : zJ) (n k1 k2 : Nat) (i : Int) : Prop := (∃ m, CI J m) ∧ (∃ m, MI J m) ∧ SM J ∧ 6 * J 145 10 ≤ 24000 * i ∧ (184 ≤ n ∧ 6 * (n : Int) ≤ 1104 + 7 * i) ∧ (6 * (k1 : Int) ≤ 1104 + 7 * i ∧ 6 * (k2 : Int) ≤ 325950 + 21 * i) ∧ AL J
theorem LV.q {J2 J1 J : zJ} {n n' k1 k2 k1' k2' : Nat} {i : Int} (h : LV J n k1 k2 i) (c : CW J1 J) (q : MQr J2 J1) (fi : MFI J2 J1) (bo : BO J1 J2) (hn : n ≤ n' ∧ n' ≤ n + 7) (h1 : k1' ≤ k1 + 7) (h2 : k2' ≤ k2 + 21) : LV J2 n' k1' k2' (i + 6) := by
  obtain ⟨a1, a2, ⟨a3, a8, a9, a0⟩, a4, a5, ⟨a6, a7⟩, pn, RR, _, _, im⟩ := h
  obtain ⟨⟨m, c1⟩, c2, ⟨c3, c5, c6⟩, c4⟩ := c
  have e1 : J1 164 = J 164 := c4 164 (by decide)
  obtain ⟨q1, q2, q3, q4, q5⟩ := q
  refine ⟨⟨m, c1.lo (fun c hc => q2 c (Or.inl hc))⟩, q1, ⟨?_, ?_, ?_, ?_⟩, ?_, by omega, by omega, AL.mk (im.hi (fun c hc => c4 c (by omega))) c1 (fun c hc => q2 c (Or.inl hc)) q5 fi bo⟩
  · rw [q2 0 (by decide), q3, c3, e1]; exact a3
  · rw [q2 162 (by decide), q2 173 (by decide), c4 162 (by decide), c4 173 (by decide)]; exact a8
  · rw [q2 0 (by decide), q5, c5, e1]; exact a9
  · rw [q2 0 (by decide), q4, c6, e1]; exact a0
  · rw [q2 145 (by decide)]; omega
theorem LV.i {J2 J1 J : zJ} {n n' k1 k2 k1' k2' : Nat} {i pn : Int} {RR : Int → Int → Int} (h : LV J n k1 k2 i) (c : ((∃ m', CI J1 m') ∧ J1 145 10 ≤ J 145 10 + 24000 ∧ (J1 0 13 = J 0 13 ∧ J1 0 14 = J 0 14 ∧ J1 0 15 = 1) ∧ zOf foi J1 J) ∧ CAL J1 (tbz J) pn RR ∧ CALk J1 (tbz J) pn RR) (q : MQi J2 J1 ∧ (MBT J2 (tbz J1) ∧ MUr J2 pn RR) ∧ (MBI J2 (tbz J1) ∧ MUi J2 pn RR)) (hn : n ≤ n' ∧ n' ≤ n + 7) (h1 : k1' ≤ k1 + 7) (h2 : k2' ≤ k2 + 21) : LV J2 n' k1' k2' (i + 6) := by
  obtain ⟨a1, ⟨m2, a2⟩, ⟨a3, a8, a9, a0⟩, a4, a5, ⟨a6, a7⟩, _⟩ := h
  obtain ⟨⟨⟨m, c1⟩, c2, ⟨c3, c5, c6⟩, c4⟩, cc, ck⟩ := c
  have e1 : J1 164 = J 164 := c4 164 rfl
  have et : tbz J1 = tbz J := tbz_hi (fun c a b => c4 c (decide_eq_true (Or.inr a)))
  obtain ⟨⟨q1, q2, q3, q4, q5⟩, ⟨b1, b2⟩, ⟨b3, b4⟩⟩ := q
  rw [et] at b1 b3
  have lo : ∀ c, c < 164 → J2 c = J1 c := fun c hc => q2 c (Or.inl hc)
  have t2 := a2.told
  have z0 : tbz J 165 0 = m2 := t2.2.2.1
  refine ⟨⟨m, c1.lo lo⟩, q1, ⟨?_, ?_, ?_, ?_⟩, ?_, by omega, by omega, pn, RR, (cc.lo c1 lo).mbt (c1.lo lo) b1, b2, fun _ => ⟨tbz J, pn, RR, ck.of (fun c _ b => lo c (by omega)), ⟨b3, b4⟩, by rw [z0]; exact t2.2.1⟩⟩
  · rw [q2 0 (by decide), q3, c3, e1]; exact a3
  · rw [q2 162 (by decide), q2 173 (by decide), c4 162 rfl, c4 173 rfl]; exact a8
  · rw [q2 0 (by decide), q5, c6]
  · rw [q2 0 (by decide), q4, c5, e1]; exact a0
  · rw [q2 145 (by decide)]; omega
/-- bank -/
theorem LV.b {J2 J1 J : zJ} {n n' k1 k2 k1' k2' : Nat} {i x z k pn : Int} {RR : Int → Int → Int} (h : LV J n k1 k2 i) (hM : ∃ m, MI J m) (im : IMx J) (c : CB3 x k pn RR J1 J) (q : ((∃ m, MI J2 m) ∧ (∀ c, c < 164 ∨ c = 173 → J2 c = J1 c) ∧ J2 183 = J1 183 ∧ ((0 ≤ x ∧ x ≤ J1 164 19 ∧ J2 164 19 = 0 ∧ J2 164 8 = 0 ∧ z = (pAl 703 (pN (pG J1 x))) 0 4 ∧ (¬ (pAl 703 (pN (pG J1 x))) 0 4 = 0 → J2 164 20 = (pAl 703 (pN (pG J1 x))) 0 5 ∧ J2 164 14 = J1 164 14) ∧ ((pAl 703 (pN (pG J1 x))) 0 4 = 0 → J2 164 20 = -1 ∧ J2 164 14 = 0)) ∨ (¬ (0 ≤ x ∧ x ≤ J1 164 19) ∧ J2 164 19 = J1 164 19 ∧ J2 164 8 = 1 ∧ J2 164 20 = J1 164 20 ∧ J2 164 14 = J1 164 14))) ∧ ((¬ (0 ≤ x ∧ x ≤ J1 164 19) ∨ ¬ (pAl 703 (pN (pG J1 x))) 0 4 = 0) → (MBT J2 (tbz J1) ∧ MUr J2 pn RR) ∧ MFI J2 J1) ∧ ((0 ≤ x ∧ x ≤ J1 164 19) → (pAl 703 (pN (pG J1 x))) 0 4 = 0 → (MBT J2 (BS (pAl 703 (pN (pG J1 x)))) ∧ J2 164 10 = 0) ∧ (pAl 703 (pN (pG J1 x))) 165 166 = 0 ∧ (0 ≤ (pAl 703 (pN (pG J1 x))) 165 126 ∧ (pAl 703 (pN (pG J1 x))) 165 126 ≤ 400) ∧ (0 ≤ (pAl 703 (pN (pG J1 x))) 164 44 ∧ (pAl 703 (pN (pG J1 x))) 164 44 ≤ 10))) (hn : n ≤ n' ∧ n' ≤ n + 7) (h1 : k1' ≤ k1 + 7) (h2 : k2' ≤ k2 + 21) : LV J2 n' k1' k2' (i + 6) ∧ J2 164 8 = k ∧ (k = 0 → J2 183 0 = z) := by
  obtain ⟨a1, a2, ⟨a3, a8, a9, a0⟩, a4, a5, ⟨a6, a7⟩, _⟩ := h
  obtain ⟨⟨m, c1⟩, c2, c4, c3⟩ := c
  have e1 : J1 164 = J 164 := c4 164 (by decide)
  have et : tbz J1 = tbz J := tbz_hi (fun c a b => c4 c (by omega))
  obtain ⟨⟨q1, q2, q8, q3⟩, q9, q10⟩ := q
  rw [show pG J1 x = pG J x from pG_e (fun c u v => c4 c (by omega)), e1] at q3
  rw [show pG J1 x = pG J x from pG_e (fun c u v => c4 c (by omega)), e1] at q9 q10
  rw [et] at q9
  have t9 : J2 162 = J2 173 := by rw [q2 162 (by decide), q2 173 (by decide), c4 162 (by decide), c4 173 (by decide)]; exact a8
  have e0 := q2 0 (by decide)
  have lo : ∀ c, c < 164 → J2 c = J1 c := fun c hc => q2 c (Or.inl hc)
  generalize pAl 703 (pN (pG J x)) = r at *
  rcases c3 with ⟨b1, b2, b3, b4, b5, b6⟩ | ⟨b1, b2, ⟨b3, b4, b5⟩, b6, b7⟩
  · rcases q3 with ⟨d1, d2, d3, d4, d5, d6, d7⟩ | ⟨d1, _⟩
    · by_cases hr : r 0 4 = 0
      · obtain ⟨⟨p1, p2⟩, p3, p4, p5⟩ := q10 ⟨d1, d2⟩ hr
        obtain ⟨⟨f1, f2⟩, f3, f4⟩ := b6 hr
        have cc : CAL J1 (BS r) 0 (fun _ _ => 0) := et_cal f3 c1.1.1.1 c1.1.1.2.1 p5 p3 c1.1.1.2.2 f4 rfl
        refine ⟨⟨⟨m, c1.lo lo⟩, q1, ⟨by rw [e0]; omega, t9, by rw [e0, f2, (d7 hr).2], by rw [e0, f1, (d7 hr).1]⟩, by rw [q2 145 (by decide)]; omega, by omega, by omega, 0, (fun _ _ => 0), (cc.lo c1 lo).mbt (c1.lo lo) p1, ⟨p2, fun k a b => absurd b (by omega)⟩, fun w => absurd (d7 hr).2 w⟩, by omega, fun _ => by rw [q8]; omega⟩
      · obtain ⟨⟨p1, p2⟩, p3⟩ := q9 (Or.inr hr)
        obtain ⟨⟨f1, f2⟩, f3, f4⟩ := b5 hr
        exact ⟨⟨⟨m, c1.lo lo⟩, q1, ⟨by rw [e0]; omega, t9, by rw [e0, f2, (d6 hr).2]; exact a9, by rw [e0, f1, (d6 hr).1]⟩, by rw [q2 145 (by decide)]; omega, by omega, by omega, AL.mk (im.hi (fun c hc => hc.elim (fun w => f4 c w.1 w.2) (fun w => c4 c (Or.inr w)))) c1 lo ((d6 hr).2.trans (congrFun e1 14).symm) p3 ⟨_, _, _, f3, p1, p2⟩⟩, by omega, fun _ => by rw [q8]; omega⟩
    · exact absurd ⟨b2.1, by omega⟩ d1
  · rcases q3 with ⟨d1, d2, _⟩ | ⟨d1, d2, d3, d4, d5⟩
    · exact absurd ⟨d1, by omega⟩ b2
    · obtain ⟨⟨p1, p2⟩, p3⟩ := q9 (Or.inl d1)
      exact ⟨⟨⟨m, c1.lo lo⟩, q1, ⟨by rw [e0]; omega, t9, by rw [e0, b4, d5]; exact a9, by rw [e0, b5, d4]; exact a0⟩, by rw [q2 145 (by decide)]; omega, by omega, by omega, AL.mk (im.hi (fun c hc => hc.elim (fun w => b7 c w.1 w.2) (fun w => c4 c (Or.inr w)))) c1 lo (d5.trans (congrFun e1 14).symm) p3 ⟨_, _, _, b6, p1, p2⟩⟩, by omega, fun _ => by omega⟩
theorem LV.f {J2 J1 J : zJ} {n k1 k2 : Nat} {i z1 z2 a b c d e : Int} (h : LV J n k1 k2 i) (x : (∃ m', CI J1 m') ∧ J1 145 10 ≤ J 145 10 + 24000 ∧ zOf (zbut [0, 162]) J1 J ∧ (J1 0 14 = J 0 14 ∧ J1 0 15 = J 0 15) ∧ ((J 0 13 + 20 ≤ 700 ∧ z1 = J 0 13 + 20 ∧ J1 0 13 = J 0 13 + 20 ∧ ∀ x, J1 162 x = if J 0 13 ≤ x ∧ x < J 0 13 + 20 then fB a b c d e (x - J 0 13) else J 162 x) ∨ (700 < J 0 13 + 20 ∧ z1 = -1 ∧ J1 0 13 = J 0 13 ∧ J1 162 = J 162))) (q : (∃ m, MI J2 m) ∧ (zOf (zbut [164, 173]) J2 J1 ∧ ∀ k, ¬ k = 8 → ¬ k = 19 → J2 164 k = J1 164 k) ∧ ((700 < J1 164 19 + 20 ∧ z2 = -1 ∧ J2 164 19 = J1 164 19 ∧ J2 173 = J1 173) ∨ (J1 164 19 + 20 ≤ 700 ∧ z2 = J1 164 19 + 20 ∧ J2 164 19 = J1 164 19 + 20 ∧ ∀ x, J2 173 x = if J1 164 19 ≤ x ∧ x < J1 164 19 + 20 then fB a b c d e (x - J1 164 19) else J1 173 x))) : z1 = z2 ∧ LV J2 n k1 k2 (i + 6) := by
  obtain ⟨⟨m0, a1⟩, ⟨m2, a2⟩, ⟨a3, a8, a9, a0⟩, a4, a5, ⟨a6, a7⟩, pn, RR, cc, uu, im⟩ := h
  obtain ⟨⟨m, c1⟩, c2, c3, ⟨c6, c5⟩, c4⟩ := x
  have e1 : J1 164 = J 164 := c3 164 rfl
  have e3 : J1 173 = J 173 := c3 173 rfl
  obtain ⟨q1, ⟨q2, q4⟩, q3⟩ := q
  rw [e1, e3] at q3
  have e0 := q2 0 rfl
  have f : J2 162 = J1 162 := q2 162 rfl
  have lo : ∀ c, c < 164 → J2 c = J1 c := fun c hc => q2 c (by simp [zbut]; omega)
  have g5 : J2 0 15 = J2 164 14 ∧ J2 0 14 = J2 164 20 := ⟨by rw [e0, q4 14 (by decide) (by decide), c5, e1]; exact a9, by rw [e0, q4 20 (by decide) (by decide), c6, e1]; exact a0⟩
  have hi : ∀ c, 164 ≤ c → c < 183 → J1 c = J c := fun c x y => c3 c (by simp [zbut]; omega)
  have cc1 : CAL J1 (tbz J) pn RR := cc.fr a1 (fun q x y => c3 q (by simp [zbut]; omega))
  have u2 : MUr J2 pn RR := (uu.mid hi).of (q4 10 (by decide) (by decide)) (q4 11 (by decide) (by decide)) (fun k _ => by rw [q2 165 rfl])
  have t2 := a2.told
  have b2 : MBT J2 (tbz J) := by
    rw [← tbz_hi hi]
    have m9 : MBT J1 (tbz J1) := MBT.z (a2.mid hi) MZ.rf
    refine ⟨⟨(q4 9 (by decide) (by decide)).trans m9.1.1, fun k x y => by rw [q2 169 rfl, q2 170 rfl, q2 171 rfl]; exact m9.1.2 k x y⟩, fun k x y => by rw [q2 165 rfl]; exact m9.2.1 k x y, fun t x y => by rw [q2 166 rfl, q2 168 rfl]; exact m9.2.2.1 t x y, fun k x y => by rw [q2 167 rfl]; exact m9.2.2.2 k x y⟩
  have fi : MFI J2 J1 := ⟨fun k _ => by rw [q2 165 rfl], fun k _ _ => ⟨by rw [q2 166 rfl], by rw [q2 168 rfl]⟩, fun k _ _ => by rw [q2 167 rfl], q4 12 (by decide) (by decide), q4 13 (by decide) (by decide)⟩
  have al : AL J2 := AL.mk (im.hi (fun c hc => c3 c (by simp [zbut]; omega))) c1 lo (q4 14 (by decide) (by decide)) fi ⟨_, _, _, cc1, b2, u2⟩
  rcases c4 with ⟨b1, b2, b3, b4⟩ | ⟨b1, b2, b3, b4⟩
  · rcases q3 with ⟨d1, _⟩ | ⟨d1, d2, d3, d4⟩
    · omega
    · refine ⟨by omega, ⟨m, c1.lo lo⟩, q1, ⟨by rw [e0]; omega, ?_, g5⟩, by rw [q2 145 rfl]; omega, by omega, by omega, al⟩
      rw [f]
      funext y
      rw [b4 y, d4 y, ← a3, ← a8]
  · rcases q3 with ⟨d1, d2, d3, d4⟩ | ⟨d1, _⟩
    · exact ⟨by omega, ⟨m, c1.lo lo⟩, q1, ⟨by rw [e0]; omega, by rw [f, b4, d4]; exact a8, g5⟩, by rw [q2 145 rfl]; omega, by omega, by omega, al⟩
    · omega
theorem bo_r {J2 J1 J Gi : zJ} {n ni : Int} {R Ri : Int → Int → Int} (e : J 0 15 = J 164 14) (f : ∀ c, 164 ≤ c → c < 183 → J1 c = J c) (x1 : J 0 15 = 0 → CAL J1 (tbz J) n R) (x2 : ¬ J 0 15 = 0 → CAL J1 (gsy (tbz J) Gi) ni Ri) (y1 : J1 164 14 = 0 → MBT J2 (tbz J1) ∧ MUr J2 n R) (y2 : ¬ J1 164 14 = 0 → MBT J2 (gsy (tbz J1) Gi) ∧ MUr J2 ni Ri) : BO J1 J2 := by
  rw [tbz_hi f] at y1 y2
  rw [f 164 (by decide) (by decide)] at y1 y2
  by_cases q : J 164 14 = 0
  · exact ⟨_, _, _, x1 (by omega), (y1 q).1, (y1 q).2⟩
  · exact ⟨_, _, _, x2 (by omega), (y2 q).1, (y2 q).2⟩
theorem bo_q {J2 J1 J : zJ} {n : Int} {R : Int → Int → Int} (f : ∀ c, 164 ≤ c → c < 183 → J1 c = J c) (x : CAL J1 (tbz J) n R) (y : MBT J2 (tbz J1) ∧ MUr J2 n R) : BO J1 J2 := by
  rw [tbz_hi f] at y
  exact ⟨_, _, _, x, y.1, y.2⟩
/-! ===== the rules stay rules, in the image too ===== -/
def RVI (J : zJ) : Prop := ¬ J 0 15 = 0 → RVf (kv J) (J 77) ∧ ∀ k, 0 ≤ k → k < J 63 6 → RVf (kv J) (J (zV ((J 63 5 + k) % 40)))
def RVX (J : zJ) : Prop := RVC J ∧ RVI J
theorem RVC.of {J' J : zJ} (h : RVC J) (f : ∀ c, 5 ≤ c → c ≤ 61 → J' c = J c) : RVC J' := by
  obtain ⟨a, b⟩ := h
  have e5 := f 5 (by decide) (by decide)
  have e7 := f 7 (by decide) (by decide)
  have e0 := f 10 (by decide) (by decide)
  have e9 := f 19 (by decide) (by decide)
  refine ⟨fun i x y => ?_, fun k x y i p q => ?_⟩
  · rw [e9] at y
    rw [e9, e7, e0]
    exact a i x y
  · rw [e5] at y q
    have ez := f (zU ((J 5 5 + k) % 40)) (by unfold zU; omega) (by unfold zU; omega)
    rw [ez] at q
    rw [e5, ez, e7, e0]
    exact b k x y i p q
theorem RVI.of {J' J : zJ} (h : RVI J) (f : ∀ c, 63 ≤ c → c ≤ 120 → J' c = J c) (e : J' 0 15 = J 0 15) : RVI J' := fun w => by
  rw [e] at w
  obtain ⟨a, b⟩ := h w
  have e5 := f 63 (by decide) (by decide)
  have e7 : kv J' 7 = kv J 7 := f 65 (by decide) (by decide)
  have e0 : kv J' 10 = kv J 10 := f 68 (by decide) (by decide)
  have e9 := f 77 (by decide) (by decide)
  refine ⟨fun i x y => ?_, fun k x y i p q => ?_⟩
  · rw [e9] at y
    rw [e9, e7, e0]
    exact a i x y
  · rw [e5] at y q
    have ez := f (zV ((J 63 5 + k) % 40)) (by unfold zV; omega) (by unfold zV; omega)
    rw [ez] at q
    rw [e5, ez, e7, e0]
    exact b k x y i p q
theorem RVX.lo {J' J : zJ} (h : RVX J) (f : ∀ c, c < 164 → J' c = J c) : RVX J' := ⟨h.1.of (fun c _ b => f c (by omega)), h.2.of (fun c _ b => f c (by omega)) (by rw [f 0 (by decide)])⟩
/-- the kept table, where the class's is -/
def kz (J : zJ) : zJ := zup (kv J) 6 12 (J 64 12)
theorem kz_a {J S G : zJ} (E : A0 J S) (k : A1k J G) : A0 (kz J) (gsy S G) := ⟨E.1, k⟩
theorem kz_c {J : zJ} {mk : Int} (h : KI J mk) : CT (kz J) mk ∧ kz J 6 12 = mk := ⟨h.1.1.of (fun c hc => zup_nc (by omega)), zup_at.trans h.1.2⟩
theorem kz_s {J S : zJ} (E : A0 J S) (k : A1k J S) : A0 (kz J) S := ⟨E.1, k⟩
theorem kz_f {J : zJ} {f : Int → Int} : RVf (kz J) f ↔ RVf (kv J) f := Iff.rfl
theorem rv_image {J S : zJ} {n m : Int} {R : Int → Int → Int} (c : CAL J S n R) (ck : CALk J S n R) (hI : CI J m) (v : RVC J) : RVI J := fun w => by
  rcases hI.1.2.2.2 with q | ⟨_, mk, hK⟩
  · exact absurd q w
  · obtain ⟨ka, kr, k6, kk⟩ := ck
    obtain ⟨C1, m1⟩ := kz_c hK
    have g := c.1.gro hI.1.1.1 hI.1.1.2.1 (kz_s c.1 ka) C1 m1 EXT.rf
    have r := RVS.to c hI (c.rv.1 v) g
    exact ⟨kz_f.1 (kr.rv.2 r.1), fun k a b => kz_f.1 ((kk k a (by omega)).1.rv.2 (r.2 k a (by omega)))⟩
theorem rv_restore {J J1 S G : zJ} {n ni m m1 : Int} {R Ri : Int → Int → Int} (c : CAL J S n R) (ck : CALk J G ni Ri) (hI : CI J m) (hI1 : CI J1 m1) (c1 : CAL J1 (gsy S G) ni Ri) (v : RVI J) (w : ¬ J 0 15 = 0) : RVC J1 := by
  obtain ⟨v1, v2⟩ := v w
  rcases hI.1.2.2.2 with q | ⟨_, mk, hK⟩
  · exact absurd q w
  · obtain ⟨ka, kr, k6, kk⟩ := ck
    obtain ⟨C1, m1'⟩ := kz_c hK
    have g := (kz_a c.1 ka).gro C1 m1' c1.1 hI1.1.1.1 hI1.1.1.2.1 EXT.rf
    refine c1.rv.2 ⟨(kr.rv.1 (kz_f.2 v1)).to (kr.lb hK.2.1) g, fun k a b => ?_⟩
    obtain ⟨⟨l, l0⟩, _⟩ := hK.2.2.2 k a (by omega)
    exact ((kk k a b).1.rv.1 (kz_f.2 (v2 k a (by omega)))).to ((kk k a b).1.lb (l.mono l0.2)) g
theorem rv_bank {J1 J : zJ} {x k pn m : Int} {RR : Int → Int → Int} (c0 : CAL J (tbz J) pn RR) (hI : CI J m) (v : RVX J) (c : CB3 x k pn RR J1 J) (e19 : J 0 13 = J 164 19) (q : (0 ≤ x ∧ x ≤ J1 164 19) → (pAl 703 (pN (pG J1 x))) 0 4 = 0 → (pAl 703 (pN (pG J1 x))) 165 166 = 0 ∧ (0 ≤ (pAl 703 (pN (pG J1 x))) 165 126 ∧ (pAl 703 (pN (pG J1 x))) 165 126 ≤ 400) ∧ (0 ≤ (pAl 703 (pN (pG J1 x))) 164 44 ∧ (pAl 703 (pN (pG J1 x))) 164 44 ≤ 10)) : RVX J1 := by
  have h13 := hI.1.2.2.1.1
  obtain ⟨⟨m1, c1⟩, c2, c4, c3⟩ := c
  have e1 : J1 164 = J 164 := c4 164 (by decide)
  rw [show pG J1 x = pG J x from pG_e (fun c u v => c4 c (by omega)), e1] at q
  rcases c3 with ⟨b1, b2, b3, b4, b5, b6⟩ | ⟨b1, b2, ⟨b3, b4, b5⟩, b6, b7⟩
  · have hx : 0 ≤ x ∧ x ≤ 700 := by omega
    have B : GB (pAl 703 (pN (pG J x))) := pAl_g 703 _ (GB.g0 hx)
    have P : PQ9 (pAl 703 (pN (pG J x))) := pAl_q 703 _ (GB.g0 hx) pG_q
    generalize pAl 703 (pN (pG J x)) = r at *
    by_cases hr : r 0 4 = 0
    · obtain ⟨p3, p4, p5⟩ := q (by omega) hr
      obtain ⟨⟨f1, f2⟩, f3, f4⟩ := b6 hr
      have cc : CAL J1 (BS r) 0 (fun _ _ => 0) := et_cal f3 c1.1.1.1 c1.1.1.2.1 p5 p3 c1.1.1.2.2 f4 rfl
      exact ⟨cc.rv.2 ⟨RVg.h cc.1 c1.1.1.1 c1.1.1.2.1 (cc.2.1.lb c1.1.1.2.2) (rv_bs P B hr p5 p4), fun k a b => absurd b (by omega)⟩, fun w => absurd f2 w⟩
    · obtain ⟨⟨f1, f2⟩, f3, f4⟩ := b5 hr
      exact ⟨rv_eq c0 hI c1 f3 v.1, v.2.of f4 f2⟩
  · exact ⟨rv_eq c0 hI c1 b6 v.1, v.2.of b7 b4⟩
/-- what holds as a turn of the law begins, the rules besides -/
def LVr (J : zJ) (n k1 k2 : Nat) (i : Int) : Prop := LV J n k1 k2 i ∧ RVX J
set_option maxHeartbeats 4000000 in
set_option maxRecDepth 100000 in
theorem v_feedC {l : Launch} {G : tb_G} (hl : l.stackTraces = false) (n : Nat) (J : zJ) (a : Int) (b : Int) (c : Int) (d : Int) (e : Int) (hr_a : -2147483648 ≤ a ∧ a < 2147483648) (hr_b : -2147483648 ≤ b ∧ b < 2147483648) (hr_c : -2147483648 ≤ c ∧ c < 2147483648) (hr_d : -2147483648 ≤ d ∧ d < 2147483648) (hr_e : -2147483648 ≤ e ∧ e < 2147483648) (m : Int) (hI : CI J m) (h9 : J 145 10 < 1000000000) : tz_Ok l G M_X11_feed 1 0 0 [.ref 0, zi a, zi b, zi c, zi d, zi e] n J (zqi (fun z J' => (∃ m', CI J' m') ∧ J' 145 10 ≤ J 145 10 + 24000 ∧ zOf (zbut [0, 162]) J' J ∧ (J' 0 14 = J 0 14 ∧ J' 0 15 = J 0 15) ∧ ((J 0 13 + 20 ≤ 700 ∧ z = J 0 13 + 20 ∧ J' 0 13 = J 0 13 + 20 ∧ ∀ x, J' 162 x = if J 0 13 ≤ x ∧ x < J 0 13 + 20 then fB a b c d e (x - J 0 13) else J 162 x) ∨ (700 < J 0 13 + 20 ∧ z = -1 ∧ J' 0 13 = J 0 13 ∧ J' 162 = J 162)))) zN := by
  refine tz_Ok.of hl (by decide +kernel) rfl (tb_c1 rfl) (Nat.le_of_ble_eq_true rfl) ?_
  show tz_At l G M_X11_feed (tb_rm 1 0 0) none (tb_ZM G 0 0 (zQ n 0 (zqi (fun z J' => (∃ m', CI J' m') ∧ J' 145 10 ≤ J 145 10 + 24000 ∧ zOf (zbut [0, 162]) J' J ∧ (J' 0 14 = J 0 14 ∧ J' 0 15 = J 0 15) ∧ ((J 0 13 + 20 ≤ 700 ∧ z = J 0 13 + 20 ∧ J' 0 13 = J 0 13 + 20 ∧ ∀ x, J' 162 x = if J 0 13 ≤ x ∧ x < J 0 13 + 20 then fB a b c d e (x - J 0 13) else J 162 x) ∨ (700 < J 0 13 + 20 ∧ z = -1 ∧ J' 0 13 = J 0 13 ∧ J' 162 = J 162))))) (zX n 0 zN)) 0 0 n J 0 [some (.ref 0), some (zi a), some (zi b), some (zi c), some (zi d), some (zi e)] []
  have htp := hI.1.2.2.1
  refine tz_aload_n (pc := 0) dX11_feed_0 rfl rfl ?_
  refine tz_fI (pc := 1) (kz := 13) (v := (J 0 13)) dX11_feed_1 fl_X11_107 i_0_13 rfl rfl (fun r_1 => ?_)
  refine tz_bipush (pc := 4) dX11_feed_4 (by decide) ?_
  refine tz_iadd (pc := 6) (v := (J 0 13) + 20) dX11_feed_6 rfl ?_
  refine tz_sipush (pc := 7) dX11_feed_7 (by decide) ?_
  refine tz_icmp_le (pc := 10) (tgt := 15) dX11_feed_10 (by decide) (by omega) (by decide) (fun h_10 => ?_) (fun h_10 => ?_)
  · refine tz_aload_n (pc := 15) dX11_feed_15 rfl rfl ?_
    refine tz_iload_n (pc := 16) dX11_feed_16 rfl rfl ?_
    refine tz_cV (pc := 17) (x_tapeN hl n _ _ (by omega) (by omega)) vl_X11_118 dX11_feed_17 o_0 rfl rfl (Nat.le_of_ble_eq_true rfl) ⟨(Nat.le_of_ble_eq_true rfl), (Nat.le_of_ble_eq_true rfl)⟩ rfl rfl (Nat.le_of_ble_eq_true rfl) (Nat.le_of_ble_eq_true rfl) (fun r9 J_17 hq9 => ?_)
    obtain ⟨rfl, f_17, k_17, e_17, t_17⟩ := hq9
    refine tz_aload_n (pc := 20) dX11_feed_20 rfl rfl ?_
    refine tz_iload_n (pc := 21) dX11_feed_21 rfl rfl ?_
    refine tz_cV (pc := 22) (x_tapeN hl n _ _ (by omega) (by omega)) vl_X11_118 dX11_feed_22 o_0 rfl rfl (Nat.le_of_ble_eq_true rfl) ⟨(Nat.le_of_ble_eq_true rfl), (Nat.le_of_ble_eq_true rfl)⟩ rfl rfl (Nat.le_of_ble_eq_true rfl) (Nat.le_of_ble_eq_true rfl) (fun r9 J_22 hq9 => ?_)
    obtain ⟨rfl, f_22, k_22, e_22, t_22⟩ := hq9
    refine tz_aload_n (pc := 25) dX11_feed_25 rfl rfl ?_
    refine tz_iload_n (pc := 26) dX11_feed_26 rfl rfl ?_
    refine tz_cV (pc := 27) (x_tapeN hl n _ _ (by omega) (by omega)) vl_X11_118 dX11_feed_27 o_0 rfl rfl (Nat.le_of_ble_eq_true rfl) ⟨(Nat.le_of_ble_eq_true rfl), (Nat.le_of_ble_eq_true rfl)⟩ rfl rfl (Nat.le_of_ble_eq_true rfl) (Nat.le_of_ble_eq_true rfl) (fun r9 J_27 hq9 => ?_)
    obtain ⟨rfl, f_27, k_27, e_27, t_27⟩ := hq9
    refine tz_aload_n (pc := 30) dX11_feed_30 rfl rfl ?_
    refine tz_iload (pc := 31) dX11_feed_31 rfl ?_
    refine tz_cV (pc := 33) (x_tapeN hl n _ _ (by omega) (by omega)) vl_X11_118 dX11_feed_33 o_0 rfl rfl (Nat.le_of_ble_eq_true rfl) ⟨(Nat.le_of_ble_eq_true rfl), (Nat.le_of_ble_eq_true rfl)⟩ rfl rfl (Nat.le_of_ble_eq_true rfl) (Nat.le_of_ble_eq_true rfl) (fun r9 J_33 hq9 => ?_)
    obtain ⟨rfl, f_33, k_33, e_33, t_33⟩ := hq9
    refine tz_aload_n (pc := 36) dX11_feed_36 rfl rfl ?_
    refine tz_iload (pc := 37) dX11_feed_37 rfl ?_
    refine tz_cV (pc := 39) (x_tapeN hl n _ _ (by omega) (by omega)) vl_X11_118 dX11_feed_39 o_0 rfl rfl (Nat.le_of_ble_eq_true rfl) ⟨(Nat.le_of_ble_eq_true rfl), (Nat.le_of_ble_eq_true rfl)⟩ rfl rfl (Nat.le_of_ble_eq_true rfl) (Nat.le_of_ble_eq_true rfl) (fun r9 J_39 hq9 => ?_)
    obtain ⟨rfl, f_39, k_39, e_39, t_39⟩ := hq9
    refine tz_aload_n (pc := 42) dX11_feed_42 rfl rfl ?_
    refine tz_fI (pc := 43) (kz := 13) (v := (J_39 0 13)) dX11_feed_43 fl_X11_107 i_0_13 rfl rfl (fun r_43 => ?_)
    have ff : zOf (zbut [0, 162]) J_39 J := f_39.tr (f_33.tr (f_27.tr (f_22.tr f_17)))
    have kk : ∀ k, ¬ k = 13 → J_39 0 k = J 0 k := fun k hk => by rw [k_39 k hk, k_33 k hk, k_27 k hk, k_22 k hk, k_17 k hk]
    exact tz_iret (pc := 46) (z := (J_39 0 13)) dX11_feed_46 rfl (Nat.le_of_ble_eq_true rfl) (Nat.le_of_ble_eq_true rfl) ⟨Nat.le_refl _, Nat.le_add_right _ _⟩ ⟨_, rfl, (by omega), ⟨⟨m, hI.tape ff (by omega) (kk 15 (by decide))⟩, by rw [ff 145 rfl]; omega, ff, ⟨kk 14 (by decide), kk 15 (by decide)⟩, Or.inl ⟨by omega, by omega, by omega, fd5 e_17 e_22 e_27 e_33 t_17 t_22 t_27 t_33 t_39⟩⟩⟩
  · refine tz_iconst (pc := 13) dX11_feed_13 ?_
    exact tz_iret (pc := 14) (z := (-1)) dX11_feed_14 rfl (Nat.le_of_ble_eq_true rfl) (Nat.le_of_ble_eq_true rfl) ⟨Nat.le_refl _, Nat.le_add_right _ _⟩ ⟨_, rfl, (by decide), ⟨⟨m, hI⟩, by omega, zOf.rf, ⟨rfl, rfl⟩, Or.inr ⟨by omega, rfl, rfl, rfl⟩⟩⟩

set_option maxHeartbeats 4000000 in
set_option maxRecDepth 100000 in
theorem v_qfeedC {l : Launch} {G : tb_G} (hl : l.stackTraces = false) (n : Nat) (J : zJ) (a : Int) (b : Int) (c : Int) (d : Int) (e : Int) (hr_a : -2147483648 ≤ a ∧ a < 2147483648) (hr_b : -2147483648 ≤ b ∧ b < 2147483648) (hr_c : -2147483648 ≤ c ∧ c < 2147483648) (hr_d : -2147483648 ≤ d ∧ d < 2147483648) (hr_e : -2147483648 ≤ e ∧ e < 2147483648) (m : Int) (hI : MI J m)  : tz_Ok l G M_X12_feed 0 0 0 [.ref 164, zi a, zi b, zi c, zi d, zi e] n J (zqi (fun z J' => (∃ m, MI J' m) ∧ (zOf (zbut [164, 173]) J' J ∧ ∀ k, ¬ k = 8 → ¬ k = 19 → J' 164 k = J 164 k) ∧ ((700 < J 164 19 + 20 ∧ z = -1 ∧ J' 164 19 = J 164 19 ∧ J' 173 = J 173) ∨ (J 164 19 + 20 ≤ 700 ∧ z = J 164 19 + 20 ∧ J' 164 19 = J 164 19 + 20 ∧ ∀ x, J' 173 x = if J 164 19 ≤ x ∧ x < J 164 19 + 20 then fB a b c d e (x - J 164 19) else J 173 x)))) zN := by
  refine tz_Ok.of hl (by decide +kernel) rfl (tb_c1 rfl) (Nat.le_of_ble_eq_true rfl) ?_
  show tz_At l G M_X12_feed (tb_rm 0 0 0) none (tb_ZM G 0 0 (zQ n 0 (zqi (fun z J' => (∃ m, MI J' m) ∧ (zOf (zbut [164, 173]) J' J ∧ ∀ k, ¬ k = 8 → ¬ k = 19 → J' 164 k = J 164 k) ∧ ((700 < J 164 19 + 20 ∧ z = -1 ∧ J' 164 19 = J 164 19 ∧ J' 173 = J 173) ∨ (J 164 19 + 20 ≤ 700 ∧ z = J 164 19 + 20 ∧ J' 164 19 = J 164 19 + 20 ∧ ∀ x, J' 173 x = if J 164 19 ≤ x ∧ x < J 164 19 + 20 then fB a b c d e (x - J 164 19) else J 173 x))))) (zX n 0 zN)) 0 0 n J 0 [some (.ref 164), some (zi a), some (zi b), some (zi c), some (zi d), some (zi e), none, none] []
  have hT := hI.told
  have hW := hI.row
  have hM := hI.1
  have hL := hI.2.1
  refine tz_aload_n (pc := 0) dX12_feed_0 rfl rfl ?_
  refine tz_iconst (pc := 1) dX12_feed_1 ?_
  refine tz_pI (pc := 2) (kz := 8) dX12_feed_2 fl_X12_68 i_164_8 rfl rfl (by decide) ?_
  refine tz_aload_n (pc := 5) dX12_feed_5 rfl rfl ?_
  refine tz_fI (pc := 6) (kz := 19) (v := (J 164 19)) dX12_feed_6 fl_X12_328 i_164_19 rfl rfl (fun r_6 => ?_)
  refine tz_bipush (pc := 9) dX12_feed_9 (by decide) ?_
  refine tz_iadd (pc := 11) (v := (J 164 19) + 20) dX12_feed_11 rfl ?_
  refine tz_sipush (pc := 12) dX12_feed_12 (by decide) ?_
  refine tz_icmp_le (pc := 15) (tgt := 20) dX12_feed_15 (by decide) (by omega) (by decide) (fun h_15 => ?_) (fun h_15 => ?_)
  · refine tz_iconst (pc := 20) dX12_feed_20 ?_
    refine tz_istore (pc := 21) (L2 := [_, _, _, _, _, _, _, _]) dX12_feed_21 (by decide) rfl ?_
    have loop23 : ∀ (f9 : Nat) (k : Int) (d7 : Option Value) (J1 : zJ), ((20 - k).toNat) < f9 → (0 ≤ k ∧ k ≤ 20) → (zOf (zbut [173]) J1 (zup J 164 8 0)) → (∀ x, J1 173 x = if J 164 19 ≤ x ∧ x < J 164 19 + k then fB a b c d e (x - J 164 19) else J 173 x) → tz_At l G M_X12_feed (tb_rm 0 0 0) none (tb_ZM G 0 0 (zQ n 0 (zqi (fun z J' => (∃ m, MI J' m) ∧ (zOf (zbut [164, 173]) J' J ∧ ∀ k, ¬ k = 8 → ¬ k = 19 → J' 164 k = J 164 k) ∧ ((700 < J 164 19 + 20 ∧ z = -1 ∧ J' 164 19 = J 164 19 ∧ J' 173 = J 173) ∨ (J 164 19 + 20 ≤ 700 ∧ z = J 164 19 + 20 ∧ J' 164 19 = J 164 19 + 20 ∧ ∀ x, J' 173 x = if J 164 19 ≤ x ∧ x < J 164 19 + 20 then fB a b c d e (x - J 164 19) else J 173 x))))) (zX n 0 zN)) 0 0 n J1 23 [some (.ref 164), some (zi a), some (zi b), some (zi c), some (zi d), some (zi e), some (zi k), d7] [] := by
      intro f9
      induction f9 with
      | zero => intro k d7 J1 hm9; exact absurd hm9 (Nat.not_lt_zero _)
      | succ f9 ih23 =>
        intro k d7 J1 hm23 hk f1 t1
        refine tz_iload (pc := 23) dX12_feed_23 rfl ?_
        refine tz_bipush (pc := 25) dX12_feed_25 (by decide) ?_
        refine tz_icmp_ge (pc := 27) (tgt := 113) dX12_feed_27 (by decide) (by omega) (by decide) (fun h_27 => ?_) (fun h_27 => ?_)
        · refine tz_aload_n (pc := 113) dX12_feed_113 rfl rfl ?_
          refine tz_dup (pc := 114) dX12_feed_114 rfl ?_
          refine tz_fI (pc := 115) (kz := 19) (v := (J 164 19)) dX12_feed_115 fl_X12_328 i_164_19 rfl (Eq.trans (congrFun (f1 164 rfl) 19) rfl) (fun r_115 => ?_)
          refine tz_bipush (pc := 118) dX12_feed_118 (by decide) ?_
          refine tz_iadd (pc := 120) (v := (J 164 19) + 20) dX12_feed_120 rfl ?_
          refine tz_pI (pc := 121) (kz := 19) dX12_feed_121 fl_X12_328 i_164_19 rfl rfl (by omega) ?_
          refine tz_aload_n (pc := 124) dX12_feed_124 rfl rfl ?_
          refine tz_fI (pc := 125) (kz := 19) (v := ((J 164 19) + 20)) dX12_feed_125 fl_X12_328 i_164_19 rfl rfl (fun r_125 => ?_)
          exact tz_iret (pc := 128) (z := ((J 164 19) + 20)) dX12_feed_128 rfl (Nat.le_of_ble_eq_true rfl) (Nat.le_of_ble_eq_true rfl) ⟨Nat.le_refl _, Nat.le_add_right _ _⟩ ⟨_, rfl, (by omega), ⟨(MI.feed (v := J 164 19 + 20) hI f1 (by omega)).1, ⟨zOf.up rfl ((f1.mono (zbut_sub (fun c hc => by simp at hc ⊢; omega))).tr (zOf.up rfl zOf.rf)), fun k x y => (zup_ne y).trans ((congrFun (f1 164 rfl) k).trans (zup_ne x))⟩, Or.inr ⟨by omega, rfl, zup_at, fun x => by show J1 173 x = _; rw [t1 x, show k = 20 from by omega]⟩⟩⟩
        · refine tz_iload (pc := 30) dX12_feed_30 rfl ?_
          refine tz_iconst (pc := 32) dX12_feed_32 ?_
          refine tz_icmp_ge (pc := 33) (tgt := 40) dX12_feed_33 (by decide) (by omega) (by decide) (fun h_33 => ?_) (fun h_33 => ?_)
          · refine tz_iload (pc := 40) dX12_feed_40 rfl ?_
            refine tz_bipush (pc := 42) dX12_feed_42 (by decide) ?_
            refine tz_icmp_ge (pc := 44) (tgt := 51) dX12_feed_44 (by decide) (by omega) (by decide) (fun h_44 => ?_) (fun h_44 => ?_)
            · refine tz_iload (pc := 51) dX12_feed_51 rfl ?_
              refine tz_bipush (pc := 53) dX12_feed_53 (by decide) ?_
              refine tz_icmp_ge (pc := 55) (tgt := 62) dX12_feed_55 (by decide) (by omega) (by decide) (fun h_55 => ?_) (fun h_55 => ?_)
              · refine tz_iload (pc := 62) dX12_feed_62 rfl ?_
                refine tz_bipush (pc := 64) dX12_feed_64 (by decide) ?_
                refine tz_icmp_ge (pc := 66) (tgt := 74) dX12_feed_66 (by decide) (by omega) (by decide) (fun h_66 => ?_) (fun h_66 => ?_)
                · refine tz_iload (pc := 74) dX12_feed_74 rfl ?_
                  refine tz_istore (pc := 76) (L2 := [_, _, _, _, _, _, _, _]) dX12_feed_76 (by decide) rfl ?_
                  refine tz_aload_n (pc := 78) dX12_feed_78 rfl rfl ?_
                  refine tz_fR (pc := 79) dX12_feed_79 fl_X12_34 r_164_18 ?_
                  refine tz_aload_n (pc := 82) dX12_feed_82 rfl rfl ?_
                  refine tz_fI (pc := 83) (kz := 19) (v := (J 164 19)) dX12_feed_83 fl_X12_328 i_164_19 rfl (Eq.trans (congrFun (f1 164 rfl) 19) rfl) (fun r_83 => ?_)
                  refine tz_iload (pc := 86) dX12_feed_86 rfl ?_
                  refine tz_iadd (pc := 88) (v := (J 164 19) + k) dX12_feed_88 rfl ?_
                  refine tz_iload (pc := 89) dX12_feed_89 rfl ?_
                  refine tz_bipush (pc := 91) dX12_feed_91 (by decide) ?_
                  refine tz_bipush (pc := 93) dX12_feed_93 (by decide) ?_
                  refine tz_iload (pc := 95) dX12_feed_95 rfl ?_
                  refine tz_iconst (pc := 97) dX12_feed_97 ?_
                  refine tz_irem (pc := 98) (a := k) (b := 4) (v := (k % 4)) dX12_feed_98 (by omega) (by omega) rfl ?_
                  refine tz_imul (pc := 99) (v := 8 * (k % 4)) dX12_feed_99 rfl ?_
                  refine tz_isub (pc := 100) (v := 24 - (8 * (k % 4))) dX12_feed_100 rfl ?_
                  refine tz_ishr (pc := 101) (v := zshr e (24 - (8 * (k % 4)))) dX12_feed_101 rfl ?_
                  refine tz_sipush (pc := 102) dX12_feed_102 (by decide) ?_
                  refine tz_iand (pc := 105) (v := zand (zshr e (24 - (8 * (k % 4)))) 255) dX12_feed_105 rfl ?_
                  refine tz_aS (pc := 106) (z := ((J 164 19) + k)) dX12_feed_106 a_173 rfl (by omega) (zand_rg _ _) ?_
                  refine tz_iinc (pc := 107) (z := k + 1) (L2 := [_, _, _, _, _, _, _, _]) dX12_feed_107 rfl (by omega) rfl ?_
                  refine tz_goto (pc := 110) (tgt := 23) dX12_feed_110 (by decide) ?_
                  exact ih23 (k + 1) _ _ (by omega) (by omega) (zOf.up rfl f1) (fdM (by omega) (by unfold fB wB; (repeat (first | rw [if_pos (by omega)] | rw [if_neg (by omega)]))) t1)
                · refine tz_iload (pc := 69) dX12_feed_69 rfl ?_
                  refine tz_goto (pc := 71) (tgt := 76) dX12_feed_71 (by decide) ?_
                  refine tz_istore (pc := 76) (L2 := [_, _, _, _, _, _, _, _]) dX12_feed_76 (by decide) rfl ?_
                  refine tz_aload_n (pc := 78) dX12_feed_78 rfl rfl ?_
                  refine tz_fR (pc := 79) dX12_feed_79 fl_X12_34 r_164_18 ?_
                  refine tz_aload_n (pc := 82) dX12_feed_82 rfl rfl ?_
                  refine tz_fI (pc := 83) (kz := 19) (v := (J 164 19)) dX12_feed_83 fl_X12_328 i_164_19 rfl (Eq.trans (congrFun (f1 164 rfl) 19) rfl) (fun r_83 => ?_)
                  refine tz_iload (pc := 86) dX12_feed_86 rfl ?_
                  refine tz_iadd (pc := 88) (v := (J 164 19) + k) dX12_feed_88 rfl ?_
                  refine tz_iload (pc := 89) dX12_feed_89 rfl ?_
                  refine tz_bipush (pc := 91) dX12_feed_91 (by decide) ?_
                  refine tz_bipush (pc := 93) dX12_feed_93 (by decide) ?_
                  refine tz_iload (pc := 95) dX12_feed_95 rfl ?_
                  refine tz_iconst (pc := 97) dX12_feed_97 ?_
                  refine tz_irem (pc := 98) (a := k) (b := 4) (v := (k % 4)) dX12_feed_98 (by omega) (by omega) rfl ?_
                  refine tz_imul (pc := 99) (v := 8 * (k % 4)) dX12_feed_99 rfl ?_
                  refine tz_isub (pc := 100) (v := 24 - (8 * (k % 4))) dX12_feed_100 rfl ?_
                  refine tz_ishr (pc := 101) (v := zshr d (24 - (8 * (k % 4)))) dX12_feed_101 rfl ?_
                  refine tz_sipush (pc := 102) dX12_feed_102 (by decide) ?_
                  refine tz_iand (pc := 105) (v := zand (zshr d (24 - (8 * (k % 4)))) 255) dX12_feed_105 rfl ?_
                  refine tz_aS (pc := 106) (z := ((J 164 19) + k)) dX12_feed_106 a_173 rfl (by omega) (zand_rg _ _) ?_
                  refine tz_iinc (pc := 107) (z := k + 1) (L2 := [_, _, _, _, _, _, _, _]) dX12_feed_107 rfl (by omega) rfl ?_
                  refine tz_goto (pc := 110) (tgt := 23) dX12_feed_110 (by decide) ?_
                  exact ih23 (k + 1) _ _ (by omega) (by omega) (zOf.up rfl f1) (fdM (by omega) (by unfold fB wB; (repeat (first | rw [if_pos (by omega)] | rw [if_neg (by omega)]))) t1)
              · refine tz_iload_n (pc := 58) dX12_feed_58 rfl rfl ?_
                refine tz_goto (pc := 59) (tgt := 76) dX12_feed_59 (by decide) ?_
                refine tz_istore (pc := 76) (L2 := [_, _, _, _, _, _, _, _]) dX12_feed_76 (by decide) rfl ?_
                refine tz_aload_n (pc := 78) dX12_feed_78 rfl rfl ?_
                refine tz_fR (pc := 79) dX12_feed_79 fl_X12_34 r_164_18 ?_
                refine tz_aload_n (pc := 82) dX12_feed_82 rfl rfl ?_
                refine tz_fI (pc := 83) (kz := 19) (v := (J 164 19)) dX12_feed_83 fl_X12_328 i_164_19 rfl (Eq.trans (congrFun (f1 164 rfl) 19) rfl) (fun r_83 => ?_)
                refine tz_iload (pc := 86) dX12_feed_86 rfl ?_
                refine tz_iadd (pc := 88) (v := (J 164 19) + k) dX12_feed_88 rfl ?_
                refine tz_iload (pc := 89) dX12_feed_89 rfl ?_
                refine tz_bipush (pc := 91) dX12_feed_91 (by decide) ?_
                refine tz_bipush (pc := 93) dX12_feed_93 (by decide) ?_
                refine tz_iload (pc := 95) dX12_feed_95 rfl ?_
                refine tz_iconst (pc := 97) dX12_feed_97 ?_
                refine tz_irem (pc := 98) (a := k) (b := 4) (v := (k % 4)) dX12_feed_98 (by omega) (by omega) rfl ?_
                refine tz_imul (pc := 99) (v := 8 * (k % 4)) dX12_feed_99 rfl ?_
                refine tz_isub (pc := 100) (v := 24 - (8 * (k % 4))) dX12_feed_100 rfl ?_
                refine tz_ishr (pc := 101) (v := zshr c (24 - (8 * (k % 4)))) dX12_feed_101 rfl ?_
                refine tz_sipush (pc := 102) dX12_feed_102 (by decide) ?_
                refine tz_iand (pc := 105) (v := zand (zshr c (24 - (8 * (k % 4)))) 255) dX12_feed_105 rfl ?_
                refine tz_aS (pc := 106) (z := ((J 164 19) + k)) dX12_feed_106 a_173 rfl (by omega) (zand_rg _ _) ?_
                refine tz_iinc (pc := 107) (z := k + 1) (L2 := [_, _, _, _, _, _, _, _]) dX12_feed_107 rfl (by omega) rfl ?_
                refine tz_goto (pc := 110) (tgt := 23) dX12_feed_110 (by decide) ?_
                exact ih23 (k + 1) _ _ (by omega) (by omega) (zOf.up rfl f1) (fdM (by omega) (by unfold fB wB; (repeat (first | rw [if_pos (by omega)] | rw [if_neg (by omega)]))) t1)
            · refine tz_iload_n (pc := 47) dX12_feed_47 rfl rfl ?_
              refine tz_goto (pc := 48) (tgt := 76) dX12_feed_48 (by decide) ?_
              refine tz_istore (pc := 76) (L2 := [_, _, _, _, _, _, _, _]) dX12_feed_76 (by decide) rfl ?_
              refine tz_aload_n (pc := 78) dX12_feed_78 rfl rfl ?_
              refine tz_fR (pc := 79) dX12_feed_79 fl_X12_34 r_164_18 ?_
              refine tz_aload_n (pc := 82) dX12_feed_82 rfl rfl ?_
              refine tz_fI (pc := 83) (kz := 19) (v := (J 164 19)) dX12_feed_83 fl_X12_328 i_164_19 rfl (Eq.trans (congrFun (f1 164 rfl) 19) rfl) (fun r_83 => ?_)
              refine tz_iload (pc := 86) dX12_feed_86 rfl ?_
              refine tz_iadd (pc := 88) (v := (J 164 19) + k) dX12_feed_88 rfl ?_
              refine tz_iload (pc := 89) dX12_feed_89 rfl ?_
              refine tz_bipush (pc := 91) dX12_feed_91 (by decide) ?_
              refine tz_bipush (pc := 93) dX12_feed_93 (by decide) ?_
              refine tz_iload (pc := 95) dX12_feed_95 rfl ?_
              refine tz_iconst (pc := 97) dX12_feed_97 ?_
              refine tz_irem (pc := 98) (a := k) (b := 4) (v := (k % 4)) dX12_feed_98 (by omega) (by omega) rfl ?_
              refine tz_imul (pc := 99) (v := 8 * (k % 4)) dX12_feed_99 rfl ?_
              refine tz_isub (pc := 100) (v := 24 - (8 * (k % 4))) dX12_feed_100 rfl ?_
              refine tz_ishr (pc := 101) (v := zshr b (24 - (8 * (k % 4)))) dX12_feed_101 rfl ?_
              refine tz_sipush (pc := 102) dX12_feed_102 (by decide) ?_
              refine tz_iand (pc := 105) (v := zand (zshr b (24 - (8 * (k % 4)))) 255) dX12_feed_105 rfl ?_
              refine tz_aS (pc := 106) (z := ((J 164 19) + k)) dX12_feed_106 a_173 rfl (by omega) (zand_rg _ _) ?_
              refine tz_iinc (pc := 107) (z := k + 1) (L2 := [_, _, _, _, _, _, _, _]) dX12_feed_107 rfl (by omega) rfl ?_
              refine tz_goto (pc := 110) (tgt := 23) dX12_feed_110 (by decide) ?_
              exact ih23 (k + 1) _ _ (by omega) (by omega) (zOf.up rfl f1) (fdM (by omega) (by unfold fB wB; (repeat (first | rw [if_pos (by omega)] | rw [if_neg (by omega)]))) t1)
          · refine tz_iload_n (pc := 36) dX12_feed_36 rfl rfl ?_
            refine tz_goto (pc := 37) (tgt := 76) dX12_feed_37 (by decide) ?_
            refine tz_istore (pc := 76) (L2 := [_, _, _, _, _, _, _, _]) dX12_feed_76 (by decide) rfl ?_
            refine tz_aload_n (pc := 78) dX12_feed_78 rfl rfl ?_
            refine tz_fR (pc := 79) dX12_feed_79 fl_X12_34 r_164_18 ?_
            refine tz_aload_n (pc := 82) dX12_feed_82 rfl rfl ?_
            refine tz_fI (pc := 83) (kz := 19) (v := (J 164 19)) dX12_feed_83 fl_X12_328 i_164_19 rfl (Eq.trans (congrFun (f1 164 rfl) 19) rfl) (fun r_83 => ?_)
            refine tz_iload (pc := 86) dX12_feed_86 rfl ?_
            refine tz_iadd (pc := 88) (v := (J 164 19) + k) dX12_feed_88 rfl ?_
            refine tz_iload (pc := 89) dX12_feed_89 rfl ?_
            refine tz_bipush (pc := 91) dX12_feed_91 (by decide) ?_
            refine tz_bipush (pc := 93) dX12_feed_93 (by decide) ?_
            refine tz_iload (pc := 95) dX12_feed_95 rfl ?_
            refine tz_iconst (pc := 97) dX12_feed_97 ?_
            refine tz_irem (pc := 98) (a := k) (b := 4) (v := (k % 4)) dX12_feed_98 (by omega) (by omega) rfl ?_
            refine tz_imul (pc := 99) (v := 8 * (k % 4)) dX12_feed_99 rfl ?_
            refine tz_isub (pc := 100) (v := 24 - (8 * (k % 4))) dX12_feed_100 rfl ?_
            refine tz_ishr (pc := 101) (v := zshr a (24 - (8 * (k % 4)))) dX12_feed_101 rfl ?_
            refine tz_sipush (pc := 102) dX12_feed_102 (by decide) ?_
            refine tz_iand (pc := 105) (v := zand (zshr a (24 - (8 * (k % 4)))) 255) dX12_feed_105 rfl ?_
            refine tz_aS (pc := 106) (z := ((J 164 19) + k)) dX12_feed_106 a_173 rfl (by omega) (zand_rg _ _) ?_
            refine tz_iinc (pc := 107) (z := k + 1) (L2 := [_, _, _, _, _, _, _, _]) dX12_feed_107 rfl (by omega) rfl ?_
            refine tz_goto (pc := 110) (tgt := 23) dX12_feed_110 (by decide) ?_
            exact ih23 (k + 1) _ _ (by omega) (by omega) (zOf.up rfl f1) (fdM (by omega) (by unfold fB wB; (repeat (first | rw [if_pos (by omega)] | rw [if_neg (by omega)]))) t1)
    exact loop23 _ 0 none _ (Nat.lt_succ_self _) (by omega) zOf.rf (fun x => (if_neg (by omega)).symm)
  · refine tz_iconst (pc := 18) dX12_feed_18 ?_
    exact tz_iret (pc := 19) (z := (-1)) dX12_feed_19 rfl (Nat.le_of_ble_eq_true rfl) (Nat.le_of_ble_eq_true rfl) ⟨Nat.le_refl _, Nat.le_add_right _ _⟩ ⟨_, rfl, (by decide), ⟨⟨m, hI.z (MZ.up (k := 8) MZ.rf (by decide))⟩, ⟨zOf.up rfl zOf.rf, fun k x y => zup_ne x⟩, Or.inl ⟨by omega, rfl, rfl, rfl⟩⟩⟩

set_option maxHeartbeats 4000000 in
set_option maxRecDepth 100000 in
theorem law_feed {l : Launch} {G : tb_G} {Lx : Nat} {xs : Nat → Int32} {k1 k2 n : Nat} {J : zJ} (hl : l.stackTraces = false) (i : Int) (hi : 0 ≤ i ∧ i + 6 ≤ (Lx : Int)) (hx : Lx ≤ 3072) (d5 d6 : Option Value) (h : LVr J n k1 k2 i) (nx : ∀ (k1 k2 n : Nat) (J : zJ) (d5 d6 : Option Value), LVr J n k1 k2 (i + 6) → tz_At l G M_L_law room_1 (some (Lx, xs)) tb_LZ k1 k2 n J 1330 [some (.ref tb_sc), some (.ref 0), some (.ref 164), some (.ref 183), some (zi i), d5, d6] []) : tz_At l G M_L_law room_1 (some (Lx, xs)) tb_LZ k1 k2 n J 188 [some (.ref tb_sc), some (.ref 0), some (.ref 164), some (.ref 183), some (zi i), d5, d6] [] := by
  obtain ⟨h, hrv⟩ := h
  obtain ⟨⟨m, hC⟩, ⟨m2, hM⟩, h3, h4, h5, ⟨h6, h7⟩, pn, RR, hcc, huu, him⟩ := id h
  have h9 : J 145 10 < 1000000000 := by omega
  have hnb : n ≤ tb_sc := by show n ≤ 1000000; omega
  refine tz_aload_n (pc := 188) dL_law_188 rfl rfl ?_
  refine tz_aload_n (pc := 189) dL_law_189 rfl rfl ?_
  refine tz_iload (pc := 190) dL_law_190 rfl ?_
  refine tz_iconst (pc := 192) dL_law_192 ?_
  refine tz_iadd (pc := 193) (v := i + 1) dL_law_193 rfl ?_
  refine tz_sld (pc := 194) (z := (i + 1)) rfl dL_law_194 (by omega) (by omega) (fun r_194 => ?_)
  refine tz_aload_n (pc := 195) dL_law_195 rfl rfl ?_
  refine tz_iload (pc := 196) dL_law_196 rfl ?_
  refine tz_iconst (pc := 198) dL_law_198 ?_
  refine tz_iadd (pc := 199) (v := i + 2) dL_law_199 rfl ?_
  refine tz_sld (pc := 200) (z := (i + 2)) rfl dL_law_200 (by omega) (by omega) (fun r_200 => ?_)
  refine tz_aload_n (pc := 201) dL_law_201 rfl rfl ?_
  refine tz_iload (pc := 202) dL_law_202 rfl ?_
  refine tz_iconst (pc := 204) dL_law_204 ?_
  refine tz_iadd (pc := 205) (v := i + 3) dL_law_205 rfl ?_
  refine tz_sld (pc := 206) (z := (i + 3)) rfl dL_law_206 (by omega) (by omega) (fun r_206 => ?_)
  refine tz_aload_n (pc := 207) dL_law_207 rfl rfl ?_
  refine tz_iload (pc := 208) dL_law_208 rfl ?_
  refine tz_iconst (pc := 210) dL_law_210 ?_
  refine tz_iadd (pc := 211) (v := i + 4) dL_law_211 rfl ?_
  refine tz_sld (pc := 212) (z := (i + 4)) rfl dL_law_212 (by omega) (by omega) (fun r_212 => ?_)
  refine tz_aload_n (pc := 213) dL_law_213 rfl rfl ?_
  refine tz_iload (pc := 214) dL_law_214 rfl ?_
  refine tz_iconst (pc := 216) dL_law_216 ?_
  refine tz_iadd (pc := 217) (v := i + 5) dL_law_217 rfl ?_
  refine tz_sld (pc := 218) (z := (i + 5)) rfl dL_law_218 (by omega) (by omega) (fun r_218 => ?_)
  refine tz_cV (pc := 219) (v_feedC hl _ _ _ _ _ _ _ (z_rg _) (z_rg _) (z_rg _) (z_rg _) (z_rg _) m hC h9) vl_L_59 dL_law_219 o_0 rfl rfl (Nat.le_of_ble_eq_true rfl) ⟨(Nat.le_of_ble_eq_true rfl), (Nat.le_of_ble_eq_true rfl)⟩ rfl rfl (show k1 ≤ 601024 by omega) (show k2 ≤ 7293034 by omega) (fun r9 J_219 hq9 => ?_)
  obtain ⟨z_219, rfl, hz_219, x_219⟩ := hq9
  have hM2 := hM.mid (fun c x y => x_219.2.2.1 c (by simp [zbut]; omega))
  refine tz_pop (pc := 222) dL_law_222 rfl ?_
  refine tz_aload_n (pc := 223) dL_law_223 rfl rfl ?_
  refine tz_aload_n (pc := 224) dL_law_224 rfl rfl ?_
  refine tz_iload (pc := 225) dL_law_225 rfl ?_
  refine tz_iconst (pc := 227) dL_law_227 ?_
  refine tz_iadd (pc := 228) (v := i + 1) dL_law_228 rfl ?_
  refine tz_sld (pc := 229) (z := (i + 1)) rfl dL_law_229 (by omega) (by omega) (fun r_229 => ?_)
  refine tz_aload_n (pc := 230) dL_law_230 rfl rfl ?_
  refine tz_iload (pc := 231) dL_law_231 rfl ?_
  refine tz_iconst (pc := 233) dL_law_233 ?_
  refine tz_iadd (pc := 234) (v := i + 2) dL_law_234 rfl ?_
  refine tz_sld (pc := 235) (z := (i + 2)) rfl dL_law_235 (by omega) (by omega) (fun r_235 => ?_)
  refine tz_aload_n (pc := 236) dL_law_236 rfl rfl ?_
  refine tz_iload (pc := 237) dL_law_237 rfl ?_
  refine tz_iconst (pc := 239) dL_law_239 ?_
  refine tz_iadd (pc := 240) (v := i + 3) dL_law_240 rfl ?_
  refine tz_sld (pc := 241) (z := (i + 3)) rfl dL_law_241 (by omega) (by omega) (fun r_241 => ?_)
  refine tz_aload_n (pc := 242) dL_law_242 rfl rfl ?_
  refine tz_iload (pc := 243) dL_law_243 rfl ?_
  refine tz_iconst (pc := 245) dL_law_245 ?_
  refine tz_iadd (pc := 246) (v := i + 4) dL_law_246 rfl ?_
  refine tz_sld (pc := 247) (z := (i + 4)) rfl dL_law_247 (by omega) (by omega) (fun r_247 => ?_)
  refine tz_aload_n (pc := 248) dL_law_248 rfl rfl ?_
  refine tz_iload (pc := 249) dL_law_249 rfl ?_
  refine tz_iconst (pc := 251) dL_law_251 ?_
  refine tz_iadd (pc := 252) (v := i + 5) dL_law_252 rfl ?_
  refine tz_sld (pc := 253) (z := (i + 5)) rfl dL_law_253 (by omega) (by omega) (fun r_253 => ?_)
  refine tz_cV (pc := 254) (v_qfeedC hl _ _ _ _ _ _ _ (z_rg _) (z_rg _) (z_rg _) (z_rg _) (z_rg _) m2 hM2) vl_L_63 dL_law_254 o_164 rfl rfl (Nat.le_of_ble_eq_true rfl) ⟨(Nat.le_of_ble_eq_true rfl), (Nat.le_of_ble_eq_true rfl)⟩ rfl rfl (show k1 ≤ 601024 by omega) (show k2 ≤ 7293034 by omega) (fun r9 J_254 hq9 => ?_)
  obtain ⟨z_254, rfl, hz_254, y_254⟩ := hq9
  obtain ⟨ez9, lv9⟩ := LV.f h x_219 y_254
  refine tz_pop (pc := 257) dL_law_257 rfl ?_
  refine tz_goto (pc := 258) (tgt := 1330) dL_law_258 (by decide) ?_
  exact nx _ _ _ _ _ _ ⟨lv9, (RVX.lo (⟨hrv.1.of (fun c a b => x_219.2.2.1 c (by simp [zbut]; omega)), hrv.2.of (fun c a b => x_219.2.2.1 c (by simp [zbut]; omega)) x_219.2.2.2.1.2⟩) (fun c hc => y_254.2.1.1 c (by simp [zbut]; omega)))⟩

set_option maxHeartbeats 4000000 in
set_option maxRecDepth 100000 in
theorem law_bank {l : Launch} {G : tb_G} {Lx : Nat} {xs : Nat → Int32} {k1 k2 n : Nat} {J : zJ} (hl : l.stackTraces = false) (i : Int) (hi : 0 ≤ i ∧ i + 6 ≤ (Lx : Int)) (hx : Lx ≤ 3072) (d5 d6 : Option Value) (h : LVr J n k1 k2 i) (nx : ∀ (k1 k2 n : Nat) (J : zJ) (d5 d6 : Option Value), LVr J n k1 k2 (i + 6) → tz_At l G M_L_law room_1 (some (Lx, xs)) tb_LZ k1 k2 n J 1330 [some (.ref tb_sc), some (.ref 0), some (.ref 164), some (.ref 183), some (zi i), d5, d6] []) : tz_At l G M_L_law room_1 (some (Lx, xs)) tb_LZ k1 k2 n J 261 [some (.ref tb_sc), some (.ref 0), some (.ref 164), some (.ref 183), some (zi i), d5, d6] [] := by
  obtain ⟨h, hrv⟩ := h
  obtain ⟨⟨m, hC⟩, ⟨m2, hM⟩, h3, h4, h5, ⟨h6, h7⟩, pn, RR, hcc, huu, him⟩ := id h
  have h9 : J 145 10 < 1000000000 := by omega
  have hnb : n ≤ tb_sc := by show n ≤ 1000000; omega
  refine tz_aload_n (pc := 261) dL_law_261 rfl rfl ?_
  refine tz_aload_n (pc := 262) dL_law_262 rfl rfl ?_
  refine tz_iload (pc := 263) dL_law_263 rfl ?_
  refine tz_iconst (pc := 265) dL_law_265 ?_
  refine tz_iadd (pc := 266) (v := i + 1) dL_law_266 rfl ?_
  refine tz_sld (pc := 267) (z := (i + 1)) rfl dL_law_267 (by omega) (by omega) (fun r_267 => ?_)
  refine tz_aload_n (pc := 268) dL_law_268 rfl rfl ?_
  refine tz_cH (pc := 269) (nA := 3) (lw_bank hl _ _ _ (z_rg _) m pn RR hnb hC h9 hcc h3.2.1) ml_L_64 ms_L_bank ch_L_bank wk_ini_L (by decide +kernel) dL_law_269 rfl rfl (Nat.le_of_ble_eq_true rfl) ⟨(Nat.le_of_ble_eq_true rfl), (Nat.le_of_ble_eq_true rfl)⟩ rfl rfl (show k1 + 1 ≤ 601024 by omega) (show k2 + 6 ≤ 7293034 by omega) (fun r9 n_269 J_269 hn1_269 hn2_269 hq9 => ?_)
  obtain ⟨z_269, rfl, hz_269, cw_269⟩ := hq9
  have fh9 : ∀ c, 164 ≤ c → c < 183 → J_269 c = J c := fun c x y => cw_269.2.2.1 c (Or.inr ⟨x, y⟩)
  have hM2 := hM.mid fh9
  have hu2 := huu.mid fh9
  refine tz_istore (pc := 272) (L2 := [_, _, _, _, _, _, _]) dL_law_272 (by decide) rfl ?_
  refine tz_aload_n (pc := 274) dL_law_274 rfl rfl ?_
  refine tz_aload_n (pc := 275) dL_law_275 rfl rfl ?_
  refine tz_iload (pc := 276) dL_law_276 rfl ?_
  refine tz_iconst (pc := 278) dL_law_278 ?_
  refine tz_iadd (pc := 279) (v := i + 1) dL_law_279 rfl ?_
  refine tz_sld (pc := 280) (z := (i + 1)) rfl dL_law_280 (by omega) (by omega) (fun r_280 => ?_)
  refine tz_cV (pc := 281) (v_qbankC hl _ _ _ (z_rg _) m2 pn RR hM2 hu2) vl_L_69 dL_law_281 o_164 rfl rfl (Nat.le_of_ble_eq_true rfl) ⟨(Nat.le_of_ble_eq_true rfl), (Nat.le_of_ble_eq_true rfl)⟩ rfl rfl (show k1 + 1 ≤ 601024 by omega) (show k2 + 6 ≤ 7293034 by omega) (fun r9 J_281 hq9 => ?_)
  obtain ⟨z_281, rfl, hz_281, y_281⟩ := hq9
  obtain ⟨lv9, et9, eo9⟩ := LV.b (n' := n_269) (k1' := k1 + 1) (k2' := k2 + 6) h ⟨m2, hM⟩ him cw_269 y_281 ⟨by omega, by omega⟩ (by omega) (by omega)
  refine tz_istore (pc := 284) (L2 := [_, _, _, _, _, _, _]) dL_law_284 (by decide) rfl ?_
  refine tz_goto (pc := 286) (tgt := 1330) dL_law_286 (by decide) ?_
  exact nx _ _ _ _ _ _ ⟨lv9, (RVX.lo (rv_bank hcc hC hrv cw_269 h3.1 (fun a b => (y_281.2.2 a b).2)) (fun c hc => y_281.1.2.1 c (Or.inl hc)))⟩

set_option maxHeartbeats 4000000 in
set_option maxRecDepth 100000 in
theorem law_fault {l : Launch} {G : tb_G} {Lx : Nat} {xs : Nat → Int32} {k1 k2 n : Nat} {J : zJ} (hl : l.stackTraces = false) (i : Int) (hi : 0 ≤ i ∧ i + 6 ≤ (Lx : Int)) (hx : Lx ≤ 3072) (d5 d6 : Option Value) (h : LVr J n k1 k2 i) (nx : ∀ (k1 k2 n : Nat) (J : zJ) (d5 d6 : Option Value), LVr J n k1 k2 (i + 6) → tz_At l G M_L_law room_1 (some (Lx, xs)) tb_LZ k1 k2 n J 1330 [some (.ref tb_sc), some (.ref 0), some (.ref 164), some (.ref 183), some (zi i), d5, d6] []) : tz_At l G M_L_law room_1 (some (Lx, xs)) tb_LZ k1 k2 n J 289 [some (.ref tb_sc), some (.ref 0), some (.ref 164), some (.ref 183), some (zi i), d5, d6] [] := by
  obtain ⟨h, hrv⟩ := h
  obtain ⟨⟨m, hC⟩, ⟨m2, hM⟩, h3, h4, h5, ⟨h6, h7⟩, pn, RR, hcc, huu, him⟩ := id h
  have h9 : J 145 10 < 1000000000 := by omega
  have hnb : n ≤ tb_sc := by show n ≤ 1000000; omega
  refine tz_aload_n (pc := 289) dL_law_289 rfl rfl ?_
  refine tz_cV (pc := 290) (l_fault hl _ _   m (tbz J) pn RR hC h9 hcc rfl) vl_L_70 dL_law_290 o_0 rfl rfl (Nat.le_of_ble_eq_true rfl) ⟨(Nat.le_of_ble_eq_true rfl), (Nat.le_of_ble_eq_true rfl)⟩ rfl rfl (show k1 ≤ 601024 by omega) (show k2 ≤ 7293034 by omega) (fun r9 J_290 hq9 => ?_)
  obtain ⟨z_290, rfl, hz_290, x_290⟩ := hq9
  have cw_290 : CW J_290 J := CW.c x_290.1
  have fh9 : ∀ c, 164 ≤ c → c < 183 → J_290 c = J c := fun c x y => cw_290.2.2.2 c (Or.inr (Or.inr ⟨x, y⟩))
  have hM2 := hM.mid fh9
  have hu2 := huu.mid fh9
  refine tz_pop (pc := 293) dL_law_293 rfl ?_
  refine tz_aload_n (pc := 294) dL_law_294 rfl rfl ?_
  refine tz_cV (pc := 295) (k_fault hl _ _   m2 pn RR hM2 hu2) vl_L_74 dL_law_295 o_164 rfl rfl (Nat.le_of_ble_eq_true rfl) ⟨(Nat.le_of_ble_eq_true rfl), (Nat.le_of_ble_eq_true rfl)⟩ rfl rfl (show k1 ≤ 601024 by omega) (show k2 ≤ 7293034 by omega) (fun r9 J_295 hq9 => ?_)
  obtain ⟨z_295, rfl, hz_295, y_295⟩ := hq9
  have bo9 := bo_q fh9 x_290.2.1 ⟨y_295.2.2.1, y_295.2.2.2.1⟩
  have ez9 : z_290 = z_295 := (x_290.2.2.symm).trans (h3.2.2.2.trans ((congrFun (fh9 164 (by decide) (by decide)) 20).symm.trans y_295.2.2.2.2))
  refine tz_pop (pc := 298) dL_law_298 rfl ?_
  refine tz_goto (pc := 299) (tgt := 1330) dL_law_299 (by decide) ?_
  exact nx _ _ _ _ _ _ ⟨(LV.q h cw_290 y_295.1 y_295.2.1 bo9 ⟨by omega, by omega⟩ (by omega) (by omega)), (RVX.lo (⟨cw_290.1.elim (fun m1 h1 => rv_eq hcc hC h1 x_290.2.1 hrv.1), hrv.2.of (fun c a b => cw_290.2.2.2 c (Or.inl ⟨a, b⟩)) cw_290.2.2.1.2.1⟩) (fun c hc => y_295.1.2.1 c (Or.inl hc)))⟩

set_option maxHeartbeats 4000000 in
set_option maxRecDepth 100000 in
theorem law_count {l : Launch} {G : tb_G} {Lx : Nat} {xs : Nat → Int32} {k1 k2 n : Nat} {J : zJ} (hl : l.stackTraces = false) (i : Int) (hi : 0 ≤ i ∧ i + 6 ≤ (Lx : Int)) (hx : Lx ≤ 3072) (d5 d6 : Option Value) (h : LVr J n k1 k2 i) (nx : ∀ (k1 k2 n : Nat) (J : zJ) (d5 d6 : Option Value), LVr J n k1 k2 (i + 6) → tz_At l G M_L_law room_1 (some (Lx, xs)) tb_LZ k1 k2 n J 1330 [some (.ref tb_sc), some (.ref 0), some (.ref 164), some (.ref 183), some (zi i), d5, d6] []) : tz_At l G M_L_law room_1 (some (Lx, xs)) tb_LZ k1 k2 n J 302 [some (.ref tb_sc), some (.ref 0), some (.ref 164), some (.ref 183), some (zi i), d5, d6] [] := by
  obtain ⟨h, hrv⟩ := h
  obtain ⟨⟨m, hC⟩, ⟨m2, hM⟩, h3, h4, h5, ⟨h6, h7⟩, pn, RR, hcc, huu, him⟩ := id h
  have h9 : J 145 10 < 1000000000 := by omega
  have hnb : n ≤ tb_sc := by show n ≤ 1000000; omega
  refine tz_aload_n (pc := 302) dL_law_302 rfl rfl ?_
  refine tz_aload_n (pc := 303) dL_law_303 rfl rfl ?_
  refine tz_iload (pc := 304) dL_law_304 rfl ?_
  refine tz_iconst (pc := 306) dL_law_306 ?_
  refine tz_iadd (pc := 307) (v := i + 1) dL_law_307 rfl ?_
  refine tz_sld (pc := 308) (z := (i + 1)) rfl dL_law_308 (by omega) (by omega) (fun r_308 => ?_)
  refine tz_aload_n (pc := 309) dL_law_309 rfl rfl ?_
  refine tz_cH (pc := 310) (nA := 3) (lw_count hl _ _ _ (z_rg _) m pn RR hC h9 hcc) ml_L_75 ms_L_count ch_L_count wk_ini_L (by decide +kernel) dL_law_310 rfl rfl (Nat.le_of_ble_eq_true rfl) ⟨(Nat.le_of_ble_eq_true rfl), (Nat.le_of_ble_eq_true rfl)⟩ rfl rfl (show k1 + 1 ≤ 601024 by omega) (show k2 + 6 ≤ 7293034 by omega) (fun r9 n_310 J_310 hn1_310 hn2_310 hq9 => ?_)
  obtain ⟨z_310, rfl, hz_310, cw_310, cc_310⟩ := hq9
  have fh9 : ∀ c, 164 ≤ c → c < 183 → J_310 c = J c := fun c x y => cw_310.2.2.2 c (Or.inr (Or.inr ⟨x, y⟩))
  have hM2 := hM.mid fh9
  have hu2 := huu.mid fh9
  refine tz_istore (pc := 313) (L2 := [_, _, _, _, _, _, _]) dL_law_313 (by decide) rfl ?_
  refine tz_aload_n (pc := 315) dL_law_315 rfl rfl ?_
  refine tz_aload_n (pc := 316) dL_law_316 rfl rfl ?_
  refine tz_iload (pc := 317) dL_law_317 rfl ?_
  refine tz_iconst (pc := 319) dL_law_319 ?_
  refine tz_iadd (pc := 320) (v := i + 1) dL_law_320 rfl ?_
  refine tz_sld (pc := 321) (z := (i + 1)) rfl dL_law_321 (by omega) (by omega) (fun r_321 => ?_)
  refine tz_cV (pc := 322) (k_count hl _ _ _ (z_rg _) m2 pn RR hM2 hu2) vl_L_77 dL_law_322 o_164 rfl rfl (Nat.le_of_ble_eq_true rfl) ⟨(Nat.le_of_ble_eq_true rfl), (Nat.le_of_ble_eq_true rfl)⟩ rfl rfl (show k1 + 1 ≤ 601024 by omega) (show k2 + 6 ≤ 7293034 by omega) (fun r9 J_322 hq9 => ?_)
  obtain ⟨z_322, rfl, hz_322, y_322⟩ := hq9
  have bo9 := bo_q fh9 cc_310 y_322.2.2
  refine tz_istore (pc := 325) (L2 := [_, _, _, _, _, _, _]) dL_law_325 (by decide) rfl ?_
  refine tz_goto (pc := 327) (tgt := 1330) dL_law_327 (by decide) ?_
  exact nx _ _ _ _ _ _ ⟨(LV.q h cw_310 y_322.1 y_322.2.1 bo9 ⟨by omega, by omega⟩ (by omega) (by omega)), (RVX.lo (⟨cw_310.1.elim (fun m1 h1 => rv_eq hcc hC h1 cc_310 hrv.1), hrv.2.of (fun c a b => cw_310.2.2.2 c (Or.inl ⟨a, b⟩)) cw_310.2.2.1.2.1⟩) (fun c hc => y_322.1.2.1 c (Or.inl hc)))⟩

set_option maxHeartbeats 4000000 in
set_option maxRecDepth 100000 in
theorem law_symbol {l : Launch} {G : tb_G} {Lx : Nat} {xs : Nat → Int32} {k1 k2 n : Nat} {J : zJ} (hl : l.stackTraces = false) (i : Int) (hi : 0 ≤ i ∧ i + 6 ≤ (Lx : Int)) (hx : Lx ≤ 3072) (d5 d6 : Option Value) (h : LVr J n k1 k2 i) (nx : ∀ (k1 k2 n : Nat) (J : zJ) (d5 d6 : Option Value), LVr J n k1 k2 (i + 6) → tz_At l G M_L_law room_1 (some (Lx, xs)) tb_LZ k1 k2 n J 1330 [some (.ref tb_sc), some (.ref 0), some (.ref 164), some (.ref 183), some (zi i), d5, d6] []) : tz_At l G M_L_law room_1 (some (Lx, xs)) tb_LZ k1 k2 n J 330 [some (.ref tb_sc), some (.ref 0), some (.ref 164), some (.ref 183), some (zi i), d5, d6] [] := by
  obtain ⟨h, hrv⟩ := h
  obtain ⟨⟨m, hC⟩, ⟨m2, hM⟩, h3, h4, h5, ⟨h6, h7⟩, pn, RR, hcc, huu, him⟩ := id h
  have h9 : J 145 10 < 1000000000 := by omega
  have hnb : n ≤ tb_sc := by show n ≤ 1000000; omega
  refine tz_aload_n (pc := 330) dL_law_330 rfl rfl ?_
  refine tz_aload_n (pc := 331) dL_law_331 rfl rfl ?_
  refine tz_iload (pc := 332) dL_law_332 rfl ?_
  refine tz_iconst (pc := 334) dL_law_334 ?_
  refine tz_iadd (pc := 335) (v := i + 1) dL_law_335 rfl ?_
  refine tz_sld (pc := 336) (z := (i + 1)) rfl dL_law_336 (by omega) (by omega) (fun r_336 => ?_)
  refine tz_aload_n (pc := 337) dL_law_337 rfl rfl ?_
  refine tz_iload (pc := 338) dL_law_338 rfl ?_
  refine tz_iconst (pc := 340) dL_law_340 ?_
  refine tz_iadd (pc := 341) (v := i + 2) dL_law_341 rfl ?_
  refine tz_sld (pc := 342) (z := (i + 2)) rfl dL_law_342 (by omega) (by omega) (fun r_342 => ?_)
  refine tz_aload_n (pc := 343) dL_law_343 rfl rfl ?_
  refine tz_cH (pc := 344) (nA := 4) (lw_symbol hl _ _ _ _ (z_rg _) (z_rg _) m pn RR hC h9 hcc) ml_L_78 ms_L_symbol ch_L_symbol wk_ini_L (by decide +kernel) dL_law_344 rfl rfl (Nat.le_of_ble_eq_true rfl) ⟨(Nat.le_of_ble_eq_true rfl), (Nat.le_of_ble_eq_true rfl)⟩ rfl rfl (show k1 + 1 ≤ 601024 by omega) (show k2 + 6 ≤ 7293034 by omega) (fun r9 n_344 J_344 hn1_344 hn2_344 hq9 => ?_)
  obtain ⟨z_344, rfl, hz_344, cw_344, cc_344, ca_344⟩ := hq9
  have fh9 : ∀ c, 164 ≤ c → c < 183 → J_344 c = J c := fun c x y => cw_344.2.2.2 c (Or.inr (Or.inr ⟨x, y⟩))
  have hM2 := hM.mid fh9
  have hu2 := huu.mid fh9
  refine tz_istore (pc := 347) (L2 := [_, _, _, _, _, _, _]) dL_law_347 (by decide) rfl ?_
  refine tz_aload_n (pc := 349) dL_law_349 rfl rfl ?_
  refine tz_aload_n (pc := 350) dL_law_350 rfl rfl ?_
  refine tz_iload (pc := 351) dL_law_351 rfl ?_
  refine tz_iconst (pc := 353) dL_law_353 ?_
  refine tz_iadd (pc := 354) (v := i + 1) dL_law_354 rfl ?_
  refine tz_sld (pc := 355) (z := (i + 1)) rfl dL_law_355 (by omega) (by omega) (fun r_355 => ?_)
  refine tz_aload_n (pc := 356) dL_law_356 rfl rfl ?_
  refine tz_iload (pc := 357) dL_law_357 rfl ?_
  refine tz_iconst (pc := 359) dL_law_359 ?_
  refine tz_iadd (pc := 360) (v := i + 2) dL_law_360 rfl ?_
  refine tz_sld (pc := 361) (z := (i + 2)) rfl dL_law_361 (by omega) (by omega) (fun r_361 => ?_)
  refine tz_cV (pc := 362) (e_qsymbol hl _ _ _ _ (z_rg _) (z_rg _) m2 pn RR hM2 hu2 (fun k x y => by rw [fh9 164 (by decide) (by decide)] at y; rw [fh9 171 (by decide) (by decide)]; exact al_w hcc hC k x y)) vl_L_81 dL_law_362 o_164 rfl rfl (Nat.le_of_ble_eq_true rfl) ⟨(Nat.le_of_ble_eq_true rfl), (Nat.le_of_ble_eq_true rfl)⟩ rfl rfl (show k1 + 1 ≤ 601024 by omega) (show k2 + 6 ≤ 7293034 by omega) (fun r9 J_362 hq9 => ?_)
  obtain ⟨z_362, rfl, hz_362, y_362⟩ := hq9
  have bo9 := bo_q fh9 cc_344 ⟨y_362.2.2.1, y_362.2.2.2.1⟩
  have aq9 := ask_eqR (P := fun p9 => (((_ : Int) = 0 → p9 = J 2 (_ : Int)) ∧ ((_ : Int) = 1 → p9 = J 3 (_ : Int)) ∧ ((_ : Int) = 2 → p9 = J 4 (_ : Int)) ∧ ((_ : Int) = 3 → p9 = nfc (TFB J (_ : Int)) 9) ∧ ((_ : Int) = 4 → p9 = lfc (TFB J (_ : Int)) 9))) (Q := fun p9 => (((_ : Int) = 0 → p9 = J_344 169 (_ : Int)) ∧ ((_ : Int) = 1 → p9 = J_344 170 (_ : Int)) ∧ ((_ : Int) = 2 → p9 = J_344 171 (_ : Int)) ∧ ((_ : Int) = 3 → p9 = nfc (MFB J_344 0 0 (_ : Int)) 9) ∧ ((_ : Int) = 4 → p9 = lfc (MFB J_344 0 0 (_ : Int)) 9))) (ask_symbol hcc hC hrv.1 fh9).1 (ask_symbol hcc hC hrv.1 fh9).2 ca_344 y_362.2.2.2.2.2
  have et9 := aq9.1
  have eo9 : z_344 = 0 → J_362 183 0 = z_362 := fun q9 => (congrFun y_362.2.2.2.2.1 0).trans (aq9.2 q9)
  refine tz_istore (pc := 365) (L2 := [_, _, _, _, _, _, _]) dL_law_365 (by decide) rfl ?_
  refine tz_aload_n (pc := 367) dL_law_367 rfl rfl ?_
  refine tz_cV (pc := 368) (x_thrown hl _ _) vl_L_82 dL_law_368 o_164 rfl rfl (Nat.le_of_ble_eq_true rfl) ⟨(Nat.le_of_ble_eq_true rfl), (Nat.le_of_ble_eq_true rfl)⟩ rfl rfl (show k1 + 1 ≤ 601024 by omega) (show k2 + 6 ≤ 7293034 by omega) (fun r9 J_368 hq9 => ?_)
  obtain ⟨z_368, rfl, hz_368, rfl, rfl⟩ := hq9
  refine tz_iload (pc := 371) dL_law_371 rfl ?_
  refine tz_icmp_eqT (pc := 373) (tgt := 378) et9 dL_law_373 (by decide) (by omega) hz_344 ?_
  refine tz_iload (pc := 378) dL_law_378 rfl ?_
  refine tz_if_ne (pc := 380) (tgt := 395) dL_law_380 (by decide) (by omega) (fun h_380 => ?_) (fun h_380 => ?_)
  · refine tz_goto (pc := 395) (tgt := 1330) dL_law_395 (by decide) ?_
    exact nx _ _ _ _ _ _ ⟨(LV.q h cw_344 y_362.1 y_362.2.1 bo9 ⟨by omega, by omega⟩ (by omega) (by omega)), (RVX.lo (⟨cw_344.1.elim (fun m1 h1 => rv_eq hcc hC h1 cc_344 hrv.1), hrv.2.of (fun c a b => cw_344.2.2.2 c (Or.inl ⟨a, b⟩)) cw_344.2.2.1.2.1⟩) (fun c hc => y_362.1.2.1 c (Or.inl hc)))⟩
  · refine tz_aload_n (pc := 383) dL_law_383 rfl rfl ?_
    refine tz_iconst (pc := 384) dL_law_384 ?_
    refine tz_lald (pc := 385) (z := 0) (v := _) dL_law_385 l_183 rfl (by decide) (eo9 (by omega)) (fun r_385 => ?_)
    refine tz_iload (pc := 386) dL_law_386 rfl ?_
    refine tz_i2l (pc := 388) dL_law_388 ?_
    refine tz_lcmp (pc := 389) (v := 0) dL_law_389 hz_362 hz_362 (by simp) ?_
    refine tz_if_eqT (pc := 390) (tgt := 395) (by decide) dL_law_390 (by decide) (by decide) ?_
    refine tz_goto (pc := 395) (tgt := 1330) dL_law_395 (by decide) ?_
    exact nx _ _ _ _ _ _ ⟨(LV.q h cw_344 y_362.1 y_362.2.1 bo9 ⟨by omega, by omega⟩ (by omega) (by omega)), (RVX.lo (⟨cw_344.1.elim (fun m1 h1 => rv_eq hcc hC h1 cc_344 hrv.1), hrv.2.of (fun c a b => cw_344.2.2.2 c (Or.inl ⟨a, b⟩)) cw_344.2.2.1.2.1⟩) (fun c hc => y_362.1.2.1 c (Or.inl hc)))⟩

set_option maxHeartbeats 4000000 in
set_option maxRecDepth 100000 in
theorem law_term {l : Launch} {G : tb_G} {Lx : Nat} {xs : Nat → Int32} {k1 k2 n : Nat} {J : zJ} (hl : l.stackTraces = false) (i : Int) (hi : 0 ≤ i ∧ i + 6 ≤ (Lx : Int)) (hx : Lx ≤ 3072) (d5 d6 : Option Value) (h : LVr J n k1 k2 i) (nx : ∀ (k1 k2 n : Nat) (J : zJ) (d5 d6 : Option Value), LVr J n k1 k2 (i + 6) → tz_At l G M_L_law room_1 (some (Lx, xs)) tb_LZ k1 k2 n J 1330 [some (.ref tb_sc), some (.ref 0), some (.ref 164), some (.ref 183), some (zi i), d5, d6] []) : tz_At l G M_L_law room_1 (some (Lx, xs)) tb_LZ k1 k2 n J 398 [some (.ref tb_sc), some (.ref 0), some (.ref 164), some (.ref 183), some (zi i), d5, d6] [] := by
  obtain ⟨h, hrv⟩ := h
  obtain ⟨⟨m, hC⟩, ⟨m2, hM⟩, h3, h4, h5, ⟨h6, h7⟩, pn, RR, hcc, huu, him⟩ := id h
  have h9 : J 145 10 < 1000000000 := by omega
  have hnb : n ≤ tb_sc := by show n ≤ 1000000; omega
  refine tz_aload_n (pc := 398) dL_law_398 rfl rfl ?_
  refine tz_aload_n (pc := 399) dL_law_399 rfl rfl ?_
  refine tz_iload (pc := 400) dL_law_400 rfl ?_
  refine tz_iconst (pc := 402) dL_law_402 ?_
  refine tz_iadd (pc := 403) (v := i + 1) dL_law_403 rfl ?_
  refine tz_sld (pc := 404) (z := (i + 1)) rfl dL_law_404 (by omega) (by omega) (fun r_404 => ?_)
  refine tz_aload_n (pc := 405) dL_law_405 rfl rfl ?_
  refine tz_iload (pc := 406) dL_law_406 rfl ?_
  refine tz_iconst (pc := 408) dL_law_408 ?_
  refine tz_iadd (pc := 409) (v := i + 2) dL_law_409 rfl ?_
  refine tz_sld (pc := 410) (z := (i + 2)) rfl dL_law_410 (by omega) (by omega) (fun r_410 => ?_)
  refine tz_aload_n (pc := 411) dL_law_411 rfl rfl ?_
  refine tz_cH (pc := 412) (nA := 4) (lw_term hl _ _ _ _ (z_rg _) (z_rg _) m pn RR hC h9 hcc) ml_L_85 ms_L_term ch_L_term wk_ini_L (by decide +kernel) dL_law_412 rfl rfl (Nat.le_of_ble_eq_true rfl) ⟨(Nat.le_of_ble_eq_true rfl), (Nat.le_of_ble_eq_true rfl)⟩ rfl rfl (show k1 + 1 ≤ 601024 by omega) (show k2 + 6 ≤ 7293034 by omega) (fun r9 n_412 J_412 hn1_412 hn2_412 hq9 => ?_)
  obtain ⟨z_412, rfl, hz_412, cw_412, cc_412⟩ := hq9
  have fh9 : ∀ c, 164 ≤ c → c < 183 → J_412 c = J c := fun c x y => cw_412.2.2.2 c (Or.inr (Or.inr ⟨x, y⟩))
  have hM2 := hM.mid fh9
  have hu2 := huu.mid fh9
  refine tz_istore (pc := 415) (L2 := [_, _, _, _, _, _, _]) dL_law_415 (by decide) rfl ?_
  refine tz_aload_n (pc := 417) dL_law_417 rfl rfl ?_
  refine tz_aload_n (pc := 418) dL_law_418 rfl rfl ?_
  refine tz_iload (pc := 419) dL_law_419 rfl ?_
  refine tz_iconst (pc := 421) dL_law_421 ?_
  refine tz_iadd (pc := 422) (v := i + 1) dL_law_422 rfl ?_
  refine tz_sld (pc := 423) (z := (i + 1)) rfl dL_law_423 (by omega) (by omega) (fun r_423 => ?_)
  refine tz_aload_n (pc := 424) dL_law_424 rfl rfl ?_
  refine tz_iload (pc := 425) dL_law_425 rfl ?_
  refine tz_iconst (pc := 427) dL_law_427 ?_
  refine tz_iadd (pc := 428) (v := i + 2) dL_law_428 rfl ?_
  refine tz_sld (pc := 429) (z := (i + 2)) rfl dL_law_429 (by omega) (by omega) (fun r_429 => ?_)
  refine tz_cV (pc := 430) (k_term hl _ _ _ _ (z_rg _) (z_rg _) m2 pn RR hM2 hu2) vl_L_87 dL_law_430 o_164 rfl rfl (Nat.le_of_ble_eq_true rfl) ⟨(Nat.le_of_ble_eq_true rfl), (Nat.le_of_ble_eq_true rfl)⟩ rfl rfl (show k1 + 1 ≤ 601024 by omega) (show k2 + 6 ≤ 7293034 by omega) (fun r9 J_430 hq9 => ?_)
  obtain ⟨z_430, rfl, hz_430, y_430⟩ := hq9
  have bo9 := bo_q fh9 cc_412 y_430.2.2
  refine tz_istore (pc := 433) (L2 := [_, _, _, _, _, _, _]) dL_law_433 (by decide) rfl ?_
  refine tz_goto (pc := 435) (tgt := 1330) dL_law_435 (by decide) ?_
  exact nx _ _ _ _ _ _ ⟨(LV.q h cw_412 y_430.1 y_430.2.1 bo9 ⟨by omega, by omega⟩ (by omega) (by omega)), (RVX.lo (⟨cw_412.1.elim (fun m1 h1 => rv_eq hcc hC h1 cc_412 hrv.1), hrv.2.of (fun c a b => cw_412.2.2.2 c (Or.inl ⟨a, b⟩)) cw_412.2.2.1.2.1⟩) (fun c hc => y_430.1.2.1 c (Or.inl hc)))⟩

set_option maxHeartbeats 4000000 in
set_option maxRecDepth 100000 in
theorem law_argument {l : Launch} {G : tb_G} {Lx : Nat} {xs : Nat → Int32} {k1 k2 n : Nat} {J : zJ} (hl : l.stackTraces = false) (i : Int) (hi : 0 ≤ i ∧ i + 6 ≤ (Lx : Int)) (hx : Lx ≤ 3072) (d5 d6 : Option Value) (h : LVr J n k1 k2 i) (nx : ∀ (k1 k2 n : Nat) (J : zJ) (d5 d6 : Option Value), LVr J n k1 k2 (i + 6) → tz_At l G M_L_law room_1 (some (Lx, xs)) tb_LZ k1 k2 n J 1330 [some (.ref tb_sc), some (.ref 0), some (.ref 164), some (.ref 183), some (zi i), d5, d6] []) : tz_At l G M_L_law room_1 (some (Lx, xs)) tb_LZ k1 k2 n J 438 [some (.ref tb_sc), some (.ref 0), some (.ref 164), some (.ref 183), some (zi i), d5, d6] [] := by
  obtain ⟨h, hrv⟩ := h
  obtain ⟨⟨m, hC⟩, ⟨m2, hM⟩, h3, h4, h5, ⟨h6, h7⟩, pn, RR, hcc, huu, him⟩ := id h
  have h9 : J 145 10 < 1000000000 := by omega
  have hnb : n ≤ tb_sc := by show n ≤ 1000000; omega
  refine tz_aload_n (pc := 438) dL_law_438 rfl rfl ?_
  refine tz_aload_n (pc := 439) dL_law_439 rfl rfl ?_
  refine tz_iload (pc := 440) dL_law_440 rfl ?_
  refine tz_iconst (pc := 442) dL_law_442 ?_
  refine tz_iadd (pc := 443) (v := i + 1) dL_law_443 rfl ?_
  refine tz_sld (pc := 444) (z := (i + 1)) rfl dL_law_444 (by omega) (by omega) (fun r_444 => ?_)
  refine tz_aload_n (pc := 445) dL_law_445 rfl rfl ?_
  refine tz_iload (pc := 446) dL_law_446 rfl ?_
  refine tz_iconst (pc := 448) dL_law_448 ?_
  refine tz_iadd (pc := 449) (v := i + 2) dL_law_449 rfl ?_
  refine tz_sld (pc := 450) (z := (i + 2)) rfl dL_law_450 (by omega) (by omega) (fun r_450 => ?_)
  refine tz_aload_n (pc := 451) dL_law_451 rfl rfl ?_
  refine tz_cH (pc := 452) (nA := 4) (lw_argument hl _ _ _ _ (z_rg _) (z_rg _) m pn RR hC h9 hcc) ml_L_88 ms_L_argument ch_L_argument wk_ini_L (by decide +kernel) dL_law_452 rfl rfl (Nat.le_of_ble_eq_true rfl) ⟨(Nat.le_of_ble_eq_true rfl), (Nat.le_of_ble_eq_true rfl)⟩ rfl rfl (show k1 + 1 ≤ 601024 by omega) (show k2 + 6 ≤ 7293034 by omega) (fun r9 n_452 J_452 hn1_452 hn2_452 hq9 => ?_)
  obtain ⟨z_452, rfl, hz_452, cw_452, cc_452⟩ := hq9
  have fh9 : ∀ c, 164 ≤ c → c < 183 → J_452 c = J c := fun c x y => cw_452.2.2.2 c (Or.inr (Or.inr ⟨x, y⟩))
  have hM2 := hM.mid fh9
  have hu2 := huu.mid fh9
  refine tz_istore (pc := 455) (L2 := [_, _, _, _, _, _, _]) dL_law_455 (by decide) rfl ?_
  refine tz_aload_n (pc := 457) dL_law_457 rfl rfl ?_
  refine tz_aload_n (pc := 458) dL_law_458 rfl rfl ?_
  refine tz_iload (pc := 459) dL_law_459 rfl ?_
  refine tz_iconst (pc := 461) dL_law_461 ?_
  refine tz_iadd (pc := 462) (v := i + 1) dL_law_462 rfl ?_
  refine tz_sld (pc := 463) (z := (i + 1)) rfl dL_law_463 (by omega) (by omega) (fun r_463 => ?_)
  refine tz_aload_n (pc := 464) dL_law_464 rfl rfl ?_
  refine tz_iload (pc := 465) dL_law_465 rfl ?_
  refine tz_iconst (pc := 467) dL_law_467 ?_
  refine tz_iadd (pc := 468) (v := i + 2) dL_law_468 rfl ?_
  refine tz_sld (pc := 469) (z := (i + 2)) rfl dL_law_469 (by omega) (by omega) (fun r_469 => ?_)
  refine tz_cV (pc := 470) (k_argument hl _ _ _ _ (z_rg _) (z_rg _) m2 pn RR hM2 hu2) vl_L_90 dL_law_470 o_164 rfl rfl (Nat.le_of_ble_eq_true rfl) ⟨(Nat.le_of_ble_eq_true rfl), (Nat.le_of_ble_eq_true rfl)⟩ rfl rfl (show k1 + 1 ≤ 601024 by omega) (show k2 + 6 ≤ 7293034 by omega) (fun r9 J_470 hq9 => ?_)
  obtain ⟨z_470, rfl, hz_470, y_470⟩ := hq9
  have bo9 := bo_q fh9 cc_452 y_470.2.2
  refine tz_istore (pc := 473) (L2 := [_, _, _, _, _, _, _]) dL_law_473 (by decide) rfl ?_
  refine tz_goto (pc := 475) (tgt := 1330) dL_law_475 (by decide) ?_
  exact nx _ _ _ _ _ _ ⟨(LV.q h cw_452 y_470.1 y_470.2.1 bo9 ⟨by omega, by omega⟩ (by omega) (by omega)), (RVX.lo (⟨cw_452.1.elim (fun m1 h1 => rv_eq hcc hC h1 cc_452 hrv.1), hrv.2.of (fun c a b => cw_452.2.2.2 c (Or.inl ⟨a, b⟩)) cw_452.2.2.1.2.1⟩) (fun c hc => y_470.1.2.1 c (Or.inl hc)))⟩

set_option maxHeartbeats 4000000 in
set_option maxRecDepth 100000 in
theorem law_place {l : Launch} {G : tb_G} {Lx : Nat} {xs : Nat → Int32} {k1 k2 n : Nat} {J : zJ} (hl : l.stackTraces = false) (i : Int) (hi : 0 ≤ i ∧ i + 6 ≤ (Lx : Int)) (hx : Lx ≤ 3072) (d5 d6 : Option Value) (h : LVr J n k1 k2 i) (nx : ∀ (k1 k2 n : Nat) (J : zJ) (d5 d6 : Option Value), LVr J n k1 k2 (i + 6) → tz_At l G M_L_law room_1 (some (Lx, xs)) tb_LZ k1 k2 n J 1330 [some (.ref tb_sc), some (.ref 0), some (.ref 164), some (.ref 183), some (zi i), d5, d6] []) : tz_At l G M_L_law room_1 (some (Lx, xs)) tb_LZ k1 k2 n J 478 [some (.ref tb_sc), some (.ref 0), some (.ref 164), some (.ref 183), some (zi i), d5, d6] [] := by
  obtain ⟨h, hrv⟩ := h
  obtain ⟨⟨m, hC⟩, ⟨m2, hM⟩, h3, h4, h5, ⟨h6, h7⟩, pn, RR, hcc, huu, him⟩ := id h
  have h9 : J 145 10 < 1000000000 := by omega
  have hnb : n ≤ tb_sc := by show n ≤ 1000000; omega
  refine tz_aload_n (pc := 478) dL_law_478 rfl rfl ?_
  refine tz_aload_n (pc := 479) dL_law_479 rfl rfl ?_
  refine tz_iload (pc := 480) dL_law_480 rfl ?_
  refine tz_iconst (pc := 482) dL_law_482 ?_
  refine tz_iadd (pc := 483) (v := i + 1) dL_law_483 rfl ?_
  refine tz_sld (pc := 484) (z := (i + 1)) rfl dL_law_484 (by omega) (by omega) (fun r_484 => ?_)
  refine tz_aload_n (pc := 485) dL_law_485 rfl rfl ?_
  refine tz_iload (pc := 486) dL_law_486 rfl ?_
  refine tz_iconst (pc := 488) dL_law_488 ?_
  refine tz_iadd (pc := 489) (v := i + 2) dL_law_489 rfl ?_
  refine tz_sld (pc := 490) (z := (i + 2)) rfl dL_law_490 (by omega) (by omega) (fun r_490 => ?_)
  refine tz_aload_n (pc := 491) dL_law_491 rfl rfl ?_
  refine tz_cH (pc := 492) (nA := 4) (lw_place hl _ _ _ _ (z_rg _) (z_rg _) m pn RR hC h9 hcc) ml_L_91 ms_L_place ch_L_place wk_ini_L (by decide +kernel) dL_law_492 rfl rfl (Nat.le_of_ble_eq_true rfl) ⟨(Nat.le_of_ble_eq_true rfl), (Nat.le_of_ble_eq_true rfl)⟩ rfl rfl (show k1 + 1 ≤ 601024 by omega) (show k2 + 6 ≤ 7293034 by omega) (fun r9 n_492 J_492 hn1_492 hn2_492 hq9 => ?_)
  obtain ⟨z_492, rfl, hz_492, cw_492, cc_492⟩ := hq9
  have fh9 : ∀ c, 164 ≤ c → c < 183 → J_492 c = J c := fun c x y => cw_492.2.2.2 c (Or.inr (Or.inr ⟨x, y⟩))
  have hM2 := hM.mid fh9
  have hu2 := huu.mid fh9
  refine tz_istore (pc := 495) (L2 := [_, _, _, _, _, _, _]) dL_law_495 (by decide) rfl ?_
  refine tz_aload_n (pc := 497) dL_law_497 rfl rfl ?_
  refine tz_aload_n (pc := 498) dL_law_498 rfl rfl ?_
  refine tz_iload (pc := 499) dL_law_499 rfl ?_
  refine tz_iconst (pc := 501) dL_law_501 ?_
  refine tz_iadd (pc := 502) (v := i + 1) dL_law_502 rfl ?_
  refine tz_sld (pc := 503) (z := (i + 1)) rfl dL_law_503 (by omega) (by omega) (fun r_503 => ?_)
  refine tz_aload_n (pc := 504) dL_law_504 rfl rfl ?_
  refine tz_iload (pc := 505) dL_law_505 rfl ?_
  refine tz_iconst (pc := 507) dL_law_507 ?_
  refine tz_iadd (pc := 508) (v := i + 2) dL_law_508 rfl ?_
  refine tz_sld (pc := 509) (z := (i + 2)) rfl dL_law_509 (by omega) (by omega) (fun r_509 => ?_)
  refine tz_cV (pc := 510) (k_place hl _ _ _ _ (z_rg _) (z_rg _) m2 pn RR hM2 hu2) vl_L_93 dL_law_510 o_164 rfl rfl (Nat.le_of_ble_eq_true rfl) ⟨(Nat.le_of_ble_eq_true rfl), (Nat.le_of_ble_eq_true rfl)⟩ rfl rfl (show k1 + 1 ≤ 601024 by omega) (show k2 + 6 ≤ 7293034 by omega) (fun r9 J_510 hq9 => ?_)
  obtain ⟨z_510, rfl, hz_510, y_510⟩ := hq9
  have bo9 := bo_q fh9 cc_492 y_510.2.2
  refine tz_istore (pc := 513) (L2 := [_, _, _, _, _, _, _]) dL_law_513 (by decide) rfl ?_
  refine tz_goto (pc := 515) (tgt := 1330) dL_law_515 (by decide) ?_
  exact nx _ _ _ _ _ _ ⟨(LV.q h cw_492 y_510.1 y_510.2.1 bo9 ⟨by omega, by omega⟩ (by omega) (by omega)), (RVX.lo (⟨cw_492.1.elim (fun m1 h1 => rv_eq hcc hC h1 cc_492 hrv.1), hrv.2.of (fun c a b => cw_492.2.2.2 c (Or.inl ⟨a, b⟩)) cw_492.2.2.1.2.1⟩) (fun c hc => y_510.1.2.1 c (Or.inl hc)))⟩

set_option maxHeartbeats 4000000 in
set_option maxRecDepth 100000 in
theorem law_order {l : Launch} {G : tb_G} {Lx : Nat} {xs : Nat → Int32} {k1 k2 n : Nat} {J : zJ} (hl : l.stackTraces = false) (i : Int) (hi : 0 ≤ i ∧ i + 6 ≤ (Lx : Int)) (hx : Lx ≤ 3072) (d5 d6 : Option Value) (h : LVr J n k1 k2 i) (nx : ∀ (k1 k2 n : Nat) (J : zJ) (d5 d6 : Option Value), LVr J n k1 k2 (i + 6) → tz_At l G M_L_law room_1 (some (Lx, xs)) tb_LZ k1 k2 n J 1330 [some (.ref tb_sc), some (.ref 0), some (.ref 164), some (.ref 183), some (zi i), d5, d6] []) : tz_At l G M_L_law room_1 (some (Lx, xs)) tb_LZ k1 k2 n J 518 [some (.ref tb_sc), some (.ref 0), some (.ref 164), some (.ref 183), some (zi i), d5, d6] [] := by
  obtain ⟨h, hrv⟩ := h
  obtain ⟨⟨m, hC⟩, ⟨m2, hM⟩, h3, h4, h5, ⟨h6, h7⟩, pn, RR, hcc, huu, him⟩ := id h
  have h9 : J 145 10 < 1000000000 := by omega
  have hnb : n ≤ tb_sc := by show n ≤ 1000000; omega
  refine tz_aload_n (pc := 518) dL_law_518 rfl rfl ?_
  refine tz_aload_n (pc := 519) dL_law_519 rfl rfl ?_
  refine tz_iload (pc := 520) dL_law_520 rfl ?_
  refine tz_iconst (pc := 522) dL_law_522 ?_
  refine tz_iadd (pc := 523) (v := i + 1) dL_law_523 rfl ?_
  refine tz_sld (pc := 524) (z := (i + 1)) rfl dL_law_524 (by omega) (by omega) (fun r_524 => ?_)
  refine tz_aload_n (pc := 525) dL_law_525 rfl rfl ?_
  refine tz_iload (pc := 526) dL_law_526 rfl ?_
  refine tz_iconst (pc := 528) dL_law_528 ?_
  refine tz_iadd (pc := 529) (v := i + 2) dL_law_529 rfl ?_
  refine tz_sld (pc := 530) (z := (i + 2)) rfl dL_law_530 (by omega) (by omega) (fun r_530 => ?_)
  refine tz_aload_n (pc := 531) dL_law_531 rfl rfl ?_
  refine tz_cH (pc := 532) (nA := 4) (lw_order hl _ _ _ _ (z_rg _) (z_rg _) m pn RR hC h9 hcc) ml_L_94 ms_L_order ch_L_order wk_ini_L (by decide +kernel) dL_law_532 rfl rfl (Nat.le_of_ble_eq_true rfl) ⟨(Nat.le_of_ble_eq_true rfl), (Nat.le_of_ble_eq_true rfl)⟩ rfl rfl (show k1 + 1 ≤ 601024 by omega) (show k2 + 6 ≤ 7293034 by omega) (fun r9 n_532 J_532 hn1_532 hn2_532 hq9 => ?_)
  obtain ⟨z_532, rfl, hz_532, cw_532, cc_532⟩ := hq9
  have fh9 : ∀ c, 164 ≤ c → c < 183 → J_532 c = J c := fun c x y => cw_532.2.2.2 c (Or.inr (Or.inr ⟨x, y⟩))
  have hM2 := hM.mid fh9
  have hu2 := huu.mid fh9
  refine tz_istore (pc := 535) (L2 := [_, _, _, _, _, _, _]) dL_law_535 (by decide) rfl ?_
  refine tz_aload_n (pc := 537) dL_law_537 rfl rfl ?_
  refine tz_aload_n (pc := 538) dL_law_538 rfl rfl ?_
  refine tz_iload (pc := 539) dL_law_539 rfl ?_
  refine tz_iconst (pc := 541) dL_law_541 ?_
  refine tz_iadd (pc := 542) (v := i + 1) dL_law_542 rfl ?_
  refine tz_sld (pc := 543) (z := (i + 1)) rfl dL_law_543 (by omega) (by omega) (fun r_543 => ?_)
  refine tz_aload_n (pc := 544) dL_law_544 rfl rfl ?_
  refine tz_iload (pc := 545) dL_law_545 rfl ?_
  refine tz_iconst (pc := 547) dL_law_547 ?_
  refine tz_iadd (pc := 548) (v := i + 2) dL_law_548 rfl ?_
  refine tz_sld (pc := 549) (z := (i + 2)) rfl dL_law_549 (by omega) (by omega) (fun r_549 => ?_)
  refine tz_cV (pc := 550) (k_order hl _ _ _ _ (z_rg _) (z_rg _) m2 pn RR hM2 hu2) vl_L_96 dL_law_550 o_164 rfl rfl (Nat.le_of_ble_eq_true rfl) ⟨(Nat.le_of_ble_eq_true rfl), (Nat.le_of_ble_eq_true rfl)⟩ rfl rfl (show k1 + 1 ≤ 601024 by omega) (show k2 + 6 ≤ 7293034 by omega) (fun r9 J_550 hq9 => ?_)
  obtain ⟨z_550, rfl, hz_550, y_550⟩ := hq9
  have bo9 := bo_q fh9 cc_532 y_550.2.2
  refine tz_istore (pc := 553) (L2 := [_, _, _, _, _, _, _]) dL_law_553 (by decide) rfl ?_
  refine tz_goto (pc := 555) (tgt := 1330) dL_law_555 (by decide) ?_
  exact nx _ _ _ _ _ _ ⟨(LV.q h cw_532 y_550.1 y_550.2.1 bo9 ⟨by omega, by omega⟩ (by omega) (by omega)), (RVX.lo (⟨cw_532.1.elim (fun m1 h1 => rv_eq hcc hC h1 cc_532 hrv.1), hrv.2.of (fun c a b => cw_532.2.2.2 c (Or.inl ⟨a, b⟩)) cw_532.2.2.1.2.1⟩) (fun c hc => y_550.1.2.1 c (Or.inl hc)))⟩

set_option maxHeartbeats 4000000 in
set_option maxRecDepth 100000 in
theorem law_find {l : Launch} {G : tb_G} {Lx : Nat} {xs : Nat → Int32} {k1 k2 n : Nat} {J : zJ} (hl : l.stackTraces = false) (i : Int) (hi : 0 ≤ i ∧ i + 6 ≤ (Lx : Int)) (hx : Lx ≤ 3072) (d5 d6 : Option Value) (h : LVr J n k1 k2 i) (nx : ∀ (k1 k2 n : Nat) (J : zJ) (d5 d6 : Option Value), LVr J n k1 k2 (i + 6) → tz_At l G M_L_law room_1 (some (Lx, xs)) tb_LZ k1 k2 n J 1330 [some (.ref tb_sc), some (.ref 0), some (.ref 164), some (.ref 183), some (zi i), d5, d6] []) : tz_At l G M_L_law room_1 (some (Lx, xs)) tb_LZ k1 k2 n J 558 [some (.ref tb_sc), some (.ref 0), some (.ref 164), some (.ref 183), some (zi i), d5, d6] [] := by
  obtain ⟨h, hrv⟩ := h
  obtain ⟨⟨m, hC⟩, ⟨m2, hM⟩, h3, h4, h5, ⟨h6, h7⟩, pn, RR, hcc, huu, him⟩ := id h
  have h9 : J 145 10 < 1000000000 := by omega
  have hnb : n ≤ tb_sc := by show n ≤ 1000000; omega
  refine tz_aload_n (pc := 558) dL_law_558 rfl rfl ?_
  refine tz_aload_n (pc := 559) dL_law_559 rfl rfl ?_
  refine tz_iload (pc := 560) dL_law_560 rfl ?_
  refine tz_iconst (pc := 562) dL_law_562 ?_
  refine tz_iadd (pc := 563) (v := i + 1) dL_law_563 rfl ?_
  refine tz_sld (pc := 564) (z := (i + 1)) rfl dL_law_564 (by omega) (by omega) (fun r_564 => ?_)
  refine tz_aload_n (pc := 565) dL_law_565 rfl rfl ?_
  refine tz_iload (pc := 566) dL_law_566 rfl ?_
  refine tz_iconst (pc := 568) dL_law_568 ?_
  refine tz_iadd (pc := 569) (v := i + 2) dL_law_569 rfl ?_
  refine tz_sld (pc := 570) (z := (i + 2)) rfl dL_law_570 (by omega) (by omega) (fun r_570 => ?_)
  refine tz_aload_n (pc := 571) dL_law_571 rfl rfl ?_
  refine tz_cH (pc := 572) (nA := 4) (lw_find hl _ _ _ _ (z_rg _) (z_rg _) m pn RR hC h9 hcc) ml_L_97 ms_L_find ch_L_find wk_ini_L (by decide +kernel) dL_law_572 rfl rfl (Nat.le_of_ble_eq_true rfl) ⟨(Nat.le_of_ble_eq_true rfl), (Nat.le_of_ble_eq_true rfl)⟩ rfl rfl (show k1 + 1 ≤ 601024 by omega) (show k2 + 6 ≤ 7293034 by omega) (fun r9 n_572 J_572 hn1_572 hn2_572 hq9 => ?_)
  obtain ⟨z_572, rfl, hz_572, cw_572, cc_572⟩ := hq9
  have fh9 : ∀ c, 164 ≤ c → c < 183 → J_572 c = J c := fun c x y => cw_572.2.2.2 c (Or.inr (Or.inr ⟨x, y⟩))
  have hM2 := hM.mid fh9
  have hu2 := huu.mid fh9
  refine tz_istore (pc := 575) (L2 := [_, _, _, _, _, _, _]) dL_law_575 (by decide) rfl ?_
  refine tz_aload_n (pc := 577) dL_law_577 rfl rfl ?_
  refine tz_aload_n (pc := 578) dL_law_578 rfl rfl ?_
  refine tz_iload (pc := 579) dL_law_579 rfl ?_
  refine tz_iconst (pc := 581) dL_law_581 ?_
  refine tz_iadd (pc := 582) (v := i + 1) dL_law_582 rfl ?_
  refine tz_sld (pc := 583) (z := (i + 1)) rfl dL_law_583 (by omega) (by omega) (fun r_583 => ?_)
  refine tz_aload_n (pc := 584) dL_law_584 rfl rfl ?_
  refine tz_iload (pc := 585) dL_law_585 rfl ?_
  refine tz_iconst (pc := 587) dL_law_587 ?_
  refine tz_iadd (pc := 588) (v := i + 2) dL_law_588 rfl ?_
  refine tz_sld (pc := 589) (z := (i + 2)) rfl dL_law_589 (by omega) (by omega) (fun r_589 => ?_)
  refine tz_cV (pc := 590) (k_find hl _ _ _ _ (z_rg _) (z_rg _) m2 pn RR hM2 hu2) vl_L_99 dL_law_590 o_164 rfl rfl (Nat.le_of_ble_eq_true rfl) ⟨(Nat.le_of_ble_eq_true rfl), (Nat.le_of_ble_eq_true rfl)⟩ rfl rfl (show k1 + 1 ≤ 601024 by omega) (show k2 + 6 ≤ 7293034 by omega) (fun r9 J_590 hq9 => ?_)
  obtain ⟨z_590, rfl, hz_590, y_590⟩ := hq9
  have bo9 := bo_q fh9 cc_572 y_590.2.2
  refine tz_istore (pc := 593) (L2 := [_, _, _, _, _, _, _]) dL_law_593 (by decide) rfl ?_
  refine tz_goto (pc := 595) (tgt := 1330) dL_law_595 (by decide) ?_
  exact nx _ _ _ _ _ _ ⟨(LV.q h cw_572 y_590.1 y_590.2.1 bo9 ⟨by omega, by omega⟩ (by omega) (by omega)), (RVX.lo (⟨cw_572.1.elim (fun m1 h1 => rv_eq hcc hC h1 cc_572 hrv.1), hrv.2.of (fun c a b => cw_572.2.2.2 c (Or.inl ⟨a, b⟩)) cw_572.2.2.1.2.1⟩) (fun c hc => y_590.1.2.1 c (Or.inl hc)))⟩

set_option maxHeartbeats 4000000 in
set_option maxRecDepth 100000 in
theorem law_rule {l : Launch} {G : tb_G} {Lx : Nat} {xs : Nat → Int32} {k1 k2 n : Nat} {J : zJ} (hl : l.stackTraces = false) (i : Int) (hi : 0 ≤ i ∧ i + 6 ≤ (Lx : Int)) (hx : Lx ≤ 3072) (d5 d6 : Option Value) (h : LVr J n k1 k2 i) (nx : ∀ (k1 k2 n : Nat) (J : zJ) (d5 d6 : Option Value), LVr J n k1 k2 (i + 6) → tz_At l G M_L_law room_1 (some (Lx, xs)) tb_LZ k1 k2 n J 1330 [some (.ref tb_sc), some (.ref 0), some (.ref 164), some (.ref 183), some (zi i), d5, d6] []) : tz_At l G M_L_law room_1 (some (Lx, xs)) tb_LZ k1 k2 n J 598 [some (.ref tb_sc), some (.ref 0), some (.ref 164), some (.ref 183), some (zi i), d5, d6] [] := by
  obtain ⟨h, hrv⟩ := h
  obtain ⟨⟨m, hC⟩, ⟨m2, hM⟩, h3, h4, h5, ⟨h6, h7⟩, pn, RR, hcc, huu, him⟩ := id h
  have h9 : J 145 10 < 1000000000 := by omega
  have hnb : n ≤ tb_sc := by show n ≤ 1000000; omega
  refine tz_aload_n (pc := 598) dL_law_598 rfl rfl ?_
  refine tz_aload_n (pc := 599) dL_law_599 rfl rfl ?_
  refine tz_iload (pc := 600) dL_law_600 rfl ?_
  refine tz_iconst (pc := 602) dL_law_602 ?_
  refine tz_iadd (pc := 603) (v := i + 1) dL_law_603 rfl ?_
  refine tz_sld (pc := 604) (z := (i + 1)) rfl dL_law_604 (by omega) (by omega) (fun r_604 => ?_)
  refine tz_aload_n (pc := 605) dL_law_605 rfl rfl ?_
  refine tz_iload (pc := 606) dL_law_606 rfl ?_
  refine tz_iconst (pc := 608) dL_law_608 ?_
  refine tz_iadd (pc := 609) (v := i + 2) dL_law_609 rfl ?_
  refine tz_sld (pc := 610) (z := (i + 2)) rfl dL_law_610 (by omega) (by omega) (fun r_610 => ?_)
  refine tz_aload_n (pc := 611) dL_law_611 rfl rfl ?_
  refine tz_cH (pc := 612) (nA := 4) (lw_rule hl _ _ _ _ (z_rg _) (z_rg _) m pn RR hC h9 hcc) ml_L_100 ms_L_rule ch_L_rule wk_ini_L (by decide +kernel) dL_law_612 rfl rfl (Nat.le_of_ble_eq_true rfl) ⟨(Nat.le_of_ble_eq_true rfl), (Nat.le_of_ble_eq_true rfl)⟩ rfl rfl (show k1 + 1 ≤ 601024 by omega) (show k2 + 6 ≤ 7293034 by omega) (fun r9 n_612 J_612 hn1_612 hn2_612 hq9 => ?_)
  obtain ⟨z_612, rfl, hz_612, cw_612, cc_612⟩ := hq9
  have fh9 : ∀ c, 164 ≤ c → c < 183 → J_612 c = J c := fun c x y => cw_612.2.2.2 c (Or.inr (Or.inr ⟨x, y⟩))
  have hM2 := hM.mid fh9
  have hu2 := huu.mid fh9
  refine tz_istore (pc := 615) (L2 := [_, _, _, _, _, _, _]) dL_law_615 (by decide) rfl ?_
  refine tz_aload_n (pc := 617) dL_law_617 rfl rfl ?_
  refine tz_aload_n (pc := 618) dL_law_618 rfl rfl ?_
  refine tz_iload (pc := 619) dL_law_619 rfl ?_
  refine tz_iconst (pc := 621) dL_law_621 ?_
  refine tz_iadd (pc := 622) (v := i + 1) dL_law_622 rfl ?_
  refine tz_sld (pc := 623) (z := (i + 1)) rfl dL_law_623 (by omega) (by omega) (fun r_623 => ?_)
  refine tz_aload_n (pc := 624) dL_law_624 rfl rfl ?_
  refine tz_iload (pc := 625) dL_law_625 rfl ?_
  refine tz_iconst (pc := 627) dL_law_627 ?_
  refine tz_iadd (pc := 628) (v := i + 2) dL_law_628 rfl ?_
  refine tz_sld (pc := 629) (z := (i + 2)) rfl dL_law_629 (by omega) (by omega) (fun r_629 => ?_)
  refine tz_cV (pc := 630) (k_rule hl _ _ _ _ (z_rg _) (z_rg _) m2 pn RR hM2 hu2) vl_L_102 dL_law_630 o_164 rfl rfl (Nat.le_of_ble_eq_true rfl) ⟨(Nat.le_of_ble_eq_true rfl), (Nat.le_of_ble_eq_true rfl)⟩ rfl rfl (show k1 + 1 ≤ 601024 by omega) (show k2 + 6 ≤ 7293034 by omega) (fun r9 J_630 hq9 => ?_)
  obtain ⟨z_630, rfl, hz_630, y_630⟩ := hq9
  have bo9 := bo_q fh9 cc_612 y_630.2.2
  refine tz_istore (pc := 633) (L2 := [_, _, _, _, _, _, _]) dL_law_633 (by decide) rfl ?_
  refine tz_goto (pc := 635) (tgt := 1330) dL_law_635 (by decide) ?_
  exact nx _ _ _ _ _ _ ⟨(LV.q h cw_612 y_630.1 y_630.2.1 bo9 ⟨by omega, by omega⟩ (by omega) (by omega)), (RVX.lo (⟨cw_612.1.elim (fun m1 h1 => rv_eq hcc hC h1 cc_612 hrv.1), hrv.2.of (fun c a b => cw_612.2.2.2 c (Or.inl ⟨a, b⟩)) cw_612.2.2.1.2.1⟩) (fun c hc => y_630.1.2.1 c (Or.inl hc)))⟩

set_option maxHeartbeats 4000000 in
set_option maxRecDepth 100000 in
theorem law_entry {l : Launch} {G : tb_G} {Lx : Nat} {xs : Nat → Int32} {k1 k2 n : Nat} {J : zJ} (hl : l.stackTraces = false) (i : Int) (hi : 0 ≤ i ∧ i + 6 ≤ (Lx : Int)) (hx : Lx ≤ 3072) (d5 d6 : Option Value) (h : LVr J n k1 k2 i) (nx : ∀ (k1 k2 n : Nat) (J : zJ) (d5 d6 : Option Value), LVr J n k1 k2 (i + 6) → tz_At l G M_L_law room_1 (some (Lx, xs)) tb_LZ k1 k2 n J 1330 [some (.ref tb_sc), some (.ref 0), some (.ref 164), some (.ref 183), some (zi i), d5, d6] []) : tz_At l G M_L_law room_1 (some (Lx, xs)) tb_LZ k1 k2 n J 638 [some (.ref tb_sc), some (.ref 0), some (.ref 164), some (.ref 183), some (zi i), d5, d6] [] := by
  obtain ⟨h, hrv⟩ := h
  obtain ⟨⟨m, hC⟩, ⟨m2, hM⟩, h3, h4, h5, ⟨h6, h7⟩, pn, RR, hcc, huu, him⟩ := id h
  have h9 : J 145 10 < 1000000000 := by omega
  have hnb : n ≤ tb_sc := by show n ≤ 1000000; omega
  refine tz_aload_n (pc := 638) dL_law_638 rfl rfl ?_
  refine tz_aload_n (pc := 639) dL_law_639 rfl rfl ?_
  refine tz_iload (pc := 640) dL_law_640 rfl ?_
  refine tz_iconst (pc := 642) dL_law_642 ?_
  refine tz_iadd (pc := 643) (v := i + 1) dL_law_643 rfl ?_
  refine tz_sld (pc := 644) (z := (i + 1)) rfl dL_law_644 (by omega) (by omega) (fun r_644 => ?_)
  refine tz_aload_n (pc := 645) dL_law_645 rfl rfl ?_
  refine tz_cH (pc := 646) (nA := 3) (lw_entry hl _ _ _ (z_rg _) m pn RR hC h9 hcc) ml_L_103 ms_L_entry ch_L_entry wk_ini_L (by decide +kernel) dL_law_646 rfl rfl (Nat.le_of_ble_eq_true rfl) ⟨(Nat.le_of_ble_eq_true rfl), (Nat.le_of_ble_eq_true rfl)⟩ rfl rfl (show k1 + 1 ≤ 601024 by omega) (show k2 + 6 ≤ 7293034 by omega) (fun r9 n_646 J_646 hn1_646 hn2_646 hq9 => ?_)
  obtain ⟨z_646, rfl, hz_646, cw_646, cc_646⟩ := hq9
  have fh9 : ∀ c, 164 ≤ c → c < 183 → J_646 c = J c := fun c x y => cw_646.2.2.2 c (Or.inr (Or.inr ⟨x, y⟩))
  have hM2 := hM.mid fh9
  have hu2 := huu.mid fh9
  refine tz_istore (pc := 649) (L2 := [_, _, _, _, _, _, _]) dL_law_649 (by decide) rfl ?_
  refine tz_aload_n (pc := 651) dL_law_651 rfl rfl ?_
  refine tz_aload_n (pc := 652) dL_law_652 rfl rfl ?_
  refine tz_iload (pc := 653) dL_law_653 rfl ?_
  refine tz_iconst (pc := 655) dL_law_655 ?_
  refine tz_iadd (pc := 656) (v := i + 1) dL_law_656 rfl ?_
  refine tz_sld (pc := 657) (z := (i + 1)) rfl dL_law_657 (by omega) (by omega) (fun r_657 => ?_)
  refine tz_cV (pc := 658) (k_entry hl _ _ _ (z_rg _) m2 pn RR hM2 hu2) vl_L_105 dL_law_658 o_164 rfl rfl (Nat.le_of_ble_eq_true rfl) ⟨(Nat.le_of_ble_eq_true rfl), (Nat.le_of_ble_eq_true rfl)⟩ rfl rfl (show k1 + 1 ≤ 601024 by omega) (show k2 + 6 ≤ 7293034 by omega) (fun r9 J_658 hq9 => ?_)
  obtain ⟨z_658, rfl, hz_658, y_658⟩ := hq9
  have bo9 := bo_q fh9 cc_646 y_658.2.2
  refine tz_istore (pc := 661) (L2 := [_, _, _, _, _, _, _]) dL_law_661 (by decide) rfl ?_
  refine tz_goto (pc := 663) (tgt := 1330) dL_law_663 (by decide) ?_
  exact nx _ _ _ _ _ _ ⟨(LV.q h cw_646 y_658.1 y_658.2.1 bo9 ⟨by omega, by omega⟩ (by omega) (by omega)), (RVX.lo (⟨cw_646.1.elim (fun m1 h1 => rv_eq hcc hC h1 cc_646 hrv.1), hrv.2.of (fun c a b => cw_646.2.2.2 c (Or.inl ⟨a, b⟩)) cw_646.2.2.1.2.1⟩) (fun c hc => y_658.1.2.1 c (Or.inl hc)))⟩

set_option maxHeartbeats 4000000 in
set_option maxRecDepth 100000 in
theorem law_memo {l : Launch} {G : tb_G} {Lx : Nat} {xs : Nat → Int32} {k1 k2 n : Nat} {J : zJ} (hl : l.stackTraces = false) (i : Int) (hi : 0 ≤ i ∧ i + 6 ≤ (Lx : Int)) (hx : Lx ≤ 3072) (d5 d6 : Option Value) (h : LVr J n k1 k2 i) (nx : ∀ (k1 k2 n : Nat) (J : zJ) (d5 d6 : Option Value), LVr J n k1 k2 (i + 6) → tz_At l G M_L_law room_1 (some (Lx, xs)) tb_LZ k1 k2 n J 1330 [some (.ref tb_sc), some (.ref 0), some (.ref 164), some (.ref 183), some (zi i), d5, d6] []) : tz_At l G M_L_law room_1 (some (Lx, xs)) tb_LZ k1 k2 n J 666 [some (.ref tb_sc), some (.ref 0), some (.ref 164), some (.ref 183), some (zi i), d5, d6] [] := by
  obtain ⟨h, hrv⟩ := h
  obtain ⟨⟨m, hC⟩, ⟨m2, hM⟩, h3, h4, h5, ⟨h6, h7⟩, pn, RR, hcc, huu, him⟩ := id h
  have h9 : J 145 10 < 1000000000 := by omega
  have hnb : n ≤ tb_sc := by show n ≤ 1000000; omega
  refine tz_aload_n (pc := 666) dL_law_666 rfl rfl ?_
  refine tz_aload_n (pc := 667) dL_law_667 rfl rfl ?_
  refine tz_iload (pc := 668) dL_law_668 rfl ?_
  refine tz_iconst (pc := 670) dL_law_670 ?_
  refine tz_iadd (pc := 671) (v := i + 1) dL_law_671 rfl ?_
  refine tz_sld (pc := 672) (z := (i + 1)) rfl dL_law_672 (by omega) (by omega) (fun r_672 => ?_)
  refine tz_aload_n (pc := 673) dL_law_673 rfl rfl ?_
  refine tz_iload (pc := 674) dL_law_674 rfl ?_
  refine tz_iconst (pc := 676) dL_law_676 ?_
  refine tz_iadd (pc := 677) (v := i + 2) dL_law_677 rfl ?_
  refine tz_sld (pc := 678) (z := (i + 2)) rfl dL_law_678 (by omega) (by omega) (fun r_678 => ?_)
  refine tz_aload_n (pc := 679) dL_law_679 rfl rfl ?_
  refine tz_cH (pc := 680) (nA := 4) (lw_memo hl _ _ _ _ (z_rg _) (z_rg _) m pn RR hC h9 hcc) ml_L_106 ms_L_memo ch_L_memo wk_ini_L (by decide +kernel) dL_law_680 rfl rfl (Nat.le_of_ble_eq_true rfl) ⟨(Nat.le_of_ble_eq_true rfl), (Nat.le_of_ble_eq_true rfl)⟩ rfl rfl (show k1 + 1 ≤ 601024 by omega) (show k2 + 6 ≤ 7293034 by omega) (fun r9 n_680 J_680 hn1_680 hn2_680 hq9 => ?_)
  obtain ⟨z_680, rfl, hz_680, cw_680, cc_680⟩ := hq9
  have fh9 : ∀ c, 164 ≤ c → c < 183 → J_680 c = J c := fun c x y => cw_680.2.2.2 c (Or.inr (Or.inr ⟨x, y⟩))
  have hM2 := hM.mid fh9
  have hu2 := huu.mid fh9
  refine tz_istore (pc := 683) (L2 := [_, _, _, _, _, _, _]) dL_law_683 (by decide) rfl ?_
  refine tz_aload_n (pc := 685) dL_law_685 rfl rfl ?_
  refine tz_aload_n (pc := 686) dL_law_686 rfl rfl ?_
  refine tz_iload (pc := 687) dL_law_687 rfl ?_
  refine tz_iconst (pc := 689) dL_law_689 ?_
  refine tz_iadd (pc := 690) (v := i + 1) dL_law_690 rfl ?_
  refine tz_sld (pc := 691) (z := (i + 1)) rfl dL_law_691 (by omega) (by omega) (fun r_691 => ?_)
  refine tz_aload_n (pc := 692) dL_law_692 rfl rfl ?_
  refine tz_iload (pc := 693) dL_law_693 rfl ?_
  refine tz_iconst (pc := 695) dL_law_695 ?_
  refine tz_iadd (pc := 696) (v := i + 2) dL_law_696 rfl ?_
  refine tz_sld (pc := 697) (z := (i + 2)) rfl dL_law_697 (by omega) (by omega) (fun r_697 => ?_)
  refine tz_cV (pc := 698) (k_memo hl _ _ _ _ (z_rg _) (z_rg _) m2 pn RR hM2 hu2) vl_L_108 dL_law_698 o_164 rfl rfl (Nat.le_of_ble_eq_true rfl) ⟨(Nat.le_of_ble_eq_true rfl), (Nat.le_of_ble_eq_true rfl)⟩ rfl rfl (show k1 + 1 ≤ 601024 by omega) (show k2 + 6 ≤ 7293034 by omega) (fun r9 J_698 hq9 => ?_)
  obtain ⟨z_698, rfl, hz_698, y_698⟩ := hq9
  have bo9 := bo_q fh9 cc_680 y_698.2.2
  refine tz_istore (pc := 701) (L2 := [_, _, _, _, _, _, _]) dL_law_701 (by decide) rfl ?_
  refine tz_goto (pc := 703) (tgt := 1330) dL_law_703 (by decide) ?_
  exact nx _ _ _ _ _ _ ⟨(LV.q h cw_680 y_698.1 y_698.2.1 bo9 ⟨by omega, by omega⟩ (by omega) (by omega)), (RVX.lo (⟨cw_680.1.elim (fun m1 h1 => rv_eq hcc hC h1 cc_680 hrv.1), hrv.2.of (fun c a b => cw_680.2.2.2 c (Or.inl ⟨a, b⟩)) cw_680.2.2.1.2.1⟩) (fun c hc => y_698.1.2.1 c (Or.inl hc)))⟩

set_option maxHeartbeats 4000000 in
set_option maxRecDepth 100000 in
theorem law_bound {l : Launch} {G : tb_G} {Lx : Nat} {xs : Nat → Int32} {k1 k2 n : Nat} {J : zJ} (hl : l.stackTraces = false) (i : Int) (hi : 0 ≤ i ∧ i + 6 ≤ (Lx : Int)) (hx : Lx ≤ 3072) (d5 d6 : Option Value) (h : LVr J n k1 k2 i) (nx : ∀ (k1 k2 n : Nat) (J : zJ) (d5 d6 : Option Value), LVr J n k1 k2 (i + 6) → tz_At l G M_L_law room_1 (some (Lx, xs)) tb_LZ k1 k2 n J 1330 [some (.ref tb_sc), some (.ref 0), some (.ref 164), some (.ref 183), some (zi i), d5, d6] []) : tz_At l G M_L_law room_1 (some (Lx, xs)) tb_LZ k1 k2 n J 706 [some (.ref tb_sc), some (.ref 0), some (.ref 164), some (.ref 183), some (zi i), d5, d6] [] := by
  obtain ⟨h, hrv⟩ := h
  obtain ⟨⟨m, hC⟩, ⟨m2, hM⟩, h3, h4, h5, ⟨h6, h7⟩, pn, RR, hcc, huu, him⟩ := id h
  have h9 : J 145 10 < 1000000000 := by omega
  have hnb : n ≤ tb_sc := by show n ≤ 1000000; omega
  refine tz_aload_n (pc := 706) dL_law_706 rfl rfl ?_
  refine tz_aload_n (pc := 707) dL_law_707 rfl rfl ?_
  refine tz_iload (pc := 708) dL_law_708 rfl ?_
  refine tz_iconst (pc := 710) dL_law_710 ?_
  refine tz_iadd (pc := 711) (v := i + 1) dL_law_711 rfl ?_
  refine tz_sld (pc := 712) (z := (i + 1)) rfl dL_law_712 (by omega) (by omega) (fun r_712 => ?_)
  refine tz_aload_n (pc := 713) dL_law_713 rfl rfl ?_
  refine tz_cH (pc := 714) (nA := 3) (lw_bound hl _ _ _ (z_rg _) m pn RR hC h9 hcc) ml_L_109 ms_L_bound ch_L_bound wk_ini_L (by decide +kernel) dL_law_714 rfl rfl (Nat.le_of_ble_eq_true rfl) ⟨(Nat.le_of_ble_eq_true rfl), (Nat.le_of_ble_eq_true rfl)⟩ rfl rfl (show k1 + 1 ≤ 601024 by omega) (show k2 + 6 ≤ 7293034 by omega) (fun r9 n_714 J_714 hn1_714 hn2_714 hq9 => ?_)
  obtain ⟨z_714, rfl, hz_714, cw_714, cc_714⟩ := hq9
  have fh9 : ∀ c, 164 ≤ c → c < 183 → J_714 c = J c := fun c x y => cw_714.2.2.2 c (Or.inr (Or.inr ⟨x, y⟩))
  have hM2 := hM.mid fh9
  have hu2 := huu.mid fh9
  refine tz_istore (pc := 717) (L2 := [_, _, _, _, _, _, _]) dL_law_717 (by decide) rfl ?_
  refine tz_aload_n (pc := 719) dL_law_719 rfl rfl ?_
  refine tz_aload_n (pc := 720) dL_law_720 rfl rfl ?_
  refine tz_iload (pc := 721) dL_law_721 rfl ?_
  refine tz_iconst (pc := 723) dL_law_723 ?_
  refine tz_iadd (pc := 724) (v := i + 1) dL_law_724 rfl ?_
  refine tz_sld (pc := 725) (z := (i + 1)) rfl dL_law_725 (by omega) (by omega) (fun r_725 => ?_)
  refine tz_cV (pc := 726) (k_bound hl _ _ _ (z_rg _) m2 pn RR hM2 hu2) vl_L_111 dL_law_726 o_164 rfl rfl (Nat.le_of_ble_eq_true rfl) ⟨(Nat.le_of_ble_eq_true rfl), (Nat.le_of_ble_eq_true rfl)⟩ rfl rfl (show k1 + 1 ≤ 601024 by omega) (show k2 + 6 ≤ 7293034 by omega) (fun r9 J_726 hq9 => ?_)
  obtain ⟨z_726, rfl, hz_726, y_726⟩ := hq9
  have bo9 := bo_q fh9 cc_714 y_726.2.2
  refine tz_istore (pc := 729) (L2 := [_, _, _, _, _, _, _]) dL_law_729 (by decide) rfl ?_
  refine tz_goto (pc := 731) (tgt := 1330) dL_law_731 (by decide) ?_
  exact nx _ _ _ _ _ _ ⟨(LV.q h cw_714 y_726.1 y_726.2.1 bo9 ⟨by omega, by omega⟩ (by omega) (by omega)), (RVX.lo (⟨cw_714.1.elim (fun m1 h1 => rv_eq hcc hC h1 cc_714 hrv.1), hrv.2.of (fun c a b => cw_714.2.2.2 c (Or.inl ⟨a, b⟩)) cw_714.2.2.1.2.1⟩) (fun c hc => y_726.1.2.1 c (Or.inl hc)))⟩

set_option maxHeartbeats 4000000 in
set_option maxRecDepth 100000 in
theorem law_variable {l : Launch} {G : tb_G} {Lx : Nat} {xs : Nat → Int32} {k1 k2 n : Nat} {J : zJ} (hl : l.stackTraces = false) (i : Int) (hi : 0 ≤ i ∧ i + 6 ≤ (Lx : Int)) (hx : Lx ≤ 3072) (d5 d6 : Option Value) (h : LVr J n k1 k2 i) (nx : ∀ (k1 k2 n : Nat) (J : zJ) (d5 d6 : Option Value), LVr J n k1 k2 (i + 6) → tz_At l G M_L_law room_1 (some (Lx, xs)) tb_LZ k1 k2 n J 1330 [some (.ref tb_sc), some (.ref 0), some (.ref 164), some (.ref 183), some (zi i), d5, d6] []) : tz_At l G M_L_law room_1 (some (Lx, xs)) tb_LZ k1 k2 n J 734 [some (.ref tb_sc), some (.ref 0), some (.ref 164), some (.ref 183), some (zi i), d5, d6] [] := by
  obtain ⟨h, hrv⟩ := h
  obtain ⟨⟨m, hC⟩, ⟨m2, hM⟩, h3, h4, h5, ⟨h6, h7⟩, pn, RR, hcc, huu, him⟩ := id h
  have h9 : J 145 10 < 1000000000 := by omega
  have hnb : n ≤ tb_sc := by show n ≤ 1000000; omega
  refine tz_aload_n (pc := 734) dL_law_734 rfl rfl ?_
  refine tz_aload_n (pc := 735) dL_law_735 rfl rfl ?_
  refine tz_iload (pc := 736) dL_law_736 rfl ?_
  refine tz_iconst (pc := 738) dL_law_738 ?_
  refine tz_iadd (pc := 739) (v := i + 1) dL_law_739 rfl ?_
  refine tz_sld (pc := 740) (z := (i + 1)) rfl dL_law_740 (by omega) (by omega) (fun r_740 => ?_)
  refine tz_cV (pc := 741) (v_variable hl _ _ _ (z_rg _) m (tbz J) pn RR hC h9 hcc rfl) vl_L_112 dL_law_741 o_0 rfl rfl (Nat.le_of_ble_eq_true rfl) ⟨(Nat.le_of_ble_eq_true rfl), (Nat.le_of_ble_eq_true rfl)⟩ rfl rfl (show k1 ≤ 601024 by omega) (show k2 ≤ 7293034 by omega) (fun r9 J_741 hq9 => ?_)
  obtain ⟨z_741, rfl, hz_741, x_741⟩ := hq9
  have cw_741 : CW J_741 J := CW.c x_741.1
  have fh9 : ∀ c, 164 ≤ c → c < 183 → J_741 c = J c := fun c x y => cw_741.2.2.2 c (Or.inr (Or.inr ⟨x, y⟩))
  have hM2 := hM.mid fh9
  have hu2 := huu.mid fh9
  refine tz_pop (pc := 744) dL_law_744 rfl ?_
  refine tz_aload_n (pc := 745) dL_law_745 rfl rfl ?_
  refine tz_aload_n (pc := 746) dL_law_746 rfl rfl ?_
  refine tz_iload (pc := 747) dL_law_747 rfl ?_
  refine tz_iconst (pc := 749) dL_law_749 ?_
  refine tz_iadd (pc := 750) (v := i + 1) dL_law_750 rfl ?_
  refine tz_sld (pc := 751) (z := (i + 1)) rfl dL_law_751 (by omega) (by omega) (fun r_751 => ?_)
  refine tz_cV (pc := 752) (v_qvariable hl _ _ _ (z_rg _) m2 pn RR hM2 hu2) vl_L_115 dL_law_752 o_164 rfl rfl (Nat.le_of_ble_eq_true rfl) ⟨(Nat.le_of_ble_eq_true rfl), (Nat.le_of_ble_eq_true rfl)⟩ rfl rfl (show k1 ≤ 601024 by omega) (show k2 ≤ 7293034 by omega) (fun r9 J_752 hq9 => ?_)
  obtain ⟨z_752, rfl, hz_752, y_752⟩ := hq9
  obtain ⟨ez9, bo9⟩ := b_variable (m2 := m2) hcc hC fh9 x_741.2 y_752.2.2
  refine tz_pop (pc := 755) dL_law_755 rfl ?_
  refine tz_goto (pc := 756) (tgt := 1330) dL_law_756 (by decide) ?_
  exact nx _ _ _ _ _ _ ⟨(LV.q h cw_741 y_752.1 y_752.2.1 bo9 ⟨by omega, by omega⟩ (by omega) (by omega)), (RVX.lo (⟨cw_741.1.elim (fun m1 h1 => rv_variable hcc hC h1 hrv.1 x_741.2), hrv.2.of (fun c a b => cw_741.2.2.2 c (Or.inl ⟨a, b⟩)) cw_741.2.2.1.2.1⟩) (fun c hc => y_752.1.2.1 c (Or.inl hc)))⟩

set_option maxHeartbeats 4000000 in
set_option maxRecDepth 100000 in
theorem law_make {l : Launch} {G : tb_G} {Lx : Nat} {xs : Nat → Int32} {k1 k2 n : Nat} {J : zJ} (hl : l.stackTraces = false) (i : Int) (hi : 0 ≤ i ∧ i + 6 ≤ (Lx : Int)) (hx : Lx ≤ 3072) (d5 d6 : Option Value) (h : LVr J n k1 k2 i) (nx : ∀ (k1 k2 n : Nat) (J : zJ) (d5 d6 : Option Value), LVr J n k1 k2 (i + 6) → tz_At l G M_L_law room_1 (some (Lx, xs)) tb_LZ k1 k2 n J 1330 [some (.ref tb_sc), some (.ref 0), some (.ref 164), some (.ref 183), some (zi i), d5, d6] []) : tz_At l G M_L_law room_1 (some (Lx, xs)) tb_LZ k1 k2 n J 759 [some (.ref tb_sc), some (.ref 0), some (.ref 164), some (.ref 183), some (zi i), d5, d6] [] := by
  obtain ⟨h, hrv⟩ := h
  obtain ⟨⟨m, hC⟩, ⟨m2, hM⟩, h3, h4, h5, ⟨h6, h7⟩, pn, RR, hcc, huu, him⟩ := id h
  have h9 : J 145 10 < 1000000000 := by omega
  have hnb : n ≤ tb_sc := by show n ≤ 1000000; omega
  refine tz_aload_n (pc := 759) dL_law_759 rfl rfl ?_
  refine tz_aload_n (pc := 760) dL_law_760 rfl rfl ?_
  refine tz_iload (pc := 761) dL_law_761 rfl ?_
  refine tz_iconst (pc := 763) dL_law_763 ?_
  refine tz_iadd (pc := 764) (v := i + 1) dL_law_764 rfl ?_
  refine tz_sld (pc := 765) (z := (i + 1)) rfl dL_law_765 (by omega) (by omega) (fun r_765 => ?_)
  refine tz_aload_n (pc := 766) dL_law_766 rfl rfl ?_
  refine tz_iload (pc := 767) dL_law_767 rfl ?_
  refine tz_iconst (pc := 769) dL_law_769 ?_
  refine tz_iadd (pc := 770) (v := i + 2) dL_law_770 rfl ?_
  refine tz_sld (pc := 771) (z := (i + 2)) rfl dL_law_771 (by omega) (by omega) (fun r_771 => ?_)
  refine tz_aload_n (pc := 772) dL_law_772 rfl rfl ?_
  refine tz_iload (pc := 773) dL_law_773 rfl ?_
  refine tz_iconst (pc := 775) dL_law_775 ?_
  refine tz_iadd (pc := 776) (v := i + 3) dL_law_776 rfl ?_
  refine tz_sld (pc := 777) (z := (i + 3)) rfl dL_law_777 (by omega) (by omega) (fun r_777 => ?_)
  refine tz_aload_n (pc := 778) dL_law_778 rfl rfl ?_
  refine tz_iload (pc := 779) dL_law_779 rfl ?_
  refine tz_iconst (pc := 781) dL_law_781 ?_
  refine tz_iadd (pc := 782) (v := i + 4) dL_law_782 rfl ?_
  refine tz_sld (pc := 783) (z := (i + 4)) rfl dL_law_783 (by omega) (by omega) (fun r_783 => ?_)
  refine tz_cV (pc := 784) (v_make hl _ _ _ _ _ _ (z_rg _) (z_rg _) (z_rg _) (z_rg _) m (tbz J) pn RR hC h9 hcc rfl) vl_L_116 dL_law_784 o_0 rfl rfl (Nat.le_of_ble_eq_true rfl) ⟨(Nat.le_of_ble_eq_true rfl), (Nat.le_of_ble_eq_true rfl)⟩ rfl rfl (show k1 ≤ 601024 by omega) (show k2 ≤ 7293034 by omega) (fun r9 J_784 hq9 => ?_)
  obtain ⟨z_784, rfl, hz_784, x_784⟩ := hq9
  have cw_784 : CW J_784 J := CW.c x_784.1
  have fh9 : ∀ c, 164 ≤ c → c < 183 → J_784 c = J c := fun c x y => cw_784.2.2.2 c (Or.inr (Or.inr ⟨x, y⟩))
  have hM2 := hM.mid fh9
  have hu2 := huu.mid fh9
  refine tz_pop (pc := 787) dL_law_787 rfl ?_
  refine tz_aload_n (pc := 788) dL_law_788 rfl rfl ?_
  refine tz_aload_n (pc := 789) dL_law_789 rfl rfl ?_
  refine tz_iload (pc := 790) dL_law_790 rfl ?_
  refine tz_iconst (pc := 792) dL_law_792 ?_
  refine tz_iadd (pc := 793) (v := i + 1) dL_law_793 rfl ?_
  refine tz_sld (pc := 794) (z := (i + 1)) rfl dL_law_794 (by omega) (by omega) (fun r_794 => ?_)
  refine tz_aload_n (pc := 795) dL_law_795 rfl rfl ?_
  refine tz_iload (pc := 796) dL_law_796 rfl ?_
  refine tz_iconst (pc := 798) dL_law_798 ?_
  refine tz_iadd (pc := 799) (v := i + 2) dL_law_799 rfl ?_
  refine tz_sld (pc := 800) (z := (i + 2)) rfl dL_law_800 (by omega) (by omega) (fun r_800 => ?_)
  refine tz_aload_n (pc := 801) dL_law_801 rfl rfl ?_
  refine tz_iload (pc := 802) dL_law_802 rfl ?_
  refine tz_iconst (pc := 804) dL_law_804 ?_
  refine tz_iadd (pc := 805) (v := i + 3) dL_law_805 rfl ?_
  refine tz_sld (pc := 806) (z := (i + 3)) rfl dL_law_806 (by omega) (by omega) (fun r_806 => ?_)
  refine tz_aload_n (pc := 807) dL_law_807 rfl rfl ?_
  refine tz_iload (pc := 808) dL_law_808 rfl ?_
  refine tz_iconst (pc := 810) dL_law_810 ?_
  refine tz_iadd (pc := 811) (v := i + 4) dL_law_811 rfl ?_
  refine tz_sld (pc := 812) (z := (i + 4)) rfl dL_law_812 (by omega) (by omega) (fun r_812 => ?_)
  refine tz_cV (pc := 813) (v_qmake hl _ _ _ _ _ _ (z_rg _) (z_rg _) (z_rg _) (z_rg _) m2 pn RR hM2 hu2) vl_L_120 dL_law_813 o_164 rfl rfl (Nat.le_of_ble_eq_true rfl) ⟨(Nat.le_of_ble_eq_true rfl), (Nat.le_of_ble_eq_true rfl)⟩ rfl rfl (show k1 ≤ 601024 by omega) (show k2 ≤ 7293034 by omega) (fun r9 J_813 hq9 => ?_)
  obtain ⟨z_813, rfl, hz_813, y_813⟩ := hq9
  obtain ⟨ez9, bo9⟩ := b_make (m2 := m2) hcc hC fh9 x_784.2 y_813.2.2
  refine tz_pop (pc := 816) dL_law_816 rfl ?_
  refine tz_goto (pc := 817) (tgt := 1330) dL_law_817 (by decide) ?_
  exact nx _ _ _ _ _ _ ⟨(LV.q h cw_784 y_813.1 y_813.2.1 bo9 ⟨by omega, by omega⟩ (by omega) (by omega)), (RVX.lo (⟨cw_784.1.elim (fun m1 h1 => rv_make hcc hC h1 hrv.1 x_784.2), hrv.2.of (fun c a b => cw_784.2.2.2 c (Or.inl ⟨a, b⟩)) cw_784.2.2.1.2.1⟩) (fun c hc => y_813.1.2.1 c (Or.inl hc)))⟩

set_option maxHeartbeats 4000000 in
set_option maxRecDepth 100000 in
theorem law_bind {l : Launch} {G : tb_G} {Lx : Nat} {xs : Nat → Int32} {k1 k2 n : Nat} {J : zJ} (hl : l.stackTraces = false) (i : Int) (hi : 0 ≤ i ∧ i + 6 ≤ (Lx : Int)) (hx : Lx ≤ 3072) (d5 d6 : Option Value) (h : LVr J n k1 k2 i) (nx : ∀ (k1 k2 n : Nat) (J : zJ) (d5 d6 : Option Value), LVr J n k1 k2 (i + 6) → tz_At l G M_L_law room_1 (some (Lx, xs)) tb_LZ k1 k2 n J 1330 [some (.ref tb_sc), some (.ref 0), some (.ref 164), some (.ref 183), some (zi i), d5, d6] []) : tz_At l G M_L_law room_1 (some (Lx, xs)) tb_LZ k1 k2 n J 820 [some (.ref tb_sc), some (.ref 0), some (.ref 164), some (.ref 183), some (zi i), d5, d6] [] := by
  obtain ⟨h, hrv⟩ := h
  obtain ⟨⟨m, hC⟩, ⟨m2, hM⟩, h3, h4, h5, ⟨h6, h7⟩, pn, RR, hcc, huu, him⟩ := id h
  have h9 : J 145 10 < 1000000000 := by omega
  have hnb : n ≤ tb_sc := by show n ≤ 1000000; omega
  refine tz_aload_n (pc := 820) dL_law_820 rfl rfl ?_
  refine tz_aload_n (pc := 821) dL_law_821 rfl rfl ?_
  refine tz_iload (pc := 822) dL_law_822 rfl ?_
  refine tz_iconst (pc := 824) dL_law_824 ?_
  refine tz_iadd (pc := 825) (v := i + 1) dL_law_825 rfl ?_
  refine tz_sld (pc := 826) (z := (i + 1)) rfl dL_law_826 (by omega) (by omega) (fun r_826 => ?_)
  refine tz_aload_n (pc := 827) dL_law_827 rfl rfl ?_
  refine tz_iload (pc := 828) dL_law_828 rfl ?_
  refine tz_iconst (pc := 830) dL_law_830 ?_
  refine tz_iadd (pc := 831) (v := i + 2) dL_law_831 rfl ?_
  refine tz_sld (pc := 832) (z := (i + 2)) rfl dL_law_832 (by omega) (by omega) (fun r_832 => ?_)
  refine tz_cV (pc := 833) (v_bind hl _ _ _ _ (z_rg _) (z_rg _) m (tbz J) pn RR hC h9 hcc rfl) vl_L_121 dL_law_833 o_0 rfl rfl (Nat.le_of_ble_eq_true rfl) ⟨(Nat.le_of_ble_eq_true rfl), (Nat.le_of_ble_eq_true rfl)⟩ rfl rfl (show k1 ≤ 601024 by omega) (show k2 ≤ 7293034 by omega) (fun r9 J_833 hq9 => ?_)
  obtain ⟨z_833, rfl, hz_833, x_833⟩ := hq9
  have cw_833 : CW J_833 J := CW.c x_833.1
  have fh9 : ∀ c, 164 ≤ c → c < 183 → J_833 c = J c := fun c x y => cw_833.2.2.2 c (Or.inr (Or.inr ⟨x, y⟩))
  have hM2 := hM.mid fh9
  have hu2 := huu.mid fh9
  refine tz_pop (pc := 836) dL_law_836 rfl ?_
  refine tz_aload_n (pc := 837) dL_law_837 rfl rfl ?_
  refine tz_aload_n (pc := 838) dL_law_838 rfl rfl ?_
  refine tz_iload (pc := 839) dL_law_839 rfl ?_
  refine tz_iconst (pc := 841) dL_law_841 ?_
  refine tz_iadd (pc := 842) (v := i + 1) dL_law_842 rfl ?_
  refine tz_sld (pc := 843) (z := (i + 1)) rfl dL_law_843 (by omega) (by omega) (fun r_843 => ?_)
  refine tz_aload_n (pc := 844) dL_law_844 rfl rfl ?_
  refine tz_iload (pc := 845) dL_law_845 rfl ?_
  refine tz_iconst (pc := 847) dL_law_847 ?_
  refine tz_iadd (pc := 848) (v := i + 2) dL_law_848 rfl ?_
  refine tz_sld (pc := 849) (z := (i + 2)) rfl dL_law_849 (by omega) (by omega) (fun r_849 => ?_)
  refine tz_cV (pc := 850) (v_qbind hl _ _ _ _ (z_rg _) (z_rg _) m2 pn RR hM2 hu2) vl_L_124 dL_law_850 o_164 rfl rfl (Nat.le_of_ble_eq_true rfl) ⟨(Nat.le_of_ble_eq_true rfl), (Nat.le_of_ble_eq_true rfl)⟩ rfl rfl (show k1 ≤ 601024 by omega) (show k2 ≤ 7293034 by omega) (fun r9 J_850 hq9 => ?_)
  obtain ⟨z_850, rfl, hz_850, y_850⟩ := hq9
  obtain ⟨ez9, bo9⟩ := b_bind (m2 := m2) hcc hC fh9 x_833.2 y_850.2.2
  refine tz_pop (pc := 853) dL_law_853 rfl ?_
  refine tz_goto (pc := 854) (tgt := 1330) dL_law_854 (by decide) ?_
  exact nx _ _ _ _ _ _ ⟨(LV.q h cw_833 y_850.1 y_850.2.1 bo9 ⟨by omega, by omega⟩ (by omega) (by omega)), (RVX.lo (⟨cw_833.1.elim (fun m1 h1 => rv_bind hcc hC h1 hrv.1 x_833.2), hrv.2.of (fun c a b => cw_833.2.2.2 c (Or.inl ⟨a, b⟩)) cw_833.2.2.1.2.1⟩) (fun c hc => y_850.1.2.1 c (Or.inl hc)))⟩

set_option maxHeartbeats 4000000 in
set_option maxRecDepth 100000 in
theorem law_apply {l : Launch} {G : tb_G} {Lx : Nat} {xs : Nat → Int32} {k1 k2 n : Nat} {J : zJ} (hl : l.stackTraces = false) (i : Int) (hi : 0 ≤ i ∧ i + 6 ≤ (Lx : Int)) (hx : Lx ≤ 3072) (d5 d6 : Option Value) (h : LVr J n k1 k2 i) (nx : ∀ (k1 k2 n : Nat) (J : zJ) (d5 d6 : Option Value), LVr J n k1 k2 (i + 6) → tz_At l G M_L_law room_1 (some (Lx, xs)) tb_LZ k1 k2 n J 1330 [some (.ref tb_sc), some (.ref 0), some (.ref 164), some (.ref 183), some (zi i), d5, d6] []) : tz_At l G M_L_law room_1 (some (Lx, xs)) tb_LZ k1 k2 n J 857 [some (.ref tb_sc), some (.ref 0), some (.ref 164), some (.ref 183), some (zi i), d5, d6] [] := by
  obtain ⟨h, hrv⟩ := h
  obtain ⟨⟨m, hC⟩, ⟨m2, hM⟩, h3, h4, h5, ⟨h6, h7⟩, pn, RR, hcc, huu, him⟩ := id h
  have h9 : J 145 10 < 1000000000 := by omega
  have hnb : n ≤ tb_sc := by show n ≤ 1000000; omega
  refine tz_aload_n (pc := 857) dL_law_857 rfl rfl ?_
  refine tz_aload_n (pc := 858) dL_law_858 rfl rfl ?_
  refine tz_iload (pc := 859) dL_law_859 rfl ?_
  refine tz_iconst (pc := 861) dL_law_861 ?_
  refine tz_iadd (pc := 862) (v := i + 1) dL_law_862 rfl ?_
  refine tz_sld (pc := 863) (z := (i + 1)) rfl dL_law_863 (by omega) (by omega) (fun r_863 => ?_)
  refine tz_cV (pc := 864) (v_apply hl _ _ _ (z_rg _) m (tbz J) pn RR hC h9 hcc rfl) vl_L_125 dL_law_864 o_0 rfl rfl (Nat.le_of_ble_eq_true rfl) ⟨(Nat.le_of_ble_eq_true rfl), (Nat.le_of_ble_eq_true rfl)⟩ rfl rfl (show k1 ≤ 601024 by omega) (show k2 ≤ 7293034 by omega) (fun r9 J_864 hq9 => ?_)
  obtain ⟨z_864, rfl, hz_864, x_864⟩ := hq9
  have cw_864 : CW J_864 J := CW.c x_864.1
  have fh9 : ∀ c, 164 ≤ c → c < 183 → J_864 c = J c := fun c x y => cw_864.2.2.2 c (Or.inr (Or.inr ⟨x, y⟩))
  have hM2 := hM.mid fh9
  have hu2 := huu.mid fh9
  refine tz_pop (pc := 867) dL_law_867 rfl ?_
  refine tz_aload_n (pc := 868) dL_law_868 rfl rfl ?_
  refine tz_aload_n (pc := 869) dL_law_869 rfl rfl ?_
  refine tz_iload (pc := 870) dL_law_870 rfl ?_
  refine tz_iconst (pc := 872) dL_law_872 ?_
  refine tz_iadd (pc := 873) (v := i + 1) dL_law_873 rfl ?_
  refine tz_sld (pc := 874) (z := (i + 1)) rfl dL_law_874 (by omega) (by omega) (fun r_874 => ?_)
  refine tz_cV (pc := 875) (v_qapply hl _ _ _ (z_rg _) m2 pn RR hM2 hu2) vl_L_128 dL_law_875 o_164 rfl rfl (Nat.le_of_ble_eq_true rfl) ⟨(Nat.le_of_ble_eq_true rfl), (Nat.le_of_ble_eq_true rfl)⟩ rfl rfl (show k1 ≤ 601024 by omega) (show k2 ≤ 7293034 by omega) (fun r9 J_875 hq9 => ?_)
  obtain ⟨z_875, rfl, hz_875, y_875⟩ := hq9
  obtain ⟨ez9, bo9⟩ := b_apply (m2 := m2) hcc hC fh9 x_864.2 y_875.2.2
  refine tz_pop (pc := 878) dL_law_878 rfl ?_
  refine tz_goto (pc := 879) (tgt := 1330) dL_law_879 (by decide) ?_
  exact nx _ _ _ _ _ _ ⟨(LV.q h cw_864 y_875.1 y_875.2.1 bo9 ⟨by omega, by omega⟩ (by omega) (by omega)), (RVX.lo (⟨cw_864.1.elim (fun m1 h1 => rv_apply hcc hC h1 hrv.1 x_864.2), hrv.2.of (fun c a b => cw_864.2.2.2 c (Or.inl ⟨a, b⟩)) cw_864.2.2.1.2.1⟩) (fun c hc => y_875.1.2.1 c (Or.inl hc)))⟩

set_option maxHeartbeats 4000000 in
set_option maxRecDepth 100000 in
theorem law_close {l : Launch} {G : tb_G} {Lx : Nat} {xs : Nat → Int32} {k1 k2 n : Nat} {J : zJ} (hl : l.stackTraces = false) (i : Int) (hi : 0 ≤ i ∧ i + 6 ≤ (Lx : Int)) (hx : Lx ≤ 3072) (d5 d6 : Option Value) (h : LVr J n k1 k2 i) (nx : ∀ (k1 k2 n : Nat) (J : zJ) (d5 d6 : Option Value), LVr J n k1 k2 (i + 6) → tz_At l G M_L_law room_1 (some (Lx, xs)) tb_LZ k1 k2 n J 1330 [some (.ref tb_sc), some (.ref 0), some (.ref 164), some (.ref 183), some (zi i), d5, d6] []) : tz_At l G M_L_law room_1 (some (Lx, xs)) tb_LZ k1 k2 n J 882 [some (.ref tb_sc), some (.ref 0), some (.ref 164), some (.ref 183), some (zi i), d5, d6] [] := by
  obtain ⟨h, hrv⟩ := h
  obtain ⟨⟨m, hC⟩, ⟨m2, hM⟩, h3, h4, h5, ⟨h6, h7⟩, pn, RR, hcc, huu, him⟩ := id h
  have h9 : J 145 10 < 1000000000 := by omega
  have hnb : n ≤ tb_sc := by show n ≤ 1000000; omega
  refine tz_aload_n (pc := 882) dL_law_882 rfl rfl ?_
  refine tz_aload_n (pc := 883) dL_law_883 rfl rfl ?_
  refine tz_iload (pc := 884) dL_law_884 rfl ?_
  refine tz_iconst (pc := 886) dL_law_886 ?_
  refine tz_iadd (pc := 887) (v := i + 1) dL_law_887 rfl ?_
  refine tz_sld (pc := 888) (z := (i + 1)) rfl dL_law_888 (by omega) (by omega) (fun r_888 => ?_)
  refine tz_cV (pc := 889) (v_close hl _ _ _ (z_rg _) m (tbz J) pn RR hC h9 hcc rfl) vl_L_129 dL_law_889 o_0 rfl rfl (Nat.le_of_ble_eq_true rfl) ⟨(Nat.le_of_ble_eq_true rfl), (Nat.le_of_ble_eq_true rfl)⟩ rfl rfl (show k1 ≤ 601024 by omega) (show k2 ≤ 7293034 by omega) (fun r9 J_889 hq9 => ?_)
  obtain ⟨z_889, rfl, hz_889, x_889⟩ := hq9
  have cw_889 : CW J_889 J := CW.c x_889.1
  have fh9 : ∀ c, 164 ≤ c → c < 183 → J_889 c = J c := fun c x y => cw_889.2.2.2 c (Or.inr (Or.inr ⟨x, y⟩))
  have hM2 := hM.mid fh9
  have hu2 := huu.mid fh9
  refine tz_pop (pc := 892) dL_law_892 rfl ?_
  refine tz_aload_n (pc := 893) dL_law_893 rfl rfl ?_
  refine tz_aload_n (pc := 894) dL_law_894 rfl rfl ?_
  refine tz_iload (pc := 895) dL_law_895 rfl ?_
  refine tz_iconst (pc := 897) dL_law_897 ?_
  refine tz_iadd (pc := 898) (v := i + 1) dL_law_898 rfl ?_
  refine tz_sld (pc := 899) (z := (i + 1)) rfl dL_law_899 (by omega) (by omega) (fun r_899 => ?_)
  refine tz_cV (pc := 900) (v_qclose hl _ _ _ (z_rg _) m2 pn RR hM2 hu2) vl_L_132 dL_law_900 o_164 rfl rfl (Nat.le_of_ble_eq_true rfl) ⟨(Nat.le_of_ble_eq_true rfl), (Nat.le_of_ble_eq_true rfl)⟩ rfl rfl (show k1 ≤ 601024 by omega) (show k2 ≤ 7293034 by omega) (fun r9 J_900 hq9 => ?_)
  obtain ⟨z_900, rfl, hz_900, y_900⟩ := hq9
  obtain ⟨ez9, bo9⟩ := b_close (m2 := m2) hcc hC fh9 x_889.2 y_900.2.2
  refine tz_pop (pc := 903) dL_law_903 rfl ?_
  refine tz_goto (pc := 904) (tgt := 1330) dL_law_904 (by decide) ?_
  exact nx _ _ _ _ _ _ ⟨(LV.q h cw_889 y_900.1 y_900.2.1 bo9 ⟨by omega, by omega⟩ (by omega) (by omega)), (RVX.lo (⟨cw_889.1.elim (fun m1 h1 => rv_close hcc hC h1 hrv.1 x_889.2), hrv.2.of (fun c a b => cw_889.2.2.2 c (Or.inl ⟨a, b⟩)) cw_889.2.2.1.2.1⟩) (fun c hc => y_900.1.2.1 c (Or.inl hc)))⟩

set_option maxHeartbeats 4000000 in
set_option maxRecDepth 100000 in
theorem law_unify {l : Launch} {G : tb_G} {Lx : Nat} {xs : Nat → Int32} {k1 k2 n : Nat} {J : zJ} (hl : l.stackTraces = false) (i : Int) (hi : 0 ≤ i ∧ i + 6 ≤ (Lx : Int)) (hx : Lx ≤ 3072) (d5 d6 : Option Value) (h : LVr J n k1 k2 i) (nx : ∀ (k1 k2 n : Nat) (J : zJ) (d5 d6 : Option Value), LVr J n k1 k2 (i + 6) → tz_At l G M_L_law room_1 (some (Lx, xs)) tb_LZ k1 k2 n J 1330 [some (.ref tb_sc), some (.ref 0), some (.ref 164), some (.ref 183), some (zi i), d5, d6] []) : tz_At l G M_L_law room_1 (some (Lx, xs)) tb_LZ k1 k2 n J 907 [some (.ref tb_sc), some (.ref 0), some (.ref 164), some (.ref 183), some (zi i), d5, d6] [] := by
  obtain ⟨h, hrv⟩ := h
  obtain ⟨⟨m, hC⟩, ⟨m2, hM⟩, h3, h4, h5, ⟨h6, h7⟩, pn, RR, hcc, huu, him⟩ := id h
  have h9 : J 145 10 < 1000000000 := by omega
  have hnb : n ≤ tb_sc := by show n ≤ 1000000; omega
  refine tz_aload_n (pc := 907) dL_law_907 rfl rfl ?_
  refine tz_aload_n (pc := 908) dL_law_908 rfl rfl ?_
  refine tz_iload (pc := 909) dL_law_909 rfl ?_
  refine tz_iconst (pc := 911) dL_law_911 ?_
  refine tz_iadd (pc := 912) (v := i + 1) dL_law_912 rfl ?_
  refine tz_sld (pc := 913) (z := (i + 1)) rfl dL_law_913 (by omega) (by omega) (fun r_913 => ?_)
  refine tz_aload_n (pc := 914) dL_law_914 rfl rfl ?_
  refine tz_iload (pc := 915) dL_law_915 rfl ?_
  refine tz_iconst (pc := 917) dL_law_917 ?_
  refine tz_iadd (pc := 918) (v := i + 2) dL_law_918 rfl ?_
  refine tz_sld (pc := 919) (z := (i + 2)) rfl dL_law_919 (by omega) (by omega) (fun r_919 => ?_)
  refine tz_cV (pc := 920) (v_unify hl _ _ _ _ (z_rg _) (z_rg _) m (tbz J) pn RR hC h9 hcc rfl) vl_L_133 dL_law_920 o_0 rfl rfl (Nat.le_of_ble_eq_true rfl) ⟨(Nat.le_of_ble_eq_true rfl), (Nat.le_of_ble_eq_true rfl)⟩ rfl rfl (show k1 ≤ 601024 by omega) (show k2 ≤ 7293034 by omega) (fun r9 J_920 hq9 => ?_)
  obtain ⟨z_920, rfl, hz_920, x_920⟩ := hq9
  have cw_920 : CW J_920 J := CW.c x_920.1
  have fh9 : ∀ c, 164 ≤ c → c < 183 → J_920 c = J c := fun c x y => cw_920.2.2.2 c (Or.inr (Or.inr ⟨x, y⟩))
  have hM2 := hM.mid fh9
  have hu2 := huu.mid fh9
  refine tz_pop (pc := 923) dL_law_923 rfl ?_
  refine tz_aload_n (pc := 924) dL_law_924 rfl rfl ?_
  refine tz_aload_n (pc := 925) dL_law_925 rfl rfl ?_
  refine tz_iload (pc := 926) dL_law_926 rfl ?_
  refine tz_iconst (pc := 928) dL_law_928 ?_
  refine tz_iadd (pc := 929) (v := i + 1) dL_law_929 rfl ?_
  refine tz_sld (pc := 930) (z := (i + 1)) rfl dL_law_930 (by omega) (by omega) (fun r_930 => ?_)
  refine tz_aload_n (pc := 931) dL_law_931 rfl rfl ?_
  refine tz_iload (pc := 932) dL_law_932 rfl ?_
  refine tz_iconst (pc := 934) dL_law_934 ?_
  refine tz_iadd (pc := 935) (v := i + 2) dL_law_935 rfl ?_
  refine tz_sld (pc := 936) (z := (i + 2)) rfl dL_law_936 (by omega) (by omega) (fun r_936 => ?_)
  refine tz_cV (pc := 937) (v_qunify hl _ _ _ _ (z_rg _) (z_rg _) m2 pn RR hM2 hu2) vl_L_136 dL_law_937 o_164 rfl rfl (Nat.le_of_ble_eq_true rfl) ⟨(Nat.le_of_ble_eq_true rfl), (Nat.le_of_ble_eq_true rfl)⟩ rfl rfl (show k1 ≤ 601024 by omega) (show k2 ≤ 7293034 by omega) (fun r9 J_937 hq9 => ?_)
  obtain ⟨z_937, rfl, hz_937, y_937⟩ := hq9
  obtain ⟨ez9, bo9⟩ := b_unify (m2 := m2) hcc hC fh9 hM.1 x_920.2 y_937.2.2
  refine tz_pop (pc := 940) dL_law_940 rfl ?_
  refine tz_goto (pc := 941) (tgt := 1330) dL_law_941 (by decide) ?_
  exact nx _ _ _ _ _ _ ⟨(LV.q h cw_920 y_937.1 y_937.2.1 bo9 ⟨by omega, by omega⟩ (by omega) (by omega)), (RVX.lo (⟨cw_920.1.elim (fun m1 h1 => rv_unify hcc hC h1 hrv.1 x_920.2), hrv.2.of (fun c a b => cw_920.2.2.2 c (Or.inl ⟨a, b⟩)) cw_920.2.2.1.2.1⟩) (fun c hc => y_937.1.2.1 c (Or.inl hc)))⟩

set_option maxHeartbeats 4000000 in
set_option maxRecDepth 100000 in
theorem law_match {l : Launch} {G : tb_G} {Lx : Nat} {xs : Nat → Int32} {k1 k2 n : Nat} {J : zJ} (hl : l.stackTraces = false) (i : Int) (hi : 0 ≤ i ∧ i + 6 ≤ (Lx : Int)) (hx : Lx ≤ 3072) (d5 d6 : Option Value) (h : LVr J n k1 k2 i) (nx : ∀ (k1 k2 n : Nat) (J : zJ) (d5 d6 : Option Value), LVr J n k1 k2 (i + 6) → tz_At l G M_L_law room_1 (some (Lx, xs)) tb_LZ k1 k2 n J 1330 [some (.ref tb_sc), some (.ref 0), some (.ref 164), some (.ref 183), some (zi i), d5, d6] []) : tz_At l G M_L_law room_1 (some (Lx, xs)) tb_LZ k1 k2 n J 944 [some (.ref tb_sc), some (.ref 0), some (.ref 164), some (.ref 183), some (zi i), d5, d6] [] := by
  obtain ⟨h, hrv⟩ := h
  obtain ⟨⟨m, hC⟩, ⟨m2, hM⟩, h3, h4, h5, ⟨h6, h7⟩, pn, RR, hcc, huu, him⟩ := id h
  have h9 : J 145 10 < 1000000000 := by omega
  have hnb : n ≤ tb_sc := by show n ≤ 1000000; omega
  refine tz_aload_n (pc := 944) dL_law_944 rfl rfl ?_
  refine tz_aload_n (pc := 945) dL_law_945 rfl rfl ?_
  refine tz_iload (pc := 946) dL_law_946 rfl ?_
  refine tz_iconst (pc := 948) dL_law_948 ?_
  refine tz_iadd (pc := 949) (v := i + 1) dL_law_949 rfl ?_
  refine tz_sld (pc := 950) (z := (i + 1)) rfl dL_law_950 (by omega) (by omega) (fun r_950 => ?_)
  refine tz_aload_n (pc := 951) dL_law_951 rfl rfl ?_
  refine tz_iload (pc := 952) dL_law_952 rfl ?_
  refine tz_iconst (pc := 954) dL_law_954 ?_
  refine tz_iadd (pc := 955) (v := i + 2) dL_law_955 rfl ?_
  refine tz_sld (pc := 956) (z := (i + 2)) rfl dL_law_956 (by omega) (by omega) (fun r_956 => ?_)
  refine tz_cV (pc := 957) (v_match hl _ _ _ _ (z_rg _) (z_rg _) m (tbz J) pn RR hC h9 hcc rfl) vl_L_137 dL_law_957 o_0 rfl rfl (Nat.le_of_ble_eq_true rfl) ⟨(Nat.le_of_ble_eq_true rfl), (Nat.le_of_ble_eq_true rfl)⟩ rfl rfl (show k1 ≤ 601024 by omega) (show k2 ≤ 7293034 by omega) (fun r9 J_957 hq9 => ?_)
  obtain ⟨z_957, rfl, hz_957, x_957⟩ := hq9
  have cw_957 : CW J_957 J := CW.c x_957.1
  have fh9 : ∀ c, 164 ≤ c → c < 183 → J_957 c = J c := fun c x y => cw_957.2.2.2 c (Or.inr (Or.inr ⟨x, y⟩))
  have hM2 := hM.mid fh9
  have hu2 := huu.mid fh9
  refine tz_pop (pc := 960) dL_law_960 rfl ?_
  refine tz_aload_n (pc := 961) dL_law_961 rfl rfl ?_
  refine tz_aload_n (pc := 962) dL_law_962 rfl rfl ?_
  refine tz_iload (pc := 963) dL_law_963 rfl ?_
  refine tz_iconst (pc := 965) dL_law_965 ?_
  refine tz_iadd (pc := 966) (v := i + 1) dL_law_966 rfl ?_
  refine tz_sld (pc := 967) (z := (i + 1)) rfl dL_law_967 (by omega) (by omega) (fun r_967 => ?_)
  refine tz_aload_n (pc := 968) dL_law_968 rfl rfl ?_
  refine tz_iload (pc := 969) dL_law_969 rfl ?_
  refine tz_iconst (pc := 971) dL_law_971 ?_
  refine tz_iadd (pc := 972) (v := i + 2) dL_law_972 rfl ?_
  refine tz_sld (pc := 973) (z := (i + 2)) rfl dL_law_973 (by omega) (by omega) (fun r_973 => ?_)
  refine tz_cV (pc := 974) (v_qmatch hl _ _ _ _ (z_rg _) (z_rg _) m2 pn RR hM2 hu2) vl_L_140 dL_law_974 o_164 rfl rfl (Nat.le_of_ble_eq_true rfl) ⟨(Nat.le_of_ble_eq_true rfl), (Nat.le_of_ble_eq_true rfl)⟩ rfl rfl (show k1 ≤ 601024 by omega) (show k2 ≤ 7293034 by omega) (fun r9 J_974 hq9 => ?_)
  obtain ⟨z_974, rfl, hz_974, y_974⟩ := hq9
  obtain ⟨ez9, bo9⟩ := b_match (m2 := m2) hcc hC fh9 x_957.2 y_974.2.2
  refine tz_pop (pc := 977) dL_law_977 rfl ?_
  refine tz_goto (pc := 978) (tgt := 1330) dL_law_978 (by decide) ?_
  exact nx _ _ _ _ _ _ ⟨(LV.q h cw_957 y_974.1 y_974.2.1 bo9 ⟨by omega, by omega⟩ (by omega) (by omega)), (RVX.lo (⟨cw_957.1.elim (fun m1 h1 => rv_match hcc hC h1 hrv.1 x_957.2), hrv.2.of (fun c a b => cw_957.2.2.2 c (Or.inl ⟨a, b⟩)) cw_957.2.2.1.2.1⟩) (fun c hc => y_974.1.2.1 c (Or.inl hc)))⟩

set_option maxHeartbeats 4000000 in
set_option maxRecDepth 100000 in
theorem law_common {l : Launch} {G : tb_G} {Lx : Nat} {xs : Nat → Int32} {k1 k2 n : Nat} {J : zJ} (hl : l.stackTraces = false) (i : Int) (hi : 0 ≤ i ∧ i + 6 ≤ (Lx : Int)) (hx : Lx ≤ 3072) (d5 d6 : Option Value) (h : LVr J n k1 k2 i) (nx : ∀ (k1 k2 n : Nat) (J : zJ) (d5 d6 : Option Value), LVr J n k1 k2 (i + 6) → tz_At l G M_L_law room_1 (some (Lx, xs)) tb_LZ k1 k2 n J 1330 [some (.ref tb_sc), some (.ref 0), some (.ref 164), some (.ref 183), some (zi i), d5, d6] []) : tz_At l G M_L_law room_1 (some (Lx, xs)) tb_LZ k1 k2 n J 981 [some (.ref tb_sc), some (.ref 0), some (.ref 164), some (.ref 183), some (zi i), d5, d6] [] := by
  obtain ⟨h, hrv⟩ := h
  obtain ⟨⟨m, hC⟩, ⟨m2, hM⟩, h3, h4, h5, ⟨h6, h7⟩, pn, RR, hcc, huu, him⟩ := id h
  have h9 : J 145 10 < 1000000000 := by omega
  have hnb : n ≤ tb_sc := by show n ≤ 1000000; omega
  refine tz_aload_n (pc := 981) dL_law_981 rfl rfl ?_
  refine tz_aload_n (pc := 982) dL_law_982 rfl rfl ?_
  refine tz_iload (pc := 983) dL_law_983 rfl ?_
  refine tz_iconst (pc := 985) dL_law_985 ?_
  refine tz_iadd (pc := 986) (v := i + 1) dL_law_986 rfl ?_
  refine tz_sld (pc := 987) (z := (i + 1)) rfl dL_law_987 (by omega) (by omega) (fun r_987 => ?_)
  refine tz_aload_n (pc := 988) dL_law_988 rfl rfl ?_
  refine tz_iload (pc := 989) dL_law_989 rfl ?_
  refine tz_iconst (pc := 991) dL_law_991 ?_
  refine tz_iadd (pc := 992) (v := i + 2) dL_law_992 rfl ?_
  refine tz_sld (pc := 993) (z := (i + 2)) rfl dL_law_993 (by omega) (by omega) (fun r_993 => ?_)
  refine tz_cV (pc := 994) (v_common hl _ _ _ _ (z_rg _) (z_rg _) m (tbz J) pn RR hC h9 hcc rfl) vl_L_141 dL_law_994 o_0 rfl rfl (Nat.le_of_ble_eq_true rfl) ⟨(Nat.le_of_ble_eq_true rfl), (Nat.le_of_ble_eq_true rfl)⟩ rfl rfl (show k1 ≤ 601024 by omega) (show k2 ≤ 7293034 by omega) (fun r9 J_994 hq9 => ?_)
  obtain ⟨z_994, rfl, hz_994, x_994⟩ := hq9
  have cw_994 : CW J_994 J := CW.c x_994.1
  have fh9 : ∀ c, 164 ≤ c → c < 183 → J_994 c = J c := fun c x y => cw_994.2.2.2 c (Or.inr (Or.inr ⟨x, y⟩))
  have hM2 := hM.mid fh9
  have hu2 := huu.mid fh9
  refine tz_pop (pc := 997) dL_law_997 rfl ?_
  refine tz_aload_n (pc := 998) dL_law_998 rfl rfl ?_
  refine tz_aload_n (pc := 999) dL_law_999 rfl rfl ?_
  refine tz_iload (pc := 1000) dL_law_1000 rfl ?_
  refine tz_iconst (pc := 1002) dL_law_1002 ?_
  refine tz_iadd (pc := 1003) (v := i + 1) dL_law_1003 rfl ?_
  refine tz_sld (pc := 1004) (z := (i + 1)) rfl dL_law_1004 (by omega) (by omega) (fun r_1004 => ?_)
  refine tz_aload_n (pc := 1005) dL_law_1005 rfl rfl ?_
  refine tz_iload (pc := 1006) dL_law_1006 rfl ?_
  refine tz_iconst (pc := 1008) dL_law_1008 ?_
  refine tz_iadd (pc := 1009) (v := i + 2) dL_law_1009 rfl ?_
  refine tz_sld (pc := 1010) (z := (i + 2)) rfl dL_law_1010 (by omega) (by omega) (fun r_1010 => ?_)
  refine tz_cV (pc := 1011) (v_qcommon hl _ _ _ _ (z_rg _) (z_rg _) m2 pn RR hM2 hu2) vl_L_144 dL_law_1011 o_164 rfl rfl (Nat.le_of_ble_eq_true rfl) ⟨(Nat.le_of_ble_eq_true rfl), (Nat.le_of_ble_eq_true rfl)⟩ rfl rfl (show k1 ≤ 601024 by omega) (show k2 ≤ 7293034 by omega) (fun r9 J_1011 hq9 => ?_)
  obtain ⟨z_1011, rfl, hz_1011, y_1011⟩ := hq9
  have bo9 := b_common (m2 := m2) hcc hC fh9 x_994.2 y_1011.2.2
  refine tz_pop (pc := 1014) dL_law_1014 rfl ?_
  refine tz_goto (pc := 1015) (tgt := 1330) dL_law_1015 (by decide) ?_
  exact nx _ _ _ _ _ _ ⟨(LV.q h cw_994 y_1011.1 y_1011.2.1 bo9 ⟨by omega, by omega⟩ (by omega) (by omega)), (RVX.lo (⟨cw_994.1.elim (fun m1 h1 => rv_common hcc hC h1 hrv.1 x_994.2), hrv.2.of (fun c a b => cw_994.2.2.2 c (Or.inl ⟨a, b⟩)) cw_994.2.2.1.2.1⟩) (fun c hc => y_1011.1.2.1 c (Or.inl hc)))⟩

set_option maxHeartbeats 4000000 in
set_option maxRecDepth 100000 in
theorem law_normal {l : Launch} {G : tb_G} {Lx : Nat} {xs : Nat → Int32} {k1 k2 n : Nat} {J : zJ} (hl : l.stackTraces = false) (i : Int) (hi : 0 ≤ i ∧ i + 6 ≤ (Lx : Int)) (hx : Lx ≤ 3072) (d5 d6 : Option Value) (h : LVr J n k1 k2 i) (nx : ∀ (k1 k2 n : Nat) (J : zJ) (d5 d6 : Option Value), LVr J n k1 k2 (i + 6) → tz_At l G M_L_law room_1 (some (Lx, xs)) tb_LZ k1 k2 n J 1330 [some (.ref tb_sc), some (.ref 0), some (.ref 164), some (.ref 183), some (zi i), d5, d6] []) : tz_At l G M_L_law room_1 (some (Lx, xs)) tb_LZ k1 k2 n J 1018 [some (.ref tb_sc), some (.ref 0), some (.ref 164), some (.ref 183), some (zi i), d5, d6] [] := by
  obtain ⟨h, hrv⟩ := h
  obtain ⟨⟨m, hC⟩, ⟨m2, hM⟩, h3, h4, h5, ⟨h6, h7⟩, pn, RR, hcc, huu, him⟩ := id h
  have h9 : J 145 10 < 1000000000 := by omega
  have hnb : n ≤ tb_sc := by show n ≤ 1000000; omega
  refine tz_aload_n (pc := 1018) dL_law_1018 rfl rfl ?_
  refine tz_aload_n (pc := 1019) dL_law_1019 rfl rfl ?_
  refine tz_iload (pc := 1020) dL_law_1020 rfl ?_
  refine tz_iconst (pc := 1022) dL_law_1022 ?_
  refine tz_iadd (pc := 1023) (v := i + 1) dL_law_1023 rfl ?_
  refine tz_sld (pc := 1024) (z := (i + 1)) rfl dL_law_1024 (by omega) (by omega) (fun r_1024 => ?_)
  refine tz_cV (pc := 1025) (v_normal hl _ _ _ (z_rg _) m (tbz J) pn RR hC h9 hcc rfl (show tbz J 165 40 ≤ tbz J 165 39 from hM.2.1.2.1.2.1.2)) vl_L_145 dL_law_1025 o_0 rfl rfl (Nat.le_of_ble_eq_true rfl) ⟨(Nat.le_of_ble_eq_true rfl), (Nat.le_of_ble_eq_true rfl)⟩ rfl rfl (show k1 ≤ 601024 by omega) (show k2 ≤ 7293034 by omega) (fun r9 J_1025 hq9 => ?_)
  obtain ⟨z_1025, rfl, hz_1025, x_1025⟩ := hq9
  have cw_1025 : CW J_1025 J := CW.c x_1025.1
  have fh9 : ∀ c, 164 ≤ c → c < 183 → J_1025 c = J c := fun c x y => cw_1025.2.2.2 c (Or.inr (Or.inr ⟨x, y⟩))
  have hM2 := hM.mid fh9
  have hu2 := huu.mid fh9
  refine tz_pop (pc := 1028) dL_law_1028 rfl ?_
  refine tz_aload_n (pc := 1029) dL_law_1029 rfl rfl ?_
  refine tz_aload_n (pc := 1030) dL_law_1030 rfl rfl ?_
  refine tz_iload (pc := 1031) dL_law_1031 rfl ?_
  refine tz_iconst (pc := 1033) dL_law_1033 ?_
  refine tz_iadd (pc := 1034) (v := i + 1) dL_law_1034 rfl ?_
  refine tz_sld (pc := 1035) (z := (i + 1)) rfl dL_law_1035 (by omega) (by omega) (fun r_1035 => ?_)
  refine tz_cV (pc := 1036) (v_qnormal hl _ _ _ (z_rg _) m2 pn RR hM2 hu2) vl_L_148 dL_law_1036 o_164 rfl rfl (Nat.le_of_ble_eq_true rfl) ⟨(Nat.le_of_ble_eq_true rfl), (Nat.le_of_ble_eq_true rfl)⟩ rfl rfl (show k1 ≤ 601024 by omega) (show k2 ≤ 7293034 by omega) (fun r9 J_1036 hq9 => ?_)
  obtain ⟨z_1036, rfl, hz_1036, y_1036⟩ := hq9
  obtain ⟨ez9, bo9⟩ := b_normal (m2 := m2) hcc hC fh9 x_1025.2 y_1036.2.2
  refine tz_pop (pc := 1039) dL_law_1039 rfl ?_
  refine tz_goto (pc := 1040) (tgt := 1330) dL_law_1040 (by decide) ?_
  exact nx _ _ _ _ _ _ ⟨(LV.q h cw_1025 y_1036.1 y_1036.2.1 bo9 ⟨by omega, by omega⟩ (by omega) (by omega)), (RVX.lo (⟨cw_1025.1.elim (fun m1 h1 => rv_normal hcc hC h1 hrv.1 fh9 y_1036.2.2 (show tbz J 165 40 ≤ tbz J 165 39 from hM.2.1.2.1.2.1.2) x_1025.2), hrv.2.of (fun c a b => cw_1025.2.2.2 c (Or.inl ⟨a, b⟩)) cw_1025.2.2.1.2.1⟩) (fun c hc => y_1036.1.2.1 c (Or.inl hc)))⟩

set_option maxHeartbeats 4000000 in
set_option maxRecDepth 100000 in
theorem law_put {l : Launch} {G : tb_G} {Lx : Nat} {xs : Nat → Int32} {k1 k2 n : Nat} {J : zJ} (hl : l.stackTraces = false) (i : Int) (hi : 0 ≤ i ∧ i + 6 ≤ (Lx : Int)) (hx : Lx ≤ 3072) (d5 d6 : Option Value) (h : LVr J n k1 k2 i) (nx : ∀ (k1 k2 n : Nat) (J : zJ) (d5 d6 : Option Value), LVr J n k1 k2 (i + 6) → tz_At l G M_L_law room_1 (some (Lx, xs)) tb_LZ k1 k2 n J 1330 [some (.ref tb_sc), some (.ref 0), some (.ref 164), some (.ref 183), some (zi i), d5, d6] []) : tz_At l G M_L_law room_1 (some (Lx, xs)) tb_LZ k1 k2 n J 1043 [some (.ref tb_sc), some (.ref 0), some (.ref 164), some (.ref 183), some (zi i), d5, d6] [] := by
  obtain ⟨h, hrv⟩ := h
  obtain ⟨⟨m, hC⟩, ⟨m2, hM⟩, h3, h4, h5, ⟨h6, h7⟩, pn, RR, hcc, huu, him⟩ := id h
  have h9 : J 145 10 < 1000000000 := by omega
  have hnb : n ≤ tb_sc := by show n ≤ 1000000; omega
  refine tz_aload_n (pc := 1043) dL_law_1043 rfl rfl ?_
  refine tz_aload_n (pc := 1044) dL_law_1044 rfl rfl ?_
  refine tz_iload (pc := 1045) dL_law_1045 rfl ?_
  refine tz_iconst (pc := 1047) dL_law_1047 ?_
  refine tz_iadd (pc := 1048) (v := i + 1) dL_law_1048 rfl ?_
  refine tz_sld (pc := 1049) (z := (i + 1)) rfl dL_law_1049 (by omega) (by omega) (fun r_1049 => ?_)
  refine tz_aload_n (pc := 1050) dL_law_1050 rfl rfl ?_
  refine tz_iload (pc := 1051) dL_law_1051 rfl ?_
  refine tz_iconst (pc := 1053) dL_law_1053 ?_
  refine tz_iadd (pc := 1054) (v := i + 2) dL_law_1054 rfl ?_
  refine tz_sld (pc := 1055) (z := (i + 2)) rfl dL_law_1055 (by omega) (by omega) (fun r_1055 => ?_)
  refine tz_aload_n (pc := 1056) dL_law_1056 rfl rfl ?_
  refine tz_iload (pc := 1057) dL_law_1057 rfl ?_
  refine tz_iconst (pc := 1059) dL_law_1059 ?_
  refine tz_iadd (pc := 1060) (v := i + 3) dL_law_1060 rfl ?_
  refine tz_sld (pc := 1061) (z := (i + 3)) rfl dL_law_1061 (by omega) (by omega) (fun r_1061 => ?_)
  refine tz_cV (pc := 1062) (v_put hl _ _ _ _ _ (z_rg _) (z_rg _) (z_rg _) m (tbz J) pn RR hC h9 hcc rfl) vl_L_149 dL_law_1062 o_0 rfl rfl (Nat.le_of_ble_eq_true rfl) ⟨(Nat.le_of_ble_eq_true rfl), (Nat.le_of_ble_eq_true rfl)⟩ rfl rfl (show k1 ≤ 601024 by omega) (show k2 ≤ 7293034 by omega) (fun r9 J_1062 hq9 => ?_)
  obtain ⟨z_1062, rfl, hz_1062, x_1062⟩ := hq9
  have cw_1062 : CW J_1062 J := CW.c x_1062.1
  have fh9 : ∀ c, 164 ≤ c → c < 183 → J_1062 c = J c := fun c x y => cw_1062.2.2.2 c (Or.inr (Or.inr ⟨x, y⟩))
  have hM2 := hM.mid fh9
  have hu2 := huu.mid fh9
  refine tz_pop (pc := 1065) dL_law_1065 rfl ?_
  refine tz_aload_n (pc := 1066) dL_law_1066 rfl rfl ?_
  refine tz_aload_n (pc := 1067) dL_law_1067 rfl rfl ?_
  refine tz_iload (pc := 1068) dL_law_1068 rfl ?_
  refine tz_iconst (pc := 1070) dL_law_1070 ?_
  refine tz_iadd (pc := 1071) (v := i + 1) dL_law_1071 rfl ?_
  refine tz_sld (pc := 1072) (z := (i + 1)) rfl dL_law_1072 (by omega) (by omega) (fun r_1072 => ?_)
  refine tz_aload_n (pc := 1073) dL_law_1073 rfl rfl ?_
  refine tz_iload (pc := 1074) dL_law_1074 rfl ?_
  refine tz_iconst (pc := 1076) dL_law_1076 ?_
  refine tz_iadd (pc := 1077) (v := i + 2) dL_law_1077 rfl ?_
  refine tz_sld (pc := 1078) (z := (i + 2)) rfl dL_law_1078 (by omega) (by omega) (fun r_1078 => ?_)
  refine tz_aload_n (pc := 1079) dL_law_1079 rfl rfl ?_
  refine tz_iload (pc := 1080) dL_law_1080 rfl ?_
  refine tz_iconst (pc := 1082) dL_law_1082 ?_
  refine tz_iadd (pc := 1083) (v := i + 3) dL_law_1083 rfl ?_
  refine tz_sld (pc := 1084) (z := (i + 3)) rfl dL_law_1084 (by omega) (by omega) (fun r_1084 => ?_)
  refine tz_cVX (pc := 1085) (v_qput hl _ _ _ _ _ (z_rg _) (z_rg _) (z_rg _) m2 pn RR hM2 hu2 (by omega) (show _ + 7 < 1000000 by omega)) vl_L_152 dL_law_1085 o_164 rfl rfl (Nat.le_of_ble_eq_true rfl) ⟨(Nat.le_of_ble_eq_true rfl), (Nat.le_of_ble_eq_true rfl)⟩ rfl rfl (show k1 + 7 ≤ 601024 by omega) (show k2 + 21 ≤ 7293034 by omega) (fun r8 n_1085 J_1085 hn1_1085 hn2_1085 hq9 => ?_) (fun E9 n_1085 J_1085 hn1_1085 hn2_1085 hx9 => hx9.elim)
  obtain ⟨z_1085, rfl, hz_1085, y_1085⟩ := hq9
  obtain ⟨ez9, bo9⟩ := b_put (m2 := m2) hcc hC fh9 x_1062.2 y_1085.2.2
  refine tz_pop (pc := 1088) dL_law_1088 rfl ?_
  refine tz_goto (pc := 1089) (tgt := 1330) dL_law_1089 (by decide) ?_
  exact nx _ _ _ _ _ _ ⟨(LV.q h cw_1062 y_1085.1 y_1085.2.1 bo9 ⟨by omega, by omega⟩ (by omega) (by omega)), (RVX.lo (⟨cw_1062.1.elim (fun m1 h1 => rv_put hcc hC h1 hrv.1 x_1062.2), hrv.2.of (fun c a b => cw_1062.2.2.2 c (Or.inl ⟨a, b⟩)) cw_1062.2.2.1.2.1⟩) (fun c hc => y_1085.1.2.1 c (Or.inl hc)))⟩

set_option maxHeartbeats 4000000 in
set_option maxRecDepth 100000 in
theorem law_rules {l : Launch} {G : tb_G} {Lx : Nat} {xs : Nat → Int32} {k1 k2 n : Nat} {J : zJ} (hl : l.stackTraces = false) (i : Int) (hi : 0 ≤ i ∧ i + 6 ≤ (Lx : Int)) (hx : Lx ≤ 3072) (d5 d6 : Option Value) (h : LVr J n k1 k2 i) (nx : ∀ (k1 k2 n : Nat) (J : zJ) (d5 d6 : Option Value), LVr J n k1 k2 (i + 6) → tz_At l G M_L_law room_1 (some (Lx, xs)) tb_LZ k1 k2 n J 1330 [some (.ref tb_sc), some (.ref 0), some (.ref 164), some (.ref 183), some (zi i), d5, d6] []) : tz_At l G M_L_law room_1 (some (Lx, xs)) tb_LZ k1 k2 n J 1092 [some (.ref tb_sc), some (.ref 0), some (.ref 164), some (.ref 183), some (zi i), d5, d6] [] := by
  obtain ⟨h, hrv⟩ := h
  obtain ⟨⟨m, hC⟩, ⟨m2, hM⟩, h3, h4, h5, ⟨h6, h7⟩, pn, RR, hcc, huu, him⟩ := id h
  have h9 : J 145 10 < 1000000000 := by omega
  have hnb : n ≤ tb_sc := by show n ≤ 1000000; omega
  refine tz_aload_n (pc := 1092) dL_law_1092 rfl rfl ?_
  refine tz_aload_n (pc := 1093) dL_law_1093 rfl rfl ?_
  refine tz_iload (pc := 1094) dL_law_1094 rfl ?_
  refine tz_iconst (pc := 1096) dL_law_1096 ?_
  refine tz_iadd (pc := 1097) (v := i + 1) dL_law_1097 rfl ?_
  refine tz_sld (pc := 1098) (z := (i + 1)) rfl dL_law_1098 (by omega) (by omega) (fun r_1098 => ?_)
  refine tz_aload_n (pc := 1099) dL_law_1099 rfl rfl ?_
  refine tz_iload (pc := 1100) dL_law_1100 rfl ?_
  refine tz_iconst (pc := 1102) dL_law_1102 ?_
  refine tz_iadd (pc := 1103) (v := i + 2) dL_law_1103 rfl ?_
  refine tz_sld (pc := 1104) (z := (i + 2)) rfl dL_law_1104 (by omega) (by omega) (fun r_1104 => ?_)
  refine tz_cV (pc := 1105) (v_rules hl _ _ _ _ (z_rg _) (z_rg _) m (tbz J) pn RR hC h9 hcc rfl) vl_L_153 dL_law_1105 o_0 rfl rfl (Nat.le_of_ble_eq_true rfl) ⟨(Nat.le_of_ble_eq_true rfl), (Nat.le_of_ble_eq_true rfl)⟩ rfl rfl (show k1 ≤ 601024 by omega) (show k2 ≤ 7293034 by omega) (fun r9 J_1105 hq9 => ?_)
  obtain ⟨z_1105, rfl, hz_1105, x_1105⟩ := hq9
  have cw_1105 : CW J_1105 J := CW.c x_1105.1
  have fh9 : ∀ c, 164 ≤ c → c < 183 → J_1105 c = J c := fun c x y => cw_1105.2.2.2 c (Or.inr (Or.inr ⟨x, y⟩))
  have hM2 := hM.mid fh9
  have hu2 := huu.mid fh9
  refine tz_pop (pc := 1108) dL_law_1108 rfl ?_
  refine tz_aload_n (pc := 1109) dL_law_1109 rfl rfl ?_
  refine tz_aload_n (pc := 1110) dL_law_1110 rfl rfl ?_
  refine tz_iload (pc := 1111) dL_law_1111 rfl ?_
  refine tz_iconst (pc := 1113) dL_law_1113 ?_
  refine tz_iadd (pc := 1114) (v := i + 1) dL_law_1114 rfl ?_
  refine tz_sld (pc := 1115) (z := (i + 1)) rfl dL_law_1115 (by omega) (by omega) (fun r_1115 => ?_)
  refine tz_aload_n (pc := 1116) dL_law_1116 rfl rfl ?_
  refine tz_iload (pc := 1117) dL_law_1117 rfl ?_
  refine tz_iconst (pc := 1119) dL_law_1119 ?_
  refine tz_iadd (pc := 1120) (v := i + 2) dL_law_1120 rfl ?_
  refine tz_sld (pc := 1121) (z := (i + 2)) rfl dL_law_1121 (by omega) (by omega) (fun r_1121 => ?_)
  refine tz_cV (pc := 1122) (v_qrules hl _ _ _ _ (z_rg _) (z_rg _) m2 pn RR hM2 hu2 (fun k x y => by rw [fh9 164 (by decide) (by decide)] at y; rw [fh9 171 (by decide) (by decide)]; exact al_w hcc hC k x y)) vl_L_156 dL_law_1122 o_164 rfl rfl (Nat.le_of_ble_eq_true rfl) ⟨(Nat.le_of_ble_eq_true rfl), (Nat.le_of_ble_eq_true rfl)⟩ rfl rfl (show k1 ≤ 601024 by omega) (show k2 ≤ 7293034 by omega) (fun r9 J_1122 hq9 => ?_)
  obtain ⟨z_1122, rfl, hz_1122, y_1122⟩ := hq9
  obtain ⟨ez9, bo9⟩ := b_rules (m2 := m2) hcc hC fh9 x_1105.2 y_1122.2.2
  refine tz_pop (pc := 1125) dL_law_1125 rfl ?_
  refine tz_goto (pc := 1126) (tgt := 1330) dL_law_1126 (by decide) ?_
  exact nx _ _ _ _ _ _ ⟨(LV.q h cw_1105 y_1122.1 y_1122.2.1 bo9 ⟨by omega, by omega⟩ (by omega) (by omega)), (RVX.lo (⟨cw_1105.1.elim (fun m1 h1 => rv_rules hcc hC h1 hrv.1 x_1105.2), hrv.2.of (fun c a b => cw_1105.2.2.2 c (Or.inl ⟨a, b⟩)) cw_1105.2.2.1.2.1⟩) (fun c hc => y_1122.1.2.1 c (Or.inl hc)))⟩

set_option maxHeartbeats 4000000 in
set_option maxRecDepth 100000 in
theorem law_enter {l : Launch} {G : tb_G} {Lx : Nat} {xs : Nat → Int32} {k1 k2 n : Nat} {J : zJ} (hl : l.stackTraces = false) (i : Int) (hi : 0 ≤ i ∧ i + 6 ≤ (Lx : Int)) (hx : Lx ≤ 3072) (d5 d6 : Option Value) (h : LVr J n k1 k2 i) (nx : ∀ (k1 k2 n : Nat) (J : zJ) (d5 d6 : Option Value), LVr J n k1 k2 (i + 6) → tz_At l G M_L_law room_1 (some (Lx, xs)) tb_LZ k1 k2 n J 1330 [some (.ref tb_sc), some (.ref 0), some (.ref 164), some (.ref 183), some (zi i), d5, d6] []) : tz_At l G M_L_law room_1 (some (Lx, xs)) tb_LZ k1 k2 n J 1129 [some (.ref tb_sc), some (.ref 0), some (.ref 164), some (.ref 183), some (zi i), d5, d6] [] := by
  obtain ⟨h, hrv⟩ := h
  obtain ⟨⟨m, hC⟩, ⟨m2, hM⟩, h3, h4, h5, ⟨h6, h7⟩, pn, RR, hcc, huu, him⟩ := id h
  have h9 : J 145 10 < 1000000000 := by omega
  have hnb : n ≤ tb_sc := by show n ≤ 1000000; omega
  refine tz_aload_n (pc := 1129) dL_law_1129 rfl rfl ?_
  refine tz_aload_n (pc := 1130) dL_law_1130 rfl rfl ?_
  refine tz_iload (pc := 1131) dL_law_1131 rfl ?_
  refine tz_iconst (pc := 1133) dL_law_1133 ?_
  refine tz_iadd (pc := 1134) (v := i + 1) dL_law_1134 rfl ?_
  refine tz_sld (pc := 1135) (z := (i + 1)) rfl dL_law_1135 (by omega) (by omega) (fun r_1135 => ?_)
  refine tz_cV (pc := 1136) (v_enter hl _ _ _ (z_rg _) m (tbz J) pn RR hC h9 hcc rfl) vl_L_157 dL_law_1136 o_0 rfl rfl (Nat.le_of_ble_eq_true rfl) ⟨(Nat.le_of_ble_eq_true rfl), (Nat.le_of_ble_eq_true rfl)⟩ rfl rfl (show k1 ≤ 601024 by omega) (show k2 ≤ 7293034 by omega) (fun r9 J_1136 hq9 => ?_)
  obtain ⟨z_1136, rfl, hz_1136, x_1136⟩ := hq9
  have cw_1136 : CW J_1136 J := CW.c x_1136.1
  have fh9 : ∀ c, 164 ≤ c → c < 183 → J_1136 c = J c := fun c x y => cw_1136.2.2.2 c (Or.inr (Or.inr ⟨x, y⟩))
  have hM2 := hM.mid fh9
  have hu2 := huu.mid fh9
  refine tz_pop (pc := 1139) dL_law_1139 rfl ?_
  refine tz_aload_n (pc := 1140) dL_law_1140 rfl rfl ?_
  refine tz_aload_n (pc := 1141) dL_law_1141 rfl rfl ?_
  refine tz_iload (pc := 1142) dL_law_1142 rfl ?_
  refine tz_iconst (pc := 1144) dL_law_1144 ?_
  refine tz_iadd (pc := 1145) (v := i + 1) dL_law_1145 rfl ?_
  refine tz_sld (pc := 1146) (z := (i + 1)) rfl dL_law_1146 (by omega) (by omega) (fun r_1146 => ?_)
  refine tz_cV (pc := 1147) (v_qenter hl _ _ _ (z_rg _) m2 pn RR hM2 hu2) vl_L_160 dL_law_1147 o_164 rfl rfl (Nat.le_of_ble_eq_true rfl) ⟨(Nat.le_of_ble_eq_true rfl), (Nat.le_of_ble_eq_true rfl)⟩ rfl rfl (show k1 ≤ 601024 by omega) (show k2 ≤ 7293034 by omega) (fun r9 J_1147 hq9 => ?_)
  obtain ⟨z_1147, rfl, hz_1147, y_1147⟩ := hq9
  obtain ⟨ez9, bo9⟩ := b_enter (m2 := m2) hcc hC fh9 x_1136.2 y_1147.2.2
  refine tz_pop (pc := 1150) dL_law_1150 rfl ?_
  refine tz_goto (pc := 1151) (tgt := 1330) dL_law_1151 (by decide) ?_
  exact nx _ _ _ _ _ _ ⟨(LV.q h cw_1136 y_1147.1 y_1147.2.1 bo9 ⟨by omega, by omega⟩ (by omega) (by omega)), (RVX.lo (⟨cw_1136.1.elim (fun m1 h1 => rv_enter hcc hC h1 hrv.1 x_1136.2), hrv.2.of (fun c a b => cw_1136.2.2.2 c (Or.inl ⟨a, b⟩)) cw_1136.2.2.1.2.1⟩) (fun c hc => y_1147.1.2.1 c (Or.inl hc)))⟩

set_option maxHeartbeats 4000000 in
set_option maxRecDepth 100000 in
theorem law_leave {l : Launch} {G : tb_G} {Lx : Nat} {xs : Nat → Int32} {k1 k2 n : Nat} {J : zJ} (hl : l.stackTraces = false) (i : Int) (hi : 0 ≤ i ∧ i + 6 ≤ (Lx : Int)) (hx : Lx ≤ 3072) (d5 d6 : Option Value) (h : LVr J n k1 k2 i) (nx : ∀ (k1 k2 n : Nat) (J : zJ) (d5 d6 : Option Value), LVr J n k1 k2 (i + 6) → tz_At l G M_L_law room_1 (some (Lx, xs)) tb_LZ k1 k2 n J 1330 [some (.ref tb_sc), some (.ref 0), some (.ref 164), some (.ref 183), some (zi i), d5, d6] []) : tz_At l G M_L_law room_1 (some (Lx, xs)) tb_LZ k1 k2 n J 1154 [some (.ref tb_sc), some (.ref 0), some (.ref 164), some (.ref 183), some (zi i), d5, d6] [] := by
  obtain ⟨h, hrv⟩ := h
  obtain ⟨⟨m, hC⟩, ⟨m2, hM⟩, h3, h4, h5, ⟨h6, h7⟩, pn, RR, hcc, huu, him⟩ := id h
  have h9 : J 145 10 < 1000000000 := by omega
  have hnb : n ≤ tb_sc := by show n ≤ 1000000; omega
  refine tz_aload_n (pc := 1154) dL_law_1154 rfl rfl ?_
  refine tz_aload_n (pc := 1155) dL_law_1155 rfl rfl ?_
  refine tz_iload (pc := 1156) dL_law_1156 rfl ?_
  refine tz_iconst (pc := 1158) dL_law_1158 ?_
  refine tz_iadd (pc := 1159) (v := i + 1) dL_law_1159 rfl ?_
  refine tz_sld (pc := 1160) (z := (i + 1)) rfl dL_law_1160 (by omega) (by omega) (fun r_1160 => ?_)
  refine tz_cV (pc := 1161) (v_leave hl _ _ _ (z_rg _) m (tbz J) pn RR hC h9 hcc rfl) vl_L_161 dL_law_1161 o_0 rfl rfl (Nat.le_of_ble_eq_true rfl) ⟨(Nat.le_of_ble_eq_true rfl), (Nat.le_of_ble_eq_true rfl)⟩ rfl rfl (show k1 ≤ 601024 by omega) (show k2 ≤ 7293034 by omega) (fun r9 J_1161 hq9 => ?_)
  obtain ⟨z_1161, rfl, hz_1161, x_1161⟩ := hq9
  have cw_1161 : CW J_1161 J := CW.c x_1161.1
  have fh9 : ∀ c, 164 ≤ c → c < 183 → J_1161 c = J c := fun c x y => cw_1161.2.2.2 c (Or.inr (Or.inr ⟨x, y⟩))
  have hM2 := hM.mid fh9
  have hu2 := huu.mid fh9
  refine tz_pop (pc := 1164) dL_law_1164 rfl ?_
  refine tz_aload_n (pc := 1165) dL_law_1165 rfl rfl ?_
  refine tz_aload_n (pc := 1166) dL_law_1166 rfl rfl ?_
  refine tz_iload (pc := 1167) dL_law_1167 rfl ?_
  refine tz_iconst (pc := 1169) dL_law_1169 ?_
  refine tz_iadd (pc := 1170) (v := i + 1) dL_law_1170 rfl ?_
  refine tz_sld (pc := 1171) (z := (i + 1)) rfl dL_law_1171 (by omega) (by omega) (fun r_1171 => ?_)
  refine tz_cV (pc := 1172) (v_qleave hl _ _ _ (z_rg _) m2 pn RR hM2 hu2) vl_L_164 dL_law_1172 o_164 rfl rfl (Nat.le_of_ble_eq_true rfl) ⟨(Nat.le_of_ble_eq_true rfl), (Nat.le_of_ble_eq_true rfl)⟩ rfl rfl (show k1 ≤ 601024 by omega) (show k2 ≤ 7293034 by omega) (fun r9 J_1172 hq9 => ?_)
  obtain ⟨z_1172, rfl, hz_1172, y_1172⟩ := hq9
  obtain ⟨ez9, bo9⟩ := b_leave (m2 := m2) hcc hC fh9 x_1161.2 y_1172.2.2
  refine tz_pop (pc := 1175) dL_law_1175 rfl ?_
  refine tz_goto (pc := 1176) (tgt := 1330) dL_law_1176 (by decide) ?_
  exact nx _ _ _ _ _ _ ⟨(LV.q h cw_1161 y_1172.1 y_1172.2.1 bo9 ⟨by omega, by omega⟩ (by omega) (by omega)), (RVX.lo (⟨cw_1161.1.elim (fun m1 h1 => rv_leave hcc hC h1 hrv.1 x_1161.2), hrv.2.of (fun c a b => cw_1161.2.2.2 c (Or.inl ⟨a, b⟩)) cw_1161.2.2.1.2.1⟩) (fun c hc => y_1172.1.2.1 c (Or.inl hc)))⟩

set_option maxHeartbeats 4000000 in
set_option maxRecDepth 100000 in
theorem law_room {l : Launch} {G : tb_G} {Lx : Nat} {xs : Nat → Int32} {k1 k2 n : Nat} {J : zJ} (hl : l.stackTraces = false) (i : Int) (hi : 0 ≤ i ∧ i + 6 ≤ (Lx : Int)) (hx : Lx ≤ 3072) (d5 d6 : Option Value) (h : LVr J n k1 k2 i) (nx : ∀ (k1 k2 n : Nat) (J : zJ) (d5 d6 : Option Value), LVr J n k1 k2 (i + 6) → tz_At l G M_L_law room_1 (some (Lx, xs)) tb_LZ k1 k2 n J 1330 [some (.ref tb_sc), some (.ref 0), some (.ref 164), some (.ref 183), some (zi i), d5, d6] []) : tz_At l G M_L_law room_1 (some (Lx, xs)) tb_LZ k1 k2 n J 1179 [some (.ref tb_sc), some (.ref 0), some (.ref 164), some (.ref 183), some (zi i), d5, d6] [] := by
  obtain ⟨h, hrv⟩ := h
  obtain ⟨⟨m, hC⟩, ⟨m2, hM⟩, h3, h4, h5, ⟨h6, h7⟩, pn, RR, hcc, huu, him⟩ := id h
  have h9 : J 145 10 < 1000000000 := by omega
  have hnb : n ≤ tb_sc := by show n ≤ 1000000; omega
  refine tz_aload_n (pc := 1179) dL_law_1179 rfl rfl ?_
  refine tz_aload_n (pc := 1180) dL_law_1180 rfl rfl ?_
  refine tz_iload (pc := 1181) dL_law_1181 rfl ?_
  refine tz_iconst (pc := 1183) dL_law_1183 ?_
  refine tz_iadd (pc := 1184) (v := i + 1) dL_law_1184 rfl ?_
  refine tz_sld (pc := 1185) (z := (i + 1)) rfl dL_law_1185 (by omega) (by omega) (fun r_1185 => ?_)
  refine tz_cV (pc := 1186) (v_room hl _ _ _ (z_rg _) m (tbz J) pn RR hC h9 hcc rfl) vl_L_165 dL_law_1186 o_0 rfl rfl (Nat.le_of_ble_eq_true rfl) ⟨(Nat.le_of_ble_eq_true rfl), (Nat.le_of_ble_eq_true rfl)⟩ rfl rfl (show k1 ≤ 601024 by omega) (show k2 ≤ 7293034 by omega) (fun r9 J_1186 hq9 => ?_)
  obtain ⟨z_1186, rfl, hz_1186, x_1186⟩ := hq9
  have cw_1186 : CW J_1186 J := CW.c x_1186.1
  have fh9 : ∀ c, 164 ≤ c → c < 183 → J_1186 c = J c := fun c x y => cw_1186.2.2.2 c (Or.inr (Or.inr ⟨x, y⟩))
  have hM2 := hM.mid fh9
  have hu2 := huu.mid fh9
  refine tz_pop (pc := 1189) dL_law_1189 rfl ?_
  refine tz_aload_n (pc := 1190) dL_law_1190 rfl rfl ?_
  refine tz_aload_n (pc := 1191) dL_law_1191 rfl rfl ?_
  refine tz_iload (pc := 1192) dL_law_1192 rfl ?_
  refine tz_iconst (pc := 1194) dL_law_1194 ?_
  refine tz_iadd (pc := 1195) (v := i + 1) dL_law_1195 rfl ?_
  refine tz_sld (pc := 1196) (z := (i + 1)) rfl dL_law_1196 (by omega) (by omega) (fun r_1196 => ?_)
  refine tz_cV (pc := 1197) (v_qroom hl _ _ _ (z_rg _) m2 pn RR hM2 hu2) vl_L_168 dL_law_1197 o_164 rfl rfl (Nat.le_of_ble_eq_true rfl) ⟨(Nat.le_of_ble_eq_true rfl), (Nat.le_of_ble_eq_true rfl)⟩ rfl rfl (show k1 ≤ 601024 by omega) (show k2 ≤ 7293034 by omega) (fun r9 J_1197 hq9 => ?_)
  obtain ⟨z_1197, rfl, hz_1197, y_1197⟩ := hq9
  obtain ⟨ez9, bo9⟩ := b_room (m2 := m2) hcc hC fh9 x_1186.2 y_1197.2.2
  refine tz_pop (pc := 1200) dL_law_1200 rfl ?_
  refine tz_goto (pc := 1201) (tgt := 1330) dL_law_1201 (by decide) ?_
  exact nx _ _ _ _ _ _ ⟨(LV.q h cw_1186 y_1197.1 y_1197.2.1 bo9 ⟨by omega, by omega⟩ (by omega) (by omega)), (RVX.lo (⟨cw_1186.1.elim (fun m1 h1 => rv_room hcc hC h1 hrv.1 x_1186.2), hrv.2.of (fun c a b => cw_1186.2.2.2 c (Or.inl ⟨a, b⟩)) cw_1186.2.2.1.2.1⟩) (fun c hc => y_1197.1.2.1 c (Or.inl hc)))⟩

set_option maxHeartbeats 4000000 in
set_option maxRecDepth 100000 in
theorem law_draw {l : Launch} {G : tb_G} {Lx : Nat} {xs : Nat → Int32} {k1 k2 n : Nat} {J : zJ} (hl : l.stackTraces = false) (i : Int) (hi : 0 ≤ i ∧ i + 6 ≤ (Lx : Int)) (hx : Lx ≤ 3072) (d5 d6 : Option Value) (h : LVr J n k1 k2 i) (nx : ∀ (k1 k2 n : Nat) (J : zJ) (d5 d6 : Option Value), LVr J n k1 k2 (i + 6) → tz_At l G M_L_law room_1 (some (Lx, xs)) tb_LZ k1 k2 n J 1330 [some (.ref tb_sc), some (.ref 0), some (.ref 164), some (.ref 183), some (zi i), d5, d6] []) : tz_At l G M_L_law room_1 (some (Lx, xs)) tb_LZ k1 k2 n J 1204 [some (.ref tb_sc), some (.ref 0), some (.ref 164), some (.ref 183), some (zi i), d5, d6] [] := by
  obtain ⟨h, hrv⟩ := h
  obtain ⟨⟨m, hC⟩, ⟨m2, hM⟩, h3, h4, h5, ⟨h6, h7⟩, pn, RR, hcc, huu, him⟩ := id h
  have h9 : J 145 10 < 1000000000 := by omega
  have hnb : n ≤ tb_sc := by show n ≤ 1000000; omega
  refine tz_aload_n (pc := 1204) dL_law_1204 rfl rfl ?_
  refine tz_aload_n (pc := 1205) dL_law_1205 rfl rfl ?_
  refine tz_iload (pc := 1206) dL_law_1206 rfl ?_
  refine tz_iconst (pc := 1208) dL_law_1208 ?_
  refine tz_iadd (pc := 1209) (v := i + 1) dL_law_1209 rfl ?_
  refine tz_sld (pc := 1210) (z := (i + 1)) rfl dL_law_1210 (by omega) (by omega) (fun r_1210 => ?_)
  refine tz_aload_n (pc := 1211) dL_law_1211 rfl rfl ?_
  refine tz_iload (pc := 1212) dL_law_1212 rfl ?_
  refine tz_iconst (pc := 1214) dL_law_1214 ?_
  refine tz_iadd (pc := 1215) (v := i + 2) dL_law_1215 rfl ?_
  refine tz_sld (pc := 1216) (z := (i + 2)) rfl dL_law_1216 (by omega) (by omega) (fun r_1216 => ?_)
  refine tz_cV (pc := 1217) (v_draw hl _ _ _ _ (z_rg _) (z_rg _) m (tbz J) pn RR hC h9 hcc rfl) vl_L_169 dL_law_1217 o_0 rfl rfl (Nat.le_of_ble_eq_true rfl) ⟨(Nat.le_of_ble_eq_true rfl), (Nat.le_of_ble_eq_true rfl)⟩ rfl rfl (show k1 ≤ 601024 by omega) (show k2 ≤ 7293034 by omega) (fun r9 J_1217 hq9 => ?_)
  obtain ⟨z_1217, rfl, hz_1217, x_1217⟩ := hq9
  have cw_1217 : CW J_1217 J := CW.c x_1217.1
  have fh9 : ∀ c, 164 ≤ c → c < 183 → J_1217 c = J c := fun c x y => cw_1217.2.2.2 c (Or.inr (Or.inr ⟨x, y⟩))
  have hM2 := hM.mid fh9
  have hu2 := huu.mid fh9
  refine tz_pop (pc := 1220) dL_law_1220 rfl ?_
  refine tz_aload_n (pc := 1221) dL_law_1221 rfl rfl ?_
  refine tz_aload_n (pc := 1222) dL_law_1222 rfl rfl ?_
  refine tz_iload (pc := 1223) dL_law_1223 rfl ?_
  refine tz_iconst (pc := 1225) dL_law_1225 ?_
  refine tz_iadd (pc := 1226) (v := i + 1) dL_law_1226 rfl ?_
  refine tz_sld (pc := 1227) (z := (i + 1)) rfl dL_law_1227 (by omega) (by omega) (fun r_1227 => ?_)
  refine tz_aload_n (pc := 1228) dL_law_1228 rfl rfl ?_
  refine tz_iload (pc := 1229) dL_law_1229 rfl ?_
  refine tz_iconst (pc := 1231) dL_law_1231 ?_
  refine tz_iadd (pc := 1232) (v := i + 2) dL_law_1232 rfl ?_
  refine tz_sld (pc := 1233) (z := (i + 2)) rfl dL_law_1233 (by omega) (by omega) (fun r_1233 => ?_)
  refine tz_cV (pc := 1234) (v_qdraw hl _ _ _ _ (z_rg _) (z_rg _) m2 pn RR hM2 hu2) vl_L_172 dL_law_1234 o_164 rfl rfl (Nat.le_of_ble_eq_true rfl) ⟨(Nat.le_of_ble_eq_true rfl), (Nat.le_of_ble_eq_true rfl)⟩ rfl rfl (show k1 ≤ 601024 by omega) (show k2 ≤ 7293034 by omega) (fun r9 J_1234 hq9 => ?_)
  obtain ⟨z_1234, rfl, hz_1234, y_1234⟩ := hq9
  obtain ⟨ez9, bo9⟩ := b_draw (m2 := m2) hcc hC fh9 x_1217.2 y_1234.2.2
  refine tz_pop (pc := 1237) dL_law_1237 rfl ?_
  refine tz_goto (pc := 1238) (tgt := 1330) dL_law_1238 (by decide) ?_
  exact nx _ _ _ _ _ _ ⟨(LV.q h cw_1217 y_1234.1 y_1234.2.1 bo9 ⟨by omega, by omega⟩ (by omega) (by omega)), (RVX.lo (⟨cw_1217.1.elim (fun m1 h1 => rv_draw hcc hC h1 hrv.1 x_1217.2), hrv.2.of (fun c a b => cw_1217.2.2.2 c (Or.inl ⟨a, b⟩)) cw_1217.2.2.1.2.1⟩) (fun c hc => y_1234.1.2.1 c (Or.inl hc)))⟩

set_option maxHeartbeats 4000000 in
set_option maxRecDepth 100000 in
theorem law_undo {l : Launch} {G : tb_G} {Lx : Nat} {xs : Nat → Int32} {k1 k2 n : Nat} {J : zJ} (hl : l.stackTraces = false) (i : Int) (hi : 0 ≤ i ∧ i + 6 ≤ (Lx : Int)) (hx : Lx ≤ 3072) (d5 d6 : Option Value) (h : LVr J n k1 k2 i) (nx : ∀ (k1 k2 n : Nat) (J : zJ) (d5 d6 : Option Value), LVr J n k1 k2 (i + 6) → tz_At l G M_L_law room_1 (some (Lx, xs)) tb_LZ k1 k2 n J 1330 [some (.ref tb_sc), some (.ref 0), some (.ref 164), some (.ref 183), some (zi i), d5, d6] []) : tz_At l G M_L_law room_1 (some (Lx, xs)) tb_LZ k1 k2 n J 1241 [some (.ref tb_sc), some (.ref 0), some (.ref 164), some (.ref 183), some (zi i), d5, d6] [] := by
  obtain ⟨h, hrv⟩ := h
  obtain ⟨⟨m, hC⟩, ⟨m2, hM⟩, h3, h4, h5, ⟨h6, h7⟩, pn, RR, hcc, huu, him⟩ := id h
  have h9 : J 145 10 < 1000000000 := by omega
  have hnb : n ≤ tb_sc := by show n ≤ 1000000; omega
  refine tz_aload_n (pc := 1241) dL_law_1241 rfl rfl ?_
  refine tz_cV (pc := 1242) (v_undo hl _ _   m (tbz J) pn RR hC h9 hcc) vl_L_173 dL_law_1242 o_0 rfl rfl (Nat.le_of_ble_eq_true rfl) ⟨(Nat.le_of_ble_eq_true rfl), (Nat.le_of_ble_eq_true rfl)⟩ rfl rfl (show k1 ≤ 601024 by omega) (show k2 ≤ 7293034 by omega) (fun r9 J_1242 hq9 => ?_)
  obtain ⟨z_1242, rfl, hz_1242, x_1242⟩ := hq9
  have cw_1242 : CW J_1242 J := CW.c x_1242.1
  have fh9 : ∀ c, 164 ≤ c → c < 183 → J_1242 c = J c := fun c x y => cw_1242.2.2.2 c (Or.inr (Or.inr ⟨x, y⟩))
  have hM2 := hM.mid fh9
  have hu2 := huu.mid fh9
  refine tz_pop (pc := 1245) dL_law_1245 rfl ?_
  refine tz_aload_n (pc := 1246) dL_law_1246 rfl rfl ?_
  refine tz_cV (pc := 1247) (v_qundo hl _ _   m2 pn RR hM2 hu2) vl_L_176 dL_law_1247 o_164 rfl rfl (Nat.le_of_ble_eq_true rfl) ⟨(Nat.le_of_ble_eq_true rfl), (Nat.le_of_ble_eq_true rfl)⟩ rfl rfl (show k1 ≤ 601024 by omega) (show k2 ≤ 7293034 by omega) (fun r9 J_1247 hq9 => ?_)
  obtain ⟨z_1247, rfl, hz_1247, y_1247⟩ := hq9
  obtain ⟨ez9, bo9⟩ := b_undo (m2 := m2) hcc hC fh9 x_1242.2 y_1247.2.2
  refine tz_pop (pc := 1250) dL_law_1250 rfl ?_
  refine tz_goto (pc := 1251) (tgt := 1330) dL_law_1251 (by decide) ?_
  exact nx _ _ _ _ _ _ ⟨(LV.q h cw_1242 y_1247.1 y_1247.2.1 bo9 ⟨by omega, by omega⟩ (by omega) (by omega)), (RVX.lo (⟨cw_1242.1.elim (fun m1 h1 => rv_undo hcc hC h1 hrv.1 x_1242.2), hrv.2.of (fun c a b => cw_1242.2.2.2 c (Or.inl ⟨a, b⟩)) cw_1242.2.2.1.2.1⟩) (fun c hc => y_1247.1.2.1 c (Or.inl hc)))⟩

set_option maxHeartbeats 4000000 in
set_option maxRecDepth 100000 in
theorem law_years {l : Launch} {G : tb_G} {Lx : Nat} {xs : Nat → Int32} {k1 k2 n : Nat} {J : zJ} (hl : l.stackTraces = false) (i : Int) (hi : 0 ≤ i ∧ i + 6 ≤ (Lx : Int)) (hx : Lx ≤ 3072) (d5 d6 : Option Value) (h : LVr J n k1 k2 i) (nx : ∀ (k1 k2 n : Nat) (J : zJ) (d5 d6 : Option Value), LVr J n k1 k2 (i + 6) → tz_At l G M_L_law room_1 (some (Lx, xs)) tb_LZ k1 k2 n J 1330 [some (.ref tb_sc), some (.ref 0), some (.ref 164), some (.ref 183), some (zi i), d5, d6] []) : tz_At l G M_L_law room_1 (some (Lx, xs)) tb_LZ k1 k2 n J 1254 [some (.ref tb_sc), some (.ref 0), some (.ref 164), some (.ref 183), some (zi i), d5, d6] [] := by
  obtain ⟨h, hrv⟩ := h
  obtain ⟨⟨m, hC⟩, ⟨m2, hM⟩, h3, h4, h5, ⟨h6, h7⟩, pn, RR, hcc, huu, him⟩ := id h
  have h9 : J 145 10 < 1000000000 := by omega
  have hnb : n ≤ tb_sc := by show n ≤ 1000000; omega
  refine tz_aload_n (pc := 1254) dL_law_1254 rfl rfl ?_
  refine tz_aload_n (pc := 1255) dL_law_1255 rfl rfl ?_
  refine tz_iload (pc := 1256) dL_law_1256 rfl ?_
  refine tz_iconst (pc := 1258) dL_law_1258 ?_
  refine tz_iadd (pc := 1259) (v := i + 1) dL_law_1259 rfl ?_
  refine tz_sld (pc := 1260) (z := (i + 1)) rfl dL_law_1260 (by omega) (by omega) (fun r_1260 => ?_)
  refine tz_aload_n (pc := 1261) dL_law_1261 rfl rfl ?_
  refine tz_iload (pc := 1262) dL_law_1262 rfl ?_
  refine tz_iconst (pc := 1264) dL_law_1264 ?_
  refine tz_iadd (pc := 1265) (v := i + 2) dL_law_1265 rfl ?_
  refine tz_sld (pc := 1266) (z := (i + 2)) rfl dL_law_1266 (by omega) (by omega) (fun r_1266 => ?_)
  refine tz_aload_n (pc := 1267) dL_law_1267 rfl rfl ?_
  refine tz_iload (pc := 1268) dL_law_1268 rfl ?_
  refine tz_iconst (pc := 1270) dL_law_1270 ?_
  refine tz_iadd (pc := 1271) (v := i + 3) dL_law_1271 rfl ?_
  refine tz_sld (pc := 1272) (z := (i + 3)) rfl dL_law_1272 (by omega) (by omega) (fun r_1272 => ?_)
  refine tz_aload_n (pc := 1273) dL_law_1273 rfl rfl ?_
  refine tz_cH (pc := 1274) (nA := 5) (lw_years hl _ _ _ _ _ (z_rg _) (z_rg _) (z_rg _) m pn RR hC h9 hcc) ml_L_177 ms_L_years ch_L_years wk_ini_L (by decide +kernel) dL_law_1274 rfl rfl (Nat.le_of_ble_eq_true rfl) ⟨(Nat.le_of_ble_eq_true rfl), (Nat.le_of_ble_eq_true rfl)⟩ rfl rfl (show k1 + 1 ≤ 601024 by omega) (show k2 + 6 ≤ 7293034 by omega) (fun r9 n_1274 J_1274 hn1_1274 hn2_1274 hq9 => ?_)
  obtain ⟨z_1274, rfl, hz_1274, cw_1274, cc_1274⟩ := hq9
  have fh9 : ∀ c, 164 ≤ c → c < 183 → J_1274 c = J c := fun c x y => cw_1274.2.2.2 c (Or.inr (Or.inr ⟨x, y⟩))
  have hM2 := hM.mid fh9
  have hu2 := huu.mid fh9
  refine tz_istore (pc := 1277) (L2 := [_, _, _, _, _, _, _]) dL_law_1277 (by decide) rfl ?_
  refine tz_aload_n (pc := 1279) dL_law_1279 rfl rfl ?_
  refine tz_aload_n (pc := 1280) dL_law_1280 rfl rfl ?_
  refine tz_iload (pc := 1281) dL_law_1281 rfl ?_
  refine tz_iconst (pc := 1283) dL_law_1283 ?_
  refine tz_iadd (pc := 1284) (v := i + 1) dL_law_1284 rfl ?_
  refine tz_sld (pc := 1285) (z := (i + 1)) rfl dL_law_1285 (by omega) (by omega) (fun r_1285 => ?_)
  refine tz_aload_n (pc := 1286) dL_law_1286 rfl rfl ?_
  refine tz_iload (pc := 1287) dL_law_1287 rfl ?_
  refine tz_iconst (pc := 1289) dL_law_1289 ?_
  refine tz_iadd (pc := 1290) (v := i + 2) dL_law_1290 rfl ?_
  refine tz_sld (pc := 1291) (z := (i + 2)) rfl dL_law_1291 (by omega) (by omega) (fun r_1291 => ?_)
  refine tz_aload_n (pc := 1292) dL_law_1292 rfl rfl ?_
  refine tz_iload (pc := 1293) dL_law_1293 rfl ?_
  refine tz_iconst (pc := 1295) dL_law_1295 ?_
  refine tz_iadd (pc := 1296) (v := i + 3) dL_law_1296 rfl ?_
  refine tz_sld (pc := 1297) (z := (i + 3)) rfl dL_law_1297 (by omega) (by omega) (fun r_1297 => ?_)
  refine tz_cV (pc := 1298) (v_qyears hl _ _ _ _ _ (z_rg _) (z_rg _) (z_rg _) m2 pn RR hM2 hu2) vl_L_180 dL_law_1298 o_164 rfl rfl (Nat.le_of_ble_eq_true rfl) ⟨(Nat.le_of_ble_eq_true rfl), (Nat.le_of_ble_eq_true rfl)⟩ rfl rfl (show k1 + 1 ≤ 601024 by omega) (show k2 + 6 ≤ 7293034 by omega) (fun r9 J_1298 hq9 => ?_)
  obtain ⟨z_1298, rfl, hz_1298, y_1298⟩ := hq9
  have bo9 := bo_q fh9 cc_1274 y_1298.2.2
  refine tz_istore (pc := 1301) (L2 := [_, _, _, _, _, _, _]) dL_law_1301 (by decide) rfl ?_
  refine tz_goto (pc := 1303) (tgt := 1330) dL_law_1303 (by decide) ?_
  exact nx _ _ _ _ _ _ ⟨(LV.q h cw_1274 y_1298.1 y_1298.2.1 bo9 ⟨by omega, by omega⟩ (by omega) (by omega)), (RVX.lo (⟨cw_1274.1.elim (fun m1 h1 => rv_eq hcc hC h1 cc_1274 hrv.1), hrv.2.of (fun c a b => cw_1274.2.2.2 c (Or.inl ⟨a, b⟩)) cw_1274.2.2.1.2.1⟩) (fun c hc => y_1298.1.2.1 c (Or.inl hc)))⟩

set_option maxHeartbeats 4000000 in
set_option maxRecDepth 100000 in
theorem law_image {l : Launch} {G : tb_G} {Lx : Nat} {xs : Nat → Int32} {k1 k2 n : Nat} {J : zJ} (hl : l.stackTraces = false) (i : Int) (hi : 0 ≤ i ∧ i + 6 ≤ (Lx : Int)) (hx : Lx ≤ 3072) (d5 d6 : Option Value) (h : LVr J n k1 k2 i) (nx : ∀ (k1 k2 n : Nat) (J : zJ) (d5 d6 : Option Value), LVr J n k1 k2 (i + 6) → tz_At l G M_L_law room_1 (some (Lx, xs)) tb_LZ k1 k2 n J 1330 [some (.ref tb_sc), some (.ref 0), some (.ref 164), some (.ref 183), some (zi i), d5, d6] []) : tz_At l G M_L_law room_1 (some (Lx, xs)) tb_LZ k1 k2 n J 1306 [some (.ref tb_sc), some (.ref 0), some (.ref 164), some (.ref 183), some (zi i), d5, d6] [] := by
  obtain ⟨h, hrv⟩ := h
  obtain ⟨⟨m, hC⟩, ⟨m2, hM⟩, h3, h4, h5, ⟨h6, h7⟩, pn, RR, hcc, huu, him⟩ := id h
  have h9 : J 145 10 < 1000000000 := by omega
  have hnb : n ≤ tb_sc := by show n ≤ 1000000; omega
  refine tz_aload_n (pc := 1306) dL_law_1306 rfl rfl ?_
  refine tz_cV (pc := 1307) (v_image hl _ _ m (tbz J) pn RR hC h9 hcc rfl) vl_L_181 dL_law_1307 o_0 rfl rfl (Nat.le_of_ble_eq_true rfl) ⟨(Nat.le_of_ble_eq_true rfl), (Nat.le_of_ble_eq_true rfl)⟩ rfl rfl (show k1 ≤ 601024 by omega) (show k2 ≤ 7293034 by omega) (fun r9 J_1307 hq9 => ?_)
  obtain ⟨rfl, x_1307⟩ := hq9
  have fh9 : ∀ c, 164 ≤ c → c < 183 → J_1307 c = J c := fun c x y => x_1307.1.2.2.2 c (decide_eq_true (Or.inr x))
  have hM2 := hM.mid fh9
  have hu2 := huu.mid fh9
  refine tz_aload_n (pc := 1310) dL_law_1310 rfl rfl ?_
  refine tz_cV (pc := 1311) (v_qimage hl _ _ m2 pn RR hM2 hu2) vl_L_184 dL_law_1311 o_164 rfl rfl (Nat.le_of_ble_eq_true rfl) ⟨(Nat.le_of_ble_eq_true rfl), (Nat.le_of_ble_eq_true rfl)⟩ rfl rfl (show k1 ≤ 601024 by omega) (show k2 ≤ 7293034 by omega) (fun r9 J_1311 hq9 => ?_)
  obtain ⟨rfl, y_1311⟩ := hq9
  refine tz_goto (pc := 1314) (tgt := 1330) dL_law_1314 (by decide) ?_
  exact nx _ _ _ _ _ _ ⟨(LV.i h x_1307 y_1311 ⟨by omega, by omega⟩ (by omega) (by omega)), (RVX.lo (x_1307.1.1.elim (fun m1 h1 => ⟨rv_eq hcc hC h1 x_1307.2.1 hrv.1, rv_image x_1307.2.1 x_1307.2.2 h1 (rv_eq hcc hC h1 x_1307.2.1 hrv.1)⟩)) (fun c hc => y_1311.1.2.1 c (Or.inl hc)))⟩

set_option maxHeartbeats 4000000 in
set_option maxRecDepth 100000 in
theorem law_restore {l : Launch} {G : tb_G} {Lx : Nat} {xs : Nat → Int32} {k1 k2 n : Nat} {J : zJ} (hl : l.stackTraces = false) (i : Int) (hi : 0 ≤ i ∧ i + 6 ≤ (Lx : Int)) (hx : Lx ≤ 3072) (d5 d6 : Option Value) (h : LVr J n k1 k2 i) (nx : ∀ (k1 k2 n : Nat) (J : zJ) (d5 d6 : Option Value), LVr J n k1 k2 (i + 6) → tz_At l G M_L_law room_1 (some (Lx, xs)) tb_LZ k1 k2 n J 1330 [some (.ref tb_sc), some (.ref 0), some (.ref 164), some (.ref 183), some (zi i), d5, d6] []) : tz_At l G M_L_law room_1 (some (Lx, xs)) tb_LZ k1 k2 n J 1317 [some (.ref tb_sc), some (.ref 0), some (.ref 164), some (.ref 183), some (zi i), d5, d6] [] := by
  obtain ⟨h, hrv⟩ := h
  obtain ⟨⟨m, hC⟩, ⟨m2, hM⟩, h3, h4, h5, ⟨h6, h7⟩, pn, RR, hcc, huu, him⟩ := id h
  have h9 : J 145 10 < 1000000000 := by omega
  have hnb : n ≤ tb_sc := by show n ≤ 1000000; omega
  obtain ⟨Gi, ni, Ri, hk9⟩ : ∃ Gi ni Ri, ¬ J 164 14 = 0 → (CALk J Gi ni Ri ∧ (MBI J Gi ∧ MUi J ni Ri) ∧ (0 ≤ Gi 165 0 ∧ Gi 165 0 ≤ 400)) := (Classical.em (J 164 14 = 0)).elim (fun q9 => ⟨tbz J, 0, fun _ _ => 0, fun w => absurd q9 w⟩) (fun q9 => (him q9).elim (fun Gi w => w.elim (fun ni w => w.elim (fun Ri w => ⟨Gi, ni, Ri, fun _ => w⟩))))
  refine tz_aload_n (pc := 1317) dL_law_1317 rfl rfl ?_
  refine tz_cV (pc := 1318) (v_restore hl _ _ m (tbz J) pn RR Gi ni Ri hC h9 hcc rfl (fun q => (hk9 (by rw [← h3.2.2.1]; exact q)).1)) vl_L_185 dL_law_1318 o_0 rfl rfl (Nat.le_of_ble_eq_true rfl) ⟨(Nat.le_of_ble_eq_true rfl), (Nat.le_of_ble_eq_true rfl)⟩ rfl rfl (show k1 ≤ 601024 by omega) (show k2 ≤ 7293034 by omega) (fun r9 J_1318 hq9 => ?_)
  obtain ⟨z_1318, rfl, hz_1318, x_1318⟩ := hq9
  have cw_1318 : CW J_1318 J := CW.c x_1318.1.1
  have fh9 : ∀ c, 164 ≤ c → c < 183 → J_1318 c = J c := fun c x y => cw_1318.2.2.2 c (Or.inr (Or.inr ⟨x, y⟩))
  have hM2 := hM.mid fh9
  have hu2 := huu.mid fh9
  refine tz_pop (pc := 1321) dL_law_1321 rfl ?_
  refine tz_aload_n (pc := 1322) dL_law_1322 rfl rfl ?_
  refine tz_cV (pc := 1323) (v_qrestore hl _ _ m2 pn RR Gi ni Ri hM2 hu2 (fun q => by rw [fh9 164 (by decide) (by decide)] at q; obtain ⟨_, ⟨k1, k2⟩, k3⟩ := hk9 q; refine ⟨⟨?_, ?_⟩, k3⟩; (unfold MBI; rw [fh9 165 (by decide) (by decide), fh9 166 (by decide) (by decide), fh9 167 (by decide) (by decide), fh9 168 (by decide) (by decide)]; exact k1); (unfold MUi; rw [fh9 164 (by decide) (by decide), fh9 165 (by decide) (by decide)]; exact k2))) vl_L_189 dL_law_1323 o_164 rfl rfl (Nat.le_of_ble_eq_true rfl) ⟨(Nat.le_of_ble_eq_true rfl), (Nat.le_of_ble_eq_true rfl)⟩ rfl rfl (show k1 ≤ 601024 by omega) (show k2 ≤ 7293034 by omega) (fun r9 J_1323 hq9 => ?_)
  obtain ⟨z_1323, rfl, hz_1323, y_1323⟩ := hq9
  have bo9 := bo_r h3.2.2.1 fh9 x_1318.2.1 x_1318.2.2 y_1323.2.2.1 y_1323.2.2.2
  have ez9 : z_1318 = z_1323 := x_1318.1.2.trans (by rw [y_1323.1.2, congrFun (fh9 164 (by decide) (by decide)) 14, h3.2.2.1])
  refine tz_pop (pc := 1326) dL_law_1326 rfl ?_
  refine tz_goto (pc := 1327) (tgt := 1330) dL_law_1327 (by decide) ?_
  exact nx _ _ _ _ _ _ ⟨(LV.q h cw_1318 y_1323.1.1 y_1323.2.1 bo9 ⟨by omega, by omega⟩ (by omega) (by omega)), (RVX.lo (⟨cw_1318.1.elim (fun m1 h1 => (Decidable.em (J 0 15 = 0)).elim (fun q9 => rv_eq hcc hC h1 (x_1318.2.1 q9) hrv.1) (fun q9 => rv_restore hcc (hk9 (by rw [← h3.2.2.1]; exact q9)).1 hC h1 (x_1318.2.2 q9) hrv.2 q9)), hrv.2.of (fun c a b => cw_1318.2.2.2 c (Or.inl ⟨a, b⟩)) cw_1318.2.2.1.2.1⟩) (fun c hc => y_1323.1.1.2.1 c (Or.inl hc)))⟩

