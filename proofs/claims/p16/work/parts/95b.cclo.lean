/-! ===== closed of the class, exact ===== -/
theorem madeP.gj {J J' : zJ} {m h a b c z : Int} (p : madeP J m h a b c z J') : GJ J' J m (J' 6 12) := by
  have ct := p.ct
  obtain ⟨f, s, p⟩ := p
  refine ⟨?_, ct, rfl, s, f 1 rfl, f 3 rfl⟩
  rcases p with ⟨_, m1, _⟩ | ⟨_, m1, _⟩ | ⟨_, m1, _⟩ <;> omega
/-- what an argument's call tells of what is there (or that there is none) -/
def AGC (X : List Nat) (ρ : Int → Int) (J1 J : zJ) (x A i z m m1 : Int) : Prop := (i < A ∧ GX X J1 J m m1 ∧ (0 ≤ z → GCj ρ J1 m1 (J 9 (x * 3 + i)) z)) ∨ (¬ i < A ∧ J1 = J ∧ m1 = m)
theorem AGC.gj {X : List Nat} (hX : zbut (6 :: 7 :: 8 :: 9 :: 10 :: 11 :: 12 :: 13 :: 14 :: 15 :: 16 :: 17 :: X) 1 = true ∧ zbut (6 :: 7 :: 8 :: 9 :: 10 :: 11 :: 12 :: 13 :: 14 :: 15 :: 16 :: 17 :: X) 3 = true) {ρ : Int → Int} {J1 J : zJ} {x A i z m m1 : Int} (a : AGC X ρ J1 J x A i z m m1) (C : CT J m) (hm : J 6 12 = m) : GJ J1 J m m1 := by
  rcases a with ⟨_, g, _⟩ | ⟨_, e, e'⟩
  · exact g.j hX
  · rw [e, e']; exact GJ.rf C hm
theorem AGC.gc {X : List Nat} {ρ : Int → Int} {J1 J : zJ} {x A i z m m1 : Int} (a : AGC X ρ J1 J x A i z m m1) (h : i < A) (hz : 0 ≤ z) : GCj ρ J1 m1 (J 9 (x * 3 + i)) z := by
  rcases a with ⟨_, _, q⟩ | ⟨q, _⟩
  · exact q hz
  · exact absurd h q
theorem gcE {X : List Nat} (hX : zbut (6 :: 7 :: 8 :: 9 :: 10 :: 11 :: 12 :: 13 :: 14 :: 15 :: 16 :: 17 :: X) 1 = true ∧ zbut (6 :: 7 :: 8 :: 9 :: 10 :: 11 :: 12 :: 13 :: 14 :: 15 :: 16 :: 17 :: X) 3 = true) {ρ : Int → Int} {J J0 J1 J2 J' : zJ} {x t m m0 m1 m2 z0 z1 z2 z : Int} (C : CT J m) (hm : J 6 12 = m) (hx : 0 ≤ x ∧ x < m) (hv : 0 ≤ J 7 x) (e : ρ t = x) (a0 : AGC X ρ J0 J x (J 8 x) 0 z0 m m0) (a1 : AGC X ρ J1 J0 x (J 8 x) 1 z1 m0 m1) (a2 : AGC X ρ J2 J1 x (J 8 x) 2 z2 m1 m2) (p : madeP J2 m2 (J 7 x) z0 z1 z2 z J') (hz : 0 ≤ z) : GCj ρ J' (J' 6 12) t z := by
  have g0 := a0.gj hX C hm
  have g1 := a1.gj hX g0.2.1 g0.2.2.1
  have g2 := a2.gj hX g1.2.1 g1.2.2.1
  have g3 := p.gj
  have ha := C.ar hx.1 hx.2
  have l0 := g0.1
  have l1 := g1.1
  have l2 := g2.1
  have l3 := g3.1
  have q1 := g0.tr g1
  have q2 := q1.tr g2
  have q3 := q2.tr g3
  obtain ⟨i, ok, hr⟩ := p.is hz
  have e7 : J' 7 x = J 7 x := (q3.2.2.2.1.1 x hx.1 hx.2).1
  have e8 : J' 8 x = J 8 x := (q3.2.2.2.1.1 x hx.1 hx.2).2.1
  have ea : arh (J2 3) (J 7 x) = J 8 x := by rw [q2.2.2.2.2.2]; exact (C.2.1 x hx.1 hx.2).1.1.symm
  rw [ea] at ok
  have n9 : ∀ j, 0 ≤ j → j < J 8 x → J' 9 (x * 3 + j) = J 9 (x * 3 + j) ∧ J1 9 (x * 3 + j) = J 9 (x * 3 + j) ∧ J0 9 (x * 3 + j) = J 9 (x * 3 + j) := fun j a b => ⟨q3.2.2.2.1.2 _ (by omega) (by omega), q1.2.2.2.1.2 _ (by omega) (by omega), g0.2.2.2.1.2 _ (by omega) (by omega)⟩
  refine gcj_c (x := x) (z0 := z0) (z1 := z1) (z2 := z2) p.ct rfl ⟨hx.1, by omega⟩ (by rw [e7]; exact hv) e (fun y => ?_) (fun y => ?_) (fun y => ?_) hr (by rw [e7]; exact i)
  · rw [e8] at y
    have w := n9 0 (by decide) y
    rw [w.1]
    exact (a0.gc y (ok.1 y)).gr ((g1.tr g2).tr g3)
  · rw [e8] at y
    have w := n9 1 (by decide) y
    rw [w.1, ← w.2.2]
    exact (a1.gc y (ok.2.1 y)).gr (g2.tr g3)
  · rw [e8] at y
    have w := n9 2 (by decide) y
    rw [w.1, ← w.2.1]
    exact (a2.gc y (ok.2.2 y)).gr g3
/-- what the closing goes by -/
def CRc (O : Int → Int → Prop) (rk : Int → Nat) (P : Int → Prop) (ρ : Int → Int) (J : zJ) (m0 : Int) : Prop := (∀ t, 0 ≤ t → t < m0 → (J 7 t < 0 → O t (-1 - J 7 t)) ∧ ∀ i v, (0 ≤ i ∧ i < J 8 t) → O (J 9 (t * 3 + i)) v → O t v) ∧ rOK J 19 7 m0 ∧ (∀ v, (0 ≤ v ∧ v < 8) → P v → ¬ J 19 (7 + v) = -1 → ∀ u, O (J 19 (7 + v)) u → P u ∧ (¬ J 19 (7 + u) = -1 → rk u < rk v)) ∧ ∀ t, 0 ≤ t → t < m0 → (∀ v, O t v → P v) → (J 7 t < 0 → ¬ J 19 (7 + (-1 - J 7 t)) = -1 → ρ t = ρ (J 19 (7 + (-1 - J 7 t)))) ∧ ((0 ≤ J 7 t ∨ J 19 (7 + (-1 - J 7 t)) = -1) → ρ t = t)
theorem CRc.gx {X : List Nat} {O : Int → Int → Prop} {rk : Int → Nat} {P : Int → Prop} {ρ : Int → Int} {J' J : zJ} {m m' m0 : Int} (h : CRc O rk P ρ J m0) (C : CT J m) (hm : m0 ≤ m) (g : GX X J' J m m') (hx : zbut (6 :: 7 :: 8 :: 9 :: 10 :: 11 :: 12 :: 13 :: 14 :: 15 :: 16 :: 17 :: X) 19 = true) : CRc O rk P ρ J' m0 := by
  have e19 : J' 19 = J 19 := g.2.2.2.2 19 hx
  have s := g.2.2.2.1
  obtain ⟨h1, h2, h3, h4⟩ := h
  refine ⟨fun t a b => ?_, by unfold rOK at *; rw [e19]; exact h2, by rw [e19]; exact h3, fun t a b => ?_⟩
  · obtain ⟨x1, x2⟩ := h1 t a b
    have w := s.1 t a (by omega)
    have ha := (C.ar a (show t < m by omega)).1
    rw [w.1, w.2.1]
    refine ⟨x1, fun i v hi o => x2 i v hi ?_⟩
    rw [s.2 (t * 3 + i) (by omega) (by omega)] at o
    exact o
  · rw [(s.1 t a (by omega)).1, e19]
    exact h4 t a b
theorem crc_mk {J S : zJ} {m : Int} (E : A0 J S) (C : CT J m) (hm : J 6 12 = m) (hr : rOK J 19 7 m) (hβ : ∀ v, 0 ≤ v → v < 8 → bO S v = J 19 (7 + v)) {rk : Int → Nat} {P : Int → Prop} (n1 : ∀ v, (0 ≤ v ∧ v < 8) → P v → ¬ bO S v = -1 → rk v < 8) (n3 : WTb S (bO S) rk P) : CRc (Occ S 0 0) rk P (rho (bO S) (fun t => S 166 (0 + t)) 8) J m := by
  have h3 : ∀ v, (0 ≤ v ∧ v < 8) → P v → ¬ bO S v = -1 → ∀ u, Occ S 0 0 (bO S v) u → P u ∧ (¬ bO S u = -1 → rk u < rk v) := n3
  refine ⟨fun t a b => ?_, hr, fun v hv p b u o => ?_, fun t a b ho => ?_⟩
  · obtain ⟨t1, t2, t3⟩ := E.tm C hm ⟨a, b⟩
    refine ⟨fun q => ?_, fun i v hi o => ?_⟩
    · have := Occ.v (J := S) (b := 0) (d := 0) (t := t) (by rw [t1]; exact q)
      rw [t1] at this
      exact this
    · refine Occ.a (i := i) (by rw [t2]; exact hi) ?_
      rw [t3 i hi.1 hi.2]
      exact o
  · have y := hr v hv.1 hv.2
    rw [← hβ v hv.1 hv.2] at b o
    have hu : 0 ≤ u ∧ u < 8 := o.elim (fun k o => E.org C hm k _ u (by have := hβ v hv.1 hv.2; omega) o)
    rw [← hβ u hu.1 hu.2]
    exact h3 v hv p b u o
  · obtain ⟨t1, t2, t3⟩ := E.tm C hm ⟨a, b⟩
    have hd := (C.ar a b).2.2
    refine ⟨fun q1 q2 => ?_, fun q => ?_⟩
    · have e := hβ (-1 - J 7 t) (by omega) (by omega)
      rw [← e] at q2 ⊢
      have st : rho (bO S) (fun t => S 166 (0 + t)) 8 t = rho (bO S) (fun t => S 166 (0 + t)) 7 (bO S (-1 - J 7 t)) := by
        rw [rho_s]
        (try dsimp only)
        rw [t1, if_pos ⟨q1, q2⟩]
      rw [st]
      have o1 : Occ S 0 0 t (-1 - J 7 t) := by
        have := Occ.v (J := S) (b := 0) (d := 0) (t := t) (by rw [t1]; exact q1)
        rw [t1] at this
        exact this
      have p := ho _ o1
      have rv := n1 _ (by omega) p q2
      have y := hr (-1 - J 7 t) (by omega) (by omega)
      refine rho_q (O := Occ S 0 0) (rk := rk) (P := P) (m := m) (fun t ht => ?_) (fun v a b => ?_) (fun t ht q => Occ.v q) h3 7 _ (by omega) (fun u o => ?_) 7 8 (by decide) (by decide)
      · (try dsimp only)
        rw [(E.tm C hm ht).1]
        exact (C.ar ht.1 ht.2).2.2.1
      · rw [hβ v a b]; exact hr v a b
      · obtain ⟨x, y⟩ := h3 _ (by omega) p q2 u o
        exact ⟨x, fun n => by have := y n; omega⟩
    · refine rho_n (fun w => ?_) 8
      (try dsimp only at w)
      rw [t1] at w
      rcases q with q | q
      · omega
      · have e := hβ (-1 - J 7 t) (by omega) (by omega)
        exact w.2 (e.trans q)
def cGC (ρ : Int → Int) (J : zJ) (m : Int) : Prop := ∀ v, 0 ≤ v → v < 8 → 0 ≤ J 142 v → GCj ρ J m (J 19 (7 + v)) (J 142 v)
def nNC (J : zJ) : Prop := ∀ v, 0 ≤ v → v < 8 → ¬ J 142 v = -3
theorem cGC.gx {J' J : zJ} {m m' : Int} {ρ : Int → Int} (h : cGC ρ J m) (g : GX [] J' J m m') : cGC ρ J' m' := fun v a b c => by
  rw [g.2.2.2.2 142 rfl] at c ⊢
  rw [g.2.2.2.2 19 rfl]
  exact (h v a b c).gr (g.j ⟨rfl, rfl⟩)
theorem cGC.up {J : zJ} {m v z : Int} {ρ : Int → Int} (h : cGC ρ J m) (hz : 0 ≤ z → GCj ρ J m (J 19 (7 + v)) z) : cGC ρ (zup J 142 v z) m := fun u a b c => by
  have e : ∀ q, q < 18 → zup J 142 v z q = J q := fun q hq => zup_nc (by omega)
  rw [zup_nc (show ¬ 19 = 142 by decide)]
  by_cases w : u = v
  · subst w
    rw [zup_at] at c ⊢
    exact (hz c).of e
  · rw [zup_ne w] at c ⊢
    exact (h u a b c).of e
theorem nNC.up {J : zJ} {v z : Int} (h : nNC J) (hz : 0 ≤ z) : nNC (zup J 142 v z) := fun u a b => by
  by_cases w : u = v
  · subst w; rw [zup_at]; omega
  · rw [zup_ne w]; exact h u a b
theorem nNC.gx {J' J : zJ} {m m' : Int} (h : nNC J) (g : GX [] J' J m m') : nNC J' := fun v a b => by
  rw [g.2.2.2.2 142 rfl]; exact h v a b
theorem EXK.up {k : Nat} {F : zJ × Int} {z v : Int} {J : zJ} (e : EXK nNC k F z J) : EXK nNC k F z (zup J 142 v z) := by
  rcases e with q | q | ⟨q1, q2, q3, q4, q5⟩
  · exact Or.inl q
  · exact Or.inr (Or.inl q)
  · exact Or.inr (Or.inr ⟨q1, q2, q3.f (fun c hc => zup_nc (by omega)), q4, q5.up q1⟩)
theorem exd_0 {I : zJ → Prop} {ρ : Int → Int} {k : Nat} {J' S : zJ} {m' t z : Int} (C : CT J' m') (hz : z = -3 ∨ (0 ≤ z ∧ z < m')) (hk : k = 0) : EXK I k (grO ρ k S t) z J' := by
  subst hk
  rcases hz with hz | hz
  · exact Or.inl ⟨hz, grO_0f⟩
  · exact Or.inr (Or.inl ⟨hz.1, grO_0f, by have := (C.nums hz.1 hz.2).2.2; omega⟩)
theorem exd_c {I : zJ → Prop} {ρ : Int → Int} {k : Nat} {J S J' : zJ} {m t z : Int} (hG : S 164 21 = 0) (E : A0 J S) (C : CT J m) (hm : J 6 12 = m) (ht : 0 ≤ t ∧ t < m) (hv : ¬ J 7 t < 0) (hk : ¬ k = 0) (er : ρ t = t) (e : EXK I (k - 1 + 1) (gR (fun H i => grO ρ (k - 1) H (H 167 (3 * (0 + t) + i))) S (J 7 t)) z J') : EXK I k (grO ρ k S t) z J' := by
  obtain ⟨k, rfl⟩ : ∃ k', k = k' + 1 := ⟨k - 1, by omega⟩
  rw [grO_s, if_pos hG, er, (E.tm C hm ht).1, if_neg hv]
  exact e
set_option maxHeartbeats 4000000 in
set_option maxRecDepth 100000 in
theorem x_closedVar {l : Launch} {G : tb_G} (hl : l.stackTraces = false) (n : Nat) (J : zJ) (t : Int) (lv : Int) (hr_t : -2147483648 ≤ t ∧ t < 2147483648) (hr_lv : -2147483648 ≤ lv ∧ lv < 2147483648) (d9 : Nat) (m0 : Int) (k : Nat) (ρ : Int → Int) (O : Int → Int → Prop) (rk : Int → Nat) (P : Int → Prop) (H : ∀ (J : zJ) (t : Int) (hr_t : -2147483648 ≤ t ∧ t < 2147483648) (m : Int) (q : Nat) (C : CT J m) (hm : J 6 12 = m) (ht : 0 ≤ t ∧ t < m) (hr : rOK J 19 7 m) (hc : cOK J m) (hm0 : m0 ≤ m) (ht0 : t < m0) (hC : CRc O rk P ρ J m0) (hq : ∀ v, O t v → P v ∧ (¬ J 19 (7 + v) = -1 → rk v < q)) (hg : cGC ρ J m) (hk : k = 0 ∨ (lv + 1) + k + q ≤ 15), tz_Ok l G M_X2_closedPart d9 0 0 [.ref 141, zi t, .ref 19, zi 7, zi (lv + 1)] n J (zqi (fun z J' => ∃ m', GX [142] J' J m m' ∧ cOK J' m' ∧ (z = -3 ∨ (0 ≤ z ∧ z < m')) ∧ cGC ρ J' m' ∧ (0 ≤ z → GCj ρ J' m' t z) ∧ ∀ S, S 164 21 = 0 → A0 J S → nNC J → EXK nNC k (grO ρ k S t) z J')) zN) (m : Int) (q : Nat) (C : CT J m) (hm : J 6 12 = m) (ht : 0 ≤ t ∧ t < m) (hr : rOK J 19 7 m) (hc : cOK J m) (hm0 : m0 ≤ m) (ht0 : t < m0) (hC : CRc O rk P ρ J m0) (hq : ∀ v, O t v → P v ∧ (¬ J 19 (7 + v) = -1 → rk v < q)) (hg : cGC ρ J m) (hv : J 7 t < 0) (hk : k = 0 ∨ lv + k + q ≤ 15) : tz_Ok l G M_X2_closedVariable (d9 + 1) 0 0 [.ref 141, zi t, .ref 19, zi 7, zi lv] n J (zqi (fun z J' => ∃ m', GX [142] J' J m m' ∧ cOK J' m' ∧ (z = -3 ∨ (0 ≤ z ∧ z < m')) ∧ cGC ρ J' m' ∧ (0 ≤ z → GCj ρ J' m' t z) ∧ ∀ S, S 164 21 = 0 → A0 J S → nNC J → EXK nNC k (grO ρ k S t) z J')) zN := by
  refine tz_Ok.of hl (by decide +kernel) rfl (tb_c1 rfl) (Nat.le_of_ble_eq_true rfl) ?_
  show tz_At l G M_X2_closedVariable (tb_rm (d9 + 1) 0 0) none (tb_ZM G 0 0 (zQ n 0 (zqi (fun z J' => ∃ m', GX [142] J' J m m' ∧ cOK J' m' ∧ (z = -3 ∨ (0 ≤ z ∧ z < m')) ∧ cGC ρ J' m' ∧ (0 ≤ z → GCj ρ J' m' t z) ∧ ∀ S, S 164 21 = 0 → A0 J S → nNC J → EXK nNC k (grO ρ k S t) z J'))) (zX n 0 zN)) 0 0 n J 0 [some (.ref 141), some (zi t), some (.ref 19), some (zi 7), some (zi lv), none, none] []
  have hb := C.told
  have ha := C.ar ht.1 ht.2
  have hv8 : 0 ≤ (-1 - J 7 t) ∧ (-1 - J 7 t) < 8 := by omega
  have hqq := hr _ hv8.1 hv8.2
  have hkk := hc _ hv8.1 hv8.2
  have er0 := ((hC.2.2.2 t ht.1 ht0 (fun v o9 => (hq v o9).1)).2)
  have er1 := ((hC.2.2.2 t ht.1 ht0 (fun v o9 => (hq v o9).1)).1)
  refine tz_aload_n (pc := 0) dX2_closedVariable_0 rfl rfl ?_
  refine tz_fR (pc := 1) dX2_closedVariable_1 fl_X2_28 r_141_0 ?_
  refine tz_fR (pc := 4) dX2_closedVariable_4 fl_X2_42 r_6_1 ?_
  refine tz_iload_n (pc := 7) dX2_closedVariable_7 rfl rfl ?_
  refine tz_aL (pc := 8) (z := t) (v := (J 7 t)) dX2_closedVariable_8 a_7 rfl (by omega) rfl (fun r_8 => ?_)
  refine tz_iconst (pc := 9) dX2_closedVariable_9 ?_
  refine tz_ixor (pc := 10) (v := -1 - J 7 t) dX2_closedVariable_10 (z_nn (by omega)) ?_
  refine tz_istore (pc := 11) (L2 := [_, _, _, _, _, _, _]) dX2_closedVariable_11 (by decide) rfl ?_
  refine tz_aload_n (pc := 13) dX2_closedVariable_13 rfl rfl ?_
  refine tz_iload_n (pc := 14) dX2_closedVariable_14 rfl rfl ?_
  refine tz_iload (pc := 15) dX2_closedVariable_15 rfl ?_
  refine tz_iadd (pc := 17) (v := 7 + (-1 - J 7 t)) dX2_closedVariable_17 rfl ?_
  refine tz_aL (pc := 18) (z := (7 + (-1 - J 7 t))) (v := (J 19 (7 + (-1 - J 7 t)))) dX2_closedVariable_18 a_19 rfl (by omega) rfl (fun r_18 => ?_)
  refine tz_istore (pc := 19) (L2 := [_, _, _, _, _, _, _]) dX2_closedVariable_19 (by decide) rfl ?_
  refine tz_iload (pc := 21) dX2_closedVariable_21 rfl ?_
  refine tz_iconst (pc := 23) dX2_closedVariable_23 ?_
  refine tz_icmp_ne (pc := 24) (tgt := 29) dX2_closedVariable_24 (by decide) (by omega) (by decide) (fun h_24 => ?_) (fun h_24 => ?_)
  · refine tz_aload_n (pc := 29) dX2_closedVariable_29 rfl rfl ?_
    refine tz_fR (pc := 30) dX2_closedVariable_30 fl_X2_9 r_141_1 ?_
    refine tz_iload (pc := 33) dX2_closedVariable_33 rfl ?_
    refine tz_aL (pc := 35) (z := (-1 - J 7 t)) (v := (J 142 (-1 - J 7 t))) dX2_closedVariable_35 a_142 rfl (by omega) rfl (fun r_35 => ?_)
    refine tz_iconst (pc := 36) dX2_closedVariable_36 ?_
    refine tz_icmp_ne (pc := 37) (tgt := 59) dX2_closedVariable_37 (by decide) (by omega) (by decide) (fun h_37 => ?_) (fun h_37 => ?_)
    · refine tz_aload_n (pc := 59) dX2_closedVariable_59 rfl rfl ?_
      refine tz_fR (pc := 60) dX2_closedVariable_60 fl_X2_9 r_141_1 ?_
      refine tz_iload (pc := 63) dX2_closedVariable_63 rfl ?_
      refine tz_aL (pc := 65) (z := (-1 - J 7 t)) (v := (J 142 (-1 - J 7 t))) dX2_closedVariable_65 a_142 rfl (by omega) rfl (fun r_65 => ?_)
      exact tz_iret (pc := 66) (z := (J 142 (-1 - J 7 t))) dX2_closedVariable_66 rfl (Nat.le_of_ble_eq_true rfl) (Nat.le_of_ble_eq_true rfl) ⟨Nat.le_refl _, Nat.le_add_right _ _⟩ ⟨_, rfl, (by omega), ⟨m, GX.rf C hm, hc, by omega, hg, fun q9 => (hg _ hv8.1 hv8.2 q9).rr (er1 (by omega) (by omega)), fun S hG E N => ((hg _ hv8.1 hv8.2 (by have := N _ hv8.1 hv8.2; omega)).rr (er1 (by omega) (by omega))).ex C hm hG E N⟩⟩
    · refine tz_aload_n (pc := 40) dX2_closedVariable_40 rfl rfl ?_
      refine tz_fR (pc := 41) dX2_closedVariable_41 fl_X2_9 r_141_1 ?_
      refine tz_iload (pc := 44) dX2_closedVariable_44 rfl ?_
      refine tz_aload_n (pc := 46) dX2_closedVariable_46 rfl rfl ?_
      refine tz_iload (pc := 47) dX2_closedVariable_47 rfl ?_
      refine tz_aload_n (pc := 49) dX2_closedVariable_49 rfl rfl ?_
      refine tz_iload_n (pc := 50) dX2_closedVariable_50 rfl rfl ?_
      refine tz_iload (pc := 51) dX2_closedVariable_51 rfl ?_
      refine tz_iconst (pc := 53) dX2_closedVariable_53 ?_
      refine tz_iadd (pc := 54) (v := lv + 1) dX2_closedVariable_54 rfl ?_
      have oo := hq _ ((hC.1 t ht.1 ht0).1 (by omega))
      have orr := oo.2 (by omega)
      have hr0 := hC.2.1 _ hv8.1 hv8.2
      have er := ((hC.2.2.2 t ht.1 ht0 (fun v o9 => (hq v o9).1)).1 (by omega) (by omega))
      refine tz_cV (pc := 55) (H _ _ (by omega) m (rk (-1 - J 7 t)) C hm (by omega) hr hc hm0 (by omega) hC (hC.2.2.1 _ hv8 oo.1 (by omega)) hg (by omega)) vl_X2_69 dX2_closedVariable_55 o_141 rfl rfl (Nat.le_of_ble_eq_true rfl) ⟨(show d9 + 1 ≤ d9 + 1 by omega), (show 8 + (9 + 11) + 40 * (d9) ≤ 40 * (d9 + 1) by omega)⟩ rfl rfl (Nat.le_of_ble_eq_true rfl) (Nat.le_of_ble_eq_true rfl) (fun r9 J_55 hq9 => ?_)
      obtain ⟨z_55, rfl, hz_55, m_55, q_55, o_55, h_55, c_55, v_55, x_55⟩ := hq9
      refine tz_aS (pc := 58) (z := (-1 - J 7 t)) dX2_closedVariable_58 a_142 rfl (by omega) (by omega) ?_
      refine tz_aload_n (pc := 59) dX2_closedVariable_59 rfl rfl ?_
      refine tz_fR (pc := 60) dX2_closedVariable_60 fl_X2_9 r_141_1 ?_
      refine tz_iload (pc := 63) dX2_closedVariable_63 rfl ?_
      refine tz_aL (pc := 65) (z := (-1 - J 7 t)) (v := z_55) dX2_closedVariable_65 a_142 rfl (by omega) (by simp [zup]) (fun r_65 => ?_)
      exact tz_iret (pc := 66) (z := z_55) dX2_closedVariable_66 rfl (Nat.le_of_ble_eq_true rfl) (Nat.le_of_ble_eq_true rfl) ⟨Nat.le_refl _, Nat.le_add_right _ _⟩ ⟨_, rfl, (by omega), ⟨m_55, q_55.off rfl (zOf.up rfl zOf.rf), o_55.up h_55, h_55, c_55.up (fun q9 => by rw [q_55.2.2.2.2 19 rfl]; exact v_55 q9), fun q9 => ((v_55 q9).rr er).of (fun q8 hq8 => zup_nc (by omega)), fun S hG E N => by rw [grO_r er]; exact (x_55 S hG E N).up⟩⟩
  · refine tz_iload_n (pc := 27) dX2_closedVariable_27 rfl rfl ?_
    exact tz_iret (pc := 28) (z := t) dX2_closedVariable_28 rfl (Nat.le_of_ble_eq_true rfl) (Nat.le_of_ble_eq_true rfl) ⟨Nat.le_refl _, Nat.le_add_right _ _⟩ ⟨_, rfl, (by omega), ⟨m, GX.rf C hm, hc, by omega, hg, fun _ => gcj_v ht (by omega) (er0 (Or.inr (by omega))), fun S hG E N => (gcj_v ht (by omega) (er0 (Or.inr (by omega)))).ex C hm hG E N⟩⟩

set_option maxHeartbeats 4000000 in
set_option maxRecDepth 100000 in
theorem x_closedP {l : Launch} {G : tb_G} (hl : l.stackTraces = false) (n : Nat) : ∀ (r9 : Nat) (J : zJ) (t : Int) (lv : Int) (hr_t : -2147483648 ≤ t ∧ t < 2147483648) (hr_lv : -2147483648 ≤ lv ∧ lv < 2147483648) (m0 : Int) (k : Nat) (ρ : Int → Int) (O : Int → Int → Prop) (rk : Int → Nat) (P : Int → Prop) (m : Int) (q : Nat) (C : CT J m) (hm : J 6 12 = m) (ht : 0 ≤ t ∧ t < m) (hr : rOK J 19 7 m) (hc : cOK J m) (hm0 : m0 ≤ m) (ht0 : t < m0) (hC : CRc O rk P ρ J m0) (hq : ∀ v, O t v → P v ∧ (¬ J 19 (7 + v) = -1 → rk v < q)) (hg : cGC ρ J m) (hk : k = 0 ∨ lv + k + q ≤ 15), ((15 - lv).toNat) < r9 → tz_Ok l G M_X2_closedPart (4 + 2 * r9) 0 0 [.ref 141, zi t, .ref 19, zi 7, zi lv] n J (zqi (fun z J' => ∃ m', GX [142] J' J m m' ∧ cOK J' m' ∧ (z = -3 ∨ (0 ≤ z ∧ z < m')) ∧ cGC ρ J' m' ∧ (0 ≤ z → GCj ρ J' m' t z) ∧ ∀ S, S 164 21 = 0 → A0 J S → nNC J → EXK nNC k (grO ρ k S t) z J')) zN := by
  intro r9
  induction r9 with
  | zero => intro J t lv hr_t hr_lv m0 k ρ O rk P m q C hm ht hr hc hm0 ht0 hC hq hg hk hm9; exact absurd hm9 (Nat.not_lt_zero _)
  | succ r9 ih =>
    intro J t lv hr_t hr_lv m0 k ρ O rk P m q C hm ht hr hc hm0 ht0 hC hq hg hk hm9
    refine tz_Ok.of hl (by decide +kernel) rfl (tb_c1 rfl) (Nat.le_of_ble_eq_true rfl) ?_
    show tz_At l G M_X2_closedPart (tb_rm (4 + 2 * (r9 + 1)) 0 0) none (tb_ZM G 0 0 (zQ n 0 (zqi (fun z J' => ∃ m', GX [142] J' J m m' ∧ cOK J' m' ∧ (z = -3 ∨ (0 ≤ z ∧ z < m')) ∧ cGC ρ J' m' ∧ (0 ≤ z → GCj ρ J' m' t z) ∧ ∀ S, S 164 21 = 0 → A0 J S → nNC J → EXK nNC k (grO ρ k S t) z J'))) (zX n 0 zN)) 0 0 n J 0 [some (.ref 141), some (zi t), some (.ref 19), some (zi 7), some (zi lv), none, none, none, none] []
    have hb := C.told
    have ha := C.ar ht.1 ht.2
    have g0 : GX [142] J J m m := GX.rf C hm
    refine tz_iload (pc := 0) dX2_closedPart_0 rfl ?_
    refine tz_bipush (pc := 2) dX2_closedPart_2 (by decide) ?_
    refine tz_icmp_le (pc := 4) (tgt := 10) dX2_closedPart_4 (by decide) (by omega) (by decide) (fun h_4 => ?_) (fun h_4 => ?_)
    · refine tz_aload_n (pc := 10) dX2_closedPart_10 rfl rfl ?_
      refine tz_fR (pc := 11) dX2_closedPart_11 fl_X2_28 r_141_0 ?_
      refine tz_iload_n (pc := 14) dX2_closedPart_14 rfl rfl ?_
      refine tz_cV (pc := 15) (c_isVar hl n _ _ (by omega) (by omega)) vl_X2_36 dX2_closedPart_15 o_6 rfl rfl (Nat.le_of_ble_eq_true rfl) ⟨(show 0 + 1 ≤ 4 + 2 * (r9 + 1) by omega), (show 8 + (2 + 11) + 40 * (0) ≤ 40 * (4 + 2 * (r9 + 1)) by omega)⟩ rfl rfl (Nat.le_of_ble_eq_true rfl) (Nat.le_of_ble_eq_true rfl) (fun r9 J_15 hq9 => ?_)
      obtain ⟨z_15, rfl, hz_15, rfl, rfl⟩ := hq9
      by_cases hw_18 : J 7 t < 0
      · rw [show (if J 7 t < 0 then 1 else 0 : Int) = 1 from if_pos hw_18]
        refine tz_if_eqF (pc := 18) (tgt := 31) (by decide) dX2_closedPart_18 (by decide) (by decide) ?_
        refine tz_aload_n (pc := 21) dX2_closedPart_21 rfl rfl ?_
        refine tz_iload_n (pc := 22) dX2_closedPart_22 rfl rfl ?_
        refine tz_aload_n (pc := 23) dX2_closedPart_23 rfl rfl ?_
        refine tz_iload_n (pc := 24) dX2_closedPart_24 rfl rfl ?_
        refine tz_iload (pc := 25) dX2_closedPart_25 rfl ?_
        refine tz_cV (pc := 27) (x_closedVar hl n _ _ _ (by omega) (by omega) (4 + 2 * r9) m0 k ρ O rk P (fun J t a m q h1 h2 h3 h4 h5 h6 h7 h8 h9 h10 h11 => ih J t _ a (by omega) m0 k ρ O rk P m q h1 h2 h3 h4 h5 h6 h7 h8 h9 h10 h11 (by omega)) m q C hm ht hr hc hm0 ht0 hC hq hg (by omega) hk) vl_X2_72 dX2_closedPart_27 o_141 rfl rfl (Nat.le_of_ble_eq_true rfl) ⟨(show (4 + 2 * r9 + 1) + 1 ≤ 4 + 2 * (r9 + 1) by omega), (show 8 + (7 + 11) + 40 * ((4 + 2 * r9 + 1)) ≤ 40 * (4 + 2 * (r9 + 1)) by omega)⟩ rfl rfl (Nat.le_of_ble_eq_true rfl) (Nat.le_of_ble_eq_true rfl) (fun r9 J_27 hq9 => ?_)
        obtain ⟨z_27, rfl, hz_27, m_27, q_27, o_27, h_27, c_27, v_27, x_27⟩ := hq9
        exact tz_iret (pc := 30) (z := z_27) dX2_closedPart_30 rfl (Nat.le_of_ble_eq_true rfl) (Nat.le_of_ble_eq_true rfl) ⟨Nat.le_refl _, Nat.le_add_right _ _⟩ ⟨_, rfl, (by omega), ⟨m_27, q_27, o_27, h_27, c_27, v_27, x_27⟩⟩
      · rw [show (if J 7 t < 0 then 1 else 0 : Int) = 0 from if_neg hw_18]
        refine tz_if_eqT (pc := 18) (tgt := 31) (by decide) dX2_closedPart_18 (by decide) (by decide) ?_
        refine tz_aload_n (pc := 31) dX2_closedPart_31 rfl rfl ?_
        refine tz_fR (pc := 32) dX2_closedPart_32 fl_X2_28 r_141_0 ?_
        refine tz_fR (pc := 35) dX2_closedPart_35 fl_X2_45 r_6_2 ?_
        refine tz_iload_n (pc := 38) dX2_closedPart_38 rfl rfl ?_
        refine tz_aL (pc := 39) (z := t) (v := (J 8 t)) dX2_closedPart_39 a_8 rfl (by omega) rfl (fun r_39 => ?_)
        refine tz_istore (pc := 40) (L2 := [_, _, _, _, _, _, _, _, _]) dX2_closedPart_40 (by decide) rfl ?_
        refine tz_iload (pc := 42) dX2_closedPart_42 rfl ?_
        refine tz_iconst (pc := 44) dX2_closedPart_44 ?_
        refine tz_icmp_ge (pc := 45) (tgt := 52) dX2_closedPart_45 (by decide) (by omega) (by decide) (fun h_45 => ?_) (fun h_45 => ?_)
        · refine tz_aload_n (pc := 52) dX2_closedPart_52 rfl rfl ?_
          refine tz_aload_n (pc := 53) dX2_closedPart_53 rfl rfl ?_
          refine tz_fR (pc := 54) dX2_closedPart_54 fl_X2_28 r_141_0 ?_
          refine tz_iload_n (pc := 57) dX2_closedPart_57 rfl rfl ?_
          refine tz_iconst (pc := 58) dX2_closedPart_58 ?_
          refine tz_cV (pc := 59) (c_arg hl n _ _ _ (by omega) (by decide) (by omega)) vl_X2_48 dX2_closedPart_59 o_6 rfl rfl (Nat.le_of_ble_eq_true rfl) ⟨(show 0 + 1 ≤ 4 + 2 * (r9 + 1) by omega), (show 8 + (3 + 11) + 40 * (0) ≤ 40 * (4 + 2 * (r9 + 1)) by omega)⟩ rfl rfl (Nat.le_of_ble_eq_true rfl) (Nat.le_of_ble_eq_true rfl) (fun r9 J_59 hq9 => ?_)
          obtain ⟨z_59, rfl, hz_59, rfl, rfl⟩ := hq9
          refine tz_aload_n (pc := 62) dX2_closedPart_62 rfl rfl ?_
          refine tz_iload_n (pc := 63) dX2_closedPart_63 rfl rfl ?_
          refine tz_iload (pc := 64) dX2_closedPart_64 rfl ?_
          refine tz_iconst (pc := 66) dX2_closedPart_66 ?_
          refine tz_iadd (pc := 67) (v := lv + 1) dX2_closedPart_67 rfl ?_
          have b_68 := (GX.arg g0 C ht (i := 0) (by omega))
          have k_68 := (C.arg ht.1 ht.2 (i := 0) (by omega) (by omega)).1
          have n_68 := (g0).1
          refine tz_cV (pc := 68) (ih _ _ _ (by omega) (by omega) m0 (k - 1) ρ O rk P m q (g0).2.1 (g0).2.2.1 (by omega) (GX.row g0 rfl hr) hc (by omega) (by omega) hC (fun v o9 => by rw [b_68.2] at o9; rw [(g0).2.2.2.2 19 rfl]; exact hq v ((hC.1 t ht.1 ht0).2 0 v (by omega) o9)) hg (by omega) (by omega)) vl_X2_69 dX2_closedPart_68 o_141 rfl rfl (Nat.le_of_ble_eq_true rfl) ⟨(show (4 + 2 * r9) + 1 ≤ 4 + 2 * (r9 + 1) by omega), (show 8 + (9 + 11) + 40 * ((4 + 2 * r9)) ≤ 40 * (4 + 2 * (r9 + 1)) by omega)⟩ rfl rfl (Nat.le_of_ble_eq_true rfl) (Nat.le_of_ble_eq_true rfl) (fun r9 J_68 hq9 => ?_)
          obtain ⟨z_68, rfl, hz_68, m_68, g_68, o_68, h_68, c_68, v_68, x_68⟩ := hq9
          have q_68 := GX.tr g0 g_68
          have d_68 := q_68.1
          have e_68 := g_68.1
          have s8_68 : J 8 t = J 8 t := ((g0).2.2.2.1.1 t ht.1 ht.2).2.1
          have r_68 : ∀ S, S 164 21 = 0 → A0 J S → nNC J → EXK nNC (k - 1) ((fun (H : zJ) (i : Int) => grO ρ (k - 1) H (H 167 (3 * (0 + t) + i))) S 0) z_68 J_68 := fun S h9 E9 N9 => by dsimp only; rw [(E9.tm (g0).2.1 (g0).2.2.1 (t := t) (by omega)).2.2 0 (by decide) (by omega)]; exact x_68 S h9 E9 N9
          refine tz_istore (pc := 71) (L2 := [_, _, _, _, _, _, _, _, _]) dX2_closedPart_71 (by decide) rfl ?_
          refine tz_iload (pc := 73) dX2_closedPart_73 rfl ?_
          refine tz_iconst (pc := 75) dX2_closedPart_75 ?_
          refine tz_icmp_ge (pc := 76) (tgt := 83) dX2_closedPart_76 (by decide) (by omega) (by decide) (fun h_76 => ?_) (fun h_76 => ?_)
          · refine tz_aload_n (pc := 83) dX2_closedPart_83 rfl rfl ?_
            refine tz_aload_n (pc := 84) dX2_closedPart_84 rfl rfl ?_
            refine tz_fR (pc := 85) dX2_closedPart_85 fl_X2_28 r_141_0 ?_
            refine tz_iload_n (pc := 88) dX2_closedPart_88 rfl rfl ?_
            refine tz_iconst (pc := 89) dX2_closedPart_89 ?_
            refine tz_cV (pc := 90) (c_arg hl n _ _ _ (by omega) (by decide) (by omega)) vl_X2_48 dX2_closedPart_90 o_6 rfl rfl (Nat.le_of_ble_eq_true rfl) ⟨(show 0 + 1 ≤ 4 + 2 * (r9 + 1) by omega), (show 8 + (3 + 11) + 40 * (0) ≤ 40 * (4 + 2 * (r9 + 1)) by omega)⟩ rfl rfl (Nat.le_of_ble_eq_true rfl) (Nat.le_of_ble_eq_true rfl) (fun r9 J_90 hq9 => ?_)
            obtain ⟨z_90, rfl, hz_90, rfl, rfl⟩ := hq9
            refine tz_aload_n (pc := 93) dX2_closedPart_93 rfl rfl ?_
            refine tz_iload_n (pc := 94) dX2_closedPart_94 rfl rfl ?_
            refine tz_iload (pc := 95) dX2_closedPart_95 rfl ?_
            refine tz_iconst (pc := 97) dX2_closedPart_97 ?_
            refine tz_iadd (pc := 98) (v := lv + 1) dX2_closedPart_98 rfl ?_
            have b_99 := (GX.arg q_68 C ht (i := 1) (by omega))
            have k_99 := (C.arg ht.1 ht.2 (i := 1) (by omega) (by omega)).1
            have n_99 := (q_68).1
            refine tz_cV (pc := 99) (ih _ _ _ (by omega) (by omega) m0 (k - 1) ρ O rk P m_68 q (q_68).2.1 (q_68).2.2.1 (by omega) (GX.row q_68 rfl hr) o_68 (by omega) (by omega) (hC.gx C hm0 (q_68) rfl) (fun v o9 => by rw [b_99.2] at o9; rw [(q_68).2.2.2.2 19 rfl]; exact hq v ((hC.1 t ht.1 ht0).2 1 v (by omega) o9)) c_68 (by omega) (by omega)) vl_X2_69 dX2_closedPart_99 o_141 rfl rfl (Nat.le_of_ble_eq_true rfl) ⟨(show (4 + 2 * r9) + 1 ≤ 4 + 2 * (r9 + 1) by omega), (show 8 + (9 + 11) + 40 * ((4 + 2 * r9)) ≤ 40 * (4 + 2 * (r9 + 1)) by omega)⟩ rfl rfl (Nat.le_of_ble_eq_true rfl) (Nat.le_of_ble_eq_true rfl) (fun r9 J_99 hq9 => ?_)
            obtain ⟨z_99, rfl, hz_99, m_99, g_99, o_99, h_99, c_99, v_99, x_99⟩ := hq9
            have q_99 := GX.tr q_68 g_99
            have d_99 := q_99.1
            have e_99 := g_99.1
            have s8_99 : J_68 8 t = J 8 t := ((q_68).2.2.2.1.1 t ht.1 ht.2).2.1
            have r_99 : ∀ S, S 164 21 = 0 → A0 J_68 S → nNC J_68 → EXK nNC (k - 1) ((fun (H : zJ) (i : Int) => grO ρ (k - 1) H (H 167 (3 * (0 + t) + i))) S 1) z_99 J_99 := fun S h9 E9 N9 => by dsimp only; rw [(E9.tm (q_68).2.1 (q_68).2.2.1 (t := t) (by omega)).2.2 1 (by decide) (by omega)]; exact x_99 S h9 E9 N9
            refine tz_istore (pc := 102) (L2 := [_, _, _, _, _, _, _, _, _]) dX2_closedPart_102 (by decide) rfl ?_
            refine tz_iload (pc := 104) dX2_closedPart_104 rfl ?_
            refine tz_iconst (pc := 106) dX2_closedPart_106 ?_
            refine tz_icmp_ge (pc := 107) (tgt := 114) dX2_closedPart_107 (by decide) (by omega) (by decide) (fun h_107 => ?_) (fun h_107 => ?_)
            · refine tz_aload_n (pc := 114) dX2_closedPart_114 rfl rfl ?_
              refine tz_aload_n (pc := 115) dX2_closedPart_115 rfl rfl ?_
              refine tz_fR (pc := 116) dX2_closedPart_116 fl_X2_28 r_141_0 ?_
              refine tz_iload_n (pc := 119) dX2_closedPart_119 rfl rfl ?_
              refine tz_iconst (pc := 120) dX2_closedPart_120 ?_
              refine tz_cV (pc := 121) (c_arg hl n _ _ _ (by omega) (by decide) (by omega)) vl_X2_48 dX2_closedPart_121 o_6 rfl rfl (Nat.le_of_ble_eq_true rfl) ⟨(show 0 + 1 ≤ 4 + 2 * (r9 + 1) by omega), (show 8 + (3 + 11) + 40 * (0) ≤ 40 * (4 + 2 * (r9 + 1)) by omega)⟩ rfl rfl (Nat.le_of_ble_eq_true rfl) (Nat.le_of_ble_eq_true rfl) (fun r9 J_121 hq9 => ?_)
              obtain ⟨z_121, rfl, hz_121, rfl, rfl⟩ := hq9
              refine tz_aload_n (pc := 124) dX2_closedPart_124 rfl rfl ?_
              refine tz_iload_n (pc := 125) dX2_closedPart_125 rfl rfl ?_
              refine tz_iload (pc := 126) dX2_closedPart_126 rfl ?_
              refine tz_iconst (pc := 128) dX2_closedPart_128 ?_
              refine tz_iadd (pc := 129) (v := lv + 1) dX2_closedPart_129 rfl ?_
              have b_130 := (GX.arg q_99 C ht (i := 2) (by omega))
              have k_130 := (C.arg ht.1 ht.2 (i := 2) (by omega) (by omega)).1
              have n_130 := (q_99).1
              refine tz_cV (pc := 130) (ih _ _ _ (by omega) (by omega) m0 (k - 1) ρ O rk P m_99 q (q_99).2.1 (q_99).2.2.1 (by omega) (GX.row q_99 rfl hr) o_99 (by omega) (by omega) (hC.gx C hm0 (q_99) rfl) (fun v o9 => by rw [b_130.2] at o9; rw [(q_99).2.2.2.2 19 rfl]; exact hq v ((hC.1 t ht.1 ht0).2 2 v (by omega) o9)) c_99 (by omega) (by omega)) vl_X2_69 dX2_closedPart_130 o_141 rfl rfl (Nat.le_of_ble_eq_true rfl) ⟨(show (4 + 2 * r9) + 1 ≤ 4 + 2 * (r9 + 1) by omega), (show 8 + (9 + 11) + 40 * ((4 + 2 * r9)) ≤ 40 * (4 + 2 * (r9 + 1)) by omega)⟩ rfl rfl (Nat.le_of_ble_eq_true rfl) (Nat.le_of_ble_eq_true rfl) (fun r9 J_130 hq9 => ?_)
              obtain ⟨z_130, rfl, hz_130, m_130, g_130, o_130, h_130, c_130, v_130, x_130⟩ := hq9
              have q_130 := GX.tr q_99 g_130
              have d_130 := q_130.1
              have e_130 := g_130.1
              have s8_130 : J_99 8 t = J 8 t := ((q_99).2.2.2.1.1 t ht.1 ht.2).2.1
              have r_130 : ∀ S, S 164 21 = 0 → A0 J_99 S → nNC J_99 → EXK nNC (k - 1) ((fun (H : zJ) (i : Int) => grO ρ (k - 1) H (H 167 (3 * (0 + t) + i))) S 2) z_130 J_130 := fun S h9 E9 N9 => by dsimp only; rw [(E9.tm (q_99).2.1 (q_99).2.2.1 (t := t) (by omega)).2.2 2 (by decide) (by omega)]; exact x_130 S h9 E9 N9
              refine tz_istore (pc := 133) (L2 := [_, _, _, _, _, _, _, _, _]) dX2_closedPart_133 (by decide) rfl ?_
              refine tz_aload_n (pc := 135) dX2_closedPart_135 rfl rfl ?_
              refine tz_fR (pc := 136) dX2_closedPart_136 fl_X2_28 r_141_0 ?_
              refine tz_aload_n (pc := 139) dX2_closedPart_139 rfl rfl ?_
              refine tz_fR (pc := 140) dX2_closedPart_140 fl_X2_28 r_141_0 ?_
              refine tz_fR (pc := 143) dX2_closedPart_143 fl_X2_42 r_6_1 ?_
              refine tz_iload_n (pc := 146) dX2_closedPart_146 rfl rfl ?_
              refine tz_aL (pc := 147) (z := t) (v := (J_130 7 t)) dX2_closedPart_147 a_7 rfl (by omega) rfl (fun r_147 => ?_)
              refine tz_iload (pc := 148) dX2_closedPart_148 rfl ?_
              refine tz_iload (pc := 150) dX2_closedPart_150 rfl ?_
              refine tz_iload (pc := 152) dX2_closedPart_152 rfl ?_
              refine tz_cV (pc := 154) (c_made hl n _ _ _ _ _ (by omega) (by omega) (by omega) (by omega) m_130 (q_130).2.1 (q_130).2.2.1 (by have := (q_130).2.1.ar (t := t) (by omega) (by have := (q_130).1; omega); omega) (ltA_of (by omega) (by omega) (by omega))) vl_X2_52 dX2_closedPart_154 o_6 rfl rfl (Nat.le_of_ble_eq_true rfl) ⟨(show 2 + 1 ≤ 4 + 2 * (r9 + 1) by omega), (show 8 + (11 + 11) + 40 * (2) ≤ 40 * (4 + 2 * (r9 + 1)) by omega)⟩ rfl rfl (Nat.le_of_ble_eq_true rfl) (Nat.le_of_ble_eq_true rfl) (fun r9 J_154 hq9 => ?_)
              obtain ⟨z_154, rfl, hz_154, p_154⟩ := hq9
              obtain ⟨m_154, g_154, h_154⟩ := GR.made p_154 (by omega)
              have q_154 : GX [142] J_154 J m m_154 := GX.tr q_130 (GR.x g_154)
              have o_154 := (o_130).gx (GR.x (X := []) g_154) rfl
              have c_154 := (c_130).gx (GR.x (X := []) g_154)
              exact tz_iret (pc := 157) (z := z_154) dX2_closedPart_157 rfl (Nat.le_of_ble_eq_true rfl) (Nat.le_of_ble_eq_true rfl) ⟨Nat.le_refl _, Nat.le_add_right _ _⟩ ⟨_, rfl, (by omega), ⟨m_154, q_154, o_154, h_154, c_154, fun q9 => by have w9 := gcE (X := [142]) ⟨rfl, rfl⟩ C hm ht (by omega) ((hC.2.2.2 t ht.1 ht0 (fun v o9 => (hq v o9).1)).2 (Or.inl (by omega))) (Or.inl ⟨by omega, g_68, v_68⟩) (Or.inl ⟨by omega, g_99, v_99⟩) (Or.inl ⟨by omega, g_130, v_130⟩) (by rw [show J 7 t = J_130 7 t from (((q_130).2.2.2.1.1 t ht.1 ht.2).1).symm]; exact p_154) q9; rw [g_154.2.2.1] at w9; exact w9, fun S hG E N => (Decidable.em (k = 0)).elim (fun k0 => exd_0 q_154.2.1 h_154 k0) (fun k0 => exd_c hG E C hm ht (by omega) k0 ((hC.2.2.2 t ht.1 ht0 (fun v o9 => (hq v o9).1)).2 (Or.inl (by omega))) (gpD (X := [142]) ⟨rfl, rfl⟩ (fun S i h => grO_f h) hG E N C hm ha.2.2 (C.2.1 t ht.1 ht.2).1.1.symm (Or.inl ⟨by omega, g_68, h_68, r_68⟩) (Or.inl ⟨by omega, g_99, h_99, r_99⟩) (Or.inl ⟨by omega, g_130, h_130, r_130⟩) (fun N9 => N9.gx (GR.x (X := []) g_154)) (by rw [show J 7 t = J_130 7 t from (((q_130).2.2.2.1.1 t ht.1 ht.2).1).symm]; exact p_154)))⟩⟩
            · refine tz_iconst (pc := 110) dX2_closedPart_110 ?_
              refine tz_goto (pc := 111) (tgt := 133) dX2_closedPart_111 (by decide) ?_
              refine tz_istore (pc := 133) (L2 := [_, _, _, _, _, _, _, _, _]) dX2_closedPart_133 (by decide) rfl ?_
              refine tz_aload_n (pc := 135) dX2_closedPart_135 rfl rfl ?_
              refine tz_fR (pc := 136) dX2_closedPart_136 fl_X2_28 r_141_0 ?_
              refine tz_aload_n (pc := 139) dX2_closedPart_139 rfl rfl ?_
              refine tz_fR (pc := 140) dX2_closedPart_140 fl_X2_28 r_141_0 ?_
              refine tz_fR (pc := 143) dX2_closedPart_143 fl_X2_42 r_6_1 ?_
              refine tz_iload_n (pc := 146) dX2_closedPart_146 rfl rfl ?_
              refine tz_aL (pc := 147) (z := t) (v := (J_99 7 t)) dX2_closedPart_147 a_7 rfl (by omega) rfl (fun r_147 => ?_)
              refine tz_iload (pc := 148) dX2_closedPart_148 rfl ?_
              refine tz_iload (pc := 150) dX2_closedPart_150 rfl ?_
              refine tz_iload (pc := 152) dX2_closedPart_152 rfl ?_
              refine tz_cV (pc := 154) (c_made hl n _ _ _ _ _ (by omega) (by omega) (by omega) (by omega) m_99 (q_99).2.1 (q_99).2.2.1 (by have := (q_99).2.1.ar (t := t) (by omega) (by have := (q_99).1; omega); omega) (ltA_of (by omega) (by omega) (by omega))) vl_X2_52 dX2_closedPart_154 o_6 rfl rfl (Nat.le_of_ble_eq_true rfl) ⟨(show 2 + 1 ≤ 4 + 2 * (r9 + 1) by omega), (show 8 + (11 + 11) + 40 * (2) ≤ 40 * (4 + 2 * (r9 + 1)) by omega)⟩ rfl rfl (Nat.le_of_ble_eq_true rfl) (Nat.le_of_ble_eq_true rfl) (fun r9 J_154 hq9 => ?_)
              obtain ⟨z_154, rfl, hz_154, p_154⟩ := hq9
              obtain ⟨m_154, g_154, h_154⟩ := GR.made p_154 (by omega)
              have q_154 : GX [142] J_154 J m m_154 := GX.tr q_99 (GR.x g_154)
              have o_154 := (o_99).gx (GR.x (X := []) g_154) rfl
              have c_154 := (c_99).gx (GR.x (X := []) g_154)
              exact tz_iret (pc := 157) (z := z_154) dX2_closedPart_157 rfl (Nat.le_of_ble_eq_true rfl) (Nat.le_of_ble_eq_true rfl) ⟨Nat.le_refl _, Nat.le_add_right _ _⟩ ⟨_, rfl, (by omega), ⟨m_154, q_154, o_154, h_154, c_154, fun q9 => by have w9 := gcE (X := [142]) ⟨rfl, rfl⟩ C hm ht (by omega) ((hC.2.2.2 t ht.1 ht0 (fun v o9 => (hq v o9).1)).2 (Or.inl (by omega))) (Or.inl ⟨by omega, g_68, v_68⟩) (Or.inl ⟨by omega, g_99, v_99⟩) (Or.inr ⟨by omega, rfl, rfl⟩) (by rw [show J 7 t = J_99 7 t from (((q_99).2.2.2.1.1 t ht.1 ht.2).1).symm]; exact p_154) q9; rw [g_154.2.2.1] at w9; exact w9, fun S hG E N => (Decidable.em (k = 0)).elim (fun k0 => exd_0 q_154.2.1 h_154 k0) (fun k0 => exd_c hG E C hm ht (by omega) k0 ((hC.2.2.2 t ht.1 ht0 (fun v o9 => (hq v o9).1)).2 (Or.inl (by omega))) (gpD (X := [142]) ⟨rfl, rfl⟩ (fun S i h => grO_f h) hG E N C hm ha.2.2 (C.2.1 t ht.1 ht.2).1.1.symm (Or.inl ⟨by omega, g_68, h_68, r_68⟩) (Or.inl ⟨by omega, g_99, h_99, r_99⟩) (Or.inr ⟨by omega, rfl, rfl⟩) (fun N9 => N9.gx (GR.x (X := []) g_154)) (by rw [show J 7 t = J_99 7 t from (((q_99).2.2.2.1.1 t ht.1 ht.2).1).symm]; exact p_154)))⟩⟩
          · refine tz_iconst (pc := 79) dX2_closedPart_79 ?_
            refine tz_goto (pc := 80) (tgt := 102) dX2_closedPart_80 (by decide) ?_
            refine tz_istore (pc := 102) (L2 := [_, _, _, _, _, _, _, _, _]) dX2_closedPart_102 (by decide) rfl ?_
            refine tz_iload (pc := 104) dX2_closedPart_104 rfl ?_
            refine tz_iconst (pc := 106) dX2_closedPart_106 ?_
            refine tz_icmp_ge (pc := 107) (tgt := 114) dX2_closedPart_107 (by decide) (by omega) (by decide) (fun h_107 => ?_) (fun h_107 => ?_)
            · refine tz_aload_n (pc := 114) dX2_closedPart_114 rfl rfl ?_
              refine tz_aload_n (pc := 115) dX2_closedPart_115 rfl rfl ?_
              refine tz_fR (pc := 116) dX2_closedPart_116 fl_X2_28 r_141_0 ?_
              refine tz_iload_n (pc := 119) dX2_closedPart_119 rfl rfl ?_
              refine tz_iconst (pc := 120) dX2_closedPart_120 ?_
              refine tz_cV (pc := 121) (c_arg hl n _ _ _ (by omega) (by decide) (by omega)) vl_X2_48 dX2_closedPart_121 o_6 rfl rfl (Nat.le_of_ble_eq_true rfl) ⟨(show 0 + 1 ≤ 4 + 2 * (r9 + 1) by omega), (show 8 + (3 + 11) + 40 * (0) ≤ 40 * (4 + 2 * (r9 + 1)) by omega)⟩ rfl rfl (Nat.le_of_ble_eq_true rfl) (Nat.le_of_ble_eq_true rfl) (fun r9 J_121 hq9 => ?_)
              obtain ⟨z_121, rfl, hz_121, rfl, rfl⟩ := hq9
              refine tz_aload_n (pc := 124) dX2_closedPart_124 rfl rfl ?_
              refine tz_iload_n (pc := 125) dX2_closedPart_125 rfl rfl ?_
              refine tz_iload (pc := 126) dX2_closedPart_126 rfl ?_
              refine tz_iconst (pc := 128) dX2_closedPart_128 ?_
              refine tz_iadd (pc := 129) (v := lv + 1) dX2_closedPart_129 rfl ?_
              have b_130 := (GX.arg q_68 C ht (i := 2) (by omega))
              have k_130 := (C.arg ht.1 ht.2 (i := 2) (by omega) (by omega)).1
              have n_130 := (q_68).1
              refine tz_cV (pc := 130) (ih _ _ _ (by omega) (by omega) m0 (k - 1) ρ O rk P m_68 q (q_68).2.1 (q_68).2.2.1 (by omega) (GX.row q_68 rfl hr) o_68 (by omega) (by omega) (hC.gx C hm0 (q_68) rfl) (fun v o9 => by rw [b_130.2] at o9; rw [(q_68).2.2.2.2 19 rfl]; exact hq v ((hC.1 t ht.1 ht0).2 2 v (by omega) o9)) c_68 (by omega) (by omega)) vl_X2_69 dX2_closedPart_130 o_141 rfl rfl (Nat.le_of_ble_eq_true rfl) ⟨(show (4 + 2 * r9) + 1 ≤ 4 + 2 * (r9 + 1) by omega), (show 8 + (9 + 11) + 40 * ((4 + 2 * r9)) ≤ 40 * (4 + 2 * (r9 + 1)) by omega)⟩ rfl rfl (Nat.le_of_ble_eq_true rfl) (Nat.le_of_ble_eq_true rfl) (fun r9 J_130 hq9 => ?_)
              obtain ⟨z_130, rfl, hz_130, m_130, g_130, o_130, h_130, c_130, v_130, x_130⟩ := hq9
              have q_130 := GX.tr q_68 g_130
              have d_130 := q_130.1
              have e_130 := g_130.1
              have s8_130 : J_68 8 t = J 8 t := ((q_68).2.2.2.1.1 t ht.1 ht.2).2.1
              have r_130 : ∀ S, S 164 21 = 0 → A0 J_68 S → nNC J_68 → EXK nNC (k - 1) ((fun (H : zJ) (i : Int) => grO ρ (k - 1) H (H 167 (3 * (0 + t) + i))) S 2) z_130 J_130 := fun S h9 E9 N9 => by dsimp only; rw [(E9.tm (q_68).2.1 (q_68).2.2.1 (t := t) (by omega)).2.2 2 (by decide) (by omega)]; exact x_130 S h9 E9 N9
              refine tz_istore (pc := 133) (L2 := [_, _, _, _, _, _, _, _, _]) dX2_closedPart_133 (by decide) rfl ?_
              refine tz_aload_n (pc := 135) dX2_closedPart_135 rfl rfl ?_
              refine tz_fR (pc := 136) dX2_closedPart_136 fl_X2_28 r_141_0 ?_
              refine tz_aload_n (pc := 139) dX2_closedPart_139 rfl rfl ?_
              refine tz_fR (pc := 140) dX2_closedPart_140 fl_X2_28 r_141_0 ?_
              refine tz_fR (pc := 143) dX2_closedPart_143 fl_X2_42 r_6_1 ?_
              refine tz_iload_n (pc := 146) dX2_closedPart_146 rfl rfl ?_
              refine tz_aL (pc := 147) (z := t) (v := (J_130 7 t)) dX2_closedPart_147 a_7 rfl (by omega) rfl (fun r_147 => ?_)
              refine tz_iload (pc := 148) dX2_closedPart_148 rfl ?_
              refine tz_iload (pc := 150) dX2_closedPart_150 rfl ?_
              refine tz_iload (pc := 152) dX2_closedPart_152 rfl ?_
              refine tz_cV (pc := 154) (c_made hl n _ _ _ _ _ (by omega) (by omega) (by omega) (by omega) m_130 (q_130).2.1 (q_130).2.2.1 (by have := (q_130).2.1.ar (t := t) (by omega) (by have := (q_130).1; omega); omega) (ltA_of (by omega) (by omega) (by omega))) vl_X2_52 dX2_closedPart_154 o_6 rfl rfl (Nat.le_of_ble_eq_true rfl) ⟨(show 2 + 1 ≤ 4 + 2 * (r9 + 1) by omega), (show 8 + (11 + 11) + 40 * (2) ≤ 40 * (4 + 2 * (r9 + 1)) by omega)⟩ rfl rfl (Nat.le_of_ble_eq_true rfl) (Nat.le_of_ble_eq_true rfl) (fun r9 J_154 hq9 => ?_)
              obtain ⟨z_154, rfl, hz_154, p_154⟩ := hq9
              obtain ⟨m_154, g_154, h_154⟩ := GR.made p_154 (by omega)
              have q_154 : GX [142] J_154 J m m_154 := GX.tr q_130 (GR.x g_154)
              have o_154 := (o_130).gx (GR.x (X := []) g_154) rfl
              have c_154 := (c_130).gx (GR.x (X := []) g_154)
              exact tz_iret (pc := 157) (z := z_154) dX2_closedPart_157 rfl (Nat.le_of_ble_eq_true rfl) (Nat.le_of_ble_eq_true rfl) ⟨Nat.le_refl _, Nat.le_add_right _ _⟩ ⟨_, rfl, (by omega), ⟨m_154, q_154, o_154, h_154, c_154, fun q9 => by have w9 := gcE (X := [142]) ⟨rfl, rfl⟩ C hm ht (by omega) ((hC.2.2.2 t ht.1 ht0 (fun v o9 => (hq v o9).1)).2 (Or.inl (by omega))) (Or.inl ⟨by omega, g_68, v_68⟩) (Or.inr ⟨by omega, rfl, rfl⟩) (Or.inl ⟨by omega, g_130, v_130⟩) (by rw [show J 7 t = J_130 7 t from (((q_130).2.2.2.1.1 t ht.1 ht.2).1).symm]; exact p_154) q9; rw [g_154.2.2.1] at w9; exact w9, fun S hG E N => (Decidable.em (k = 0)).elim (fun k0 => exd_0 q_154.2.1 h_154 k0) (fun k0 => exd_c hG E C hm ht (by omega) k0 ((hC.2.2.2 t ht.1 ht0 (fun v o9 => (hq v o9).1)).2 (Or.inl (by omega))) (gpD (X := [142]) ⟨rfl, rfl⟩ (fun S i h => grO_f h) hG E N C hm ha.2.2 (C.2.1 t ht.1 ht.2).1.1.symm (Or.inl ⟨by omega, g_68, h_68, r_68⟩) (Or.inr ⟨by omega, rfl, rfl⟩) (Or.inl ⟨by omega, g_130, h_130, r_130⟩) (fun N9 => N9.gx (GR.x (X := []) g_154)) (by rw [show J 7 t = J_130 7 t from (((q_130).2.2.2.1.1 t ht.1 ht.2).1).symm]; exact p_154)))⟩⟩
            · refine tz_iconst (pc := 110) dX2_closedPart_110 ?_
              refine tz_goto (pc := 111) (tgt := 133) dX2_closedPart_111 (by decide) ?_
              refine tz_istore (pc := 133) (L2 := [_, _, _, _, _, _, _, _, _]) dX2_closedPart_133 (by decide) rfl ?_
              refine tz_aload_n (pc := 135) dX2_closedPart_135 rfl rfl ?_
              refine tz_fR (pc := 136) dX2_closedPart_136 fl_X2_28 r_141_0 ?_
              refine tz_aload_n (pc := 139) dX2_closedPart_139 rfl rfl ?_
              refine tz_fR (pc := 140) dX2_closedPart_140 fl_X2_28 r_141_0 ?_
              refine tz_fR (pc := 143) dX2_closedPart_143 fl_X2_42 r_6_1 ?_
              refine tz_iload_n (pc := 146) dX2_closedPart_146 rfl rfl ?_
              refine tz_aL (pc := 147) (z := t) (v := (J_68 7 t)) dX2_closedPart_147 a_7 rfl (by omega) rfl (fun r_147 => ?_)
              refine tz_iload (pc := 148) dX2_closedPart_148 rfl ?_
              refine tz_iload (pc := 150) dX2_closedPart_150 rfl ?_
              refine tz_iload (pc := 152) dX2_closedPart_152 rfl ?_
              refine tz_cV (pc := 154) (c_made hl n _ _ _ _ _ (by omega) (by omega) (by omega) (by omega) m_68 (q_68).2.1 (q_68).2.2.1 (by have := (q_68).2.1.ar (t := t) (by omega) (by have := (q_68).1; omega); omega) (ltA_of (by omega) (by omega) (by omega))) vl_X2_52 dX2_closedPart_154 o_6 rfl rfl (Nat.le_of_ble_eq_true rfl) ⟨(show 2 + 1 ≤ 4 + 2 * (r9 + 1) by omega), (show 8 + (11 + 11) + 40 * (2) ≤ 40 * (4 + 2 * (r9 + 1)) by omega)⟩ rfl rfl (Nat.le_of_ble_eq_true rfl) (Nat.le_of_ble_eq_true rfl) (fun r9 J_154 hq9 => ?_)
              obtain ⟨z_154, rfl, hz_154, p_154⟩ := hq9
              obtain ⟨m_154, g_154, h_154⟩ := GR.made p_154 (by omega)
              have q_154 : GX [142] J_154 J m m_154 := GX.tr q_68 (GR.x g_154)
              have o_154 := (o_68).gx (GR.x (X := []) g_154) rfl
              have c_154 := (c_68).gx (GR.x (X := []) g_154)
              exact tz_iret (pc := 157) (z := z_154) dX2_closedPart_157 rfl (Nat.le_of_ble_eq_true rfl) (Nat.le_of_ble_eq_true rfl) ⟨Nat.le_refl _, Nat.le_add_right _ _⟩ ⟨_, rfl, (by omega), ⟨m_154, q_154, o_154, h_154, c_154, fun q9 => by have w9 := gcE (X := [142]) ⟨rfl, rfl⟩ C hm ht (by omega) ((hC.2.2.2 t ht.1 ht0 (fun v o9 => (hq v o9).1)).2 (Or.inl (by omega))) (Or.inl ⟨by omega, g_68, v_68⟩) (Or.inr ⟨by omega, rfl, rfl⟩) (Or.inr ⟨by omega, rfl, rfl⟩) (by rw [show J 7 t = J_68 7 t from (((q_68).2.2.2.1.1 t ht.1 ht.2).1).symm]; exact p_154) q9; rw [g_154.2.2.1] at w9; exact w9, fun S hG E N => (Decidable.em (k = 0)).elim (fun k0 => exd_0 q_154.2.1 h_154 k0) (fun k0 => exd_c hG E C hm ht (by omega) k0 ((hC.2.2.2 t ht.1 ht0 (fun v o9 => (hq v o9).1)).2 (Or.inl (by omega))) (gpD (X := [142]) ⟨rfl, rfl⟩ (fun S i h => grO_f h) hG E N C hm ha.2.2 (C.2.1 t ht.1 ht.2).1.1.symm (Or.inl ⟨by omega, g_68, h_68, r_68⟩) (Or.inr ⟨by omega, rfl, rfl⟩) (Or.inr ⟨by omega, rfl, rfl⟩) (fun N9 => N9.gx (GR.x (X := []) g_154)) (by rw [show J 7 t = J_68 7 t from (((q_68).2.2.2.1.1 t ht.1 ht.2).1).symm]; exact p_154)))⟩⟩
        · refine tz_iconst (pc := 48) dX2_closedPart_48 ?_
          refine tz_goto (pc := 49) (tgt := 71) dX2_closedPart_49 (by decide) ?_
          refine tz_istore (pc := 71) (L2 := [_, _, _, _, _, _, _, _, _]) dX2_closedPart_71 (by decide) rfl ?_
          refine tz_iload (pc := 73) dX2_closedPart_73 rfl ?_
          refine tz_iconst (pc := 75) dX2_closedPart_75 ?_
          refine tz_icmp_ge (pc := 76) (tgt := 83) dX2_closedPart_76 (by decide) (by omega) (by decide) (fun h_76 => ?_) (fun h_76 => ?_)
          · refine tz_aload_n (pc := 83) dX2_closedPart_83 rfl rfl ?_
            refine tz_aload_n (pc := 84) dX2_closedPart_84 rfl rfl ?_
            refine tz_fR (pc := 85) dX2_closedPart_85 fl_X2_28 r_141_0 ?_
            refine tz_iload_n (pc := 88) dX2_closedPart_88 rfl rfl ?_
            refine tz_iconst (pc := 89) dX2_closedPart_89 ?_
            refine tz_cV (pc := 90) (c_arg hl n _ _ _ (by omega) (by decide) (by omega)) vl_X2_48 dX2_closedPart_90 o_6 rfl rfl (Nat.le_of_ble_eq_true rfl) ⟨(show 0 + 1 ≤ 4 + 2 * (r9 + 1) by omega), (show 8 + (3 + 11) + 40 * (0) ≤ 40 * (4 + 2 * (r9 + 1)) by omega)⟩ rfl rfl (Nat.le_of_ble_eq_true rfl) (Nat.le_of_ble_eq_true rfl) (fun r9 J_90 hq9 => ?_)
            obtain ⟨z_90, rfl, hz_90, rfl, rfl⟩ := hq9
            refine tz_aload_n (pc := 93) dX2_closedPart_93 rfl rfl ?_
            refine tz_iload_n (pc := 94) dX2_closedPart_94 rfl rfl ?_
            refine tz_iload (pc := 95) dX2_closedPart_95 rfl ?_
            refine tz_iconst (pc := 97) dX2_closedPart_97 ?_
            refine tz_iadd (pc := 98) (v := lv + 1) dX2_closedPart_98 rfl ?_
            have b_99 := (GX.arg g0 C ht (i := 1) (by omega))
            have k_99 := (C.arg ht.1 ht.2 (i := 1) (by omega) (by omega)).1
            have n_99 := (g0).1
            refine tz_cV (pc := 99) (ih _ _ _ (by omega) (by omega) m0 (k - 1) ρ O rk P m q (g0).2.1 (g0).2.2.1 (by omega) (GX.row g0 rfl hr) hc (by omega) (by omega) hC (fun v o9 => by rw [b_99.2] at o9; rw [(g0).2.2.2.2 19 rfl]; exact hq v ((hC.1 t ht.1 ht0).2 1 v (by omega) o9)) hg (by omega) (by omega)) vl_X2_69 dX2_closedPart_99 o_141 rfl rfl (Nat.le_of_ble_eq_true rfl) ⟨(show (4 + 2 * r9) + 1 ≤ 4 + 2 * (r9 + 1) by omega), (show 8 + (9 + 11) + 40 * ((4 + 2 * r9)) ≤ 40 * (4 + 2 * (r9 + 1)) by omega)⟩ rfl rfl (Nat.le_of_ble_eq_true rfl) (Nat.le_of_ble_eq_true rfl) (fun r9 J_99 hq9 => ?_)
            obtain ⟨z_99, rfl, hz_99, m_99, g_99, o_99, h_99, c_99, v_99, x_99⟩ := hq9
            have q_99 := GX.tr g0 g_99
            have d_99 := q_99.1
            have e_99 := g_99.1
            have s8_99 : J 8 t = J 8 t := ((g0).2.2.2.1.1 t ht.1 ht.2).2.1
            have r_99 : ∀ S, S 164 21 = 0 → A0 J S → nNC J → EXK nNC (k - 1) ((fun (H : zJ) (i : Int) => grO ρ (k - 1) H (H 167 (3 * (0 + t) + i))) S 1) z_99 J_99 := fun S h9 E9 N9 => by dsimp only; rw [(E9.tm (g0).2.1 (g0).2.2.1 (t := t) (by omega)).2.2 1 (by decide) (by omega)]; exact x_99 S h9 E9 N9
            refine tz_istore (pc := 102) (L2 := [_, _, _, _, _, _, _, _, _]) dX2_closedPart_102 (by decide) rfl ?_
            refine tz_iload (pc := 104) dX2_closedPart_104 rfl ?_
            refine tz_iconst (pc := 106) dX2_closedPart_106 ?_
            refine tz_icmp_ge (pc := 107) (tgt := 114) dX2_closedPart_107 (by decide) (by omega) (by decide) (fun h_107 => ?_) (fun h_107 => ?_)
            · refine tz_aload_n (pc := 114) dX2_closedPart_114 rfl rfl ?_
              refine tz_aload_n (pc := 115) dX2_closedPart_115 rfl rfl ?_
              refine tz_fR (pc := 116) dX2_closedPart_116 fl_X2_28 r_141_0 ?_
              refine tz_iload_n (pc := 119) dX2_closedPart_119 rfl rfl ?_
              refine tz_iconst (pc := 120) dX2_closedPart_120 ?_
              refine tz_cV (pc := 121) (c_arg hl n _ _ _ (by omega) (by decide) (by omega)) vl_X2_48 dX2_closedPart_121 o_6 rfl rfl (Nat.le_of_ble_eq_true rfl) ⟨(show 0 + 1 ≤ 4 + 2 * (r9 + 1) by omega), (show 8 + (3 + 11) + 40 * (0) ≤ 40 * (4 + 2 * (r9 + 1)) by omega)⟩ rfl rfl (Nat.le_of_ble_eq_true rfl) (Nat.le_of_ble_eq_true rfl) (fun r9 J_121 hq9 => ?_)
              obtain ⟨z_121, rfl, hz_121, rfl, rfl⟩ := hq9
              refine tz_aload_n (pc := 124) dX2_closedPart_124 rfl rfl ?_
              refine tz_iload_n (pc := 125) dX2_closedPart_125 rfl rfl ?_
              refine tz_iload (pc := 126) dX2_closedPart_126 rfl ?_
              refine tz_iconst (pc := 128) dX2_closedPart_128 ?_
              refine tz_iadd (pc := 129) (v := lv + 1) dX2_closedPart_129 rfl ?_
              have b_130 := (GX.arg q_99 C ht (i := 2) (by omega))
              have k_130 := (C.arg ht.1 ht.2 (i := 2) (by omega) (by omega)).1
              have n_130 := (q_99).1
              refine tz_cV (pc := 130) (ih _ _ _ (by omega) (by omega) m0 (k - 1) ρ O rk P m_99 q (q_99).2.1 (q_99).2.2.1 (by omega) (GX.row q_99 rfl hr) o_99 (by omega) (by omega) (hC.gx C hm0 (q_99) rfl) (fun v o9 => by rw [b_130.2] at o9; rw [(q_99).2.2.2.2 19 rfl]; exact hq v ((hC.1 t ht.1 ht0).2 2 v (by omega) o9)) c_99 (by omega) (by omega)) vl_X2_69 dX2_closedPart_130 o_141 rfl rfl (Nat.le_of_ble_eq_true rfl) ⟨(show (4 + 2 * r9) + 1 ≤ 4 + 2 * (r9 + 1) by omega), (show 8 + (9 + 11) + 40 * ((4 + 2 * r9)) ≤ 40 * (4 + 2 * (r9 + 1)) by omega)⟩ rfl rfl (Nat.le_of_ble_eq_true rfl) (Nat.le_of_ble_eq_true rfl) (fun r9 J_130 hq9 => ?_)
              obtain ⟨z_130, rfl, hz_130, m_130, g_130, o_130, h_130, c_130, v_130, x_130⟩ := hq9
              have q_130 := GX.tr q_99 g_130
              have d_130 := q_130.1
              have e_130 := g_130.1
              have s8_130 : J_99 8 t = J 8 t := ((q_99).2.2.2.1.1 t ht.1 ht.2).2.1
              have r_130 : ∀ S, S 164 21 = 0 → A0 J_99 S → nNC J_99 → EXK nNC (k - 1) ((fun (H : zJ) (i : Int) => grO ρ (k - 1) H (H 167 (3 * (0 + t) + i))) S 2) z_130 J_130 := fun S h9 E9 N9 => by dsimp only; rw [(E9.tm (q_99).2.1 (q_99).2.2.1 (t := t) (by omega)).2.2 2 (by decide) (by omega)]; exact x_130 S h9 E9 N9
              refine tz_istore (pc := 133) (L2 := [_, _, _, _, _, _, _, _, _]) dX2_closedPart_133 (by decide) rfl ?_
              refine tz_aload_n (pc := 135) dX2_closedPart_135 rfl rfl ?_
              refine tz_fR (pc := 136) dX2_closedPart_136 fl_X2_28 r_141_0 ?_
              refine tz_aload_n (pc := 139) dX2_closedPart_139 rfl rfl ?_
              refine tz_fR (pc := 140) dX2_closedPart_140 fl_X2_28 r_141_0 ?_
              refine tz_fR (pc := 143) dX2_closedPart_143 fl_X2_42 r_6_1 ?_
              refine tz_iload_n (pc := 146) dX2_closedPart_146 rfl rfl ?_
              refine tz_aL (pc := 147) (z := t) (v := (J_130 7 t)) dX2_closedPart_147 a_7 rfl (by omega) rfl (fun r_147 => ?_)
              refine tz_iload (pc := 148) dX2_closedPart_148 rfl ?_
              refine tz_iload (pc := 150) dX2_closedPart_150 rfl ?_
              refine tz_iload (pc := 152) dX2_closedPart_152 rfl ?_
              refine tz_cV (pc := 154) (c_made hl n _ _ _ _ _ (by omega) (by omega) (by omega) (by omega) m_130 (q_130).2.1 (q_130).2.2.1 (by have := (q_130).2.1.ar (t := t) (by omega) (by have := (q_130).1; omega); omega) (ltA_of (by omega) (by omega) (by omega))) vl_X2_52 dX2_closedPart_154 o_6 rfl rfl (Nat.le_of_ble_eq_true rfl) ⟨(show 2 + 1 ≤ 4 + 2 * (r9 + 1) by omega), (show 8 + (11 + 11) + 40 * (2) ≤ 40 * (4 + 2 * (r9 + 1)) by omega)⟩ rfl rfl (Nat.le_of_ble_eq_true rfl) (Nat.le_of_ble_eq_true rfl) (fun r9 J_154 hq9 => ?_)
              obtain ⟨z_154, rfl, hz_154, p_154⟩ := hq9
              obtain ⟨m_154, g_154, h_154⟩ := GR.made p_154 (by omega)
              have q_154 : GX [142] J_154 J m m_154 := GX.tr q_130 (GR.x g_154)
              have o_154 := (o_130).gx (GR.x (X := []) g_154) rfl
              have c_154 := (c_130).gx (GR.x (X := []) g_154)
              exact tz_iret (pc := 157) (z := z_154) dX2_closedPart_157 rfl (Nat.le_of_ble_eq_true rfl) (Nat.le_of_ble_eq_true rfl) ⟨Nat.le_refl _, Nat.le_add_right _ _⟩ ⟨_, rfl, (by omega), ⟨m_154, q_154, o_154, h_154, c_154, fun q9 => by have w9 := gcE (X := [142]) ⟨rfl, rfl⟩ C hm ht (by omega) ((hC.2.2.2 t ht.1 ht0 (fun v o9 => (hq v o9).1)).2 (Or.inl (by omega))) (Or.inr ⟨by omega, rfl, rfl⟩) (Or.inl ⟨by omega, g_99, v_99⟩) (Or.inl ⟨by omega, g_130, v_130⟩) (by rw [show J 7 t = J_130 7 t from (((q_130).2.2.2.1.1 t ht.1 ht.2).1).symm]; exact p_154) q9; rw [g_154.2.2.1] at w9; exact w9, fun S hG E N => (Decidable.em (k = 0)).elim (fun k0 => exd_0 q_154.2.1 h_154 k0) (fun k0 => exd_c hG E C hm ht (by omega) k0 ((hC.2.2.2 t ht.1 ht0 (fun v o9 => (hq v o9).1)).2 (Or.inl (by omega))) (gpD (X := [142]) ⟨rfl, rfl⟩ (fun S i h => grO_f h) hG E N C hm ha.2.2 (C.2.1 t ht.1 ht.2).1.1.symm (Or.inr ⟨by omega, rfl, rfl⟩) (Or.inl ⟨by omega, g_99, h_99, r_99⟩) (Or.inl ⟨by omega, g_130, h_130, r_130⟩) (fun N9 => N9.gx (GR.x (X := []) g_154)) (by rw [show J 7 t = J_130 7 t from (((q_130).2.2.2.1.1 t ht.1 ht.2).1).symm]; exact p_154)))⟩⟩
            · refine tz_iconst (pc := 110) dX2_closedPart_110 ?_
              refine tz_goto (pc := 111) (tgt := 133) dX2_closedPart_111 (by decide) ?_
              refine tz_istore (pc := 133) (L2 := [_, _, _, _, _, _, _, _, _]) dX2_closedPart_133 (by decide) rfl ?_
              refine tz_aload_n (pc := 135) dX2_closedPart_135 rfl rfl ?_
              refine tz_fR (pc := 136) dX2_closedPart_136 fl_X2_28 r_141_0 ?_
              refine tz_aload_n (pc := 139) dX2_closedPart_139 rfl rfl ?_
              refine tz_fR (pc := 140) dX2_closedPart_140 fl_X2_28 r_141_0 ?_
              refine tz_fR (pc := 143) dX2_closedPart_143 fl_X2_42 r_6_1 ?_
              refine tz_iload_n (pc := 146) dX2_closedPart_146 rfl rfl ?_
              refine tz_aL (pc := 147) (z := t) (v := (J_99 7 t)) dX2_closedPart_147 a_7 rfl (by omega) rfl (fun r_147 => ?_)
              refine tz_iload (pc := 148) dX2_closedPart_148 rfl ?_
              refine tz_iload (pc := 150) dX2_closedPart_150 rfl ?_
              refine tz_iload (pc := 152) dX2_closedPart_152 rfl ?_
              refine tz_cV (pc := 154) (c_made hl n _ _ _ _ _ (by omega) (by omega) (by omega) (by omega) m_99 (q_99).2.1 (q_99).2.2.1 (by have := (q_99).2.1.ar (t := t) (by omega) (by have := (q_99).1; omega); omega) (ltA_of (by omega) (by omega) (by omega))) vl_X2_52 dX2_closedPart_154 o_6 rfl rfl (Nat.le_of_ble_eq_true rfl) ⟨(show 2 + 1 ≤ 4 + 2 * (r9 + 1) by omega), (show 8 + (11 + 11) + 40 * (2) ≤ 40 * (4 + 2 * (r9 + 1)) by omega)⟩ rfl rfl (Nat.le_of_ble_eq_true rfl) (Nat.le_of_ble_eq_true rfl) (fun r9 J_154 hq9 => ?_)
              obtain ⟨z_154, rfl, hz_154, p_154⟩ := hq9
              obtain ⟨m_154, g_154, h_154⟩ := GR.made p_154 (by omega)
              have q_154 : GX [142] J_154 J m m_154 := GX.tr q_99 (GR.x g_154)
              have o_154 := (o_99).gx (GR.x (X := []) g_154) rfl
              have c_154 := (c_99).gx (GR.x (X := []) g_154)
              exact tz_iret (pc := 157) (z := z_154) dX2_closedPart_157 rfl (Nat.le_of_ble_eq_true rfl) (Nat.le_of_ble_eq_true rfl) ⟨Nat.le_refl _, Nat.le_add_right _ _⟩ ⟨_, rfl, (by omega), ⟨m_154, q_154, o_154, h_154, c_154, fun q9 => by have w9 := gcE (X := [142]) ⟨rfl, rfl⟩ C hm ht (by omega) ((hC.2.2.2 t ht.1 ht0 (fun v o9 => (hq v o9).1)).2 (Or.inl (by omega))) (Or.inr ⟨by omega, rfl, rfl⟩) (Or.inl ⟨by omega, g_99, v_99⟩) (Or.inr ⟨by omega, rfl, rfl⟩) (by rw [show J 7 t = J_99 7 t from (((q_99).2.2.2.1.1 t ht.1 ht.2).1).symm]; exact p_154) q9; rw [g_154.2.2.1] at w9; exact w9, fun S hG E N => (Decidable.em (k = 0)).elim (fun k0 => exd_0 q_154.2.1 h_154 k0) (fun k0 => exd_c hG E C hm ht (by omega) k0 ((hC.2.2.2 t ht.1 ht0 (fun v o9 => (hq v o9).1)).2 (Or.inl (by omega))) (gpD (X := [142]) ⟨rfl, rfl⟩ (fun S i h => grO_f h) hG E N C hm ha.2.2 (C.2.1 t ht.1 ht.2).1.1.symm (Or.inr ⟨by omega, rfl, rfl⟩) (Or.inl ⟨by omega, g_99, h_99, r_99⟩) (Or.inr ⟨by omega, rfl, rfl⟩) (fun N9 => N9.gx (GR.x (X := []) g_154)) (by rw [show J 7 t = J_99 7 t from (((q_99).2.2.2.1.1 t ht.1 ht.2).1).symm]; exact p_154)))⟩⟩
          · refine tz_iconst (pc := 79) dX2_closedPart_79 ?_
            refine tz_goto (pc := 80) (tgt := 102) dX2_closedPart_80 (by decide) ?_
            refine tz_istore (pc := 102) (L2 := [_, _, _, _, _, _, _, _, _]) dX2_closedPart_102 (by decide) rfl ?_
            refine tz_iload (pc := 104) dX2_closedPart_104 rfl ?_
            refine tz_iconst (pc := 106) dX2_closedPart_106 ?_
            refine tz_icmp_ge (pc := 107) (tgt := 114) dX2_closedPart_107 (by decide) (by omega) (by decide) (fun h_107 => ?_) (fun h_107 => ?_)
            · refine tz_aload_n (pc := 114) dX2_closedPart_114 rfl rfl ?_
              refine tz_aload_n (pc := 115) dX2_closedPart_115 rfl rfl ?_
              refine tz_fR (pc := 116) dX2_closedPart_116 fl_X2_28 r_141_0 ?_
              refine tz_iload_n (pc := 119) dX2_closedPart_119 rfl rfl ?_
              refine tz_iconst (pc := 120) dX2_closedPart_120 ?_
              refine tz_cV (pc := 121) (c_arg hl n _ _ _ (by omega) (by decide) (by omega)) vl_X2_48 dX2_closedPart_121 o_6 rfl rfl (Nat.le_of_ble_eq_true rfl) ⟨(show 0 + 1 ≤ 4 + 2 * (r9 + 1) by omega), (show 8 + (3 + 11) + 40 * (0) ≤ 40 * (4 + 2 * (r9 + 1)) by omega)⟩ rfl rfl (Nat.le_of_ble_eq_true rfl) (Nat.le_of_ble_eq_true rfl) (fun r9 J_121 hq9 => ?_)
              obtain ⟨z_121, rfl, hz_121, rfl, rfl⟩ := hq9
              refine tz_aload_n (pc := 124) dX2_closedPart_124 rfl rfl ?_
              refine tz_iload_n (pc := 125) dX2_closedPart_125 rfl rfl ?_
              refine tz_iload (pc := 126) dX2_closedPart_126 rfl ?_
              refine tz_iconst (pc := 128) dX2_closedPart_128 ?_
              refine tz_iadd (pc := 129) (v := lv + 1) dX2_closedPart_129 rfl ?_
              have b_130 := (GX.arg g0 C ht (i := 2) (by omega))
              have k_130 := (C.arg ht.1 ht.2 (i := 2) (by omega) (by omega)).1
              have n_130 := (g0).1
              refine tz_cV (pc := 130) (ih _ _ _ (by omega) (by omega) m0 (k - 1) ρ O rk P m q (g0).2.1 (g0).2.2.1 (by omega) (GX.row g0 rfl hr) hc (by omega) (by omega) hC (fun v o9 => by rw [b_130.2] at o9; rw [(g0).2.2.2.2 19 rfl]; exact hq v ((hC.1 t ht.1 ht0).2 2 v (by omega) o9)) hg (by omega) (by omega)) vl_X2_69 dX2_closedPart_130 o_141 rfl rfl (Nat.le_of_ble_eq_true rfl) ⟨(show (4 + 2 * r9) + 1 ≤ 4 + 2 * (r9 + 1) by omega), (show 8 + (9 + 11) + 40 * ((4 + 2 * r9)) ≤ 40 * (4 + 2 * (r9 + 1)) by omega)⟩ rfl rfl (Nat.le_of_ble_eq_true rfl) (Nat.le_of_ble_eq_true rfl) (fun r9 J_130 hq9 => ?_)
              obtain ⟨z_130, rfl, hz_130, m_130, g_130, o_130, h_130, c_130, v_130, x_130⟩ := hq9
              have q_130 := GX.tr g0 g_130
              have d_130 := q_130.1
              have e_130 := g_130.1
              have s8_130 : J 8 t = J 8 t := ((g0).2.2.2.1.1 t ht.1 ht.2).2.1
              have r_130 : ∀ S, S 164 21 = 0 → A0 J S → nNC J → EXK nNC (k - 1) ((fun (H : zJ) (i : Int) => grO ρ (k - 1) H (H 167 (3 * (0 + t) + i))) S 2) z_130 J_130 := fun S h9 E9 N9 => by dsimp only; rw [(E9.tm (g0).2.1 (g0).2.2.1 (t := t) (by omega)).2.2 2 (by decide) (by omega)]; exact x_130 S h9 E9 N9
              refine tz_istore (pc := 133) (L2 := [_, _, _, _, _, _, _, _, _]) dX2_closedPart_133 (by decide) rfl ?_
              refine tz_aload_n (pc := 135) dX2_closedPart_135 rfl rfl ?_
              refine tz_fR (pc := 136) dX2_closedPart_136 fl_X2_28 r_141_0 ?_
              refine tz_aload_n (pc := 139) dX2_closedPart_139 rfl rfl ?_
              refine tz_fR (pc := 140) dX2_closedPart_140 fl_X2_28 r_141_0 ?_
              refine tz_fR (pc := 143) dX2_closedPart_143 fl_X2_42 r_6_1 ?_
              refine tz_iload_n (pc := 146) dX2_closedPart_146 rfl rfl ?_
              refine tz_aL (pc := 147) (z := t) (v := (J_130 7 t)) dX2_closedPart_147 a_7 rfl (by omega) rfl (fun r_147 => ?_)
              refine tz_iload (pc := 148) dX2_closedPart_148 rfl ?_
              refine tz_iload (pc := 150) dX2_closedPart_150 rfl ?_
              refine tz_iload (pc := 152) dX2_closedPart_152 rfl ?_
              refine tz_cV (pc := 154) (c_made hl n _ _ _ _ _ (by omega) (by omega) (by omega) (by omega) m_130 (q_130).2.1 (q_130).2.2.1 (by have := (q_130).2.1.ar (t := t) (by omega) (by have := (q_130).1; omega); omega) (ltA_of (by omega) (by omega) (by omega))) vl_X2_52 dX2_closedPart_154 o_6 rfl rfl (Nat.le_of_ble_eq_true rfl) ⟨(show 2 + 1 ≤ 4 + 2 * (r9 + 1) by omega), (show 8 + (11 + 11) + 40 * (2) ≤ 40 * (4 + 2 * (r9 + 1)) by omega)⟩ rfl rfl (Nat.le_of_ble_eq_true rfl) (Nat.le_of_ble_eq_true rfl) (fun r9 J_154 hq9 => ?_)
              obtain ⟨z_154, rfl, hz_154, p_154⟩ := hq9
              obtain ⟨m_154, g_154, h_154⟩ := GR.made p_154 (by omega)
              have q_154 : GX [142] J_154 J m m_154 := GX.tr q_130 (GR.x g_154)
              have o_154 := (o_130).gx (GR.x (X := []) g_154) rfl
              have c_154 := (c_130).gx (GR.x (X := []) g_154)
              exact tz_iret (pc := 157) (z := z_154) dX2_closedPart_157 rfl (Nat.le_of_ble_eq_true rfl) (Nat.le_of_ble_eq_true rfl) ⟨Nat.le_refl _, Nat.le_add_right _ _⟩ ⟨_, rfl, (by omega), ⟨m_154, q_154, o_154, h_154, c_154, fun q9 => by have w9 := gcE (X := [142]) ⟨rfl, rfl⟩ C hm ht (by omega) ((hC.2.2.2 t ht.1 ht0 (fun v o9 => (hq v o9).1)).2 (Or.inl (by omega))) (Or.inr ⟨by omega, rfl, rfl⟩) (Or.inr ⟨by omega, rfl, rfl⟩) (Or.inl ⟨by omega, g_130, v_130⟩) (by rw [show J 7 t = J_130 7 t from (((q_130).2.2.2.1.1 t ht.1 ht.2).1).symm]; exact p_154) q9; rw [g_154.2.2.1] at w9; exact w9, fun S hG E N => (Decidable.em (k = 0)).elim (fun k0 => exd_0 q_154.2.1 h_154 k0) (fun k0 => exd_c hG E C hm ht (by omega) k0 ((hC.2.2.2 t ht.1 ht0 (fun v o9 => (hq v o9).1)).2 (Or.inl (by omega))) (gpD (X := [142]) ⟨rfl, rfl⟩ (fun S i h => grO_f h) hG E N C hm ha.2.2 (C.2.1 t ht.1 ht.2).1.1.symm (Or.inr ⟨by omega, rfl, rfl⟩) (Or.inr ⟨by omega, rfl, rfl⟩) (Or.inl ⟨by omega, g_130, h_130, r_130⟩) (fun N9 => N9.gx (GR.x (X := []) g_154)) (by rw [show J 7 t = J_130 7 t from (((q_130).2.2.2.1.1 t ht.1 ht.2).1).symm]; exact p_154)))⟩⟩
            · refine tz_iconst (pc := 110) dX2_closedPart_110 ?_
              refine tz_goto (pc := 111) (tgt := 133) dX2_closedPart_111 (by decide) ?_
              refine tz_istore (pc := 133) (L2 := [_, _, _, _, _, _, _, _, _]) dX2_closedPart_133 (by decide) rfl ?_
              refine tz_aload_n (pc := 135) dX2_closedPart_135 rfl rfl ?_
              refine tz_fR (pc := 136) dX2_closedPart_136 fl_X2_28 r_141_0 ?_
              refine tz_aload_n (pc := 139) dX2_closedPart_139 rfl rfl ?_
              refine tz_fR (pc := 140) dX2_closedPart_140 fl_X2_28 r_141_0 ?_
              refine tz_fR (pc := 143) dX2_closedPart_143 fl_X2_42 r_6_1 ?_
              refine tz_iload_n (pc := 146) dX2_closedPart_146 rfl rfl ?_
              refine tz_aL (pc := 147) (z := t) (v := (J 7 t)) dX2_closedPart_147 a_7 rfl (by omega) rfl (fun r_147 => ?_)
              refine tz_iload (pc := 148) dX2_closedPart_148 rfl ?_
              refine tz_iload (pc := 150) dX2_closedPart_150 rfl ?_
              refine tz_iload (pc := 152) dX2_closedPart_152 rfl ?_
              refine tz_cV (pc := 154) (c_made hl n _ _ _ _ _ (by omega) (by omega) (by omega) (by omega) m (g0).2.1 (g0).2.2.1 (by have := (g0).2.1.ar (t := t) (by omega) (by have := (g0).1; omega); omega) (ltA_of (by omega) (by omega) (by omega))) vl_X2_52 dX2_closedPart_154 o_6 rfl rfl (Nat.le_of_ble_eq_true rfl) ⟨(show 2 + 1 ≤ 4 + 2 * (r9 + 1) by omega), (show 8 + (11 + 11) + 40 * (2) ≤ 40 * (4 + 2 * (r9 + 1)) by omega)⟩ rfl rfl (Nat.le_of_ble_eq_true rfl) (Nat.le_of_ble_eq_true rfl) (fun r9 J_154 hq9 => ?_)
              obtain ⟨z_154, rfl, hz_154, p_154⟩ := hq9
              obtain ⟨m_154, g_154, h_154⟩ := GR.made p_154 (by omega)
              have q_154 : GX [142] J_154 J m m_154 := GX.tr g0 (GR.x g_154)
              have o_154 := (hc).gx (GR.x (X := []) g_154) rfl
              have c_154 := (hg).gx (GR.x (X := []) g_154)
              exact tz_iret (pc := 157) (z := z_154) dX2_closedPart_157 rfl (Nat.le_of_ble_eq_true rfl) (Nat.le_of_ble_eq_true rfl) ⟨Nat.le_refl _, Nat.le_add_right _ _⟩ ⟨_, rfl, (by omega), ⟨m_154, q_154, o_154, h_154, c_154, fun q9 => by have w9 := gcE (X := [142]) ⟨rfl, rfl⟩ C hm ht (by omega) ((hC.2.2.2 t ht.1 ht0 (fun v o9 => (hq v o9).1)).2 (Or.inl (by omega))) (Or.inr ⟨by omega, rfl, rfl⟩) (Or.inr ⟨by omega, rfl, rfl⟩) (Or.inr ⟨by omega, rfl, rfl⟩) (by rw [show J 7 t = J 7 t from (((g0).2.2.2.1.1 t ht.1 ht.2).1).symm]; exact p_154) q9; rw [g_154.2.2.1] at w9; exact w9, fun S hG E N => (Decidable.em (k = 0)).elim (fun k0 => exd_0 q_154.2.1 h_154 k0) (fun k0 => exd_c hG E C hm ht (by omega) k0 ((hC.2.2.2 t ht.1 ht0 (fun v o9 => (hq v o9).1)).2 (Or.inl (by omega))) (gpD (X := [142]) ⟨rfl, rfl⟩ (fun S i h => grO_f h) hG E N C hm ha.2.2 (C.2.1 t ht.1 ht.2).1.1.symm (Or.inr ⟨by omega, rfl, rfl⟩) (Or.inr ⟨by omega, rfl, rfl⟩) (Or.inr ⟨by omega, rfl, rfl⟩) (fun N9 => N9.gx (GR.x (X := []) g_154)) (by rw [show J 7 t = J 7 t from (((g0).2.2.2.1.1 t ht.1 ht.2).1).symm]; exact p_154)))⟩⟩
    · refine tz_bipush (pc := 7) dX2_closedPart_7 (by decide) ?_
      exact tz_iret (pc := 9) (z := (-3)) dX2_closedPart_9 rfl (Nat.le_of_ble_eq_true rfl) (Nat.le_of_ble_eq_true rfl) ⟨Nat.le_refl _, Nat.le_add_right _ _⟩ ⟨_, rfl, (by decide), ⟨m, GX.rf C hm, hc, Or.inl rfl, hg, fun q9 => absurd q9 (by decide), fun S _ _ _ => exd_0 C (Or.inl rfl) (by omega)⟩⟩

set_option maxHeartbeats 4000000 in
set_option maxRecDepth 100000 in
theorem x_closed {l : Launch} {G : tb_G} (hl : l.stackTraces = false) (n : Nat) (J : zJ) (t : Int) (hr_t : -2147483648 ≤ t ∧ t < 2147483648) (m : Int) (S : zJ) (C : CT J m) (hm : J 6 12 = m) (ht : 0 ≤ t ∧ t < m) (hr : rOK J 19 7 m) (hG : S 164 21 = 0) (E : A0 J S) (hβ : ∀ v, 0 ≤ v → v < 8 → bO S v = J 19 (7 + v)) (hN : NRb S (bO S) t) : tz_Ok l G M_X2_closed 35 0 0 [.ref 141, zi t, .ref 19, zi 7] n J (zqi (fun z J' => ∃ m', GX [142] J' J m m' ∧ (z = -3 ∨ (0 ≤ z ∧ z < m')) ∧ EXO (cloF S t) z J')) zN := by
  refine tz_Ok.of hl (by decide +kernel) rfl (tb_c1 rfl) (Nat.le_of_ble_eq_true rfl) ?_
  show tz_At l G M_X2_closed (tb_rm 35 0 0) none (tb_ZM G 0 0 (zQ n 0 (zqi (fun z J' => ∃ m', GX [142] J' J m m' ∧ (z = -3 ∨ (0 ≤ z ∧ z < m')) ∧ EXO (cloF S t) z J'))) (zX n 0 zN)) 0 0 n J 0 [some (.ref 141), some (zi t), some (.ref 19), some (zi 7)] []
  obtain ⟨rk, P, n1, n2, n3⟩ := hN.n (fun v u hv b o9 => o9.elim (fun k o9 => E.org C hm k _ u (by have := hβ v hv.1 hv.2; have := hr v hv.1 hv.2; omega) o9))
  have hcr := crc_mk E C hm hr hβ n1 n3
  have g9 : GX [142] (zfl J 142 8 (-1)) J m m := (GX.rf C hm).off rfl (zOf.fl rfl zOf.rf)
  have hq9 : ∀ v, Occ S 0 0 t v → P v ∧ (¬ J 19 (7 + v) = -1 → rk v < 8) := fun v o9 => ⟨n2 v o9, fun b => by have hv : 0 ≤ v ∧ v < 8 := o9.elim (fun k o9 => E.org C hm k t v ht o9); have e := hβ v hv.1 hv.2; exact n1 v hv (n2 v o9) (by rw [e]; exact b)⟩
  refine tz_aload_n (pc := 0) dX2_closed_0 rfl rfl ?_
  refine tz_fR (pc := 1) dX2_closed_1 fl_X2_9 r_141_1 ?_
  refine tz_iconst (pc := 4) dX2_closed_4 ?_
  refine tz_cS (pc := 5) (zJ_fill hl n _ 142 _ 8 (-1) (by decide) a_142 rfl) sl_X2_63 dX2_closed_5 rfl rfl (Nat.le_of_ble_eq_true rfl) ⟨(Nat.le_of_ble_eq_true rfl), (Nat.le_of_ble_eq_true rfl)⟩ rfl rfl (Nat.le_of_ble_eq_true rfl) (Nat.le_of_ble_eq_true rfl) (fun r9 J_5 hq9 => ?_)
  obtain ⟨rfl, rfl⟩ := hq9
  refine tz_aload_n (pc := 8) dX2_closed_8 rfl rfl ?_
  refine tz_iload_n (pc := 9) dX2_closed_9 rfl rfl ?_
  refine tz_aload_n (pc := 10) dX2_closed_10 rfl rfl ?_
  refine tz_iload_n (pc := 11) dX2_closed_11 rfl rfl ?_
  refine tz_iconst (pc := 12) dX2_closed_12 ?_
  refine tz_cV (pc := 13) (x_closedP hl n 15 _ _ _ (by omega) (by omega) m 6 (rho (bO S) (fun t => S 166 (0 + t)) 8) (Occ S 0 0) rk P m 8 (C.of (fun c hc => zfl_nc (by omega))) hm ht hr (fun v a b => Or.inl (zfl_in b)) (Int.le_refl _) ht.2 (hcr.gx C (Int.le_refl _) g9 rfl) hq9 (fun v a b c9 => absurd (show zfl J 142 8 (-1) 142 v = -1 from zfl_in b) (by omega)) (Or.inr (by decide)) (by decide)) vl_X2_69 dX2_closed_13 o_141 rfl rfl (Nat.le_of_ble_eq_true rfl) ⟨(Nat.le_of_ble_eq_true rfl), (Nat.le_of_ble_eq_true rfl)⟩ rfl rfl (Nat.le_of_ble_eq_true rfl) (Nat.le_of_ble_eq_true rfl) (fun r9 J_13 hq9 => ?_)
  obtain ⟨z_13, rfl, hz_13, m1, g1, -, h1, -, v1, x1⟩ := hq9
  exact tz_iret (pc := 16) (z := z_13) dX2_closed_16 rfl (Nat.le_of_ble_eq_true rfl) (Nat.le_of_ble_eq_true rfl) ⟨Nat.le_refl _, Nat.le_add_right _ _⟩ ⟨_, rfl, (by omega), ⟨m1, g9.tr g1, h1, by
      have x9 := x1 S hG (E.f (fun c hc => zfl_nc (by omega))) (fun v a b => by rw [show zfl J 142 8 (-1) 142 v = -1 from zfl_in b]; decide)
      rcases x9 with q | ⟨q1, q2, q3⟩ | ⟨q1, q2, q3, q4, q5⟩
      · exact Or.inl q
      · have := (g1.2.1.nums q1 (by omega)).2.2
        omega
      · exact Or.inr ⟨q1, q2, q3, q4⟩⟩⟩

