section
/-! ===== closed of the class, exact ===== -/
theorem madeP.gj {J J' : zJ} {m h a b c z : Int} (p : madeP J m h a b c z J') : GJ J' J m (J' 6 12) := by
  have ct := p.ct
  obtain ⟨f, s, p⟩ := p
  refine ⟨?_, ct, rfl, s, f 1 rfl, f 3 rfl⟩
  rcases p with ⟨_, m1, _⟩ | ⟨_, m1, _⟩ | ⟨_, m1, _⟩ <;> omega
/-- what an argument's call tells of what is there (or that there is none) -/
def AGC (X : List Nat) (ρ : Int → Int) (J1 J : zJ) (x A i z m m1 : Int) : Prop := (i < A ∧ GX X J1 J m m1 ∧ (0 ≤ z → GCj ρ J1 m1 (J 9 (x * 3 + i)) z)) ∨ (¬ i < A ∧ J1 = J ∧ m1 = m)
theorem AGC.gj {X : List Nat} (hX : zbut (6 :: 7 :: 8 :: 9 :: 10 :: 11 :: 12 :: 13 :: 14 :: 15 :: 16 :: 17 :: X) 1 = true ∧ zbut (6 :: 7 :: 8 :: 9 :: 10 :: 11 :: 12 :: 13 :: 14 :: 15 :: 16 :: 17 :: X) 3 = true) {ρ : Int → Int} {J1 J : zJ} {x A i z m m1 : Int} (a : AGC X ρ J1 J x A i z m m1) (C : CT J m) (hm : J 6 12 = m) : GJ J1 J m m1 := by
  rcases a with ⟨_, g, _⟩ | ⟨_, e, e'⟩
  · exact g.j hX
  · rw [e, e']; exact GJ.rf C hm
theorem AGC.gc {X : List Nat} {ρ : Int → Int} {J1 J : zJ} {x A i z m m1 : Int} (a : AGC X ρ J1 J x A i z m m1) (h : i < A) (hz : 0 ≤ z) : GCj ρ J1 m1 (J 9 (x * 3 + i)) z := by
  rcases a with ⟨_, _, q⟩ | ⟨q, _⟩
  · exact q hz
  · exact absurd h q
theorem gcE {X : List Nat} (hX : zbut (6 :: 7 :: 8 :: 9 :: 10 :: 11 :: 12 :: 13 :: 14 :: 15 :: 16 :: 17 :: X) 1 = true ∧ zbut (6 :: 7 :: 8 :: 9 :: 10 :: 11 :: 12 :: 13 :: 14 :: 15 :: 16 :: 17 :: X) 3 = true) {ρ : Int → Int} {J J0 J1 J2 J' : zJ} {x t m m0 m1 m2 z0 z1 z2 z : Int} (C : CT J m) (hm : J 6 12 = m) (hx : 0 ≤ x ∧ x < m) (hv : 0 ≤ J 7 x) (e : ρ t = x) (a0 : AGC X ρ J0 J x (J 8 x) 0 z0 m m0) (a1 : AGC X ρ J1 J0 x (J 8 x) 1 z1 m0 m1) (a2 : AGC X ρ J2 J1 x (J 8 x) 2 z2 m1 m2) (p : madeP J2 m2 (J 7 x) z0 z1 z2 z J') (hz : 0 ≤ z) : GCj ρ J' (J' 6 12) t z := by
  have g0 := a0.gj hX C hm
  have g1 := a1.gj hX g0.2.1 g0.2.2.1
  have g2 := a2.gj hX g1.2.1 g1.2.2.1
  have g3 := p.gj
  have ha := C.ar hx.1 hx.2
  have l0 := g0.1
  have l1 := g1.1
  have l2 := g2.1
  have l3 := g3.1
  have q1 := g0.tr g1
  have q2 := q1.tr g2
  have q3 := q2.tr g3
  obtain ⟨i, ok, hr⟩ := p.is hz
  have e7 : J' 7 x = J 7 x := (q3.2.2.2.1.1 x hx.1 hx.2).1
  have e8 : J' 8 x = J 8 x := (q3.2.2.2.1.1 x hx.1 hx.2).2.1
  have ea : arh (J2 3) (J 7 x) = J 8 x := by rw [q2.2.2.2.2.2]; exact (C.2.1 x hx.1 hx.2).1.1.symm
  rw [ea] at ok
  have n9 : ∀ j, 0 ≤ j → j < J 8 x → J' 9 (x * 3 + j) = J 9 (x * 3 + j) ∧ J1 9 (x * 3 + j) = J 9 (x * 3 + j) ∧ J0 9 (x * 3 + j) = J 9 (x * 3 + j) := fun j a b => ⟨q3.2.2.2.1.2 _ (by omega) (by omega), q1.2.2.2.1.2 _ (by omega) (by omega), g0.2.2.2.1.2 _ (by omega) (by omega)⟩
  refine gcj_c (x := x) (z0 := z0) (z1 := z1) (z2 := z2) p.ct rfl ⟨hx.1, by omega⟩ (by rw [e7]; exact hv) e (fun y => ?_) (fun y => ?_) (fun y => ?_) hr (by rw [e7]; exact i)
  · rw [e8] at y
    have w := n9 0 (by decide) y
    rw [w.1]
    exact (a0.gc y (ok.1 y)).gr ((g1.tr g2).tr g3)
  · rw [e8] at y
    have w := n9 1 (by decide) y
    rw [w.1, ← w.2.2]
    exact (a1.gc y (ok.2.1 y)).gr (g2.tr g3)
  · rw [e8] at y
    have w := n9 2 (by decide) y
    rw [w.1, ← w.2.1]
    exact (a2.gc y (ok.2.2 y)).gr g3
/-- what the closing goes by -/
def CRc (O : Int → Int → Prop) (rk : Int → Nat) (P : Int → Prop) (ρ : Int → Int) (J : zJ) (m0 : Int) : Prop := (∀ t, 0 ≤ t → t < m0 → (J 7 t < 0 → O t (-1 - J 7 t)) ∧ ∀ i v, (0 ≤ i ∧ i < J 8 t) → O (J 9 (t * 3 + i)) v → O t v) ∧ rOK J 19 7 m0 ∧ (∀ v, (0 ≤ v ∧ v < 8) → P v → ¬ J 19 (7 + v) = -1 → ∀ u, O (J 19 (7 + v)) u → P u ∧ (¬ J 19 (7 + u) = -1 → rk u < rk v)) ∧ ∀ t, 0 ≤ t → t < m0 → (∀ v, O t v → P v) → (J 7 t < 0 → ¬ J 19 (7 + (-1 - J 7 t)) = -1 → ρ t = ρ (J 19 (7 + (-1 - J 7 t)))) ∧ ((0 ≤ J 7 t ∨ J 19 (7 + (-1 - J 7 t)) = -1) → ρ t = t)
theorem CRc.gx {X : List Nat} {O : Int → Int → Prop} {rk : Int → Nat} {P : Int → Prop} {ρ : Int → Int} {J' J : zJ} {m m' m0 : Int} (h : CRc O rk P ρ J m0) (C : CT J m) (hm : m0 ≤ m) (g : GX X J' J m m') (hx : zbut (6 :: 7 :: 8 :: 9 :: 10 :: 11 :: 12 :: 13 :: 14 :: 15 :: 16 :: 17 :: X) 19 = true) : CRc O rk P ρ J' m0 := by
  have e19 : J' 19 = J 19 := g.2.2.2.2 19 hx
  have s := g.2.2.2.1
  obtain ⟨h1, h2, h3, h4⟩ := h
  refine ⟨fun t a b => ?_, by unfold rOK at *; rw [e19]; exact h2, by rw [e19]; exact h3, fun t a b => ?_⟩
  · obtain ⟨x1, x2⟩ := h1 t a b
    have w := s.1 t a (by omega)
    have ha := (C.ar a (show t < m by omega)).1
    rw [w.1, w.2.1]
    refine ⟨x1, fun i v hi o => x2 i v hi ?_⟩
    rw [s.2 (t * 3 + i) (by omega) (by omega)] at o
    exact o
  · rw [(s.1 t a (by omega)).1, e19]
    exact h4 t a b
theorem crc_mk {J S : zJ} {m : Int} (E : A0 J S) (C : CT J m) (hm : J 6 12 = m) (hr : rOK J 19 7 m) (hβ : ∀ v, 0 ≤ v → v < 8 → bO S v = J 19 (7 + v)) {rk : Int → Nat} {P : Int → Prop} (n1 : ∀ v, (0 ≤ v ∧ v < 8) → P v → ¬ bO S v = -1 → rk v < 8) (n3 : WTb S (bO S) rk P) : CRc (Occ S 0 0) rk P (rho (bO S) (fun t => S 166 (0 + t)) 8) J m := by
  have h3 : ∀ v, (0 ≤ v ∧ v < 8) → P v → ¬ bO S v = -1 → ∀ u, Occ S 0 0 (bO S v) u → P u ∧ (¬ bO S u = -1 → rk u < rk v) := n3
  refine ⟨fun t a b => ?_, hr, fun v hv p b u o => ?_, fun t a b ho => ?_⟩
  · obtain ⟨t1, t2, t3⟩ := E.tm C hm ⟨a, b⟩
    refine ⟨fun q => ?_, fun i v hi o => ?_⟩
    · have := Occ.v (J := S) (b := 0) (d := 0) (t := t) (by rw [t1]; exact q)
      rw [t1] at this
      exact this
    · refine Occ.a (i := i) (by rw [t2]; exact hi) ?_
      rw [t3 i hi.1 hi.2]
      exact o
  · have y := hr v hv.1 hv.2
    rw [← hβ v hv.1 hv.2] at b o
    have hu : 0 ≤ u ∧ u < 8 := o.elim (fun k o => E.org C hm k _ u (by have := hβ v hv.1 hv.2; omega) o)
    rw [← hβ u hu.1 hu.2]
    exact h3 v hv p b u o
  · obtain ⟨t1, t2, t3⟩ := E.tm C hm ⟨a, b⟩
    have hd := (C.ar a b).2.2
    refine ⟨fun q1 q2 => ?_, fun q => ?_⟩
    · have e := hβ (-1 - J 7 t) (by omega) (by omega)
      rw [← e] at q2 ⊢
      have st : rho (bO S) (fun t => S 166 (0 + t)) 8 t = rho (bO S) (fun t => S 166 (0 + t)) 7 (bO S (-1 - J 7 t)) := by
        rw [rho_s]
        (try dsimp only)
        rw [t1, if_pos ⟨q1, q2⟩]
      rw [st]
      have o1 : Occ S 0 0 t (-1 - J 7 t) := by
        have := Occ.v (J := S) (b := 0) (d := 0) (t := t) (by rw [t1]; exact q1)
        rw [t1] at this
        exact this
      have p := ho _ o1
      have rv := n1 _ (by omega) p q2
      have y := hr (-1 - J 7 t) (by omega) (by omega)
      refine rho_q (O := Occ S 0 0) (rk := rk) (P := P) (m := m) (fun t ht => ?_) (fun v a b => ?_) (fun t ht q => Occ.v q) h3 7 _ (by omega) (fun u o => ?_) 7 8 (by decide) (by decide)
      · (try dsimp only)
        rw [(E.tm C hm ht).1]
        exact (C.ar ht.1 ht.2).2.2.1
      · rw [hβ v a b]; exact hr v a b
      · obtain ⟨x, y⟩ := h3 _ (by omega) p q2 u o
        exact ⟨x, fun n => by have := y n; omega⟩
    · refine rho_n (fun w => ?_) 8
      (try dsimp only at w)
      rw [t1] at w
      rcases q with q | q
      · omega
      · have e := hβ (-1 - J 7 t) (by omega) (by omega)
        exact w.2 (e.trans q)
def cGC (ρ : Int → Int) (J : zJ) (m : Int) : Prop := ∀ v, 0 ≤ v → v < 8 → 0 ≤ J 142 v → GCj ρ J m (J 19 (7 + v)) (J 142 v)
def nNC (J : zJ) : Prop := ∀ v, 0 ≤ v → v < 8 → ¬ J 142 v = -3
theorem cGC.gx {J' J : zJ} {m m' : Int} {ρ : Int → Int} (h : cGC ρ J m) (g : GX [] J' J m m') : cGC ρ J' m' := fun v a b c => by
  rw [g.2.2.2.2 142 rfl] at c ⊢
  rw [g.2.2.2.2 19 rfl]
  exact (h v a b c).gr (g.j ⟨rfl, rfl⟩)
theorem cGC.up {J : zJ} {m v z : Int} {ρ : Int → Int} (h : cGC ρ J m) (hz : 0 ≤ z → GCj ρ J m (J 19 (7 + v)) z) : cGC ρ (zup J 142 v z) m := fun u a b c => by
  have e : ∀ q, q < 18 → zup J 142 v z q = J q := fun q hq => zup_nc (by omega)
  rw [zup_nc (show ¬ 19 = 142 by decide)]
  by_cases w : u = v
  · subst w
    rw [zup_at] at c ⊢
    exact (hz c).of e
  · rw [zup_ne w] at c ⊢
    exact (h u a b c).of e
theorem nNC.up {J : zJ} {v z : Int} (h : nNC J) (hz : 0 ≤ z) : nNC (zup J 142 v z) := fun u a b => by
  by_cases w : u = v
  · subst w; rw [zup_at]; omega
  · rw [zup_ne w]; exact h u a b
theorem nNC.gx {J' J : zJ} {m m' : Int} (h : nNC J) (g : GX [] J' J m m') : nNC J' := fun v a b => by
  rw [g.2.2.2.2 142 rfl]; exact h v a b
theorem EXK.up {k : Nat} {F : zJ × Int} {z v : Int} {J : zJ} (e : EXK nNC k F z J) : EXK nNC k F z (zup J 142 v z) := by
  rcases e with q | q | ⟨q1, q2, q3, q4, q5⟩
  · exact Or.inl q
  · exact Or.inr (Or.inl q)
  · exact Or.inr (Or.inr ⟨q1, q2, q3.f (fun c hc => zup_nc (by omega)), q4, q5.up q1⟩)
theorem exd_0 {I : zJ → Prop} {ρ : Int → Int} {k : Nat} {J' S : zJ} {m' t z : Int} (C : CT J' m') (hz : z = -3 ∨ (0 ≤ z ∧ z < m')) (hk : k = 0) : EXK I k (grO ρ k S t) z J' := by
  subst hk
  rcases hz with hz | hz
  · exact Or.inl ⟨hz, grO_0f⟩
  · exact Or.inr (Or.inl ⟨hz.1, grO_0f, by have := (C.nums hz.1 hz.2).2.2; omega⟩)
theorem exd_c {I : zJ → Prop} {ρ : Int → Int} {k : Nat} {J S J' : zJ} {m t z : Int} (hG : S 164 21 = 0) (E : A0 J S) (C : CT J m) (hm : J 6 12 = m) (ht : 0 ≤ t ∧ t < m) (hv : ¬ J 7 t < 0) (hk : ¬ k = 0) (er : ρ t = t) (e : EXK I (k - 1 + 1) (gR (fun H i => grO ρ (k - 1) H (H 167 (3 * (0 + t) + i))) S (J 7 t)) z J') : EXK I k (grO ρ k S t) z J' := by
  obtain ⟨k, rfl⟩ : ∃ k', k = k' + 1 := ⟨k - 1, by omega⟩
  rw [grO_s, if_pos hG, er, (E.tm C hm ht).1, if_neg hv]
  exact e
set_option maxHeartbeats 4000000 in
set_option maxRecDepth 100000 in
theorem x_closedVar {l : Launch} {G : tb_G} (hl : l.stackTraces = false) (n : Nat) (J : zJ) (t : Int) (lv : Int) (hr_t : -2147483648 ≤ t ∧ t < 2147483648) (hr_lv : -2147483648 ≤ lv ∧ lv < 2147483648) (d9 : Nat) (m0 : Int) (k : Nat) (ρ : Int → Int) (O : Int → Int → Prop) (rk : Int → Nat) (P : Int → Prop) (H : ∀ (J : zJ) (t : Int) (hr_t : -2147483648 ≤ t ∧ t < 2147483648) (m : Int) (q : Nat) (C : CT J m) (hm : J 6 12 = m) (ht : 0 ≤ t ∧ t < m) (hr : rOK J 19 7 m) (hc : cOK J m) (hm0 : m0 ≤ m) (ht0 : t < m0) (hC : CRc O rk P ρ J m0) (hq : ∀ v, O t v → P v ∧ (¬ J 19 (7 + v) = -1 → rk v < q)) (hg : cGC ρ J m) (hk : k = 0 ∨ (lv + 1) + k + q ≤ 15), tz_Ok l G M_X2_closedPart d9 0 0 [.ref 141, zi t, .ref 19, zi 7, zi (lv + 1)] n J (zqi (fun z J' => ∃ m', GX [142] J' J m m' ∧ cOK J' m' ∧ (z = -3 ∨ (0 ≤ z ∧ z < m')) ∧ cGC ρ J' m' ∧ (0 ≤ z → GCj ρ J' m' t z) ∧ ∀ S, S 164 21 = 0 → A0 J S → nNC J → EXK nNC k (grO ρ k S t) z J')) zN) (m : Int) (q : Nat) (C : CT J m) (hm : J 6 12 = m) (ht : 0 ≤ t ∧ t < m) (hr : rOK J 19 7 m) (hc : cOK J m) (hm0 : m0 ≤ m) (ht0 : t < m0) (hC : CRc O rk P ρ J m0) (hq : ∀ v, O t v → P v ∧ (¬ J 19 (7 + v) = -1 → rk v < q)) (hg : cGC ρ J m) (hv : J 7 t < 0) (hk : k = 0 ∨ lv + k + q ≤ 15) : tz_Ok l G M_X2_closedVariable (d9 + 1) 0 0 [.ref 141, zi t, .ref 19, zi 7, zi lv] n J (zqi (fun z J' => ∃ m', GX [142] J' J m m' ∧ cOK J' m' ∧ (z = -3 ∨ (0 ≤ z ∧ z < m')) ∧ cGC ρ J' m' ∧ (0 ≤ z → GCj ρ J' m' t z) ∧ ∀ S, S 164 21 = 0 → A0 J S → nNC J → EXK nNC k (grO ρ k S t) z J')) zN := by
  refine tz_Ok.of hl (by decide +kernel) rfl (tb_c1 rfl) (Nat.le_of_ble_eq_true rfl) ?_
  show tz_At l G M_X2_closedVariable (tb_rm (d9 + 1) 0 0) none (tb_ZM G 0 0 (zQ n 0 (zqi (fun z J' => ∃ m', GX [142] J' J m m' ∧ cOK J' m' ∧ (z = -3 ∨ (0 ≤ z ∧ z < m')) ∧ cGC ρ J' m' ∧ (0 ≤ z → GCj ρ J' m' t z) ∧ ∀ S, S 164 21 = 0 → A0 J S → nNC J → EXK nNC k (grO ρ k S t) z J'))) (zX n 0 zN)) 0 0 n J 0 [some (.ref 141), some (zi t), some (.ref 19), some (zi 7), some (zi lv), none, none] []
  have hb := C.told
  have ha := C.ar ht.1 ht.2
  have hv8 : 0 ≤ (-1 - J 7 t) ∧ (-1 - J 7 t) < 8 := by omega
  have hqq := hr _ hv8.1 hv8.2
  have hkk := hc _ hv8.1 hv8.2
  have er0 := ((hC.2.2.2 t ht.1 ht0 (fun v o9 => (hq v o9).1)).2)
  have er1 := ((hC.2.2.2 t ht.1 ht0 (fun v o9 => (hq v o9).1)).1)
  refine tz_aload_n (pc := 0) dX2_closedVariable_0 rfl rfl ?_
  refine tz_fR (pc := 1) dX2_closedVariable_1 fl_X2_28 r_141_0 ?_
  refine tz_fR (pc := 4) dX2_closedVariable_4 fl_X2_42 r_6_1 ?_
  refine tz_iload_n (pc := 7) dX2_closedVariable_7 rfl rfl ?_
  refine tz_aL (pc := 8) (z := t) (v := (J 7 t)) dX2_closedVariable_8 a_7 rfl (by omega) rfl (fun r_8 => ?_)
  refine tz_iconst (pc := 9) dX2_closedVariable_9 ?_
  refine tz_ixor (pc := 10) (v := -1 - J 7 t) dX2_closedVariable_10 (z_nn (by omega)) ?_
  refine tz_istore (pc := 11) (L2 := [_, _, _, _, _, _, _]) dX2_closedVariable_11 (by decide) rfl ?_
  refine tz_aload_n (pc := 13) dX2_closedVariable_13 rfl rfl ?_
  refine tz_iload_n (pc := 14) dX2_closedVariable_14 rfl rfl ?_
  refine tz_iload (pc := 15) dX2_closedVariable_15 rfl ?_
  refine tz_iadd (pc := 17) (v := 7 + (-1 - J 7 t)) dX2_closedVariable_17 rfl ?_
  refine tz_aL (pc := 18) (z := (7 + (-1 - J 7 t))) (v := (J 19 (7 + (-1 - J 7 t)))) dX2_closedVariable_18 a_19 rfl (by omega) rfl (fun r_18 => ?_)
  refine tz_istore (pc := 19) (L2 := [_, _, _, _, _, _, _]) dX2_closedVariable_19 (by decide) rfl ?_
  refine tz_iload (pc := 21) dX2_closedVariable_21 rfl ?_
  refine tz_iconst (pc := 23) dX2_closedVariable_23 ?_
  refine tz_icmp_ne (pc := 24) (tgt := 29) dX2_closedVariable_24 (by decide) (by omega) (by decide) (fun h_24 => ?_) (fun h_24 => ?_)
  · refine tz_aload_n (pc := 29) dX2_closedVariable_29 rfl rfl ?_
    refine tz_fR (pc := 30) dX2_closedVariable_30 fl_X2_9 r_141_1 ?_
    refine tz_iload (pc := 33) dX2_closedVariable_33 rfl ?_
    refine tz_aL (pc := 35) (z := (-1 - J 7 t)) (v := (J 142 (-1 - J 7 t))) dX2_closedVariable_35 a_142 rfl (by omega) rfl (fun r_35 => ?_)
    refine tz_iconst (pc := 36) dX2_closedVariable_36 ?_
    refine tz_icmp_ne (pc := 37) (tgt := 59) dX2_closedVariable_37 (by decide) (by omega) (by decide) (fun h_37 => ?_) (fun h_37 => ?_)
    · refine tz_aload_n (pc := 59) dX2_closedVariable_59 rfl rfl ?_
      refine tz_fR (pc := 60) dX2_closedVariable_60 fl_X2_9 r_141_1 ?_
      refine tz_iload (pc := 63) dX2_closedVariable_63 rfl ?_
      refine tz_aL (pc := 65) (z := (-1 - J 7 t)) (v := (J 142 (-1 - J 7 t))) dX2_closedVariable_65 a_142 rfl (by omega) rfl (fun r_65 => ?_)
      exact tz_iret (pc := 66) (z := (J 142 (-1 - J 7 t))) dX2_closedVariable_66 rfl (Nat.le_of_ble_eq_true rfl) (Nat.le_of_ble_eq_true rfl) ⟨Nat.le_refl _, Nat.le_add_right _ _⟩ ⟨_, rfl, (by omega), ⟨m, GX.rf C hm, hc, by omega, hg, fun q9 => (hg _ hv8.1 hv8.2 q9).rr (er1 (by omega) (by omega)), fun S hG E N => ((hg _ hv8.1 hv8.2 (by have := N _ hv8.1 hv8.2; omega)).rr (er1 (by omega) (by omega))).ex C hm hG E N⟩⟩
    · refine tz_aload_n (pc := 40) dX2_closedVariable_40 rfl rfl ?_
      refine tz_fR (pc := 41) dX2_closedVariable_41 fl_X2_9 r_141_1 ?_
      refine tz_iload (pc := 44) dX2_closedVariable_44 rfl ?_
      refine tz_aload_n (pc := 46) dX2_closedVariable_46 rfl rfl ?_
      refine tz_iload (pc := 47) dX2_closedVariable_47 rfl ?_
      refine tz_aload_n (pc := 49) dX2_closedVariable_49 rfl rfl ?_
      refine tz_iload_n (pc := 50) dX2_closedVariable_50 rfl rfl ?_
      refine tz_iload (pc := 51) dX2_closedVariable_51 rfl ?_
      refine tz_iconst (pc := 53) dX2_closedVariable_53 ?_
      refine tz_iadd (pc := 54) (v := lv + 1) dX2_closedVariable_54 rfl ?_
      have oo := hq _ ((hC.1 t ht.1 ht0).1 (by omega))
      have orr := oo.2 (by omega)
      have hr0 := hC.2.1 _ hv8.1 hv8.2
      have er := ((hC.2.2.2 t ht.1 ht0 (fun v o9 => (hq v o9).1)).1 (by omega) (by omega))
      refine tz_cV (pc := 55) (H _ _ (by omega) m (rk (-1 - J 7 t)) C hm (by omega) hr hc hm0 (by omega) hC (hC.2.2.1 _ hv8 oo.1 (by omega)) hg (by omega)) vl_X2_69 dX2_closedVariable_55 o_141 rfl rfl (Nat.le_of_ble_eq_true rfl) ⟨(show d9 + 1 ≤ d9 + 1 by omega), (show 8 + (9 + 11) + 40 * (d9) ≤ 40 * (d9 + 1) by omega)⟩ rfl rfl (Nat.le_of_ble_eq_true rfl) (Nat.le_of_ble_eq_true rfl) (fun r9 J_55 hq9 => ?_)
      obtain ⟨z_55, rfl, hz_55, m_55, q_55, o_55, h_55, c_55, v_55, x_55⟩ := hq9
      refine tz_aS (pc := 58) (z := (-1 - J 7 t)) dX2_closedVariable_58 a_142 rfl (by omega) (by omega) ?_
      refine tz_aload_n (pc := 59) dX2_closedVariable_59 rfl rfl ?_
      refine tz_fR (pc := 60) dX2_closedVariable_60 fl_X2_9 r_141_1 ?_
      refine tz_iload (pc := 63) dX2_closedVariable_63 rfl ?_
      refine tz_aL (pc := 65) (z := (-1 - J 7 t)) (v := z_55) dX2_closedVariable_65 a_142 rfl (by omega) (by simp [zup]) (fun r_65 => ?_)
      exact tz_iret (pc := 66) (z := z_55) dX2_closedVariable_66 rfl (Nat.le_of_ble_eq_true rfl) (Nat.le_of_ble_eq_true rfl) ⟨Nat.le_refl _, Nat.le_add_right _ _⟩ ⟨_, rfl, (by omega), ⟨m_55, q_55.off rfl (zOf.up rfl zOf.rf), o_55.up h_55, h_55, c_55.up (fun q9 => by rw [q_55.2.2.2.2 19 rfl]; exact v_55 q9), fun q9 => ((v_55 q9).rr er).of (fun q8 hq8 => zup_nc (by omega)), fun S hG E N => by rw [grO_r er]; exact (x_55 S hG E N).up⟩⟩
  · refine tz_iload_n (pc := 27) dX2_closedVariable_27 rfl rfl ?_
    exact tz_iret (pc := 28) (z := t) dX2_closedVariable_28 rfl (Nat.le_of_ble_eq_true rfl) (Nat.le_of_ble_eq_true rfl) ⟨Nat.le_refl _, Nat.le_add_right _ _⟩ ⟨_, rfl, (by omega), ⟨m, GX.rf C hm, hc, by omega, hg, fun _ => gcj_v ht (by omega) (er0 (Or.inr (by omega))), fun S hG E N => (gcj_v ht (by omega) (er0 (Or.inr (by omega)))).ex C hm hG E N⟩⟩

set_option maxHeartbeats 4000000 in
set_option maxRecDepth 100000 in
theorem x_closedP {l : Launch} {G : tb_G} (hl : l.stackTraces = false) (n : Nat) : ∀ (r9 : Nat) (J : zJ) (t : Int) (lv : Int) (hr_t : -2147483648 ≤ t ∧ t < 2147483648) (hr_lv : -2147483648 ≤ lv ∧ lv < 2147483648) (m0 : Int) (k : Nat) (ρ : Int → Int) (O : Int → Int → Prop) (rk : Int → Nat) (P : Int → Prop) (m : Int) (q : Nat) (C : CT J m) (hm : J 6 12 = m) (ht : 0 ≤ t ∧ t < m) (hr : rOK J 19 7 m) (hc : cOK J m) (hm0 : m0 ≤ m) (ht0 : t < m0) (hC : CRc O rk P ρ J m0) (hq : ∀ v, O t v → P v ∧ (¬ J 19 (7 + v) = -1 → rk v < q)) (hg : cGC ρ J m) (hk : k = 0 ∨ lv + k + q ≤ 15), ((15 - lv).toNat) < r9 → tz_Ok l G M_X2_closedPart (4 + 2 * r9) 0 0 [.ref 141, zi t, .ref 19, zi 7, zi lv] n J (zqi (fun z J' => ∃ m', GX [142] J' J m m' ∧ cOK J' m' ∧ (z = -3 ∨ (0 ≤ z ∧ z < m')) ∧ cGC ρ J' m' ∧ (0 ≤ z → GCj ρ J' m' t z) ∧ ∀ S, S 164 21 = 0 → A0 J S → nNC J → EXK nNC k (grO ρ k S t) z J')) zN := by
  intro r9
  induction r9 with
  | zero => intro J t lv hr_t hr_lv m0 k ρ O rk P m q C hm ht hr hc hm0 ht0 hC hq hg hk hm9; exact absurd hm9 (Nat.not_lt_zero _)
  | succ r9 ih =>
    intro J t lv hr_t hr_lv m0 k ρ O rk P m q C hm ht hr hc hm0 ht0 hC hq hg hk hm9
    refine tz_Ok.of hl (by decide +kernel) rfl (tb_c1 rfl) (Nat.le_of_ble_eq_true rfl) ?_
    show tz_At l G M_X2_closedPart (tb_rm (4 + 2 * (r9 + 1)) 0 0) none (tb_ZM G 0 0 (zQ n 0 (zqi (fun z J' => ∃ m', GX [142] J' J m m' ∧ cOK J' m' ∧ (z = -3 ∨ (0 ≤ z ∧ z < m')) ∧ cGC ρ J' m' ∧ (0 ≤ z → GCj ρ J' m' t z) ∧ ∀ S, S 164 21 = 0 → A0 J S → nNC J → EXK nNC k (grO ρ k S t) z J'))) (zX n 0 zN)) 0 0 n J 0 [some (.ref 141), some (zi t), some (.ref 19), some (zi 7), some (zi lv), none, none, none, none] []
    have hb := C.told
    have ha := C.ar ht.1 ht.2
    have g0 : GX [142] J J m m := GX.rf C hm
    refine tz_iload (pc := 0) dX2_closedPart_0 rfl ?_
    refine tz_bipush (pc := 2) dX2_closedPart_2 (by decide) ?_
    refine tz_icmp_le (pc := 4) (tgt := 10) dX2_closedPart_4 (by decide) (by omega) (by decide) (fun h_4 => ?_) (fun h_4 => ?_)
    · refine tz_aload_n (pc := 10) dX2_closedPart_10 rfl rfl ?_
      refine tz_fR (pc := 11) dX2_closedPart_11 fl_X2_28 r_141_0 ?_
      refine tz_iload_n (pc := 14) dX2_closedPart_14 rfl rfl ?_
      refine tz_cV (pc := 15) (c_isVar hl n _ _ (by omega) (by omega)) vl_X2_36 dX2_closedPart_15 o_6 rfl rfl (Nat.le_of_ble_eq_true rfl) ⟨(show 0 + 1 ≤ 4 + 2 * (r9 + 1) by omega), (show 8 + (2 + 11) + 40 * (0) ≤ 40 * (4 + 2 * (r9 + 1)) by omega)⟩ rfl rfl (Nat.le_of_ble_eq_true rfl) (Nat.le_of_ble_eq_true rfl) (fun r9 J_15 hq9 => ?_)
      obtain ⟨z_15, rfl, hz_15, rfl, rfl⟩ := hq9
      by_cases hw_18 : J 7 t < 0
      · rw [show (if J 7 t < 0 then 1 else 0 : Int) = 1 from if_pos hw_18]
        refine tz_if_eqF (pc := 18) (tgt := 31) (by decide) dX2_closedPart_18 (by decide) (by decide) ?_
        refine tz_aload_n (pc := 21) dX2_closedPart_21 rfl rfl ?_
        refine tz_iload_n (pc := 22) dX2_closedPart_22 rfl rfl ?_
        refine tz_aload_n (pc := 23) dX2_closedPart_23 rfl rfl ?_
        refine tz_iload_n (pc := 24) dX2_closedPart_24 rfl rfl ?_
        refine tz_iload (pc := 25) dX2_closedPart_25 rfl ?_
        refine tz_cV (pc := 27) (x_closedVar hl n _ _ _ (by omega) (by omega) (4 + 2 * r9) m0 k ρ O rk P (fun J t a m q h1 h2 h3 h4 h5 h6 h7 h8 h9 h10 h11 => ih J t _ a (by omega) m0 k ρ O rk P m q h1 h2 h3 h4 h5 h6 h7 h8 h9 h10 h11 (by omega)) m q C hm ht hr hc hm0 ht0 hC hq hg (by omega) hk) vl_X2_72 dX2_closedPart_27 o_141 rfl rfl (Nat.le_of_ble_eq_true rfl) ⟨(show (4 + 2 * r9 + 1) + 1 ≤ 4 + 2 * (r9 + 1) by omega), (show 8 + (7 + 11) + 40 * ((4 + 2 * r9 + 1)) ≤ 40 * (4 + 2 * (r9 + 1)) by omega)⟩ rfl rfl (Nat.le_of_ble_eq_true rfl) (Nat.le_of_ble_eq_true rfl) (fun r9 J_27 hq9 => ?_)
        obtain ⟨z_27, rfl, hz_27, m_27, q_27, o_27, h_27, c_27, v_27, x_27⟩ := hq9
        exact tz_iret (pc := 30) (z := z_27) dX2_closedPart_30 rfl (Nat.le_of_ble_eq_true rfl) (Nat.le_of_ble_eq_true rfl) ⟨Nat.le_refl _, Nat.le_add_right _ _⟩ ⟨_, rfl, (by omega), ⟨m_27, q_27, o_27, h_27, c_27, v_27, x_27⟩⟩
      · rw [show (if J 7 t < 0 then 1 else 0 : Int) = 0 from if_neg hw_18]
        refine tz_if_eqT (pc := 18) (tgt := 31) (by decide) dX2_closedPart_18 (by decide) (by decide) ?_
        refine tz_aload_n (pc := 31) dX2_closedPart_31 rfl rfl ?_
        refine tz_fR (pc := 32) dX2_closedPart_32 fl_X2_28 r_141_0 ?_
        refine tz_fR (pc := 35) dX2_closedPart_35 fl_X2_45 r_6_2 ?_
        refine tz_iload_n (pc := 38) dX2_closedPart_38 rfl rfl ?_
        refine tz_aL (pc := 39) (z := t) (v := (J 8 t)) dX2_closedPart_39 a_8 rfl (by omega) rfl (fun r_39 => ?_)
        refine tz_istore (pc := 40) (L2 := [_, _, _, _, _, _, _, _, _]) dX2_closedPart_40 (by decide) rfl ?_
        refine tz_iload (pc := 42) dX2_closedPart_42 rfl ?_
        refine tz_iconst (pc := 44) dX2_closedPart_44 ?_
        refine tz_icmp_ge (pc := 45) (tgt := 52) dX2_closedPart_45 (by decide) (by omega) (by decide) (fun h_45 => ?_) (fun h_45 => ?_)
        · refine tz_aload_n (pc := 52) dX2_closedPart_52 rfl rfl ?_
          refine tz_aload_n (pc := 53) dX2_closedPart_53 rfl rfl ?_
          refine tz_fR (pc := 54) dX2_closedPart_54 fl_X2_28 r_141_0 ?_
          refine tz_iload_n (pc := 57) dX2_closedPart_57 rfl rfl ?_
          refine tz_iconst (pc := 58) dX2_closedPart_58 ?_
          refine tz_cV (pc := 59) (c_arg hl n _ _ _ (by omega) (by decide) (by omega)) vl_X2_48 dX2_closedPart_59 o_6 rfl rfl (Nat.le_of_ble_eq_true rfl) ⟨(show 0 + 1 ≤ 4 + 2 * (r9 + 1) by omega), (show 8 + (3 + 11) + 40 * (0) ≤ 40 * (4 + 2 * (r9 + 1)) by omega)⟩ rfl rfl (Nat.le_of_ble_eq_true rfl) (Nat.le_of_ble_eq_true rfl) (fun r9 J_59 hq9 => ?_)
          obtain ⟨z_59, rfl, hz_59, rfl, rfl⟩ := hq9
          refine tz_aload_n (pc := 62) dX2_closedPart_62 rfl rfl ?_
          refine tz_iload_n (pc := 63) dX2_closedPart_63 rfl rfl ?_
          refine tz_iload (pc := 64) dX2_closedPart_64 rfl ?_
          refine tz_iconst (pc := 66) dX2_closedPart_66 ?_
          refine tz_iadd (pc := 67) (v := lv + 1) dX2_closedPart_67 rfl ?_
          have b_68 := (GX.arg g0 C ht (i := 0) (by omega))
          have k_68 := (C.arg ht.1 ht.2 (i := 0) (by omega) (by omega)).1
          have n_68 := (g0).1
          refine tz_cV (pc := 68) (ih _ _ _ (by omega) (by omega) m0 (k - 1) ρ O rk P m q (g0).2.1 (g0).2.2.1 (by omega) (GX.row g0 rfl hr) hc (by omega) (by omega) hC (fun v o9 => by rw [b_68.2] at o9; rw [(g0).2.2.2.2 19 rfl]; exact hq v ((hC.1 t ht.1 ht0).2 0 v (by omega) o9)) hg (by omega) (by omega)) vl_X2_69 dX2_closedPart_68 o_141 rfl rfl (Nat.le_of_ble_eq_true rfl) ⟨(show (4 + 2 * r9) + 1 ≤ 4 + 2 * (r9 + 1) by omega), (show 8 + (9 + 11) + 40 * ((4 + 2 * r9)) ≤ 40 * (4 + 2 * (r9 + 1)) by omega)⟩ rfl rfl (Nat.le_of_ble_eq_true rfl) (Nat.le_of_ble_eq_true rfl) (fun r9 J_68 hq9 => ?_)
          obtain ⟨z_68, rfl, hz_68, m_68, g_68, o_68, h_68, c_68, v_68, x_68⟩ := hq9
          have q_68 := GX.tr g0 g_68
          have d_68 := q_68.1
          have e_68 := g_68.1
          have s8_68 : J 8 t = J 8 t := ((g0).2.2.2.1.1 t ht.1 ht.2).2.1
          have r_68 : ∀ S, S 164 21 = 0 → A0 J S → nNC J → EXK nNC (k - 1) ((fun (H : zJ) (i : Int) => grO ρ (k - 1) H (H 167 (3 * (0 + t) + i))) S 0) z_68 J_68 := fun S h9 E9 N9 => by dsimp only; rw [(E9.tm (g0).2.1 (g0).2.2.1 (t := t) (by omega)).2.2 0 (by decide) (by omega)]; exact x_68 S h9 E9 N9
          refine tz_istore (pc := 71) (L2 := [_, _, _, _, _, _, _, _, _]) dX2_closedPart_71 (by decide) rfl ?_
          refine tz_iload (pc := 73) dX2_closedPart_73 rfl ?_
          refine tz_iconst (pc := 75) dX2_closedPart_75 ?_
          refine tz_icmp_ge (pc := 76) (tgt := 83) dX2_closedPart_76 (by decide) (by omega) (by decide) (fun h_76 => ?_) (fun h_76 => ?_)
          · refine tz_aload_n (pc := 83) dX2_closedPart_83 rfl rfl ?_
            refine tz_aload_n (pc := 84) dX2_closedPart_84 rfl rfl ?_
            refine tz_fR (pc := 85) dX2_closedPart_85 fl_X2_28 r_141_0 ?_
            refine tz_iload_n (pc := 88) dX2_closedPart_88 rfl rfl ?_
            refine tz_iconst (pc := 89) dX2_closedPart_89 ?_
            refine tz_cV (pc := 90) (c_arg hl n _ _ _ (by omega) (by decide) (by omega)) vl_X2_48 dX2_closedPart_90 o_6 rfl rfl (Nat.le_of_ble_eq_true rfl) ⟨(show 0 + 1 ≤ 4 + 2 * (r9 + 1) by omega), (show 8 + (3 + 11) + 40 * (0) ≤ 40 * (4 + 2 * (r9 + 1)) by omega)⟩ rfl rfl (Nat.le_of_ble_eq_true rfl) (Nat.le_of_ble_eq_true rfl) (fun r9 J_90 hq9 => ?_)
            obtain ⟨z_90, rfl, hz_90, rfl, rfl⟩ := hq9
            refine tz_aload_n (pc := 93) dX2_closedPart_93 rfl rfl ?_
            refine tz_iload_n (pc := 94) dX2_closedPart_94 rfl rfl ?_
            refine tz_iload (pc := 95) dX2_closedPart_95 rfl ?_
            refine tz_iconst (pc := 97) dX2_closedPart_97 ?_
            refine tz_iadd (pc := 98) (v := lv + 1) dX2_closedPart_98 rfl ?_
            have b_99 := (GX.arg q_68 C ht (i := 1) (by omega))
            have k_99 := (C.arg ht.1 ht.2 (i := 1) (by omega) (by omega)).1
            have n_99 := (q_68).1
            refine tz_cV (pc := 99) (ih _ _ _ (by omega) (by omega) m0 (k - 1) ρ O rk P m_68 q (q_68).2.1 (q_68).2.2.1 (by omega) (GX.row q_68 rfl hr) o_68 (by omega) (by omega) (hC.gx C hm0 (q_68) rfl) (fun v o9 => by rw [b_99.2] at o9; rw [(q_68).2.2.2.2 19 rfl]; exact hq v ((hC.1 t ht.1 ht0).2 1 v (by omega) o9)) c_68 (by omega) (by omega)) vl_X2_69 dX2_closedPart_99 o_141 rfl rfl (Nat.le_of_ble_eq_true rfl) ⟨(show (4 + 2 * r9) + 1 ≤ 4 + 2 * (r9 + 1) by omega), (show 8 + (9 + 11) + 40 * ((4 + 2 * r9)) ≤ 40 * (4 + 2 * (r9 + 1)) by omega)⟩ rfl rfl (Nat.le_of_ble_eq_true rfl) (Nat.le_of_ble_eq_true rfl) (fun r9 J_99 hq9 => ?_)
            obtain ⟨z_99, rfl, hz_99, m_99, g_99, o_99, h_99, c_99, v_99, x_99⟩ := hq9
            have q_99 := GX.tr q_68 g_99
            have d_99 := q_99.1
            have e_99 := g_99.1
            have s8_99 : J_68 8 t = J 8 t := ((q_68).2.2.2.1.1 t ht.1 ht.2).2.1
            have r_99 : ∀ S, S 164 21 = 0 → A0 J_68 S → nNC J_68 → EXK nNC (k - 1) ((fun (H : zJ) (i : Int) => grO ρ (k - 1) H (H 167 (3 * (0 + t) + i))) S 1) z_99 J_99 := fun S h9 E9 N9 => by dsimp only; rw [(E9.tm (q_68).2.1 (q_68).2.2.1 (t := t) (by omega)).2.2 1 (by decide) (by omega)]; exact x_99 S h9 E9 N9
            refine tz_istore (pc := 102) (L2 := [_, _, _, _, _, _, _, _, _]) dX2_closedPart_102 (by decide) rfl ?_
            refine tz_iload (pc := 104) dX2_closedPart_104 rfl ?_
            refine tz_iconst (pc := 106) dX2_closedPart_106 ?_
            refine tz_icmp_ge (pc := 107) (tgt := 114) dX2_closedPart_107 (by decide) (by omega) (by decide) (fun h_107 => ?_) (fun h_107 => ?_)
            · refine tz_aload_n (pc := 114) dX2_closedPart_114 rfl rfl ?_
              refine tz_aload_n (pc := 115) dX2_closedPart_115 rfl rfl ?_
              refine tz_fR (pc := 116) dX2_closedPart_116 fl_X2_28 r_141_0 ?_
              refine tz_iload_n (pc := 119) dX2_closedPart_119 rfl rfl ?_
              refine tz_iconst (pc := 120) dX2_closedPart_120 ?_
              refine tz_cV (pc := 121) (c_arg hl n _ _ _ (by omega) (by decide) (by omega)) vl_X2_48 dX2_closedPart_121 o_6 rfl rfl (Nat.le_of_ble_eq_true rfl) ⟨(show 0 + 1 ≤ 4 + 2 * (r9 + 1) by omega), (show 8 + (3 + 11) + 40 * (0) ≤ 40 * (4 + 2 * (r9 + 1)) by omega)⟩ rfl rfl (Nat.le_of_ble_eq_true rfl) (Nat.le_of_ble_eq_true rfl) (fun r9 J_121 hq9 => ?_)
              obtain ⟨z_121, rfl, hz_121, rfl, rfl⟩ := hq9
              refine tz_aload_n (pc := 124) dX2_closedPart_124 rfl rfl ?_
              refine tz_iload_n (pc := 125) dX2_closedPart_125 rfl rfl ?_
              refine tz_iload (pc := 126) dX2_closedPart_126 rfl ?_
              refine tz_iconst (pc := 128) dX2_closedPart_128 ?_
              refine tz_iadd (pc := 129) (v := lv + 1) dX2_closedPart_129 rfl ?_
              have b_130 := (GX.arg q_99 C ht (i := 2) (by omega))
              have k_130 := (C.arg ht.1 ht.2 (i := 2) (by omega) (by omega)).1
              have n_130 := (q_99).1
              refine tz_cV (pc := 130) (ih _ _ _ (by omega) (by omega) m0 (k - 1) ρ O rk P m_99 q (q_99).2.1 (q_99).2.2.1 (by omega) (GX.row q_99 rfl hr) o_99 (by omega) (by omega) (hC.gx C hm0 (q_99) rfl) (fun v o9 => by rw [b_130.2] at o9; rw [(q_99).2.2.2.2 19 rfl]; exact hq v ((hC.1 t ht.1 ht0).2 2 v (by omega) o9)) c_99 (by omega) (by omega)) vl_X2_69 dX2_closedPart_130 o_141 rfl rfl (Nat.le_of_ble_eq_true rfl) ⟨(show (4 + 2 * r9) + 1 ≤ 4 + 2 * (r9 + 1) by omega), (show 8 + (9 + 11) + 40 * ((4 + 2 * r9)) ≤ 40 * (4 + 2 * (r9 + 1)) by omega)⟩ rfl rfl (Nat.le_of_ble_eq_true rfl) (Nat.le_of_ble_eq_true rfl) (fun r9 J_130 hq9 => ?_)
              obtain ⟨z_130, rfl, hz_130, m_130, g_130, o_130, h_130, c_130, v_130, x_130⟩ := hq9
              have q_130 := GX.tr q_99 g_130
              have d_130 := q_130.1
              have e_130 := g_130.1
              have s8_130 : J_99 8 t = J 8 t := ((q_99).2.2.2.1.1 t ht.1 ht.2).2.1
              have r_130 : ∀ S, S 164 21 = 0 → A0 J_99 S → nNC J_99 → EXK nNC (k - 1) ((fun (H : zJ) (i : Int) => grO ρ (k - 1) H (H 167 (3 * (0 + t) + i))) S 2) z_130 J_130 := fun S h9 E9 N9 => by dsimp only; rw [(E9.tm (q_99).2.1 (q_99).2.2.1 (t := t) (by omega)).2.2 2 (by decide) (by omega)]; exact x_130 S h9 E9 N9
              refine tz_istore (pc := 133) (L2 := [_, _, _, _, _, _, _, _, _]) dX2_closedPart_133 (by decide) rfl ?_
              refine tz_aload_n (pc := 135) dX2_closedPart_135 rfl rfl ?_
              refine tz_fR (pc := 136) dX2_closedPart_136 fl_X2_28 r_141_0 ?_
              refine tz_aload_n (pc := 139) dX2_closedPart_139 rfl rfl ?_
              refine tz_fR (pc := 140) dX2_closedPart_140 fl_X2_28 r_141_0 ?_
              refine tz_fR (pc := 143) dX2_closedPart_143 fl_X2_42 r_6_1 ?_
              refine tz_iload_n (pc := 146) dX2_closedPart_146 rfl rfl ?_
              refine tz_aL (pc := 147) (z := t) (v := (J_130 7 t)) dX2_closedPart_147 a_7 rfl (by omega) rfl (fun r_147 => ?_)
              refine tz_iload (pc := 148) dX2_closedPart_148 rfl ?_
              refine tz_iload (pc := 150) dX2_closedPart_150 rfl ?_
              refine tz_iload (pc := 152) dX2_closedPart_152 rfl ?_
              refine tz_cV (pc := 154) (c_made hl n _ _ _ _ _ (by omega) (by omega) (by omega) (by omega) m_130 (q_130).2.1 (q_130).2.2.1 (by have := (q_130).2.1.ar (t := t) (by omega) (by have := (q_130).1; omega); omega) (ltA_of (by omega) (by omega) (by omega))) vl_X2_52 dX2_closedPart_154 o_6 rfl rfl (Nat.le_of_ble_eq_true rfl) ⟨(show 2 + 1 ≤ 4 + 2 * (r9 + 1) by omega), (show 8 + (11 + 11) + 40 * (2) ≤ 40 * (4 + 2 * (r9 + 1)) by omega)⟩ rfl rfl (Nat.le_of_ble_eq_true rfl) (Nat.le_of_ble_eq_true rfl) (fun r9 J_154 hq9 => ?_)
              obtain ⟨z_154, rfl, hz_154, p_154⟩ := hq9
              obtain ⟨m_154, g_154, h_154⟩ := GR.made p_154 (by omega)
              have q_154 : GX [142] J_154 J m m_154 := GX.tr q_130 (GR.x g_154)
              have o_154 := (o_130).gx (GR.x (X := []) g_154) rfl
              have c_154 := (c_130).gx (GR.x (X := []) g_154)
              exact tz_iret (pc := 157) (z := z_154) dX2_closedPart_157 rfl (Nat.le_of_ble_eq_true rfl) (Nat.le_of_ble_eq_true rfl) ⟨Nat.le_refl _, Nat.le_add_right _ _⟩ ⟨_, rfl, (by omega), ⟨m_154, q_154, o_154, h_154, c_154, fun q9 => by have w9 := gcE (X := [142]) ⟨rfl, rfl⟩ C hm ht (by omega) ((hC.2.2.2 t ht.1 ht0 (fun v o9 => (hq v o9).1)).2 (Or.inl (by omega))) (Or.inl ⟨by omega, g_68, v_68⟩) (Or.inl ⟨by omega, g_99, v_99⟩) (Or.inl ⟨by omega, g_130, v_130⟩) (by rw [show J 7 t = J_130 7 t from (((q_130).2.2.2.1.1 t ht.1 ht.2).1).symm]; exact p_154) q9; rw [g_154.2.2.1] at w9; exact w9, fun S hG E N => (Decidable.em (k = 0)).elim (fun k0 => exd_0 q_154.2.1 h_154 k0) (fun k0 => exd_c hG E C hm ht (by omega) k0 ((hC.2.2.2 t ht.1 ht0 (fun v o9 => (hq v o9).1)).2 (Or.inl (by omega))) (gpD (X := [142]) ⟨rfl, rfl⟩ (fun S i h => grO_f h) hG E N C hm ha.2.2 (C.2.1 t ht.1 ht.2).1.1.symm (Or.inl ⟨by omega, g_68, h_68, r_68⟩) (Or.inl ⟨by omega, g_99, h_99, r_99⟩) (Or.inl ⟨by omega, g_130, h_130, r_130⟩) (fun N9 => N9.gx (GR.x (X := []) g_154)) (by rw [show J 7 t = J_130 7 t from (((q_130).2.2.2.1.1 t ht.1 ht.2).1).symm]; exact p_154)))⟩⟩
            · refine tz_iconst (pc := 110) dX2_closedPart_110 ?_
              refine tz_goto (pc := 111) (tgt := 133) dX2_closedPart_111 (by decide) ?_
              refine tz_istore (pc := 133) (L2 := [_, _, _, _, _, _, _, _, _]) dX2_closedPart_133 (by decide) rfl ?_
              refine tz_aload_n (pc := 135) dX2_closedPart_135 rfl rfl ?_
              refine tz_fR (pc := 136) dX2_closedPart_136 fl_X2_28 r_141_0 ?_
              refine tz_aload_n (pc := 139) dX2_closedPart_139 rfl rfl ?_
              refine tz_fR (pc := 140) dX2_closedPart_140 fl_X2_28 r_141_0 ?_
              refine tz_fR (pc := 143) dX2_closedPart_143 fl_X2_42 r_6_1 ?_
              refine tz_iload_n (pc := 146) dX2_closedPart_146 rfl rfl ?_
              refine tz_aL (pc := 147) (z := t) (v := (J_99 7 t)) dX2_closedPart_147 a_7 rfl (by omega) rfl (fun r_147 => ?_)
              refine tz_iload (pc := 148) dX2_closedPart_148 rfl ?_
              refine tz_iload (pc := 150) dX2_closedPart_150 rfl ?_
              refine tz_iload (pc := 152) dX2_closedPart_152 rfl ?_
              refine tz_cV (pc := 154) (c_made hl n _ _ _ _ _ (by omega) (by omega) (by omega) (by omega) m_99 (q_99).2.1 (q_99).2.2.1 (by have := (q_99).2.1.ar (t := t) (by omega) (by have := (q_99).1; omega); omega) (ltA_of (by omega) (by omega) (by omega))) vl_X2_52 dX2_closedPart_154 o_6 rfl rfl (Nat.le_of_ble_eq_true rfl) ⟨(show 2 + 1 ≤ 4 + 2 * (r9 + 1) by omega), (show 8 + (11 + 11) + 40 * (2) ≤ 40 * (4 + 2 * (r9 + 1)) by omega)⟩ rfl rfl (Nat.le_of_ble_eq_true rfl) (Nat.le_of_ble_eq_true rfl) (fun r9 J_154 hq9 => ?_)
              obtain ⟨z_154, rfl, hz_154, p_154⟩ := hq9
              obtain ⟨m_154, g_154, h_154⟩ := GR.made p_154 (by omega)
              have q_154 : GX [142] J_154 J m m_154 := GX.tr q_99 (GR.x g_154)
              have o_154 := (o_99).gx (GR.x (X := []) g_154) rfl
              have c_154 := (c_99).gx (GR.x (X := []) g_154)
              exact tz_iret (pc := 157) (z := z_154) dX2_closedPart_157 rfl (Nat.le_of_ble_eq_true rfl) (Nat.le_of_ble_eq_true rfl) ⟨Nat.le_refl _, Nat.le_add_right _ _⟩ ⟨_, rfl, (by omega), ⟨m_154, q_154, o_154, h_154, c_154, fun q9 => by have w9 := gcE (X := [142]) ⟨rfl, rfl⟩ C hm ht (by omega) ((hC.2.2.2 t ht.1 ht0 (fun v o9 => (hq v o9).1)).2 (Or.inl (by omega))) (Or.inl ⟨by omega, g_68, v_68⟩) (Or.inl ⟨by omega, g_99, v_99⟩) (Or.inr ⟨by omega, rfl, rfl⟩) (by rw [show J 7 t = J_99 7 t from (((q_99).2.2.2.1.1 t ht.1 ht.2).1).symm]; exact p_154) q9; rw [g_154.2.2.1] at w9; exact w9, fun S hG E N => (Decidable.em (k = 0)).elim (fun k0 => exd_0 q_154.2.1 h_154 k0) (fun k0 => exd_c hG E C hm ht (by omega) k0 ((hC.2.2.2 t ht.1 ht0 (fun v o9 => (hq v o9).1)).2 (Or.inl (by omega))) (gpD (X := [142]) ⟨rfl, rfl⟩ (fun S i h => grO_f h) hG E N C hm ha.2.2 (C.2.1 t ht.1 ht.2).1.1.symm (Or.inl ⟨by omega, g_68, h_68, r_68⟩) (Or.inl ⟨by omega, g_99, h_99, r_99⟩) (Or.inr ⟨by omega, rfl, rfl⟩) (fun N9 => N9.gx (GR.x (X := []) g_154)) (by rw [show J 7 t = J_99 7 t from (((q_99).2.2.2.1.1 t ht.1 ht.2).1).symm]; exact p_154)))⟩⟩
          · refine tz_iconst (pc := 79) dX2_closedPart_79 ?_
            refine tz_goto (pc := 80) (tgt := 102) dX2_closedPart_80 (by decide) ?_
            refine tz_istore (pc := 102) (L2 := [_, _, _, _, _, _, _, _, _]) dX2_closedPart_102 (by decide) rfl ?_
            refine tz_iload (pc := 104) dX2_closedPart_104 rfl ?_
            refine tz_iconst (pc := 106) dX2_closedPart_106 ?_
            refine tz_icmp_ge (pc := 107) (tgt := 114) dX2_closedPart_107 (by decide) (by omega) (by decide) (fun h_107 => ?_) (fun h_107 => ?_)
            · refine tz_aload_n (pc := 114) dX2_closedPart_114 rfl rfl ?_
              refine tz_aload_n (pc := 115) dX2_closedPart_115 rfl rfl ?_
              refine tz_fR (pc := 116) dX2_closedPart_116 fl_X2_28 r_141_0 ?_
              refine tz_iload_n (pc := 119) dX2_closedPart_119 rfl rfl ?_
              refine tz_iconst (pc := 120) dX2_closedPart_120 ?_
              refine tz_cV (pc := 121) (c_arg hl n _ _ _ (by omega) (by decide) (by omega)) vl_X2_48 dX2_closedPart_121 o_6 rfl rfl (Nat.le_of_ble_eq_true rfl) ⟨(show 0 + 1 ≤ 4 + 2 * (r9 + 1) by omega), (show 8 + (3 + 11) + 40 * (0) ≤ 40 * (4 + 2 * (r9 + 1)) by omega)⟩ rfl rfl (Nat.le_of_ble_eq_true rfl) (Nat.le_of_ble_eq_true rfl) (fun r9 J_121 hq9 => ?_)
              obtain ⟨z_121, rfl, hz_121, rfl, rfl⟩ := hq9
              refine tz_aload_n (pc := 124) dX2_closedPart_124 rfl rfl ?_
              refine tz_iload_n (pc := 125) dX2_closedPart_125 rfl rfl ?_
              refine tz_iload (pc := 126) dX2_closedPart_126 rfl ?_
              refine tz_iconst (pc := 128) dX2_closedPart_128 ?_
              refine tz_iadd (pc := 129) (v := lv + 1) dX2_closedPart_129 rfl ?_
              have b_130 := (GX.arg q_68 C ht (i := 2) (by omega))
              have k_130 := (C.arg ht.1 ht.2 (i := 2) (by omega) (by omega)).1
              have n_130 := (q_68).1
              refine tz_cV (pc := 130) (ih _ _ _ (by omega) (by omega) m0 (k - 1) ρ O rk P m_68 q (q_68).2.1 (q_68).2.2.1 (by omega) (GX.row q_68 rfl hr) o_68 (by omega) (by omega) (hC.gx C hm0 (q_68) rfl) (fun v o9 => by rw [b_130.2] at o9; rw [(q_68).2.2.2.2 19 rfl]; exact hq v ((hC.1 t ht.1 ht0).2 2 v (by omega) o9)) c_68 (by omega) (by omega)) vl_X2_69 dX2_closedPart_130 o_141 rfl rfl (Nat.le_of_ble_eq_true rfl) ⟨(show (4 + 2 * r9) + 1 ≤ 4 + 2 * (r9 + 1) by omega), (show 8 + (9 + 11) + 40 * ((4 + 2 * r9)) ≤ 40 * (4 + 2 * (r9 + 1)) by omega)⟩ rfl rfl (Nat.le_of_ble_eq_true rfl) (Nat.le_of_ble_eq_true rfl) (fun r9 J_130 hq9 => ?_)
              obtain ⟨z_130, rfl, hz_130, m_130, g_130, o_130, h_130, c_130, v_130, x_130⟩ := hq9
              have q_130 := GX.tr q_68 g_130
              have d_130 := q_130.1
              have e_130 := g_130.1
              have s8_130 : J_68 8 t = J 8 t := ((q_68).2.2.2.1.1 t ht.1 ht.2).2.1
              have r_130 : ∀ S, S 164 21 = 0 → A0 J_68 S → nNC J_68 → EXK nNC (k - 1) ((fun (H : zJ) (i : Int) => grO ρ (k - 1) H (H 167 (3 * (0 + t) + i))) S 2) z_130 J_130 := fun S h9 E9 N9 => by dsimp only; rw [(E9.tm (q_68).2.1 (q_68).2.2.1 (t := t) (by omega)).2.2 2 (by decide) (by omega)]; exact x_130 S h9 E9 N9
              refine tz_istore (pc := 133) (L2 := [_, _, _, _, _, _, _, _, _]) dX2_closedPart_133 (by decide) rfl ?_
              refine tz_aload_n (pc := 135) dX2_closedPart_135 rfl rfl ?_
              refine tz_fR (pc := 136) dX2_closedPart_136 fl_X2_28 r_141_0 ?_
              refine tz_aload_n (pc := 139) dX2_closedPart_139 rfl rfl ?_
              refine tz_fR (pc := 140) dX2_closedPart_140 fl_X2_28 r_141_0 ?_
              refine tz_fR (pc := 143) dX2_closedPart_143 fl_X2_42 r_6_1 ?_
              refine tz_iload_n (pc := 146) dX2_closedPart_146 rfl rfl ?_
              refine tz_aL (pc := 147) (z := t) (v := (J_130 7 t)) dX2_closedPart_147 a_7 rfl (by omega) rfl (fun r_147 => ?_)
              refine tz_iload (pc := 148) dX2_closedPart_148 rfl ?_
              refine tz_iload (pc := 150) dX2_closedPart_150 rfl ?_
              refine tz_iload (pc := 152) dX2_closedPart_152 rfl ?_
              refine tz_cV (pc := 154) (c_made hl n _ _ _ _ _ (by omega) (by omega) (by omega) (by omega) m_130 (q_130).2.1 (q_130).2.2.1 (by have := (q_130).2.1.ar (t := t) (by omega) (by have := (q_130).1; omega); omega) (ltA_of (by omega) (by omega) (by omega))) vl_X2_52 dX2_closedPart_154 o_6 rfl rfl (Nat.le_of_ble_eq_true rfl) ⟨(show 2 + 1 ≤ 4 + 2 * (r9 + 1) by omega), (show 8 + (11 + 11) + 40 * (2) ≤ 40 * (4 + 2 * (r9 + 1)) by omega)⟩ rfl rfl (Nat.le_of_ble_eq_true rfl) (Nat.le_of_ble_eq_true rfl) (fun r9 J_154 hq9 => ?_)
              obtain ⟨z_154, rfl, hz_154, p_154⟩ := hq9
              obtain ⟨m_154, g_154, h_154⟩ := GR.made p_154 (by omega)
              have q_154 : GX [142] J_154 J m m_154 := GX.tr q_130 (GR.x g_154)
              have o_154 := (o_130).gx (GR.x (X := []) g_154) rfl
              have c_154 := (c_130).gx (GR.x (X := []) g_154)
              exact tz_iret (pc := 157) (z := z_154) dX2_closedPart_157 rfl (Nat.le_of_ble_eq_true rfl) (Nat.le_of_ble_eq_true rfl) ⟨Nat.le_refl _, Nat.le_add_right _ _⟩ ⟨_, rfl, (by omega), ⟨m_154, q_154, o_154, h_154, c_154, fun q9 => by have w9 := gcE (X := [142]) ⟨rfl, rfl⟩ C hm ht (by omega) ((hC.2.2.2 t ht.1 ht0 (fun v o9 => (hq v o9).1)).2 (Or.inl (by omega))) (Or.inl ⟨by omega, g_68, v_68⟩) (Or.inr ⟨by omega, rfl, rfl⟩) (Or.inl ⟨by omega, g_130, v_130⟩) (by rw [show J 7 t = J_130 7 t from (((q_130).2.2.2.1.1 t ht.1 ht.2).1).symm]; exact p_154) q9; rw [g_154.2.2.1] at w9; exact w9, fun S hG E N => (Decidable.em (k = 0)).elim (fun k0 => exd_0 q_154.2.1 h_154 k0) (fun k0 => exd_c hG E C hm ht (by omega) k0 ((hC.2.2.2 t ht.1 ht0 (fun v o9 => (hq v o9).1)).2 (Or.inl (by omega))) (gpD (X := [142]) ⟨rfl, rfl⟩ (fun S i h => grO_f h) hG E N C hm ha.2.2 (C.2.1 t ht.1 ht.2).1.1.symm (Or.inl ⟨by omega, g_68, h_68, r_68⟩) (Or.inr ⟨by omega, rfl, rfl⟩) (Or.inl ⟨by omega, g_130, h_130, r_130⟩) (fun N9 => N9.gx (GR.x (X := []) g_154)) (by rw [show J 7 t = J_130 7 t from (((q_130).2.2.2.1.1 t ht.1 ht.2).1).symm]; exact p_154)))⟩⟩
            · refine tz_iconst (pc := 110) dX2_closedPart_110 ?_
              refine tz_goto (pc := 111) (tgt := 133) dX2_closedPart_111 (by decide) ?_
              refine tz_istore (pc := 133) (L2 := [_, _, _, _, _, _, _, _, _]) dX2_closedPart_133 (by decide) rfl ?_
              refine tz_aload_n (pc := 135) dX2_closedPart_135 rfl rfl ?_
              refine tz_fR (pc := 136) dX2_closedPart_136 fl_X2_28 r_141_0 ?_
              refine tz_aload_n (pc := 139) dX2_closedPart_139 rfl rfl ?_
              refine tz_fR (pc := 140) dX2_closedPart_140 fl_X2_28 r_141_0 ?_
              refine tz_fR (pc := 143) dX2_closedPart_143 fl_X2_42 r_6_1 ?_
              refine tz_iload_n (pc := 146) dX2_closedPart_146 rfl rfl ?_
              refine tz_aL (pc := 147) (z := t) (v := (J_68 7 t)) dX2_closedPart_147 a_7 rfl (by omega) rfl (fun r_147 => ?_)
              refine tz_iload (pc := 148) dX2_closedPart_148 rfl ?_
              refine tz_iload (pc := 150) dX2_closedPart_150 rfl ?_
              refine tz_iload (pc := 152) dX2_closedPart_152 rfl ?_
              refine tz_cV (pc := 154) (c_made hl n _ _ _ _ _ (by omega) (by omega) (by omega) (by omega) m_68 (q_68).2.1 (q_68).2.2.1 (by have := (q_68).2.1.ar (t := t) (by omega) (by have := (q_68).1; omega); omega) (ltA_of (by omega) (by omega) (by omega))) vl_X2_52 dX2_closedPart_154 o_6 rfl rfl (Nat.le_of_ble_eq_true rfl) ⟨(show 2 + 1 ≤ 4 + 2 * (r9 + 1) by omega), (show 8 + (11 + 11) + 40 * (2) ≤ 40 * (4 + 2 * (r9 + 1)) by omega)⟩ rfl rfl (Nat.le_of_ble_eq_true rfl) (Nat.le_of_ble_eq_true rfl) (fun r9 J_154 hq9 => ?_)
              obtain ⟨z_154, rfl, hz_154, p_154⟩ := hq9
              obtain ⟨m_154, g_154, h_154⟩ := GR.made p_154 (by omega)
              have q_154 : GX [142] J_154 J m m_154 := GX.tr q_68 (GR.x g_154)
              have o_154 := (o_68).gx (GR.x (X := []) g_154) rfl
              have c_154 := (c_68).gx (GR.x (X := []) g_154)
              exact tz_iret (pc := 157) (z := z_154) dX2_closedPart_157 rfl (Nat.le_of_ble_eq_true rfl) (Nat.le_of_ble_eq_true rfl) ⟨Nat.le_refl _, Nat.le_add_right _ _⟩ ⟨_, rfl, (by omega), ⟨m_154, q_154, o_154, h_154, c_154, fun q9 => by have w9 := gcE (X := [142]) ⟨rfl, rfl⟩ C hm ht (by omega) ((hC.2.2.2 t ht.1 ht0 (fun v o9 => (hq v o9).1)).2 (Or.inl (by omega))) (Or.inl ⟨by omega, g_68, v_68⟩) (Or.inr ⟨by omega, rfl, rfl⟩) (Or.inr ⟨by omega, rfl, rfl⟩) (by rw [show J 7 t = J_68 7 t from (((q_68).2.2.2.1.1 t ht.1 ht.2).1).symm]; exact p_154) q9; rw [g_154.2.2.1] at w9; exact w9, fun S hG E N => (Decidable.em (k = 0)).elim (fun k0 => exd_0 q_154.2.1 h_154 k0) (fun k0 => exd_c hG E C hm ht (by omega) k0 ((hC.2.2.2 t ht.1 ht0 (fun v o9 => (hq v o9).1)).2 (Or.inl (by omega))) (gpD (X := [142]) ⟨rfl, rfl⟩ (fun S i h => grO_f h) hG E N C hm ha.2.2 (C.2.1 t ht.1 ht.2).1.1.symm (Or.inl ⟨by omega, g_68, h_68, r_68⟩) (Or.inr ⟨by omega, rfl, rfl⟩) (Or.inr ⟨by omega, rfl, rfl⟩) (fun N9 => N9.gx (GR.x (X := []) g_154)) (by rw [show J 7 t = J_68 7 t from (((q_68).2.2.2.1.1 t ht.1 ht.2).1).symm]; exact p_154)))⟩⟩
        · refine tz_iconst (pc := 48) dX2_closedPart_48 ?_
          refine tz_goto (pc := 49) (tgt := 71) dX2_closedPart_49 (by decide) ?_
          refine tz_istore (pc := 71) (L2 := [_, _, _, _, _, _, _, _, _]) dX2_closedPart_71 (by decide) rfl ?_
          refine tz_iload (pc := 73) dX2_closedPart_73 rfl ?_
          refine tz_iconst (pc := 75) dX2_closedPart_75 ?_
          refine tz_icmp_ge (pc := 76) (tgt := 83) dX2_closedPart_76 (by decide) (by omega) (by decide) (fun h_76 => ?_) (fun h_76 => ?_)
          · refine tz_aload_n (pc := 83) dX2_closedPart_83 rfl rfl ?_
            refine tz_aload_n (pc := 84) dX2_closedPart_84 rfl rfl ?_
            refine tz_fR (pc := 85) dX2_closedPart_85 fl_X2_28 r_141_0 ?_
            refine tz_iload_n (pc := 88) dX2_closedPart_88 rfl rfl ?_
            refine tz_iconst (pc := 89) dX2_closedPart_89 ?_
            refine tz_cV (pc := 90) (c_arg hl n _ _ _ (by omega) (by decide) (by omega)) vl_X2_48 dX2_closedPart_90 o_6 rfl rfl (Nat.le_of_ble_eq_true rfl) ⟨(show 0 + 1 ≤ 4 + 2 * (r9 + 1) by omega), (show 8 + (3 + 11) + 40 * (0) ≤ 40 * (4 + 2 * (r9 + 1)) by omega)⟩ rfl rfl (Nat.le_of_ble_eq_true rfl) (Nat.le_of_ble_eq_true rfl) (fun r9 J_90 hq9 => ?_)
            obtain ⟨z_90, rfl, hz_90, rfl, rfl⟩ := hq9
            refine tz_aload_n (pc := 93) dX2_closedPart_93 rfl rfl ?_
            refine tz_iload_n (pc := 94) dX2_closedPart_94 rfl rfl ?_
            refine tz_iload (pc := 95) dX2_closedPart_95 rfl ?_
            refine tz_iconst (pc := 97) dX2_closedPart_97 ?_
            refine tz_iadd (pc := 98) (v := lv + 1) dX2_closedPart_98 rfl ?_
            have b_99 := (GX.arg g0 C ht (i := 1) (by omega))
            have k_99 := (C.arg ht.1 ht.2 (i := 1) (by omega) (by omega)).1
            have n_99 := (g0).1
            refine tz_cV (pc := 99) (ih _ _ _ (by omega) (by omega) m0 (k - 1) ρ O rk P m q (g0).2.1 (g0).2.2.1 (by omega) (GX.row g0 rfl hr) hc (by omega) (by omega) hC (fun v o9 => by rw [b_99.2] at o9; rw [(g0).2.2.2.2 19 rfl]; exact hq v ((hC.1 t ht.1 ht0).2 1 v (by omega) o9)) hg (by omega) (by omega)) vl_X2_69 dX2_closedPart_99 o_141 rfl rfl (Nat.le_of_ble_eq_true rfl) ⟨(show (4 + 2 * r9) + 1 ≤ 4 + 2 * (r9 + 1) by omega), (show 8 + (9 + 11) + 40 * ((4 + 2 * r9)) ≤ 40 * (4 + 2 * (r9 + 1)) by omega)⟩ rfl rfl (Nat.le_of_ble_eq_true rfl) (Nat.le_of_ble_eq_true rfl) (fun r9 J_99 hq9 => ?_)
            obtain ⟨z_99, rfl, hz_99, m_99, g_99, o_99, h_99, c_99, v_99, x_99⟩ := hq9
            have q_99 := GX.tr g0 g_99
            have d_99 := q_99.1
            have e_99 := g_99.1
            have s8_99 : J 8 t = J 8 t := ((g0).2.2.2.1.1 t ht.1 ht.2).2.1
            have r_99 : ∀ S, S 164 21 = 0 → A0 J S → nNC J → EXK nNC (k - 1) ((fun (H : zJ) (i : Int) => grO ρ (k - 1) H (H 167 (3 * (0 + t) + i))) S 1) z_99 J_99 := fun S h9 E9 N9 => by dsimp only; rw [(E9.tm (g0).2.1 (g0).2.2.1 (t := t) (by omega)).2.2 1 (by decide) (by omega)]; exact x_99 S h9 E9 N9
            refine tz_istore (pc := 102) (L2 := [_, _, _, _, _, _, _, _, _]) dX2_closedPart_102 (by decide) rfl ?_
            refine tz_iload (pc := 104) dX2_closedPart_104 rfl ?_
            refine tz_iconst (pc := 106) dX2_closedPart_106 ?_
            refine tz_icmp_ge (pc := 107) (tgt := 114) dX2_closedPart_107 (by decide) (by omega) (by decide) (fun h_107 => ?_) (fun h_107 => ?_)
            · refine tz_aload_n (pc := 114) dX2_closedPart_114 rfl rfl ?_
              refine tz_aload_n (pc := 115) dX2_closedPart_115 rfl rfl ?_
              refine tz_fR (pc := 116) dX2_closedPart_116 fl_X2_28 r_141_0 ?_
              refine tz_iload_n (pc := 119) dX2_closedPart_119 rfl rfl ?_
              refine tz_iconst (pc := 120) dX2_closedPart_120 ?_
              refine tz_cV (pc := 121) (c_arg hl n _ _ _ (by omega) (by decide) (by omega)) vl_X2_48 dX2_closedPart_121 o_6 rfl rfl (Nat.le_of_ble_eq_true rfl) ⟨(show 0 + 1 ≤ 4 + 2 * (r9 + 1) by omega), (show 8 + (3 + 11) + 40 * (0) ≤ 40 * (4 + 2 * (r9 + 1)) by omega)⟩ rfl rfl (Nat.le_of_ble_eq_true rfl) (Nat.le_of_ble_eq_true rfl) (fun r9 J_121 hq9 => ?_)
              obtain ⟨z_121, rfl, hz_121, rfl, rfl⟩ := hq9
              refine tz_aload_n (pc := 124) dX2_closedPart_124 rfl rfl ?_
              refine tz_iload_n (pc := 125) dX2_closedPart_125 rfl rfl ?_
              refine tz_iload (pc := 126) dX2_closedPart_126 rfl ?_
              refine tz_iconst (pc := 128) dX2_closedPart_128 ?_
              refine tz_iadd (pc := 129) (v := lv + 1) dX2_closedPart_129 rfl ?_
              have b_130 := (GX.arg q_99 C ht (i := 2) (by omega))
              have k_130 := (C.arg ht.1 ht.2 (i := 2) (by omega) (by omega)).1
              have n_130 := (q_99).1
              refine tz_cV (pc := 130) (ih _ _ _ (by omega) (by omega) m0 (k - 1) ρ O rk P m_99 q (q_99).2.1 (q_99).2.2.1 (by omega) (GX.row q_99 rfl hr) o_99 (by omega) (by omega) (hC.gx C hm0 (q_99) rfl) (fun v o9 => by rw [b_130.2] at o9; rw [(q_99).2.2.2.2 19 rfl]; exact hq v ((hC.1 t ht.1 ht0).2 2 v (by omega) o9)) c_99 (by omega) (by omega)) vl_X2_69 dX2_closedPart_130 o_141 rfl rfl (Nat.le_of_ble_eq_true rfl) ⟨(show (4 + 2 * r9) + 1 ≤ 4 + 2 * (r9 + 1) by omega), (show 8 + (9 + 11) + 40 * ((4 + 2 * r9)) ≤ 40 * (4 + 2 * (r9 + 1)) by omega)⟩ rfl rfl (Nat.le_of_ble_eq_true rfl) (Nat.le_of_ble_eq_true rfl) (fun r9 J_130 hq9 => ?_)
              obtain ⟨z_130, rfl, hz_130, m_130, g_130, o_130, h_130, c_130, v_130, x_130⟩ := hq9
              have q_130 := GX.tr q_99 g_130
              have d_130 := q_130.1
              have e_130 := g_130.1
              have s8_130 : J_99 8 t = J 8 t := ((q_99).2.2.2.1.1 t ht.1 ht.2).2.1
              have r_130 : ∀ S, S 164 21 = 0 → A0 J_99 S → nNC J_99 → EXK nNC (k - 1) ((fun (H : zJ) (i : Int) => grO ρ (k - 1) H (H 167 (3 * (0 + t) + i))) S 2) z_130 J_130 := fun S h9 E9 N9 => by dsimp only; rw [(E9.tm (q_99).2.1 (q_99).2.2.1 (t := t) (by omega)).2.2 2 (by decide) (by omega)]; exact x_130 S h9 E9 N9
              refine tz_istore (pc := 133) (L2 := [_, _, _, _, _, _, _, _, _]) dX2_closedPart_133 (by decide) rfl ?_
              refine tz_aload_n (pc := 135) dX2_closedPart_135 rfl rfl ?_
              refine tz_fR (pc := 136) dX2_closedPart_136 fl_X2_28 r_141_0 ?_
              refine tz_aload_n (pc := 139) dX2_closedPart_139 rfl rfl ?_
              refine tz_fR (pc := 140) dX2_closedPart_140 fl_X2_28 r_141_0 ?_
              refine tz_fR (pc := 143) dX2_closedPart_143 fl_X2_42 r_6_1 ?_
              refine tz_iload_n (pc := 146) dX2_closedPart_146 rfl rfl ?_
              refine tz_aL (pc := 147) (z := t) (v := (J_130 7 t)) dX2_closedPart_147 a_7 rfl (by omega) rfl (fun r_147 => ?_)
              refine tz_iload (pc := 148) dX2_closedPart_148 rfl ?_
              refine tz_iload (pc := 150) dX2_closedPart_150 rfl ?_
              refine tz_iload (pc := 152) dX2_closedPart_152 rfl ?_
              refine tz_cV (pc := 154) (c_made hl n _ _ _ _ _ (by omega) (by omega) (by omega) (by omega) m_130 (q_130).2.1 (q_130).2.2.1 (by have := (q_130).2.1.ar (t := t) (by omega) (by have := (q_130).1; omega); omega) (ltA_of (by omega) (by omega) (by omega))) vl_X2_52 dX2_closedPart_154 o_6 rfl rfl (Nat.le_of_ble_eq_true rfl) ⟨(show 2 + 1 ≤ 4 + 2 * (r9 + 1) by omega), (show 8 + (11 + 11) + 40 * (2) ≤ 40 * (4 + 2 * (r9 + 1)) by omega)⟩ rfl rfl (Nat.le_of_ble_eq_true rfl) (Nat.le_of_ble_eq_true rfl) (fun r9 J_154 hq9 => ?_)
              obtain ⟨z_154, rfl, hz_154, p_154⟩ := hq9
              obtain ⟨m_154, g_154, h_154⟩ := GR.made p_154 (by omega)
              have q_154 : GX [142] J_154 J m m_154 := GX.tr q_130 (GR.x g_154)
              have o_154 := (o_130).gx (GR.x (X := []) g_154) rfl
              have c_154 := (c_130).gx (GR.x (X := []) g_154)
              exact tz_iret (pc := 157) (z := z_154) dX2_closedPart_157 rfl (Nat.le_of_ble_eq_true rfl) (Nat.le_of_ble_eq_true rfl) ⟨Nat.le_refl _, Nat.le_add_right _ _⟩ ⟨_, rfl, (by omega), ⟨m_154, q_154, o_154, h_154, c_154, fun q9 => by have w9 := gcE (X := [142]) ⟨rfl, rfl⟩ C hm ht (by omega) ((hC.2.2.2 t ht.1 ht0 (fun v o9 => (hq v o9).1)).2 (Or.inl (by omega))) (Or.inr ⟨by omega, rfl, rfl⟩) (Or.inl ⟨by omega, g_99, v_99⟩) (Or.inl ⟨by omega, g_130, v_130⟩) (by rw [show J 7 t = J_130 7 t from (((q_130).2.2.2.1.1 t ht.1 ht.2).1).symm]; exact p_154) q9; rw [g_154.2.2.1] at w9; exact w9, fun S hG E N => (Decidable.em (k = 0)).elim (fun k0 => exd_0 q_154.2.1 h_154 k0) (fun k0 => exd_c hG E C hm ht (by omega) k0 ((hC.2.2.2 t ht.1 ht0 (fun v o9 => (hq v o9).1)).2 (Or.inl (by omega))) (gpD (X := [142]) ⟨rfl, rfl⟩ (fun S i h => grO_f h) hG E N C hm ha.2.2 (C.2.1 t ht.1 ht.2).1.1.symm (Or.inr ⟨by omega, rfl, rfl⟩) (Or.inl ⟨by omega, g_99, h_99, r_99⟩) (Or.inl ⟨by omega, g_130, h_130, r_130⟩) (fun N9 => N9.gx (GR.x (X := []) g_154)) (by rw [show J 7 t = J_130 7 t from (((q_130).2.2.2.1.1 t ht.1 ht.2).1).symm]; exact p_154)))⟩⟩
            · refine tz_iconst (pc := 110) dX2_closedPart_110 ?_
              refine tz_goto (pc := 111) (tgt := 133) dX2_closedPart_111 (by decide) ?_
              refine tz_istore (pc := 133) (L2 := [_, _, _, _, _, _, _, _, _]) dX2_closedPart_133 (by decide) rfl ?_
              refine tz_aload_n (pc := 135) dX2_closedPart_135 rfl rfl ?_
              refine tz_fR (pc := 136) dX2_closedPart_136 fl_X2_28 r_141_0 ?_
              refine tz_aload_n (pc := 139) dX2_closedPart_139 rfl rfl ?_
              refine tz_fR (pc := 140) dX2_closedPart_140 fl_X2_28 r_141_0 ?_
              refine tz_fR (pc := 143) dX2_closedPart_143 fl_X2_42 r_6_1 ?_
              refine tz_iload_n (pc := 146) dX2_closedPart_146 rfl rfl ?_
              refine tz_aL (pc := 147) (z := t) (v := (J_99 7 t)) dX2_closedPart_147 a_7 rfl (by omega) rfl (fun r_147 => ?_)
              refine tz_iload (pc := 148) dX2_closedPart_148 rfl ?_
              refine tz_iload (pc := 150) dX2_closedPart_150 rfl ?_
              refine tz_iload (pc := 152) dX2_closedPart_152 rfl ?_
              refine tz_cV (pc := 154) (c_made hl n _ _ _ _ _ (by omega) (by omega) (by omega) (by omega) m_99 (q_99).2.1 (q_99).2.2.1 (by have := (q_99).2.1.ar (t := t) (by omega) (by have := (q_99).1; omega); omega) (ltA_of (by omega) (by omega) (by omega))) vl_X2_52 dX2_closedPart_154 o_6 rfl rfl (Nat.le_of_ble_eq_true rfl) ⟨(show 2 + 1 ≤ 4 + 2 * (r9 + 1) by omega), (show 8 + (11 + 11) + 40 * (2) ≤ 40 * (4 + 2 * (r9 + 1)) by omega)⟩ rfl rfl (Nat.le_of_ble_eq_true rfl) (Nat.le_of_ble_eq_true rfl) (fun r9 J_154 hq9 => ?_)
              obtain ⟨z_154, rfl, hz_154, p_154⟩ := hq9
              obtain ⟨m_154, g_154, h_154⟩ := GR.made p_154 (by omega)
              have q_154 : GX [142] J_154 J m m_154 := GX.tr q_99 (GR.x g_154)
              have o_154 := (o_99).gx (GR.x (X := []) g_154) rfl
              have c_154 := (c_99).gx (GR.x (X := []) g_154)
              exact tz_iret (pc := 157) (z := z_154) dX2_closedPart_157 rfl (Nat.le_of_ble_eq_true rfl) (Nat.le_of_ble_eq_true rfl) ⟨Nat.le_refl _, Nat.le_add_right _ _⟩ ⟨_, rfl, (by omega), ⟨m_154, q_154, o_154, h_154, c_154, fun q9 => by have w9 := gcE (X := [142]) ⟨rfl, rfl⟩ C hm ht (by omega) ((hC.2.2.2 t ht.1 ht0 (fun v o9 => (hq v o9).1)).2 (Or.inl (by omega))) (Or.inr ⟨by omega, rfl, rfl⟩) (Or.inl ⟨by omega, g_99, v_99⟩) (Or.inr ⟨by omega, rfl, rfl⟩) (by rw [show J 7 t = J_99 7 t from (((q_99).2.2.2.1.1 t ht.1 ht.2).1).symm]; exact p_154) q9; rw [g_154.2.2.1] at w9; exact w9, fun S hG E N => (Decidable.em (k = 0)).elim (fun k0 => exd_0 q_154.2.1 h_154 k0) (fun k0 => exd_c hG E C hm ht (by omega) k0 ((hC.2.2.2 t ht.1 ht0 (fun v o9 => (hq v o9).1)).2 (Or.inl (by omega))) (gpD (X := [142]) ⟨rfl, rfl⟩ (fun S i h => grO_f h) hG E N C hm ha.2.2 (C.2.1 t ht.1 ht.2).1.1.symm (Or.inr ⟨by omega, rfl, rfl⟩) (Or.inl ⟨by omega, g_99, h_99, r_99⟩) (Or.inr ⟨by omega, rfl, rfl⟩) (fun N9 => N9.gx (GR.x (X := []) g_154)) (by rw [show J 7 t = J_99 7 t from (((q_99).2.2.2.1.1 t ht.1 ht.2).1).symm]; exact p_154)))⟩⟩
          · refine tz_iconst (pc := 79) dX2_closedPart_79 ?_
            refine tz_goto (pc := 80) (tgt := 102) dX2_closedPart_80 (by decide) ?_
            refine tz_istore (pc := 102) (L2 := [_, _, _, _, _, _, _, _, _]) dX2_closedPart_102 (by decide) rfl ?_
            refine tz_iload (pc := 104) dX2_closedPart_104 rfl ?_
            refine tz_iconst (pc := 106) dX2_closedPart_106 ?_
            refine tz_icmp_ge (pc := 107) (tgt := 114) dX2_closedPart_107 (by decide) (by omega) (by decide) (fun h_107 => ?_) (fun h_107 => ?_)
            · refine tz_aload_n (pc := 114) dX2_closedPart_114 rfl rfl ?_
              refine tz_aload_n (pc := 115) dX2_closedPart_115 rfl rfl ?_
              refine tz_fR (pc := 116) dX2_closedPart_116 fl_X2_28 r_141_0 ?_
              refine tz_iload_n (pc := 119) dX2_closedPart_119 rfl rfl ?_
              refine tz_iconst (pc := 120) dX2_closedPart_120 ?_
              refine tz_cV (pc := 121) (c_arg hl n _ _ _ (by omega) (by decide) (by omega)) vl_X2_48 dX2_closedPart_121 o_6 rfl rfl (Nat.le_of_ble_eq_true rfl) ⟨(show 0 + 1 ≤ 4 + 2 * (r9 + 1) by omega), (show 8 + (3 + 11) + 40 * (0) ≤ 40 * (4 + 2 * (r9 + 1)) by omega)⟩ rfl rfl (Nat.le_of_ble_eq_true rfl) (Nat.le_of_ble_eq_true rfl) (fun r9 J_121 hq9 => ?_)
              obtain ⟨z_121, rfl, hz_121, rfl, rfl⟩ := hq9
              refine tz_aload_n (pc := 124) dX2_closedPart_124 rfl rfl ?_
              refine tz_iload_n (pc := 125) dX2_closedPart_125 rfl rfl ?_
              refine tz_iload (pc := 126) dX2_closedPart_126 rfl ?_
              refine tz_iconst (pc := 128) dX2_closedPart_128 ?_
              refine tz_iadd (pc := 129) (v := lv + 1) dX2_closedPart_129 rfl ?_
              have b_130 := (GX.arg g0 C ht (i := 2) (by omega))
              have k_130 := (C.arg ht.1 ht.2 (i := 2) (by omega) (by omega)).1
              have n_130 := (g0).1
              refine tz_cV (pc := 130) (ih _ _ _ (by omega) (by omega) m0 (k - 1) ρ O rk P m q (g0).2.1 (g0).2.2.1 (by omega) (GX.row g0 rfl hr) hc (by omega) (by omega) hC (fun v o9 => by rw [b_130.2] at o9; rw [(g0).2.2.2.2 19 rfl]; exact hq v ((hC.1 t ht.1 ht0).2 2 v (by omega) o9)) hg (by omega) (by omega)) vl_X2_69 dX2_closedPart_130 o_141 rfl rfl (Nat.le_of_ble_eq_true rfl) ⟨(show (4 + 2 * r9) + 1 ≤ 4 + 2 * (r9 + 1) by omega), (show 8 + (9 + 11) + 40 * ((4 + 2 * r9)) ≤ 40 * (4 + 2 * (r9 + 1)) by omega)⟩ rfl rfl (Nat.le_of_ble_eq_true rfl) (Nat.le_of_ble_eq_true rfl) (fun r9 J_130 hq9 => ?_)
              obtain ⟨z_130, rfl, hz_130, m_130, g_130, o_130, h_130, c_130, v_130, x_130⟩ := hq9
              have q_130 := GX.tr g0 g_130
              have d_130 := q_130.1
              have e_130 := g_130.1
              have s8_130 : J 8 t = J 8 t := ((g0).2.2.2.1.1 t ht.1 ht.2).2.1
              have r_130 : ∀ S, S 164 21 = 0 → A0 J S → nNC J → EXK nNC (k - 1) ((fun (H : zJ) (i : Int) => grO ρ (k - 1) H (H 167 (3 * (0 + t) + i))) S 2) z_130 J_130 := fun S h9 E9 N9 => by dsimp only; rw [(E9.tm (g0).2.1 (g0).2.2.1 (t := t) (by omega)).2.2 2 (by decide) (by omega)]; exact x_130 S h9 E9 N9
              refine tz_istore (pc := 133) (L2 := [_, _, _, _, _, _, _, _, _]) dX2_closedPart_133 (by decide) rfl ?_
              refine tz_aload_n (pc := 135) dX2_closedPart_135 rfl rfl ?_
              refine tz_fR (pc := 136) dX2_closedPart_136 fl_X2_28 r_141_0 ?_
              refine tz_aload_n (pc := 139) dX2_closedPart_139 rfl rfl ?_
              refine tz_fR (pc := 140) dX2_closedPart_140 fl_X2_28 r_141_0 ?_
              refine tz_fR (pc := 143) dX2_closedPart_143 fl_X2_42 r_6_1 ?_
              refine tz_iload_n (pc := 146) dX2_closedPart_146 rfl rfl ?_
              refine tz_aL (pc := 147) (z := t) (v := (J_130 7 t)) dX2_closedPart_147 a_7 rfl (by omega) rfl (fun r_147 => ?_)
              refine tz_iload (pc := 148) dX2_closedPart_148 rfl ?_
              refine tz_iload (pc := 150) dX2_closedPart_150 rfl ?_
              refine tz_iload (pc := 152) dX2_closedPart_152 rfl ?_
              refine tz_cV (pc := 154) (c_made hl n _ _ _ _ _ (by omega) (by omega) (by omega) (by omega) m_130 (q_130).2.1 (q_130).2.2.1 (by have := (q_130).2.1.ar (t := t) (by omega) (by have := (q_130).1; omega); omega) (ltA_of (by omega) (by omega) (by omega))) vl_X2_52 dX2_closedPart_154 o_6 rfl rfl (Nat.le_of_ble_eq_true rfl) ⟨(show 2 + 1 ≤ 4 + 2 * (r9 + 1) by omega), (show 8 + (11 + 11) + 40 * (2) ≤ 40 * (4 + 2 * (r9 + 1)) by omega)⟩ rfl rfl (Nat.le_of_ble_eq_true rfl) (Nat.le_of_ble_eq_true rfl) (fun r9 J_154 hq9 => ?_)
              obtain ⟨z_154, rfl, hz_154, p_154⟩ := hq9
              obtain ⟨m_154, g_154, h_154⟩ := GR.made p_154 (by omega)
              have q_154 : GX [142] J_154 J m m_154 := GX.tr q_130 (GR.x g_154)
              have o_154 := (o_130).gx (GR.x (X := []) g_154) rfl
              have c_154 := (c_130).gx (GR.x (X := []) g_154)
              exact tz_iret (pc := 157) (z := z_154) dX2_closedPart_157 rfl (Nat.le_of_ble_eq_true rfl) (Nat.le_of_ble_eq_true rfl) ⟨Nat.le_refl _, Nat.le_add_right _ _⟩ ⟨_, rfl, (by omega), ⟨m_154, q_154, o_154, h_154, c_154, fun q9 => by have w9 := gcE (X := [142]) ⟨rfl, rfl⟩ C hm ht (by omega) ((hC.2.2.2 t ht.1 ht0 (fun v o9 => (hq v o9).1)).2 (Or.inl (by omega))) (Or.inr ⟨by omega, rfl, rfl⟩) (Or.inr ⟨by omega, rfl, rfl⟩) (Or.inl ⟨by omega, g_130, v_130⟩) (by rw [show J 7 t = J_130 7 t from (((q_130).2.2.2.1.1 t ht.1 ht.2).1).symm]; exact p_154) q9; rw [g_154.2.2.1] at w9; exact w9, fun S hG E N => (Decidable.em (k = 0)).elim (fun k0 => exd_0 q_154.2.1 h_154 k0) (fun k0 => exd_c hG E C hm ht (by omega) k0 ((hC.2.2.2 t ht.1 ht0 (fun v o9 => (hq v o9).1)).2 (Or.inl (by omega))) (gpD (X := [142]) ⟨rfl, rfl⟩ (fun S i h => grO_f h) hG E N C hm ha.2.2 (C.2.1 t ht.1 ht.2).1.1.symm (Or.inr ⟨by omega, rfl, rfl⟩) (Or.inr ⟨by omega, rfl, rfl⟩) (Or.inl ⟨by omega, g_130, h_130, r_130⟩) (fun N9 => N9.gx (GR.x (X := []) g_154)) (by rw [show J 7 t = J_130 7 t from (((q_130).2.2.2.1.1 t ht.1 ht.2).1).symm]; exact p_154)))⟩⟩
            · refine tz_iconst (pc := 110) dX2_closedPart_110 ?_
              refine tz_goto (pc := 111) (tgt := 133) dX2_closedPart_111 (by decide) ?_
              refine tz_istore (pc := 133) (L2 := [_, _, _, _, _, _, _, _, _]) dX2_closedPart_133 (by decide) rfl ?_
              refine tz_aload_n (pc := 135) dX2_closedPart_135 rfl rfl ?_
              refine tz_fR (pc := 136) dX2_closedPart_136 fl_X2_28 r_141_0 ?_
              refine tz_aload_n (pc := 139) dX2_closedPart_139 rfl rfl ?_
              refine tz_fR (pc := 140) dX2_closedPart_140 fl_X2_28 r_141_0 ?_
              refine tz_fR (pc := 143) dX2_closedPart_143 fl_X2_42 r_6_1 ?_
              refine tz_iload_n (pc := 146) dX2_closedPart_146 rfl rfl ?_
              refine tz_aL (pc := 147) (z := t) (v := (J 7 t)) dX2_closedPart_147 a_7 rfl (by omega) rfl (fun r_147 => ?_)
              refine tz_iload (pc := 148) dX2_closedPart_148 rfl ?_
              refine tz_iload (pc := 150) dX2_closedPart_150 rfl ?_
              refine tz_iload (pc := 152) dX2_closedPart_152 rfl ?_
              refine tz_cV (pc := 154) (c_made hl n _ _ _ _ _ (by omega) (by omega) (by omega) (by omega) m (g0).2.1 (g0).2.2.1 (by have := (g0).2.1.ar (t := t) (by omega) (by have := (g0).1; omega); omega) (ltA_of (by omega) (by omega) (by omega))) vl_X2_52 dX2_closedPart_154 o_6 rfl rfl (Nat.le_of_ble_eq_true rfl) ⟨(show 2 + 1 ≤ 4 + 2 * (r9 + 1) by omega), (show 8 + (11 + 11) + 40 * (2) ≤ 40 * (4 + 2 * (r9 + 1)) by omega)⟩ rfl rfl (Nat.le_of_ble_eq_true rfl) (Nat.le_of_ble_eq_true rfl) (fun r9 J_154 hq9 => ?_)
              obtain ⟨z_154, rfl, hz_154, p_154⟩ := hq9
              obtain ⟨m_154, g_154, h_154⟩ := GR.made p_154 (by omega)
              have q_154 : GX [142] J_154 J m m_154 := GX.tr g0 (GR.x g_154)
              have o_154 := (hc).gx (GR.x (X := []) g_154) rfl
              have c_154 := (hg).gx (GR.x (X := []) g_154)
              exact tz_iret (pc := 157) (z := z_154) dX2_closedPart_157 rfl (Nat.le_of_ble_eq_true rfl) (Nat.le_of_ble_eq_true rfl) ⟨Nat.le_refl _, Nat.le_add_right _ _⟩ ⟨_, rfl, (by omega), ⟨m_154, q_154, o_154, h_154, c_154, fun q9 => by have w9 := gcE (X := [142]) ⟨rfl, rfl⟩ C hm ht (by omega) ((hC.2.2.2 t ht.1 ht0 (fun v o9 => (hq v o9).1)).2 (Or.inl (by omega))) (Or.inr ⟨by omega, rfl, rfl⟩) (Or.inr ⟨by omega, rfl, rfl⟩) (Or.inr ⟨by omega, rfl, rfl⟩) (by rw [show J 7 t = J 7 t from (((g0).2.2.2.1.1 t ht.1 ht.2).1).symm]; exact p_154) q9; rw [g_154.2.2.1] at w9; exact w9, fun S hG E N => (Decidable.em (k = 0)).elim (fun k0 => exd_0 q_154.2.1 h_154 k0) (fun k0 => exd_c hG E C hm ht (by omega) k0 ((hC.2.2.2 t ht.1 ht0 (fun v o9 => (hq v o9).1)).2 (Or.inl (by omega))) (gpD (X := [142]) ⟨rfl, rfl⟩ (fun S i h => grO_f h) hG E N C hm ha.2.2 (C.2.1 t ht.1 ht.2).1.1.symm (Or.inr ⟨by omega, rfl, rfl⟩) (Or.inr ⟨by omega, rfl, rfl⟩) (Or.inr ⟨by omega, rfl, rfl⟩) (fun N9 => N9.gx (GR.x (X := []) g_154)) (by rw [show J 7 t = J 7 t from (((g0).2.2.2.1.1 t ht.1 ht.2).1).symm]; exact p_154)))⟩⟩
    · refine tz_bipush (pc := 7) dX2_closedPart_7 (by decide) ?_
      exact tz_iret (pc := 9) (z := (-3)) dX2_closedPart_9 rfl (Nat.le_of_ble_eq_true rfl) (Nat.le_of_ble_eq_true rfl) ⟨Nat.le_refl _, Nat.le_add_right _ _⟩ ⟨_, rfl, (by decide), ⟨m, GX.rf C hm, hc, Or.inl rfl, hg, fun q9 => absurd q9 (by decide), fun S _ _ _ => exd_0 C (Or.inl rfl) (by omega)⟩⟩

set_option maxHeartbeats 4000000 in
set_option maxRecDepth 100000 in
theorem x_closed {l : Launch} {G : tb_G} (hl : l.stackTraces = false) (n : Nat) (J : zJ) (t : Int) (hr_t : -2147483648 ≤ t ∧ t < 2147483648) (m : Int) (S : zJ) (C : CT J m) (hm : J 6 12 = m) (ht : 0 ≤ t ∧ t < m) (hr : rOK J 19 7 m) (hG : S 164 21 = 0) (E : A0 J S) (hβ : ∀ v, 0 ≤ v → v < 8 → bO S v = J 19 (7 + v)) (hN : NRb S (bO S) t) : tz_Ok l G M_X2_closed 35 0 0 [.ref 141, zi t, .ref 19, zi 7] n J (zqi (fun z J' => ∃ m', GX [142] J' J m m' ∧ (z = -3 ∨ (0 ≤ z ∧ z < m')) ∧ EXO (cloF S t) z J')) zN := by
  refine tz_Ok.of hl (by decide +kernel) rfl (tb_c1 rfl) (Nat.le_of_ble_eq_true rfl) ?_
  show tz_At l G M_X2_closed (tb_rm 35 0 0) none (tb_ZM G 0 0 (zQ n 0 (zqi (fun z J' => ∃ m', GX [142] J' J m m' ∧ (z = -3 ∨ (0 ≤ z ∧ z < m')) ∧ EXO (cloF S t) z J'))) (zX n 0 zN)) 0 0 n J 0 [some (.ref 141), some (zi t), some (.ref 19), some (zi 7)] []
  obtain ⟨rk, P, n1, n2, n3⟩ := hN.n (fun v u hv b o9 => o9.elim (fun k o9 => E.org C hm k _ u (by have := hβ v hv.1 hv.2; have := hr v hv.1 hv.2; omega) o9))
  have hcr := crc_mk E C hm hr hβ n1 n3
  have g9 : GX [142] (zfl J 142 8 (-1)) J m m := (GX.rf C hm).off rfl (zOf.fl rfl zOf.rf)
  have hq9 : ∀ v, Occ S 0 0 t v → P v ∧ (¬ J 19 (7 + v) = -1 → rk v < 8) := fun v o9 => ⟨n2 v o9, fun b => by have hv : 0 ≤ v ∧ v < 8 := o9.elim (fun k o9 => E.org C hm k t v ht o9); have e := hβ v hv.1 hv.2; exact n1 v hv (n2 v o9) (by rw [e]; exact b)⟩
  refine tz_aload_n (pc := 0) dX2_closed_0 rfl rfl ?_
  refine tz_fR (pc := 1) dX2_closed_1 fl_X2_9 r_141_1 ?_
  refine tz_iconst (pc := 4) dX2_closed_4 ?_
  refine tz_cS (pc := 5) (zJ_fill hl n _ 142 _ 8 (-1) (by decide) a_142 rfl) sl_X2_63 dX2_closed_5 rfl rfl (Nat.le_of_ble_eq_true rfl) ⟨(Nat.le_of_ble_eq_true rfl), (Nat.le_of_ble_eq_true rfl)⟩ rfl rfl (Nat.le_of_ble_eq_true rfl) (Nat.le_of_ble_eq_true rfl) (fun r9 J_5 hq9 => ?_)
  obtain ⟨rfl, rfl⟩ := hq9
  refine tz_aload_n (pc := 8) dX2_closed_8 rfl rfl ?_
  refine tz_iload_n (pc := 9) dX2_closed_9 rfl rfl ?_
  refine tz_aload_n (pc := 10) dX2_closed_10 rfl rfl ?_
  refine tz_iload_n (pc := 11) dX2_closed_11 rfl rfl ?_
  refine tz_iconst (pc := 12) dX2_closed_12 ?_
  refine tz_cV (pc := 13) (x_closedP hl n 15 _ _ _ (by omega) (by omega) m 6 (rho (bO S) (fun t => S 166 (0 + t)) 8) (Occ S 0 0) rk P m 8 (C.of (fun c hc => zfl_nc (by omega))) hm ht hr (fun v a b => Or.inl (zfl_in b)) (Int.le_refl _) ht.2 (hcr.gx C (Int.le_refl _) g9 rfl) hq9 (fun v a b c9 => absurd (show zfl J 142 8 (-1) 142 v = -1 from zfl_in b) (by omega)) (Or.inr (by decide)) (by decide)) vl_X2_69 dX2_closed_13 o_141 rfl rfl (Nat.le_of_ble_eq_true rfl) ⟨(Nat.le_of_ble_eq_true rfl), (Nat.le_of_ble_eq_true rfl)⟩ rfl rfl (Nat.le_of_ble_eq_true rfl) (Nat.le_of_ble_eq_true rfl) (fun r9 J_13 hq9 => ?_)
  obtain ⟨z_13, rfl, hz_13, m1, g1, -, h1, -, v1, x1⟩ := hq9
  exact tz_iret (pc := 16) (z := z_13) dX2_closed_16 rfl (Nat.le_of_ble_eq_true rfl) (Nat.le_of_ble_eq_true rfl) ⟨Nat.le_refl _, Nat.le_add_right _ _⟩ ⟨_, rfl, (by omega), ⟨m1, g9.tr g1, h1, by
      have x9 := x1 S hG (E.f (fun c hc => zfl_nc (by omega))) (fun v a b => by rw [show zfl J 142 8 (-1) 142 v = -1 from zfl_in b]; decide)
      rcases x9 with q | ⟨q1, q2, q3⟩ | ⟨q1, q2, q3, q4, q5⟩
      · exact Or.inl q
      · have := (g1.2.1.nums q1 (by omega)).2.2
        omega
      · exact Or.inr ⟨q1, q2, q3, q4⟩⟩⟩

end
section
/-! ===== closedOf of the reference, exact ===== -/
theorem gm_st {T : zJ → Int → zJ × Int} {G G1 : zJ} {A i z : Int} (a : (i < A ∧ (G1, z) = T G i) ∨ (¬ i < A ∧ G1 = G ∧ z = 0)) : gA T G A i = (G1, z) := by
  unfold gA
  rcases a with ⟨p, q⟩ | ⟨p, q, r⟩
  · rw [if_pos p, q]
  · rw [if_neg p, q, r]
/-- the reference's arguments, one after the other -/
theorem gm_end {T : zJ → Int → zJ × Int} {G G0 G1 G2 G' : zJ} {h A z0 z1 z2 z : Int} (hA : oar G h = A) (a0 : (0 < A ∧ (G0, z0) = T G 0) ∨ (¬ 0 < A ∧ G0 = G ∧ z0 = 0)) (a1 : (1 < A ∧ (G1, z1) = T G0 1) ∨ (¬ 1 < A ∧ G1 = G0 ∧ z1 = 0)) (a2 : (2 < A ∧ (G2, z2) = T G1 2) ∨ (¬ 2 < A ∧ G2 = G1 ∧ z2 = 0)) (p : (G', z) = tmO G2 h z0 z1 z2) : (G', z) = gR T G h := by
  have s1 : gst T G A 1 = (G0, z0) := gm_st a0
  have s2 : gst T G A 2 = (G1, z1) := by rw [gst_s, s1]; exact gm_st a1
  have s3 : gst T G A 3 = (G2, z2) := by rw [gst_s, s2]; exact gm_st a2
  unfold gR
  rw [hA, s1, s2, s3]
  exact p
theorem tb0_2z {J J1 : zJ} {z : Int} (e : zup J 164 21 z = J1) (h : J 164 21 = z) : tb0 J1 = tb0 J := by
  subst e
  exact tb0_of rfl (by rw [zup_at]; exact h.symm) (fun _ _ _ => rfl) (fun _ _ _ => ⟨rfl, rfl⟩) (fun _ _ _ => rfl) (fun _ _ _ => ⟨rfl, rfl, rfl⟩)
theorem tb0_2o {J J1 : zJ} (e : zup J 164 21 1 = J1) : tb0 J1 = zup (tb0 J) 164 21 1 := by rw [← e]; exact tb0_fu
/-- what the closing of the reference goes by -/
def CRm (O : Int → Int → Prop) (rk : Int → Nat) (P : Int → Prop) (ρ : Int → Int) (J : zJ) (m0 : Int) : Prop := CR O rk P J 0 0 m0 ∧ ∀ t, 0 ≤ t → t < m0 → (∀ v, O t v → P v) → (J 166 (0 + t) < 0 → ¬ J 175 (-1 - J 166 (0 + t)) = -1 → ρ t = ρ (J 175 (-1 - J 166 (0 + t)))) ∧ ((0 ≤ J 166 (0 + t) ∨ J 175 (-1 - J 166 (0 + t)) = -1) → ρ t = t)
theorem CRm.mg {O : Int → Int → Prop} {rk : Int → Nat} {P : Int → Prop} {ρ : Int → Int} {J' J : zJ} {s m m' m0 : Int} (h : CRm O rk P ρ J m0) (hm : m0 ≤ m) (g : MG [] [] (fun _ => false) J' J 0 0 0 s m m') : CRm O rk P ρ J' m0 := ⟨h.1.mg hm g, fun t a b => by
  rw [(g.2.1 t a (by omega)).1.1, g.2.2.1.2.2.2 175 rfl]
  exact h.2 t a b⟩
theorem gr_f {ρ : Int → Int} {J : zJ} {k : Nat} {t : Int} (h : ¬ J 164 21 = 0) : (tb0 J, 0) = grO ρ k (tb0 J) t := (grO_F (show ¬ tb0 J 164 21 = 0 from h)).symm
theorem gr_u {ρ : Int → Int} {J J1 : zJ} {k : Nat} {t : Int} (h : J 164 21 = 0) (e : zup J 164 21 1 = J1) (hk : k = 0) : (tb0 J1, 0) = grO ρ k (tb0 J) t := by
  subst hk
  rw [grO_0 (show tb0 J 164 21 = 0 from h), tb0_2o e]
theorem gr_v {ρ : Int → Int} {J J1 : zJ} {s m t : Int} {k : Nat} (hM : MS J 0 0 0 s m) (ht : 0 ≤ t ∧ t < m) (h : J 164 21 = 0) (e : zup J 164 21 0 = J1) (hk : ¬ k = 0) (hv : J 166 (0 + t) < 0) (er : ρ t = t) : (tb0 J1, t) = grO ρ k (tb0 J) t := by
  obtain ⟨k, rfl⟩ : ∃ k', k = k' + 1 := ⟨k - 1, by omega⟩
  rw [grO_s, if_pos (show tb0 J 164 21 = 0 from h), er, (hM.oa ht).1, if_pos hv, tb0_2z e h]
theorem gr_c {ρ : Int → Int} {J Jd J0 J1 J2 J' : zJ} {s m t z0 z1 z2 z : Int} {k : Nat} (hM : MS J 0 0 0 s m) (ht : 0 ≤ t ∧ t < m) (h : J 164 21 = 0) (e : zup J 164 21 0 = Jd) (hk : ¬ k = 0) (hv : ¬ J 166 (0 + t) < 0) (er : ρ t = t) (a0 : (0 < mar J 0 0 t ∧ (tb0 J0, z0) = grO ρ (k - 1) (tb0 Jd) (Jd 167 (3 * (0 + t) + 0))) ∨ (¬ 0 < mar J 0 0 t ∧ J0 = Jd ∧ z0 = 0)) (a1 : (1 < mar J 0 0 t ∧ (tb0 J1, z1) = grO ρ (k - 1) (tb0 J0) (J0 167 (3 * (0 + t) + 1))) ∨ (¬ 1 < mar J 0 0 t ∧ J1 = J0 ∧ z1 = 0)) (a2 : (2 < mar J 0 0 t ∧ (tb0 J2, z2) = grO ρ (k - 1) (tb0 J1) (J1 167 (3 * (0 + t) + 2))) ∨ (¬ 2 < mar J 0 0 t ∧ J2 = J1 ∧ z2 = 0)) (p : (tb0 J', z) = tmO (tb0 J2) (J 166 (0 + t)) z0 z1 z2) : (tb0 J', z) = grO ρ k (tb0 J) t := by
  have hT := hM.told
  have ed := tb0_2z e h
  obtain ⟨k, rfl⟩ : ∃ k', k = k' + 1 := ⟨k - 1, by omega⟩
  rw [show k + 1 - 1 = k from rfl] at a0 a1 a2
  rw [grO_s, if_pos (show tb0 J 164 21 = 0 from h), er, (hM.oa ht).1, if_neg hv]
  have w : ∀ (Q : zJ) (i : Int), 0 ≤ i → i < 3 → tb0 Q 167 (3 * (0 + t) + i) = Q 167 (3 * (0 + t) + i) := fun Q i a b => by rw [tb0_7, if_pos (by omega)]
  refine gm_end (A := mar J 0 0 t) (G0 := tb0 J0) (G1 := tb0 J1) (G2 := tb0 J2) (z0 := z0) (z1 := z1) (z2 := z2) ?_ ?_ ?_ ?_ p
  · have := (hM.oa ht).2
    rw [(hM.oa ht).1] at this
    exact this
  · rcases a0 with ⟨a, b⟩ | ⟨a, b, c⟩
    · refine Or.inl ⟨a, ?_⟩
      (try dsimp only)
      rw [← ed, w Jd 0 (by decide) (by decide)]
      exact b
    · exact Or.inr ⟨a, by rw [b, ed], c⟩
  · rcases a1 with ⟨a, b⟩ | ⟨a, b, c⟩
    · refine Or.inl ⟨a, ?_⟩
      (try dsimp only)
      rw [w J0 1 (by decide) (by decide)]
      exact b
    · exact Or.inr ⟨a, by rw [b], c⟩
  · rcases a2 with ⟨a, b⟩ | ⟨a, b, c⟩
    · refine Or.inl ⟨a, ?_⟩
      (try dsimp only)
      rw [w J1 2 (by decide) (by decide)]
      exact b
    · exact Or.inr ⟨a, by rw [b], c⟩
set_option maxHeartbeats 4000000 in
set_option maxRecDepth 100000 in
theorem o_deep {l : Launch} {G : tb_G} (hl : l.stackTraces = false) (n : Nat) (J : zJ) (x : Int) (hr_x : -2147483648 ≤ x ∧ x < 2147483648)   : tz_Ok l G M_X12_isTooDeep 0 0 0 [.ref 164, zi x] n J (zqi (fun z J' => zup J 164 21 z = J' ∧ ((z = 0 ∧ J 164 21 = 0 ∧ x ≤ 6) ∨ (z = 1 ∧ (¬ J 164 21 = 0 ∨ 6 < x))))) zN := by
  refine tz_Ok.of hl (by decide +kernel) rfl (tb_c1 rfl) (Nat.le_of_ble_eq_true rfl) ?_
  show tz_At l G M_X12_isTooDeep (tb_rm 0 0 0) none (tb_ZM G 0 0 (zQ n 0 (zqi (fun z J' => zup J 164 21 z = J' ∧ ((z = 0 ∧ J 164 21 = 0 ∧ x ≤ 6) ∨ (z = 1 ∧ (¬ J 164 21 = 0 ∨ 6 < x)))))) (zX n 0 zN)) 0 0 n J 0 [some (.ref 164), some (zi x)] []
  refine tz_aload_n (pc := 0) dX12_isTooDeep_0 rfl rfl ?_
  refine tz_aload_n (pc := 1) dX12_isTooDeep_1 rfl rfl ?_
  refine tz_fI (pc := 2) (kz := 21) (v := (J 164 21)) dX12_isTooDeep_2 fl_X12_92 i_164_21 rfl rfl (fun r_2 => ?_)
  refine tz_if_ne (pc := 5) (tgt := 14) dX12_isTooDeep_5 (by decide) (by omega) (fun h_5 => ?_) (fun h_5 => ?_)
  · refine tz_iconst (pc := 14) dX12_isTooDeep_14 ?_
    refine tz_goto (pc := 15) (tgt := 19) dX12_isTooDeep_15 (by decide) ?_
    refine tz_pZ (pc := 19) (kz := 21) dX12_isTooDeep_19 fl_X12_92 i_164_21 rfl rfl (Or.inr rfl) ?_
    refine tz_aload_n (pc := 22) dX12_isTooDeep_22 rfl rfl ?_
    refine tz_fI (pc := 23) (kz := 21) (v := 1) dX12_isTooDeep_23 fl_X12_92 i_164_21 rfl rfl (fun _ => ?_)
    exact tz_zret (pc := 26) (z := 1) dX12_isTooDeep_26 rfl (Or.inr rfl) (Nat.le_of_ble_eq_true rfl) (Nat.le_of_ble_eq_true rfl) ⟨Nat.le_refl _, Nat.le_add_right _ _⟩ ⟨_, rfl, (by decide), ⟨rfl, by omega⟩⟩
  · refine tz_iload_n (pc := 8) dX12_isTooDeep_8 rfl rfl ?_
    refine tz_bipush (pc := 9) dX12_isTooDeep_9 (by decide) ?_
    refine tz_icmp_le (pc := 11) (tgt := 18) dX12_isTooDeep_11 (by decide) (by omega) (by decide) (fun h_11 => ?_) (fun h_11 => ?_)
    · refine tz_iconst (pc := 18) dX12_isTooDeep_18 ?_
      refine tz_pZ (pc := 19) (kz := 21) dX12_isTooDeep_19 fl_X12_92 i_164_21 rfl rfl (Or.inl rfl) ?_
      refine tz_aload_n (pc := 22) dX12_isTooDeep_22 rfl rfl ?_
      refine tz_fI (pc := 23) (kz := 21) (v := 0) dX12_isTooDeep_23 fl_X12_92 i_164_21 rfl rfl (fun _ => ?_)
      exact tz_zret (pc := 26) (z := 0) dX12_isTooDeep_26 rfl (Or.inl rfl) (Nat.le_of_ble_eq_true rfl) (Nat.le_of_ble_eq_true rfl) ⟨Nat.le_refl _, Nat.le_add_right _ _⟩ ⟨_, rfl, (by decide), ⟨rfl, by omega⟩⟩
    · refine tz_iconst (pc := 14) dX12_isTooDeep_14 ?_
      refine tz_goto (pc := 15) (tgt := 19) dX12_isTooDeep_15 (by decide) ?_
      refine tz_pZ (pc := 19) (kz := 21) dX12_isTooDeep_19 fl_X12_92 i_164_21 rfl rfl (Or.inr rfl) ?_
      refine tz_aload_n (pc := 22) dX12_isTooDeep_22 rfl rfl ?_
      refine tz_fI (pc := 23) (kz := 21) (v := 1) dX12_isTooDeep_23 fl_X12_92 i_164_21 rfl rfl (fun _ => ?_)
      exact tz_zret (pc := 26) (z := 1) dX12_isTooDeep_26 rfl (Or.inr rfl) (Nat.le_of_ble_eq_true rfl) (Nat.le_of_ble_eq_true rfl) ⟨Nat.le_refl _, Nat.le_add_right _ _⟩ ⟨_, rfl, (by decide), ⟨rfl, by omega⟩⟩

set_option maxHeartbeats 4000000 in
set_option maxRecDepth 100000 in
theorem o_closedR {l : Launch} {G : tb_G} (hl : l.stackTraces = false) (n : Nat) : ∀ (r9 : Nat) (J : zJ) (t : Int) (y : Int) (hr_t : -2147483648 ≤ t ∧ t < 2147483648) (hr_y : -2147483648 ≤ y ∧ y < 2147483648) (s m : Int) (m0 : Int) (q : Nat) (ρ : Int → Int) (O : Int → Int → Prop) (rk : Int → Nat) (P : Int → Prop) (hM : MS J 0 0 0 s m) (hs : J 164 9 = s) (hm : m0 ≤ m) (ht : 0 ≤ t ∧ t < m0) (hC : CRm O rk P ρ J m0) (hq : ∀ v, O t v → P v ∧ (¬ J 175 v = -1 → rk v < q)) (hy : 0 ≤ y ∧ y ≤ 7), (q + (7 - y).toNat) < r9 → tz_Ok l G M_X12_closedOf (5 + 1 * r9) 0 0 [.ref 164, zi t, zi y] n J (zqi (fun z J' => ∃ m', MG [] [] (fun _ => false) J' J 0 0 0 s m m' ∧ (J' 164 21 = 0 → 0 ≤ z ∧ z < m') ∧ (tb0 J', z) = grO ρ (7 - y).toNat (tb0 J) t)) zN := by
  intro r9
  induction r9 with
  | zero => intro J t y hr_t hr_y s m m0 q ρ O rk P hM hs hm ht hC hq hy hm9; exact absurd hm9 (Nat.not_lt_zero _)
  | succ r9 ih =>
    intro J t y hr_t hr_y s m m0 q ρ O rk P hM hs hm ht hC hq hy hm9
    refine tz_Ok.of hl (by decide +kernel) rfl (tb_c1 rfl) (Nat.le_of_ble_eq_true rfl) ?_
    show tz_At l G M_X12_closedOf (tb_rm (5 + 1 * (r9 + 1)) 0 0) none (tb_ZM G 0 0 (zQ n 0 (zqi (fun z J' => ∃ m', MG [] [] (fun _ => false) J' J 0 0 0 s m m' ∧ (J' 164 21 = 0 → 0 ≤ z ∧ z < m') ∧ (tb0 J', z) = grO ρ (7 - y).toNat (tb0 J) t))) (zX n 0 zN)) 0 0 n J 0 [some (.ref 164), some (zi t), some (zi y), none, none, none, none] []
    have hT := hM.told
    have ht9 : 0 ≤ t ∧ t < m := by omega
    have ha := hM.ar ht9
    have g0 : MG [] [] (fun _ => false) J J 0 0 0 s m m := MG.rf hM
    refine tz_aload_n (pc := 0) dX12_closedOf_0 rfl rfl ?_
    refine tz_fI (pc := 1) (kz := 21) (v := (J 164 21)) dX12_closedOf_1 fl_X12_92 i_164_21 rfl rfl (fun r_1 => ?_)
    refine tz_if_eq (pc := 4) (tgt := 9) dX12_closedOf_4 (by decide) (by omega) (fun h_4 => ?_) (fun h_4 => ?_)
    · refine tz_aload_n (pc := 9) dX12_closedOf_9 rfl rfl ?_
      refine tz_iload_n (pc := 10) dX12_closedOf_10 rfl rfl ?_
      refine tz_cV (pc := 11) (m_isVar hl n _ _ (by omega) 0 0 0 s m hM (by omega)) vl_X12_78 dX12_closedOf_11 o_164 rfl rfl (Nat.le_of_ble_eq_true rfl) ⟨(show 1 + 1 ≤ 5 + 1 * (r9 + 1) by omega), (show 8 + (2 + 11) + 40 * (1) ≤ 40 * (5 + 1 * (r9 + 1)) by omega)⟩ rfl rfl (Nat.le_of_ble_eq_true rfl) (Nat.le_of_ble_eq_true rfl) (fun r9 J_11 hq9 => ?_)
      obtain ⟨z_11, rfl, hz_11, rfl, rfl⟩ := hq9
      by_cases hw_14 : J 166 (0 + t) < 0
      · rw [show (if J 166 (0 + t) < 0 then 1 else 0 : Int) = 1 from if_pos hw_14]
        refine tz_if_eqF (pc := 14) (tgt := 63) (by decide) dX12_closedOf_14 (by decide) (by decide) ?_
        refine tz_aload_n (pc := 17) dX12_closedOf_17 rfl rfl ?_
        refine tz_fR (pc := 18) dX12_closedOf_18 fl_X12_44 r_164_23 ?_
        refine tz_aload_n (pc := 21) dX12_closedOf_21 rfl rfl ?_
        refine tz_iload_n (pc := 22) dX12_closedOf_22 rfl rfl ?_
        refine tz_cV (pc := 23) (m_varOf hl n _ _ (by omega) 0 0 0 s m hM (by omega)) vl_X12_123 dX12_closedOf_23 o_164 rfl rfl (Nat.le_of_ble_eq_true rfl) ⟨(show 1 + 1 ≤ 5 + 1 * (r9 + 1) by omega), (show 8 + (2 + 11) + 40 * (1) ≤ 40 * (5 + 1 * (r9 + 1)) by omega)⟩ rfl rfl (Nat.le_of_ble_eq_true rfl) (Nat.le_of_ble_eq_true rfl) (fun r9 J_23 hq9 => ?_)
        obtain ⟨z_23, rfl, hz_23, rfl, rfl⟩ := hq9
        have hv9 := hC.1.2.1 (-1 - J 166 (0 + t)) (by omega) (by omega)
        refine tz_aL (pc := 26) (z := (-1 - J 166 (0 + t))) (v := (J 175 (-1 - J 166 (0 + t)))) dX12_closedOf_26 a_175 rfl (by omega) rfl (fun r_26 => ?_)
        refine tz_iconst (pc := 27) dX12_closedOf_27 ?_
        refine tz_icmp_ne (pc := 28) (tgt := 47) dX12_closedOf_28 (by decide) (by omega) (by decide) (fun h_28 => ?_) (fun h_28 => ?_)
        · refine tz_aload_n (pc := 47) dX12_closedOf_47 rfl rfl ?_
          refine tz_aload_n (pc := 48) dX12_closedOf_48 rfl rfl ?_
          refine tz_fR (pc := 49) dX12_closedOf_49 fl_X12_44 r_164_23 ?_
          refine tz_aload_n (pc := 52) dX12_closedOf_52 rfl rfl ?_
          refine tz_iload_n (pc := 53) dX12_closedOf_53 rfl rfl ?_
          refine tz_cV (pc := 54) (m_varOf hl n _ _ (by omega) 0 0 0 s m hM (by omega)) vl_X12_123 dX12_closedOf_54 o_164 rfl rfl (Nat.le_of_ble_eq_true rfl) ⟨(show 1 + 1 ≤ 5 + 1 * (r9 + 1) by omega), (show 8 + (2 + 11) + 40 * (1) ≤ 40 * (5 + 1 * (r9 + 1)) by omega)⟩ rfl rfl (Nat.le_of_ble_eq_true rfl) (Nat.le_of_ble_eq_true rfl) (fun r9 J_54 hq9 => ?_)
          obtain ⟨z_54, rfl, hz_54, rfl, rfl⟩ := hq9
          refine tz_aL (pc := 57) (z := (-1 - J 166 (0 + t))) (v := (J 175 (-1 - J 166 (0 + t)))) dX12_closedOf_57 a_175 rfl (by omega) rfl (fun r_57 => ?_)
          refine tz_iload_n (pc := 58) dX12_closedOf_58 rfl rfl ?_
          have l0_59 := (g0).1.2
          have t0_59 := (g0).1.1.told
          have oo := hq _ ((hC.1.1 t ht.1 ht.2).1 (by omega))
          have orr := oo.2 (by omega)
          refine tz_cV (pc := 59) (ih _ _ _ (by omega) (by omega) s m m0 (rk (-1 - J 166 (0 + t))) ρ O rk P (g0).1.1 hs hm (by omega) hC (hC.1.2.2 _ (by omega) oo.1 (by omega)) hy (by omega)) vl_X12_158 dX12_closedOf_59 o_164 rfl rfl (Nat.le_of_ble_eq_true rfl) ⟨(show (5 + 1 * r9) + 1 ≤ 5 + 1 * (r9 + 1) by omega), (show 8 + (7 + 11) + 40 * ((5 + 1 * r9)) ≤ 40 * (5 + 1 * (r9 + 1)) by omega)⟩ rfl rfl (Nat.le_of_ble_eq_true rfl) (Nat.le_of_ble_eq_true rfl) (fun r9 J_59 hq9 => ?_)
          obtain ⟨z_59, rfl, hz_59, m_59, g_59, h_59, x_59⟩ := hq9
          have q_59 := MG.tr g0 g_59
          have f_59 := g_59.2.2.2
          have l_59 := g_59.1.2
          exact tz_iret (pc := 62) (z := z_59) dX12_closedOf_62 rfl (Nat.le_of_ble_eq_true rfl) (Nat.le_of_ble_eq_true rfl) ⟨Nat.le_refl _, Nat.le_add_right _ _⟩ ⟨_, rfl, (by omega), ⟨m_59, q_59, h_59, by rw [x_59]; exact (grO_r ((hC.2 t ht.1 ht.2 (fun v o9 => (hq v o9).1)).1 (by omega) (by omega))).symm⟩⟩
        · refine tz_aload_n (pc := 31) dX12_closedOf_31 rfl rfl ?_
          refine tz_iload_n (pc := 32) dX12_closedOf_32 rfl rfl ?_
          refine tz_cV (pc := 33) (o_deep hl n _ _ (by omega)) vl_X12_155 dX12_closedOf_33 o_164 rfl rfl (Nat.le_of_ble_eq_true rfl) ⟨(show 0 + 1 ≤ 5 + 1 * (r9 + 1) by omega), (show 8 + (2 + 11) + 40 * (0) ≤ 40 * (5 + 1 * (r9 + 1)) by omega)⟩ rfl rfl (Nat.le_of_ble_eq_true rfl) (Nat.le_of_ble_eq_true rfl) (fun r9 J_33 hq9 => ?_)
          obtain ⟨z_33, rfl, hz_33, d1, d2⟩ := hq9
          have dd_33 : zOf (zbut [164]) J_33 J ∧ ∀ k, ¬ k = 21 → J_33 164 k = J 164 k := by rw [← d1]; exact ⟨zOf.up rfl zOf.rf, fun k hk => zup_ne hk⟩
          have z21_33 : J_33 164 21 = z_33 := by rw [← d1]; exact zup_at
          have q_33 := MG.deep hM dd_33 (by omega)
          have l_33 := q_33.1.2
          rcases d2 with ⟨rfl, d2⟩ | ⟨rfl, d2⟩
          · refine tz_if_eqT (pc := 36) (tgt := 43) (by decide) dX12_closedOf_36 (by decide) (by decide) ?_
            refine tz_iload_n (pc := 43) dX12_closedOf_43 rfl rfl ?_
            refine tz_goto (pc := 44) (tgt := 62) dX12_closedOf_44 (by decide) ?_
            exact tz_iret (pc := 62) (z := t) dX12_closedOf_62 rfl (Nat.le_of_ble_eq_true rfl) (Nat.le_of_ble_eq_true rfl) ⟨Nat.le_refl _, Nat.le_add_right _ _⟩ ⟨_, rfl, (by omega), ⟨m, q_33, fun q9 => by omega, gr_v hM ht9 (by omega) d1 (by omega) (by omega) ((hC.2 t ht.1 ht.2 (fun v o9 => (hq v o9).1)).2 (Or.inr (by omega)))⟩⟩
          · refine tz_if_eqF (pc := 36) (tgt := 43) (by decide) dX12_closedOf_36 (by decide) (by decide) ?_
            refine tz_iconst (pc := 39) dX12_closedOf_39 ?_
            refine tz_goto (pc := 40) (tgt := 62) dX12_closedOf_40 (by decide) ?_
            exact tz_iret (pc := 62) (z := 0) dX12_closedOf_62 rfl (Nat.le_of_ble_eq_true rfl) (Nat.le_of_ble_eq_true rfl) ⟨Nat.le_refl _, Nat.le_add_right _ _⟩ ⟨_, rfl, (by decide), ⟨m, q_33, fun q9 => by omega, gr_u (by omega) d1 (by omega)⟩⟩
      · rw [show (if J 166 (0 + t) < 0 then 1 else 0 : Int) = 0 from if_neg hw_14]
        refine tz_if_eqT (pc := 14) (tgt := 63) (by decide) dX12_closedOf_14 (by decide) (by decide) ?_
        refine tz_aload_n (pc := 63) dX12_closedOf_63 rfl rfl ?_
        refine tz_iload_n (pc := 64) dX12_closedOf_64 rfl rfl ?_
        refine tz_cV (pc := 65) (o_deep hl n _ _ (by omega)) vl_X12_155 dX12_closedOf_65 o_164 rfl rfl (Nat.le_of_ble_eq_true rfl) ⟨(show 0 + 1 ≤ 5 + 1 * (r9 + 1) by omega), (show 8 + (2 + 11) + 40 * (0) ≤ 40 * (5 + 1 * (r9 + 1)) by omega)⟩ rfl rfl (Nat.le_of_ble_eq_true rfl) (Nat.le_of_ble_eq_true rfl) (fun r9 J_65 hq9 => ?_)
        obtain ⟨z_65, rfl, hz_65, d1, d2⟩ := hq9
        have dd_65 : zOf (zbut [164]) J_65 J ∧ ∀ k, ¬ k = 21 → J_65 164 k = J 164 k := by rw [← d1]; exact ⟨zOf.up rfl zOf.rf, fun k hk => zup_ne hk⟩
        have z21_65 : J_65 164 21 = z_65 := by rw [← d1]; exact zup_at
        have q_65 := MG.deep hM dd_65 (by omega)
        have l_65 := q_65.1.2
        rcases d2 with ⟨rfl, d2⟩ | ⟨rfl, d2⟩
        · refine tz_if_eqT (pc := 68) (tgt := 73) (by decide) dX12_closedOf_68 (by decide) (by decide) ?_
          refine tz_aload_n (pc := 73) dX12_closedOf_73 rfl rfl ?_
          refine tz_iload_n (pc := 74) dX12_closedOf_74 rfl rfl ?_
          have l_75 := (q_65).1.2
          have tt_75 := (q_65).1.1.told
          refine tz_cV (pc := 75) (m_arity hl n _ _ (by omega) 0 0 0 s m (q_65).1.1 (by omega)) vl_X12_111 dX12_closedOf_75 o_164 rfl rfl (Nat.le_of_ble_eq_true rfl) ⟨(show 2 + 1 ≤ 5 + 1 * (r9 + 1) by omega), (show 8 + (2 + 11) + 40 * (2) ≤ 40 * (5 + 1 * (r9 + 1)) by omega)⟩ rfl rfl (Nat.le_of_ble_eq_true rfl) (Nat.le_of_ble_eq_true rfl) (fun r9 J_75 hq9 => ?_)
          obtain ⟨z_75, rfl, hz_75, rfl, hv_75⟩ := hq9
          have he_75 : mar J_65 0 0 t = mar J 0 0 t := (q_65).ar ht9 ((q_65).2.2.1.2.2.2 170 rfl)
          rw [he_75] at hv_75
          obtain rfl : mar J 0 0 t = z_75 := hv_75
          refine tz_istore_n (pc := 78) (L2 := [_, _, _, _, _, _, _]) dX12_closedOf_78 rfl (by decide) rfl ?_
          refine tz_iload_n (pc := 79) dX12_closedOf_79 rfl rfl ?_
          refine tz_if_le (pc := 80) (tgt := 99) dX12_closedOf_80 (by decide) (by omega) (fun h_80 => ?_) (fun h_80 => ?_)
          · refine tz_iconst (pc := 99) dX12_closedOf_99 ?_
            refine tz_istore (pc := 100) (L2 := [_, _, _, _, _, _, _]) dX12_closedOf_100 (by decide) rfl ?_
            refine tz_iload_n (pc := 102) dX12_closedOf_102 rfl rfl ?_
            refine tz_iconst (pc := 103) dX12_closedOf_103 ?_
            refine tz_icmp_le (pc := 104) (tgt := 123) dX12_closedOf_104 (by decide) (by omega) (by decide) (fun h_104 => ?_) (fun h_104 => ?_)
            · refine tz_iconst (pc := 123) dX12_closedOf_123 ?_
              refine tz_istore (pc := 124) (L2 := [_, _, _, _, _, _, _]) dX12_closedOf_124 (by decide) rfl ?_
              refine tz_iload_n (pc := 126) dX12_closedOf_126 rfl rfl ?_
              refine tz_iconst (pc := 127) dX12_closedOf_127 ?_
              refine tz_icmp_le (pc := 128) (tgt := 147) dX12_closedOf_128 (by decide) (by omega) (by decide) (fun h_128 => ?_) (fun h_128 => ?_)
              · refine tz_iconst (pc := 147) dX12_closedOf_147 ?_
                refine tz_istore (pc := 148) (L2 := [_, _, _, _, _, _, _]) dX12_closedOf_148 (by decide) rfl ?_
                refine tz_aload_n (pc := 150) dX12_closedOf_150 rfl rfl ?_
                refine tz_iload_n (pc := 151) dX12_closedOf_151 rfl rfl ?_
                refine tz_iload (pc := 152) dX12_closedOf_152 rfl ?_
                refine tz_iload (pc := 154) dX12_closedOf_154 rfl ?_
                refine tz_iload (pc := 156) dX12_closedOf_156 rfl ?_
                have l0_158 := (q_65).1.2
                have t0_158 := (q_65).1.1.told
                refine tz_cV (pc := 158) (o_remade hl n _ _ _ _ _ (by omega) (by omega) (by omega) (by omega) s m (q_65).1.1 (((q_65).2.2.1.2.2.1 9 rfl).trans hs) (by omega) (fun q9 => by have e9 := (q_65).ar ht9 ((q_65).2.2.1.2.2.2 170 rfl); rw [e9]; omega)) vl_X12_152 dX12_closedOf_158 o_164 rfl rfl (Nat.le_of_ble_eq_true rfl) ⟨(show 3 + 1 ≤ 5 + 1 * (r9 + 1) by omega), (show 8 + (5 + 11) + 40 * (3) ≤ 40 * (5 + 1 * (r9 + 1)) by omega)⟩ rfl rfl (Nat.le_of_ble_eq_true rfl) (Nat.le_of_ble_eq_true rfl) (fun r9 J_158 hq9 => ?_)
                obtain ⟨z_158, rfl, hz_158, m_158, g_158, h_158, x_158⟩ := hq9
                have q_158 := MG.tr q_65 g_158
                have f_158 := g_158.2.2.2
                have l_158 := g_158.1.2
                exact tz_iret (pc := 161) (z := z_158) dX12_closedOf_161 rfl (Nat.le_of_ble_eq_true rfl) (Nat.le_of_ble_eq_true rfl) ⟨Nat.le_refl _, Nat.le_add_right _ _⟩ ⟨_, rfl, (by omega), ⟨m_158, q_158, h_158, gr_c hM ht9 (by omega) d1 (by omega) (by omega) ((hC.2 t ht.1 ht.2 (fun v o9 => (hq v o9).1)).2 (Or.inl (by omega))) (Or.inr ⟨by omega, rfl, rfl⟩) (Or.inr ⟨by omega, rfl, rfl⟩) (Or.inr ⟨by omega, rfl, rfl⟩) (by have e7 := x_158; rw [show J_65 166 (0 + t) = J 166 (0 + t) from ((q_65).2.1 t ht9.1 ht9.2).1.1] at e7; exact e7)⟩⟩
              · refine tz_aload_n (pc := 131) dX12_closedOf_131 rfl rfl ?_
                refine tz_aload_n (pc := 132) dX12_closedOf_132 rfl rfl ?_
                refine tz_iload_n (pc := 133) dX12_closedOf_133 rfl rfl ?_
                refine tz_iconst (pc := 134) dX12_closedOf_134 ?_
                have l_135 := (q_65).1.2
                have tt_135 := (q_65).1.1.told
                refine tz_cV (pc := 135) (m_arg hl n _ _ _ (by omega) (by decide) 0 0 0 s m (q_65).1.1 (by omega) (by omega)) vl_X12_88 dX12_closedOf_135 o_164 rfl rfl (Nat.le_of_ble_eq_true rfl) ⟨(show 0 + 1 ≤ 5 + 1 * (r9 + 1) by omega), (show 8 + (3 + 11) + 40 * (0) ≤ 40 * (5 + 1 * (r9 + 1)) by omega)⟩ rfl rfl (Nat.le_of_ble_eq_true rfl) (Nat.le_of_ble_eq_true rfl) (fun r9 J_135 hq9 => ?_)
                obtain ⟨z_135, rfl, hz_135, rfl, hv_135⟩ := hq9
                have he_135 : J_65 167 (3 * (0 + t) + 2) = J 167 (3 * (0 + t) + 2) := ((q_65).2.1 t ht9.1 ht9.2).2 2 (by omega) (by omega)
                rw [he_135] at hv_135
                obtain rfl : J 167 (3 * (0 + t) + 2) = z_135 := hv_135
                refine tz_iload_n (pc := 138) dX12_closedOf_138 rfl rfl ?_
                refine tz_iconst (pc := 139) dX12_closedOf_139 ?_
                refine tz_iadd (pc := 140) (v := y + 1) dX12_closedOf_140 rfl ?_
                have l0_141 := (q_65).1.2
                have t0_141 := (q_65).1.1.told
                have a_141 := hM.arg (t := t) (i := 2) ht9 (by omega)
                refine tz_cV (pc := 141) (ih _ _ _ (by omega) (by omega) s m m0 q ρ O rk P (q_65).1.1 (((q_65).2.2.1.2.2.1 9 rfl).trans hs) (by omega) (by omega) (hC.mg hm (q_65)) (fun v o9 => by rw [(q_65).2.2.1.2.2.2 175 rfl]; exact hq v ((hC.1.1 t ht.1 ht.2).2 2 v (by omega) o9)) (by omega) (by omega)) vl_X12_158 dX12_closedOf_141 o_164 rfl rfl (Nat.le_of_ble_eq_true rfl) ⟨(show (5 + 1 * r9) + 1 ≤ 5 + 1 * (r9 + 1) by omega), (show 8 + (7 + 11) + 40 * ((5 + 1 * r9)) ≤ 40 * (5 + 1 * (r9 + 1)) by omega)⟩ rfl rfl (Nat.le_of_ble_eq_true rfl) (Nat.le_of_ble_eq_true rfl) (fun r9 J_141 hq9 => ?_)
                obtain ⟨z_141, rfl, hz_141, m_141, g_141, h_141, x_141⟩ := hq9
                have q_141 := MG.tr q_65 g_141
                have f_141 := g_141.2.2.2
                have l_141 := g_141.1.2
                have w_141 : J_65 167 (3 * (0 + t) + 2) = J 167 (3 * (0 + t) + 2) := ((q_65).2.1 t ht9.1 ht9.2).2 2 (by decide) (by decide)
                rw [show (7 - (y + 1)).toNat = (7 - y).toNat - 1 from by omega, ← w_141] at x_141
                refine tz_goto (pc := 144) (tgt := 148) dX12_closedOf_144 (by decide) ?_
                refine tz_istore (pc := 148) (L2 := [_, _, _, _, _, _, _]) dX12_closedOf_148 (by decide) rfl ?_
                refine tz_aload_n (pc := 150) dX12_closedOf_150 rfl rfl ?_
                refine tz_iload_n (pc := 151) dX12_closedOf_151 rfl rfl ?_
                refine tz_iload (pc := 152) dX12_closedOf_152 rfl ?_
                refine tz_iload (pc := 154) dX12_closedOf_154 rfl ?_
                refine tz_iload (pc := 156) dX12_closedOf_156 rfl ?_
                have l0_158 := (q_141).1.2
                have t0_158 := (q_141).1.1.told
                refine tz_cV (pc := 158) (o_remade hl n _ _ _ _ _ (by omega) (by omega) (by omega) (by omega) s m_141 (q_141).1.1 (((q_141).2.2.1.2.2.1 9 rfl).trans hs) (by omega) (fun q9 => by have e9 := (q_141).ar ht9 ((q_141).2.2.1.2.2.2 170 rfl); rw [e9]; omega)) vl_X12_152 dX12_closedOf_158 o_164 rfl rfl (Nat.le_of_ble_eq_true rfl) ⟨(show 3 + 1 ≤ 5 + 1 * (r9 + 1) by omega), (show 8 + (5 + 11) + 40 * (3) ≤ 40 * (5 + 1 * (r9 + 1)) by omega)⟩ rfl rfl (Nat.le_of_ble_eq_true rfl) (Nat.le_of_ble_eq_true rfl) (fun r9 J_158 hq9 => ?_)
                obtain ⟨z_158, rfl, hz_158, m_158, g_158, h_158, x_158⟩ := hq9
                have q_158 := MG.tr q_141 g_158
                have f_158 := g_158.2.2.2
                have l_158 := g_158.1.2
                exact tz_iret (pc := 161) (z := z_158) dX12_closedOf_161 rfl (Nat.le_of_ble_eq_true rfl) (Nat.le_of_ble_eq_true rfl) ⟨Nat.le_refl _, Nat.le_add_right _ _⟩ ⟨_, rfl, (by omega), ⟨m_158, q_158, h_158, gr_c hM ht9 (by omega) d1 (by omega) (by omega) ((hC.2 t ht.1 ht.2 (fun v o9 => (hq v o9).1)).2 (Or.inl (by omega))) (Or.inr ⟨by omega, rfl, rfl⟩) (Or.inr ⟨by omega, rfl, rfl⟩) (Or.inl ⟨by omega, x_141⟩) (by have e7 := x_158; rw [show J_141 166 (0 + t) = J 166 (0 + t) from ((q_141).2.1 t ht9.1 ht9.2).1.1] at e7; exact e7)⟩⟩
            · refine tz_aload_n (pc := 107) dX12_closedOf_107 rfl rfl ?_
              refine tz_aload_n (pc := 108) dX12_closedOf_108 rfl rfl ?_
              refine tz_iload_n (pc := 109) dX12_closedOf_109 rfl rfl ?_
              refine tz_iconst (pc := 110) dX12_closedOf_110 ?_
              have l_111 := (q_65).1.2
              have tt_111 := (q_65).1.1.told
              refine tz_cV (pc := 111) (m_arg hl n _ _ _ (by omega) (by decide) 0 0 0 s m (q_65).1.1 (by omega) (by omega)) vl_X12_88 dX12_closedOf_111 o_164 rfl rfl (Nat.le_of_ble_eq_true rfl) ⟨(show 0 + 1 ≤ 5 + 1 * (r9 + 1) by omega), (show 8 + (3 + 11) + 40 * (0) ≤ 40 * (5 + 1 * (r9 + 1)) by omega)⟩ rfl rfl (Nat.le_of_ble_eq_true rfl) (Nat.le_of_ble_eq_true rfl) (fun r9 J_111 hq9 => ?_)
              obtain ⟨z_111, rfl, hz_111, rfl, hv_111⟩ := hq9
              have he_111 : J_65 167 (3 * (0 + t) + 1) = J 167 (3 * (0 + t) + 1) := ((q_65).2.1 t ht9.1 ht9.2).2 1 (by omega) (by omega)
              rw [he_111] at hv_111
              obtain rfl : J 167 (3 * (0 + t) + 1) = z_111 := hv_111
              refine tz_iload_n (pc := 114) dX12_closedOf_114 rfl rfl ?_
              refine tz_iconst (pc := 115) dX12_closedOf_115 ?_
              refine tz_iadd (pc := 116) (v := y + 1) dX12_closedOf_116 rfl ?_
              have l0_117 := (q_65).1.2
              have t0_117 := (q_65).1.1.told
              have a_117 := hM.arg (t := t) (i := 1) ht9 (by omega)
              refine tz_cV (pc := 117) (ih _ _ _ (by omega) (by omega) s m m0 q ρ O rk P (q_65).1.1 (((q_65).2.2.1.2.2.1 9 rfl).trans hs) (by omega) (by omega) (hC.mg hm (q_65)) (fun v o9 => by rw [(q_65).2.2.1.2.2.2 175 rfl]; exact hq v ((hC.1.1 t ht.1 ht.2).2 1 v (by omega) o9)) (by omega) (by omega)) vl_X12_158 dX12_closedOf_117 o_164 rfl rfl (Nat.le_of_ble_eq_true rfl) ⟨(show (5 + 1 * r9) + 1 ≤ 5 + 1 * (r9 + 1) by omega), (show 8 + (7 + 11) + 40 * ((5 + 1 * r9)) ≤ 40 * (5 + 1 * (r9 + 1)) by omega)⟩ rfl rfl (Nat.le_of_ble_eq_true rfl) (Nat.le_of_ble_eq_true rfl) (fun r9 J_117 hq9 => ?_)
              obtain ⟨z_117, rfl, hz_117, m_117, g_117, h_117, x_117⟩ := hq9
              have q_117 := MG.tr q_65 g_117
              have f_117 := g_117.2.2.2
              have l_117 := g_117.1.2
              have w_117 : J_65 167 (3 * (0 + t) + 1) = J 167 (3 * (0 + t) + 1) := ((q_65).2.1 t ht9.1 ht9.2).2 1 (by decide) (by decide)
              rw [show (7 - (y + 1)).toNat = (7 - y).toNat - 1 from by omega, ← w_117] at x_117
              refine tz_goto (pc := 120) (tgt := 124) dX12_closedOf_120 (by decide) ?_
              refine tz_istore (pc := 124) (L2 := [_, _, _, _, _, _, _]) dX12_closedOf_124 (by decide) rfl ?_
              refine tz_iload_n (pc := 126) dX12_closedOf_126 rfl rfl ?_
              refine tz_iconst (pc := 127) dX12_closedOf_127 ?_
              refine tz_icmp_le (pc := 128) (tgt := 147) dX12_closedOf_128 (by decide) (by omega) (by decide) (fun h_128 => ?_) (fun h_128 => ?_)
              · refine tz_iconst (pc := 147) dX12_closedOf_147 ?_
                refine tz_istore (pc := 148) (L2 := [_, _, _, _, _, _, _]) dX12_closedOf_148 (by decide) rfl ?_
                refine tz_aload_n (pc := 150) dX12_closedOf_150 rfl rfl ?_
                refine tz_iload_n (pc := 151) dX12_closedOf_151 rfl rfl ?_
                refine tz_iload (pc := 152) dX12_closedOf_152 rfl ?_
                refine tz_iload (pc := 154) dX12_closedOf_154 rfl ?_
                refine tz_iload (pc := 156) dX12_closedOf_156 rfl ?_
                have l0_158 := (q_117).1.2
                have t0_158 := (q_117).1.1.told
                refine tz_cV (pc := 158) (o_remade hl n _ _ _ _ _ (by omega) (by omega) (by omega) (by omega) s m_117 (q_117).1.1 (((q_117).2.2.1.2.2.1 9 rfl).trans hs) (by omega) (fun q9 => by have e9 := (q_117).ar ht9 ((q_117).2.2.1.2.2.2 170 rfl); rw [e9]; omega)) vl_X12_152 dX12_closedOf_158 o_164 rfl rfl (Nat.le_of_ble_eq_true rfl) ⟨(show 3 + 1 ≤ 5 + 1 * (r9 + 1) by omega), (show 8 + (5 + 11) + 40 * (3) ≤ 40 * (5 + 1 * (r9 + 1)) by omega)⟩ rfl rfl (Nat.le_of_ble_eq_true rfl) (Nat.le_of_ble_eq_true rfl) (fun r9 J_158 hq9 => ?_)
                obtain ⟨z_158, rfl, hz_158, m_158, g_158, h_158, x_158⟩ := hq9
                have q_158 := MG.tr q_117 g_158
                have f_158 := g_158.2.2.2
                have l_158 := g_158.1.2
                exact tz_iret (pc := 161) (z := z_158) dX12_closedOf_161 rfl (Nat.le_of_ble_eq_true rfl) (Nat.le_of_ble_eq_true rfl) ⟨Nat.le_refl _, Nat.le_add_right _ _⟩ ⟨_, rfl, (by omega), ⟨m_158, q_158, h_158, gr_c hM ht9 (by omega) d1 (by omega) (by omega) ((hC.2 t ht.1 ht.2 (fun v o9 => (hq v o9).1)).2 (Or.inl (by omega))) (Or.inr ⟨by omega, rfl, rfl⟩) (Or.inl ⟨by omega, x_117⟩) (Or.inr ⟨by omega, rfl, rfl⟩) (by have e7 := x_158; rw [show J_117 166 (0 + t) = J 166 (0 + t) from ((q_117).2.1 t ht9.1 ht9.2).1.1] at e7; exact e7)⟩⟩
              · refine tz_aload_n (pc := 131) dX12_closedOf_131 rfl rfl ?_
                refine tz_aload_n (pc := 132) dX12_closedOf_132 rfl rfl ?_
                refine tz_iload_n (pc := 133) dX12_closedOf_133 rfl rfl ?_
                refine tz_iconst (pc := 134) dX12_closedOf_134 ?_
                have l_135 := (q_117).1.2
                have tt_135 := (q_117).1.1.told
                refine tz_cV (pc := 135) (m_arg hl n _ _ _ (by omega) (by decide) 0 0 0 s m_117 (q_117).1.1 (by omega) (by omega)) vl_X12_88 dX12_closedOf_135 o_164 rfl rfl (Nat.le_of_ble_eq_true rfl) ⟨(show 0 + 1 ≤ 5 + 1 * (r9 + 1) by omega), (show 8 + (3 + 11) + 40 * (0) ≤ 40 * (5 + 1 * (r9 + 1)) by omega)⟩ rfl rfl (Nat.le_of_ble_eq_true rfl) (Nat.le_of_ble_eq_true rfl) (fun r9 J_135 hq9 => ?_)
                obtain ⟨z_135, rfl, hz_135, rfl, hv_135⟩ := hq9
                have he_135 : J_117 167 (3 * (0 + t) + 2) = J 167 (3 * (0 + t) + 2) := ((q_117).2.1 t ht9.1 ht9.2).2 2 (by omega) (by omega)
                rw [he_135] at hv_135
                obtain rfl : J 167 (3 * (0 + t) + 2) = z_135 := hv_135
                refine tz_iload_n (pc := 138) dX12_closedOf_138 rfl rfl ?_
                refine tz_iconst (pc := 139) dX12_closedOf_139 ?_
                refine tz_iadd (pc := 140) (v := y + 1) dX12_closedOf_140 rfl ?_
                have l0_141 := (q_117).1.2
                have t0_141 := (q_117).1.1.told
                have a_141 := hM.arg (t := t) (i := 2) ht9 (by omega)
                refine tz_cV (pc := 141) (ih _ _ _ (by omega) (by omega) s m_117 m0 q ρ O rk P (q_117).1.1 (((q_117).2.2.1.2.2.1 9 rfl).trans hs) (by omega) (by omega) (hC.mg hm (q_117)) (fun v o9 => by rw [(q_117).2.2.1.2.2.2 175 rfl]; exact hq v ((hC.1.1 t ht.1 ht.2).2 2 v (by omega) o9)) (by omega) (by omega)) vl_X12_158 dX12_closedOf_141 o_164 rfl rfl (Nat.le_of_ble_eq_true rfl) ⟨(show (5 + 1 * r9) + 1 ≤ 5 + 1 * (r9 + 1) by omega), (show 8 + (7 + 11) + 40 * ((5 + 1 * r9)) ≤ 40 * (5 + 1 * (r9 + 1)) by omega)⟩ rfl rfl (Nat.le_of_ble_eq_true rfl) (Nat.le_of_ble_eq_true rfl) (fun r9 J_141 hq9 => ?_)
                obtain ⟨z_141, rfl, hz_141, m_141, g_141, h_141, x_141⟩ := hq9
                have q_141 := MG.tr q_117 g_141
                have f_141 := g_141.2.2.2
                have l_141 := g_141.1.2
                have w_141 : J_117 167 (3 * (0 + t) + 2) = J 167 (3 * (0 + t) + 2) := ((q_117).2.1 t ht9.1 ht9.2).2 2 (by decide) (by decide)
                rw [show (7 - (y + 1)).toNat = (7 - y).toNat - 1 from by omega, ← w_141] at x_141
                refine tz_goto (pc := 144) (tgt := 148) dX12_closedOf_144 (by decide) ?_
                refine tz_istore (pc := 148) (L2 := [_, _, _, _, _, _, _]) dX12_closedOf_148 (by decide) rfl ?_
                refine tz_aload_n (pc := 150) dX12_closedOf_150 rfl rfl ?_
                refine tz_iload_n (pc := 151) dX12_closedOf_151 rfl rfl ?_
                refine tz_iload (pc := 152) dX12_closedOf_152 rfl ?_
                refine tz_iload (pc := 154) dX12_closedOf_154 rfl ?_
                refine tz_iload (pc := 156) dX12_closedOf_156 rfl ?_
                have l0_158 := (q_141).1.2
                have t0_158 := (q_141).1.1.told
                refine tz_cV (pc := 158) (o_remade hl n _ _ _ _ _ (by omega) (by omega) (by omega) (by omega) s m_141 (q_141).1.1 (((q_141).2.2.1.2.2.1 9 rfl).trans hs) (by omega) (fun q9 => by have e9 := (q_141).ar ht9 ((q_141).2.2.1.2.2.2 170 rfl); rw [e9]; omega)) vl_X12_152 dX12_closedOf_158 o_164 rfl rfl (Nat.le_of_ble_eq_true rfl) ⟨(show 3 + 1 ≤ 5 + 1 * (r9 + 1) by omega), (show 8 + (5 + 11) + 40 * (3) ≤ 40 * (5 + 1 * (r9 + 1)) by omega)⟩ rfl rfl (Nat.le_of_ble_eq_true rfl) (Nat.le_of_ble_eq_true rfl) (fun r9 J_158 hq9 => ?_)
                obtain ⟨z_158, rfl, hz_158, m_158, g_158, h_158, x_158⟩ := hq9
                have q_158 := MG.tr q_141 g_158
                have f_158 := g_158.2.2.2
                have l_158 := g_158.1.2
                exact tz_iret (pc := 161) (z := z_158) dX12_closedOf_161 rfl (Nat.le_of_ble_eq_true rfl) (Nat.le_of_ble_eq_true rfl) ⟨Nat.le_refl _, Nat.le_add_right _ _⟩ ⟨_, rfl, (by omega), ⟨m_158, q_158, h_158, gr_c hM ht9 (by omega) d1 (by omega) (by omega) ((hC.2 t ht.1 ht.2 (fun v o9 => (hq v o9).1)).2 (Or.inl (by omega))) (Or.inr ⟨by omega, rfl, rfl⟩) (Or.inl ⟨by omega, x_117⟩) (Or.inl ⟨by omega, x_141⟩) (by have e7 := x_158; rw [show J_141 166 (0 + t) = J 166 (0 + t) from ((q_141).2.1 t ht9.1 ht9.2).1.1] at e7; exact e7)⟩⟩
          · refine tz_aload_n (pc := 83) dX12_closedOf_83 rfl rfl ?_
            refine tz_aload_n (pc := 84) dX12_closedOf_84 rfl rfl ?_
            refine tz_iload_n (pc := 85) dX12_closedOf_85 rfl rfl ?_
            refine tz_iconst (pc := 86) dX12_closedOf_86 ?_
            have l_87 := (q_65).1.2
            have tt_87 := (q_65).1.1.told
            refine tz_cV (pc := 87) (m_arg hl n _ _ _ (by omega) (by decide) 0 0 0 s m (q_65).1.1 (by omega) (by omega)) vl_X12_88 dX12_closedOf_87 o_164 rfl rfl (Nat.le_of_ble_eq_true rfl) ⟨(show 0 + 1 ≤ 5 + 1 * (r9 + 1) by omega), (show 8 + (3 + 11) + 40 * (0) ≤ 40 * (5 + 1 * (r9 + 1)) by omega)⟩ rfl rfl (Nat.le_of_ble_eq_true rfl) (Nat.le_of_ble_eq_true rfl) (fun r9 J_87 hq9 => ?_)
            obtain ⟨z_87, rfl, hz_87, rfl, hv_87⟩ := hq9
            have he_87 : J_65 167 (3 * (0 + t) + 0) = J 167 (3 * (0 + t) + 0) := ((q_65).2.1 t ht9.1 ht9.2).2 0 (by omega) (by omega)
            rw [he_87] at hv_87
            obtain rfl : J 167 (3 * (0 + t) + 0) = z_87 := hv_87
            refine tz_iload_n (pc := 90) dX12_closedOf_90 rfl rfl ?_
            refine tz_iconst (pc := 91) dX12_closedOf_91 ?_
            refine tz_iadd (pc := 92) (v := y + 1) dX12_closedOf_92 rfl ?_
            have l0_93 := (q_65).1.2
            have t0_93 := (q_65).1.1.told
            have a_93 := hM.arg (t := t) (i := 0) ht9 (by omega)
            refine tz_cV (pc := 93) (ih _ _ _ (by omega) (by omega) s m m0 q ρ O rk P (q_65).1.1 (((q_65).2.2.1.2.2.1 9 rfl).trans hs) (by omega) (by omega) (hC.mg hm (q_65)) (fun v o9 => by rw [(q_65).2.2.1.2.2.2 175 rfl]; exact hq v ((hC.1.1 t ht.1 ht.2).2 0 v (by omega) o9)) (by omega) (by omega)) vl_X12_158 dX12_closedOf_93 o_164 rfl rfl (Nat.le_of_ble_eq_true rfl) ⟨(show (5 + 1 * r9) + 1 ≤ 5 + 1 * (r9 + 1) by omega), (show 8 + (7 + 11) + 40 * ((5 + 1 * r9)) ≤ 40 * (5 + 1 * (r9 + 1)) by omega)⟩ rfl rfl (Nat.le_of_ble_eq_true rfl) (Nat.le_of_ble_eq_true rfl) (fun r9 J_93 hq9 => ?_)
            obtain ⟨z_93, rfl, hz_93, m_93, g_93, h_93, x_93⟩ := hq9
            have q_93 := MG.tr q_65 g_93
            have f_93 := g_93.2.2.2
            have l_93 := g_93.1.2
            have w_93 : J_65 167 (3 * (0 + t) + 0) = J 167 (3 * (0 + t) + 0) := ((q_65).2.1 t ht9.1 ht9.2).2 0 (by decide) (by decide)
            rw [show (7 - (y + 1)).toNat = (7 - y).toNat - 1 from by omega, ← w_93] at x_93
            refine tz_goto (pc := 96) (tgt := 100) dX12_closedOf_96 (by decide) ?_
            refine tz_istore (pc := 100) (L2 := [_, _, _, _, _, _, _]) dX12_closedOf_100 (by decide) rfl ?_
            refine tz_iload_n (pc := 102) dX12_closedOf_102 rfl rfl ?_
            refine tz_iconst (pc := 103) dX12_closedOf_103 ?_
            refine tz_icmp_le (pc := 104) (tgt := 123) dX12_closedOf_104 (by decide) (by omega) (by decide) (fun h_104 => ?_) (fun h_104 => ?_)
            · refine tz_iconst (pc := 123) dX12_closedOf_123 ?_
              refine tz_istore (pc := 124) (L2 := [_, _, _, _, _, _, _]) dX12_closedOf_124 (by decide) rfl ?_
              refine tz_iload_n (pc := 126) dX12_closedOf_126 rfl rfl ?_
              refine tz_iconst (pc := 127) dX12_closedOf_127 ?_
              refine tz_icmp_le (pc := 128) (tgt := 147) dX12_closedOf_128 (by decide) (by omega) (by decide) (fun h_128 => ?_) (fun h_128 => ?_)
              · refine tz_iconst (pc := 147) dX12_closedOf_147 ?_
                refine tz_istore (pc := 148) (L2 := [_, _, _, _, _, _, _]) dX12_closedOf_148 (by decide) rfl ?_
                refine tz_aload_n (pc := 150) dX12_closedOf_150 rfl rfl ?_
                refine tz_iload_n (pc := 151) dX12_closedOf_151 rfl rfl ?_
                refine tz_iload (pc := 152) dX12_closedOf_152 rfl ?_
                refine tz_iload (pc := 154) dX12_closedOf_154 rfl ?_
                refine tz_iload (pc := 156) dX12_closedOf_156 rfl ?_
                have l0_158 := (q_93).1.2
                have t0_158 := (q_93).1.1.told
                refine tz_cV (pc := 158) (o_remade hl n _ _ _ _ _ (by omega) (by omega) (by omega) (by omega) s m_93 (q_93).1.1 (((q_93).2.2.1.2.2.1 9 rfl).trans hs) (by omega) (fun q9 => by have e9 := (q_93).ar ht9 ((q_93).2.2.1.2.2.2 170 rfl); rw [e9]; omega)) vl_X12_152 dX12_closedOf_158 o_164 rfl rfl (Nat.le_of_ble_eq_true rfl) ⟨(show 3 + 1 ≤ 5 + 1 * (r9 + 1) by omega), (show 8 + (5 + 11) + 40 * (3) ≤ 40 * (5 + 1 * (r9 + 1)) by omega)⟩ rfl rfl (Nat.le_of_ble_eq_true rfl) (Nat.le_of_ble_eq_true rfl) (fun r9 J_158 hq9 => ?_)
                obtain ⟨z_158, rfl, hz_158, m_158, g_158, h_158, x_158⟩ := hq9
                have q_158 := MG.tr q_93 g_158
                have f_158 := g_158.2.2.2
                have l_158 := g_158.1.2
                exact tz_iret (pc := 161) (z := z_158) dX12_closedOf_161 rfl (Nat.le_of_ble_eq_true rfl) (Nat.le_of_ble_eq_true rfl) ⟨Nat.le_refl _, Nat.le_add_right _ _⟩ ⟨_, rfl, (by omega), ⟨m_158, q_158, h_158, gr_c hM ht9 (by omega) d1 (by omega) (by omega) ((hC.2 t ht.1 ht.2 (fun v o9 => (hq v o9).1)).2 (Or.inl (by omega))) (Or.inl ⟨by omega, x_93⟩) (Or.inr ⟨by omega, rfl, rfl⟩) (Or.inr ⟨by omega, rfl, rfl⟩) (by have e7 := x_158; rw [show J_93 166 (0 + t) = J 166 (0 + t) from ((q_93).2.1 t ht9.1 ht9.2).1.1] at e7; exact e7)⟩⟩
              · refine tz_aload_n (pc := 131) dX12_closedOf_131 rfl rfl ?_
                refine tz_aload_n (pc := 132) dX12_closedOf_132 rfl rfl ?_
                refine tz_iload_n (pc := 133) dX12_closedOf_133 rfl rfl ?_
                refine tz_iconst (pc := 134) dX12_closedOf_134 ?_
                have l_135 := (q_93).1.2
                have tt_135 := (q_93).1.1.told
                refine tz_cV (pc := 135) (m_arg hl n _ _ _ (by omega) (by decide) 0 0 0 s m_93 (q_93).1.1 (by omega) (by omega)) vl_X12_88 dX12_closedOf_135 o_164 rfl rfl (Nat.le_of_ble_eq_true rfl) ⟨(show 0 + 1 ≤ 5 + 1 * (r9 + 1) by omega), (show 8 + (3 + 11) + 40 * (0) ≤ 40 * (5 + 1 * (r9 + 1)) by omega)⟩ rfl rfl (Nat.le_of_ble_eq_true rfl) (Nat.le_of_ble_eq_true rfl) (fun r9 J_135 hq9 => ?_)
                obtain ⟨z_135, rfl, hz_135, rfl, hv_135⟩ := hq9
                have he_135 : J_93 167 (3 * (0 + t) + 2) = J 167 (3 * (0 + t) + 2) := ((q_93).2.1 t ht9.1 ht9.2).2 2 (by omega) (by omega)
                rw [he_135] at hv_135
                obtain rfl : J 167 (3 * (0 + t) + 2) = z_135 := hv_135
                refine tz_iload_n (pc := 138) dX12_closedOf_138 rfl rfl ?_
                refine tz_iconst (pc := 139) dX12_closedOf_139 ?_
                refine tz_iadd (pc := 140) (v := y + 1) dX12_closedOf_140 rfl ?_
                have l0_141 := (q_93).1.2
                have t0_141 := (q_93).1.1.told
                have a_141 := hM.arg (t := t) (i := 2) ht9 (by omega)
                refine tz_cV (pc := 141) (ih _ _ _ (by omega) (by omega) s m_93 m0 q ρ O rk P (q_93).1.1 (((q_93).2.2.1.2.2.1 9 rfl).trans hs) (by omega) (by omega) (hC.mg hm (q_93)) (fun v o9 => by rw [(q_93).2.2.1.2.2.2 175 rfl]; exact hq v ((hC.1.1 t ht.1 ht.2).2 2 v (by omega) o9)) (by omega) (by omega)) vl_X12_158 dX12_closedOf_141 o_164 rfl rfl (Nat.le_of_ble_eq_true rfl) ⟨(show (5 + 1 * r9) + 1 ≤ 5 + 1 * (r9 + 1) by omega), (show 8 + (7 + 11) + 40 * ((5 + 1 * r9)) ≤ 40 * (5 + 1 * (r9 + 1)) by omega)⟩ rfl rfl (Nat.le_of_ble_eq_true rfl) (Nat.le_of_ble_eq_true rfl) (fun r9 J_141 hq9 => ?_)
                obtain ⟨z_141, rfl, hz_141, m_141, g_141, h_141, x_141⟩ := hq9
                have q_141 := MG.tr q_93 g_141
                have f_141 := g_141.2.2.2
                have l_141 := g_141.1.2
                have w_141 : J_93 167 (3 * (0 + t) + 2) = J 167 (3 * (0 + t) + 2) := ((q_93).2.1 t ht9.1 ht9.2).2 2 (by decide) (by decide)
                rw [show (7 - (y + 1)).toNat = (7 - y).toNat - 1 from by omega, ← w_141] at x_141
                refine tz_goto (pc := 144) (tgt := 148) dX12_closedOf_144 (by decide) ?_
                refine tz_istore (pc := 148) (L2 := [_, _, _, _, _, _, _]) dX12_closedOf_148 (by decide) rfl ?_
                refine tz_aload_n (pc := 150) dX12_closedOf_150 rfl rfl ?_
                refine tz_iload_n (pc := 151) dX12_closedOf_151 rfl rfl ?_
                refine tz_iload (pc := 152) dX12_closedOf_152 rfl ?_
                refine tz_iload (pc := 154) dX12_closedOf_154 rfl ?_
                refine tz_iload (pc := 156) dX12_closedOf_156 rfl ?_
                have l0_158 := (q_141).1.2
                have t0_158 := (q_141).1.1.told
                refine tz_cV (pc := 158) (o_remade hl n _ _ _ _ _ (by omega) (by omega) (by omega) (by omega) s m_141 (q_141).1.1 (((q_141).2.2.1.2.2.1 9 rfl).trans hs) (by omega) (fun q9 => by have e9 := (q_141).ar ht9 ((q_141).2.2.1.2.2.2 170 rfl); rw [e9]; omega)) vl_X12_152 dX12_closedOf_158 o_164 rfl rfl (Nat.le_of_ble_eq_true rfl) ⟨(show 3 + 1 ≤ 5 + 1 * (r9 + 1) by omega), (show 8 + (5 + 11) + 40 * (3) ≤ 40 * (5 + 1 * (r9 + 1)) by omega)⟩ rfl rfl (Nat.le_of_ble_eq_true rfl) (Nat.le_of_ble_eq_true rfl) (fun r9 J_158 hq9 => ?_)
                obtain ⟨z_158, rfl, hz_158, m_158, g_158, h_158, x_158⟩ := hq9
                have q_158 := MG.tr q_141 g_158
                have f_158 := g_158.2.2.2
                have l_158 := g_158.1.2
                exact tz_iret (pc := 161) (z := z_158) dX12_closedOf_161 rfl (Nat.le_of_ble_eq_true rfl) (Nat.le_of_ble_eq_true rfl) ⟨Nat.le_refl _, Nat.le_add_right _ _⟩ ⟨_, rfl, (by omega), ⟨m_158, q_158, h_158, gr_c hM ht9 (by omega) d1 (by omega) (by omega) ((hC.2 t ht.1 ht.2 (fun v o9 => (hq v o9).1)).2 (Or.inl (by omega))) (Or.inl ⟨by omega, x_93⟩) (Or.inr ⟨by omega, rfl, rfl⟩) (Or.inl ⟨by omega, x_141⟩) (by have e7 := x_158; rw [show J_141 166 (0 + t) = J 166 (0 + t) from ((q_141).2.1 t ht9.1 ht9.2).1.1] at e7; exact e7)⟩⟩
            · refine tz_aload_n (pc := 107) dX12_closedOf_107 rfl rfl ?_
              refine tz_aload_n (pc := 108) dX12_closedOf_108 rfl rfl ?_
              refine tz_iload_n (pc := 109) dX12_closedOf_109 rfl rfl ?_
              refine tz_iconst (pc := 110) dX12_closedOf_110 ?_
              have l_111 := (q_93).1.2
              have tt_111 := (q_93).1.1.told
              refine tz_cV (pc := 111) (m_arg hl n _ _ _ (by omega) (by decide) 0 0 0 s m_93 (q_93).1.1 (by omega) (by omega)) vl_X12_88 dX12_closedOf_111 o_164 rfl rfl (Nat.le_of_ble_eq_true rfl) ⟨(show 0 + 1 ≤ 5 + 1 * (r9 + 1) by omega), (show 8 + (3 + 11) + 40 * (0) ≤ 40 * (5 + 1 * (r9 + 1)) by omega)⟩ rfl rfl (Nat.le_of_ble_eq_true rfl) (Nat.le_of_ble_eq_true rfl) (fun r9 J_111 hq9 => ?_)
              obtain ⟨z_111, rfl, hz_111, rfl, hv_111⟩ := hq9
              have he_111 : J_93 167 (3 * (0 + t) + 1) = J 167 (3 * (0 + t) + 1) := ((q_93).2.1 t ht9.1 ht9.2).2 1 (by omega) (by omega)
              rw [he_111] at hv_111
              obtain rfl : J 167 (3 * (0 + t) + 1) = z_111 := hv_111
              refine tz_iload_n (pc := 114) dX12_closedOf_114 rfl rfl ?_
              refine tz_iconst (pc := 115) dX12_closedOf_115 ?_
              refine tz_iadd (pc := 116) (v := y + 1) dX12_closedOf_116 rfl ?_
              have l0_117 := (q_93).1.2
              have t0_117 := (q_93).1.1.told
              have a_117 := hM.arg (t := t) (i := 1) ht9 (by omega)
              refine tz_cV (pc := 117) (ih _ _ _ (by omega) (by omega) s m_93 m0 q ρ O rk P (q_93).1.1 (((q_93).2.2.1.2.2.1 9 rfl).trans hs) (by omega) (by omega) (hC.mg hm (q_93)) (fun v o9 => by rw [(q_93).2.2.1.2.2.2 175 rfl]; exact hq v ((hC.1.1 t ht.1 ht.2).2 1 v (by omega) o9)) (by omega) (by omega)) vl_X12_158 dX12_closedOf_117 o_164 rfl rfl (Nat.le_of_ble_eq_true rfl) ⟨(show (5 + 1 * r9) + 1 ≤ 5 + 1 * (r9 + 1) by omega), (show 8 + (7 + 11) + 40 * ((5 + 1 * r9)) ≤ 40 * (5 + 1 * (r9 + 1)) by omega)⟩ rfl rfl (Nat.le_of_ble_eq_true rfl) (Nat.le_of_ble_eq_true rfl) (fun r9 J_117 hq9 => ?_)
              obtain ⟨z_117, rfl, hz_117, m_117, g_117, h_117, x_117⟩ := hq9
              have q_117 := MG.tr q_93 g_117
              have f_117 := g_117.2.2.2
              have l_117 := g_117.1.2
              have w_117 : J_93 167 (3 * (0 + t) + 1) = J 167 (3 * (0 + t) + 1) := ((q_93).2.1 t ht9.1 ht9.2).2 1 (by decide) (by decide)
              rw [show (7 - (y + 1)).toNat = (7 - y).toNat - 1 from by omega, ← w_117] at x_117
              refine tz_goto (pc := 120) (tgt := 124) dX12_closedOf_120 (by decide) ?_
              refine tz_istore (pc := 124) (L2 := [_, _, _, _, _, _, _]) dX12_closedOf_124 (by decide) rfl ?_
              refine tz_iload_n (pc := 126) dX12_closedOf_126 rfl rfl ?_
              refine tz_iconst (pc := 127) dX12_closedOf_127 ?_
              refine tz_icmp_le (pc := 128) (tgt := 147) dX12_closedOf_128 (by decide) (by omega) (by decide) (fun h_128 => ?_) (fun h_128 => ?_)
              · refine tz_iconst (pc := 147) dX12_closedOf_147 ?_
                refine tz_istore (pc := 148) (L2 := [_, _, _, _, _, _, _]) dX12_closedOf_148 (by decide) rfl ?_
                refine tz_aload_n (pc := 150) dX12_closedOf_150 rfl rfl ?_
                refine tz_iload_n (pc := 151) dX12_closedOf_151 rfl rfl ?_
                refine tz_iload (pc := 152) dX12_closedOf_152 rfl ?_
                refine tz_iload (pc := 154) dX12_closedOf_154 rfl ?_
                refine tz_iload (pc := 156) dX12_closedOf_156 rfl ?_
                have l0_158 := (q_117).1.2
                have t0_158 := (q_117).1.1.told
                refine tz_cV (pc := 158) (o_remade hl n _ _ _ _ _ (by omega) (by omega) (by omega) (by omega) s m_117 (q_117).1.1 (((q_117).2.2.1.2.2.1 9 rfl).trans hs) (by omega) (fun q9 => by have e9 := (q_117).ar ht9 ((q_117).2.2.1.2.2.2 170 rfl); rw [e9]; omega)) vl_X12_152 dX12_closedOf_158 o_164 rfl rfl (Nat.le_of_ble_eq_true rfl) ⟨(show 3 + 1 ≤ 5 + 1 * (r9 + 1) by omega), (show 8 + (5 + 11) + 40 * (3) ≤ 40 * (5 + 1 * (r9 + 1)) by omega)⟩ rfl rfl (Nat.le_of_ble_eq_true rfl) (Nat.le_of_ble_eq_true rfl) (fun r9 J_158 hq9 => ?_)
                obtain ⟨z_158, rfl, hz_158, m_158, g_158, h_158, x_158⟩ := hq9
                have q_158 := MG.tr q_117 g_158
                have f_158 := g_158.2.2.2
                have l_158 := g_158.1.2
                exact tz_iret (pc := 161) (z := z_158) dX12_closedOf_161 rfl (Nat.le_of_ble_eq_true rfl) (Nat.le_of_ble_eq_true rfl) ⟨Nat.le_refl _, Nat.le_add_right _ _⟩ ⟨_, rfl, (by omega), ⟨m_158, q_158, h_158, gr_c hM ht9 (by omega) d1 (by omega) (by omega) ((hC.2 t ht.1 ht.2 (fun v o9 => (hq v o9).1)).2 (Or.inl (by omega))) (Or.inl ⟨by omega, x_93⟩) (Or.inl ⟨by omega, x_117⟩) (Or.inr ⟨by omega, rfl, rfl⟩) (by have e7 := x_158; rw [show J_117 166 (0 + t) = J 166 (0 + t) from ((q_117).2.1 t ht9.1 ht9.2).1.1] at e7; exact e7)⟩⟩
              · refine tz_aload_n (pc := 131) dX12_closedOf_131 rfl rfl ?_
                refine tz_aload_n (pc := 132) dX12_closedOf_132 rfl rfl ?_
                refine tz_iload_n (pc := 133) dX12_closedOf_133 rfl rfl ?_
                refine tz_iconst (pc := 134) dX12_closedOf_134 ?_
                have l_135 := (q_117).1.2
                have tt_135 := (q_117).1.1.told
                refine tz_cV (pc := 135) (m_arg hl n _ _ _ (by omega) (by decide) 0 0 0 s m_117 (q_117).1.1 (by omega) (by omega)) vl_X12_88 dX12_closedOf_135 o_164 rfl rfl (Nat.le_of_ble_eq_true rfl) ⟨(show 0 + 1 ≤ 5 + 1 * (r9 + 1) by omega), (show 8 + (3 + 11) + 40 * (0) ≤ 40 * (5 + 1 * (r9 + 1)) by omega)⟩ rfl rfl (Nat.le_of_ble_eq_true rfl) (Nat.le_of_ble_eq_true rfl) (fun r9 J_135 hq9 => ?_)
                obtain ⟨z_135, rfl, hz_135, rfl, hv_135⟩ := hq9
                have he_135 : J_117 167 (3 * (0 + t) + 2) = J 167 (3 * (0 + t) + 2) := ((q_117).2.1 t ht9.1 ht9.2).2 2 (by omega) (by omega)
                rw [he_135] at hv_135
                obtain rfl : J 167 (3 * (0 + t) + 2) = z_135 := hv_135
                refine tz_iload_n (pc := 138) dX12_closedOf_138 rfl rfl ?_
                refine tz_iconst (pc := 139) dX12_closedOf_139 ?_
                refine tz_iadd (pc := 140) (v := y + 1) dX12_closedOf_140 rfl ?_
                have l0_141 := (q_117).1.2
                have t0_141 := (q_117).1.1.told
                have a_141 := hM.arg (t := t) (i := 2) ht9 (by omega)
                refine tz_cV (pc := 141) (ih _ _ _ (by omega) (by omega) s m_117 m0 q ρ O rk P (q_117).1.1 (((q_117).2.2.1.2.2.1 9 rfl).trans hs) (by omega) (by omega) (hC.mg hm (q_117)) (fun v o9 => by rw [(q_117).2.2.1.2.2.2 175 rfl]; exact hq v ((hC.1.1 t ht.1 ht.2).2 2 v (by omega) o9)) (by omega) (by omega)) vl_X12_158 dX12_closedOf_141 o_164 rfl rfl (Nat.le_of_ble_eq_true rfl) ⟨(show (5 + 1 * r9) + 1 ≤ 5 + 1 * (r9 + 1) by omega), (show 8 + (7 + 11) + 40 * ((5 + 1 * r9)) ≤ 40 * (5 + 1 * (r9 + 1)) by omega)⟩ rfl rfl (Nat.le_of_ble_eq_true rfl) (Nat.le_of_ble_eq_true rfl) (fun r9 J_141 hq9 => ?_)
                obtain ⟨z_141, rfl, hz_141, m_141, g_141, h_141, x_141⟩ := hq9
                have q_141 := MG.tr q_117 g_141
                have f_141 := g_141.2.2.2
                have l_141 := g_141.1.2
                have w_141 : J_117 167 (3 * (0 + t) + 2) = J 167 (3 * (0 + t) + 2) := ((q_117).2.1 t ht9.1 ht9.2).2 2 (by decide) (by decide)
                rw [show (7 - (y + 1)).toNat = (7 - y).toNat - 1 from by omega, ← w_141] at x_141
                refine tz_goto (pc := 144) (tgt := 148) dX12_closedOf_144 (by decide) ?_
                refine tz_istore (pc := 148) (L2 := [_, _, _, _, _, _, _]) dX12_closedOf_148 (by decide) rfl ?_
                refine tz_aload_n (pc := 150) dX12_closedOf_150 rfl rfl ?_
                refine tz_iload_n (pc := 151) dX12_closedOf_151 rfl rfl ?_
                refine tz_iload (pc := 152) dX12_closedOf_152 rfl ?_
                refine tz_iload (pc := 154) dX12_closedOf_154 rfl ?_
                refine tz_iload (pc := 156) dX12_closedOf_156 rfl ?_
                have l0_158 := (q_141).1.2
                have t0_158 := (q_141).1.1.told
                refine tz_cV (pc := 158) (o_remade hl n _ _ _ _ _ (by omega) (by omega) (by omega) (by omega) s m_141 (q_141).1.1 (((q_141).2.2.1.2.2.1 9 rfl).trans hs) (by omega) (fun q9 => by have e9 := (q_141).ar ht9 ((q_141).2.2.1.2.2.2 170 rfl); rw [e9]; omega)) vl_X12_152 dX12_closedOf_158 o_164 rfl rfl (Nat.le_of_ble_eq_true rfl) ⟨(show 3 + 1 ≤ 5 + 1 * (r9 + 1) by omega), (show 8 + (5 + 11) + 40 * (3) ≤ 40 * (5 + 1 * (r9 + 1)) by omega)⟩ rfl rfl (Nat.le_of_ble_eq_true rfl) (Nat.le_of_ble_eq_true rfl) (fun r9 J_158 hq9 => ?_)
                obtain ⟨z_158, rfl, hz_158, m_158, g_158, h_158, x_158⟩ := hq9
                have q_158 := MG.tr q_141 g_158
                have f_158 := g_158.2.2.2
                have l_158 := g_158.1.2
                exact tz_iret (pc := 161) (z := z_158) dX12_closedOf_161 rfl (Nat.le_of_ble_eq_true rfl) (Nat.le_of_ble_eq_true rfl) ⟨Nat.le_refl _, Nat.le_add_right _ _⟩ ⟨_, rfl, (by omega), ⟨m_158, q_158, h_158, gr_c hM ht9 (by omega) d1 (by omega) (by omega) ((hC.2 t ht.1 ht.2 (fun v o9 => (hq v o9).1)).2 (Or.inl (by omega))) (Or.inl ⟨by omega, x_93⟩) (Or.inl ⟨by omega, x_117⟩) (Or.inl ⟨by omega, x_141⟩) (by have e7 := x_158; rw [show J_141 166 (0 + t) = J 166 (0 + t) from ((q_141).2.1 t ht9.1 ht9.2).1.1] at e7; exact e7)⟩⟩
        · refine tz_if_eqF (pc := 68) (tgt := 73) (by decide) dX12_closedOf_68 (by decide) (by decide) ?_
          refine tz_iconst (pc := 71) dX12_closedOf_71 ?_
          exact tz_iret (pc := 72) (z := 0) dX12_closedOf_72 rfl (Nat.le_of_ble_eq_true rfl) (Nat.le_of_ble_eq_true rfl) ⟨Nat.le_refl _, Nat.le_add_right _ _⟩ ⟨_, rfl, (by decide), ⟨m, q_65, fun q9 => by omega, gr_u (by omega) d1 (by omega)⟩⟩
    · refine tz_iconst (pc := 7) dX12_closedOf_7 ?_
      exact tz_iret (pc := 8) (z := 0) dX12_closedOf_8 rfl (Nat.le_of_ble_eq_true rfl) (Nat.le_of_ble_eq_true rfl) ⟨Nat.le_refl _, Nat.le_add_right _ _⟩ ⟨_, rfl, (by decide), ⟨m, g0, fun q9 => by omega, gr_f (by omega)⟩⟩

theorem crm_mk {J : zJ} {β : Int → Int} {s m : Int} (hM : MS J 0 0 0 s m) (hy : gOK (J 175) m) (hβ : ∀ v, 0 ≤ v → v < 8 → β v = J 175 v) {rk : Int → Nat} {P : Int → Prop} (n1 : ∀ v, (0 ≤ v ∧ v < 8) → P v → ¬ β v = -1 → rk v < 8) (n3 : WTb (tb0 J) β rk P) : CRm (Occ J 0 0) rk P (rho β (fun t => tb0 J 166 (0 + t)) 8) J m := by
  have h3 : ∀ v, (0 ≤ v ∧ v < 8) → P v → ¬ β v = -1 → ∀ u, Occ J 0 0 (β v) u → P u ∧ (¬ β u = -1 → rk u < rk v) := fun v hv p b u o => n3 v hv p b u ((hM.oc (by have := hβ v hv.1 hv.2; have := hy v hv.1 hv.2; omega)).2 o)
  refine ⟨⟨fun u a c => ⟨fun q => Occ.v q, fun i v hi o => Occ.a hi o⟩, hy, fun v hv p b u o => ?_⟩, fun t a b ho => ?_⟩
  · have y := hy v hv.1 hv.2
    have hu := o.rg hM (by omega)
    rw [← hβ v hv.1 hv.2] at b o
    rw [← hβ u hu.1 hu.2]
    exact h3 v hv p b u o
  · have ht : 0 ≤ t ∧ t < m := ⟨a, b⟩
    have hd := (hM.ar ht).2.1
    have e6 := (hM.oa ht).1
    refine ⟨fun q1 q2 => ?_, fun q => ?_⟩
    · have e := hβ (-1 - J 166 (0 + t)) (by omega) (by omega)
      rw [← e] at q2 ⊢
      have st : rho β (fun t => tb0 J 166 (0 + t)) 8 t = rho β (fun t => tb0 J 166 (0 + t)) 7 (β (-1 - J 166 (0 + t))) := by
        rw [rho_s]
        (try dsimp only)
        rw [e6, if_pos ⟨q1, q2⟩]
      rw [st]
      have p := ho _ (Occ.v q1)
      have rv := n1 _ (by omega) p q2
      have y := hy (-1 - J 166 (0 + t)) (by omega) (by omega)
      refine rho_q (O := Occ J 0 0) (rk := rk) (P := P) (m := m) (fun t ht => ?_) (fun v a b => ?_) (fun t ht q => ?_) h3 7 _ (by omega) (fun u o => ?_) 7 8 (by decide) (by decide)
      · (try dsimp only)
        rw [(hM.oa ht).1]
        exact (hM.ar ht).2.1.1
      · rw [hβ v a b]; exact hy v a b
      · (try dsimp only at q ⊢)
        rw [(hM.oa ht).1] at q ⊢
        exact Occ.v q
      · obtain ⟨x, y⟩ := h3 _ (by omega) p q2 u o
        exact ⟨x, fun n => by have := y n; omega⟩
    · refine rho_n (fun w => ?_) 8
      (try dsimp only at w)
      rw [e6] at w
      rcases q with q | q
      · omega
      · have e := hβ (-1 - J 166 (0 + t)) (by omega) (by omega)
        exact w.2 (e.trans q)
theorem o_closed {l : Launch} {G : tb_G} (hl : l.stackTraces = false) (n : Nat) (J : zJ) (t : Int) (hr_t : -2147483648 ≤ t ∧ t < 2147483648) (s m : Int) (β : Int → Int) (hM : MS J 0 0 0 s m) (hs : J 164 9 = s) (ht : 0 ≤ t ∧ t < m) (hy : gOK (J 175) m) (hβ : ∀ v, 0 ≤ v → v < 8 → β v = J 175 v) (hN : NRb (tb0 J) β t) : tz_Ok l G M_X12_closedOf 22 0 0 [.ref 164, zi t, zi 1] n J (zqi (fun z J' => ∃ m', MG [] [] (fun _ => false) J' J 0 0 0 s m m' ∧ (J' 164 21 = 0 → 0 ≤ z ∧ z < m') ∧ (tb0 J', z) = grO (rho β (fun t => tb0 J 166 (0 + t)) 8) 6 (tb0 J) t)) zN := by
  have hb : ∀ v u, (0 ≤ v ∧ v < 8) → ¬ β v = -1 → Occ (tb0 J) 0 0 (β v) u → 0 ≤ u ∧ u < 8 := fun v u hv b o => by
    have e := hβ v hv.1 hv.2
    have y := hy v hv.1 hv.2
    exact ((hM.oc (by omega)).1 o).rg hM (by omega)
  obtain ⟨rk, P, n1, n2, n3⟩ := hN.n hb
  refine o_closedR hl n 17 J t 1 hr_t (by decide) s m m 8 (rho β (fun t => tb0 J 166 (0 + t)) 8) (Occ J 0 0) rk P hM hs (Int.le_refl _) ht (crm_mk hM hy hβ n1 n3) (fun v o => ?_) (by decide) (by decide)
  have hv := o.rg hM ht
  have p := n2 v ((hM.oc ht).2 o)
  exact ⟨p, fun b => n1 v hv p (by rw [hβ v hv.1 hv.2]; exact b)⟩
end
section
/-! ===== close, exact ===== -/
theorem NRb.z {S : zJ} {β : Int → Int} {t v : Int} : NRb (zup S 164 21 v) β t ↔ NRb S β t := by
  have eo : ∀ t u, Occ (zup S 164 21 v) 0 0 t u ↔ Occ S 0 0 t u := fun t u => ⟨fun ⟨k, q⟩ => ⟨k, (occ_cg (J' := zup S 164 21 v) (J := S) rfl rfl rfl k t u).1 q⟩, fun ⟨k, q⟩ => ⟨k, (occ_cg (J' := zup S 164 21 v) (J := S) rfl rfl rfl k t u).2 q⟩⟩
  constructor
  · rintro ⟨rk, P, h1, h2, h3⟩
    exact ⟨rk, P, h1, fun v o => h2 v ((eo t v).2 o), fun v hv p b u o => h3 v hv p b u ((eo _ u).2 o)⟩
  · rintro ⟨rk, P, h1, h2, h3⟩
    exact ⟨rk, P, h1, fun v o => h2 v ((eo t v).1 o), fun v hv p b u o => h3 v hv p b u ((eo _ u).1 o)⟩
theorem bO_r {J S : zJ} (h : RW (J 19) (S 165)) : ∀ v, 0 ≤ v → v < 8 → bO S v = J 19 (7 + v) := fun v a b => by
  have := h.2.2.2.2 v a b
  unfold bO
  omega
set_option maxHeartbeats 4000000 in
set_option maxRecDepth 100000 in
theorem v_close {l : Launch} {G : tb_G} (hl : l.stackTraces = false) (n : Nat) (J : zJ) (t : Int) (hr_t : -2147483648 ≤ t ∧ t < 2147483648) (m : Int) (S : zJ) (pn : Int) (RR : Int → Int → Int) (hI : CI J m) (h9 : J 145 10 < 1000000000) (cc : CAL J S pn RR) (h21 : S 164 21 = 0) : tz_Ok l G M_X11_close 36 0 0 [.ref 0, zi t] n J (zqi (fun z J' => CQ J' J ∧ (((0 ≤ t ∧ t < J 6 12) ∧ NRb S (bO S) t ∧ ED S pn RR (cloF S t) J' z) ∨ ((0 ≤ t ∧ t < J 6 12) ∧ ¬ NRb S (bO S) t ∧ z = -2 ∧ CAL J' S pn RR) ∨ (¬ (0 ≤ t ∧ t < J 6 12) ∧ z = -1 ∧ CAL J' S pn RR)))) zN := by
  refine tz_Ok.of hl (by decide +kernel) rfl (tb_c1 rfl) (Nat.le_of_ble_eq_true rfl) ?_
  show tz_At l G M_X11_close (tb_rm 36 0 0) none (tb_ZM G 0 0 (zQ n 0 (zqi (fun z J' => CQ J' J ∧ (((0 ≤ t ∧ t < J 6 12) ∧ NRb S (bO S) t ∧ ED S pn RR (cloF S t) J' z) ∨ ((0 ≤ t ∧ t < J 6 12) ∧ ¬ NRb S (bO S) t ∧ z = -2 ∧ CAL J' S pn RR) ∨ (¬ (0 ≤ t ∧ t < J 6 12) ∧ z = -1 ∧ CAL J' S pn RR))))) (zX n 0 zN)) 0 0 n J 0 [some (.ref 0), some (zi t)] []
  have hC := hI.1.1.1
  have hm := hI.1.1.2.1
  have hL := hI.1.1.2.2
  have hb := hC.told
  have wb := cc.2.1.b hL
  refine tz_aload_n (pc := 0) dX11_close_0 rfl rfl ?_
  refine tz_fR (pc := 1) dX11_close_1 fl_X11_29 r_0_1 ?_
  refine tz_fR (pc := 4) dX11_close_4 fl_X11_49 r_5_0 ?_
  refine tz_iload_n (pc := 7) dX11_close_7 rfl rfl ?_
  refine tz_cV (pc := 8) (c_has hl n _ _ (by omega)) vl_X11_304 dX11_close_8 o_6 rfl rfl (Nat.le_of_ble_eq_true rfl) ⟨(Nat.le_of_ble_eq_true rfl), (Nat.le_of_ble_eq_true rfl)⟩ rfl rfl (Nat.le_of_ble_eq_true rfl) (Nat.le_of_ble_eq_true rfl) (fun r9 J_8 hq9 => ?_)
  obtain ⟨z_8, rfl, hz_8, rfl, rfl⟩ := hq9
  by_cases hw_11 : 0 ≤ t ∧ t < J 6 12
  · rw [show (if 0 ≤ t ∧ t < J 6 12 then 1 else 0 : Int) = 1 from if_pos hw_11]
    refine tz_if_neT (pc := 11) (tgt := 21) (by decide) dX11_close_11 (by decide) (by decide) ?_
    refine tz_aload_n (pc := 21) dX11_close_21 rfl rfl ?_
    refine tz_fR (pc := 22) dX11_close_22 fl_X11_62 r_0_7 ?_
    refine tz_iload_n (pc := 25) dX11_close_25 rfl rfl ?_
    refine tz_aload_n (pc := 26) dX11_close_26 rfl rfl ?_
    refine tz_fR (pc := 27) dX11_close_27 fl_X11_29 r_0_1 ?_
    refine tz_fR (pc := 30) dX11_close_30 fl_X11_156 r_5_1 ?_
    refine tz_fR (pc := 33) dX11_close_33 fl_X11_167 r_18_0 ?_
    refine tz_bipush (pc := 36) dX11_close_36 (by decide) ?_
    refine tz_cV (pc := 38) (x_hasRing hl n _ _ (by omega) m hC hm hL.2.1 (by omega)) vl_X11_312 dX11_close_38 o_141 rfl rfl (Nat.le_of_ble_eq_true rfl) ⟨(Nat.le_of_ble_eq_true rfl), (Nat.le_of_ble_eq_true rfl)⟩ rfl rfl (Nat.le_of_ble_eq_true rfl) (Nat.le_of_ble_eq_true rfl) (fun r9 J_38 hq9 => ?_)
    obtain ⟨z_38, rfl, hz_38, rfl, zb9, rn9, ry9⟩ := hq9
    refine tz_if_eq (pc := 41) (tgt := 52) dX11_close_41 (by decide) (by omega) (fun h_41 => ?_) (fun h_41 => ?_)
    · refine tz_aload_n (pc := 52) dX11_close_52 rfl rfl ?_
      refine tz_fR (pc := 53) dX11_close_53 fl_X11_29 r_0_1 ?_
      refine tz_cV (pc := 56) (c_begin hl n _) vl_X11_287 dX11_close_56 o_5 rfl rfl (Nat.le_of_ble_eq_true rfl) ⟨(Nat.le_of_ble_eq_true rfl), (Nat.le_of_ble_eq_true rfl)⟩ rfl rfl (Nat.le_of_ble_eq_true rfl) (Nat.le_of_ble_eq_true rfl) (fun r9 Jb hq9 => ?_)
      obtain ⟨rfl, hj⟩ := hq9
      have hb9 : zOf (zbut [19, 61]) Jb J := by rw [← hj]; exact zOf.cp rfl (zOf.up rfl zOf.rf)
      have hb19 : ∀ k, ¬ k = 0 → Jb 19 k = J 19 k := fun k hk => by rw [← hj, zcp_nc (by decide), zup_ne hk]
      have a0 : AC Jb m m := by rw [← hj]; exact hI.begin
      have hb6 := a0.1.1.2.1
      obtain ⟨cb, kb, lb⟩ := cc.begin hI hj
      refine tz_aload_n (pc := 59) dX11_close_59 rfl rfl ?_
      refine tz_aload_n (pc := 60) dX11_close_60 rfl rfl ?_
      refine tz_fR (pc := 61) dX11_close_61 fl_X11_62 r_0_7 ?_
      refine tz_iload_n (pc := 64) dX11_close_64 rfl rfl ?_
      refine tz_aload_n (pc := 65) dX11_close_65 rfl rfl ?_
      refine tz_fR (pc := 66) dX11_close_66 fl_X11_29 r_0_1 ?_
      refine tz_fR (pc := 69) dX11_close_69 fl_X11_156 r_5_1 ?_
      refine tz_fR (pc := 72) dX11_close_72 fl_X11_167 r_18_0 ?_
      refine tz_bipush (pc := 75) dX11_close_75 (by decide) ?_
      refine tz_cV (pc := 77) (x_closed hl n _ _ (by omega) m S a0.1.1.1 a0.1.1.2.1 (by omega) a0.1.1.2.2.2.1 h21 cb.1 (bO_r cb.2.1) (rn9 (by omega) S (bO S) cc.1 (bO_r cc.2.1))) vl_X11_316 dX11_close_77 o_141 rfl rfl (Nat.le_of_ble_eq_true rfl) ⟨(Nat.le_of_ble_eq_true rfl), (Nat.le_of_ble_eq_true rfl)⟩ rfl rfl (Nat.le_of_ble_eq_true rfl) (Nat.le_of_ble_eq_true rfl) (fun r9 J_77 hq9 => ?_)
      obtain ⟨z_77, rfl, hz_77, m1, g1, h1, x1⟩ := hq9
      have a1 := a0.gx0 g1 rfl
      have o1 := x1.q cb.2.1 a0.1.1.2.2 (g1.2.2.2.2 19 rfl) (fun k h => grO_5 6 S t k h)
      refine tz_cV (pc := 80) (x_settled hl n _ _ (by omega) m m1 a1) vl_X11_293 dX11_close_80 o_0 rfl rfl (Nat.le_of_ble_eq_true rfl) ⟨(Nat.le_of_ble_eq_true rfl), (Nat.le_of_ble_eq_true rfl)⟩ rfl rfl (Nat.le_of_ble_eq_true rfl) (Nat.le_of_ble_eq_true rfl) (fun r9 J_80 hq9 => ?_)
      obtain ⟨z_80, rfl, hz_80, s9, s8⟩ := hq9
      exact tz_iret (pc := 83) (z := z_80) dX11_close_83 rfl (Nat.le_of_ble_eq_true rfl) (Nat.le_of_ble_eq_true rfl) ⟨Nat.le_refl _, Nat.le_add_right _ _⟩ ⟨_, rfl, (by omega), ⟨(s9.cq (by rw [g1.2.2.2.2 145 rfl, hb9 145 rfl]; omega) ((g1.2.2.2.2 0 rfl).trans (hb9 0 rfl)) ((g1.2.2.2.2.mono (fun c hc => by have := of_decide_eq_true hc; simp [zbut]; omega)).tr (hb9.mono (fun c hc => by have := of_decide_eq_true hc; simp [zbut]; omega)))), Or.inl ⟨by omega, rn9 (by omega) S (bO S) cc.1 (bO_r cc.2.1), act_end cc hI hj g1 rfl o1 s8⟩⟩⟩
    · refine tz_aload_n (pc := 44) dX11_close_44 rfl rfl ?_
      refine tz_iconst (pc := 45) dX11_close_45 ?_
      refine tz_bipush (pc := 46) dX11_close_46 (by decide) ?_
      refine tz_cV (pc := 48) (c_refused hl n _ _ _ (by decide) (by omega) (by decide)) vl_X11_284 dX11_close_48 o_0 rfl rfl (Nat.le_of_ble_eq_true rfl) ⟨(Nat.le_of_ble_eq_true rfl), (Nat.le_of_ble_eq_true rfl)⟩ rfl rfl (Nat.le_of_ble_eq_true rfl) (Nat.le_of_ble_eq_true rfl) (fun r9 J_48 hq9 => ?_)
      obtain ⟨z_48, rfl, hz_48, f9, rfl⟩ := hq9
      exact tz_iret (pc := 51) (z := (-2)) dX11_close_51 rfl (Nat.le_of_ble_eq_true rfl) (Nat.le_of_ble_eq_true rfl) ⟨Nat.le_refl _, Nat.le_add_right _ _⟩ ⟨_, rfl, (by decide), ⟨(SQ.cq ⟨⟨m, hI.st f9⟩, f9 145 rfl, f9 0 rfl, (f9.mono (fun c hc => by have := of_decide_eq_true hc; simp [zbut]; omega))⟩ (by omega) rfl zOf.rf), Or.inr (Or.inl ⟨by omega, ry9 (by omega) S (bO S) cc.1 (bO_r cc.2.1), rfl, cc.st hI f9⟩)⟩⟩
  · rw [show (if 0 ≤ t ∧ t < J 6 12 then 1 else 0 : Int) = 0 from if_neg hw_11]
    refine tz_if_neF (pc := 11) (tgt := 21) (by decide) dX11_close_11 (by decide) (by decide) ?_
    refine tz_aload_n (pc := 14) dX11_close_14 rfl rfl ?_
    refine tz_iconst (pc := 15) dX11_close_15 ?_
    refine tz_iconst (pc := 16) dX11_close_16 ?_
    refine tz_cV (pc := 17) (c_refused hl n _ _ _ (by decide) (by omega) (by decide)) vl_X11_284 dX11_close_17 o_0 rfl rfl (Nat.le_of_ble_eq_true rfl) ⟨(Nat.le_of_ble_eq_true rfl), (Nat.le_of_ble_eq_true rfl)⟩ rfl rfl (Nat.le_of_ble_eq_true rfl) (Nat.le_of_ble_eq_true rfl) (fun r9 J_17 hq9 => ?_)
    obtain ⟨z_17, rfl, hz_17, f9, rfl⟩ := hq9
    exact tz_iret (pc := 20) (z := (-1)) dX11_close_20 rfl (Nat.le_of_ble_eq_true rfl) (Nat.le_of_ble_eq_true rfl) ⟨Nat.le_refl _, Nat.le_add_right _ _⟩ ⟨_, rfl, (by decide), ⟨(SQ.cq ⟨⟨m, hI.st f9⟩, f9 145 rfl, f9 0 rfl, (f9.mono (fun c hc => by have := of_decide_eq_true hc; simp [zbut]; omega))⟩ (by omega) rfl zOf.rf), Or.inr (Or.inr ⟨by omega, rfl, cc.st hI f9⟩)⟩⟩

theorem AE4 {S J' Jb J : zJ} {F : zJ × Int} {n z : Int} {R : Int → Int → Int} {P P' Q : Prop} (q : MQr J' J) (b : MFI Jb J) (e : MED S n R F J' z ∧ MFI J' Jb) (p : P) (p' : P') : MQr J' J ∧ MFI J' J ∧ ((P ∧ P' ∧ MED S n R F J' z) ∨ Q) := ⟨q, b.tr e.2, Or.inl ⟨p, p', e.1⟩⟩
set_option maxHeartbeats 4000000 in
set_option maxRecDepth 100000 in
theorem v_qclose {l : Launch} {G : tb_G} (hl : l.stackTraces = false) (n : Nat) (J : zJ) (x : Int) (hr_x : -2147483648 ≤ x ∧ x < 2147483648) (m : Int) (pn : Int) (RR : Int → Int → Int) (hI : MI J m) (u9 : MUr J pn RR) : tz_Ok l G M_X12_close 23 0 0 [.ref 164, zi x] n J (zqi (fun z J' => MQr J' J ∧ MFI J' J ∧ (((0 ≤ x ∧ x < J 165 0) ∧ NRb (tbz J) (bO (tbz J)) x ∧ MED (tbz J) pn RR (cloF (tbz J) x) J' z) ∨ ((0 ≤ x ∧ x < J 165 0) ∧ ¬ NRb (tbz J) (bO (tbz J)) x ∧ z = -2 ∧ MBT J' (tbz J) ∧ MUr J' pn RR) ∨ (¬ (0 ≤ x ∧ x < J 165 0) ∧ z = -1 ∧ MBT J' (tbz J) ∧ MUr J' pn RR)))) zN := by
  refine tz_Ok.of hl (by decide +kernel) rfl (tb_c1 rfl) (Nat.le_of_ble_eq_true rfl) ?_
  show tz_At l G M_X12_close (tb_rm 23 0 0) none (tb_ZM G 0 0 (zQ n 0 (zqi (fun z J' => MQr J' J ∧ MFI J' J ∧ (((0 ≤ x ∧ x < J 165 0) ∧ NRb (tbz J) (bO (tbz J)) x ∧ MED (tbz J) pn RR (cloF (tbz J) x) J' z) ∨ ((0 ≤ x ∧ x < J 165 0) ∧ ¬ NRb (tbz J) (bO (tbz J)) x ∧ z = -2 ∧ MBT J' (tbz J) ∧ MUr J' pn RR) ∨ (¬ (0 ≤ x ∧ x < J 165 0) ∧ z = -1 ∧ MBT J' (tbz J) ∧ MUr J' pn RR))))) (zX n 0 zN)) 0 0 n J 0 [some (.ref 164), some (zi x)] []
  have hT := hI.told
  have hW := hI.row
  have hM := hI.1
  have hL := hI.2.1
  refine tz_aload_n (pc := 0) dX12_close_0 rfl rfl ?_
  refine tz_iconst (pc := 1) dX12_close_1 ?_
  refine tz_pI (pc := 2) (kz := 8) dX12_close_2 fl_X12_68 i_164_8 rfl rfl (by decide) ?_
  refine tz_aload_n (pc := 5) dX12_close_5 rfl rfl ?_
  refine tz_iload_n (pc := 6) dX12_close_6 rfl rfl ?_
  refine tz_cV (pc := 7) (m_isTerm hl n _ _ (by omega) (by rw [(show ((zup J 164 8 0) : zJ) 165 0 = (J 165 0) from rfl)]; omega)) vl_X12_376 dX12_close_7 o_164 rfl rfl (Nat.le_of_ble_eq_true rfl) ⟨(Nat.le_of_ble_eq_true rfl), (Nat.le_of_ble_eq_true rfl)⟩ rfl rfl (Nat.le_of_ble_eq_true rfl) (Nat.le_of_ble_eq_true rfl) (fun r9 J_7 hq9 => ?_)
  obtain ⟨z_7, rfl, hz_7, rfl, ht_7⟩ := hq9
  rw [(show ((zup J 164 8 0) : zJ) 165 0 = (J 165 0) from rfl)] at ht_7
  refine tz_if_ne (pc := 10) (tgt := 20) dX12_close_10 (by decide) (by omega) (fun h_10 => ?_) (fun h_10 => ?_)
  · refine tz_aload_n (pc := 20) dX12_close_20 rfl rfl ?_
    refine tz_cV (pc := 21) (x_laysB hl n _ m hL.2.2.2 (by omega)) vl_X12_406 dX12_close_21 o_164 rfl rfl (Nat.le_of_ble_eq_true rfl) ⟨(Nat.le_of_ble_eq_true rfl), (Nat.le_of_ble_eq_true rfl)⟩ rfl rfl (Nat.le_of_ble_eq_true rfl) (Nat.le_of_ble_eq_true rfl) (fun r9 J_21 hq9 => ?_)
    obtain ⟨rfl, l_21, f_21⟩ := hq9
    have y_21 : MZ J_21 J := MZ.tr (MZ.up (k := 8) MZ.rf (by decide)) (MZ.c f_21 (by decide))
    have gk_21 : gOK (J_21 175) m := fun v a c => by have q9 := hL.2.2.2 (1 + v) (by omega) (by omega); have l9 := l_21 v a c; have l8 : J_21 175 v = J 165 (1 + v) - 1 := l9; omega
    have lb_21 : ∀ v, 0 ≤ v → v < 8 → bO (tbz J) v = J_21 175 v := fun v a c => by have l9 : J_21 175 v = J 165 (1 + v) - 1 := l_21 v a c; rw [l9]; show (if 0 ≤ 1 + v ∧ 1 + v < 63 then J 165 (1 + v) else 0) - 1 = _; rw [if_pos (by omega)]
    refine tz_aload_n (pc := 24) dX12_close_24 rfl rfl ?_
    refine tz_iload_n (pc := 25) dX12_close_25 rfl rfl ?_
    refine tz_cV (pc := 26) (o_ring hl n _ _ (by omega) (J 164 9) m (hM.z y_21) (by omega) gk_21) vl_X12_409 dX12_close_26 o_164 rfl rfl (Nat.le_of_ble_eq_true rfl) ⟨(Nat.le_of_ble_eq_true rfl), (Nat.le_of_ble_eq_true rfl)⟩ rfl rfl (Nat.le_of_ble_eq_true rfl) (Nat.le_of_ble_eq_true rfl) (fun r9 J_26 hq9 => ?_)
    obtain ⟨z_26, rfl, hz_26, f_26, b_26, rn_26, ry_26⟩ := hq9
    have y_26 : MZ J_26 J := MZ.tr y_21 (MZ.c f_26 (by decide))
    have zz_26 : zup (tb0 J_21) 164 21 0 = tbz J := tbz_z y_21
    have nb_26 : z_26 = 0 → NRb (tbz J) (bO (tbz J)) x := fun q9 => by rw [← zz_26]; exact NRb.z.2 (NR.b (hM.z y_21) gk_21 (by rw [zz_26]; exact lb_21) (by omega) (rn_26 q9))
    have yb_26 : z_26 = 1 → ¬ NRb (tbz J) (bO (tbz J)) x := fun q9 q8 => ry_26 q9 (by rw [← zz_26] at q8; exact NRb.j (hM.z y_21) gk_21 (by rw [zz_26]; exact lb_21) (by omega) (NRb.z.1 q8))
    refine tz_if_eq (pc := 29) (tgt := 40) dX12_close_29 (by decide) (by omega) (fun h_29 => ?_) (fun h_29 => ?_)
    · refine tz_aload_n (pc := 40) dX12_close_40 rfl rfl ?_
      refine tz_cV (pc := 41) (m_begins hl n _) vl_X12_400 dX12_close_41 o_164 rfl rfl (Nat.le_of_ble_eq_true rfl) ⟨(Nat.le_of_ble_eq_true rfl), (Nat.le_of_ble_eq_true rfl)⟩ rfl rfl (Nat.le_of_ble_eq_true rfl) (Nat.le_of_ble_eq_true rfl) (fun r9 J_41 hq9 => ?_)
      obtain ⟨rfl, hj_41⟩ := hq9
      have a_41 : AM J_41 J m m := by rw [← hj_41]; exact AM.begin (hI.z y_26) ⟨MZ.lo y_26, SC.z y_26⟩
      have br_41 : ∀ k, (k < 63 ∨ 126 ≤ k) → J_41 165 k = (J_26 : zJ) 165 k := fun k hk => by rw [← hj_41]; exact zbg_r hk
      have bl_41 : ∀ k, ¬ k = 34 → ¬ k = 33 → ¬ k = 21 → J_41 164 k = (J_26 : zJ) 164 k := fun k u v w => by rw [← hj_41]; exact zbg_f u v w
      have bo_41 : zOf (zbut [164, 165]) J_41 J_26 := by rw [← hj_41]; exact zbg_of
      have b3_41 : J_41 164 21 = 0 ∧ J_41 164 33 = 0 ∧ J_41 164 34 = 0 := by rw [← hj_41]; exact ⟨rfl, rfl, rfl⟩
      have s9_41 : J_41 164 9 = J 164 9 := (bl_41 9 (by decide) (by decide) (by decide)).trans (y_26.2 9 (by decide) (by decide))
      obtain ⟨⟨bt_41, bs_41, bm_41, ba_41⟩, bu_41, bn_41, bf_41, bi_41⟩ := mbeg hI y_26 hj_41 u9
      refine tz_aload_n (pc := 44) dX12_close_44 rfl rfl ?_
      refine tz_aload_n (pc := 45) dX12_close_45 rfl rfl ?_
      refine tz_iload_n (pc := 46) dX12_close_46 rfl rfl ?_
      refine tz_iconst (pc := 47) dX12_close_47 ?_
      have g5_48 : J_41 175 = J_21 175 := by rw [bo_41 175 rfl, f_26 175 rfl]
      refine tz_cV (pc := 48) (o_closed hl n _ _ (by omega) (J_41 164 9) m (bO (tbz J)) (a_41).1.1 rfl (by omega) (by rw [g5_48]; exact gk_21) (by rw [g5_48]; exact lb_21) (by rw [bt_41]; exact nb_26 (by omega))) vl_X12_158 dX12_close_48 o_164 rfl rfl (Nat.le_of_ble_eq_true rfl) ⟨(Nat.le_of_ble_eq_true rfl), (Nat.le_of_ble_eq_true rfl)⟩ rfl rfl (Nat.le_of_ble_eq_true rfl) (Nat.le_of_ble_eq_true rfl) (fun r9 J_48 hq9 => ?_)
      obtain ⟨z_48, rfl, hz_48, m_48, g_48, h_48, x_48⟩ := hq9
      have a_48 := AM.grow0 a_41 g_48 (fun c hc => by simp at hc) (fun k x y => by simp; omega) rfl
      have lm_48 := a_48.1.2.2
      have e_48 := x_48
      rw [bt_41] at e_48
      refine tz_cV (pc := 51) (m_keeps hl n _ _ (by omega) (a_48).2.2.2.1.1.1 (a_48).2.2.2.1.1.2) vl_X12_403 dX12_close_51 o_164 rfl rfl (Nat.le_of_ble_eq_true rfl) ⟨(Nat.le_of_ble_eq_true rfl), (Nat.le_of_ble_eq_true rfl)⟩ rfl rfl (Nat.le_of_ble_eq_true rfl) (Nat.le_of_ble_eq_true rfl) (fun r9 J_51 hq9 => ?_)
      obtain ⟨z_51, rfl, hz_51, k_51⟩ := hq9
      exact tz_iret (pc := 54) (z := z_51) dX12_close_54 rfl (Nat.le_of_ble_eq_true rfl) (Nat.le_of_ble_eq_true rfl) ⟨Nat.le_refl _, Nat.le_add_right _ _⟩ ⟨_, rfl, (by omega), (AE4 (AM.keep a_48 k_51) bi_41 (mact_end (F := cloF (tbz J) x) bt_41 bs_41 bm_41 ba_41 bu_41 bn_41 bf_41 (MOP.mg g_48) (congrArg Prod.fst e_48) (by rw [show (cloF (tbz J) x).1 = tb0 J_48 from (congrArg Prod.fst e_48).symm]; show J_48 165 0 ≤ 400; have t9 := g_48.1.1.told; have s9 := g_48.1.1.2.2.2.2.1; omega) (fun _ => congrArg Prod.snd e_48) k_51) (by omega) (nb_26 (by omega)))⟩
    · refine tz_aload_n (pc := 32) dX12_close_32 rfl rfl ?_
      refine tz_iconst (pc := 33) dX12_close_33 ?_
      refine tz_bipush (pc := 34) dX12_close_34 (by decide) ?_
      refine tz_cV (pc := 36) (m_refuses hl n _ _ _ (by decide) (by decide) (by decide)) vl_X12_391 dX12_close_36 o_164 rfl rfl (Nat.le_of_ble_eq_true rfl) ⟨(Nat.le_of_ble_eq_true rfl), (Nat.le_of_ble_eq_true rfl)⟩ rfl rfl (Nat.le_of_ble_eq_true rfl) (Nat.le_of_ble_eq_true rfl) (fun r9 J_36 hq9 => ?_)
      obtain ⟨z_36, rfl, hz_36, rfl, f_36⟩ := hq9
      have y_36 : MZ J_36 J := MZ.tr y_26 (MZ.c f_36 (by decide))
      exact tz_iret (pc := 39) (z := (-2)) dX12_close_39 rfl (Nat.le_of_ble_eq_true rfl) (Nat.le_of_ble_eq_true rfl) ⟨Nat.le_refl _, Nat.le_add_right _ _⟩ ⟨_, rfl, (by decide), ⟨MQr.z hI y_36, MFI.z y_36, Or.inr (Or.inl ⟨by omega, yb_26 (by omega), rfl, MBT.z hI y_36, u9.z y_36⟩)⟩⟩
  · refine tz_aload_n (pc := 13) dX12_close_13 rfl rfl ?_
    refine tz_iconst (pc := 14) dX12_close_14 ?_
    refine tz_iconst (pc := 15) dX12_close_15 ?_
    refine tz_cV (pc := 16) (m_refuses hl n _ _ _ (by decide) (by decide) (by decide)) vl_X12_391 dX12_close_16 o_164 rfl rfl (Nat.le_of_ble_eq_true rfl) ⟨(Nat.le_of_ble_eq_true rfl), (Nat.le_of_ble_eq_true rfl)⟩ rfl rfl (Nat.le_of_ble_eq_true rfl) (Nat.le_of_ble_eq_true rfl) (fun r9 J_16 hq9 => ?_)
    obtain ⟨z_16, rfl, hz_16, rfl, f_16⟩ := hq9
    have y_16 : MZ J_16 J := MZ.tr (MZ.up (k := 8) MZ.rf (by decide)) (MZ.c f_16 (by decide))
    exact tz_iret (pc := 19) (z := (-1)) dX12_close_19 rfl (Nat.le_of_ble_eq_true rfl) (Nat.le_of_ble_eq_true rfl) ⟨Nat.le_refl _, Nat.le_add_right _ _⟩ ⟨_, rfl, (by decide), ⟨MQr.z hI y_16, MFI.z y_16, Or.inr (Or.inr ⟨by omega, rfl, MBT.z hI y_16, u9.z y_16⟩)⟩⟩

end
section
/-! ===== classes by parents, purely ===== -/
def itP (p : Int → Int) : Nat → Int → Int
  | 0, x => x
  | n + 1, x => itP p n (p x)
theorem itP_s {p : Int → Int} {n : Nat} {x : Int} : itP p (n + 1) x = itP p n (p x) := rfl
theorem itP_f {V : Int → Prop} {p f : Int → Int} (hV : ∀ x, V x → V (p x)) (hf : ∀ x, V x → f (p x) = f x) : ∀ (n : Nat) (x : Int), V x → f (itP p n x) = f x ∧ V (itP p n x)
  | 0, _, hx => ⟨rfl, hx⟩
  | n + 1, x, hx => by
    have := itP_f hV hf n (p x) (hV x hx)
    exact ⟨this.1.trans (hf x hx), this.2⟩
theorem itP_r {p : Int → Int} {x : Int} (h : p x = x) : ∀ n : Nat, itP p n x = x
  | 0 => rfl
  | n + 1 => by rw [itP_s, h]; exact itP_r h n
theorem itP_a {p : Int → Int} : ∀ (a b : Nat) (x : Int), itP p (a + b) x = itP p b (itP p a x)
  | 0, b, x => by rw [Nat.zero_add]; rfl
  | a + 1, b, x => by rw [show a + 1 + b = (a + b) + 1 from by omega, itP_s, itP_a a b (p x), itP_s]
theorem itP_u {p : Int → Int} {a b : Nat} {x : Int} (ha : p (itP p a x) = itP p a x) (hb : p (itP p b x) = itP p b x) : itP p a x = itP p b x := by
  rcases Nat.le_total a b with h | h
  · obtain ⟨d, rfl⟩ := Nat.exists_eq_add_of_le h
    rw [itP_a, itP_r ha]
  · obtain ⟨d, rfl⟩ := Nat.exists_eq_add_of_le h
    rw [itP_a, itP_r hb]
def UFp (V : Int → Prop) (p : Int → Int) : Prop := ∃ rk : Int → Nat, ∀ x, V x → V (p x) ∧ (p x = x ∨ rk (p x) < rk x)
theorem UFp.V {V : Int → Prop} {p : Int → Int} (h : UFp V p) {x : Int} (hx : V x) : V (p x) := h.elim (fun _ h => (h x hx).1)
theorem UFp.ex {V : Int → Prop} {p : Int → Int} (h : UFp V p) {x : Int} (hx : V x) : ∃ n, p (itP p n x) = itP p n x := by
  obtain ⟨rk, h⟩ := h
  have key : ∀ (N : Nat) (x : Int), V x → rk x < N → ∃ n, p (itP p n x) = itP p n x := by
    intro N
    induction N with
    | zero => intro x _ q; exact absurd q (Nat.not_lt_zero _)
    | succ N ih =>
      intro x hx q
      obtain ⟨a, b⟩ := h x hx
      rcases b with b | b
      · exact ⟨0, b⟩
      · obtain ⟨n, e⟩ := ih (p x) a (by omega)
        exact ⟨n + 1, e⟩
  exact key _ x hx (Nat.lt_succ_self _)
/-- the root -/
noncomputable def tp (p : Int → Int) (x : Int) : Int := @dite _ (∃ n, p (itP p n x) = itP p n x) (Classical.propDecidable _) (fun h => itP p (Classical.choose h) x) (fun _ => x)
theorem tp_e {p : Int → Int} {x : Int} (h : ∃ n, p (itP p n x) = itP p n x) : ∃ n, tp p x = itP p n x ∧ p (itP p n x) = itP p n x := by
  refine ⟨Classical.choose h, ?_, Classical.choose_spec h⟩
  unfold tp
  rw [dif_pos h]
theorem tp_n {p : Int → Int} {x : Int} {n : Nat} (h : p (itP p n x) = itP p n x) : tp p x = itP p n x := by
  obtain ⟨k, a, b⟩ := tp_e ⟨n, h⟩
  rw [a]
  exact itP_u b h
theorem tp_r {p : Int → Int} {z : Int} (h : p z = z) : tp p z = z := tp_n (n := 0) h
def Rsp (V : Int → Prop) (p f : Int → Int) : Prop := ∀ y, V y → f (p y) = f y
theorem UFp.root {V : Int → Prop} {p : Int → Int} (h : UFp V p) {x : Int} (hx : V x) : p (tp p x) = tp p x ∧ V (tp p x) := by
  obtain ⟨n, a, b⟩ := tp_e (h.ex hx)
  rw [a]
  exact ⟨b, (itP_f (f := fun _ => 0) (fun y hy => h.V hy) (fun _ _ => rfl) n x hx).2⟩
theorem UFp.f {V : Int → Prop} {p f : Int → Int} (h : UFp V p) (hf : Rsp V p f) {x : Int} (hx : V x) : f (tp p x) = f x := by
  obtain ⟨n, a, _⟩ := tp_e (h.ex hx)
  rw [a]
  exact (itP_f (fun y hy => h.V hy) hf n x hx).1
theorem UFp.p {V : Int → Prop} {p : Int → Int} (h : UFp V p) : Rsp V p (tp p) := fun x hx => by
  obtain ⟨n, a, b⟩ := tp_e (h.ex (h.V hx))
  rw [a]
  exact (tp_n (n := n + 1) b).symm
theorem UFp.eq {V : Int → Prop} {p f : Int → Int} (h : UFp V p) (hf : Rsp V p f) {x y : Int} (hx : V x) (hy : V y) (e : tp p x = tp p y) : f x = f y := by
  rw [← h.f hf hx, ← h.f hf hy, e]
/-- two classes made one -/
theorem UFp.link {V : Int → Prop} {p p' : Int → Int} (h : UFp V p) {a b : Int} (ha : V a ∧ p a = a) (hb : V b ∧ p b = b) (hab : ¬ a = b) (e : ∀ k, V k → p' k = if k = b then a else p k) : UFp V p' ∧ (∀ x, V x → tp p' x = if tp p x = b then a else tp p x) ∧ ∀ f, Rsp V p' f ↔ Rsp V p f ∧ f a = f b := by
  have rs : ∀ f, Rsp V p' f ↔ Rsp V p f ∧ f a = f b := fun f => by
    constructor
    · intro q
      refine ⟨fun y hy => ?_, ?_⟩
      · by_cases w : y = b
        · rw [w, hb.2]
        · have := q y hy
          rw [e y hy, if_neg w] at this
          exact this
      · have := q b hb.1
        rw [e b hb.1, if_pos rfl] at this
        exact this
    · rintro ⟨q, w⟩ y hy
      rw [e y hy]
      by_cases u : y = b
      · rw [if_pos u, u]; exact w
      · rw [if_neg u]; exact q y hy
  have U : UFp V p' := by
    obtain ⟨rk, h⟩ := h
    refine ⟨fun x => if x = a then 0 else rk x + 1, fun x hx => ?_⟩
    obtain ⟨h1, h2⟩ := h x hx
    rw [e x hx]
    by_cases u : x = b
    · rw [if_pos u]
      refine ⟨ha.1, Or.inr ?_⟩
      show (if a = a then 0 else rk a + 1) < (if x = a then 0 else rk x + 1)
      rw [if_pos rfl, if_neg (by omega)]
      omega
    · rw [if_neg u]
      refine ⟨h1, h2.imp id (fun g => ?_)⟩
      have hka : ¬ x = a := fun e2 => by subst e2; rw [ha.2] at g; omega
      show (if p x = a then 0 else rk (p x) + 1) < (if x = a then 0 else rk x + 1)
      rw [if_neg hka]
      split <;> omega
  refine ⟨U, fun x hx => ?_, rs⟩
  have q : Rsp V p' (fun x => if tp p x = b then a else tp p x) := (rs _).2 ⟨fun y hy => by (try dsimp only); rw [h.p y hy], by (try dsimp only); rw [tp_r ha.2, tp_r hb.2, if_neg hab, if_pos rfl]⟩
  have w := U.f q hx
  (try dsimp only at w)
  rw [← w]
  obtain ⟨r1, r2⟩ := U.root hx
  have nb : ¬ tp p' x = b := fun u => by
    rw [u, e b hb.1, if_pos rfl] at r1
    exact hab r1
  rw [e _ r2, if_neg nb] at r1
  rw [tp_r r1, if_neg nb]
/-- a way made shorter -/
theorem UFp.short {V : Int → Prop} {p p' : Int → Int} (h : UFp V p) {t : Int} (ht : V t) (e : ∀ k, V k → p' k = if k = t then p (p t) else p k) : UFp V p' ∧ (∀ x, V x → tp p' x = tp p x) ∧ ∀ f, Rsp V p f → Rsp V p' f := by
  have rs : ∀ f, Rsp V p f → Rsp V p' f := fun f q y hy => by
    rw [e y hy]
    by_cases u : y = t
    · rw [if_pos u, u, q _ (h.V ht), q t ht]
    · rw [if_neg u]; exact q y hy
  have hp := h.p
  have U : UFp V p' := by
    obtain ⟨rk, h⟩ := h
    refine ⟨rk, fun x hx => ?_⟩
    rw [e x hx]
    by_cases u : x = t
    · rw [if_pos u, u]
      obtain ⟨h1, h2⟩ := h t ht
      obtain ⟨h3, h4⟩ := h _ h1
      refine ⟨h3, ?_⟩
      rcases h2 with h2 | h2
      · exact Or.inl (by rw [h2, h2])
      · rcases h4 with h4 | h4
        · exact Or.inr (by rw [h4]; exact h2)
        · exact Or.inr (by omega)
    · rw [if_neg u]; exact h x hx
  refine ⟨U, fun x hx => ?_, rs⟩
  have w := U.f (rs _ hp) hx
  rw [← w]
  obtain ⟨r1, r2⟩ := U.root hx
  refine (tp_r ?_).symm
  rw [e _ r2] at r1
  by_cases u : tp p' x = t
  · rw [if_pos u] at r1
    rw [u] at r1 ⊢
    obtain ⟨rk, h⟩ := h
    obtain ⟨h1, h2⟩ := h t ht
    obtain ⟨h3, h4⟩ := h _ h1
    rw [r1] at h4
    rcases h2 with h2 | h2
    · exact h2
    · rcases h4 with h4 | h4
      · exact h4.symm
      · omega
  · rw [if_neg u] at r1; exact r1
/-! ===== what must be alike ===== -/
/-- no clash in a likeness that goes down into arguments -/
def CGm (V : Int → Prop) (hd ar : Int → Int) (ag : Int → Int → Int) (f : Int → Int) : Prop := ∀ x y, V x → V y → f x = f y → 0 ≤ hd x → 0 ≤ hd y → hd x = hd y ∧ ∀ i, 0 ≤ i → i < ar x → f (ag x i) = f (ag y i)
/-- classes, up to what is still to be done -/
def CLp (V : Int → Prop) (hd ar : Int → Int) (ag : Int → Int → Int) (p : Int → Int) (Q : (Int → Int) → Prop) : Prop := ∀ x y, V x → V y → tp p x = tp p y → 0 ≤ hd x → 0 ≤ hd y → hd x = hd y ∧ ∀ f, Rsp V p f → Q f → ∀ i, 0 ≤ i → i < ar x → f (ag x i) = f (ag y i)
theorem CLp.mono {V : Int → Prop} {hd ar : Int → Int} {ag : Int → Int → Int} {p : Int → Int} {Q Q' : (Int → Int) → Prop} (h : CLp V hd ar ag p Q) (q : ∀ f, Rsp V p f → Q' f → Q f) : CLp V hd ar ag p Q' := fun x y hx hy e h1 h2 => ⟨(h x y hx hy e h1 h2).1, fun f r w => (h x y hx hy e h1 h2).2 f r (q f r w)⟩
theorem CLp.cg {V : Int → Prop} {hd ar : Int → Int} {ag : Int → Int → Int} {p : Int → Int} (U : UFp V p) (h : CLp V hd ar ag p (fun _ => True)) : CGm V hd ar ag (tp p) := fun x y hx hy e h1 h2 => ⟨(h x y hx hy e h1 h2).1, (h x y hx hy e h1 h2).2 _ U.p trivial⟩
theorem CLp.same {V : Int → Prop} {hd ar : Int → Int} {ag : Int → Int → Int} {p : Int → Int} {Q : (Int → Int) → Prop} {s t : Int} (U : UFp V p) (hs : V s) (ht : V t) (e : tp p s = tp p t) (h : CLp V hd ar ag p (fun f => Q f ∧ f s = f t)) : CLp V hd ar ag p Q := h.mono (fun f r q => ⟨q, U.eq r hs ht e⟩)
theorem CLp.one {V : Int → Prop} {hd ar : Int → Int} {ag : Int → Int → Int} {p p' : Int → Int} {Q : (Int → Int) → Prop} {s t a b : Int} (U : UFp V p) (hs : V s) (ht : V t) (ea : tp p s = a) (eb : tp p t = b) (hab : ¬ a = b) (e : ∀ k, V k → p' k = if k = b then a else p k) (n : (∀ u, V u → tp p u = a → hd u < 0) ∨ (∀ u, V u → tp p u = b → hd u < 0)) (h : CLp V hd ar ag p (fun f => Q f ∧ f s = f t)) : CLp V hd ar ag p' Q := by
  have ra := U.root hs
  have rb := U.root ht
  rw [ea] at ra
  rw [eb] at rb
  obtain ⟨_, l2, l3⟩ := U.link ⟨ra.2, ra.1⟩ ⟨rb.2, rb.1⟩ hab e
  have st : ∀ f, Rsp V p' f → Rsp V p f ∧ f s = f t := fun f r => by
    obtain ⟨r1, r2⟩ := (l3 f).1 r
    refine ⟨r1, ?_⟩
    rw [← U.f r1 hs, ← U.f r1 ht, ea, eb]
    exact r2
  intro x y hx hy exy h1 h2
  rw [l2 x hx, l2 y hy] at exy
  have key : tp p x = tp p y := by
    by_cases w1 : tp p x = b
    · rw [if_pos w1] at exy
      by_cases w2 : tp p y = b
      · rw [w1, w2]
      · rw [if_neg w2] at exy
        rcases n with n | n
        · have := n y hy exy.symm; omega
        · have := n x hx w1; omega
    · rw [if_neg w1] at exy
      by_cases w2 : tp p y = b
      · rw [if_pos w2] at exy
        rcases n with n | n
        · have := n x hx exy; omega
        · have := n y hy w2; omega
      · rw [if_neg w2] at exy
        exact exy
  obtain ⟨q1, q2⟩ := h x y hx hy key h1 h2
  exact ⟨q1, fun f r w => q2 f (st f r).1 ⟨w, (st f r).2⟩⟩
theorem CLp.two {V : Int → Prop} {hd ar : Int → Int} {ag : Int → Int → Int} {p p' : Int → Int} {Q : (Int → Int) → Prop} {s t a b x0 y0 : Int} (hA : ∀ x y, V x → V y → 0 ≤ hd x → hd x = hd y → ar x = ar y) (U : UFp V p) (hs : V s) (ht : V t) (ea : tp p s = a) (eb : tp p t = b) (hab : ¬ a = b) (e : ∀ k, V k → p' k = if k = b then a else p k) (hx0 : V x0 ∧ 0 ≤ hd x0 ∧ tp p x0 = a) (hy0 : V y0 ∧ 0 ≤ hd y0 ∧ tp p y0 = b) (eh : hd x0 = hd y0) (h : CLp V hd ar ag p (fun f => Q f ∧ f s = f t)) : CLp V hd ar ag p' (fun f => Q f ∧ ∀ i, 0 ≤ i → i < ar x0 → f (ag x0 i) = f (ag y0 i)) := by
  have ra := U.root hs
  have rb := U.root ht
  rw [ea] at ra
  rw [eb] at rb
  obtain ⟨_, l2, l3⟩ := U.link ⟨ra.2, ra.1⟩ ⟨rb.2, rb.1⟩ hab e
  have st : ∀ f, Rsp V p' f → Rsp V p f ∧ f s = f t := fun f r => by
    obtain ⟨r1, r2⟩ := (l3 f).1 r
    refine ⟨r1, ?_⟩
    rw [← U.f r1 hs, ← U.f r1 ht, ea, eb]
    exact r2
  have one : ∀ x y, V x → V y → tp p x = tp p y → 0 ≤ hd x → 0 ≤ hd y → hd x = hd y ∧ ∀ f, Rsp V p' f → Q f → ∀ i, 0 ≤ i → i < ar x → f (ag x i) = f (ag y i) := fun x y hx hy k h1 h2 => by
    obtain ⟨q1, q2⟩ := h x y hx hy k h1 h2
    exact ⟨q1, fun f r w => q2 f (st f r).1 ⟨w, (st f r).2⟩⟩
  have aA := hA x0 y0 hx0.1 hy0.1 hx0.2.1 eh
  intro x y hx hy exy h1 h2
  rw [l2 x hx, l2 y hy] at exy
  have fin : tp p x = tp p y → hd x = hd y ∧ ∀ f, Rsp V p' f → (Q f ∧ ∀ i, 0 ≤ i → i < ar x0 → f (ag x0 i) = f (ag y0 i)) → ∀ i, 0 ≤ i → i < ar x → f (ag x i) = f (ag y i) := fun k => by
    obtain ⟨q1, q2⟩ := one x y hx hy k h1 h2
    exact ⟨q1, fun f r w => q2 f r w.1⟩
  by_cases w1 : tp p x = b
  · rw [if_pos w1] at exy
    by_cases w2 : tp p y = b
    · exact fin (w1.trans w2.symm)
    · rw [if_neg w2] at exy
      obtain ⟨u1, u2⟩ := one x y0 hx hy0.1 (w1.trans hy0.2.2.symm) h1 hy0.2.1
      obtain ⟨v1, v2⟩ := one x0 y hx0.1 hy (hx0.2.2.trans exy) hx0.2.1 h2
      have aX := hA x y0 hx hy0.1 h1 u1
      refine ⟨u1.trans (eh.symm.trans v1), fun f r w i a c => ?_⟩
      exact (u2 f r w.1 i a c).trans ((w.2 i a (by omega)).symm.trans (v2 f r w.1 i a (by omega)))
  · rw [if_neg w1] at exy
    by_cases w2 : tp p y = b
    · rw [if_pos w2] at exy
      obtain ⟨u1, u2⟩ := one x x0 hx hx0.1 (exy.trans hx0.2.2.symm) h1 hx0.2.1
      obtain ⟨v1, v2⟩ := one y0 y hy0.1 hy (hy0.2.2.trans w2.symm) hy0.2.1 h2
      have aX := hA x x0 hx hx0.1 h1 u1
      refine ⟨u1.trans (eh.trans v1), fun f r w i a c => ?_⟩
      exact (u2 f r w.1 i a c).trans ((w.2 i a (by omega)).trans (v2 f r w.1 i a (by omega)))
    · rw [if_neg w2] at exy
      exact fin exy
/-- what is shown of classes: a node that is no variable; else the least variable -/
def SHp (V : Int → Prop) (hd p sh lv : Int → Int) : Prop := ∀ a, V a → p a = a → (sh a = -1 ∨ (V (sh a) ∧ 0 ≤ hd (sh a) ∧ tp p (sh a) = a)) ∧ (sh a = -1 → (∀ u, V u → tp p u = a → hd u < 0 ∧ lv a ≤ -1 - hd u) ∧ ∃ u, V u ∧ tp p u = a ∧ lv a = -1 - hd u)
theorem SHp.link {V : Int → Prop} {hd p p' sh sh' lv lv' : Int → Int} (h : SHp V hd p sh lv) (U : UFp V p) {a b : Int} (ha : V a ∧ p a = a) (hb : V b ∧ p b = b) (hab : ¬ a = b) (e : ∀ k, V k → p' k = if k = b then a else p k) (es : ∀ k, V k → sh' k = if k = a then (if sh a = -1 then sh b else sh a) else sh k) (el : ∀ k, V k → ¬ k = a → lv' k = lv k) (ela : sh a = -1 → sh b = -1 → lv' a = if lv b < lv a then lv b else lv a) (h1 : ∀ k, V k → ¬ k = -1) : SHp V hd p' sh' lv' := by
  obtain ⟨U', l2, l3⟩ := U.link ha hb hab e
  intro c hc rc
  have ncb : ¬ c = b := fun q => by
    rw [q, e b hb.1, if_pos rfl] at rc
    exact hab rc
  rw [e c hc, if_neg ncb] at rc
  obtain ⟨k1, k2⟩ := h c hc rc
  rw [es c hc]
  by_cases q : c = a
  · subst q
    rw [if_pos rfl]
    obtain ⟨b1, b2⟩ := h b hb.1 hb.2
    by_cases w : sh c = -1
    · rw [if_pos w]
      refine ⟨?_, fun w2 => ?_⟩
      · rcases b1 with b1 | ⟨b1, b3, b4⟩
        · exact Or.inl b1
        · refine Or.inr ⟨b1, b3, ?_⟩
          rw [l2 _ b1, if_pos b4]
      · obtain ⟨x1, x2⟩ := k2 w
        obtain ⟨y1, y2⟩ := b2 w2
        have el9 := ela w w2
        refine ⟨fun u hu eu => ?_, ?_⟩
        · rw [l2 u hu] at eu
          by_cases z : tp p u = b
          · have := y1 u hu z
            refine ⟨this.1, ?_⟩
            rw [el9]
            split <;> omega
          · rw [if_neg z] at eu
            have := x1 u hu eu
            refine ⟨this.1, ?_⟩
            rw [el9]
            split <;> omega
        · rw [el9]
          split
          · obtain ⟨u, hu, e1, e2⟩ := y2
            exact ⟨u, hu, by rw [l2 u hu, if_pos e1], e2⟩
          · obtain ⟨u, hu, e1, e2⟩ := x2
            refine ⟨u, hu, ?_, e2⟩
            rw [l2 u hu, if_neg (by rw [e1]; exact hab)]
            exact e1
    · rw [if_neg w]
      rcases k1 with k1 | ⟨k1, k3, k4⟩
      · exact absurd k1 w
      · refine ⟨Or.inr ⟨k1, k3, ?_⟩, fun q => absurd q w⟩
        rw [l2 _ k1, if_neg (by rw [k4]; exact hab)]
        exact k4
  · rw [if_neg q]
    have cl : ∀ u, V u → tp p' u = c → tp p u = c := fun u hu eu => by
      rw [l2 u hu] at eu
      by_cases z : tp p u = b
      · rw [if_pos z] at eu; exact absurd eu.symm q
      · rw [if_neg z] at eu; exact eu
    have lc : ∀ u, V u → tp p u = c → tp p' u = c := fun u hu eu => by
      rw [l2 u hu, if_neg (by rw [eu]; exact ncb)]
      exact eu
    refine ⟨k1.imp id (fun k => ⟨k.1, k.2.1, lc _ k.1 k.2.2⟩), fun w => ?_⟩
    obtain ⟨x1, u, hu, e1, e2⟩ := k2 w
    rw [el c hc q]
    exact ⟨fun u hu eu => x1 u hu (cl u hu eu), u, hu, lc u hu e1, e2⟩
end
section
/-! ===== classes of the reference, exact ===== -/
def VN (c m : Int) (k : Int) : Prop := (0 ≤ k ∧ k < c) ∧ k % 400 < m
def hdN (H : zJ) (b k : Int) : Int := H 166 (b + k % 400)
def arN (H : zJ) (b d k : Int) : Int := mar H b d (k % 400)
def agN (H : zJ) (b k i : Int) : Int := k / 400 * 400 + H 167 (3 * (b + k % 400) + i)
theorem UF.p {J : zJ} {c m : Int} (h : UF J c m) : UFp (VN c m) (J 177) := by
  obtain ⟨_, rk, h⟩ := h
  refine ⟨rk, fun x hx => ?_⟩
  obtain ⟨⟨h1, h2⟩, _, h4⟩ := h x hx.1.1 hx.1.2
  exact ⟨⟨h1, (h4 hx.2).1⟩, h2⟩
/-- what joining two nodes does -/
def JOP (c m b d : Int) (H J : zJ) (x y : Int) (J' : zJ) : Prop := (∀ f, CGm (VN c m) (hdN H b) (arN H b d) (agN H b) f → Rsp (VN c m) (J 177) f → f x = f y → Rsp (VN c m) (J' 177) f ∧ (¬ J' 164 30 = 0 → ¬ J 164 30 = 0)) ∧ (J' 164 30 = 0 → J 164 30 = 0 ∧ (∀ f, Rsp (VN c m) (J' 177) f → Rsp (VN c m) (J 177) f ∧ f x = f y) ∧ ∀ Q : (Int → Int) → Prop, CLp (VN c m) (hdN H b) (arN H b d) (agN H b) (J 177) (fun f => Q f ∧ f x = f y) → CLp (VN c m) (hdN H b) (arN H b d) (agN H b) (J' 177) Q)
/-- where it is, behind k arguments -/
def JOL (c m b d : Int) (H J : zJ) (x y x0 y0 k : Int) (J' : zJ) : Prop := (∀ f, CGm (VN c m) (hdN H b) (arN H b d) (agN H b) f → Rsp (VN c m) (J 177) f → f x = f y → Rsp (VN c m) (J' 177) f ∧ (¬ J' 164 30 = 0 → ¬ J 164 30 = 0)) ∧ (J' 164 30 = 0 → J 164 30 = 0 ∧ (∀ f, Rsp (VN c m) (J' 177) f → Rsp (VN c m) (J 177) f ∧ f x = f y) ∧ ∀ Q : (Int → Int) → Prop, CLp (VN c m) (hdN H b) (arN H b d) (agN H b) (J 177) (fun f => Q f ∧ f x = f y) → CLp (VN c m) (hdN H b) (arN H b d) (agN H b) (J' 177) (fun f => Q f ∧ ∀ i, k ≤ i → i < arN H b d x0 → f (agN H b x0 i) = f (agN H b y0 i)))
theorem JOP.same {c m b d x y : Int} {H J : zJ} (U : UFp (VN c m) (J 177)) (hx : VN c m x) (hy : VN c m y) (e : tp (J 177) x = tp (J 177) y) : JOP c m b d H J x y J := ⟨fun _ _ r _ => ⟨r, id⟩, fun h => ⟨h, fun _ r => ⟨r, U.eq r hx hy e⟩, fun _ q => q.same U hx hy e⟩⟩
theorem jo_A {c m x y a1 b1 : Int} {J J' : zJ} (U : UFp (VN c m) (J 177)) (hx : VN c m x) (hy : VN c m y) (ea : tp (J 177) x = a1) (eb : tp (J 177) y = b1) (hab : ¬ a1 = b1) (e : ∀ k, VN c m k → J' 177 k = if k = b1 then a1 else J 177 k) : ∀ f, Rsp (VN c m) (J' 177) f ↔ Rsp (VN c m) (J 177) f ∧ f x = f y := fun f => by
  have ra := U.root hx
  have rb := U.root hy
  rw [ea] at ra
  rw [eb] at rb
  obtain ⟨_, _, l3⟩ := U.link ⟨ra.2, ra.1⟩ ⟨rb.2, rb.1⟩ hab e
  rw [l3]
  constructor
  · rintro ⟨r1, r2⟩
    exact ⟨r1, by rw [← U.f r1 hx, ← U.f r1 hy, ea, eb]; exact r2⟩
  · rintro ⟨r1, r2⟩
    exact ⟨r1, by rw [← U.f r1 hx, ← U.f r1 hy, ea, eb] at r2; exact r2⟩
theorem JOP.one {c m b d x y a1 b1 : Int} {H J J' : zJ} {sh lv : Int → Int} (U : UFp (VN c m) (J 177)) (hx : VN c m x) (hy : VN c m y) (ea : tp (J 177) x = a1) (eb : tp (J 177) y = b1) (hab : ¬ a1 = b1) (e : ∀ k, VN c m k → J' 177 k = if k = b1 then a1 else J 177 k) (S : SHp (VN c m) (hdN H b) (J 177) sh lv) (n : sh a1 = -1 ∨ sh b1 = -1) (e3 : J' 164 30 = J 164 30) : JOP c m b d H J x y J' := by
  have ra := U.root hx
  have rb := U.root hy
  rw [ea] at ra
  rw [eb] at rb
  have rs := jo_A U hx hy ea eb hab e
  refine ⟨fun f _ r q => ⟨(rs f).2 ⟨r, q⟩, by rw [e3]; exact id⟩, fun h => ⟨by rw [← e3]; exact h, fun f r => (rs f).1 r, fun Q q => q.one U hx hy ea eb hab e ?_⟩⟩
  rcases n with n | n
  · exact Or.inl (fun u hu eu => (((S a1 ra.2 ra.1).2 n).1 u hu eu).1)
  · exact Or.inr (fun u hu eu => (((S b1 rb.2 rb.1).2 n).1 u hu eu).1)
theorem JOP.clash {c m b d x y a1 b1 : Int} {H J J' : zJ} {sh lv : Int → Int} (U : UFp (VN c m) (J 177)) (hx : VN c m x) (hy : VN c m y) (ea : tp (J 177) x = a1) (eb : tp (J 177) y = b1) (S : SHp (VN c m) (hdN H b) (J 177) sh lv) (na : ¬ sh a1 = -1) (nb : ¬ sh b1 = -1) (ne : ¬ hdN H b (sh a1) = hdN H b (sh b1)) (e3 : ¬ J' 164 30 = 0) : JOP c m b d H J x y J' := by
  have ra := U.root hx
  have rb := U.root hy
  rw [ea] at ra
  rw [eb] at rb
  obtain ⟨x1, x2, x3⟩ := (S a1 ra.2 ra.1).1.resolve_left na
  obtain ⟨y1, y2, y3⟩ := (S b1 rb.2 rb.1).1.resolve_left nb
  refine ⟨fun f g r q => absurd (g _ _ x1 y1 ?_ x2 y2).1 ne, fun h => absurd h e3⟩
  rw [U.eq r x1 hx (x3.trans ea.symm), U.eq r y1 hy (y3.trans eb.symm)]
  exact q
theorem JOL.start {c m b d x y a1 b1 : Int} {H J J' : zJ} {sh lv : Int → Int} (U : UFp (VN c m) (J 177)) (hx : VN c m x) (hy : VN c m y) (ea : tp (J 177) x = a1) (eb : tp (J 177) y = b1) (hab : ¬ a1 = b1) (e : ∀ k, VN c m k → J' 177 k = if k = b1 then a1 else J 177 k) (S : SHp (VN c m) (hdN H b) (J 177) sh lv) (na : ¬ sh a1 = -1) (nb : ¬ sh b1 = -1) (ne : hdN H b (sh a1) = hdN H b (sh b1)) (e3 : J' 164 30 = J 164 30) : JOL c m b d H J x y (sh a1) (sh b1) 0 J' := by
  have ra := U.root hx
  have rb := U.root hy
  rw [ea] at ra
  rw [eb] at rb
  have rs := jo_A U hx hy ea eb hab e
  obtain ⟨x1, x2, x3⟩ := (S a1 ra.2 ra.1).1.resolve_left na
  obtain ⟨y1, y2, y3⟩ := (S b1 rb.2 rb.1).1.resolve_left nb
  refine ⟨fun f _ r q => ⟨(rs f).2 ⟨r, q⟩, by rw [e3]; exact id⟩, fun h => ⟨by rw [← e3]; exact h, fun f r => (rs f).1 r, fun Q q => ?_⟩⟩
  refine q.two (fun u v _ _ _ k => ?_) U hx hy ea eb hab e ⟨x1, x2, x3⟩ ⟨y1, y2, y3⟩ ne
  unfold arN mar
  unfold hdN at k
  rw [k]
theorem JOL.step {c m b d x y x0 y0 k : Int} {H J J1 J2 : zJ} (l : JOL c m b d H J x y x0 y0 k J1) (q : JOP c m b d H J1 (agN H b x0 k) (agN H b y0 k) J2) (hk : 0 ≤ k ∧ k < arN H b d x0) (h0 : VN c m x0 ∧ 0 ≤ hdN H b x0) (h1 : VN c m y0 ∧ 0 ≤ hdN H b y0) (hl : ∀ f, Rsp (VN c m) (J 177) f → f x = f y → f x0 = f y0) : JOL c m b d H J x y x0 y0 (k + 1) J2 := by
  refine ⟨fun f g r w => ?_, fun h => ?_⟩
  · obtain ⟨u1, u2⟩ := l.1 f g r w
    obtain ⟨v1, v2⟩ := q.1 f g u1 ((g _ _ h0.1 h1.1 (hl f r w) h0.2 h1.2).2 k hk.1 hk.2)
    exact ⟨v1, fun z => u2 (v2 z)⟩
  · obtain ⟨a1, a2, a3⟩ := q.2 h
    obtain ⟨b1, b2, b3⟩ := l.2 a1
    refine ⟨b1, fun f r => b2 f (a2 f r).1, fun Q w => ?_⟩
    refine a3 _ ((b3 Q w).mono (fun f _ z => ⟨z.1.1, fun i p1 p2 => ?_⟩))
    by_cases e : i = k
    · rw [e]; exact z.2
    · exact z.1.2 i (by omega) p2
theorem JOL.fin {c m b d x y x0 y0 k : Int} {H J J1 : zJ} (l : JOL c m b d H J x y x0 y0 k J1) (hk : arN H b d x0 ≤ k) : JOP c m b d H J x y J1 := ⟨l.1, fun h => by
  obtain ⟨b1, b2, b3⟩ := l.2 h
  exact ⟨b1, b2, fun Q w => (b3 Q w).mono (fun f _ z => ⟨z, fun i p1 p2 => by omega⟩)⟩⟩
set_option maxHeartbeats 4000000 in
set_option maxRecDepth 100000 in
theorem x_top {l : Launch} {G : tb_G} (hl : l.stackTraces = false) (n : Nat) (J : zJ) (x : Int) (hr_x : -2147483648 ≤ x ∧ x < 2147483648) (c m : Int) (hU : UF J c m) (hx : VN c m x) : tz_Ok l G M_X12_top 0 0 0 [.ref 164, zi x] n J (zqi (fun z J' => J = J' ∧ VN c m z ∧ J 177 z = z ∧ tp (J 177) x = z)) zN := by
  refine tz_Ok.of hl (by decide +kernel) rfl (tb_c1 rfl) (Nat.le_of_ble_eq_true rfl) ?_
  show tz_At l G M_X12_top (tb_rm 0 0 0) none (tb_ZM G 0 0 (zQ n 0 (zqi (fun z J' => J = J' ∧ VN c m z ∧ J 177 z = z ∧ tp (J 177) x = z))) (zX n 0 zN)) 0 0 n J 0 [some (.ref 164), some (zi x), none] []
  have hP := hU.p
  obtain ⟨hc, rk, hu⟩ := hU
  have hx1 := hx.1
  refine tz_iload_n (pc := 0) dX12_top_0 rfl rfl ?_
  refine tz_istore_n (pc := 1) (L2 := [_, _, _]) dX12_top_1 rfl (by decide) rfl ?_
  have loop2 : ∀ (f9 : Nat) (k : Int), (rk k) < f9 → (0 ≤ k ∧ k < c) → (VN c m k) → (tp (J 177) k = tp (J 177) x) → tz_At l G M_X12_top (tb_rm 0 0 0) none (tb_ZM G 0 0 (zQ n 0 (zqi (fun z J' => J = J' ∧ VN c m z ∧ J 177 z = z ∧ tp (J 177) x = z))) (zX n 0 zN)) 0 0 n J 2 [some (.ref 164), some (zi x), some (zi k)] [] := by
    intro f9
    induction f9 with
    | zero => intro k hm9; exact absurd hm9 (Nat.not_lt_zero _)
    | succ f9 ih2 =>
      intro k hm2 hk hv ht
      obtain ⟨h1, h2, h3⟩ := hu k hk.1 hk.2
      refine tz_aload_n (pc := 2) dX12_top_2 rfl rfl ?_
      refine tz_fR (pc := 3) dX12_top_3 fl_X12_50 r_164_25 ?_
      refine tz_iload_n (pc := 6) dX12_top_6 rfl rfl ?_
      refine tz_aL (pc := 7) (z := k) (v := (J 177 k)) dX12_top_7 a_177 rfl (by omega) rfl (fun r_7 => ?_)
      refine tz_iload_n (pc := 8) dX12_top_8 rfl rfl ?_
      refine tz_icmp_eq (pc := 9) (tgt := 22) dX12_top_9 (by decide) (by omega) (by omega) (fun h_9 => ?_) (fun h_9 => ?_)
      · refine tz_iload_n (pc := 22) dX12_top_22 rfl rfl ?_
        exact tz_iret (pc := 23) (z := k) dX12_top_23 rfl (Nat.le_of_ble_eq_true rfl) (Nat.le_of_ble_eq_true rfl) ⟨Nat.le_refl _, Nat.le_add_right _ _⟩ ⟨_, rfl, (by omega), ⟨rfl, hv, by omega, by rw [← ht]; exact tp_r (by omega)⟩⟩
      · refine tz_aload_n (pc := 12) dX12_top_12 rfl rfl ?_
        refine tz_fR (pc := 13) dX12_top_13 fl_X12_50 r_164_25 ?_
        refine tz_iload_n (pc := 16) dX12_top_16 rfl rfl ?_
        refine tz_aL (pc := 17) (z := k) (v := (J 177 k)) dX12_top_17 a_177 rfl (by omega) rfl (fun r_17 => ?_)
        refine tz_istore_n (pc := 18) (L2 := [_, _, _]) dX12_top_18 rfl (by decide) rfl ?_
        refine tz_goto (pc := 19) (tgt := 2) dX12_top_19 (by decide) ?_
        exact ih2 _ (by have := h1.2.resolve_left (by omega); omega) h1.1 (hP.V hv) ((hP.p k hv).trans ht)
  exact loop2 _ _ (Nat.lt_succ_self _) hx1 hx rfl

set_option maxHeartbeats 4000000 in
set_option maxRecDepth 100000 in
theorem x_argOf {l : Launch} {G : tb_G} (hl : l.stackTraces = false) (n : Nat) (J : zJ) (x : Int) (i : Int) (hr_x : -2147483648 ≤ x ∧ x < 2147483648) (hr_i : -2147483648 ≤ i ∧ i < 2147483648) (b r d s m : Int) (c : Int) (hM : MS J b r d s m) (hc : c = 400 ∨ c = 800) (hx : VN c m x) (hi : 0 ≤ i ∧ i < mar J b d (x % 400)) : tz_Ok l G M_X12_argumentOf 1 0 0 [.ref 164, zi x, zi i] n J (zqi (fun z J' => J = J' ∧ VN c m z ∧ z = agN J b x i)) zN := by
  refine tz_Ok.of hl (by decide +kernel) rfl (tb_c1 rfl) (Nat.le_of_ble_eq_true rfl) ?_
  show tz_At l G M_X12_argumentOf (tb_rm 1 0 0) none (tb_ZM G 0 0 (zQ n 0 (zqi (fun z J' => J = J' ∧ VN c m z ∧ z = agN J b x i))) (zX n 0 zN)) 0 0 n J 0 [some (.ref 164), some (zi x), some (zi i)] []
  obtain ⟨hM1, hM2, hM3, hM4, hM5, hM6⟩ := id hM
  have hT := hM.told
  have hx1 := hx.1
  have hx2 := hx.2
  have ha := hM.ar (t := x % 400) (by omega)
  have hg := hM.arg (t := x % 400) (i := i) (by omega) hi
  refine tz_iload_n (pc := 0) dX12_argumentOf_0 rfl rfl ?_
  refine tz_sipush (pc := 1) dX12_argumentOf_1 (by decide) ?_
  refine tz_idiv (pc := 4) (a := x) (b := 400) (v := (x / 400)) dX12_argumentOf_4 (by omega) (by omega) rfl ?_
  refine tz_sipush (pc := 5) dX12_argumentOf_5 (by decide) ?_
  refine tz_imul (pc := 8) (v := (x / 400) * 400) dX12_argumentOf_8 rfl ?_
  refine tz_aload_n (pc := 9) dX12_argumentOf_9 rfl rfl ?_
  refine tz_iload_n (pc := 10) dX12_argumentOf_10 rfl rfl ?_
  refine tz_sipush (pc := 11) dX12_argumentOf_11 (by decide) ?_
  refine tz_irem (pc := 14) (a := x) (b := 400) (v := (x % 400)) dX12_argumentOf_14 (by omega) (by omega) rfl ?_
  refine tz_iload_n (pc := 15) dX12_argumentOf_15 rfl rfl ?_
  refine tz_cV (pc := 16) (m_arg hl n _ _ _ (by omega) (by omega) b r d s m hM (by omega) (by omega)) vl_X12_88 dX12_argumentOf_16 o_164 rfl rfl (Nat.le_of_ble_eq_true rfl) ⟨(Nat.le_of_ble_eq_true rfl), (Nat.le_of_ble_eq_true rfl)⟩ rfl rfl (Nat.le_of_ble_eq_true rfl) (Nat.le_of_ble_eq_true rfl) (fun r9 J_16 hq9 => ?_)
  obtain ⟨z_16, rfl, hz_16, rfl, rfl⟩ := hq9
  refine tz_iadd (pc := 19) (v := ((x / 400) * 400) + (J 167 (3 * (b + (x % 400)) + i))) dX12_argumentOf_19 rfl ?_
  exact tz_iret (pc := 20) (z := (((x / 400) * 400) + (J 167 (3 * (b + (x % 400)) + i)))) dX12_argumentOf_20 rfl (Nat.le_of_ble_eq_true rfl) (Nat.le_of_ble_eq_true rfl) ⟨Nat.le_refl _, Nat.le_add_right _ _⟩ ⟨_, rfl, (by omega), ⟨rfl, ⟨by omega, by omega⟩, by unfold agN; omega⟩⟩

theorem inx_s {J J1 : zJ} {b k m v8 v9 : Int} (h : ∀ q, 0 ≤ q → q < k → J1 177 q = q ∧ J1 180 q = 0 ∧ (q % 400 < m → ((J 166 (b + q % 400) < 0 ∧ J1 178 q = -1 ∧ J1 179 q = -1 - J 166 (b + q % 400)) ∨ (0 ≤ J 166 (b + q % 400) ∧ J1 178 q = q)))) (h8 : k % 400 < m → ((J 166 (b + k % 400) < 0 ∧ v8 = -1 ∧ v9 = -1 - J 166 (b + k % 400)) ∨ (0 ≤ J 166 (b + k % 400) ∧ v8 = k))) : ∀ q, 0 ≤ q → q < k + 1 → (zup (zup (zup (zup J1 177 k k) 178 k v8) 179 k v9) 180 k 0) 177 q = q ∧ (zup (zup (zup (zup J1 177 k k) 178 k v8) 179 k v9) 180 k 0) 180 q = 0 ∧ (q % 400 < m → ((J 166 (b + q % 400) < 0 ∧ (zup (zup (zup (zup J1 177 k k) 178 k v8) 179 k v9) 180 k 0) 178 q = -1 ∧ (zup (zup (zup (zup J1 177 k k) 178 k v8) 179 k v9) 180 k 0) 179 q = -1 - J 166 (b + q % 400)) ∨ (0 ≤ J 166 (b + q % 400) ∧ (zup (zup (zup (zup J1 177 k k) 178 k v8) 179 k v9) 180 k 0) 178 q = q))) := by
  intro q a c
  have e7 : (zup (zup (zup (zup J1 177 k k) 178 k v8) 179 k v9) 180 k 0) 177 q = if q = k then k else J1 177 q := rfl
  have e8 : (zup (zup (zup (zup J1 177 k k) 178 k v8) 179 k v9) 180 k 0) 178 q = if q = k then v8 else J1 178 q := rfl
  have e9 : (zup (zup (zup (zup J1 177 k k) 178 k v8) 179 k v9) 180 k 0) 179 q = if q = k then v9 else J1 179 q := rfl
  have e0 : (zup (zup (zup (zup J1 177 k k) 178 k v8) 179 k v9) 180 k 0) 180 q = if q = k then 0 else J1 180 q := rfl
  rw [e7, e8, e9, e0]
  by_cases e : q = k
  · rw [if_pos e, if_pos e, if_pos e, if_pos e, e]
    exact ⟨rfl, rfl, h8⟩
  · rw [if_neg e, if_neg e, if_neg e, if_neg e]
    exact h q a (by omega)
set_option maxHeartbeats 4000000 in
set_option maxRecDepth 100000 in
theorem x_begCl {l : Launch} {G : tb_G} (hl : l.stackTraces = false) (n : Nat) (J : zJ)   (b r d s m : Int) (hM : MS J b r d s m)  : tz_Ok l G M_X12_beginsClasses 2 0 0 [.ref 164] n J (zqv (fun J' => (UF J' 800 m ∧ UF J' 400 m ∧ J' 164 30 = 0 ∧ zOf (zbut [164, 177, 178, 179, 180]) J' J ∧ ∀ k, ¬ k = 30 → J' 164 k = J 164 k) ∧ ∀ q, 0 ≤ q → q < 800 → J' 177 q = q ∧ J' 180 q = 0 ∧ (q % 400 < m → ((J 166 (b + q % 400) < 0 ∧ J' 178 q = -1 ∧ J' 179 q = -1 - J 166 (b + q % 400)) ∨ (0 ≤ J 166 (b + q % 400) ∧ J' 178 q = q))))) zN := by
  refine tz_Ok.of hl (by decide +kernel) rfl (tb_c1 rfl) (Nat.le_of_ble_eq_true rfl) ?_
  show tz_At l G M_X12_beginsClasses (tb_rm 2 0 0) none (tb_ZM G 0 0 (zQ n 0 (zqv (fun J' => (UF J' 800 m ∧ UF J' 400 m ∧ J' 164 30 = 0 ∧ zOf (zbut [164, 177, 178, 179, 180]) J' J ∧ ∀ k, ¬ k = 30 → J' 164 k = J 164 k) ∧ ∀ q, 0 ≤ q → q < 800 → J' 177 q = q ∧ J' 180 q = 0 ∧ (q % 400 < m → ((J 166 (b + q % 400) < 0 ∧ J' 178 q = -1 ∧ J' 179 q = -1 - J 166 (b + q % 400)) ∨ (0 ≤ J 166 (b + q % 400) ∧ J' 178 q = q)))))) (zX n 0 zN)) 0 0 n J 0 [some (.ref 164), none, none, none] []
  obtain ⟨hM1, hM2, hM3, hM4, hM5, hM6⟩ := id hM
  have hT := hM.told
  refine tz_iconst (pc := 0) dX12_beginsClasses_0 ?_
  refine tz_istore_n (pc := 1) (L2 := [_, _, _, _]) dX12_beginsClasses_1 rfl (by decide) rfl ?_
  have loop2 : ∀ (f9 : Nat) (k : Int) (d2 : Option Value) (d3 : Option Value) (J1 : zJ), ((800 - k).toNat) < f9 → (0 ≤ k ∧ k ≤ 800) → (zOf (zbut [164, 177, 178, 179, 180]) J1 J ∧ ∀ k, ¬ k = 30 → J1 164 k = J 164 k) → (∀ q, 0 ≤ q → q < k → J1 177 q = q ∧ (J1 178 q = -1 ∨ (J1 178 q = q ∧ q % 400 < m)) ∧ (q % 400 < m → J1 178 q = -1 → 0 ≤ J1 179 q ∧ J1 179 q < 8)) → (∀ q, 0 ≤ q → q < k → J1 177 q = q ∧ J1 180 q = 0 ∧ (q % 400 < m → ((J 166 (b + q % 400) < 0 ∧ J1 178 q = -1 ∧ J1 179 q = -1 - J 166 (b + q % 400)) ∨ (0 ≤ J 166 (b + q % 400) ∧ J1 178 q = q)))) → tz_At l G M_X12_beginsClasses (tb_rm 2 0 0) none (tb_ZM G 0 0 (zQ n 0 (zqv (fun J' => (UF J' 800 m ∧ UF J' 400 m ∧ J' 164 30 = 0 ∧ zOf (zbut [164, 177, 178, 179, 180]) J' J ∧ ∀ k, ¬ k = 30 → J' 164 k = J 164 k) ∧ ∀ q, 0 ≤ q → q < 800 → J' 177 q = q ∧ J' 180 q = 0 ∧ (q % 400 < m → ((J 166 (b + q % 400) < 0 ∧ J' 178 q = -1 ∧ J' 179 q = -1 - J 166 (b + q % 400)) ∨ (0 ≤ J 166 (b + q % 400) ∧ J' 178 q = q)))))) (zX n 0 zN)) 0 0 n J1 2 [some (.ref 164), some (zi k), d2, d3] [] := by
    intro f9
    induction f9 with
    | zero => intro k d2 d3 J1 hm9; exact absurd hm9 (Nat.not_lt_zero _)
    | succ f9 ih2 =>
      intro k d2 d3 J1 hm2 hk f1 h1 h2
      refine tz_iload_n (pc := 2) dX12_beginsClasses_2 rfl rfl ?_
      refine tz_sipush (pc := 3) dX12_beginsClasses_3 (by decide) ?_
      refine tz_icmp_ge (pc := 6) (tgt := 100) dX12_beginsClasses_6 (by decide) (by omega) (by decide) (fun h_6 => ?_) (fun h_6 => ?_)
      · refine tz_aload_n (pc := 100) dX12_beginsClasses_100 rfl rfl ?_
        refine tz_iconst (pc := 101) dX12_beginsClasses_101 ?_
        refine tz_pZ (pc := 102) (kz := 30) dX12_beginsClasses_102 fl_X12_161 i_164_30 rfl rfl (Or.inl rfl) ?_
        exact tz_vret (pc := 105) dX12_beginsClasses_105 rfl (Nat.le_of_ble_eq_true rfl) (Nat.le_of_ble_eq_true rfl) ⟨Nat.le_refl _, Nat.le_add_right _ _⟩ ⟨rfl, ⟨⟨⟨Or.inr rfl, fun _ => 0, fun q a c => by obtain ⟨i1, i2, i3⟩ := h1 q a (by omega); refine ⟨⟨by show 0 ≤ J1 177 q ∧ J1 177 q < 800; omega, Or.inl i1⟩, by show J1 178 q = -1 ∨ (0 ≤ J1 178 q ∧ J1 178 q < 800 ∧ J1 178 q % 400 < m); (rcases i2 with i2 | i2 <;> first | exact Or.inl i2 | (rw [i2.1]; exact Or.inr ⟨a, c, i2.2⟩)), fun hq => ⟨by show J1 177 q % 400 < m; rw [i1]; exact hq, i3 hq⟩⟩⟩, ⟨Or.inl rfl, fun _ => 0, fun q a c => by obtain ⟨i1, i2, i3⟩ := h1 q a (by omega); refine ⟨⟨by show 0 ≤ J1 177 q ∧ J1 177 q < 400; omega, Or.inl i1⟩, by show J1 178 q = -1 ∨ (0 ≤ J1 178 q ∧ J1 178 q < 400 ∧ J1 178 q % 400 < m); (rcases i2 with i2 | i2 <;> first | exact Or.inl i2 | (rw [i2.1]; exact Or.inr ⟨a, c, i2.2⟩)), fun hq => ⟨by show J1 177 q % 400 < m; rw [i1]; exact hq, i3 hq⟩⟩⟩, zup_at, zOf.up rfl f1.1, fun q hq => (zup_ne hq).trans (f1.2 q hq)⟩, fun q a c => h2 q a (by omega)⟩⟩
      · refine tz_iload_n (pc := 9) dX12_beginsClasses_9 rfl rfl ?_
        refine tz_sipush (pc := 10) dX12_beginsClasses_10 (by decide) ?_
        refine tz_irem (pc := 13) (a := k) (b := 400) (v := (k % 400)) dX12_beginsClasses_13 (by omega) (by omega) rfl ?_
        have hk9 : 0 ≤ k % 400 ∧ k % 400 < 400 := by omega
        refine tz_istore_n (pc := 14) (L2 := [_, _, _, _]) dX12_beginsClasses_14 rfl (by decide) rfl ?_
        refine tz_iload_n (pc := 15) dX12_beginsClasses_15 rfl rfl ?_
        refine tz_aload_n (pc := 16) dX12_beginsClasses_16 rfl rfl ?_
        refine tz_cV (pc := 17) (m_many hl n _ b r d s m (hM.cl f1.1 f1.2)) vl_X12_96 dX12_beginsClasses_17 o_164 rfl rfl (Nat.le_of_ble_eq_true rfl) ⟨(Nat.le_of_ble_eq_true rfl), (Nat.le_of_ble_eq_true rfl)⟩ rfl rfl (Nat.le_of_ble_eq_true rfl) (Nat.le_of_ble_eq_true rfl) (fun r9 J_17 hq9 => ?_)
        obtain ⟨z_17, rfl, hz_17, rfl, rfl⟩ := hq9
        refine tz_icmp_ge (pc := 20) (tgt := 27) dX12_beginsClasses_20 (by decide) (by omega) (by omega) (fun h_20 => ?_) (fun h_20 => ?_)
        · refine tz_iconst (pc := 27) dX12_beginsClasses_27 ?_
          refine tz_istore_n (pc := 28) (L2 := [_, _, _, _]) dX12_beginsClasses_28 rfl (by decide) rfl ?_
          refine tz_aload_n (pc := 29) dX12_beginsClasses_29 rfl rfl ?_
          refine tz_fR (pc := 30) dX12_beginsClasses_30 fl_X12_50 r_164_25 ?_
          refine tz_iload_n (pc := 33) dX12_beginsClasses_33 rfl rfl ?_
          refine tz_iload_n (pc := 34) dX12_beginsClasses_34 rfl rfl ?_
          refine tz_aS (pc := 35) (z := k) dX12_beginsClasses_35 a_177 rfl (by omega) (by omega) ?_
          refine tz_aload_n (pc := 36) dX12_beginsClasses_36 rfl rfl ?_
          refine tz_fR (pc := 37) dX12_beginsClasses_37 fl_X12_53 r_164_26 ?_
          refine tz_iload_n (pc := 40) dX12_beginsClasses_40 rfl rfl ?_
          refine tz_iload_n (pc := 41) dX12_beginsClasses_41 rfl rfl ?_
          refine tz_if_eqT (pc := 42) (tgt := 57) (by decide) dX12_beginsClasses_42 (by decide) (by decide) ?_
          refine tz_iconst (pc := 57) dX12_beginsClasses_57 ?_
          refine tz_aS (pc := 58) (z := k) dX12_beginsClasses_58 a_178 rfl (by omega) (by decide) ?_
          refine tz_aload_n (pc := 59) dX12_beginsClasses_59 rfl rfl ?_
          refine tz_fR (pc := 60) dX12_beginsClasses_60 fl_X12_56 r_164_27 ?_
          refine tz_iload_n (pc := 63) dX12_beginsClasses_63 rfl rfl ?_
          refine tz_iload_n (pc := 64) dX12_beginsClasses_64 rfl rfl ?_
          refine tz_if_eqT (pc := 65) (tgt := 84) (by decide) dX12_beginsClasses_65 (by decide) (by decide) ?_
          refine tz_bipush (pc := 84) dX12_beginsClasses_84 (by decide) ?_
          refine tz_aS (pc := 86) (z := k) dX12_beginsClasses_86 a_179 rfl (by omega) (by decide) ?_
          refine tz_aload_n (pc := 87) dX12_beginsClasses_87 rfl rfl ?_
          refine tz_fR (pc := 88) dX12_beginsClasses_88 fl_X12_59 r_164_28 ?_
          refine tz_iload_n (pc := 91) dX12_beginsClasses_91 rfl rfl ?_
          refine tz_iconst (pc := 92) dX12_beginsClasses_92 ?_
          refine tz_aS (pc := 93) (z := k) dX12_beginsClasses_93 a_180 rfl (by omega) (by decide) ?_
          refine tz_iinc (pc := 94) (z := k + 1) (L2 := [_, _, _, _]) dX12_beginsClasses_94 rfl (by omega) rfl ?_
          refine tz_goto (pc := 97) (tgt := 2) dX12_beginsClasses_97 (by decide) ?_
          exact ih2 (k + 1) _ _ _ (by omega) (by omega) ⟨zOf.up rfl (zOf.up rfl (zOf.up rfl (zOf.up rfl f1.1))), f1.2⟩ (ini_s h1 (by omega) (by omega)) (inx_s h2 (by omega))
        · refine tz_iconst (pc := 23) dX12_beginsClasses_23 ?_
          refine tz_goto (pc := 24) (tgt := 28) dX12_beginsClasses_24 (by decide) ?_
          refine tz_istore_n (pc := 28) (L2 := [_, _, _, _]) dX12_beginsClasses_28 rfl (by decide) rfl ?_
          refine tz_aload_n (pc := 29) dX12_beginsClasses_29 rfl rfl ?_
          refine tz_fR (pc := 30) dX12_beginsClasses_30 fl_X12_50 r_164_25 ?_
          refine tz_iload_n (pc := 33) dX12_beginsClasses_33 rfl rfl ?_
          refine tz_iload_n (pc := 34) dX12_beginsClasses_34 rfl rfl ?_
          refine tz_aS (pc := 35) (z := k) dX12_beginsClasses_35 a_177 rfl (by omega) (by omega) ?_
          refine tz_aload_n (pc := 36) dX12_beginsClasses_36 rfl rfl ?_
          refine tz_fR (pc := 37) dX12_beginsClasses_37 fl_X12_53 r_164_26 ?_
          refine tz_iload_n (pc := 40) dX12_beginsClasses_40 rfl rfl ?_
          refine tz_iload_n (pc := 41) dX12_beginsClasses_41 rfl rfl ?_
          refine tz_if_eqF (pc := 42) (tgt := 57) (by decide) dX12_beginsClasses_42 (by decide) (by decide) ?_
          refine tz_aload_n (pc := 45) dX12_beginsClasses_45 rfl rfl ?_
          refine tz_iload_n (pc := 46) dX12_beginsClasses_46 rfl rfl ?_
          have ha47 := hM.ar (t := k % 400) (by omega)
          refine tz_cV (pc := 47) (m_isVar hl n _ _ (by omega) b r d s m (hM.cl (zOf.up rfl f1.1) f1.2) (by omega)) vl_X12_78 dX12_beginsClasses_47 o_164 rfl rfl (Nat.le_of_ble_eq_true rfl) ⟨(Nat.le_of_ble_eq_true rfl), (Nat.le_of_ble_eq_true rfl)⟩ rfl rfl (Nat.le_of_ble_eq_true rfl) (Nat.le_of_ble_eq_true rfl) (fun r9 J_47 hq9 => ?_)
          obtain ⟨z_47, rfl, hz_47, rfl, hv_47⟩ := hq9
          have he_47 : ((zup J1 177 k k) : zJ) 166 = J 166 := (zOf.up rfl f1.1) 166 rfl
          rw [he_47] at hv_47
          have hw_47 : (z_47 = 1 ∧ J 166 (b + (k % 400)) < 0) ∨ (z_47 = 0 ∧ ¬ J 166 (b + (k % 400)) < 0) := by rw [← hv_47]; split <;> omega
          refine tz_if_ne (pc := 50) (tgt := 57) dX12_beginsClasses_50 (by decide) (by omega) (fun h_50 => ?_) (fun h_50 => ?_)
          · refine tz_iconst (pc := 57) dX12_beginsClasses_57 ?_
            refine tz_aS (pc := 58) (z := k) dX12_beginsClasses_58 a_178 rfl (by omega) (by decide) ?_
            refine tz_aload_n (pc := 59) dX12_beginsClasses_59 rfl rfl ?_
            refine tz_fR (pc := 60) dX12_beginsClasses_60 fl_X12_56 r_164_27 ?_
            refine tz_iload_n (pc := 63) dX12_beginsClasses_63 rfl rfl ?_
            refine tz_iload_n (pc := 64) dX12_beginsClasses_64 rfl rfl ?_
            refine tz_if_eqF (pc := 65) (tgt := 84) (by decide) dX12_beginsClasses_65 (by decide) (by decide) ?_
            refine tz_aload_n (pc := 68) dX12_beginsClasses_68 rfl rfl ?_
            refine tz_iload_n (pc := 69) dX12_beginsClasses_69 rfl rfl ?_
            have ha70 := hM.ar (t := k % 400) (by omega)
            refine tz_cV (pc := 70) (m_isVar hl n _ _ (by omega) b r d s m (hM.cl (zOf.up rfl (zOf.up rfl f1.1)) f1.2) (by omega)) vl_X12_78 dX12_beginsClasses_70 o_164 rfl rfl (Nat.le_of_ble_eq_true rfl) ⟨(Nat.le_of_ble_eq_true rfl), (Nat.le_of_ble_eq_true rfl)⟩ rfl rfl (Nat.le_of_ble_eq_true rfl) (Nat.le_of_ble_eq_true rfl) (fun r9 J_70 hq9 => ?_)
            obtain ⟨z_70, rfl, hz_70, rfl, hv_70⟩ := hq9
            have he_70 : ((zup (zup J1 177 k k) 178 k (-1)) : zJ) 166 = J 166 := (zOf.up rfl (zOf.up rfl f1.1)) 166 rfl
            rw [he_70] at hv_70
            have hw_70 : (z_70 = 1 ∧ J 166 (b + (k % 400)) < 0) ∨ (z_70 = 0 ∧ ¬ J 166 (b + (k % 400)) < 0) := by rw [← hv_70]; split <;> omega
            refine tz_if_eq (pc := 73) (tgt := 84) dX12_beginsClasses_73 (by decide) (by omega) (fun h_73 => ?_) (fun h_73 => ?_)
            · refine tz_bipush (pc := 84) dX12_beginsClasses_84 (by decide) ?_
              refine tz_aS (pc := 86) (z := k) dX12_beginsClasses_86 a_179 rfl (by omega) (by decide) ?_
              refine tz_aload_n (pc := 87) dX12_beginsClasses_87 rfl rfl ?_
              refine tz_fR (pc := 88) dX12_beginsClasses_88 fl_X12_59 r_164_28 ?_
              refine tz_iload_n (pc := 91) dX12_beginsClasses_91 rfl rfl ?_
              refine tz_iconst (pc := 92) dX12_beginsClasses_92 ?_
              refine tz_aS (pc := 93) (z := k) dX12_beginsClasses_93 a_180 rfl (by omega) (by decide) ?_
              refine tz_iinc (pc := 94) (z := k + 1) (L2 := [_, _, _, _]) dX12_beginsClasses_94 rfl (by omega) rfl ?_
              refine tz_goto (pc := 97) (tgt := 2) dX12_beginsClasses_97 (by decide) ?_
              exact ih2 (k + 1) _ _ _ (by omega) (by omega) ⟨zOf.up rfl (zOf.up rfl (zOf.up rfl (zOf.up rfl f1.1))), f1.2⟩ (ini_s h1 (by omega) (by omega)) (inx_s h2 (by omega))
            · refine tz_aload_n (pc := 76) dX12_beginsClasses_76 rfl rfl ?_
              refine tz_iload_n (pc := 77) dX12_beginsClasses_77 rfl rfl ?_
              refine tz_cV (pc := 78) (m_varOf hl n _ _ (by omega) b r d s m (hM.cl (zOf.up rfl (zOf.up rfl f1.1)) f1.2) (by omega)) vl_X12_123 dX12_beginsClasses_78 o_164 rfl rfl (Nat.le_of_ble_eq_true rfl) ⟨(Nat.le_of_ble_eq_true rfl), (Nat.le_of_ble_eq_true rfl)⟩ rfl rfl (Nat.le_of_ble_eq_true rfl) (Nat.le_of_ble_eq_true rfl) (fun r9 J_78 hq9 => ?_)
              obtain ⟨z_78, rfl, hz_78, rfl, hv_78⟩ := hq9
              have he_78 : ((zup (zup J1 177 k k) 178 k (-1)) : zJ) 166 = J 166 := (zOf.up rfl (zOf.up rfl f1.1)) 166 rfl
              rw [he_78] at hv_78
              refine tz_goto (pc := 81) (tgt := 86) dX12_beginsClasses_81 (by decide) ?_
              refine tz_aS (pc := 86) (z := k) dX12_beginsClasses_86 a_179 rfl (by omega) (by omega) ?_
              refine tz_aload_n (pc := 87) dX12_beginsClasses_87 rfl rfl ?_
              refine tz_fR (pc := 88) dX12_beginsClasses_88 fl_X12_59 r_164_28 ?_
              refine tz_iload_n (pc := 91) dX12_beginsClasses_91 rfl rfl ?_
              refine tz_iconst (pc := 92) dX12_beginsClasses_92 ?_
              refine tz_aS (pc := 93) (z := k) dX12_beginsClasses_93 a_180 rfl (by omega) (by decide) ?_
              refine tz_iinc (pc := 94) (z := k + 1) (L2 := [_, _, _, _]) dX12_beginsClasses_94 rfl (by omega) rfl ?_
              refine tz_goto (pc := 97) (tgt := 2) dX12_beginsClasses_97 (by decide) ?_
              exact ih2 (k + 1) _ _ _ (by omega) (by omega) ⟨zOf.up rfl (zOf.up rfl (zOf.up rfl (zOf.up rfl f1.1))), f1.2⟩ (ini_s h1 (by omega) (by omega)) (inx_s h2 (by omega))
          · refine tz_iload_n (pc := 53) dX12_beginsClasses_53 rfl rfl ?_
            refine tz_goto (pc := 54) (tgt := 58) dX12_beginsClasses_54 (by decide) ?_
            refine tz_aS (pc := 58) (z := k) dX12_beginsClasses_58 a_178 rfl (by omega) (by omega) ?_
            refine tz_aload_n (pc := 59) dX12_beginsClasses_59 rfl rfl ?_
            refine tz_fR (pc := 60) dX12_beginsClasses_60 fl_X12_56 r_164_27 ?_
            refine tz_iload_n (pc := 63) dX12_beginsClasses_63 rfl rfl ?_
            refine tz_iload_n (pc := 64) dX12_beginsClasses_64 rfl rfl ?_
            refine tz_if_eqF (pc := 65) (tgt := 84) (by decide) dX12_beginsClasses_65 (by decide) (by decide) ?_
            refine tz_aload_n (pc := 68) dX12_beginsClasses_68 rfl rfl ?_
            refine tz_iload_n (pc := 69) dX12_beginsClasses_69 rfl rfl ?_
            have ha70 := hM.ar (t := k % 400) (by omega)
            refine tz_cV (pc := 70) (m_isVar hl n _ _ (by omega) b r d s m (hM.cl (zOf.up rfl (zOf.up rfl f1.1)) f1.2) (by omega)) vl_X12_78 dX12_beginsClasses_70 o_164 rfl rfl (Nat.le_of_ble_eq_true rfl) ⟨(Nat.le_of_ble_eq_true rfl), (Nat.le_of_ble_eq_true rfl)⟩ rfl rfl (Nat.le_of_ble_eq_true rfl) (Nat.le_of_ble_eq_true rfl) (fun r9 J_70 hq9 => ?_)
            obtain ⟨z_70, rfl, hz_70, rfl, hv_70⟩ := hq9
            have he_70 : ((zup (zup J1 177 k k) 178 k k) : zJ) 166 = J 166 := (zOf.up rfl (zOf.up rfl f1.1)) 166 rfl
            rw [he_70] at hv_70
            have hw_70 : (z_70 = 1 ∧ J 166 (b + (k % 400)) < 0) ∨ (z_70 = 0 ∧ ¬ J 166 (b + (k % 400)) < 0) := by rw [← hv_70]; split <;> omega
            refine tz_if_eq (pc := 73) (tgt := 84) dX12_beginsClasses_73 (by decide) (by omega) (fun h_73 => ?_) (fun h_73 => ?_)
            · refine tz_bipush (pc := 84) dX12_beginsClasses_84 (by decide) ?_
              refine tz_aS (pc := 86) (z := k) dX12_beginsClasses_86 a_179 rfl (by omega) (by decide) ?_
              refine tz_aload_n (pc := 87) dX12_beginsClasses_87 rfl rfl ?_
              refine tz_fR (pc := 88) dX12_beginsClasses_88 fl_X12_59 r_164_28 ?_
              refine tz_iload_n (pc := 91) dX12_beginsClasses_91 rfl rfl ?_
              refine tz_iconst (pc := 92) dX12_beginsClasses_92 ?_
              refine tz_aS (pc := 93) (z := k) dX12_beginsClasses_93 a_180 rfl (by omega) (by decide) ?_
              refine tz_iinc (pc := 94) (z := k + 1) (L2 := [_, _, _, _]) dX12_beginsClasses_94 rfl (by omega) rfl ?_
              refine tz_goto (pc := 97) (tgt := 2) dX12_beginsClasses_97 (by decide) ?_
              exact ih2 (k + 1) _ _ _ (by omega) (by omega) ⟨zOf.up rfl (zOf.up rfl (zOf.up rfl (zOf.up rfl f1.1))), f1.2⟩ (ini_s h1 (by omega) (by omega)) (inx_s h2 (by omega))
            · refine tz_aload_n (pc := 76) dX12_beginsClasses_76 rfl rfl ?_
              refine tz_iload_n (pc := 77) dX12_beginsClasses_77 rfl rfl ?_
              refine tz_cV (pc := 78) (m_varOf hl n _ _ (by omega) b r d s m (hM.cl (zOf.up rfl (zOf.up rfl f1.1)) f1.2) (by omega)) vl_X12_123 dX12_beginsClasses_78 o_164 rfl rfl (Nat.le_of_ble_eq_true rfl) ⟨(Nat.le_of_ble_eq_true rfl), (Nat.le_of_ble_eq_true rfl)⟩ rfl rfl (Nat.le_of_ble_eq_true rfl) (Nat.le_of_ble_eq_true rfl) (fun r9 J_78 hq9 => ?_)
              obtain ⟨z_78, rfl, hz_78, rfl, hv_78⟩ := hq9
              have he_78 : ((zup (zup J1 177 k k) 178 k k) : zJ) 166 = J 166 := (zOf.up rfl (zOf.up rfl f1.1)) 166 rfl
              rw [he_78] at hv_78
              refine tz_goto (pc := 81) (tgt := 86) dX12_beginsClasses_81 (by decide) ?_
              refine tz_aS (pc := 86) (z := k) dX12_beginsClasses_86 a_179 rfl (by omega) (by omega) ?_
              refine tz_aload_n (pc := 87) dX12_beginsClasses_87 rfl rfl ?_
              refine tz_fR (pc := 88) dX12_beginsClasses_88 fl_X12_59 r_164_28 ?_
              refine tz_iload_n (pc := 91) dX12_beginsClasses_91 rfl rfl ?_
              refine tz_iconst (pc := 92) dX12_beginsClasses_92 ?_
              refine tz_aS (pc := 93) (z := k) dX12_beginsClasses_93 a_180 rfl (by omega) (by decide) ?_
              refine tz_iinc (pc := 94) (z := k + 1) (L2 := [_, _, _, _]) dX12_beginsClasses_94 rfl (by omega) rfl ?_
              refine tz_goto (pc := 97) (tgt := 2) dX12_beginsClasses_97 (by decide) ?_
              exact ih2 (k + 1) _ _ _ (by omega) (by omega) ⟨zOf.up rfl (zOf.up rfl (zOf.up rfl (zOf.up rfl f1.1))), f1.2⟩ (ini_s h1 (by omega) (by omega)) (inx_s h2 (by omega))
  exact loop2 _ 0 none none _ (Nat.lt_succ_self _) (by omega) ⟨zOf.rf, fun _ _ => rfl⟩ (fun q a b => by omega) (fun q a b => by omega)

set_option maxHeartbeats 4000000 in
set_option maxRecDepth 100000 in
theorem x_joinsR {l : Launch} {G : tb_G} (hl : l.stackTraces = false) (n : Nat) : ∀ (r9 : Nat) (J : zJ) (x : Int) (y : Int) (hr_x : -2147483648 ≤ x ∧ x < 2147483648) (hr_y : -2147483648 ≤ y ∧ y < 2147483648) (b r d s m : Int) (c : Int) (H : zJ) (hM : MS J b r d s m) (hU : UF J c m) (hx : VN c m x) (hy : VN c m y) (e6 : J 166 = H 166) (e7 : J 167 = H 167) (e0 : J 170 = H 170) (hS : SHp (VN c m) (hdN H b) (J 177) (J 178) (J 179)), (rc J) < r9 → tz_Ok l G M_X12_joins (5 + 1 * r9) 0 0 [.ref 164, zi x, zi y] n J (zqv (fun J' => UF J' c m ∧ rc J' ≤ rc J ∧ (zOf (zbut [164, 177, 178, 179, 180]) J' J ∧ ∀ k, ¬ k = 30 → J' 164 k = J 164 k) ∧ SHp (VN c m) (hdN H b) (J' 177) (J' 178) (J' 179) ∧ JOP c m b d H J x y J' ∧ J' 180 = J 180)) zN := by
  intro r9
  induction r9 with
  | zero => intro J x y hr_x hr_y b r d s m c H hM hU hx hy e6 e7 e0 hS hm9; exact absurd hm9 (Nat.not_lt_zero _)
  | succ r9 ih =>
    intro J x y hr_x hr_y b r d s m c H hM hU hx hy e6 e7 e0 hS hm9
    refine tz_Ok.of hl (by decide +kernel) rfl (tb_c1 rfl) (Nat.le_of_ble_eq_true rfl) ?_
    show tz_At l G M_X12_joins (tb_rm (5 + 1 * (r9 + 1)) 0 0) none (tb_ZM G 0 0 (zQ n 0 (zqv (fun J' => UF J' c m ∧ rc J' ≤ rc J ∧ (zOf (zbut [164, 177, 178, 179, 180]) J' J ∧ ∀ k, ¬ k = 30 → J' 164 k = J 164 k) ∧ SHp (VN c m) (hdN H b) (J' 177) (J' 178) (J' 179) ∧ JOP c m b d H J x y J' ∧ J' 180 = J 180))) (zX n 0 zN)) 0 0 n J 0 [some (.ref 164), some (zi x), some (zi y), none, none, none, none, none] []
    obtain ⟨hM1, hM2, hM3, hM4, hM5, hM6⟩ := id hM
    have hT := hM.told
    have hc9 := hU.1
    have hP := hU.p
    have hx1 := hx.1
    have hy1 := hy.1
    have hx2 := hx.2
    have hy2 := hy.2
    refine tz_aload_n (pc := 0) dX12_joins_0 rfl rfl ?_
    refine tz_iload_n (pc := 1) dX12_joins_1 rfl rfl ?_
    refine tz_cV (pc := 2) (x_top hl n _ _ (by omega) c m hU hx) vl_X12_164 dX12_joins_2 o_164 rfl rfl (Nat.le_of_ble_eq_true rfl) ⟨(show 0 + 1 ≤ 5 + 1 * (r9 + 1) by omega), (show 8 + (3 + 11) + 40 * (0) ≤ 40 * (5 + 1 * (r9 + 1)) by omega)⟩ rfl rfl (Nat.le_of_ble_eq_true rfl) (Nat.le_of_ble_eq_true rfl) (fun r9 J_2 hq9 => ?_)
    obtain ⟨z_2, rfl, hz_2, rfl, v_2, b_2, t_2⟩ := hq9
    have a_2 := v_2.1
    have c_2 := v_2.2
    refine tz_istore_n (pc := 5) (L2 := [_, _, _, _, _, _, _, _]) dX12_joins_5 rfl (by decide) rfl ?_
    refine tz_aload_n (pc := 6) dX12_joins_6 rfl rfl ?_
    refine tz_iload_n (pc := 7) dX12_joins_7 rfl rfl ?_
    refine tz_cV (pc := 8) (x_top hl n _ _ (by omega) c m hU hy) vl_X12_164 dX12_joins_8 o_164 rfl rfl (Nat.le_of_ble_eq_true rfl) ⟨(show 0 + 1 ≤ 5 + 1 * (r9 + 1) by omega), (show 8 + (3 + 11) + 40 * (0) ≤ 40 * (5 + 1 * (r9 + 1)) by omega)⟩ rfl rfl (Nat.le_of_ble_eq_true rfl) (Nat.le_of_ble_eq_true rfl) (fun r9 J_8 hq9 => ?_)
    obtain ⟨z_8, rfl, hz_8, rfl, v_8, b_8, t_8⟩ := hq9
    have a_8 := v_8.1
    have c_8 := v_8.2
    refine tz_istore (pc := 11) (L2 := [_, _, _, _, _, _, _, _]) dX12_joins_11 (by decide) rfl ?_
    refine tz_iload_n (pc := 13) dX12_joins_13 rfl rfl ?_
    refine tz_iload (pc := 14) dX12_joins_14 rfl ?_
    refine tz_icmp_ne (pc := 16) (tgt := 20) dX12_joins_16 (by decide) (by omega) (by omega) (fun h_16 => ?_) (fun h_16 => ?_)
    · have ua := (hU.at a_2).2
      have ub := (hU.at a_8).2
      have va := c_2
      have vb := c_8
      refine tz_aload_n (pc := 20) dX12_joins_20 rfl rfl ?_
      refine tz_fR (pc := 21) dX12_joins_21 fl_X12_53 r_164_26 ?_
      refine tz_iload_n (pc := 24) dX12_joins_24 rfl rfl ?_
      refine tz_aL (pc := 25) (z := z_2) (v := (J 178 z_2)) dX12_joins_25 a_178 rfl (by omega) rfl (fun r_25 => ?_)
      refine tz_istore (pc := 26) (L2 := [_, _, _, _, _, _, _, _]) dX12_joins_26 (by decide) rfl ?_
      refine tz_aload_n (pc := 28) dX12_joins_28 rfl rfl ?_
      refine tz_fR (pc := 29) dX12_joins_29 fl_X12_53 r_164_26 ?_
      refine tz_iload (pc := 32) dX12_joins_32 rfl ?_
      refine tz_aL (pc := 34) (z := z_8) (v := (J 178 z_8)) dX12_joins_34 a_178 rfl (by omega) rfl (fun r_34 => ?_)
      refine tz_istore (pc := 35) (L2 := [_, _, _, _, _, _, _, _]) dX12_joins_35 (by decide) rfl ?_
      refine tz_aload_n (pc := 37) dX12_joins_37 rfl rfl ?_
      refine tz_fR (pc := 38) dX12_joins_38 fl_X12_50 r_164_25 ?_
      refine tz_iload (pc := 41) dX12_joins_41 rfl ?_
      refine tz_iload_n (pc := 43) dX12_joins_43 rfl rfl ?_
      refine tz_aS (pc := 44) (z := z_8) dX12_joins_44 a_177 rfl (by omega) (by omega) ?_
      refine tz_iload (pc := 45) dX12_joins_45 rfl ?_
      refine tz_iconst (pc := 47) dX12_joins_47 ?_
      refine tz_icmp_ne (pc := 48) (tgt := 59) dX12_joins_48 (by decide) (by omega) (by decide) (fun h_48 => ?_) (fun h_48 => ?_)
      · refine tz_aload_n (pc := 59) dX12_joins_59 rfl rfl ?_
        refine tz_fR (pc := 60) dX12_joins_60 fl_X12_56 r_164_27 ?_
        refine tz_iload (pc := 63) dX12_joins_63 rfl ?_
        refine tz_aL (pc := 65) (z := z_8) (v := (J 179 z_8)) dX12_joins_65 a_179 rfl (by omega) rfl (fun r_65 => ?_)
        refine tz_aload_n (pc := 66) dX12_joins_66 rfl rfl ?_
        refine tz_fR (pc := 67) dX12_joins_67 fl_X12_56 r_164_27 ?_
        refine tz_iload_n (pc := 70) dX12_joins_70 rfl rfl ?_
        refine tz_aL (pc := 71) (z := z_2) (v := (J 179 z_2)) dX12_joins_71 a_179 rfl (by omega) rfl (fun r_71 => ?_)
        refine tz_icmp_ge (pc := 72) (tgt := 88) dX12_joins_72 (by decide) (by omega) (by omega) (fun h_72 => ?_) (fun h_72 => ?_)
        · have hu := UF.joinP (J := J) (J' := (zup J 177 z_8 z_2)) (c := c) (m := m) (a := z_2) (b := z_8) (v := J 178 z_2) (w := J 179 z_2) hU ⟨a_2, c_2, b_2⟩ ⟨a_8, c_8, b_8⟩ (by omega) (by omega) (by omega) (fun _ => rfl) (zsel (f := J 178)) (zsel (f := J 179))
          have hs := hS.link (p' := ((zup J 177 z_8 z_2) : zJ) 177) (sh' := ((zup J 177 z_8 z_2) : zJ) 178) (lv' := ((zup J 177 z_8 z_2) : zJ) 179) hP ⟨v_2, b_2⟩ ⟨v_8, b_8⟩ (by omega) (fun _ _ => rfl) (fun k _ => by show J 178 k = _; rw [if_neg (show ¬ J 178 z_2 = -1 by omega)]; split; (next e => rw [e]); rfl) (fun _ _ _ => rfl) (fun _ _ => by show J 179 z_2 = _; rw [if_neg (by omega)]) (fun k hk => by have := hk.1; omega)
          refine tz_iload (pc := 88) dX12_joins_88 rfl ?_
          refine tz_iconst (pc := 90) dX12_joins_90 ?_
          refine tz_icmp_eq (pc := 91) (tgt := 100) dX12_joins_91 (by decide) (by omega) (by decide) (fun h_91 => ?_) (fun h_91 => ?_)
          · exact tz_vret (pc := 100) dX12_joins_100 rfl (Nat.le_of_ble_eq_true rfl) (Nat.le_of_ble_eq_true rfl) ⟨Nat.le_refl _, Nat.le_add_right _ _⟩ ⟨rfl, ⟨hu.1, Nat.le_of_lt hu.2, ⟨(zOf.up rfl zOf.rf), (fun _ _ => rfl)⟩, hs, JOP.one hP hx hy t_2 t_8 (by omega) (fun _ _ => rfl) hS (by omega) rfl, rfl⟩⟩
          · refine tz_iload (pc := 94) dX12_joins_94 rfl ?_
            refine tz_iconst (pc := 96) dX12_joins_96 ?_
            refine tz_icmp_ne (pc := 97) (tgt := 101) dX12_joins_97 (by decide) (by omega) (by decide) (fun h_97 => ?_) (fun h_97 => ?_)
            · refine tz_aload_n (pc := 101) dX12_joins_101 rfl rfl ?_
              refine tz_iload (pc := 102) dX12_joins_102 rfl ?_
              refine tz_sipush (pc := 104) dX12_joins_104 (by decide) ?_
              refine tz_irem (pc := 107) (a := (J 178 z_2)) (b := 400) (v := ((J 178 z_2) % 400)) dX12_joins_107 (by omega) (by omega) rfl ?_
              refine tz_cV (pc := 108) (m_head hl n _ _ (by omega) b r d s m (hM.cl (zOf.up rfl zOf.rf) (fun _ _ => rfl)) (by omega)) vl_X12_74 dX12_joins_108 o_164 rfl rfl (Nat.le_of_ble_eq_true rfl) ⟨(show 0 + 1 ≤ 5 + 1 * (r9 + 1) by omega), (show 8 + (2 + 11) + 40 * (0) ≤ 40 * (5 + 1 * (r9 + 1)) by omega)⟩ rfl rfl (Nat.le_of_ble_eq_true rfl) (Nat.le_of_ble_eq_true rfl) (fun r9 J_108 hq9 => ?_)
              obtain ⟨z_108, rfl, hz_108, rfl, hv_108⟩ := hq9
              have he_108 : ((zup J 177 z_8 z_2) : zJ) 166 = J 166 := rfl
              rw [he_108] at hv_108
              refine tz_aload_n (pc := 111) dX12_joins_111 rfl rfl ?_
              refine tz_iload (pc := 112) dX12_joins_112 rfl ?_
              refine tz_sipush (pc := 114) dX12_joins_114 (by decide) ?_
              refine tz_irem (pc := 117) (a := (J 178 z_8)) (b := 400) (v := ((J 178 z_8) % 400)) dX12_joins_117 (by omega) (by omega) rfl ?_
              refine tz_cV (pc := 118) (m_head hl n _ _ (by omega) b r d s m (hM.cl (zOf.up rfl zOf.rf) (fun _ _ => rfl)) (by omega)) vl_X12_74 dX12_joins_118 o_164 rfl rfl (Nat.le_of_ble_eq_true rfl) ⟨(show 0 + 1 ≤ 5 + 1 * (r9 + 1) by omega), (show 8 + (2 + 11) + 40 * (0) ≤ 40 * (5 + 1 * (r9 + 1)) by omega)⟩ rfl rfl (Nat.le_of_ble_eq_true rfl) (Nat.le_of_ble_eq_true rfl) (fun r9 J_118 hq9 => ?_)
              obtain ⟨z_118, rfl, hz_118, rfl, hv_118⟩ := hq9
              have he_118 : ((zup J 177 z_8 z_2) : zJ) 166 = J 166 := rfl
              rw [he_118] at hv_118
              have ha121 := hM.ar (t := (J 178 z_2) % 400) (by omega)
              refine tz_icmp_eq (pc := 121) (tgt := 130) dX12_joins_121 (by decide) (by omega) (by omega) (fun h_121 => ?_) (fun h_121 => ?_)
              · refine tz_iconst (pc := 130) dX12_joins_130 ?_
                refine tz_istore (pc := 131) (L2 := [_, _, _, _, _, _, _, _]) dX12_joins_131 (by decide) rfl ?_
                have loop133 : ∀ (f9 : Nat) (k : Int) (J1 : zJ), ((3 - k).toNat) < f9 → (0 ≤ k ∧ k ≤ 3) → (UF J1 c m) → (rc J1 < rc J) → (zOf (zbut [164, 177, 178, 179, 180]) J1 J ∧ ∀ k, ¬ k = 30 → J1 164 k = J 164 k) → (SHp (VN c m) (hdN H b) (J1 177) (J1 178) (J1 179)) → (JOL c m b d H J x y (J 178 z_2) (J 178 z_8) k J1) → (J1 180 = J 180) → tz_At l G M_X12_joins (tb_rm (5 + 1 * (r9 + 1)) 0 0) none (tb_ZM G 0 0 (zQ n 0 (zqv (fun J' => UF J' c m ∧ rc J' ≤ rc J ∧ (zOf (zbut [164, 177, 178, 179, 180]) J' J ∧ ∀ k, ¬ k = 30 → J' 164 k = J 164 k) ∧ SHp (VN c m) (hdN H b) (J' 177) (J' 178) (J' 179) ∧ JOP c m b d H J x y J' ∧ J' 180 = J 180))) (zX n 0 zN)) 0 0 n J1 133 [some (.ref 164), some (zi x), some (zi y), some (zi z_2), some (zi z_8), some (zi (J 178 z_2)), some (zi (J 178 z_8)), some (zi k)] [] := by
                  intro f9
                  induction f9 with
                  | zero => intro k J1 hm9; exact absurd hm9 (Nat.not_lt_zero _)
                  | succ f9 ih133 =>
                    intro k J1 hm133 hk hU1 hr1 f_J1 hs1 jl hc01
                    have e9 := MS.hd8 (J := J) (b := b) (d := d) (t := (J 178 z_2) % 400) (u := (J 178 z_8) % 400) (by omega)
                    have hA := hM.ar (t := (J 178 z_2) % 400) (by omega)
                    have maH : mar J b d ((J 178 z_2) % 400) = mar H b d ((J 178 z_2) % 400) := by unfold mar; rw [e6, e0]
                    have sa9 := (hS z_2 v_2 b_2).1.resolve_left (by omega)
                    have sb9 := (hS z_8 v_8 b_8).1.resolve_left (by omega)
                    have hl9 : ∀ f, Rsp (VN c m) (J 177) f → f x = f y → f (J 178 z_2) = f (J 178 z_8) := fun f r9 w9 => by rw [hP.eq r9 sa9.1 hx (sa9.2.2.trans t_2.symm), hP.eq r9 sb9.1 hy (sb9.2.2.trans t_8.symm)]; exact w9
                    refine tz_iload (pc := 133) dX12_joins_133 rfl ?_
                    refine tz_aload_n (pc := 135) dX12_joins_135 rfl rfl ?_
                    refine tz_iload (pc := 136) dX12_joins_136 rfl ?_
                    refine tz_sipush (pc := 138) dX12_joins_138 (by decide) ?_
                    refine tz_irem (pc := 141) (a := (J 178 z_2)) (b := 400) (v := ((J 178 z_2) % 400)) dX12_joins_141 (by omega) (by omega) rfl ?_
                    refine tz_cV (pc := 142) (m_arity hl n _ _ (by omega) b r d s m (hM.cl f_J1.1 f_J1.2) (by omega)) vl_X12_111 dX12_joins_142 o_164 rfl rfl (Nat.le_of_ble_eq_true rfl) ⟨(show 2 + 1 ≤ 5 + 1 * (r9 + 1) by omega), (show 8 + (2 + 11) + 40 * (2) ≤ 40 * (5 + 1 * (r9 + 1)) by omega)⟩ rfl rfl (Nat.le_of_ble_eq_true rfl) (Nat.le_of_ble_eq_true rfl) (fun r9 J_142 hq9 => ?_)
                    obtain ⟨z_142, rfl, hz_142, rfl, hv_142⟩ := hq9
                    rw [mar_cl (J := J) f_J1.1] at hv_142
                    refine tz_icmp_ge (pc := 145) (tgt := 174) dX12_joins_145 (by decide) (by omega) (by omega) (fun h_145 => ?_) (fun h_145 => ?_)
                    · exact tz_vret (pc := 174) dX12_joins_174 rfl (Nat.le_of_ble_eq_true rfl) (Nat.le_of_ble_eq_true rfl) ⟨Nat.le_refl _, Nat.le_add_right _ _⟩ ⟨rfl, ⟨hU1, by omega, f_J1, hs1, jl.fin (by unfold arN; rw [← maH]; omega), hc01⟩⟩
                    · refine tz_aload_n (pc := 148) dX12_joins_148 rfl rfl ?_
                      refine tz_aload_n (pc := 149) dX12_joins_149 rfl rfl ?_
                      refine tz_iload (pc := 150) dX12_joins_150 rfl ?_
                      refine tz_iload (pc := 152) dX12_joins_152 rfl ?_
                      refine tz_cV (pc := 154) (x_argOf hl n _ _ _ (by omega) (by omega) b r d s m c (hM.cl f_J1.1 f_J1.2) hU.1 ⟨by omega, by omega⟩ (by rw [mar_cl (J := J) f_J1.1]; omega)) vl_X12_167 dX12_joins_154 o_164 rfl rfl (Nat.le_of_ble_eq_true rfl) ⟨(show 1 + 1 ≤ 5 + 1 * (r9 + 1) by omega), (show 8 + (3 + 11) + 40 * (1) ≤ 40 * (5 + 1 * (r9 + 1)) by omega)⟩ rfl rfl (Nat.le_of_ble_eq_true rfl) (Nat.le_of_ble_eq_true rfl) (fun r9 J_154 hq9 => ?_)
                      obtain ⟨z_154, rfl, hz_154, rfl, hg_154, hh_154⟩ := hq9
                      have ag_154 : z_154 = agN H b ((J 178 z_2)) k := by rw [hh_154]; unfold agN; rw [f_J1.1 167 rfl, e7]
                      refine tz_aload_n (pc := 157) dX12_joins_157 rfl rfl ?_
                      refine tz_iload (pc := 158) dX12_joins_158 rfl ?_
                      refine tz_iload (pc := 160) dX12_joins_160 rfl ?_
                      refine tz_cV (pc := 162) (x_argOf hl n _ _ _ (by omega) (by omega) b r d s m c (hM.cl f_J1.1 f_J1.2) hU.1 ⟨by omega, by omega⟩ (by rw [mar_cl (J := J) f_J1.1]; omega)) vl_X12_167 dX12_joins_162 o_164 rfl rfl (Nat.le_of_ble_eq_true rfl) ⟨(show 1 + 1 ≤ 5 + 1 * (r9 + 1) by omega), (show 8 + (3 + 11) + 40 * (1) ≤ 40 * (5 + 1 * (r9 + 1)) by omega)⟩ rfl rfl (Nat.le_of_ble_eq_true rfl) (Nat.le_of_ble_eq_true rfl) (fun r9 J_162 hq9 => ?_)
                      obtain ⟨z_162, rfl, hz_162, rfl, hg_162, hh_162⟩ := hq9
                      have ag_162 : z_162 = agN H b ((J 178 z_8)) k := by rw [hh_162]; unfold agN; rw [f_J1.1 167 rfl, e7]
                      refine tz_cV (pc := 165) (ih _ _ _ (by omega) (by omega) b r d s m c H (hM.cl f_J1.1 f_J1.2) hU1 hg_154 hg_162 ((f_J1.1 166 rfl).trans e6) ((f_J1.1 167 rfl).trans e7) ((f_J1.1 170 rfl).trans e0) hs1 (by omega)) vl_X12_170 dX12_joins_165 o_164 rfl rfl (Nat.le_of_ble_eq_true rfl) ⟨(show (5 + 1 * r9) + 1 ≤ 5 + 1 * (r9 + 1) by omega), (show 8 + (8 + 11) + 40 * ((5 + 1 * r9)) ≤ 40 * (5 + 1 * (r9 + 1)) by omega)⟩ rfl rfl (Nat.le_of_ble_eq_true rfl) (Nat.le_of_ble_eq_true rfl) (fun r9 J_165 hq9 => ?_)
                      obtain ⟨rfl, u_2, r_2, ⟨g_2, k_2⟩, s_2, j_2, n_2⟩ := hq9
                      rw [ag_154, ag_162] at j_2
                      refine tz_iinc (pc := 168) (z := k + 1) (L2 := [_, _, _, _, _, _, _, _]) dX12_joins_168 rfl (by omega) rfl ?_
                      refine tz_goto (pc := 171) (tgt := 133) dX12_joins_171 (by decide) ?_
                      exact ih133 (k + 1) _ (by omega) (by omega) u_2 (by omega) ⟨g_2.tr f_J1.1, fun k hk => (k_2 k hk).trans (f_J1.2 k hk)⟩ s_2 (jl.step j_2 ⟨by omega, by unfold arN; rw [← maH]; omega⟩ ⟨sa9.1, sa9.2.1⟩ ⟨sb9.1, sb9.2.1⟩ hl9) (n_2.trans hc01)
                exact loop133 _ 0 _ (Nat.lt_succ_self _) (by omega) hu.1 hu.2 ⟨(zOf.up rfl zOf.rf), (fun _ _ => rfl)⟩ hs (JOL.start hP hx hy t_2 t_8 (by omega) (fun _ _ => rfl) hS (by omega) (by omega) (by unfold hdN; rw [← e6]; omega) rfl) rfl
              · refine tz_aload_n (pc := 124) dX12_joins_124 rfl rfl ?_
                refine tz_iconst (pc := 125) dX12_joins_125 ?_
                refine tz_pZ (pc := 126) (kz := 30) dX12_joins_126 fl_X12_161 i_164_30 rfl rfl (Or.inr rfl) ?_
                exact tz_vret (pc := 129) dX12_joins_129 rfl (Nat.le_of_ble_eq_true rfl) (Nat.le_of_ble_eq_true rfl) ⟨Nat.le_refl _, Nat.le_add_right _ _⟩ ⟨rfl, ⟨hu.1.of rfl rfl rfl, Nat.le_of_lt hu.2, ⟨(zOf.up rfl (zOf.up rfl zOf.rf)), (fun k hk => (zup_ne hk).trans ((fun _ _ => rfl) k hk))⟩, hs, JOP.clash hP hx hy t_2 t_8 hS (by omega) (by omega) (by unfold hdN; rw [← e6]; omega) (by rw [zup_at]; decide), rfl⟩⟩
            · exact tz_vret (pc := 100) dX12_joins_100 rfl (Nat.le_of_ble_eq_true rfl) (Nat.le_of_ble_eq_true rfl) ⟨Nat.le_refl _, Nat.le_add_right _ _⟩ ⟨rfl, ⟨hu.1, Nat.le_of_lt hu.2, ⟨(zOf.up rfl zOf.rf), (fun _ _ => rfl)⟩, hs, JOP.one hP hx hy t_2 t_8 (by omega) (fun _ _ => rfl) hS (by omega) rfl, rfl⟩⟩
        · refine tz_aload_n (pc := 75) dX12_joins_75 rfl rfl ?_
          refine tz_fR (pc := 76) dX12_joins_76 fl_X12_56 r_164_27 ?_
          refine tz_iload_n (pc := 79) dX12_joins_79 rfl rfl ?_
          refine tz_aload_n (pc := 80) dX12_joins_80 rfl rfl ?_
          refine tz_fR (pc := 81) dX12_joins_81 fl_X12_56 r_164_27 ?_
          refine tz_iload (pc := 84) dX12_joins_84 rfl ?_
          refine tz_aL (pc := 86) (z := z_8) (v := (J 179 z_8)) dX12_joins_86 a_179 rfl (by omega) rfl (fun r_86 => ?_)
          refine tz_aS (pc := 87) (z := z_2) dX12_joins_87 a_179 rfl (by omega) (by omega) ?_
          have hu := UF.joinP (J := J) (J' := (zup (zup J 177 z_8 z_2) 179 z_2 (J 179 z_8))) (c := c) (m := m) (a := z_2) (b := z_8) (v := J 178 z_2) (w := J 179 z_8) hU ⟨a_2, c_2, b_2⟩ ⟨a_8, c_8, b_8⟩ (by omega) (by omega) (by omega) (fun _ => rfl) (zsel (f := J 178)) (fun _ => rfl)
          have hs := hS.link (p' := ((zup (zup J 177 z_8 z_2) 179 z_2 (J 179 z_8)) : zJ) 177) (sh' := ((zup (zup J 177 z_8 z_2) 179 z_2 (J 179 z_8)) : zJ) 178) (lv' := ((zup (zup J 177 z_8 z_2) 179 z_2 (J 179 z_8)) : zJ) 179) hP ⟨v_2, b_2⟩ ⟨v_8, b_8⟩ (by omega) (fun _ _ => rfl) (fun k _ => by show J 178 k = _; rw [if_neg (show ¬ J 178 z_2 = -1 by omega)]; split; (next e => rw [e]); rfl) (fun k _ q => by show (if k = z_2 then J 179 z_8 else J 179 k) = _; rw [if_neg q]) (fun _ _ => by show (if z_2 = z_2 then J 179 z_8 else J 179 z_2) = _; rw [if_pos rfl, if_pos (by omega)]) (fun k hk => by have := hk.1; omega)
          refine tz_iload (pc := 88) dX12_joins_88 rfl ?_
          refine tz_iconst (pc := 90) dX12_joins_90 ?_
          refine tz_icmp_eq (pc := 91) (tgt := 100) dX12_joins_91 (by decide) (by omega) (by decide) (fun h_91 => ?_) (fun h_91 => ?_)
          · exact tz_vret (pc := 100) dX12_joins_100 rfl (Nat.le_of_ble_eq_true rfl) (Nat.le_of_ble_eq_true rfl) ⟨Nat.le_refl _, Nat.le_add_right _ _⟩ ⟨rfl, ⟨hu.1, Nat.le_of_lt hu.2, ⟨(zOf.up rfl (zOf.up rfl zOf.rf)), (fun _ _ => rfl)⟩, hs, JOP.one hP hx hy t_2 t_8 (by omega) (fun _ _ => rfl) hS (by omega) rfl, rfl⟩⟩
          · refine tz_iload (pc := 94) dX12_joins_94 rfl ?_
            refine tz_iconst (pc := 96) dX12_joins_96 ?_
            refine tz_icmp_ne (pc := 97) (tgt := 101) dX12_joins_97 (by decide) (by omega) (by decide) (fun h_97 => ?_) (fun h_97 => ?_)
            · refine tz_aload_n (pc := 101) dX12_joins_101 rfl rfl ?_
              refine tz_iload (pc := 102) dX12_joins_102 rfl ?_
              refine tz_sipush (pc := 104) dX12_joins_104 (by decide) ?_
              refine tz_irem (pc := 107) (a := (J 178 z_2)) (b := 400) (v := ((J 178 z_2) % 400)) dX12_joins_107 (by omega) (by omega) rfl ?_
              refine tz_cV (pc := 108) (m_head hl n _ _ (by omega) b r d s m (hM.cl (zOf.up rfl (zOf.up rfl zOf.rf)) (fun _ _ => rfl)) (by omega)) vl_X12_74 dX12_joins_108 o_164 rfl rfl (Nat.le_of_ble_eq_true rfl) ⟨(show 0 + 1 ≤ 5 + 1 * (r9 + 1) by omega), (show 8 + (2 + 11) + 40 * (0) ≤ 40 * (5 + 1 * (r9 + 1)) by omega)⟩ rfl rfl (Nat.le_of_ble_eq_true rfl) (Nat.le_of_ble_eq_true rfl) (fun r9 J_108 hq9 => ?_)
              obtain ⟨z_108, rfl, hz_108, rfl, hv_108⟩ := hq9
              have he_108 : ((zup (zup J 177 z_8 z_2) 179 z_2 (J 179 z_8)) : zJ) 166 = J 166 := rfl
              rw [he_108] at hv_108
              refine tz_aload_n (pc := 111) dX12_joins_111 rfl rfl ?_
              refine tz_iload (pc := 112) dX12_joins_112 rfl ?_
              refine tz_sipush (pc := 114) dX12_joins_114 (by decide) ?_
              refine tz_irem (pc := 117) (a := (J 178 z_8)) (b := 400) (v := ((J 178 z_8) % 400)) dX12_joins_117 (by omega) (by omega) rfl ?_
              refine tz_cV (pc := 118) (m_head hl n _ _ (by omega) b r d s m (hM.cl (zOf.up rfl (zOf.up rfl zOf.rf)) (fun _ _ => rfl)) (by omega)) vl_X12_74 dX12_joins_118 o_164 rfl rfl (Nat.le_of_ble_eq_true rfl) ⟨(show 0 + 1 ≤ 5 + 1 * (r9 + 1) by omega), (show 8 + (2 + 11) + 40 * (0) ≤ 40 * (5 + 1 * (r9 + 1)) by omega)⟩ rfl rfl (Nat.le_of_ble_eq_true rfl) (Nat.le_of_ble_eq_true rfl) (fun r9 J_118 hq9 => ?_)
              obtain ⟨z_118, rfl, hz_118, rfl, hv_118⟩ := hq9
              have he_118 : ((zup (zup J 177 z_8 z_2) 179 z_2 (J 179 z_8)) : zJ) 166 = J 166 := rfl
              rw [he_118] at hv_118
              have ha121 := hM.ar (t := (J 178 z_2) % 400) (by omega)
              refine tz_icmp_eq (pc := 121) (tgt := 130) dX12_joins_121 (by decide) (by omega) (by omega) (fun h_121 => ?_) (fun h_121 => ?_)
              · refine tz_iconst (pc := 130) dX12_joins_130 ?_
                refine tz_istore (pc := 131) (L2 := [_, _, _, _, _, _, _, _]) dX12_joins_131 (by decide) rfl ?_
                have loop133 : ∀ (f9 : Nat) (k : Int) (J1 : zJ), ((3 - k).toNat) < f9 → (0 ≤ k ∧ k ≤ 3) → (UF J1 c m) → (rc J1 < rc J) → (zOf (zbut [164, 177, 178, 179, 180]) J1 J ∧ ∀ k, ¬ k = 30 → J1 164 k = J 164 k) → (SHp (VN c m) (hdN H b) (J1 177) (J1 178) (J1 179)) → (JOL c m b d H J x y (J 178 z_2) (J 178 z_8) k J1) → (J1 180 = J 180) → tz_At l G M_X12_joins (tb_rm (5 + 1 * (r9 + 1)) 0 0) none (tb_ZM G 0 0 (zQ n 0 (zqv (fun J' => UF J' c m ∧ rc J' ≤ rc J ∧ (zOf (zbut [164, 177, 178, 179, 180]) J' J ∧ ∀ k, ¬ k = 30 → J' 164 k = J 164 k) ∧ SHp (VN c m) (hdN H b) (J' 177) (J' 178) (J' 179) ∧ JOP c m b d H J x y J' ∧ J' 180 = J 180))) (zX n 0 zN)) 0 0 n J1 133 [some (.ref 164), some (zi x), some (zi y), some (zi z_2), some (zi z_8), some (zi (J 178 z_2)), some (zi (J 178 z_8)), some (zi k)] [] := by
                  intro f9
                  induction f9 with
                  | zero => intro k J1 hm9; exact absurd hm9 (Nat.not_lt_zero _)
                  | succ f9 ih133 =>
                    intro k J1 hm133 hk hU1 hr1 f_J1 hs1 jl hc01
                    have e9 := MS.hd8 (J := J) (b := b) (d := d) (t := (J 178 z_2) % 400) (u := (J 178 z_8) % 400) (by omega)
                    have hA := hM.ar (t := (J 178 z_2) % 400) (by omega)
                    have maH : mar J b d ((J 178 z_2) % 400) = mar H b d ((J 178 z_2) % 400) := by unfold mar; rw [e6, e0]
                    have sa9 := (hS z_2 v_2 b_2).1.resolve_left (by omega)
                    have sb9 := (hS z_8 v_8 b_8).1.resolve_left (by omega)
                    have hl9 : ∀ f, Rsp (VN c m) (J 177) f → f x = f y → f (J 178 z_2) = f (J 178 z_8) := fun f r9 w9 => by rw [hP.eq r9 sa9.1 hx (sa9.2.2.trans t_2.symm), hP.eq r9 sb9.1 hy (sb9.2.2.trans t_8.symm)]; exact w9
                    refine tz_iload (pc := 133) dX12_joins_133 rfl ?_
                    refine tz_aload_n (pc := 135) dX12_joins_135 rfl rfl ?_
                    refine tz_iload (pc := 136) dX12_joins_136 rfl ?_
                    refine tz_sipush (pc := 138) dX12_joins_138 (by decide) ?_
                    refine tz_irem (pc := 141) (a := (J 178 z_2)) (b := 400) (v := ((J 178 z_2) % 400)) dX12_joins_141 (by omega) (by omega) rfl ?_
                    refine tz_cV (pc := 142) (m_arity hl n _ _ (by omega) b r d s m (hM.cl f_J1.1 f_J1.2) (by omega)) vl_X12_111 dX12_joins_142 o_164 rfl rfl (Nat.le_of_ble_eq_true rfl) ⟨(show 2 + 1 ≤ 5 + 1 * (r9 + 1) by omega), (show 8 + (2 + 11) + 40 * (2) ≤ 40 * (5 + 1 * (r9 + 1)) by omega)⟩ rfl rfl (Nat.le_of_ble_eq_true rfl) (Nat.le_of_ble_eq_true rfl) (fun r9 J_142 hq9 => ?_)
                    obtain ⟨z_142, rfl, hz_142, rfl, hv_142⟩ := hq9
                    rw [mar_cl (J := J) f_J1.1] at hv_142
                    refine tz_icmp_ge (pc := 145) (tgt := 174) dX12_joins_145 (by decide) (by omega) (by omega) (fun h_145 => ?_) (fun h_145 => ?_)
                    · exact tz_vret (pc := 174) dX12_joins_174 rfl (Nat.le_of_ble_eq_true rfl) (Nat.le_of_ble_eq_true rfl) ⟨Nat.le_refl _, Nat.le_add_right _ _⟩ ⟨rfl, ⟨hU1, by omega, f_J1, hs1, jl.fin (by unfold arN; rw [← maH]; omega), hc01⟩⟩
                    · refine tz_aload_n (pc := 148) dX12_joins_148 rfl rfl ?_
                      refine tz_aload_n (pc := 149) dX12_joins_149 rfl rfl ?_
                      refine tz_iload (pc := 150) dX12_joins_150 rfl ?_
                      refine tz_iload (pc := 152) dX12_joins_152 rfl ?_
                      refine tz_cV (pc := 154) (x_argOf hl n _ _ _ (by omega) (by omega) b r d s m c (hM.cl f_J1.1 f_J1.2) hU.1 ⟨by omega, by omega⟩ (by rw [mar_cl (J := J) f_J1.1]; omega)) vl_X12_167 dX12_joins_154 o_164 rfl rfl (Nat.le_of_ble_eq_true rfl) ⟨(show 1 + 1 ≤ 5 + 1 * (r9 + 1) by omega), (show 8 + (3 + 11) + 40 * (1) ≤ 40 * (5 + 1 * (r9 + 1)) by omega)⟩ rfl rfl (Nat.le_of_ble_eq_true rfl) (Nat.le_of_ble_eq_true rfl) (fun r9 J_154 hq9 => ?_)
                      obtain ⟨z_154, rfl, hz_154, rfl, hg_154, hh_154⟩ := hq9
                      have ag_154 : z_154 = agN H b ((J 178 z_2)) k := by rw [hh_154]; unfold agN; rw [f_J1.1 167 rfl, e7]
                      refine tz_aload_n (pc := 157) dX12_joins_157 rfl rfl ?_
                      refine tz_iload (pc := 158) dX12_joins_158 rfl ?_
                      refine tz_iload (pc := 160) dX12_joins_160 rfl ?_
                      refine tz_cV (pc := 162) (x_argOf hl n _ _ _ (by omega) (by omega) b r d s m c (hM.cl f_J1.1 f_J1.2) hU.1 ⟨by omega, by omega⟩ (by rw [mar_cl (J := J) f_J1.1]; omega)) vl_X12_167 dX12_joins_162 o_164 rfl rfl (Nat.le_of_ble_eq_true rfl) ⟨(show 1 + 1 ≤ 5 + 1 * (r9 + 1) by omega), (show 8 + (3 + 11) + 40 * (1) ≤ 40 * (5 + 1 * (r9 + 1)) by omega)⟩ rfl rfl (Nat.le_of_ble_eq_true rfl) (Nat.le_of_ble_eq_true rfl) (fun r9 J_162 hq9 => ?_)
                      obtain ⟨z_162, rfl, hz_162, rfl, hg_162, hh_162⟩ := hq9
                      have ag_162 : z_162 = agN H b ((J 178 z_8)) k := by rw [hh_162]; unfold agN; rw [f_J1.1 167 rfl, e7]
                      refine tz_cV (pc := 165) (ih _ _ _ (by omega) (by omega) b r d s m c H (hM.cl f_J1.1 f_J1.2) hU1 hg_154 hg_162 ((f_J1.1 166 rfl).trans e6) ((f_J1.1 167 rfl).trans e7) ((f_J1.1 170 rfl).trans e0) hs1 (by omega)) vl_X12_170 dX12_joins_165 o_164 rfl rfl (Nat.le_of_ble_eq_true rfl) ⟨(show (5 + 1 * r9) + 1 ≤ 5 + 1 * (r9 + 1) by omega), (show 8 + (8 + 11) + 40 * ((5 + 1 * r9)) ≤ 40 * (5 + 1 * (r9 + 1)) by omega)⟩ rfl rfl (Nat.le_of_ble_eq_true rfl) (Nat.le_of_ble_eq_true rfl) (fun r9 J_165 hq9 => ?_)
                      obtain ⟨rfl, u_2, r_2, ⟨g_2, k_2⟩, s_2, j_2, n_2⟩ := hq9
                      rw [ag_154, ag_162] at j_2
                      refine tz_iinc (pc := 168) (z := k + 1) (L2 := [_, _, _, _, _, _, _, _]) dX12_joins_168 rfl (by omega) rfl ?_
                      refine tz_goto (pc := 171) (tgt := 133) dX12_joins_171 (by decide) ?_
                      exact ih133 (k + 1) _ (by omega) (by omega) u_2 (by omega) ⟨g_2.tr f_J1.1, fun k hk => (k_2 k hk).trans (f_J1.2 k hk)⟩ s_2 (jl.step j_2 ⟨by omega, by unfold arN; rw [← maH]; omega⟩ ⟨sa9.1, sa9.2.1⟩ ⟨sb9.1, sb9.2.1⟩ hl9) (n_2.trans hc01)
                exact loop133 _ 0 _ (Nat.lt_succ_self _) (by omega) hu.1 hu.2 ⟨(zOf.up rfl (zOf.up rfl zOf.rf)), (fun _ _ => rfl)⟩ hs (JOL.start hP hx hy t_2 t_8 (by omega) (fun _ _ => rfl) hS (by omega) (by omega) (by unfold hdN; rw [← e6]; omega) rfl) rfl
              · refine tz_aload_n (pc := 124) dX12_joins_124 rfl rfl ?_
                refine tz_iconst (pc := 125) dX12_joins_125 ?_
                refine tz_pZ (pc := 126) (kz := 30) dX12_joins_126 fl_X12_161 i_164_30 rfl rfl (Or.inr rfl) ?_
                exact tz_vret (pc := 129) dX12_joins_129 rfl (Nat.le_of_ble_eq_true rfl) (Nat.le_of_ble_eq_true rfl) ⟨Nat.le_refl _, Nat.le_add_right _ _⟩ ⟨rfl, ⟨hu.1.of rfl rfl rfl, Nat.le_of_lt hu.2, ⟨(zOf.up rfl (zOf.up rfl (zOf.up rfl zOf.rf))), (fun k hk => (zup_ne hk).trans ((fun _ _ => rfl) k hk))⟩, hs, JOP.clash hP hx hy t_2 t_8 hS (by omega) (by omega) (by unfold hdN; rw [← e6]; omega) (by rw [zup_at]; decide), rfl⟩⟩
            · exact tz_vret (pc := 100) dX12_joins_100 rfl (Nat.le_of_ble_eq_true rfl) (Nat.le_of_ble_eq_true rfl) ⟨Nat.le_refl _, Nat.le_add_right _ _⟩ ⟨rfl, ⟨hu.1, Nat.le_of_lt hu.2, ⟨(zOf.up rfl (zOf.up rfl zOf.rf)), (fun _ _ => rfl)⟩, hs, JOP.one hP hx hy t_2 t_8 (by omega) (fun _ _ => rfl) hS (by omega) rfl, rfl⟩⟩
      · refine tz_aload_n (pc := 51) dX12_joins_51 rfl rfl ?_
        refine tz_fR (pc := 52) dX12_joins_52 fl_X12_53 r_164_26 ?_
        refine tz_iload_n (pc := 55) dX12_joins_55 rfl rfl ?_
        refine tz_iload (pc := 56) dX12_joins_56 rfl ?_
        refine tz_aS (pc := 58) (z := z_2) dX12_joins_58 a_178 rfl (by omega) (by omega) ?_
        refine tz_aload_n (pc := 59) dX12_joins_59 rfl rfl ?_
        refine tz_fR (pc := 60) dX12_joins_60 fl_X12_56 r_164_27 ?_
        refine tz_iload (pc := 63) dX12_joins_63 rfl ?_
        refine tz_aL (pc := 65) (z := z_8) (v := (J 179 z_8)) dX12_joins_65 a_179 rfl (by omega) rfl (fun r_65 => ?_)
        refine tz_aload_n (pc := 66) dX12_joins_66 rfl rfl ?_
        refine tz_fR (pc := 67) dX12_joins_67 fl_X12_56 r_164_27 ?_
        refine tz_iload_n (pc := 70) dX12_joins_70 rfl rfl ?_
        refine tz_aL (pc := 71) (z := z_2) (v := (J 179 z_2)) dX12_joins_71 a_179 rfl (by omega) rfl (fun r_71 => ?_)
        refine tz_icmp_ge (pc := 72) (tgt := 88) dX12_joins_72 (by decide) (by omega) (by omega) (fun h_72 => ?_) (fun h_72 => ?_)
        · have hu := UF.joinP (J := J) (J' := (zup (zup J 177 z_8 z_2) 178 z_2 (J 178 z_8))) (c := c) (m := m) (a := z_2) (b := z_8) (v := J 178 z_8) (w := J 179 z_2) hU ⟨a_2, c_2, b_2⟩ ⟨a_8, c_8, b_8⟩ (by omega) (by omega) (by omega) (fun _ => rfl) (fun _ => rfl) (zsel (f := J 179))
          have hs := hS.link (p' := ((zup (zup J 177 z_8 z_2) 178 z_2 (J 178 z_8)) : zJ) 177) (sh' := ((zup (zup J 177 z_8 z_2) 178 z_2 (J 178 z_8)) : zJ) 178) (lv' := ((zup (zup J 177 z_8 z_2) 178 z_2 (J 178 z_8)) : zJ) 179) hP ⟨v_2, b_2⟩ ⟨v_8, b_8⟩ (by omega) (fun _ _ => rfl) (fun k _ => by show (if k = z_2 then J 178 z_8 else J 178 k) = _; rw [if_pos (show J 178 z_2 = -1 by omega)]) (fun _ _ _ => rfl) (fun _ _ => by show J 179 z_2 = _; rw [if_neg (by omega)]) (fun k hk => by have := hk.1; omega)
          refine tz_iload (pc := 88) dX12_joins_88 rfl ?_
          refine tz_iconst (pc := 90) dX12_joins_90 ?_
          refine tz_icmp_eq (pc := 91) (tgt := 100) dX12_joins_91 (by decide) (by omega) (by decide) (fun h_91 => ?_) (fun h_91 => ?_)
          · exact tz_vret (pc := 100) dX12_joins_100 rfl (Nat.le_of_ble_eq_true rfl) (Nat.le_of_ble_eq_true rfl) ⟨Nat.le_refl _, Nat.le_add_right _ _⟩ ⟨rfl, ⟨hu.1, Nat.le_of_lt hu.2, ⟨(zOf.up rfl (zOf.up rfl zOf.rf)), (fun _ _ => rfl)⟩, hs, JOP.one hP hx hy t_2 t_8 (by omega) (fun _ _ => rfl) hS (by omega) rfl, rfl⟩⟩
          · refine tz_iload (pc := 94) dX12_joins_94 rfl ?_
            refine tz_iconst (pc := 96) dX12_joins_96 ?_
            refine tz_icmp_ne (pc := 97) (tgt := 101) dX12_joins_97 (by decide) (by omega) (by decide) (fun h_97 => ?_) (fun h_97 => ?_)
            · refine tz_aload_n (pc := 101) dX12_joins_101 rfl rfl ?_
              refine tz_iload (pc := 102) dX12_joins_102 rfl ?_
              refine tz_sipush (pc := 104) dX12_joins_104 (by decide) ?_
              refine tz_irem (pc := 107) (a := (J 178 z_2)) (b := 400) (v := ((J 178 z_2) % 400)) dX12_joins_107 (by omega) (by omega) rfl ?_
              refine tz_cV (pc := 108) (m_head hl n _ _ (by omega) b r d s m (hM.cl (zOf.up rfl (zOf.up rfl zOf.rf)) (fun _ _ => rfl)) (by omega)) vl_X12_74 dX12_joins_108 o_164 rfl rfl (Nat.le_of_ble_eq_true rfl) ⟨(show 0 + 1 ≤ 5 + 1 * (r9 + 1) by omega), (show 8 + (2 + 11) + 40 * (0) ≤ 40 * (5 + 1 * (r9 + 1)) by omega)⟩ rfl rfl (Nat.le_of_ble_eq_true rfl) (Nat.le_of_ble_eq_true rfl) (fun r9 J_108 hq9 => ?_)
              obtain ⟨z_108, rfl, hz_108, rfl, hv_108⟩ := hq9
              have he_108 : ((zup (zup J 177 z_8 z_2) 178 z_2 (J 178 z_8)) : zJ) 166 = J 166 := rfl
              rw [he_108] at hv_108
              refine tz_aload_n (pc := 111) dX12_joins_111 rfl rfl ?_
              refine tz_iload (pc := 112) dX12_joins_112 rfl ?_
              refine tz_sipush (pc := 114) dX12_joins_114 (by decide) ?_
              refine tz_irem (pc := 117) (a := (J 178 z_8)) (b := 400) (v := ((J 178 z_8) % 400)) dX12_joins_117 (by omega) (by omega) rfl ?_
              refine tz_cV (pc := 118) (m_head hl n _ _ (by omega) b r d s m (hM.cl (zOf.up rfl (zOf.up rfl zOf.rf)) (fun _ _ => rfl)) (by omega)) vl_X12_74 dX12_joins_118 o_164 rfl rfl (Nat.le_of_ble_eq_true rfl) ⟨(show 0 + 1 ≤ 5 + 1 * (r9 + 1) by omega), (show 8 + (2 + 11) + 40 * (0) ≤ 40 * (5 + 1 * (r9 + 1)) by omega)⟩ rfl rfl (Nat.le_of_ble_eq_true rfl) (Nat.le_of_ble_eq_true rfl) (fun r9 J_118 hq9 => ?_)
              obtain ⟨z_118, rfl, hz_118, rfl, hv_118⟩ := hq9
              have he_118 : ((zup (zup J 177 z_8 z_2) 178 z_2 (J 178 z_8)) : zJ) 166 = J 166 := rfl
              rw [he_118] at hv_118
              have ha121 := hM.ar (t := (J 178 z_2) % 400) (by omega)
              refine tz_icmp_eq (pc := 121) (tgt := 130) dX12_joins_121 (by decide) (by omega) (by omega) (fun h_121 => ?_) (fun h_121 => ?_)
              · refine tz_iconst (pc := 130) dX12_joins_130 ?_
                refine tz_istore (pc := 131) (L2 := [_, _, _, _, _, _, _, _]) dX12_joins_131 (by decide) rfl ?_
                have loop133 : ∀ (f9 : Nat) (k : Int) (J1 : zJ), ((3 - k).toNat) < f9 → (0 ≤ k ∧ k ≤ 3) → (UF J1 c m) → (rc J1 < rc J) → (zOf (zbut [164, 177, 178, 179, 180]) J1 J ∧ ∀ k, ¬ k = 30 → J1 164 k = J 164 k) → (SHp (VN c m) (hdN H b) (J1 177) (J1 178) (J1 179)) → (JOL c m b d H J x y (J 178 z_2) (J 178 z_8) k J1) → (J1 180 = J 180) → tz_At l G M_X12_joins (tb_rm (5 + 1 * (r9 + 1)) 0 0) none (tb_ZM G 0 0 (zQ n 0 (zqv (fun J' => UF J' c m ∧ rc J' ≤ rc J ∧ (zOf (zbut [164, 177, 178, 179, 180]) J' J ∧ ∀ k, ¬ k = 30 → J' 164 k = J 164 k) ∧ SHp (VN c m) (hdN H b) (J' 177) (J' 178) (J' 179) ∧ JOP c m b d H J x y J' ∧ J' 180 = J 180))) (zX n 0 zN)) 0 0 n J1 133 [some (.ref 164), some (zi x), some (zi y), some (zi z_2), some (zi z_8), some (zi (J 178 z_2)), some (zi (J 178 z_8)), some (zi k)] [] := by
                  intro f9
                  induction f9 with
                  | zero => intro k J1 hm9; exact absurd hm9 (Nat.not_lt_zero _)
                  | succ f9 ih133 =>
                    intro k J1 hm133 hk hU1 hr1 f_J1 hs1 jl hc01
                    have e9 := MS.hd8 (J := J) (b := b) (d := d) (t := (J 178 z_2) % 400) (u := (J 178 z_8) % 400) (by omega)
                    have hA := hM.ar (t := (J 178 z_2) % 400) (by omega)
                    have maH : mar J b d ((J 178 z_2) % 400) = mar H b d ((J 178 z_2) % 400) := by unfold mar; rw [e6, e0]
                    have sa9 := (hS z_2 v_2 b_2).1.resolve_left (by omega)
                    have sb9 := (hS z_8 v_8 b_8).1.resolve_left (by omega)
                    have hl9 : ∀ f, Rsp (VN c m) (J 177) f → f x = f y → f (J 178 z_2) = f (J 178 z_8) := fun f r9 w9 => by rw [hP.eq r9 sa9.1 hx (sa9.2.2.trans t_2.symm), hP.eq r9 sb9.1 hy (sb9.2.2.trans t_8.symm)]; exact w9
                    refine tz_iload (pc := 133) dX12_joins_133 rfl ?_
                    refine tz_aload_n (pc := 135) dX12_joins_135 rfl rfl ?_
                    refine tz_iload (pc := 136) dX12_joins_136 rfl ?_
                    refine tz_sipush (pc := 138) dX12_joins_138 (by decide) ?_
                    refine tz_irem (pc := 141) (a := (J 178 z_2)) (b := 400) (v := ((J 178 z_2) % 400)) dX12_joins_141 (by omega) (by omega) rfl ?_
                    refine tz_cV (pc := 142) (m_arity hl n _ _ (by omega) b r d s m (hM.cl f_J1.1 f_J1.2) (by omega)) vl_X12_111 dX12_joins_142 o_164 rfl rfl (Nat.le_of_ble_eq_true rfl) ⟨(show 2 + 1 ≤ 5 + 1 * (r9 + 1) by omega), (show 8 + (2 + 11) + 40 * (2) ≤ 40 * (5 + 1 * (r9 + 1)) by omega)⟩ rfl rfl (Nat.le_of_ble_eq_true rfl) (Nat.le_of_ble_eq_true rfl) (fun r9 J_142 hq9 => ?_)
                    obtain ⟨z_142, rfl, hz_142, rfl, hv_142⟩ := hq9
                    rw [mar_cl (J := J) f_J1.1] at hv_142
                    refine tz_icmp_ge (pc := 145) (tgt := 174) dX12_joins_145 (by decide) (by omega) (by omega) (fun h_145 => ?_) (fun h_145 => ?_)
                    · exact tz_vret (pc := 174) dX12_joins_174 rfl (Nat.le_of_ble_eq_true rfl) (Nat.le_of_ble_eq_true rfl) ⟨Nat.le_refl _, Nat.le_add_right _ _⟩ ⟨rfl, ⟨hU1, by omega, f_J1, hs1, jl.fin (by unfold arN; rw [← maH]; omega), hc01⟩⟩
                    · refine tz_aload_n (pc := 148) dX12_joins_148 rfl rfl ?_
                      refine tz_aload_n (pc := 149) dX12_joins_149 rfl rfl ?_
                      refine tz_iload (pc := 150) dX12_joins_150 rfl ?_
                      refine tz_iload (pc := 152) dX12_joins_152 rfl ?_
                      refine tz_cV (pc := 154) (x_argOf hl n _ _ _ (by omega) (by omega) b r d s m c (hM.cl f_J1.1 f_J1.2) hU.1 ⟨by omega, by omega⟩ (by rw [mar_cl (J := J) f_J1.1]; omega)) vl_X12_167 dX12_joins_154 o_164 rfl rfl (Nat.le_of_ble_eq_true rfl) ⟨(show 1 + 1 ≤ 5 + 1 * (r9 + 1) by omega), (show 8 + (3 + 11) + 40 * (1) ≤ 40 * (5 + 1 * (r9 + 1)) by omega)⟩ rfl rfl (Nat.le_of_ble_eq_true rfl) (Nat.le_of_ble_eq_true rfl) (fun r9 J_154 hq9 => ?_)
                      obtain ⟨z_154, rfl, hz_154, rfl, hg_154, hh_154⟩ := hq9
                      have ag_154 : z_154 = agN H b ((J 178 z_2)) k := by rw [hh_154]; unfold agN; rw [f_J1.1 167 rfl, e7]
                      refine tz_aload_n (pc := 157) dX12_joins_157 rfl rfl ?_
                      refine tz_iload (pc := 158) dX12_joins_158 rfl ?_
                      refine tz_iload (pc := 160) dX12_joins_160 rfl ?_
                      refine tz_cV (pc := 162) (x_argOf hl n _ _ _ (by omega) (by omega) b r d s m c (hM.cl f_J1.1 f_J1.2) hU.1 ⟨by omega, by omega⟩ (by rw [mar_cl (J := J) f_J1.1]; omega)) vl_X12_167 dX12_joins_162 o_164 rfl rfl (Nat.le_of_ble_eq_true rfl) ⟨(show 1 + 1 ≤ 5 + 1 * (r9 + 1) by omega), (show 8 + (3 + 11) + 40 * (1) ≤ 40 * (5 + 1 * (r9 + 1)) by omega)⟩ rfl rfl (Nat.le_of_ble_eq_true rfl) (Nat.le_of_ble_eq_true rfl) (fun r9 J_162 hq9 => ?_)
                      obtain ⟨z_162, rfl, hz_162, rfl, hg_162, hh_162⟩ := hq9
                      have ag_162 : z_162 = agN H b ((J 178 z_8)) k := by rw [hh_162]; unfold agN; rw [f_J1.1 167 rfl, e7]
                      refine tz_cV (pc := 165) (ih _ _ _ (by omega) (by omega) b r d s m c H (hM.cl f_J1.1 f_J1.2) hU1 hg_154 hg_162 ((f_J1.1 166 rfl).trans e6) ((f_J1.1 167 rfl).trans e7) ((f_J1.1 170 rfl).trans e0) hs1 (by omega)) vl_X12_170 dX12_joins_165 o_164 rfl rfl (Nat.le_of_ble_eq_true rfl) ⟨(show (5 + 1 * r9) + 1 ≤ 5 + 1 * (r9 + 1) by omega), (show 8 + (8 + 11) + 40 * ((5 + 1 * r9)) ≤ 40 * (5 + 1 * (r9 + 1)) by omega)⟩ rfl rfl (Nat.le_of_ble_eq_true rfl) (Nat.le_of_ble_eq_true rfl) (fun r9 J_165 hq9 => ?_)
                      obtain ⟨rfl, u_2, r_2, ⟨g_2, k_2⟩, s_2, j_2, n_2⟩ := hq9
                      rw [ag_154, ag_162] at j_2
                      refine tz_iinc (pc := 168) (z := k + 1) (L2 := [_, _, _, _, _, _, _, _]) dX12_joins_168 rfl (by omega) rfl ?_
                      refine tz_goto (pc := 171) (tgt := 133) dX12_joins_171 (by decide) ?_
                      exact ih133 (k + 1) _ (by omega) (by omega) u_2 (by omega) ⟨g_2.tr f_J1.1, fun k hk => (k_2 k hk).trans (f_J1.2 k hk)⟩ s_2 (jl.step j_2 ⟨by omega, by unfold arN; rw [← maH]; omega⟩ ⟨sa9.1, sa9.2.1⟩ ⟨sb9.1, sb9.2.1⟩ hl9) (n_2.trans hc01)
                exact loop133 _ 0 _ (Nat.lt_succ_self _) (by omega) hu.1 hu.2 ⟨(zOf.up rfl (zOf.up rfl zOf.rf)), (fun _ _ => rfl)⟩ hs (JOL.start hP hx hy t_2 t_8 (by omega) (fun _ _ => rfl) hS (by omega) (by omega) (by unfold hdN; rw [← e6]; omega) rfl) rfl
              · refine tz_aload_n (pc := 124) dX12_joins_124 rfl rfl ?_
                refine tz_iconst (pc := 125) dX12_joins_125 ?_
                refine tz_pZ (pc := 126) (kz := 30) dX12_joins_126 fl_X12_161 i_164_30 rfl rfl (Or.inr rfl) ?_
                exact tz_vret (pc := 129) dX12_joins_129 rfl (Nat.le_of_ble_eq_true rfl) (Nat.le_of_ble_eq_true rfl) ⟨Nat.le_refl _, Nat.le_add_right _ _⟩ ⟨rfl, ⟨hu.1.of rfl rfl rfl, Nat.le_of_lt hu.2, ⟨(zOf.up rfl (zOf.up rfl (zOf.up rfl zOf.rf))), (fun k hk => (zup_ne hk).trans ((fun _ _ => rfl) k hk))⟩, hs, JOP.clash hP hx hy t_2 t_8 hS (by omega) (by omega) (by unfold hdN; rw [← e6]; omega) (by rw [zup_at]; decide), rfl⟩⟩
            · exact tz_vret (pc := 100) dX12_joins_100 rfl (Nat.le_of_ble_eq_true rfl) (Nat.le_of_ble_eq_true rfl) ⟨Nat.le_refl _, Nat.le_add_right _ _⟩ ⟨rfl, ⟨hu.1, Nat.le_of_lt hu.2, ⟨(zOf.up rfl (zOf.up rfl zOf.rf)), (fun _ _ => rfl)⟩, hs, JOP.one hP hx hy t_2 t_8 (by omega) (fun _ _ => rfl) hS (by omega) rfl, rfl⟩⟩
        · refine tz_aload_n (pc := 75) dX12_joins_75 rfl rfl ?_
          refine tz_fR (pc := 76) dX12_joins_76 fl_X12_56 r_164_27 ?_
          refine tz_iload_n (pc := 79) dX12_joins_79 rfl rfl ?_
          refine tz_aload_n (pc := 80) dX12_joins_80 rfl rfl ?_
          refine tz_fR (pc := 81) dX12_joins_81 fl_X12_56 r_164_27 ?_
          refine tz_iload (pc := 84) dX12_joins_84 rfl ?_
          refine tz_aL (pc := 86) (z := z_8) (v := (J 179 z_8)) dX12_joins_86 a_179 rfl (by omega) rfl (fun r_86 => ?_)
          refine tz_aS (pc := 87) (z := z_2) dX12_joins_87 a_179 rfl (by omega) (by omega) ?_
          have hu := UF.joinP (J := J) (J' := (zup (zup (zup J 177 z_8 z_2) 178 z_2 (J 178 z_8)) 179 z_2 (J 179 z_8))) (c := c) (m := m) (a := z_2) (b := z_8) (v := J 178 z_8) (w := J 179 z_8) hU ⟨a_2, c_2, b_2⟩ ⟨a_8, c_8, b_8⟩ (by omega) (by omega) (by omega) (fun _ => rfl) (fun _ => rfl) (fun _ => rfl)
          have hs := hS.link (p' := ((zup (zup (zup J 177 z_8 z_2) 178 z_2 (J 178 z_8)) 179 z_2 (J 179 z_8)) : zJ) 177) (sh' := ((zup (zup (zup J 177 z_8 z_2) 178 z_2 (J 178 z_8)) 179 z_2 (J 179 z_8)) : zJ) 178) (lv' := ((zup (zup (zup J 177 z_8 z_2) 178 z_2 (J 178 z_8)) 179 z_2 (J 179 z_8)) : zJ) 179) hP ⟨v_2, b_2⟩ ⟨v_8, b_8⟩ (by omega) (fun _ _ => rfl) (fun k _ => by show (if k = z_2 then J 178 z_8 else J 178 k) = _; rw [if_pos (show J 178 z_2 = -1 by omega)]) (fun k _ q => by show (if k = z_2 then J 179 z_8 else J 179 k) = _; rw [if_neg q]) (fun _ _ => by show (if z_2 = z_2 then J 179 z_8 else J 179 z_2) = _; rw [if_pos rfl, if_pos (by omega)]) (fun k hk => by have := hk.1; omega)
          refine tz_iload (pc := 88) dX12_joins_88 rfl ?_
          refine tz_iconst (pc := 90) dX12_joins_90 ?_
          refine tz_icmp_eq (pc := 91) (tgt := 100) dX12_joins_91 (by decide) (by omega) (by decide) (fun h_91 => ?_) (fun h_91 => ?_)
          · exact tz_vret (pc := 100) dX12_joins_100 rfl (Nat.le_of_ble_eq_true rfl) (Nat.le_of_ble_eq_true rfl) ⟨Nat.le_refl _, Nat.le_add_right _ _⟩ ⟨rfl, ⟨hu.1, Nat.le_of_lt hu.2, ⟨(zOf.up rfl (zOf.up rfl (zOf.up rfl zOf.rf))), (fun _ _ => rfl)⟩, hs, JOP.one hP hx hy t_2 t_8 (by omega) (fun _ _ => rfl) hS (by omega) rfl, rfl⟩⟩
          · refine tz_iload (pc := 94) dX12_joins_94 rfl ?_
            refine tz_iconst (pc := 96) dX12_joins_96 ?_
            refine tz_icmp_ne (pc := 97) (tgt := 101) dX12_joins_97 (by decide) (by omega) (by decide) (fun h_97 => ?_) (fun h_97 => ?_)
            · refine tz_aload_n (pc := 101) dX12_joins_101 rfl rfl ?_
              refine tz_iload (pc := 102) dX12_joins_102 rfl ?_
              refine tz_sipush (pc := 104) dX12_joins_104 (by decide) ?_
              refine tz_irem (pc := 107) (a := (J 178 z_2)) (b := 400) (v := ((J 178 z_2) % 400)) dX12_joins_107 (by omega) (by omega) rfl ?_
              refine tz_cV (pc := 108) (m_head hl n _ _ (by omega) b r d s m (hM.cl (zOf.up rfl (zOf.up rfl (zOf.up rfl zOf.rf))) (fun _ _ => rfl)) (by omega)) vl_X12_74 dX12_joins_108 o_164 rfl rfl (Nat.le_of_ble_eq_true rfl) ⟨(show 0 + 1 ≤ 5 + 1 * (r9 + 1) by omega), (show 8 + (2 + 11) + 40 * (0) ≤ 40 * (5 + 1 * (r9 + 1)) by omega)⟩ rfl rfl (Nat.le_of_ble_eq_true rfl) (Nat.le_of_ble_eq_true rfl) (fun r9 J_108 hq9 => ?_)
              obtain ⟨z_108, rfl, hz_108, rfl, hv_108⟩ := hq9
              have he_108 : ((zup (zup (zup J 177 z_8 z_2) 178 z_2 (J 178 z_8)) 179 z_2 (J 179 z_8)) : zJ) 166 = J 166 := rfl
              rw [he_108] at hv_108
              refine tz_aload_n (pc := 111) dX12_joins_111 rfl rfl ?_
              refine tz_iload (pc := 112) dX12_joins_112 rfl ?_
              refine tz_sipush (pc := 114) dX12_joins_114 (by decide) ?_
              refine tz_irem (pc := 117) (a := (J 178 z_8)) (b := 400) (v := ((J 178 z_8) % 400)) dX12_joins_117 (by omega) (by omega) rfl ?_
              refine tz_cV (pc := 118) (m_head hl n _ _ (by omega) b r d s m (hM.cl (zOf.up rfl (zOf.up rfl (zOf.up rfl zOf.rf))) (fun _ _ => rfl)) (by omega)) vl_X12_74 dX12_joins_118 o_164 rfl rfl (Nat.le_of_ble_eq_true rfl) ⟨(show 0 + 1 ≤ 5 + 1 * (r9 + 1) by omega), (show 8 + (2 + 11) + 40 * (0) ≤ 40 * (5 + 1 * (r9 + 1)) by omega)⟩ rfl rfl (Nat.le_of_ble_eq_true rfl) (Nat.le_of_ble_eq_true rfl) (fun r9 J_118 hq9 => ?_)
              obtain ⟨z_118, rfl, hz_118, rfl, hv_118⟩ := hq9
              have he_118 : ((zup (zup (zup J 177 z_8 z_2) 178 z_2 (J 178 z_8)) 179 z_2 (J 179 z_8)) : zJ) 166 = J 166 := rfl
              rw [he_118] at hv_118
              have ha121 := hM.ar (t := (J 178 z_2) % 400) (by omega)
              refine tz_icmp_eq (pc := 121) (tgt := 130) dX12_joins_121 (by decide) (by omega) (by omega) (fun h_121 => ?_) (fun h_121 => ?_)
              · refine tz_iconst (pc := 130) dX12_joins_130 ?_
                refine tz_istore (pc := 131) (L2 := [_, _, _, _, _, _, _, _]) dX12_joins_131 (by decide) rfl ?_
                have loop133 : ∀ (f9 : Nat) (k : Int) (J1 : zJ), ((3 - k).toNat) < f9 → (0 ≤ k ∧ k ≤ 3) → (UF J1 c m) → (rc J1 < rc J) → (zOf (zbut [164, 177, 178, 179, 180]) J1 J ∧ ∀ k, ¬ k = 30 → J1 164 k = J 164 k) → (SHp (VN c m) (hdN H b) (J1 177) (J1 178) (J1 179)) → (JOL c m b d H J x y (J 178 z_2) (J 178 z_8) k J1) → (J1 180 = J 180) → tz_At l G M_X12_joins (tb_rm (5 + 1 * (r9 + 1)) 0 0) none (tb_ZM G 0 0 (zQ n 0 (zqv (fun J' => UF J' c m ∧ rc J' ≤ rc J ∧ (zOf (zbut [164, 177, 178, 179, 180]) J' J ∧ ∀ k, ¬ k = 30 → J' 164 k = J 164 k) ∧ SHp (VN c m) (hdN H b) (J' 177) (J' 178) (J' 179) ∧ JOP c m b d H J x y J' ∧ J' 180 = J 180))) (zX n 0 zN)) 0 0 n J1 133 [some (.ref 164), some (zi x), some (zi y), some (zi z_2), some (zi z_8), some (zi (J 178 z_2)), some (zi (J 178 z_8)), some (zi k)] [] := by
                  intro f9
                  induction f9 with
                  | zero => intro k J1 hm9; exact absurd hm9 (Nat.not_lt_zero _)
                  | succ f9 ih133 =>
                    intro k J1 hm133 hk hU1 hr1 f_J1 hs1 jl hc01
                    have e9 := MS.hd8 (J := J) (b := b) (d := d) (t := (J 178 z_2) % 400) (u := (J 178 z_8) % 400) (by omega)
                    have hA := hM.ar (t := (J 178 z_2) % 400) (by omega)
                    have maH : mar J b d ((J 178 z_2) % 400) = mar H b d ((J 178 z_2) % 400) := by unfold mar; rw [e6, e0]
                    have sa9 := (hS z_2 v_2 b_2).1.resolve_left (by omega)
                    have sb9 := (hS z_8 v_8 b_8).1.resolve_left (by omega)
                    have hl9 : ∀ f, Rsp (VN c m) (J 177) f → f x = f y → f (J 178 z_2) = f (J 178 z_8) := fun f r9 w9 => by rw [hP.eq r9 sa9.1 hx (sa9.2.2.trans t_2.symm), hP.eq r9 sb9.1 hy (sb9.2.2.trans t_8.symm)]; exact w9
                    refine tz_iload (pc := 133) dX12_joins_133 rfl ?_
                    refine tz_aload_n (pc := 135) dX12_joins_135 rfl rfl ?_
                    refine tz_iload (pc := 136) dX12_joins_136 rfl ?_
                    refine tz_sipush (pc := 138) dX12_joins_138 (by decide) ?_
                    refine tz_irem (pc := 141) (a := (J 178 z_2)) (b := 400) (v := ((J 178 z_2) % 400)) dX12_joins_141 (by omega) (by omega) rfl ?_
                    refine tz_cV (pc := 142) (m_arity hl n _ _ (by omega) b r d s m (hM.cl f_J1.1 f_J1.2) (by omega)) vl_X12_111 dX12_joins_142 o_164 rfl rfl (Nat.le_of_ble_eq_true rfl) ⟨(show 2 + 1 ≤ 5 + 1 * (r9 + 1) by omega), (show 8 + (2 + 11) + 40 * (2) ≤ 40 * (5 + 1 * (r9 + 1)) by omega)⟩ rfl rfl (Nat.le_of_ble_eq_true rfl) (Nat.le_of_ble_eq_true rfl) (fun r9 J_142 hq9 => ?_)
                    obtain ⟨z_142, rfl, hz_142, rfl, hv_142⟩ := hq9
                    rw [mar_cl (J := J) f_J1.1] at hv_142
                    refine tz_icmp_ge (pc := 145) (tgt := 174) dX12_joins_145 (by decide) (by omega) (by omega) (fun h_145 => ?_) (fun h_145 => ?_)
                    · exact tz_vret (pc := 174) dX12_joins_174 rfl (Nat.le_of_ble_eq_true rfl) (Nat.le_of_ble_eq_true rfl) ⟨Nat.le_refl _, Nat.le_add_right _ _⟩ ⟨rfl, ⟨hU1, by omega, f_J1, hs1, jl.fin (by unfold arN; rw [← maH]; omega), hc01⟩⟩
                    · refine tz_aload_n (pc := 148) dX12_joins_148 rfl rfl ?_
                      refine tz_aload_n (pc := 149) dX12_joins_149 rfl rfl ?_
                      refine tz_iload (pc := 150) dX12_joins_150 rfl ?_
                      refine tz_iload (pc := 152) dX12_joins_152 rfl ?_
                      refine tz_cV (pc := 154) (x_argOf hl n _ _ _ (by omega) (by omega) b r d s m c (hM.cl f_J1.1 f_J1.2) hU.1 ⟨by omega, by omega⟩ (by rw [mar_cl (J := J) f_J1.1]; omega)) vl_X12_167 dX12_joins_154 o_164 rfl rfl (Nat.le_of_ble_eq_true rfl) ⟨(show 1 + 1 ≤ 5 + 1 * (r9 + 1) by omega), (show 8 + (3 + 11) + 40 * (1) ≤ 40 * (5 + 1 * (r9 + 1)) by omega)⟩ rfl rfl (Nat.le_of_ble_eq_true rfl) (Nat.le_of_ble_eq_true rfl) (fun r9 J_154 hq9 => ?_)
                      obtain ⟨z_154, rfl, hz_154, rfl, hg_154, hh_154⟩ := hq9
                      have ag_154 : z_154 = agN H b ((J 178 z_2)) k := by rw [hh_154]; unfold agN; rw [f_J1.1 167 rfl, e7]
                      refine tz_aload_n (pc := 157) dX12_joins_157 rfl rfl ?_
                      refine tz_iload (pc := 158) dX12_joins_158 rfl ?_
                      refine tz_iload (pc := 160) dX12_joins_160 rfl ?_
                      refine tz_cV (pc := 162) (x_argOf hl n _ _ _ (by omega) (by omega) b r d s m c (hM.cl f_J1.1 f_J1.2) hU.1 ⟨by omega, by omega⟩ (by rw [mar_cl (J := J) f_J1.1]; omega)) vl_X12_167 dX12_joins_162 o_164 rfl rfl (Nat.le_of_ble_eq_true rfl) ⟨(show 1 + 1 ≤ 5 + 1 * (r9 + 1) by omega), (show 8 + (3 + 11) + 40 * (1) ≤ 40 * (5 + 1 * (r9 + 1)) by omega)⟩ rfl rfl (Nat.le_of_ble_eq_true rfl) (Nat.le_of_ble_eq_true rfl) (fun r9 J_162 hq9 => ?_)
                      obtain ⟨z_162, rfl, hz_162, rfl, hg_162, hh_162⟩ := hq9
                      have ag_162 : z_162 = agN H b ((J 178 z_8)) k := by rw [hh_162]; unfold agN; rw [f_J1.1 167 rfl, e7]
                      refine tz_cV (pc := 165) (ih _ _ _ (by omega) (by omega) b r d s m c H (hM.cl f_J1.1 f_J1.2) hU1 hg_154 hg_162 ((f_J1.1 166 rfl).trans e6) ((f_J1.1 167 rfl).trans e7) ((f_J1.1 170 rfl).trans e0) hs1 (by omega)) vl_X12_170 dX12_joins_165 o_164 rfl rfl (Nat.le_of_ble_eq_true rfl) ⟨(show (5 + 1 * r9) + 1 ≤ 5 + 1 * (r9 + 1) by omega), (show 8 + (8 + 11) + 40 * ((5 + 1 * r9)) ≤ 40 * (5 + 1 * (r9 + 1)) by omega)⟩ rfl rfl (Nat.le_of_ble_eq_true rfl) (Nat.le_of_ble_eq_true rfl) (fun r9 J_165 hq9 => ?_)
                      obtain ⟨rfl, u_2, r_2, ⟨g_2, k_2⟩, s_2, j_2, n_2⟩ := hq9
                      rw [ag_154, ag_162] at j_2
                      refine tz_iinc (pc := 168) (z := k + 1) (L2 := [_, _, _, _, _, _, _, _]) dX12_joins_168 rfl (by omega) rfl ?_
                      refine tz_goto (pc := 171) (tgt := 133) dX12_joins_171 (by decide) ?_
                      exact ih133 (k + 1) _ (by omega) (by omega) u_2 (by omega) ⟨g_2.tr f_J1.1, fun k hk => (k_2 k hk).trans (f_J1.2 k hk)⟩ s_2 (jl.step j_2 ⟨by omega, by unfold arN; rw [← maH]; omega⟩ ⟨sa9.1, sa9.2.1⟩ ⟨sb9.1, sb9.2.1⟩ hl9) (n_2.trans hc01)
                exact loop133 _ 0 _ (Nat.lt_succ_self _) (by omega) hu.1 hu.2 ⟨(zOf.up rfl (zOf.up rfl (zOf.up rfl zOf.rf))), (fun _ _ => rfl)⟩ hs (JOL.start hP hx hy t_2 t_8 (by omega) (fun _ _ => rfl) hS (by omega) (by omega) (by unfold hdN; rw [← e6]; omega) rfl) rfl
              · refine tz_aload_n (pc := 124) dX12_joins_124 rfl rfl ?_
                refine tz_iconst (pc := 125) dX12_joins_125 ?_
                refine tz_pZ (pc := 126) (kz := 30) dX12_joins_126 fl_X12_161 i_164_30 rfl rfl (Or.inr rfl) ?_
                exact tz_vret (pc := 129) dX12_joins_129 rfl (Nat.le_of_ble_eq_true rfl) (Nat.le_of_ble_eq_true rfl) ⟨Nat.le_refl _, Nat.le_add_right _ _⟩ ⟨rfl, ⟨hu.1.of rfl rfl rfl, Nat.le_of_lt hu.2, ⟨(zOf.up rfl (zOf.up rfl (zOf.up rfl (zOf.up rfl zOf.rf)))), (fun k hk => (zup_ne hk).trans ((fun _ _ => rfl) k hk))⟩, hs, JOP.clash hP hx hy t_2 t_8 hS (by omega) (by omega) (by unfold hdN; rw [← e6]; omega) (by rw [zup_at]; decide), rfl⟩⟩
            · exact tz_vret (pc := 100) dX12_joins_100 rfl (Nat.le_of_ble_eq_true rfl) (Nat.le_of_ble_eq_true rfl) ⟨Nat.le_refl _, Nat.le_add_right _ _⟩ ⟨rfl, ⟨hu.1, Nat.le_of_lt hu.2, ⟨(zOf.up rfl (zOf.up rfl (zOf.up rfl zOf.rf))), (fun _ _ => rfl)⟩, hs, JOP.one hP hx hy t_2 t_8 (by omega) (fun _ _ => rfl) hS (by omega) rfl, rfl⟩⟩
    · exact tz_vret (pc := 19) dX12_joins_19 rfl (Nat.le_of_ble_eq_true rfl) (Nat.le_of_ble_eq_true rfl) ⟨Nat.le_refl _, Nat.le_add_right _ _⟩ ⟨rfl, ⟨hU, Nat.le_refl _, ⟨zOf.rf, fun _ _ => rfl⟩, hS, JOP.same hP hx hy (by omega), rfl⟩⟩

theorem x_joins {l : Launch} {G : tb_G} (hl : l.stackTraces = false) (n : Nat) (J : zJ) (x y : Int) (hr_x : -2147483648 ≤ x ∧ x < 2147483648) (hr_y : -2147483648 ≤ y ∧ y < 2147483648) (b r d s m : Int) (c : Int) (H : zJ) (hM : MS J b r d s m) (hU : UF J c m) (hx : VN c m x) (hy : VN c m y) (e6 : J 166 = H 166) (e7 : J 167 = H 167) (e0 : J 170 = H 170) (hS : SHp (VN c m) (hdN H b) (J 177) (J 178) (J 179)) : tz_Ok l G M_X12_joins 806 0 0 [.ref 164, zi x, zi y] n J (zqv (fun J' => UF J' c m ∧ rc J' ≤ rc J ∧ (zOf (zbut [164, 177, 178, 179, 180]) J' J ∧ ∀ k, ¬ k = 30 → J' 164 k = J 164 k) ∧ SHp (VN c m) (hdN H b) (J' 177) (J' 178) (J' 179) ∧ JOP c m b d H J x y J' ∧ J' 180 = J 180)) zN := x_joinsR hl n 801 J x y hr_x hr_y b r d s m c H hM hU hx hy e6 e7 e0 hS (by have := cnt_n (p := fun k => decide (J 177 k = k)) 800; unfold rc; omega)
end
section
/-! ===== rings of classes ===== -/
def WTu (V : Int → Prop) (hd ar : Int → Int) (ag : Int → Int → Int) (R : Int → Int → Prop) (rk : Int → Nat) (P : Int → Prop) : Prop := (∀ x y, V x → V y → R x y → P x → P y ∧ rk x = rk y) ∧ ∀ x, V x → P x → 0 ≤ hd x → ∀ i, 0 ≤ i → i < ar x → P (ag x i) ∧ rk (ag x i) < rk x
def NRu (V : Int → Prop) (hd ar : Int → Int) (ag : Int → Int → Int) (R : Int → Int → Prop) (s : Int) : Prop := ∃ (rk : Int → Nat) (P : Int → Prop), P s ∧ WTu V hd ar ag R rk P
theorem WTu.cg {V : Int → Prop} {hd ar : Int → Int} {ag : Int → Int → Int} {R R' : Int → Int → Prop} {rk : Int → Nat} {P : Int → Prop} (e : ∀ x y, V x → V y → (R' x y → R x y)) (h : WTu V hd ar ag R rk P) : WTu V hd ar ag R' rk P := ⟨fun x y hx hy r => h.1 x y hx hy (e x y hx hy r), h.2⟩
theorem NRu.cg {V : Int → Prop} {hd ar : Int → Int} {ag : Int → Int → Int} {R R' : Int → Int → Prop} {s : Int} (e : ∀ x y, V x → V y → (R' x y → R x y)) (h : NRu V hd ar ag R s) : NRu V hd ar ag R' s := by
  obtain ⟨rk, P, h1, h2⟩ := h
  exact ⟨rk, P, h1, h2.cg e⟩
/-- what must be alike, if s and t are -/
def LCu (V : Int → Prop) (hd ar : Int → Int) (ag : Int → Int → Int) (s t u v : Int) : Prop := ∀ f, CGm V hd ar ag f → f s = f t → f u = f v
/-- classes that are done: none has itself in itself -/
def BLK (c m b d : Int) (H : zJ) (p sh col : Int → Int) : Prop := ∃ bk : Int → Nat, ∀ g, VN c m g → p g = g → col g = 2 → ¬ sh g = -1 ∧ ∀ i, 0 ≤ i → i < arN H b d (sh g) → (col (tp p (agN H b (sh g) i)) = 2 ∧ bk (tp p (agN H b (sh g) i)) < bk g) ∨ sh (tp p (agN H b (sh g) i)) = -1
theorem BLK.gray {c m b d z : Int} {H : zJ} {p sh col col' : Int → Int} (h : BLK c m b d H p sh col) (hz : ¬ col z = 2) (e : ∀ k, col' k = if k = z then 1 else col k) : BLK c m b d H p sh col' := by
  obtain ⟨bk, h⟩ := h
  refine ⟨bk, fun g hg r q => ?_⟩
  rw [e] at q
  by_cases w : g = z
  · rw [if_pos w] at q; omega
  · rw [if_neg w] at q
    obtain ⟨a, k⟩ := h g hg r q
    refine ⟨a, fun i a c => (k i a c).imp (fun u => ⟨?_, u.2⟩) id⟩
    rw [e, if_neg (fun y => hz (by rw [← y]; exact u.1))]
    exact u.1
theorem BLK.black {c m b d z : Int} {H : zJ} {p sh col col' : Int → Int} (h : BLK c m b d H p sh col) (hz : col z = 1) (hs : ¬ sh z = -1) (h3 : arN H b d (sh z) ≤ 3) (hc : ∀ j, 0 ≤ j → j < arN H b d (sh z) → col (tp p (agN H b (sh z) j)) = 2 ∨ sh (tp p (agN H b (sh z) j)) = -1) (e : ∀ k, col' k = if k = z then 2 else col k) : BLK c m b d H p sh col' := by
  obtain ⟨bk, h⟩ := h
  have up : ∀ k, col k = 2 → ¬ k = z ∧ col' k = 2 := fun k q => by
    have n : ¬ k = z := fun y => by rw [y] at q; omega
    exact ⟨n, by rw [e, if_neg n]; exact q⟩
  refine ⟨fun g => if g = z then 1 + bk (tp p (agN H b (sh z) 0)) + bk (tp p (agN H b (sh z) 1)) + bk (tp p (agN H b (sh z) 2)) else bk g, fun g hg r q => ?_⟩
  by_cases w : g = z
  · rw [w]
    refine ⟨hs, fun i a k => (hc i a k).imp (fun u => ⟨(up _ u).2, ?_⟩) id⟩
    have n := (up _ u).1
    show (if tp p (agN H b (sh z) i) = z then _ else _) < (if z = z then _ else _)
    rw [if_neg n, if_pos rfl]
    have : i = 0 ∨ i = 1 ∨ i = 2 := by omega
    rcases this with i0 | i0 | i0 <;> (rw [i0]; omega)
  · rw [e, if_neg w] at q
    obtain ⟨a, k⟩ := h g hg r q
    refine ⟨a, fun i a k9 => (k i a k9).imp (fun u => ⟨(up _ u.1).2, ?_⟩) id⟩
    show (if tp p (agN H b (sh g) i) = z then _ else _) < (if g = z then _ else _)
    rw [if_neg (up _ u.1).1, if_neg w]
    exact u.2
/-- a witness that there is no ring -/
theorem BLK.nr {c m b d x : Int} {H : zJ} {p sh lv col : Int → Int} (h : BLK c m b d H p sh col) (U : UFp (VN c m) p) (S : SHp (VN c m) (hdN H b) p sh lv) (g : CGm (VN c m) (hdN H b) (arN H b d) (agN H b) (tp p)) (hV : ∀ x i, VN c m x → 0 ≤ hdN H b x → 0 ≤ i → i < arN H b d x → VN c m (agN H b x i)) (hx : VN c m x) (q : col (tp p x) = 2 ∨ sh (tp p x) = -1) : NRu (VN c m) (hdN H b) (arN H b d) (agN H b) (fun u v => tp p u = tp p v) x := by
  obtain ⟨bk, h⟩ := h
  refine ⟨fun u => if col (tp p u) = 2 then bk (tp p u) + 1 else 0, fun u => VN c m u ∧ (col (tp p u) = 2 ∨ sh (tp p u) = -1), ⟨hx, q⟩, fun u v _ hv e w => ⟨⟨hv, by rw [← e]; exact w.2⟩, ?_⟩, fun u hu w h0 i a k => ?_⟩
  · show (if col (tp p u) = 2 then _ else _) = (if col (tp p v) = 2 then _ else _)
    rw [e]
  · obtain ⟨r1, r2⟩ := U.root hu
    have ns : ¬ sh (tp p u) = -1 := fun y => by
      have := (((S _ r2 r1).2 y).1 u hu rfl).1
      omega
    have cb := w.2.resolve_right ns
    obtain ⟨_, k2⟩ := h _ r2 r1 cb
    obtain ⟨x1, x2, x3⟩ := (S _ r2 r1).1.resolve_left ns
    obtain ⟨g1, g2⟩ := g u _ hu x1 x3.symm h0 x2
    have ea : arN H b d u = arN H b d (sh (tp p u)) := by
      unfold arN mar
      unfold hdN at g1
      rw [g1]
    have e9 := g2 i a k
    have va := hV u i hu h0 a k
    rcases k2 i a (by rw [← ea]; exact k) with ⟨c1, c2⟩ | c1
    · rw [← e9] at c1 c2
      refine ⟨⟨va, Or.inl c1⟩, ?_⟩
      show (if col (tp p (agN H b u i)) = 2 then _ else _) < (if col (tp p u) = 2 then _ else _)
      rw [if_pos c1, if_pos cb]
      omega
    · rw [← e9] at c1
      refine ⟨⟨va, Or.inr c1⟩, ?_⟩
      have nc : ¬ col (tp p (agN H b u i)) = 2 := fun y => by
        obtain ⟨s1, s2⟩ := U.root va
        exact (h _ s2 s1 y).1 c1
      show (if col (tp p (agN H b u i)) = 2 then _ else _) < (if col (tp p u) = 2 then _ else _)
      rw [if_neg nc, if_pos cb]
      omega
/-- what turns tells -/
def TPO (c m b d : Int) (H : zJ) (p sh : Int → Int) (x : Int) (J J' : zJ) (z : Int) : Prop := (z = 0 ∨ z = 1) ∧ (z = 0 → BLK c m b d H p sh (J' 180) ∧ (∀ k, J' 180 k = 1 ↔ J 180 k = 1) ∧ (∀ k, J 180 k = 2 → J' 180 k = 2) ∧ (J' 180 (tp p x) = 2 ∨ sh (tp p x) = -1)) ∧ (z = 1 → ∀ (rk : Int → Nat) (P : Int → Prop), WTu (VN c m) (hdN H b) (arN H b d) (agN H b) (fun u v => tp p u = tp p v) rk P → P x → ¬ ∀ g, VN c m g → p g = g → J 180 g = 1 → rk x < rk g)
def TPL (c m b d : Int) (H : zJ) (p sh : Int → Int) (z : Int) (J : zJ) (k : Int) (J1 : zJ) : Prop := BLK c m b d H p sh (J1 180) ∧ (∀ q, J1 180 q = 1 ↔ (q = z ∨ J 180 q = 1)) ∧ (∀ q, J 180 q = 2 → J1 180 q = 2) ∧ ∀ j, 0 ≤ j → j < k → (J1 180 (tp p (agN H b (sh z) j)) = 2 ∨ sh (tp p (agN H b (sh z) j)) = -1)
theorem TPO.r0 {c m b d x : Int} {H J : zJ} {p sh : Int → Int} (h : BLK c m b d H p sh (J 180)) (q : J 180 (tp p x) = 2 ∨ sh (tp p x) = -1) : TPO c m b d H p sh x J J 0 := ⟨Or.inl rfl, fun _ => ⟨h, fun _ => Iff.rfl, fun _ => id, q⟩, fun q => absurd q (by decide)⟩
theorem TPO.r1 {c m b d x : Int} {H J : zJ} {p sh : Int → Int} (U : UFp (VN c m) p) (hx : VN c m x) (q : J 180 (tp p x) = 1) : TPO c m b d H p sh x J J 1 := ⟨Or.inr rfl, fun q => absurd q (by decide), fun _ rk P w px g => by
  obtain ⟨r1, r2⟩ := U.root hx
  have := (w.1 x _ hx r2 (tp_r r1).symm px).2
  have := g _ r2 r1 q
  omega⟩
theorem TPL.start {c m b d z : Int} {H J J1 : zJ} {p sh : Int → Int} (h : BLK c m b d H p sh (J 180)) (hz : ¬ J 180 z = 2) (e : ∀ k, J1 180 k = if k = z then 1 else J 180 k) : TPL c m b d H p sh z J 0 J1 := ⟨h.gray hz e, fun q => by
  rw [e]
  by_cases w : q = z
  · rw [if_pos w]; exact ⟨fun _ => Or.inl w, fun _ => rfl⟩
  · rw [if_neg w]; exact ⟨Or.inr, fun y => y.resolve_left w⟩, fun q y => by
  rw [e, if_neg (fun w => hz (by rw [← w]; exact y))]
  exact y, fun j a k => by omega⟩
theorem TPL.step {c m b d z k : Int} {H J J1 J2 : zJ} {p sh : Int → Int} (l : TPL c m b d H p sh z J k J1) (q : TPO c m b d H p sh (agN H b (sh z) k) J1 J2 0) : TPL c m b d H p sh z J (k + 1) J2 := by
  obtain ⟨q1, q2, q3, q4⟩ := q.2.1 rfl
  obtain ⟨l1, l2, l3, l4⟩ := l
  refine ⟨q1, fun y => (q2 y).trans (l2 y), fun y w => q3 y (l3 y w), fun j a w => ?_⟩
  by_cases e : j = k
  · rw [e]; exact q4
  · exact (l4 j a (by omega)).imp (q3 _) id
theorem TPO.up {c m b d x z k : Int} {H J J1 J2 : zJ} {p sh lv : Int → Int} (U : UFp (VN c m) p) (S : SHp (VN c m) (hdN H b) p sh lv) (hx : VN c m x) (ez : tp p x = z) (ns : ¬ sh z = -1) (hk : 0 ≤ k ∧ k < arN H b d (sh z)) (l : TPL c m b d H p sh z J k J1) (q : TPO c m b d H p sh (agN H b (sh z) k) J1 J2 1) : TPO c m b d H p sh x J J2 1 := ⟨Or.inr rfl, fun q => absurd q (by decide), fun _ rk P w px g => by
  obtain ⟨r1, r2⟩ := U.root hx
  rw [ez] at r1 r2
  obtain ⟨x1, x2, x3⟩ := (S _ r2 r1).1.resolve_left ns
  obtain ⟨a1, a2⟩ := w.1 x _ hx x1 (ez.trans x3.symm) px
  obtain ⟨b1, b2⟩ := w.2 _ x1 a1 x2 k hk.1 hk.2
  have a3 := (w.1 x z hx r2 (ez.trans (tp_r r1).symm) px).2
  refine q.2.2 rfl rk P w b1 (fun y hy ry cy => ?_)
  rcases (l.2.1 y).1 cy with e | e
  · rw [e]; omega
  · have := g y hy ry e; omega⟩
theorem TPO.fin {c m b d x z k : Int} {H J J1 J2 : zJ} {p sh : Int → Int} (ez : tp p x = z) (hz : ¬ J 180 z = 1) (ns : ¬ sh z = -1) (h3 : arN H b d (sh z) ≤ 3) (hk : arN H b d (sh z) ≤ k) (l : TPL c m b d H p sh z J k J1) (e : ∀ k, J2 180 k = if k = z then 2 else J1 180 k) : TPO c m b d H p sh x J J2 0 := by
  obtain ⟨l1, l2, l3, l4⟩ := l
  have z1 : J1 180 z = 1 := (l2 z).2 (Or.inl rfl)
  refine ⟨Or.inl rfl, fun _ => ⟨l1.black z1 ns h3 (fun j a w => l4 j a (by omega)) e, fun q => ?_, fun q y => ?_, Or.inl (by rw [ez, e, if_pos rfl])⟩, fun q => absurd q (by decide)⟩
  · rw [e]
    by_cases w : q = z
    · rw [if_pos w, w]
      exact ⟨fun y => by omega, fun y => absurd y hz⟩
    · rw [if_neg w, l2]
      exact ⟨fun y => y.resolve_left w, Or.inr⟩
  · rw [e]
    split
    · rfl
    · exact l3 q y
set_option maxHeartbeats 4000000 in
set_option maxRecDepth 100000 in
theorem x_turnsR {l : Launch} {G : tb_G} (hl : l.stackTraces = false) (n : Nat) : ∀ (r9 : Nat) (J : zJ) (x : Int) (hr_x : -2147483648 ≤ x ∧ x < 2147483648) (b r d s m : Int) (c : Int) (H : zJ) (p sh lv : Int → Int) (hM : MS J b r d s m) (hU : UF J c m) (hx : VN c m x) (e6 : J 166 = H 166) (e7 : J 167 = H 167) (e0 : J 170 = H 170) (ep : J 177 = p) (es : J 178 = sh) (hS : SHp (VN c m) (hdN H b) p sh lv) (hB : BLK c m b d H p sh (J 180)), (wc J) < r9 → tz_Ok l G M_X12_turns (5 + 1 * r9) 0 0 [.ref 164, zi x] n J (zqi (fun z J' => wc J' ≤ wc J ∧ zOf (zbut [180]) J' J ∧ TPO c m b d H p sh x J J' z)) zN := by
  intro r9
  induction r9 with
  | zero => intro J x hr_x b r d s m c H p sh lv hM hU hx e6 e7 e0 ep es hS hB hm9; exact absurd hm9 (Nat.not_lt_zero _)
  | succ r9 ih =>
    intro J x hr_x b r d s m c H p sh lv hM hU hx e6 e7 e0 ep es hS hB hm9
    refine tz_Ok.of hl (by decide +kernel) rfl (tb_c1 rfl) (Nat.le_of_ble_eq_true rfl) ?_
    show tz_At l G M_X12_turns (tb_rm (5 + 1 * (r9 + 1)) 0 0) none (tb_ZM G 0 0 (zQ n 0 (zqi (fun z J' => wc J' ≤ wc J ∧ zOf (zbut [180]) J' J ∧ TPO c m b d H p sh x J J' z))) (zX n 0 zN)) 0 0 n J 0 [some (.ref 164), some (zi x), none, none] []
    obtain ⟨hM1, hM2, hM3, hM4, hM5, hM6⟩ := id hM
    have hT := hM.told
    have hc9 := hU.1
    have hP : UFp (VN c m) p := by rw [← ep]; exact hU.p
    have hx1 := hx.1
    have hx2 := hx.2
    refine tz_aload_n (pc := 0) dX12_turns_0 rfl rfl ?_
    refine tz_iload_n (pc := 1) dX12_turns_1 rfl rfl ?_
    refine tz_cV (pc := 2) (x_top hl n _ _ (by omega) c m hU hx) vl_X12_164 dX12_turns_2 o_164 rfl rfl (Nat.le_of_ble_eq_true rfl) ⟨(show 0 + 1 ≤ 5 + 1 * (r9 + 1) by omega), (show 8 + (3 + 11) + 40 * (0) ≤ 40 * (5 + 1 * (r9 + 1)) by omega)⟩ rfl rfl (Nat.le_of_ble_eq_true rfl) (Nat.le_of_ble_eq_true rfl) (fun r9 J_2 hq9 => ?_)
    obtain ⟨z_2, rfl, hz_2, rfl, v_2, b_2, t_2⟩ := hq9
    have a_2 := v_2.1
    have c_2 := v_2.2
    have tt : tp p x = z_2 := by rw [← ep]; exact t_2
    have es2 : J 178 z_2 = sh z_2 := by rw [es]
    refine tz_istore_n (pc := 5) (L2 := [_, _, _, _]) dX12_turns_5 rfl (by decide) rfl ?_
    have ua := (hU.at a_2).2
    have va := c_2
    refine tz_aload_n (pc := 6) dX12_turns_6 rfl rfl ?_
    refine tz_fR (pc := 7) dX12_turns_7 fl_X12_59 r_164_28 ?_
    refine tz_iload_n (pc := 10) dX12_turns_10 rfl rfl ?_
    refine tz_aL (pc := 11) (z := z_2) (v := (J 180 z_2)) dX12_turns_11 a_180 rfl (by omega) rfl (fun r_11 => ?_)
    refine tz_iconst (pc := 12) dX12_turns_12 ?_
    refine tz_icmp_eq (pc := 13) (tgt := 26) dX12_turns_13 (by decide) (by omega) (by decide) (fun h_13 => ?_) (fun h_13 => ?_)
    · refine tz_iconst (pc := 26) dX12_turns_26 ?_
      exact tz_zret (pc := 27) (z := 0) dX12_turns_27 rfl (Or.inl rfl) (Nat.le_of_ble_eq_true rfl) (Nat.le_of_ble_eq_true rfl) ⟨Nat.le_refl _, Nat.le_add_right _ _⟩ ⟨_, rfl, (by decide), ⟨Nat.le_refl _, zOf.rf, TPO.r0 hB (by rw [tt, ← es]; omega)⟩⟩
    · refine tz_aload_n (pc := 16) dX12_turns_16 rfl rfl ?_
      refine tz_fR (pc := 17) dX12_turns_17 fl_X12_53 r_164_26 ?_
      refine tz_iload_n (pc := 20) dX12_turns_20 rfl rfl ?_
      refine tz_aL (pc := 21) (z := z_2) (v := (J 178 z_2)) dX12_turns_21 a_178 rfl (by omega) rfl (fun r_21 => ?_)
      refine tz_iconst (pc := 22) dX12_turns_22 ?_
      refine tz_icmp_ne (pc := 23) (tgt := 28) dX12_turns_23 (by decide) (by omega) (by decide) (fun h_23 => ?_) (fun h_23 => ?_)
      · refine tz_aload_n (pc := 28) dX12_turns_28 rfl rfl ?_
        refine tz_fR (pc := 29) dX12_turns_29 fl_X12_59 r_164_28 ?_
        refine tz_iload_n (pc := 32) dX12_turns_32 rfl rfl ?_
        refine tz_aL (pc := 33) (z := z_2) (v := (J 180 z_2)) dX12_turns_33 a_180 rfl (by omega) rfl (fun r_33 => ?_)
        refine tz_iconst (pc := 34) dX12_turns_34 ?_
        refine tz_icmp_ne (pc := 35) (tgt := 40) dX12_turns_35 (by decide) (by omega) (by decide) (fun h_35 => ?_) (fun h_35 => ?_)
        · refine tz_aload_n (pc := 40) dX12_turns_40 rfl rfl ?_
          refine tz_fR (pc := 41) dX12_turns_41 fl_X12_59 r_164_28 ?_
          refine tz_iload_n (pc := 44) dX12_turns_44 rfl rfl ?_
          refine tz_iconst (pc := 45) dX12_turns_45 ?_
          refine tz_aS (pc := 46) (z := z_2) dX12_turns_46 a_180 rfl (by omega) (by decide) ?_
          have hw47 := wc_up1 (J := J) (a := z_2) (v := 1) (Or.inl rfl) (by omega) (by omega)
          refine tz_iconst (pc := 47) dX12_turns_47 ?_
          refine tz_istore_n (pc := 48) (L2 := [_, _, _, _]) dX12_turns_48 rfl (by decide) rfl ?_
          have loop49 : ∀ (f9 : Nat) (k : Int) (J1 : zJ), ((3 - k).toNat) < f9 → (0 ≤ k ∧ k ≤ 3) → (wc J1 < wc J) → (zOf (zbut [180]) J1 J) → (TPL c m b d H p sh z_2 J k J1) → tz_At l G M_X12_turns (tb_rm (5 + 1 * (r9 + 1)) 0 0) none (tb_ZM G 0 0 (zQ n 0 (zqi (fun z J' => wc J' ≤ wc J ∧ zOf (zbut [180]) J' J ∧ TPO c m b d H p sh x J J' z))) (zX n 0 zN)) 0 0 n J1 49 [some (.ref 164), some (zi x), some (zi z_2), some (zi k)] [] := by
            intro f9
            induction f9 with
            | zero => intro k J1 hm9; exact absurd hm9 (Nat.not_lt_zero _)
            | succ f9 ih49 =>
              intro k J1 hm49 hk hw1 f1 tl
              have hA := hM.ar (t := (J 178 z_2) % 400) (by omega)
              have maH : mar J b d ((J 178 z_2) % 400) = mar H b d ((sh z_2) % 400) := by rw [es2]; unfold mar; rw [e6, e0]
              refine tz_iload_n (pc := 49) dX12_turns_49 rfl rfl ?_
              refine tz_aload_n (pc := 50) dX12_turns_50 rfl rfl ?_
              refine tz_aload_n (pc := 51) dX12_turns_51 rfl rfl ?_
              refine tz_fR (pc := 52) dX12_turns_52 fl_X12_53 r_164_26 ?_
              refine tz_iload_n (pc := 55) dX12_turns_55 rfl rfl ?_
              refine tz_aL (pc := 56) (z := z_2) (v := (J 178 z_2)) dX12_turns_56 a_178 rfl (by omega) (Eq.trans (congrFun (f1 178 rfl) z_2) rfl) (fun r_56 => ?_)
              refine tz_sipush (pc := 57) dX12_turns_57 (by decide) ?_
              refine tz_irem (pc := 60) (a := (J 178 z_2)) (b := 400) (v := ((J 178 z_2) % 400)) dX12_turns_60 (by omega) (by omega) rfl ?_
              refine tz_cV (pc := 61) (m_arity hl n _ _ (by omega) b r d s m (hM.c180 f1) (by omega)) vl_X12_111 dX12_turns_61 o_164 rfl rfl (Nat.le_of_ble_eq_true rfl) ⟨(show 2 + 1 ≤ 5 + 1 * (r9 + 1) by omega), (show 8 + (2 + 11) + 40 * (2) ≤ 40 * (5 + 1 * (r9 + 1)) by omega)⟩ rfl rfl (Nat.le_of_ble_eq_true rfl) (Nat.le_of_ble_eq_true rfl) (fun r9 J_61 hq9 => ?_)
              obtain ⟨za, rfl, hz_61, rfl, hv⟩ := hq9
              rw [mar_180 (J := J) f1] at hv
              refine tz_icmp_ge (pc := 64) (tgt := 93) dX12_turns_64 (by decide) (by omega) (by omega) (fun h_64 => ?_) (fun h_64 => ?_)
              · refine tz_aload_n (pc := 93) dX12_turns_93 rfl rfl ?_
                refine tz_fR (pc := 94) dX12_turns_94 fl_X12_59 r_164_28 ?_
                refine tz_iload_n (pc := 97) dX12_turns_97 rfl rfl ?_
                refine tz_iconst (pc := 98) dX12_turns_98 ?_
                refine tz_aS (pc := 99) (z := z_2) dX12_turns_99 a_180 rfl (by omega) (by decide) ?_
                refine tz_iconst (pc := 100) dX12_turns_100 ?_
                exact tz_zret (pc := 101) (z := 0) dX12_turns_101 rfl (Or.inl rfl) (Nat.le_of_ble_eq_true rfl) (Nat.le_of_ble_eq_true rfl) ⟨Nat.le_refl _, Nat.le_add_right _ _⟩ ⟨_, rfl, (by decide), ⟨by have := wc_up (J := J1) (a := z_2) (v := 2) (Or.inr rfl); omega, zOf.up rfl f1, TPO.fin tt (by omega) (by omega) (by unfold arN; rw [← maH]; omega) (by unfold arN; rw [← maH]; omega) tl (fun _ => rfl)⟩⟩
              · refine tz_aload_n (pc := 67) dX12_turns_67 rfl rfl ?_
                refine tz_aload_n (pc := 68) dX12_turns_68 rfl rfl ?_
                refine tz_aload_n (pc := 69) dX12_turns_69 rfl rfl ?_
                refine tz_fR (pc := 70) dX12_turns_70 fl_X12_53 r_164_26 ?_
                refine tz_iload_n (pc := 73) dX12_turns_73 rfl rfl ?_
                refine tz_aL (pc := 74) (z := z_2) (v := (J 178 z_2)) dX12_turns_74 a_178 rfl (by omega) (Eq.trans (congrFun (f1 178 rfl) z_2) rfl) (fun r_74 => ?_)
                refine tz_iload_n (pc := 75) dX12_turns_75 rfl rfl ?_
                refine tz_cV (pc := 76) (x_argOf hl n _ _ _ (by omega) (by omega) b r d s m c (hM.c180 f1) hU.1 ⟨by omega, by omega⟩ (by rw [mar_180 (J := J) f1]; omega)) vl_X12_167 dX12_turns_76 o_164 rfl rfl (Nat.le_of_ble_eq_true rfl) ⟨(show 1 + 1 ≤ 5 + 1 * (r9 + 1) by omega), (show 8 + (3 + 11) + 40 * (1) ≤ 40 * (5 + 1 * (r9 + 1)) by omega)⟩ rfl rfl (Nat.le_of_ble_eq_true rfl) (Nat.le_of_ble_eq_true rfl) (fun r9 J_76 hq9 => ?_)
                obtain ⟨zg, rfl, hz_76, rfl, hg, hh⟩ := hq9
                have ag : zg = agN H b (sh z_2) k := by rw [hh]; unfold agN; rw [f1 167 rfl, e7, es2]
                refine tz_cV (pc := 79) (ih _ _ (by omega) b r d s m c H p sh lv (hM.c180 f1) (hU.c180 f1) hg ((f1 166 rfl).trans e6) ((f1 167 rfl).trans e7) ((f1 170 rfl).trans e0) ((f1 177 rfl).trans ep) ((f1 178 rfl).trans es) hS tl.1 (by omega)) vl_X12_174 dX12_turns_79 o_164 rfl rfl (Nat.le_of_ble_eq_true rfl) ⟨(show (5 + 1 * r9) + 1 ≤ 5 + 1 * (r9 + 1) by omega), (show 8 + (4 + 11) + 40 * ((5 + 1 * r9)) ≤ 40 * (5 + 1 * (r9 + 1)) by omega)⟩ rfl rfl (Nat.le_of_ble_eq_true rfl) (Nat.le_of_ble_eq_true rfl) (fun r9 J_79 hq9 => ?_)
                obtain ⟨zt, rfl, hz_79, w2, f2, to2⟩ := hq9
                rw [ag] at to2
                have zt01 := to2.1
                refine tz_if_eq (pc := 82) (tgt := 87) dX12_turns_82 (by decide) (by omega) (fun h_82 => ?_) (fun h_82 => ?_)
                · refine tz_iinc (pc := 87) (z := k + 1) (L2 := [_, _, _, _]) dX12_turns_87 rfl (by omega) rfl ?_
                  refine tz_goto (pc := 90) (tgt := 49) dX12_turns_90 (by decide) ?_
                  exact ih49 (k + 1) _ (by omega) (by omega) (by omega) (f2.tr f1) (tl.step (by have e9 : zt = 0 := (by omega); rw [e9] at to2; exact to2))
                · refine tz_iconst (pc := 85) dX12_turns_85 ?_
                  exact tz_zret (pc := 86) (z := 1) dX12_turns_86 rfl (Or.inr rfl) (Nat.le_of_ble_eq_true rfl) (Nat.le_of_ble_eq_true rfl) ⟨Nat.le_refl _, Nat.le_add_right _ _⟩ ⟨_, rfl, (by decide), ⟨by omega, f2.tr f1, TPO.up hP hS hx tt (by omega) ⟨by omega, by unfold arN; rw [← maH]; omega⟩ tl (by have e9 : zt = 1 := (by have := to2.1; omega); rw [e9] at to2; exact to2)⟩⟩
          exact loop49 _ 0 _ (Nat.lt_succ_self _) (by omega) hw47 (zOf.up rfl zOf.rf) (TPL.start hB (by omega) (fun _ => rfl))
        · refine tz_iconst (pc := 38) dX12_turns_38 ?_
          exact tz_zret (pc := 39) (z := 1) dX12_turns_39 rfl (Or.inr rfl) (Nat.le_of_ble_eq_true rfl) (Nat.le_of_ble_eq_true rfl) ⟨Nat.le_refl _, Nat.le_add_right _ _⟩ ⟨_, rfl, (by decide), ⟨Nat.le_refl _, zOf.rf, TPO.r1 hP hx (by rw [tt]; omega)⟩⟩
      · refine tz_iconst (pc := 26) dX12_turns_26 ?_
        exact tz_zret (pc := 27) (z := 0) dX12_turns_27 rfl (Or.inl rfl) (Nat.le_of_ble_eq_true rfl) (Nat.le_of_ble_eq_true rfl) ⟨Nat.le_refl _, Nat.le_add_right _ _⟩ ⟨_, rfl, (by decide), ⟨Nat.le_refl _, zOf.rf, TPO.r0 hB (by rw [tt, ← es]; omega)⟩⟩

theorem x_turns {l : Launch} {G : tb_G} (hl : l.stackTraces = false) (n : Nat) (J : zJ) (x : Int) (hr_x : -2147483648 ≤ x ∧ x < 2147483648) (b r d s m : Int) (c : Int) (H : zJ) (p sh lv : Int → Int) (hM : MS J b r d s m) (hU : UF J c m) (hx : VN c m x) (e6 : J 166 = H 166) (e7 : J 167 = H 167) (e0 : J 170 = H 170) (ep : J 177 = p) (es : J 178 = sh) (hS : SHp (VN c m) (hdN H b) p sh lv) (hB : BLK c m b d H p sh (J 180)) : tz_Ok l G M_X12_turns 806 0 0 [.ref 164, zi x] n J (zqi (fun z J' => wc J' ≤ wc J ∧ zOf (zbut [180]) J' J ∧ TPO c m b d H p sh x J J' z)) zN := x_turnsR hl n 801 J x hr_x b r d s m c H p sh lv hM hU hx e6 e7 e0 ep es hS hB (by have := cnt_n (p := fun k => decide (¬ J 180 k = 1 ∧ ¬ J 180 k = 2)) 800; unfold wc; omega)
/-- what unifying tells -/
def UPO (c m b d : Int) (H : zJ) (x y : Int) (p sh lv : Int → Int) (z : Int) : Prop := (z = 0 ∧ ¬ ∃ f, CGm (VN c m) (hdN H b) (arN H b d) (agN H b) f ∧ f x = f y) ∨ ((∃ f, CGm (VN c m) (hdN H b) (arN H b d) (agN H b) f ∧ f x = f y) ∧ UFp (VN c m) p ∧ SHp (VN c m) (hdN H b) p sh lv ∧ (∀ u v, VN c m u → VN c m v → (tp p u = tp p v ↔ LCu (VN c m) (hdN H b) (arN H b d) (agN H b) x y u v)) ∧ ((z = 1 ∧ NRu (VN c m) (hdN H b) (arN H b d) (agN H b) (LCu (VN c m) (hdN H b) (arN H b d) (agN H b) x y) x) ∨ (z = 2 ∧ ¬ NRu (VN c m) (hdN H b) (arN H b d) (agN H b) (LCu (VN c m) (hdN H b) (arN H b d) (agN H b) x y) x)))
theorem un_init {c m b : Int} {J J1 : zJ} (hc : c = 400 ∨ c = 800) (h : ∀ q, 0 ≤ q → q < 800 → J1 177 q = q ∧ J1 180 q = 0 ∧ (q % 400 < m → ((J 166 (b + q % 400) < 0 ∧ J1 178 q = -1 ∧ J1 179 q = -1 - J 166 (b + q % 400)) ∨ (0 ≤ J 166 (b + q % 400) ∧ J1 178 q = q)))) : SHp (VN c m) (hdN J b) (J1 177) (J1 178) (J1 179) ∧ (∀ u, VN c m u → J1 177 u = u) := by
  have e : ∀ u, VN c m u → J1 177 u = u := fun u hu => (h u hu.1.1 (by have := hu.1.2; omega)).1
  have et : ∀ u, VN c m u → tp (J1 177) u = u := fun u hu => tp_r (e u hu)
  refine ⟨fun a ha _ => ?_, e⟩
  have q := (h a ha.1.1 (by have := ha.1.2; omega)).2.2 ha.2
  refine ⟨?_, fun w => ?_⟩
  · rcases q with ⟨_, q, _⟩ | ⟨q1, q2⟩
    · exact Or.inl q
    · rw [q2]; exact Or.inr ⟨ha, q1, et a ha⟩
  · have n : J 166 (b + a % 400) < 0 ∧ J1 179 a = -1 - J 166 (b + a % 400) := by
      rcases q with ⟨q1, q2, q3⟩ | ⟨q1, q2⟩
      · exact ⟨q1, q3⟩
      · have := ha.1.1; omega
    refine ⟨fun u hu eu => ?_, a, ha, et a ha, n.2⟩
    rw [et u hu] at eu
    subst eu
    unfold hdN
    omega
theorem up_0 {c m b d x y z : Int} {H J J1 : zJ} {sh lv : Int → Int} (hz : z = 0) (e : ∀ u, VN c m u → J 177 u = u) (h30 : J 164 30 = 0) (j : JOP c m b d H J x y J1) (n : ¬ J1 164 30 = 0) : UPO c m b d H x y (J1 177) sh lv z := Or.inl ⟨hz, fun ⟨f, g, q⟩ => (j.1 f g (fun u hu => by rw [e u hu]) q).2 n h30⟩
theorem up_k {c m b d x y : Int} {H J J1 : zJ} (hx : VN c m x) (hy : VN c m y) (e : ∀ u, VN c m u → J 177 u = u) (j : JOP c m b d H J x y J1) (n : J1 164 30 = 0) (U : UFp (VN c m) (J1 177)) : CGm (VN c m) (hdN H b) (arN H b d) (agN H b) (tp (J1 177)) ∧ tp (J1 177) x = tp (J1 177) y ∧ ∀ u v, VN c m u → VN c m v → (tp (J1 177) u = tp (J1 177) v ↔ LCu (VN c m) (hdN H b) (arN H b d) (agN H b) x y u v) := by
  obtain ⟨_, j2, j3⟩ := j.2 n
  have cl : CLp (VN c m) (hdN H b) (arN H b d) (agN H b) (J 177) (fun f => True ∧ f x = f y) := fun u v hu hv k h1 h2 => by
    have : u = v := by rw [← tp_r (e u hu), ← tp_r (e v hv)]; exact k
    rw [this]
    exact ⟨rfl, fun _ _ _ _ _ _ => rfl⟩
  have g := (j3 _ cl).cg U
  have t := (j2 _ U.p).2
  exact ⟨g, t, fun u v hu hv => ⟨fun q f g q2 => U.eq (j.1 f g (fun u hu => by rw [e u hu]) q2).1 hu hv q, fun q => q _ g t⟩⟩
set_option maxHeartbeats 4000000 in
set_option maxRecDepth 100000 in
theorem x_unifies {l : Launch} {G : tb_G} (hl : l.stackTraces = false) (n : Nat) (J : zJ) (x : Int) (y : Int) (hr_x : -2147483648 ≤ x ∧ x < 2147483648) (hr_y : -2147483648 ≤ y ∧ y < 2147483648) (b r d s m : Int) (c : Int) (hM : MS J b r d s m) (hc : c = 400 ∨ c = 800) (hx : VN c m x) (hy : VN c m y) : tz_Ok l G M_X12_unifies 807 0 0 [.ref 164, zi x, zi y] n J (zqi (fun z J' => (UF J' c m ∧ (0 ≤ z ∧ z ≤ 2) ∧ zOf (zbut [164, 177, 178, 179, 180]) J' J ∧ ∀ k, ¬ k = 30 → J' 164 k = J 164 k) ∧ UPO c m b d J x y (J' 177) (J' 178) (J' 179) z)) zN := by
  refine tz_Ok.of hl (by decide +kernel) rfl (tb_c1 rfl) (Nat.le_of_ble_eq_true rfl) ?_
  show tz_At l G M_X12_unifies (tb_rm 807 0 0) none (tb_ZM G 0 0 (zQ n 0 (zqi (fun z J' => (UF J' c m ∧ (0 ≤ z ∧ z ≤ 2) ∧ zOf (zbut [164, 177, 178, 179, 180]) J' J ∧ ∀ k, ¬ k = 30 → J' 164 k = J 164 k) ∧ UPO c m b d J x y (J' 177) (J' 178) (J' 179) z))) (zX n 0 zN)) 0 0 n J 0 [some (.ref 164), some (zi x), some (zi y)] []
  obtain ⟨hM1, hM2, hM3, hM4, hM5, hM6⟩ := id hM
  have hT := hM.told
  have hx1 := hx.1
  have hy1 := hy.1
  have hx2 := hx.2
  have hy2 := hy.2
  have hV9 : ∀ u i, VN c m u → 0 ≤ hdN J b u → 0 ≤ i → i < arN J b d u → VN c m (agN J b u i) := fun u i hu _ a k => by have h1 := hu.1; have h2 := hu.2; have g9 := (hM.arg (t := u % 400) (i := i) (by omega) ⟨a, k⟩).1; have t9 := hM.told; unfold agN VN; omega
  refine tz_aload_n (pc := 0) dX12_unifies_0 rfl rfl ?_
  refine tz_cV (pc := 1) (x_begCl hl n _ b r d s m hM) vl_X12_177 dX12_unifies_1 o_164 rfl rfl (Nat.le_of_ble_eq_true rfl) ⟨(Nat.le_of_ble_eq_true rfl), (Nat.le_of_ble_eq_true rfl)⟩ rfl rfl (Nat.le_of_ble_eq_true rfl) (Nat.le_of_ble_eq_true rfl) (fun r9 J_1 hq9 => ?_)
  obtain ⟨rfl, ⟨u8, u4, i30, f_1, g_1⟩, ix⟩ := hq9
  have f_1 := And.intro f_1 g_1
  have hU : UF J_1 c m := by rcases hc with e | e <;> (subst e; assumption)
  obtain ⟨iS, ei⟩ := un_init (c := c) (b := b) (J := J) hc ix
  refine tz_aload_n (pc := 4) dX12_unifies_4 rfl rfl ?_
  refine tz_iload_n (pc := 5) dX12_unifies_5 rfl rfl ?_
  refine tz_iload_n (pc := 6) dX12_unifies_6 rfl rfl ?_
  refine tz_cV (pc := 7) (x_joins hl n _ _ _ (by omega) (by omega) b r d s m c J (hM.cl f_1.1 f_1.2) hU hx hy (f_1.1 166 rfl) (f_1.1 167 rfl) (f_1.1 170 rfl) iS) vl_X12_170 dX12_unifies_7 o_164 rfl rfl (Nat.le_of_ble_eq_true rfl) ⟨(Nat.le_of_ble_eq_true rfl), (Nat.le_of_ble_eq_true rfl)⟩ rfl rfl (Nat.le_of_ble_eq_true rfl) (Nat.le_of_ble_eq_true rfl) (fun r9 J_7 hq9 => ?_)
  obtain ⟨rfl, u7, -, ⟨f_7, g_7⟩, s7, j7, n7⟩ := hq9
  have f_7 : zOf (zbut [164, 177, 178, 179, 180]) J_7 J ∧ ∀ k, ¬ k = 30 → J_7 164 k = J 164 k := ⟨f_7.tr f_1.1, fun k hk => (g_7 k hk).trans (f_1.2 k hk)⟩
  refine tz_aload_n (pc := 10) dX12_unifies_10 rfl rfl ?_
  refine tz_fI (pc := 11) (kz := 30) (v := (J_7 164 30)) dX12_unifies_11 fl_X12_161 i_164_30 rfl rfl (fun r_11 => ?_)
  refine tz_if_eq (pc := 14) (tgt := 21) dX12_unifies_14 (by decide) (by omega) (fun h_14 => ?_) (fun h_14 => ?_)
  · refine tz_aload_n (pc := 21) dX12_unifies_21 rfl rfl ?_
    refine tz_iload_n (pc := 22) dX12_unifies_22 rfl rfl ?_
    have no9 : ∀ g, VN c m g → ¬ J_7 180 g = 1 := fun g hg => by rw [n7, (ix g hg.1.1 (by have := hg.1.2; omega)).2.1]; decide
    obtain ⟨kg, kt, kk⟩ := up_k (H := J) hx hy ei j7 (by omega) u7.p
    have B7 : BLK c m b d J (J_7 177) (J_7 178) (J_7 180) := ⟨fun _ => 0, fun g hg _ q => by rw [n7, (ix g hg.1.1 (by have := hg.1.2; omega)).2.1] at q; exact absurd q (by decide)⟩
    refine tz_cV (pc := 23) (x_turns hl n _ _ (by omega) b r d s m c J (J_7 177) (J_7 178) (J_7 179) (hM.cl f_7.1 f_7.2) u7 hx (f_7.1 166 rfl) (f_7.1 167 rfl) (f_7.1 170 rfl) rfl rfl s7 B7) vl_X12_174 dX12_unifies_23 o_164 rfl rfl (Nat.le_of_ble_eq_true rfl) ⟨(Nat.le_of_ble_eq_true rfl), (Nat.le_of_ble_eq_true rfl)⟩ rfl rfl (Nat.le_of_ble_eq_true rfl) (Nat.le_of_ble_eq_true rfl) (fun r9 J_23 hq9 => ?_)
    obtain ⟨z_23, rfl, hz_23, -, t_23, o_23⟩ := hq9
    have f_23 : zOf (zbut [164, 177, 178, 179, 180]) J_23 J ∧ ∀ k, ¬ k = 30 → J_23 164 k = J 164 k := ⟨(t_23.mono (zbut_sub (fun c hc => by simp at hc ⊢; omega))).tr f_7.1, fun k hk => (congrFun (t_23 164 rfl) k).trans (f_7.2 k hk)⟩
    have u23 : UF J_23 c m := u7.c180 t_23
    refine tz_if_ne (pc := 26) (tgt := 37) dX12_unifies_26 (by decide) (by omega) (fun h_26 => ?_) (fun h_26 => ?_)
    · refine tz_iconst (pc := 37) dX12_unifies_37 ?_
      refine tz_goto (pc := 38) (tgt := 42) dX12_unifies_38 (by decide) ?_
      exact tz_iret (pc := 42) (z := 2) dX12_unifies_42 rfl (Nat.le_of_ble_eq_true rfl) (Nat.le_of_ble_eq_true rfl) ⟨Nat.le_refl _, Nat.le_add_right _ _⟩ ⟨_, rfl, (by decide), ⟨⟨u23, by omega, f_23⟩, Or.inr ⟨⟨_, kg, kt⟩, u23.p, by rw [t_23 177 rfl, t_23 178 rfl, t_23 179 rfl]; exact s7, by rw [t_23 177 rfl]; exact kk, Or.inr ⟨rfl, fun q9 => by obtain ⟨rk9, P9, p9, w9⟩ := q9; exact o_23.2.2 (by have := o_23.1; omega) rk9 P9 (w9.cg (fun u v hu hv => (kk u v hu hv).1)) p9 (fun g hg _ q8 => absurd q8 (no9 g hg))⟩⟩⟩⟩
    · refine tz_aload_n (pc := 29) dX12_unifies_29 rfl rfl ?_
      refine tz_iload_n (pc := 30) dX12_unifies_30 rfl rfl ?_
      obtain ⟨o1, o2, o3, o4⟩ := o_23.2.1 (by have := o_23.1; omega)
      have nr9 := o1.nr u7.p s7 kg hV9 hx o4
      refine tz_cV (pc := 31) (x_turns hl n _ _ (by omega) b r d s m c J (J_7 177) (J_7 178) (J_7 179) (hM.cl f_23.1 f_23.2) u23 hy (f_23.1 166 rfl) (f_23.1 167 rfl) (f_23.1 170 rfl) (t_23 177 rfl) (t_23 178 rfl) s7 o1) vl_X12_174 dX12_unifies_31 o_164 rfl rfl (Nat.le_of_ble_eq_true rfl) ⟨(Nat.le_of_ble_eq_true rfl), (Nat.le_of_ble_eq_true rfl)⟩ rfl rfl (Nat.le_of_ble_eq_true rfl) (Nat.le_of_ble_eq_true rfl) (fun r9 J_31 hq9 => ?_)
      obtain ⟨z_31, rfl, hz_31, -, t_31, o_31⟩ := hq9
      have f_31 : zOf (zbut [164, 177, 178, 179, 180]) J_31 J ∧ ∀ k, ¬ k = 30 → J_31 164 k = J 164 k := ⟨(t_31.mono (zbut_sub (fun c hc => by simp at hc ⊢; omega))).tr f_23.1, fun k hk => (congrFun (t_31 164 rfl) k).trans (f_23.2 k hk)⟩
      have u31 : UF J_31 c m := u23.c180 t_31
      have zz31 : z_31 = 0 := o_31.1.resolve_right (fun q9 => by obtain ⟨rk9, P9, p9, w9⟩ := nr9; exact o_31.2.2 q9 rk9 P9 w9 (w9.1 x y hx hy kt p9).1 (fun g hg _ q8 => absurd ((o2 g).1 q8) (no9 g hg)))
      refine tz_if_eq (pc := 34) (tgt := 41) dX12_unifies_34 (by decide) (by omega) (fun h_34 => ?_) (fun h_34 => ?_)
      · refine tz_iconst (pc := 41) dX12_unifies_41 ?_
        exact tz_iret (pc := 42) (z := 1) dX12_unifies_42 rfl (Nat.le_of_ble_eq_true rfl) (Nat.le_of_ble_eq_true rfl) ⟨Nat.le_refl _, Nat.le_add_right _ _⟩ ⟨_, rfl, (by decide), ⟨⟨u31, by omega, f_31⟩, Or.inr ⟨⟨_, kg, kt⟩, u31.p, by rw [t_31 177 rfl, t_31 178 rfl, t_31 179 rfl, t_23 177 rfl, t_23 178 rfl, t_23 179 rfl]; exact s7, by rw [t_31 177 rfl, t_23 177 rfl]; exact kk, Or.inl ⟨rfl, nr9.cg (fun u v hu hv => (kk u v hu hv).2)⟩⟩⟩⟩
      · refine tz_iconst (pc := 37) dX12_unifies_37 ?_
        refine tz_goto (pc := 38) (tgt := 42) dX12_unifies_38 (by decide) ?_
        exact tz_iret (pc := 42) (z := 2) dX12_unifies_42 rfl (Nat.le_of_ble_eq_true rfl) (Nat.le_of_ble_eq_true rfl) ⟨Nat.le_refl _, Nat.le_add_right _ _⟩ ⟨_, rfl, (by decide), (absurd zz31 (by omega))⟩
  · refine tz_iconst (pc := 17) dX12_unifies_17 ?_
    refine tz_goto (pc := 18) (tgt := 42) dX12_unifies_18 (by decide) ?_
    exact tz_iret (pc := 42) (z := 0) dX12_unifies_42 rfl (Nat.le_of_ble_eq_true rfl) (Nat.le_of_ble_eq_true rfl) ⟨Nat.le_refl _, Nat.le_add_right _ _⟩ ⟨_, rfl, (by decide), ⟨⟨u7, by omega, f_7⟩, up_0 rfl ei i30 j7 (by omega)⟩⟩

end
section
/-! ===== classes of the class, as they are seen ===== -/
theorem UFp.b {V : Int → Prop} {p : Int → Int} (h : UFp V p) (hV : ∀ x, V x → 0 ≤ x ∧ x < 800) : ∃ rk : Int → Nat, (∀ x, V x → rk x < 800) ∧ ∀ x, V x → V (p x) ∧ (p x = x ∨ rk (p x) < rk x) := by
  obtain ⟨rk, h⟩ := h
  refine ⟨fun x => cnt (fun k => @decide (V k ∧ rk k < rk x) (Classical.propDecidable _)) 800, fun x hx => ?_, fun x hx => ⟨(h x hx).1, (h x hx).2.imp id (fun g => ?_)⟩⟩
  · have hb := hV x hx
    have := cnt_lt (p := fun _ => true) (q := fun k => @decide (V k ∧ rk k < rk x) (Classical.propDecidable _)) 800 (fun _ _ _ _ => rfl) ⟨x, ⟨hb.1, by omega⟩, rfl, @decide_eq_false _ (Classical.propDecidable _) (fun w => Nat.lt_irrefl _ w.2)⟩
    have e := cnt_n (p := fun _ => true) 800
    exact Nat.lt_of_lt_of_le this e
  · have hb := hV _ (h x hx).1
    refine cnt_lt 800 (fun k _ _ q => ?_) ⟨p x, ⟨hb.1, by omega⟩, @decide_eq_true _ (Classical.propDecidable _) ⟨(h x hx).1, g⟩, @decide_eq_false _ (Classical.propDecidable _) (fun w => Nat.lt_irrefl _ w.2)⟩
    have q' := @of_decide_eq_true _ (Classical.propDecidable _) q
    exact @decide_eq_true _ (Classical.propDecidable _) ⟨q'.1, Nat.lt_trans q'.2 g⟩
theorem VN.b {c m x : Int} (hc : c = 400 ∨ c = 800) (h : VN c m x) : 0 ≤ x ∧ x < 800 := by
  have := h.1
  omega
theorem nd.vn {b c m x : Int} (hb : (b = 0 ∧ c = 400) ∨ (b = 400 ∧ c = 800)) (hm : 0 ≤ m ∧ m ≤ 400) : nd b m x ↔ VN c m x := by
  unfold nd VN
  rcases hb with ⟨rfl, rfl⟩ | ⟨rfl, rfl⟩ <;> (constructor <;> intro h <;> omega)
theorem tm_m {x : Int} (h : 0 ≤ x ∧ x < 800) : tm x = x % 400 ∧ sd x = x / 400 * 400 := by
  unfold tm sd
  split <;> omega
/-- parents, what is shown, the least variable, uses, what it is made to, of a node that may sleep -/
def upV (J : zJ) (x : Int) : Int := if J 146 x = J 145 10 then J 147 x else x
def usV (J : zJ) (x : Int) : Int := if J 146 x = J 145 10 then J 148 x else if J 7 (tm x) < 0 then -1 else x
def ulV (J : zJ) (x : Int) : Int := if J 146 x = J 145 10 then -1 - J 7 (tm (J 149 x)) else -1 - J 7 (tm x)
def uuV (J : zJ) (x : Int) : Int := if J 146 x = J 145 10 then J 154 x else -1
def uoV (J : zJ) (x : Int) : Int := if J 146 x = J 145 10 then J 150 x else -1
def vE (c m : Int) (J' J : zJ) : Prop := UFp (VN c m) (upV J') ∧ (∀ x, VN c m x → tp (upV J') x = tp (upV J) x) ∧ ∀ x, VN c m x → usV J' x = usV J x ∧ ulV J' x = ulV J x ∧ uuV J' x = uuV J x ∧ uoV J' x = uoV J x
theorem vE.rf {c m : Int} {J : zJ} (U : UFp (VN c m) (upV J)) : vE c m J J := ⟨U, fun _ _ => rfl, fun _ _ => ⟨rfl, rfl, rfl, rfl⟩⟩
theorem vE.tr {c m : Int} {J3 J2 J1 : zJ} (h : vE c m J3 J2) (g : vE c m J2 J1) : vE c m J3 J1 := ⟨h.1, fun x hx => (h.2.1 x hx).trans (g.2.1 x hx), fun x hx => by
  obtain ⟨a1, a2, a3, a4⟩ := h.2.2 x hx
  obtain ⟨b1, b2, b3, b4⟩ := g.2.2 x hx
  exact ⟨a1.trans b1, a2.trans b2, a3.trans b3, a4.trans b4⟩⟩
/-- all that is seen is the same -/
def vS (J' J : zJ) : Prop := ∀ x, upV J' x = upV J x ∧ usV J' x = usV J x ∧ ulV J' x = ulV J x ∧ uuV J' x = uuV J x ∧ uoV J' x = uoV J x
theorem vS.of {J' J : zJ} (e0 : J' 145 10 = J 145 10) (e7 : J' 7 = J 7) (e : ∀ c, 146 ≤ c ∧ c ≤ 150 ∨ c = 154 → J' c = J c) : vS J' J := fun x => by
  unfold upV usV ulV uuV uoV
  rw [e0, e7, e 146 (by omega), e 147 (by omega), e 148 (by omega), e 149 (by omega), e 150 (by omega), e 154 (by omega)]
  exact ⟨rfl, rfl, rfl, rfl, rfl⟩
theorem vS.p {J' J : zJ} (h : vS J' J) : upV J' = upV J := funext fun x => (h x).1
theorem vS.e {c m : Int} {J' J : zJ} (h : vS J' J) (U : UFp (VN c m) (upV J)) : vE c m J' J := ⟨by rw [h.p]; exact U, fun _ _ => by rw [h.p], fun x _ => (h x).2⟩
theorem vwake {J : zJ} {x sv : Int} (hn : ¬ J 146 x = J 145 10) (hs : (J 7 (tm x) < 0 ∧ sv = -1) ∨ (¬ J 7 (tm x) < 0 ∧ sv = x)) : vS (zup (zup (zup (zup (zup (zup J 146 x (J 145 10)) 147 x x) 148 x sv) 149 x x) 150 x (-1)) 154 x (-1)) J := fun k => by
  have e6 : ∀ k, zup (zup (zup (zup (zup (zup J 146 x (J 145 10)) 147 x x) 148 x sv) 149 x x) 150 x (-1)) 154 x (-1) 146 k = if k = x then J 145 10 else J 146 k := fun k => rfl
  have e7 : ∀ k, zup (zup (zup (zup (zup (zup J 146 x (J 145 10)) 147 x x) 148 x sv) 149 x x) 150 x (-1)) 154 x (-1) 147 k = if k = x then x else J 147 k := fun k => rfl
  have e8 : ∀ k, zup (zup (zup (zup (zup (zup J 146 x (J 145 10)) 147 x x) 148 x sv) 149 x x) 150 x (-1)) 154 x (-1) 148 k = if k = x then sv else J 148 k := fun k => rfl
  have e9 : ∀ k, zup (zup (zup (zup (zup (zup J 146 x (J 145 10)) 147 x x) 148 x sv) 149 x x) 150 x (-1)) 154 x (-1) 149 k = if k = x then x else J 149 k := fun k => rfl
  have e5 : ∀ k, zup (zup (zup (zup (zup (zup J 146 x (J 145 10)) 147 x x) 148 x sv) 149 x x) 150 x (-1)) 154 x (-1) 150 k = if k = x then -1 else J 150 k := fun k => rfl
  have e4 : ∀ k, zup (zup (zup (zup (zup (zup J 146 x (J 145 10)) 147 x x) 148 x sv) 149 x x) 150 x (-1)) 154 x (-1) 154 k = if k = x then -1 else J 154 k := fun k => rfl
  have e0 : zup (zup (zup (zup (zup (zup J 146 x (J 145 10)) 147 x x) 148 x sv) 149 x x) 150 x (-1)) 154 x (-1) 145 10 = J 145 10 := rfl
  have eh : zup (zup (zup (zup (zup (zup J 146 x (J 145 10)) 147 x x) 148 x sv) 149 x x) 150 x (-1)) 154 x (-1) 7 = J 7 := rfl
  unfold upV usV ulV uuV uoV
  rw [e6, e7, e8, e9, e5, e4, e0, eh]
  by_cases e : k = x
  · subst e
    rw [if_pos rfl, if_pos rfl, if_pos rfl, if_pos rfl, if_pos rfl, if_pos rfl, if_neg hn, if_neg hn, if_neg hn, if_neg hn, if_neg hn, if_pos rfl, if_pos rfl, if_pos rfl, if_pos rfl, if_pos rfl]
    refine ⟨rfl, ?_, rfl, rfl, rfl⟩
    rcases hs with ⟨a, b⟩ | ⟨a, b⟩
    · rw [if_pos a]; exact b
    · rw [if_neg a]; exact b
  · rw [if_neg e, if_neg e, if_neg e, if_neg e, if_neg e, if_neg e]
    exact ⟨rfl, rfl, rfl, rfl, rfl⟩
/-- a way made shorter -/
theorem vshort {c m : Int} {J : zJ} {t : Int} (U : UFp (VN c m) (upV J)) (ht : VN c m t) (h1 : J 146 t = J 145 10) (h2 : J 146 (J 147 t) = J 145 10) : vE c m (zup J 147 t (J 147 (J 147 t))) J ∧ ∀ k, upV (zup J 147 t (J 147 (J 147 t))) k = if k = t then upV J (upV J t) else upV J k := by
  have e7 : ∀ k, zup J 147 t (J 147 (J 147 t)) 147 k = if k = t then J 147 (J 147 t) else J 147 k := fun k => rfl
  have e6 : zup J 147 t (J 147 (J 147 t)) 146 = J 146 := rfl
  have e0 : zup J 147 t (J 147 (J 147 t)) 145 = J 145 := rfl
  have ep : ∀ k, upV (zup J 147 t (J 147 (J 147 t))) k = if k = t then upV J (upV J t) else upV J k := fun k => by
    have q1 : upV J t = J 147 t := by unfold upV; rw [if_pos h1]
    have q2 : upV J (J 147 t) = J 147 (J 147 t) := by unfold upV; rw [if_pos h2]
    rw [q1, q2]
    unfold upV
    rw [e6, e0, e7]
    by_cases w : k = t
    · rw [if_pos w, if_pos w, w, if_pos h1]
    · rw [if_neg w, if_neg w]
  obtain ⟨a1, a2, _⟩ := U.short ht (fun k _ => ep k)
  exact ⟨⟨a1, a2, fun x _ => ⟨rfl, rfl, rfl, rfl⟩⟩, ep⟩
def RKb (c m : Int) (rk : Int → Nat) (p : Int → Int) : Prop := ∀ x, VN c m x → VN c m (p x) ∧ (p x = x ∨ rk (p x) < rk x)
theorem RKb.short {c m t : Int} {rk : Int → Nat} {p p' : Int → Int} (h : RKb c m rk p) (ht : VN c m t) (e : ∀ k, p' k = if k = t then p (p t) else p k) : RKb c m rk p' := fun x hx => by
  rw [e]
  by_cases w : x = t
  · rw [if_pos w, w]
    obtain ⟨a, b⟩ := h t ht
    obtain ⟨a2, b2⟩ := h _ a
    refine ⟨a2, ?_⟩
    rcases b with b | b
    · exact Or.inl (by rw [b, b])
    · rcases b2 with b2 | b2
      · exact Or.inr (by rw [b2]; exact b)
      · exact Or.inr (by omega)
  · rw [if_neg w]; exact h x hx
/-- two roots made one, as it is seen -/
def VLK (c m : Int) (J' J : zJ) (x y : Int) : Prop := (∀ k, VN c m k → upV J' k = if k = y then x else upV J k) ∧ (∀ k, VN c m k → usV J' k = if k = x then (if usV J x = -1 then usV J y else usV J x) else usV J k) ∧ (∀ k, VN c m k → ¬ k = x → ulV J' k = ulV J k) ∧ (usV J x = -1 → usV J y = -1 → ulV J' x = if ulV J y < ulV J x then ulV J y else ulV J x) ∧ ∀ k, VN c m k → uuV J' k = uuV J k ∧ uoV J' k = uoV J k
theorem vlk {c m : Int} {J J' : zJ} {x y v w : Int} (hx : VN c m x ∧ J 146 x = J 145 10) (hy : VN c m y ∧ J 146 y = J 145 10) (hxy : ¬ x = y) (hv : v = if J 148 x = -1 then J 148 y else J 148 x) (hw : J 148 x = -1 → J 148 y = -1 → (w = J 149 x ∧ ¬ -1 - J 7 (tm (J 149 y)) < -1 - J 7 (tm (J 149 x))) ∨ (w = J 149 y ∧ -1 - J 7 (tm (J 149 y)) < -1 - J 7 (tm (J 149 x)))) (e0 : J' 145 10 = J 145 10) (e7 : J' 7 = J 7) (e6 : J' 146 = J 146) (e5 : J' 150 = J 150) (e4 : J' 154 = J 154) (f7 : ∀ k, J' 147 k = if k = y then x else J 147 k) (f8 : ∀ k, J' 148 k = if k = x then v else J 148 k) (f9 : ∀ k, J' 149 k = if k = x then w else J 149 k) : VLK c m J' J x y := by
  refine ⟨fun k _ => ?_, fun k _ => ?_, fun k _ n => ?_, fun s1 s2 => ?_, fun k _ => ?_⟩
  · unfold upV
    rw [e6, e0, f7]
    by_cases q : k = y
    · rw [if_pos q, if_pos q, q, if_pos hy.2]
    · rw [if_neg q, if_neg q]
  · unfold usV
    rw [e6, e0, f8, e7, if_pos hx.2, if_pos hy.2]
    by_cases q : k = x
    · rw [if_pos q, if_pos q, q, if_pos hx.2]; exact hv
    · rw [if_neg q, if_neg q]
  · unfold ulV
    rw [e6, e0, f9, e7, if_neg n]
  · unfold usV at s1 s2
    rw [if_pos hx.2] at s1
    rw [if_pos hy.2] at s2
    have l1 : ulV J x = -1 - J 7 (tm (J 149 x)) := by unfold ulV; rw [if_pos hx.2]
    have l2 : ulV J y = -1 - J 7 (tm (J 149 y)) := by unfold ulV; rw [if_pos hy.2]
    have l3 : ulV J' x = -1 - J 7 (tm w) := by unfold ulV; rw [e6, e0, if_pos hx.2, f9, e7, if_pos rfl]
    rw [l1, l2, l3]
    rcases hw s1 s2 with ⟨q1, q2⟩ | ⟨q1, q2⟩
    · rw [if_neg q2, q1]
    · rw [if_pos q2, q1]
  · unfold uuV uoV
    rw [e6, e0, e5, e4]
    exact ⟨rfl, rfl⟩
end
