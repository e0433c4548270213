/-! ===== one term more in the class's table ===== -/
theorem zd3_spec {J : zJ} {t : Int} (ha : 0 ≤ J 8 t ∧ J 8 t ≤ 3) : 1 ≤ zd3 J t ∧ (∀ i, 0 ≤ i → i < J 8 t → J 12 (J 9 (t * 3 + i)) + 1 ≤ zd3 J t) ∧ (zd3 J t = 1 ∨ ∃ i, (0 ≤ i ∧ i < J 8 t) ∧ zd3 J t = J 12 (J 9 (t * 3 + i)) + 1) := by
  rcases (show J 8 t = 0 ∨ J 8 t = 1 ∨ J 8 t = 2 ∨ J 8 t = 3 by omega) with h | h | h | h
  · have e : zd3 J t = 1 := by simp [zd3, h]
    rw [e, h]
    exact ⟨by omega, fun i a b => by omega, Or.inl rfl⟩
  · have e : zd3 J t = zmax 1 (J 12 (J 9 (t * 3 + 0)) + 1) := by simp [zd3, h]
    have z1 := zmax_le 1 (J 12 (J 9 (t * 3 + 0)) + 1)
    rw [e, h]
    refine ⟨by omega, fun i a b => ?_, ?_⟩
    · rw [show i = 0 by omega]
      exact z1.1.2
    · rcases z1.2 with g | g
      · exact Or.inl g
      · exact Or.inr ⟨0, by decide, g⟩
  · have e : zd3 J t = zmax (zmax 1 (J 12 (J 9 (t * 3 + 0)) + 1)) (J 12 (J 9 (t * 3 + 1)) + 1) := by simp [zd3, h]
    have z1 := zmax_le 1 (J 12 (J 9 (t * 3 + 0)) + 1)
    have z2 := zmax_le (zmax 1 (J 12 (J 9 (t * 3 + 0)) + 1)) (J 12 (J 9 (t * 3 + 1)) + 1)
    rw [e, h]
    refine ⟨by omega, fun i a b => ?_, ?_⟩
    · rcases (show i = 0 ∨ i = 1 by omega) with rfl | rfl <;> omega
    · rcases z2.2 with g | g
      · rcases z1.2 with g1 | g1
        · exact Or.inl (g.trans g1)
        · exact Or.inr ⟨0, by decide, g.trans g1⟩
      · exact Or.inr ⟨1, by decide, g⟩
  · have e : zd3 J t = zmax (zmax (zmax 1 (J 12 (J 9 (t * 3 + 0)) + 1)) (J 12 (J 9 (t * 3 + 1)) + 1)) (J 12 (J 9 (t * 3 + 2)) + 1) := by simp [zd3, h]
    have z1 := zmax_le 1 (J 12 (J 9 (t * 3 + 0)) + 1)
    have z2 := zmax_le (zmax 1 (J 12 (J 9 (t * 3 + 0)) + 1)) (J 12 (J 9 (t * 3 + 1)) + 1)
    have z3 := zmax_le (zmax (zmax 1 (J 12 (J 9 (t * 3 + 0)) + 1)) (J 12 (J 9 (t * 3 + 1)) + 1)) (J 12 (J 9 (t * 3 + 2)) + 1)
    rw [e, h]
    refine ⟨by omega, fun i a b => ?_, ?_⟩
    · rcases (show i = 0 ∨ i = 1 ∨ i = 2 by omega) with rfl | rfl | rfl <;> omega
    · rcases z3.2 with g | g
      · rcases z2.2 with g2 | g2
        · rcases z1.2 with g1 | g1
          · exact Or.inl (g.trans (g2.trans g1))
          · exact Or.inr ⟨0, by decide, g.trans (g2.trans g1)⟩
        · exact Or.inr ⟨1, by decide, g.trans g2⟩
      · exact Or.inr ⟨2, by decide, g⟩
theorem zs3_bd {J : zJ} {t Z : Int} (hZ : 1 ≤ Z) (h : ∀ i, 0 ≤ i → i < J 8 t → 0 ≤ J 10 (J 9 (t * 3 + i)) ∧ 3 * J 10 (J 9 (t * 3 + i)) + 1 ≤ Z) : 0 ≤ zs3 J t ∧ zs3 J t + 1 ≤ Z := by
  unfold zs3
  by_cases h0 : 0 < J 8 t
  · have g0 := h 0 (by decide) h0
    rw [if_pos h0]
    by_cases h1 : 1 < J 8 t
    · have g1 := h 1 (by decide) h1
      rw [if_pos h1]
      by_cases h2 : 2 < J 8 t
      · have g2 := h 2 (by decide) h2
        rw [if_pos h2]
        omega
      · rw [if_neg h2]
        omega
    · rw [if_neg h1, if_neg (by omega)]
      omega
  · rw [if_neg h0, if_neg (by omega), if_neg (by omega)]
    omega
theorem zw3_bd {J : zJ} {t : Int} (h : ∀ i, 0 ≤ i → i < J 8 t → 0 ≤ J 11 (J 9 (t * 3 + i)) ∧ J 11 (J 9 (t * 3 + i)) ≤ 9 * J 10 (J 9 (t * 3 + i))) : 0 ≤ zw3 J t ∧ zw3 J t ≤ 9 * zs3 J t := by
  unfold zw3 zs3
  by_cases h0 : 0 < J 8 t
  · have g0 := h 0 (by decide) h0
    rw [if_pos h0, if_pos h0]
    by_cases h1 : 1 < J 8 t
    · have g1 := h 1 (by decide) h1
      rw [if_pos h1, if_pos h1]
      by_cases h2 : 2 < J 8 t
      · have g2 := h 2 (by decide) h2
        rw [if_pos h2, if_pos h2]
        omega
      · rw [if_neg h2, if_neg h2]
        omega
    · rw [if_neg h1, if_neg h1, if_neg (by omega), if_neg (by omega)]
      omega
  · rw [if_neg h0, if_neg h0, if_neg (by omega), if_neg (by omega), if_neg (by omega), if_neg (by omega)]
    omega
theorem CT.push {J J' : zJ} {m h B : Int} (C : CT J m) (hm : m < 400) (e1 : J' 1 = J 1) (e3 : J' 3 = J 3) (e4 : J' 4 = J 4) (hs : zSU J' J m) (hh : -8 ≤ h ∧ h < J 1 3)
    (g7 : J' 7 m = h) (g8 : J' 8 m = arh (J 3) h) (g9 : ∀ i, 0 ≤ i → i < arh (J 3) h → 0 ≤ J' 9 (m * 3 + i) ∧ J' 9 (m * 3 + i) < m)
    (g10 : J' 10 m = 1 + zs3 J' m) (g11 : J' 11 m = (if h < 0 then 1 else J 4 h) + zw3 J' m) (g12 : J' 12 m = zd3 J' m) (hd : zd3 J' m ≤ 6) (g13 : J' 13 m = zv3 J' m)
    (g15 : J' 15 m = J 16 B) (gB : B = zbk J' m) (g16 : J' 16 B = m) (g16' : ∀ b, ¬ b = B → J' 16 b = J 16 b)
    (NS : ∀ s, 0 ≤ s → s < m → ¬ TU (J' 3) (J' 7) (fun t i => J' 9 (t * 3 + i)) s m) : CT J' (m + 1) := by
  have hm0 := C.told.2
  have ha : 0 ≤ J' 8 m ∧ J' 8 m ≤ 3 := by rw [g8]; exact arh_rg C.1.1.1 hh.2
  obtain ⟨d1, d2, d3⟩ := zd3_spec ha
  have hB := zbk_rg J' m
  have hk : ∀ t, 0 ≤ t → t < m → zbk J' t = zbk J t := fun t a b => zbk_su C hs a b
  have hcb := C.2.2 B (by omega) (by omega)
  have eqar : arh (J' 3) (J' 7 m) = J' 8 m := by rw [e3, g7, g8]
  have hn : ∀ i, 0 ≤ i → i < J' 8 m → (0 ≤ J' 9 (m * 3 + i) ∧ J' 9 (m * 3 + i) < m) ∧ (1 ≤ J' 10 (J' 9 (m * 3 + i)) ∧ J' 10 (J' 9 (m * 3 + i)) ≤ zB (J' 12 (J' 9 (m * 3 + i)))) ∧ (1 ≤ J' 11 (J' 9 (m * 3 + i)) ∧ J' 11 (J' 9 (m * 3 + i)) ≤ 9 * J' 10 (J' 9 (m * 3 + i))) ∧ (1 ≤ J' 12 (J' 9 (m * 3 + i)) ∧ J' 12 (J' 9 (m * 3 + i)) ≤ 6) := fun i a b => by
    have q := g9 i a (by rw [← g8]; exact b)
    obtain ⟨-, ⟨-, x1, x2⟩, ⟨-, y1, y2⟩, -⟩ := cR1_su C e3 e4 hs q.1 q.2
    have z := (C.nums q.1 q.2).2.2
    have z2 := (hs.1 _ q.1 q.2).2.2.2.2.1
    exact ⟨q, ⟨x1, x2⟩, ⟨y1, y2⟩, by rw [z2]; exact z⟩
  have hsz := zs3_bd (J := J') (t := m) (Z := zB (zd3 J' m)) (zB_rg _).1 (fun i a b => by
    obtain ⟨-, p2, -, p4⟩ := hn i a b
    have := d2 i a b
    have := zB_step (d := zd3 J' m) (e := J' 12 (J' 9 (m * 3 + i))) (by omega) p4.1 hd
    omega)
  have hwt := zw3_bd (J := J') (t := m) (fun i a b => by
    obtain ⟨-, -, p3, -⟩ := hn i a b
    omega)
  have hw0 : 1 ≤ (if h < 0 then 1 else J 4 h) ∧ (if h < 0 then 1 else J 4 h) ≤ 9 := by
    split
    · omega
    · exact C.1.2 h (by omega) hh.2
  refine ⟨⟨?_, by unfold cSW; rw [e1, e4]; exact C.1.2⟩, fun t a b => ?_, fun b x y => ?_⟩
  · refine (show TT (J' 1 3) (J' 3) (m + 1) (J' 7) (fun t i => J' 9 (t * 3 + i)) (J' 12) from ?_)
    rw [e1]
    have base : TT (J 1 3) (J' 3) m (J 7) (fun t i => J 9 (t * 3 + i)) (J 12) := by rw [e3]; exact C.1.1
    refine base.push hm (fun t a b => (hs.1 t a b).1) (fun t a b i x y => ?_) (fun t a b => (hs.1 t a b).2.2.2.2.1) ?_ NS
    · rw [e3] at y
      have h2 := C.1.1.ar a b
      exact hs.2 (t * 3 + i) (by omega) (by omega)
    · refine ⟨by rw [g7]; exact hh, by rw [g12]; omega, fun i a b => ?_, ?_⟩
      · rw [eqar] at b
        exact ⟨(hn i a b).1, by rw [g12]; have := d2 i a b; show J' 12 (J' 9 (m * 3 + i)) < zd3 J' m; omega⟩
      · rw [g12]
        rcases d3 with d3 | ⟨i, p, q⟩
        · exact Or.inl d3
        · exact Or.inr ⟨i, by rw [eqar]; exact p, q⟩
  · by_cases e : t = m
    · subst e
      refine ⟨⟨by rw [g8, g7, e3], ⟨g10, by omega, by rw [g12]; omega⟩, ⟨by rw [g7, e4]; exact g11, by omega, by omega⟩, g13⟩, ?_, fun s p q r => ?_⟩
      · rw [g15]
        rcases hcb.1 with p | ⟨p1, p2⟩
        · exact Or.inl p
        · exact Or.inr ⟨p1, by rw [hk _ p1.1 p1.2, p2, gB]⟩
      · rw [g15]
        rw [hk s p q, ← gB] at r
        exact hcb.2 s p q r
    · exact ⟨cR1_su C e3 e4 hs a (by omega), cC1_su C hs a (by omega)⟩
  · by_cases e : b = B
    · subst e
      rw [cB1, g16]
      exact ⟨Or.inr ⟨by omega, gB.symm⟩, fun t p q r => by omega⟩
    · obtain ⟨p, q⟩ := C.2.2 b x y
      rw [cB1, g16' b e]
      refine ⟨?_, fun t u v w => ?_⟩
      · rcases p with p | ⟨p1, p2⟩
        · exact Or.inl p
        · exact Or.inr ⟨by omega, by rw [hk _ p1.1 p1.2]; exact p2⟩
      · by_cases e2 : t = m
        · subst e2
          exact absurd (w.symm.trans gB.symm) e
        · rw [hk t u (by omega)] at w
          exact q t u (by omega) w
