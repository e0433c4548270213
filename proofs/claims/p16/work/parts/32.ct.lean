/-! ===== the class's table, said again after writes ===== -/
/-- the rows alike below m -/
def zSU (J' J : zJ) (m : Int) : Prop := (∀ t, 0 ≤ t → t < m → J' 7 t = J 7 t ∧ J' 8 t = J 8 t ∧ J' 10 t = J 10 t ∧ J' 11 t = J 11 t ∧ J' 12 t = J 12 t ∧ J' 13 t = J 13 t ∧ J' 14 t = J 14 t ∧ J' 15 t = J 15 t) ∧ ∀ k, 0 ≤ k → k < m * 3 → J' 9 k = J 9 k
theorem zSU.rf {J : zJ} {m : Int} : zSU J J m := ⟨fun _ _ _ => ⟨rfl, rfl, rfl, rfl, rfl, rfl, rfl, rfl⟩, fun _ _ _ => rfl⟩
theorem zSU.tr {J3 J2 J1 : zJ} {m : Int} (h : zSU J3 J2 m) (g : zSU J2 J1 m) : zSU J3 J1 m := by
  refine ⟨fun t a b => ?_, fun k a b => (h.2 k a b).trans (g.2 k a b)⟩
  obtain ⟨h1, h2, h3, h4, h5, h6, h7, h8⟩ := h.1 t a b
  obtain ⟨g1, g2, g3, g4, g5, g6, g7, g8⟩ := g.1 t a b
  exact ⟨h1.trans g1, h2.trans g2, h3.trans g3, h4.trans g4, h5.trans g5, h6.trans g6, h7.trans g7, h8.trans g8⟩
theorem zSU.cut {J' J : zJ} {m m' : Int} (h : zSU J' J m) (hm : m' ≤ m) : zSU J' J m' := ⟨fun t a b => h.1 t a (by omega), fun k a b => h.2 k a (by omega)⟩
theorem cTT.ar {J : zJ} {m t : Int} (h : cTT J m) (h0 : 0 ≤ t) (h1 : t < m) : 0 ≤ arh (J 3) (J 7 t) ∧ arh (J 3) (J 7 t) ≤ 3 := arh_rg h.1 (h.2.2.1 t h0 h1).1.2
theorem zbk_congr {J J' : zJ} {t : Int} (h7 : J' 7 t = J 7 t) (h8 : J' 8 t = J 8 t) (h9 : ∀ i, 0 ≤ i → i < J 8 t → J' 14 (J' 9 (t * 3 + i)) = J 14 (J 9 (t * 3 + i))) (h0 : 0 ≤ J 8 t) : zbk J' t = zbk J t := by
  unfold zbk
  rw [h8, zmx_congr (J 8 t).toNat h7 (fun i a b => h9 i a (by omega))]
theorem CT.arg {J : zJ} {m t i : Int} (h : CT J m) (h0 : 0 ≤ t) (h1 : t < m) (hi : 0 ≤ i) (hi2 : i < J 8 t) : (0 ≤ J 9 (t * 3 + i) ∧ J 9 (t * 3 + i) < t) ∧ J 12 (J 9 (t * 3 + i)) < J 12 t := (h.1.1.2.2.1 t h0 h1).2.2.1 i hi (by rw [← (h.2.1 t h0 h1).1.1]; exact hi2)
theorem CT.ar {J : zJ} {m t : Int} (h : CT J m) (h0 : 0 ≤ t) (h1 : t < m) : (0 ≤ J 8 t ∧ J 8 t ≤ 3) ∧ (J 7 t < 0 → J 8 t = 0) ∧ (-8 ≤ J 7 t ∧ J 7 t < J 1 3) := by
  have h2 := (h.2.1 t h0 h1).1.1
  have h3 := h.1.1.ar h0 h1
  rw [h2]
  refine ⟨h3, fun h4 => ?_, (h.1.1.2.2.1 t h0 h1).1⟩
  unfold arh
  rw [if_pos h4]
theorem CT.told {J : zJ} {m : Int} (h : CT J m) : (0 ≤ J 1 3 ∧ J 1 3 ≤ 10) ∧ (0 ≤ m ∧ m ≤ 400) := ⟨h.1.1.1.1, h.1.1.2.1⟩
/-- sizes, weights, depths, of a term that is there -/
theorem CT.nums {J : zJ} {m t : Int} (h : CT J m) (h0 : 0 ≤ t) (h1 : t < m) : (1 ≤ J 10 t ∧ J 10 t ≤ 364) ∧ (1 ≤ J 11 t ∧ J 11 t ≤ 3276) ∧ (1 ≤ J 12 t ∧ J 12 t ≤ 6) := by
  obtain ⟨-, ⟨-, a, b⟩, ⟨-, c, d⟩, -⟩ := (h.2.1 t h0 h1).1
  have e := zB_rg (J 12 t)
  have f := (h.1.1.2.2.1 t h0 h1).2.1
  omega
theorem zbk_su {J' J : zJ} {m t : Int} (h : CT J m) (hs : zSU J' J m) (h0 : 0 ≤ t) (h1 : t < m) : zbk J' t = zbk J t := by
  obtain ⟨e7, e8, -, -, -, -, -, -⟩ := hs.1 t h0 h1
  refine zbk_congr e7 e8 (fun i a b => ?_) (h.ar h0 h1).1.1
  have h2 := (h.ar h0 h1).1
  have h3 := h.arg h0 h1 a b
  rw [hs.2 (t * 3 + i) (by omega) (by omega)]
  exact (hs.1 _ h3.1.1 (by omega)).2.2.2.2.2.2.1
theorem zs3_su {J' J : zJ} {t : Int} (h8 : J' 8 t = J 8 t) (h : ∀ i, 0 ≤ i → i < J 8 t → J' 10 (J' 9 (t * 3 + i)) = J 10 (J 9 (t * 3 + i))) : zs3 J' t = zs3 J t := by
  unfold zs3
  rw [h8]
  by_cases h0 : 0 < J 8 t
  · rw [if_pos h0, if_pos h0, h 0 (by decide) h0]
    by_cases h1 : 1 < J 8 t
    · rw [if_pos h1, if_pos h1, h 1 (by decide) h1]
      by_cases h2 : 2 < J 8 t
      · rw [if_pos h2, if_pos h2, h 2 (by decide) h2]
      · rw [if_neg h2, if_neg h2]
    · rw [if_neg h1, if_neg h1, if_neg (by omega), if_neg (by omega)]
  · rw [if_neg h0, if_neg h0, if_neg (by omega), if_neg (by omega), if_neg (by omega), if_neg (by omega)]
theorem zw3_su {J' J : zJ} {t : Int} (h8 : J' 8 t = J 8 t) (h : ∀ i, 0 ≤ i → i < J 8 t → J' 11 (J' 9 (t * 3 + i)) = J 11 (J 9 (t * 3 + i))) : zw3 J' t = zw3 J t := by
  unfold zw3
  rw [h8]
  by_cases h0 : 0 < J 8 t
  · rw [if_pos h0, if_pos h0, h 0 (by decide) h0]
    by_cases h1 : 1 < J 8 t
    · rw [if_pos h1, if_pos h1, h 1 (by decide) h1]
      by_cases h2 : 2 < J 8 t
      · rw [if_pos h2, if_pos h2, h 2 (by decide) h2]
      · rw [if_neg h2, if_neg h2]
    · rw [if_neg h1, if_neg h1, if_neg (by omega), if_neg (by omega)]
  · rw [if_neg h0, if_neg h0, if_neg (by omega), if_neg (by omega), if_neg (by omega), if_neg (by omega)]
theorem zv3_su {J' J : zJ} {t : Int} (h7 : J' 7 t = J 7 t) (h8 : J' 8 t = J 8 t) (h : ∀ i, 0 ≤ i → i < J 8 t → J' 13 (J' 9 (t * 3 + i)) = J 13 (J 9 (t * 3 + i))) : zv3 J' t = zv3 J t := by
  have e0 : zv0 J' t = zv0 J t := by unfold zv0; rw [h7]
  unfold zv3
  rw [h8, e0]
  by_cases h0 : J 8 t ≤ 0
  · rw [if_pos h0, if_pos h0]
  · rw [if_neg h0, if_neg h0, h 0 (by decide) (by omega)]
    by_cases h1 : J 8 t ≤ 1
    · rw [if_pos h1, if_pos h1]
    · rw [if_neg h1, if_neg h1, h 1 (by decide) (by omega)]
      by_cases h2 : J 8 t ≤ 2
      · rw [if_pos h2, if_pos h2]
      · rw [if_neg h2, if_neg h2, h 2 (by decide) (by omega)]
theorem cR1_su {J' J : zJ} {m t : Int} (h : CT J m) (h3 : J' 3 = J 3) (h4 : J' 4 = J 4) (hs : zSU J' J m) (h0 : 0 ≤ t) (h1 : t < m) : cR1 J' t := by
  obtain ⟨a, ⟨b1, b2⟩, ⟨c1, c2⟩, d⟩ := (h.2.1 t h0 h1).1
  obtain ⟨e7, e8, e10, e11, e12, e13, e14, e15⟩ := hs.1 t h0 h1
  have har := (h.ar h0 h1).1
  have hg : ∀ i, 0 ≤ i → i < J 8 t → J' 9 (t * 3 + i) = J 9 (t * 3 + i) ∧ (0 ≤ J 9 (t * 3 + i) ∧ J 9 (t * 3 + i) < m) := fun i x y => by
    have := h.arg h0 h1 x y
    exact ⟨hs.2 _ (by omega) (by omega), by omega⟩
  refine ⟨by rw [e8, e7, h3]; exact a, ⟨?_, by rw [e10, e12]; exact b2⟩, ⟨?_, by rw [e11, e10]; exact c2⟩, ?_⟩
  · rw [e10, zs3_su e8 (fun i x y => by rw [(hg i x y).1]; exact (hs.1 _ (hg i x y).2.1 (hg i x y).2.2).2.2.1)]
    exact b1
  · rw [e11, e7, h4, zw3_su e8 (fun i x y => by rw [(hg i x y).1]; exact (hs.1 _ (hg i x y).2.1 (hg i x y).2.2).2.2.2.1)]
    exact c1
  · rw [e13, zv3_su e7 e8 (fun i x y => by rw [(hg i x y).1]; exact (hs.1 _ (hg i x y).2.1 (hg i x y).2.2).2.2.2.2.2.1)]
    exact d
theorem cC1_su {J' J : zJ} {m t : Int} (h : CT J m) (hs : zSU J' J m) (h0 : 0 ≤ t) (h1 : t < m) : cC1 J' t := by
  obtain ⟨a, b⟩ := (h.2.1 t h0 h1).2
  have e15 := (hs.1 t h0 h1).2.2.2.2.2.2.2
  refine ⟨?_, fun s x y z => ?_⟩
  · rw [e15]
    rcases a with a | ⟨a1, a2⟩
    · exact Or.inl a
    · refine Or.inr ⟨a1, ?_⟩
      rw [zbk_su h hs a1.1 (by omega), zbk_su h hs h0 h1]
      exact a2
  · rw [e15]
    rw [zbk_su h hs x (by omega), zbk_su h hs h0 h1] at z
    exact b s x y z
theorem cTT_su {J' J : zJ} {m : Int} (h : CT J m) (h1 : J' 1 = J 1) (h3 : J' 3 = J 3) (hs : zSU J' J m) : cTT J' m := by
  refine h.1.1.congr (by rw [h1, h3]; exact h.1.1.1) (by rw [h1]; exact Int.le_refl _) (fun k _ _ => by rw [h3]) (fun t a b => (hs.1 t a b).1) (fun t a b i x y => ?_) (fun t a b => (hs.1 t a b).2.2.2.2.1)
  have h2 := h.1.1.ar a b
  exact hs.2 (t * 3 + i) (by omega) (by omega)
theorem CT.su {J' J : zJ} {m : Int} (h : CT J m) (h1 : J' 1 = J 1) (h3 : J' 3 = J 3) (h4 : J' 4 = J 4) (h16 : J' 16 = J 16) (hs : zSU J' J m) : CT J' m := by
  refine ⟨⟨cTT_su h h1 h3 hs, by unfold cSW; rw [h1, h4]; exact h.1.2⟩, fun t a b => ⟨cR1_su h h3 h4 hs a b, cC1_su h hs a b⟩, fun b x y => ?_⟩
  obtain ⟨p, q⟩ := h.2.2 b x y
  refine ⟨?_, fun t u v w => ?_⟩
  · rw [h16]
    rcases p with p | ⟨p1, p2⟩
    · exact Or.inl p
    · exact Or.inr ⟨p1, by rw [zbk_su h hs p1.1 p1.2]; exact p2⟩
  · rw [h16]
    rw [zbk_su h hs u v] at w
    exact q t u v w
/-- the term of a head and arguments -/
def isT (J : zJ) (t h a b c : Int) : Prop := J 7 t = h ∧ (0 < arh (J 3) h → J 9 (t * 3 + 0) = a) ∧ (1 < arh (J 3) h → J 9 (t * 3 + 1) = b) ∧ (2 < arh (J 3) h → J 9 (t * 3 + 2) = c)
/-- how deep it would be -/
def dpT (J : zJ) (h a b c : Int) : Int := if arh (J 3) h ≤ 0 then 1 else if arh (J 3) h ≤ 1 then zmax 1 (J 12 a + 1) else if arh (J 3) h ≤ 2 then zmax (zmax 1 (J 12 a + 1)) (J 12 b + 1) else zmax (zmax (zmax 1 (J 12 a + 1)) (J 12 b + 1)) (J 12 c + 1)
