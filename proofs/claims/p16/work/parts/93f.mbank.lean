/-! ===== bank ===== -/
theorem MI.rd {J2 J0 J : zJ} {m : Int} (h : MI J m) (z : MZ J0 J) (g : RDf J2 (zup J0 164 19 0)) : MI J2 m ∧ (∀ c, c < 164 ∨ c = 173 → J2 c = J c) ∧ J2 164 19 = 0 := by
  obtain ⟨g1, g5, g6, g7, g9, g4⟩ := g
  have e4 : ∀ k, 9 ≤ k → k ≤ 18 → J2 164 k = J 164 k := fun k a b => by
    rw [g4 k (by simp [clF]; omega), zup_ne (by omega)]
    exact z.2 k a (by omega)
  have e5 : ∀ k, (k < 126 ∨ 189 ≤ k) → J2 165 k = J 165 k := fun k q => by
    rw [g5 k q]
    show J0 165 k = J 165 k
    rw [z.1 165 rfl]
  have e6 : ∀ k, k < 800 → J2 166 k = J 166 k ∧ J2 168 k = J 168 k := fun k q => by
    rw [(g6 k q).1, (g6 k q).2]
    show J0 166 k = J 166 k ∧ J0 168 k = J 168 k
    rw [z.1 166 rfl, z.1 168 rfl]
    exact ⟨rfl, rfl⟩
  have e7 : ∀ k, k < 2400 → J2 167 k = J 167 k := fun k q => by
    rw [g7 k q]
    show J0 167 k = J 167 k
    rw [z.1 167 rfl]
  have e0 : ∀ k, k < 10 → J2 170 k = J 170 k := fun k q => by
    rw [(g9 k q).2.1]
    show J0 170 k = J 170 k
    rw [z.1 170 rfl]
  have h19 : J2 164 19 = 0 := by
    rw [g4 19 (by decide)]
    exact zup_at
  refine ⟨⟨⟨h.1.1, (e4 15 (by decide) (by decide)).trans h.1.2.1, (e4 16 (by decide) (by decide)).trans h.1.2.2.1, (e4 17 (by decide) (by decide)).trans h.1.2.2.2.1, (e5 0 (by decide)).trans h.1.2.2.2.2.1, ?_⟩, h.2.1.of (fun k a b => e5 k (by omega)), ?_, by rw [h19]; decide, ?_⟩, fun c hc => ?_, h19⟩
  · rw [e4 9 (by decide) (by decide)]
    exact h.1.2.2.2.2.2.of (fun t x y => e6 _ (by omega)) (fun k x y => e7 k (by omega)) (fun k x y => e0 _ (by omega))
  · unfold MK
    rw [e4 10 (by decide) (by decide), e4 11 (by decide) (by decide)]
    exact h.2.2.1.of (Int.le_refl _) (fun i q x y u v => e5 _ (by omega))
  · rw [e4 14 (by decide) (by decide), e4 9 (by decide) (by decide), e4 12 (by decide) (by decide), e4 13 (by decide) (by decide)]
    exact h.2.2.2.2.imp id (fun ⟨mi, h1, h2, h3, h4⟩ => ⟨mi, h1.of (fun t x y => e6 _ (by omega)) (fun k x y => e7 k (by omega)) (fun k x y => e0 _ (by omega)), (e5 2709 (by decide)).trans h2, h3.of (fun q x y => e5 _ (by omega)), h4.of (show mi ≤ mi from Int.le_refl _) (fun i q x y u v => e5 _ (by omega))⟩)
  · rw [g1 c (zbut_lo (by decide) hc)]
    exact (zup_nc (by omega)).trans (z.lo c hc)
theorem MI.bank {J1 J_69 J2 : zJ} {s m m0 : Int} (h : MI J2 m0) (h19 : J2 164 19 = 0) (t : TB J2 s m) (v : MVD 800 0 J_69 J2) (f : zOf (zbut [169, 170, 171]) J1 (zup (zmv J_69 165 126 0 63) 164 9 (J2 164 44))) (e : ∀ q, 0 ≤ q → q < 10 → J1 170 q = J2 170 (10 + q)) : MI (zup (zup (zup J1 164 14 0) 164 11 0) 164 10 0) m := by
  obtain ⟨t1, t2, t3, t4, t5⟩ := t
  obtain ⟨v1, v6, v8, v7⟩ := v
  have e4 : ∀ k, (zup (zup (zup J1 164 14 0) 164 11 0) 164 10 0) 164 k = if k = 10 then 0 else if k = 11 then 0 else if k = 14 then 0 else if k = 9 then J2 164 44 else J2 164 k := fun k => by
    show (if k = 10 then 0 else if k = 11 then 0 else if k = 14 then 0 else J1 164 k) = _
    rw [f 164 rfl]
    show (if k = 10 then 0 else if k = 11 then 0 else if k = 14 then 0 else if k = 9 then J2 164 44 else J_69 164 k) = _
    rw [v1 164 rfl]
  have e5 : ∀ k, (zup (zup (zup J1 164 14 0) 164 11 0) 164 10 0) 165 k = if 0 ≤ k ∧ k < 0 + 63 then J2 165 (126 + (k - 0)) else J2 165 k := fun k => by
    show J1 165 k = _
    rw [f 165 rfl, show J2 165 = J_69 165 from (v1 165 rfl).symm]
    rfl
  have w6 : (zup (zup (zup J1 164 14 0) 164 11 0) 164 10 0) 166 = fcy (J2 166) 800 0 400 := (f 166 rfl).trans v6
  have w8 : (zup (zup (zup J1 164 14 0) 164 11 0) 164 10 0) 168 = fcy (J2 168) 800 0 400 := (f 168 rfl).trans v8
  have w7 : (zup (zup (zup J1 164 14 0) 164 11 0) 164 10 0) 167 = fcy (J2 167) (3 * 800) (3 * 0) 1200 := (f 167 rfl).trans v7
  have w0 : ∀ q, 0 ≤ q → q < 10 → (zup (zup (zup J1 164 14 0) 164 11 0) 164 10 0) 170 q = J2 170 (10 + q) := e
  generalize zup (zup (zup J1 164 14 0) 164 11 0) 164 10 0 = J9 at *
  have a5 : ∀ k, 0 ≤ k → k < 63 → J9 165 k = J2 165 (126 + k) := fun k a b => by
    rw [e5, if_pos (by omega)]
    congr 1
    omega
  have h10 : J9 164 10 = 0 := by rw [e4, if_pos rfl]
  have h11 : J9 164 11 = 0 := by rw [e4, if_neg (by decide), if_pos rfl]
  have h14 : J9 164 14 = 0 := by rw [e4, if_neg (by decide), if_neg (by decide), if_pos rfl]
  have h9 : J9 164 9 = s := by rw [e4, if_neg (by decide), if_neg (by decide), if_neg (by decide), if_pos rfl]; exact t3
  have d4 : ∀ k, ¬ k = 10 → ¬ k = 11 → ¬ k = 14 → ¬ k = 9 → J9 164 k = J2 164 k := fun k a b c d => by rw [e4, if_neg a, if_neg b, if_neg c, if_neg d]
  refine ⟨⟨h.1.1, (d4 15 (by decide) (by decide) (by decide) (by decide)).trans h.1.2.1, (d4 16 (by decide) (by decide) (by decide) (by decide)).trans h.1.2.2.1, (d4 17 (by decide) (by decide) (by decide) (by decide)).trans h.1.2.2.2.1, (a5 0 (by decide) (by decide)).trans t2, ?_⟩, t4.of (fun k a b => a5 k (by omega) (by omega)), ?_, ?_, Or.inl h14⟩
  · rw [h9]
    refine t1.mv (fun t x y => ⟨?_, ?_⟩) (fun k x y => ?_) (fun k x y => ?_)
    · rw [w6, fcy_in (by omega)]
    · rw [w8, fcy_in (by omega)]
    · rw [w7, fcy_in (by omega)]
    · rw [Int.zero_add]; exact w0 k x y
  · unfold MK
    rw [h10, h11]
    exact ⟨by decide, fun k x y => by omega⟩
  · rw [d4 19 (by decide) (by decide) (by decide) (by decide), h19]
    decide
