theorem CT.su4 {J' J : zJ} {m : Int} (h : CT J m) (hT : TS (J' 1 3) (J' 3)) (hW : cSW J') (hle : J 1 3 ≤ J' 1 3) (h3 : ∀ k, 0 ≤ k → k < J 1 3 → J' 3 k = J 3 k ∧ J' 4 k = J 4 k) (h16 : ∀ b, 0 ≤ b → b < 256 → J' 16 b = J 16 b) (hs : zSU J' J m) : CT J' m := by
  refine ⟨⟨h.1.1.congr hT hle (fun k a b => (h3 k a b).1) (fun t a b => (hs.1 t a b).1) (fun t a b i x y => ?_) (fun t a b => (hs.1 t a b).2.2.2.2.1), hW⟩, fun t h0 h1 => ⟨?_, cC1_su h hs h0 h1⟩, fun b x y => ?_⟩
  · have h2 := h.1.1.ar a b
    exact hs.2 (t * 3 + i) (by omega) (by omega)
  · obtain ⟨a, ⟨b1, b2⟩, ⟨c1, c2⟩, d⟩ := (h.2.1 t h0 h1).1
    obtain ⟨e7, e8, e10, e11, e12, e13, e14, e15⟩ := hs.1 t h0 h1
    have har := h.ar h0 h1
    have hg : ∀ i, 0 ≤ i → i < J 8 t → J' 9 (t * 3 + i) = J 9 (t * 3 + i) ∧ (0 ≤ J 9 (t * 3 + i) ∧ J 9 (t * 3 + i) < m) := fun i x y => by
      have := h.arg h0 h1 x y
      exact ⟨hs.2 _ (by omega) (by omega), by omega⟩
    refine ⟨by rw [e8, e7, arh_congr (fun k a b => (h3 k a b).1) (by omega)]; exact a, ⟨?_, by rw [e10, e12]; exact b2⟩, ⟨?_, by rw [e11, e10]; exact c2⟩, ?_⟩
    · rw [e10, zs3_su e8 (fun i x y => by rw [(hg i x y).1]; exact (hs.1 _ (hg i x y).2.1 (hg i x y).2.2).2.2.1)]
      exact b1
    · have e4 : (if J' 7 t < 0 then (1 : Int) else J' 4 (J' 7 t)) = if J 7 t < 0 then 1 else J 4 (J 7 t) := by
        rw [e7]
        split
        · rfl
        · exact (h3 _ (by omega) (by omega)).2
      rw [e11, e4, zw3_su e8 (fun i x y => by rw [(hg i x y).1]; exact (hs.1 _ (hg i x y).2.1 (hg i x y).2.2).2.2.2.1)]
      exact c1
    · rw [e13, zv3_su e7 e8 (fun i x y => by rw [(hg i x y).1]; exact (hs.1 _ (hg i x y).2.1 (hg i x y).2.2).2.2.2.2.2.1)]
      exact d
  · obtain ⟨p, q⟩ := h.2.2 b x y
    refine ⟨?_, fun t u v w => ?_⟩
    · rw [h16 b x y]
      rcases p with p | ⟨p1, p2⟩
      · exact Or.inl p
      · exact Or.inr ⟨p1, by rw [zbk_su h hs p1.1 p1.2]; exact p2⟩
    · rw [h16 b x y]
      rw [zbk_su h hs u v] at w
      exact q t u v w
theorem CT.su3 {J' J : zJ} {m : Int} (h : CT J m) (h1 : J' 1 3 = J 1 3) (h3 : ∀ k, 0 ≤ k → k < J 1 3 → J' 3 k = J 3 k ∧ J' 4 k = J 4 k) (h16 : ∀ b, 0 ≤ b → b < 256 → J' 16 b = J 16 b) (hs : zSU J' J m) : CT J' m := by
  refine h.su4 ⟨by rw [h1]; exact h.1.1.1.1, fun k a b => ?_⟩ (fun k a b => ?_) (by omega) h3 h16 hs
  · rw [h1] at b
    rw [(h3 k a b).1]
    exact h.1.1.1.2 k a b
  · rw [h1] at b
    rw [(h3 k a b).2]
    exact h.1.2 k a b
theorem CT.sym {J : zJ} {m x u w : Int} (h : CT J m) (h9 : J 1 3 < 10) (hu : 0 ≤ u ∧ u ≤ 3) (hw : 1 ≤ w ∧ w ≤ 9) : CT (zup (zup (zup (zup J 2 (J 1 3) x) 3 (J 1 3) u) 4 (J 1 3) w) 1 3 (J 1 3 + 1)) m := by
  have h0 := h.told
  have e1 : zup (zup (zup (zup J 2 (J 1 3) x) 3 (J 1 3) u) 4 (J 1 3) w) 1 3 (J 1 3 + 1) 1 3 = J 1 3 + 1 := zup_at
  have e3 : ∀ k, zup (zup (zup (zup J 2 (J 1 3) x) 3 (J 1 3) u) 4 (J 1 3) w) 1 3 (J 1 3 + 1) 3 k = if k = J 1 3 then u else J 3 k := fun k => rfl
  have e4 : ∀ k, zup (zup (zup (zup J 2 (J 1 3) x) 3 (J 1 3) u) 4 (J 1 3) w) 1 3 (J 1 3 + 1) 4 k = if k = J 1 3 then w else J 4 k := fun k => rfl
  refine h.su4 ⟨by rw [e1]; omega, fun k a b => ?_⟩ (fun k a b => ?_) (by rw [e1]; omega) (fun k a b => by rw [e3, e4, if_neg (by omega), if_neg (by omega)]; exact ⟨rfl, rfl⟩) (fun _ _ _ => rfl) ⟨fun _ _ _ => ⟨rfl, rfl, rfl, rfl, rfl, rfl, rfl, rfl⟩, fun _ _ _ => rfl⟩
  · rw [e1] at b
    rw [e3]
    split
    · exact hu
    · exact h.1.1.1.2 k a (by omega)
  · rw [e1] at b
    rw [e4]
    split
    · exact hw
    · exact h.1.2 k a (by omega)
/-- an empty table -/
theorem CT.none {J : zJ} (h1 : TS (J 1 3) (J 3)) (hW : cSW J) (hb : ∀ b, 0 ≤ b → b < 256 → J 16 b = -1) : CT J 0 := ⟨⟨⟨h1, by omega, fun t a b => by omega, fun s t a b => by omega⟩, hW⟩, fun t a b => by omega, fun b x y => ⟨Or.inl (hb b x y), fun t u v => by omega⟩⟩
theorem LI.c61 {f g : Int → Int} {m : Int} (h : LI f m) (e : ∀ k, 0 ≤ k → k < 61 → g k = f k) : LI g m := by
  obtain ⟨⟨a1, a4, a5, a6⟩, h2, h3, h4, h5⟩ := h
  unfold LI
  rw [e 1 (by omega) (by omega), e 4 (by omega) (by omega), e 5 (by omega) (by omega), e 6 (by omega) (by omega)]
  refine ⟨⟨a1, a4, a5, a6⟩, fun v a b => ?_, fun i a b => ?_, fun i a b => ?_, fun i a b => ?_⟩
  · rw [e (7 + v) (by omega) (by omega)]
    exact h2 v a b
  · rw [e (15 + i) (by omega) (by omega), e (23 + i) (by omega) (by omega)]
    exact h3 i a b
  · rw [e (31 + i) (by omega) (by omega)]
    exact h4 i a b
  · rw [e (43 + i) (by omega) (by omega), e (52 + i) (by omega) (by omega)]
    exact h5 i a b
