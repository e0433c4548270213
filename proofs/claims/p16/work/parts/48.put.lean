theorem GR.lt {J' J : zJ} {m m' t a b c : Int} (g : GR J' J m m') (ht : 0 ≤ t ∧ t < m) (ha : 0 < J 8 t → a < m') (hb : 1 < J 8 t → b < m') (hc : 2 < J 8 t → c < m') : ltA (arh (J' 3) (J' 7 t)) a b c m' := by
  have h1 := (g.2.1.2.1 t ht.1 (by have := g.1; omega)).1.1
  rw [← h1, (g.2.2.2.1.1 t ht.1 ht.2).2.1]
  exact ⟨ha, hb, hc⟩
