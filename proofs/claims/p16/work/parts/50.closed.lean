def cOK (J : zJ) (m : Int) : Prop := ∀ v, 0 ≤ v → v < 8 → J 142 v = -1 ∨ J 142 v = -3 ∨ (0 ≤ J 142 v ∧ J 142 v < m)
theorem cOK.gx {X : List Nat} {J' J : zJ} {m m' : Int} (h : cOK J m) (g : GX X J' J m m') (hx : zbut (6 :: 7 :: 8 :: 9 :: 10 :: 11 :: 12 :: 13 :: 14 :: 15 :: 16 :: 17 :: X) 142 = true) : cOK J' m' := fun v a b => by
  rw [g.2.2.2.2 142 hx]
  have := h v a b
  have := g.1
  omega
theorem cOK.up {J : zJ} {m v z : Int} (h : cOK J m) (hz : z = -3 ∨ (0 ≤ z ∧ z < m)) : cOK (zup J 142 v z) m := fun u a b => by
  by_cases e : u = v
  · rw [e, zup_at]; omega
  · rw [zup_ne e]; exact h u a b
