/-! ===== closing ===== -/
def OC (O : Int → Int → Prop) (J : zJ) (b d m0 : Int) : Prop := ∀ t, 0 ≤ t → t < m0 → (J 166 (b + t) < 0 → O t (-1 - J 166 (b + t))) ∧ ∀ i v, (0 ≤ i ∧ i < mar J b d t) → O (J 167 (3 * (b + t) + i)) v → O t v
def CR (O : Int → Int → Prop) (rk : Int → Nat) (S : Int → Prop) (J : zJ) (b d m0 : Int) : Prop := OC O J b d m0 ∧ gOK (J 175) m0 ∧ ∀ v, (0 ≤ v ∧ v < 8) → S v → ¬ J 175 v = -1 → ∀ u, O (J 175 v) u → S u ∧ (¬ J 175 u = -1 → rk u < rk v)
theorem CR.mg {O : Int → Int → Prop} {rk : Int → Nat} {S : Int → Prop} {J' J : zJ} {b r d s m m' m0 : Int} (h : CR O rk S J b d m0) (hm : m0 ≤ m) (g : MG [] [] (fun _ => false) J' J b r d s m m') : CR O rk S J' b d m0 := by
  have e5 : J' 175 = J 175 := g.2.2.1.2.2.2 175 rfl
  refine ⟨fun t a c => ?_, by rw [e5]; exact h.2.1, by rw [e5]; exact h.2.2⟩
  have h1 := h.1 t a c
  have hu := g.2.1 t a (by omega)
  have em := g.ar (t := t) ⟨a, by omega⟩ (g.2.2.1.2.2.2 170 rfl)
  rw [hu.1.1, em]
  refine ⟨h1.1, fun i v hi o => h1.2 i v hi ?_⟩
  have ha : mar J b d t ≤ 3 := by rw [← em]; exact (g.1.1.ar (t := t) ⟨a, by have := g.1.2; omega⟩).1.2
  rw [hu.2 i hi.1 (by omega)] at o
  exact o
