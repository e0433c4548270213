/-! ===== both sides: unify ===== -/
theorem b_unify {J J1 J2 : zJ} {n m m2 z1 z2 a b : Int} {R : Int → Int → Int} (c0 : CAL J (tbz J) n R) (hI : CI J m) (f : ∀ q, 164 ≤ q → q < 183 → J1 q = J q) {s0 : Int} (hM : MS J 0 0 0 s0 m2) (x : ((((0 ≤ a ∧ a < J 6 12) ∧ (0 ≤ b ∧ b < J 6 12)) ∧ UEX (tbz J) m a b ∧ NRQ (tbz J) m a b ∧ ∃ ρ bs, GSOL (tbz J) m a b ρ ∧ (∀ v, 0 ≤ v → v < 8 → (bt bs v ↔ Occ (tbz J) 0 0 a v ∨ Occ (tbz J) 0 0 b v)) ∧ ED (tbz J) n R (bnO ρ bs (tbz J) 8, 1) J1 z1) ∨ (((0 ≤ a ∧ a < J 6 12) ∧ (0 ≤ b ∧ b < J 6 12)) ∧ ¬ UEX (tbz J) m a b ∧ z1 = 0 ∧ CAL J1 (tbz J) n R) ∨ (((0 ≤ a ∧ a < J 6 12) ∧ (0 ≤ b ∧ b < J 6 12)) ∧ UEX (tbz J) m a b ∧ ¬ NRQ (tbz J) m a b ∧ z1 = 2 ∧ CAL J1 (tbz J) n R) ∨ (¬ ((0 ≤ a ∧ a < J 6 12) ∧ (0 ≤ b ∧ b < J 6 12)) ∧ z1 = -1 ∧ CAL J1 (tbz J) n R))) (y : ((((0 ≤ a ∧ a < J1 165 0) ∧ (0 ≤ b ∧ b < J1 165 0)) ∧ UEX (tbz J1) m2 a b ∧ NRQ (tbz J1) m2 a b ∧ ∃ ρ bs, GSOL (tbz J1) m2 a b ρ ∧ (∀ v, 0 ≤ v → v < 8 → (bt bs v ↔ Occ (tbz J1) 0 0 a v ∨ Occ (tbz J1) 0 0 b v)) ∧ MED (tbz J1) n R (bnO ρ bs (tbz J1) 8, 1) J2 z2) ∨ (((0 ≤ a ∧ a < J1 165 0) ∧ (0 ≤ b ∧ b < J1 165 0)) ∧ ¬ UEX (tbz J1) m2 a b ∧ z2 = 0 ∧ MBT J2 (tbz J1) ∧ MUr J2 n R) ∨ (((0 ≤ a ∧ a < J1 165 0) ∧ (0 ≤ b ∧ b < J1 165 0)) ∧ UEX (tbz J1) m2 a b ∧ ¬ NRQ (tbz J1) m2 a b ∧ z2 = 2 ∧ MBT J2 (tbz J1) ∧ MUr J2 n R) ∨ (¬ ((0 ≤ a ∧ a < J1 165 0) ∧ (0 ≤ b ∧ b < J1 165 0)) ∧ z2 = -1 ∧ MBT J2 (tbz J1) ∧ MUr J2 n R))) : z1 = z2 ∧ BO J1 J2 := by
  obtain ⟨E13, E6, E39, E9, E26, E40, Eb, Ea, Em⟩ := al_eq c0 hI
  rw [tbz_hi f] at y
  rw [f 165 (by decide) (by decide)] at y
  rw [E6] at x
  have hm2 : m2 = m := by rw [Em]; exact hM.2.2.2.2.1.symm
  subst hm2
  rcases x with ⟨x0, xu, xn, ρ1, b1, g1, h1, x2⟩ | ⟨x0, xu, x2, x3⟩ | ⟨x0, xu, xn, x2, x3⟩ | ⟨x0, x2, x3⟩ <;> rcases y with ⟨y0, yu, yn, ρ2, b2, g2, h2, y2⟩ | ⟨y0, yu, y2, y3, y4⟩ | ⟨y0, yu, yn, y2, y3, y4⟩ | ⟨y0, y2, y3, y4⟩
  · have s9 := (sol_eq g1 g2 xu (by have t := hM.told; omega) hM.2.2.2.2.1 (tbz_V hM) (tbz_u hM) (fun v p q => (h1 v p q).trans (h2 v p q).symm) (tbz_n hM (by omega) (by omega) h1) 8 (by decide)).1
    rw [s9] at x2
    exact ed_bo x2 y2
  · exact absurd xu yu
  · exact absurd xn yn
  · exact absurd x0 y0
  · exact absurd yu xu
  · exact ⟨x2.trans y2.symm, _, _, _, x3, y3, y4⟩
  · exact absurd yu xu
  · exact absurd x0 y0
  · exact absurd yn xn
  · exact absurd xu yu
  · exact ⟨x2.trans y2.symm, _, _, _, x3, y3, y4⟩
  · exact absurd x0 y0
  · exact absurd y0 x0
  · exact absurd y0 x0
  · exact absurd y0 x0
  · exact ⟨x2.trans y2.symm, _, _, _, x3, y3, y4⟩
