/-! ===== both sides: common ===== -/
theorem b_common {J J1 J2 : zJ} {n m m2 z1 z2 a b : Int} {R : Int → Int → Int} (c0 : CAL J (tbz J) n R) (hI : CI J m) (f : ∀ q, 164 ≤ q → q < 183 → J1 q = J q) (x : ((((0 ≤ a ∧ a < J 6 12) ∧ (0 ≤ b ∧ b < J 6 12)) ∧ (cpO 6 (tbz J) [] a b).2 = true ∧ ED (tbz J) n R (coO (cpO 6 (tbz J) [] a b).1 6 (tbz J) a b) J1 z1) ∨ (((0 ≤ a ∧ a < J 6 12) ∧ (0 ≤ b ∧ b < J 6 12)) ∧ (cpO 6 (tbz J) [] a b).2 = false ∧ z1 = -2 ∧ CAL J1 (tbz J) n R) ∨ (¬ ((0 ≤ a ∧ a < J 6 12) ∧ (0 ≤ b ∧ b < J 6 12)) ∧ z1 = -1 ∧ CAL J1 (tbz J) n R))) (y : ((((0 ≤ a ∧ a < J1 165 0) ∧ (0 ≤ b ∧ b < J1 165 0)) ∧ MCO (tbz J1) n R a b J2 z2) ∨ (¬ ((0 ≤ a ∧ a < J1 165 0) ∧ (0 ≤ b ∧ b < J1 165 0)) ∧ z2 = -1 ∧ MBT J2 (tbz J1) ∧ MUr J2 n R))) : BO J1 J2 := by
  obtain ⟨E13, E6, E39, E9, E26, E40, Eb, Ea, Em⟩ := al_eq c0 hI
  rw [tbz_hi f] at y
  rw [f 165 (by decide) (by decide)] at y
  rw [E6] at x
  rcases x with ⟨x0, x1, x2⟩ | ⟨x0, x1, x2, x3⟩ | ⟨x0, x2, x3⟩ <;> rcases y with ⟨y0, ⟨y1, y2⟩ | ⟨y1, y2, y3, y4⟩⟩ | ⟨y0, y2, y3, y4⟩
  · exact (ed_bo x2 y2).2
  · rw [x1] at y1; cases y1
  · exact absurd x0 y0
  · rw [x1] at y1; cases y1
  · exact ⟨_, _, _, x3, y3, y4⟩
  · exact absurd x0 y0
  · exact absurd y0 x0
  · exact absurd y0 x0
  · exact ⟨_, _, _, x3, y3, y4⟩
