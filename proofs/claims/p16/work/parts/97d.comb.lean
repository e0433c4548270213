/-! ===== both sides: normal ===== -/
theorem b_normal {J J1 J2 : zJ} {n m m2 z1 z2 a : Int} {R : Int → Int → Int} (c0 : CAL J (tbz J) n R) (hI : CI J m) (f : ∀ q, 164 ≤ q → q < 183 → J1 q = J q) (x : (((0 ≤ a ∧ a < J 6 12) ∧ ((nFN (tbz J) 0 a).2.1 = [] → NRE (tbz J) n R (nFN (tbz J) 0 a) J1 z1)) ∨ (¬ (0 ≤ a ∧ a < J 6 12) ∧ z1 = -1 ∧ CAL J1 (tbz J) n R))) (y : (((0 ≤ a ∧ a < J1 165 0) ∧ MRE (tbz J1) n R (nFN (tbz J1) 0 a) J2 z2) ∨ (¬ (0 ≤ a ∧ a < J1 165 0) ∧ z2 = -1 ∧ MBT J2 (tbz J1) ∧ MUr J2 n R))) : z1 = z2 ∧ BO J1 J2 := by
  obtain ⟨E13, E6, E39, E9, E26, E40, Eb, Ea, Em⟩ := al_eq c0 hI
  rw [tbz_hi f] at y
  generalize nFN (tbz J) 0 a = c at x y
  rw [f 165 (by decide) (by decide)] at y
  rw [E6] at x
  rcases x with ⟨x0, x1⟩ | ⟨x0, x2, x3⟩ <;> rcases y with ⟨y0, yf, y1⟩ | ⟨y0, y2, y3, y4⟩
  · rcases x1 yf with ⟨p1, p2, p3⟩ | ⟨p1, p2, p3⟩ | ⟨p1, p2, p3⟩ <;> rcases y1 with ⟨q1, q2, ⟨q3, _⟩, q4⟩ | ⟨q1, q2, q3, q4⟩ | ⟨q1, q2, q3, q4⟩
    · exact ⟨p2.trans q2.symm, _, _, _, p3, q3, q4⟩
    · omega
    · omega
    · omega
    · exact ⟨p2.trans q2.symm, _, _, _, p3, q3, q4⟩
    · omega
    · omega
    · omega
    · exact ⟨p2.trans q2.symm, _, _, _, p3, q3, q4⟩
  · exact absurd x0 y0
  · exact absurd y0 x0
  · exact ⟨x2.trans y2.symm, _, _, _, x3, y3, y4⟩
