set_option maxHeartbeats 4000000 in
set_option maxRecDepth 100000 in
theorem m_term1R {l : Launch} {G : tb_G} (hl : l.stackTraces = false) (n : Nat) : ∀ (r9 : Nat) (J : zJ) (x : Int) (hr_x : -2147483648 ≤ x ∧ x < 2147483648) (s m : Int) (hM : MS J 800 126 10 s m) (hP : RSP J) (hu : J 164 21 = 0 ∨ 0 < m) (h44 : J 164 44 = s) (hx : 1 ≤ x ∧ x ≤ 7), ((7 - x).toNat) < r9 → tz_Ok l G M_X12_term1 (6 + 1 * r9) 0 0 [.ref 164, zi x] n J (zqi (fun z J' => ∃ m', MRT J' J s m m' ∧ (J' 164 43 = 0 → 0 ≤ z ∧ z < m'))) zN := by
  sorry
theorem m_term1 {l : Launch} {G : tb_G} (hl : l.stackTraces = false) (n : Nat) (J : zJ) (s m : Int) (hM : MS J 800 126 10 s m) (hP : RSP J) (hu : J 164 21 = 0 ∨ 0 < m) (h44 : J 164 44 = s) : tz_Ok l G M_X12_term1 14 0 0 [.ref 164, zi 1] n J (zqi (fun z J' => ∃ m', MRT J' J s m m' ∧ (J' 164 43 = 0 → 0 ≤ z ∧ z < m'))) zN := m_term1R hl n 8 J 1 (by decide) s m hM hP hu h44 (by decide) (by decide)
