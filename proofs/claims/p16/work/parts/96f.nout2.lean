/-! ===== the machine and the reference: too much, full, the memo ===== -/
/-- a rule fits, but the steps are used up -/
theorem noc_t {B σ t s a b c u k z : Int} {S J1 J2 J4 : zJ} (hv : ¬ S 166 (0 + t) < 0) (e : mAt S t = S 165 40) (h : NSO B S σ t s J1 a b c) (g1 : NGO J1) (hs : ¬ s < mar (tb0 J1) 0 0 t) (mk : (tb0 J2, u) = tmO (tb0 J1) (tb0 J1 166 (0 + t)) a b c) (g2 : J2 164 21 = 0) (hk : nFR (tb0 J2) u = k ∧ k < tb0 J2 165 9) (l : J1 164 34 = 100) (x1 : J4 164 21 = 0) (x2 : 100 < J4 164 34) : NOC (B + 1) S σ t J4 z := by
  rcases h with ⟨_, n, p, q⟩ | ⟨n, Q, v, g, _, _⟩
  · refine Or.inr ⟨n + (1 + 0), (tb0 J2, 101), -4, Or.inr ⟨rfl, x1, x2⟩, by omega, fun K => ?_⟩
    rw [nop_f hv e, nIT_add, q, nIT_add, nit_d hs, ← mk]
    exact nmd_t (M := (tb0 J2, u)) (show tb0 J2 164 21 = 0 from g2) hk.1 hk.2 (by omega)
  · exact absurd g1 g.n
/-- a rule fits, but its right side can't be held -/
theorem noc_x {B σ t s a b c u k z : Int} {S J1 J2 J4 : zJ} (hv : ¬ S 166 (0 + t) < 0) (e : mAt S t = S 165 40) (h : NSO B S σ t s J1 a b c) (g1 : NGO J1) (hs : ¬ s < mar (tb0 J1) 0 0 t) (mk : (tb0 J2, u) = tmO (tb0 J1) (tb0 J1 166 (0 + t)) a b c) (g2 : J2 164 21 = 0) (hk : nFR (tb0 J2) u = k ∧ k < tb0 J2 165 9) (l : J1 164 34 < 100) (rt : ¬ (nRT (tb0 J2) u k).1 164 21 = 0) (x1 : ¬ J4 164 21 = 0) (x2 : J4 164 34 = J1 164 34 + 1) : NOC (B + 1) S σ t J4 z := by
  rcases h with ⟨_, n, p, q⟩ | ⟨n, Q, v, g, _, _⟩
  · refine Or.inr ⟨n + (1 + 0), ((nRT (tb0 J2) u k).1, J1 164 34 + 1), -3, Or.inl ⟨rfl, x1, by omega⟩, by omega, fun K => ?_⟩
    rw [nop_f hv e, nIT_add, q, nIT_add, nit_d hs, ← mk]
    exact nmd_x (M := (tb0 J2, u)) (show tb0 J2 164 21 = 0 from g2) hk.1 hk.2 (by omega) rt
  · exact absurd g1 g.n
theorem NOC.m {B B' σ t z : Int} {S J : zJ} (h : NOC B S σ t J z) (l : B ≤ B') : NOC B' S σ t J z := by
  rcases h with ⟨g, z0, n, p, q⟩ | ⟨n, Q, v, g, p, q⟩
  · exact Or.inl ⟨g, z0, n, by omega, q⟩
  · exact Or.inr ⟨n, Q, v, g, by omega, q⟩
/-- the row alone is another -/
theorem tb0_row {J' J : zJ} (f : zOf (zbut [165]) J' J) : tb0 J' = sr (tb0 J) (tb0 J' 165) := by
  funext c k
  unfold sr
  by_cases h5 : c = 165
  · rw [if_pos h5, h5]
  · rw [if_neg h5]
    unfold tb0
    rw [f 164 rfl, f 167 rfl, if_neg h5, if_neg h5]
    by_cases h4 : c = 164
    · rw [if_pos h4, if_pos h4]
    · rw [if_neg h4, if_neg h4]
      by_cases h6 : c = 166 ∨ c = 168
      · rw [if_pos h6, if_pos h6]
        rcases h6 with h6 | h6
        · rw [h6, f 166 rfl]
        · rw [h6, f 168 rfl]
      · rw [if_neg h6, if_neg h6]
        by_cases h7 : c = 167
        · rw [if_pos h7, if_pos h7]
        · rw [if_neg h7, if_neg h7]
          by_cases h9 : c = 169 ∨ c = 170 ∨ c = 171
          · rw [if_pos h9, if_pos h9]
            rcases h9 with h9 | h9 | h9
            · rw [h9, f 169 rfl]
            · rw [h9, f 170 rfl]
            · rw [h9, f 171 rfl]
          · rw [if_neg h9, if_neg h9]
