/-! ===== a rule's step in the reference ===== -/
theorem tb0_f34 {J : zJ} {q x : Int} (h : ¬ q = 9 ∧ ¬ q = 21) : tb0 (zup J 164 q x) = tb0 J := by
  funext c k
  by_cases h4 : c = 164
  · subst h4
    rw [tb0_4, tb0_4]
    by_cases a : k = 9 ∨ k = 21
    · rw [if_pos a, if_pos a, zup_ne (by omega)]
    · rw [if_neg a, if_neg a]
  · unfold tb0
    have e : ∀ d, ¬ d = 164 → zup J 164 q x d = J d := fun d w => zup_nc w
    rw [if_neg h4, if_neg h4, e 165 (by decide), e 167 (by decide), e c h4]
theorem tb0_st {J : zJ} {x y : Int} : tb0 (zup (zup J 164 34 x) 165 62 y) = zup (tb0 J) 165 62 y := by
  rw [tb0_r5 (by decide), tb0_f34 (by decide)]
/-- what lessened answers for u from S2 and σ steps on, with all stages normal -/
def LES (S2 : zJ) (σ u : Int) (J' : zJ) (z : Int) : Prop :=
  (nFR S2 u = S2 165 9 ∧ tb0 J' = S2 ∧ J' 164 34 = σ ∧ J' 164 21 = 0 ∧ z = u) ∨ ∃ k, (nFR S2 u = k ∧ k < S2 165 9) ∧ ((σ = 100 ∧ J' 164 21 = 0 ∧ 100 < J' 164 34) ∨ (σ < 100 ∧ ¬ (nRT S2 u k).1 164 21 = 0 ∧ ¬ J' 164 21 = 0 ∧ J' 164 34 = σ + 1) ∨ (σ < 100 ∧ (nRT S2 u k).1 164 21 = 0 ∧ NOC 2912 (nRT S2 u k).1 (σ + 1) (nRT S2 u k).2 J' z))
/-- a term whose arguments are normal, made, lessened, told to the memo -/
theorem noc_l {B σ t s a b c u z : Int} {S J1 J2 J3 J4 : zJ} (hv : ¬ S 166 (0 + t) < 0) (e : mAt S t = S 165 40) (h : NSO B S σ t s J1 a b c) (g1 : NGO J1) (hs : ¬ s < mar (tb0 J1) 0 0 t) (mk : (tb0 J2, u) = tmO (tb0 J1) (tb0 J1 166 (0 + t)) a b c) (g2 : J2 164 21 = 0) (u0 : 0 ≤ u) (x : LES (tb0 J2) (J1 164 34) u J3 z) (ok : NGO J3 → tb0 J4 = sr (tb0 J3) (mgO (tb0 J3 165) t z)) (e1 : J4 164 21 = J3 164 21) (e4 : J4 164 34 = J3 164 34) : NOC (B + 1) S σ t J4 z := by
  have l1 := g1.2
  rcases x with ⟨n, f, f4, f2, zu⟩ | ⟨k, hk, y⟩
  · have g3 : NGO J3 := ⟨f2, by omega⟩
    have w := ok g3
    rw [f] at w
    exact noc_n hv e h g1 hs ⟨by rw [e1]; exact g3.1, by rw [e4]; exact g3.2⟩ (by rw [zu]; exact mk) g2 (by rw [zu]; exact n) w (by omega) (by omega)
  · rcases y with ⟨y1, y2, y3⟩ | ⟨y1, y2, y3, y4⟩ | ⟨y1, y2, y3⟩
    · exact noc_t hv e h g1 hs mk g2 hk y1 (by omega) (by omega)
    · exact noc_x hv e h g1 hs mk g2 hk y1 y2 (by omega) (by omega)
    · exact noc_r (R := (nRT (tb0 J2) u k).1) (r := (nRT (tb0 J2) u k).2) (J3 := J3) hv e h g1 hs mk g2 hk y1 rfl y2 y3 ok e1 e4
