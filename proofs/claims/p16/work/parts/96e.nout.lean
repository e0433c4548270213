/-! ===== what becomes of a term on the machine, as the reference tells it ===== -/
/-- the reference has stopped, and why -/
def NSV (J : zJ) (v : Int) : Prop := (v = -3 ∧ ¬ J 164 21 = 0 ∧ J 164 34 ≤ 100) ∨ (v = -4 ∧ J 164 21 = 0 ∧ 100 < J 164 34)
def NGO (J : zJ) : Prop := J 164 21 = 0 ∧ J 164 34 ≤ 100
theorem NSV.n {J : zJ} {v : Int} (h : NSV J v) : ¬ NGO J := fun g => by
  rcases h with ⟨_, a, _⟩ | ⟨_, _, a⟩
  · exact a g.1
  · have := g.2
    omega
theorem NSV.e {J J' : zJ} {v : Int} (h : NSV J v) (e1 : J' 164 21 = J 164 21) (e2 : J' 164 34 = J 164 34) : NSV J' v := by
  unfold NSV
  rw [e1, e2]
  exact h
/-- the normal form of t, from S and σ steps on: J' and z, with at most B turns but for those of steps -/
def NOC (B : Int) (S : zJ) (σ t : Int) (J' : zJ) (z : Int) : Prop := (NGO J' ∧ 0 ≤ z ∧ ∃ n : Nat, (n : Int) ≤ B + (J' 164 34 - σ) * 2914 ∧ NRN n S σ t (tb0 J') (J' 164 34) z) ∨ ∃ (n : Nat) (Q : zJ × Int) (v : Int), NSV J' v ∧ (n : Int) ≤ B + (101 - σ) * 2914 ∧ NRS n S σ t Q v
/-- a frame's stage: s arguments are normal -/
def NSO (B : Int) (S : zJ) (σ t s : Int) (J1 : zJ) (a b c : Int) : Prop := (NGO J1 ∧ ∃ n : Nat, (n : Int) ≤ B + (J1 164 34 - σ) * 2914 ∧ ∀ K, nIT n ((S, σ), (t, 0, 0, 0, 0) :: K, -1) = ((tb0 J1, J1 164 34), (t, s, a, b, c) :: K, -1)) ∨ ∃ (n : Nat) (Q : zJ × Int) (v : Int), NSV J1 v ∧ (n : Int) ≤ B + (101 - σ) * 2914 ∧ ∀ K, nIT n ((S, σ), (t, 0, 0, 0, 0) :: K, -1) = (Q, [], v)
theorem nso_0 {J : zJ} {t : Int} (h : NGO J) : NSO 0 (tb0 J) (J 164 34) t 0 J 0 0 0 := Or.inl ⟨h, 0, by omega, fun _ => rfl⟩
theorem NSO.m {B B' σ t s a b c : Int} {S J1 : zJ} (h : NSO B S σ t s J1 a b c) (l : B ≤ B') : NSO B' S σ t s J1 a b c := by
  rcases h with ⟨g, n, p, q⟩ | ⟨n, Q, v, g, p, q⟩
  · exact Or.inl ⟨g, n, by omega, q⟩
  · exact Or.inr ⟨n, Q, v, g, by omega, q⟩
/-- one more argument -/
theorem nso_a {B B' σ t s a b c z : Int} {S J1 J2 : zJ} (h : NSO B S σ t s J1 a b c) (hs : s < mar (tb0 J1) 0 0 t) (h3 : s < 3) (ok : NGO J1 → NOC B' (tb0 J1) (J1 164 34) (tb0 J1 167 (3 * (0 + t) + s)) J2 z) (no : ¬ NGO J1 → J2 164 21 = J1 164 21 ∧ J2 164 34 = J1 164 34) (hB : 0 ≤ B') : NSO (B + B' + 2) S σ t (s + 1) J2 (if s = 0 then z else a) (if s = 1 then z else b) (if s = 2 then z else c) := by
  rcases h with ⟨g, n, p, q⟩ | ⟨n, Q, v, g, p, q⟩
  · have g2 := g.2
    rcases ok g with ⟨g', z0, n', p', r⟩ | ⟨n', Q, v, g', p', r⟩
    · refine Or.inl ⟨g', n + (1 + n' + 1), by omega, fun K => ?_⟩
      rw [nIT_add, q, nit_a hs h3 r z0]
    · refine Or.inr ⟨n + (1 + n'), Q, v, g', by omega, fun K => ?_⟩
      rw [nIT_add, q, nit_as hs r]
  · obtain ⟨e1, e2⟩ := no g.n
    exact Or.inr ⟨n, Q, v, g.e e1 e2, by omega, q⟩
/-- at once -/
theorem noc_v {J : zJ} {t : Int} (h : NGO J) (hv : tb0 J 166 (0 + t) < 0) (h0 : 0 ≤ t) : NOC 0 (tb0 J) (J 164 34) t J t := Or.inl ⟨h, h0, 0, by omega, nrn_v hv⟩
theorem noc_m {J J' : zJ} {t : Int} (h : NGO J') (hv : ¬ tb0 J 166 (0 + t) < 0) (e : ¬ mAt (tb0 J) t = tb0 J 165 40) (f : tb0 J' = sr (tb0 J) (mhO (tb0 J 165) (mAt (tb0 J) t))) (e4 : J' 164 34 = J 164 34) (h0 : 0 ≤ tb0 J 165 (41 + 2 * mAt (tb0 J) t + 1)) : NOC 0 (tb0 J) (J 164 34) t J' (tb0 J 165 (41 + 2 * mAt (tb0 J) t + 1)) := Or.inl ⟨h, h0, 0, by omega, by rw [f, e4]; exact nrn_m hv e⟩
/-- all arguments normal, the term made, no rule fits: J1 before it is made, J2 after, J3 with the memo told -/
theorem noc_n {B σ t s a b c z : Int} {S J1 J2 J3 : zJ} (hv : ¬ S 166 (0 + t) < 0) (e : mAt S t = S 165 40) (h : NSO B S σ t s J1 a b c) (g1 : NGO J1) (hs : ¬ s < mar (tb0 J1) 0 0 t) (g3 : NGO J3) (mk : (tb0 J2, z) = tmO (tb0 J1) (tb0 J1 166 (0 + t)) a b c) (g2 : J2 164 21 = 0) (nr : nFR (tb0 J2) z = tb0 J2 165 9) (f : tb0 J3 = sr (tb0 J2) (mgO (tb0 J2 165) t z)) (e4 : J3 164 34 = J1 164 34) (z0 : 0 ≤ z) : NOC (B + 1) S σ t J3 z := by
  rcases h with ⟨_, n, p, q⟩ | ⟨n, Q, v, g, _, _⟩
  · refine Or.inl ⟨g3, z0, n + 1, by omega, fun K => ?_⟩
    rw [nop_f hv e, nIT_add, q, nit_d hs, ← mk, nmd_n (M := (tb0 J2, z)) (show tb0 J2 164 21 = 0 from g2) nr, f, e4]
  · exact absurd g1 g.n
/-- all arguments normal, and the table is full when the term is made -/
theorem noc_f {B σ t s a b c z : Int} {S J1 J2 : zJ} (hv : ¬ S 166 (0 + t) < 0) (e : mAt S t = S 165 40) (h : NSO B S σ t s J1 a b c) (g1 : NGO J1) (hs : ¬ s < mar (tb0 J1) 0 0 t) (mk : ¬ (tmO (tb0 J1) (tb0 J1 166 (0 + t)) a b c).1 164 21 = 0) (g2 : ¬ J2 164 21 = 0) (e4 : J2 164 34 = J1 164 34) : NOC (B + 1) S σ t J2 z := by
  rcases h with ⟨_, n, p, q⟩ | ⟨n, Q, v, g, _, _⟩
  · have q1 := g1.2
    refine Or.inr ⟨n + 1, ((tmO (tb0 J1) (tb0 J1 166 (0 + t)) a b c).1, J1 164 34), -3, Or.inl ⟨rfl, g2, by omega⟩, by omega, fun K => ?_⟩
    rw [nop_f hv e, nIT_add, q, nit_d hs, nmd_f mk]
  · exact absurd g1 g.n
/-- an argument has stopped it -/
theorem noc_s {B σ t s a b c z : Int} {S J1 J2 : zJ} (hv : ¬ S 166 (0 + t) < 0) (e : mAt S t = S 165 40) (h : NSO B S σ t s J1 a b c) (g1 : ¬ NGO J1) (e1 : J2 164 21 = J1 164 21) (e2 : J2 164 34 = J1 164 34) : NOC B S σ t J2 z := by
  rcases h with ⟨g, _⟩ | ⟨n, Q, v, g, p, q⟩
  · exact absurd g g1
  · exact Or.inr ⟨n, Q, v, g.e e1 e2, p, fun K => by rw [nop_f hv e, q]⟩
/-- a rule fits, and what comes of it has a normal form or stops: J2 with the term u made, J3 behind the rule's work, J4 with the memo told -/
theorem noc_r {B σ t s a b c u k r z : Int} {S J1 J2 J3 J4 R : zJ} (hv : ¬ S 166 (0 + t) < 0) (e : mAt S t = S 165 40) (h : NSO B S σ t s J1 a b c) (g1 : NGO J1) (hs : ¬ s < mar (tb0 J1) 0 0 t) (mk : (tb0 J2, u) = tmO (tb0 J1) (tb0 J1 166 (0 + t)) a b c) (g2 : J2 164 21 = 0) (hk : nFR (tb0 J2) u = k ∧ k < tb0 J2 165 9) (l : J1 164 34 < 100) (rt : nRT (tb0 J2) u k = (R, r)) (gR : R 164 21 = 0) (x : NOC 2912 R (J1 164 34 + 1) r J3 z) (ok : NGO J3 → tb0 J4 = sr (tb0 J3) (mgO (tb0 J3 165) t z)) (e1 : J4 164 21 = J3 164 21) (e4 : J4 164 34 = J3 164 34) : NOC (B + 1) S σ t J4 z := by
  rcases h with ⟨_, n, p, q⟩ | ⟨n, Q, v, g, _, _⟩
  · rcases x with ⟨g3, z0, n', p', y⟩ | ⟨n', Q, v, g3, p', y⟩
    · refine Or.inl ⟨⟨e1.trans g3.1, by rw [e4]; exact g3.2⟩, z0, n + (1 + (n' + 1)), by omega, fun K => ?_⟩
      rw [nop_f hv e, nIT_add, q, nIT_add, nit_d hs, ← mk]
      rw [nmd_r (M := (tb0 J2, u)) (S' := tb0 J3) (σ' := J3 164 34) (z := z) (n := n') (show tb0 J2 164 21 = 0 from g2) hk.1 hk.2 (by omega) (by show (nRT (tb0 J2) u k).1 164 21 = 0; rw [rt]; exact gR) (by show NRN n' (nRT (tb0 J2) u k).1 _ (nRT (tb0 J2) u k).2 _ _ _; rw [rt]; exact y) z0]
      rw [ok g3, e4]
    · refine Or.inr ⟨n + (1 + n'), Q, v, g3.e e1 e4, by omega, fun K => ?_⟩
      rw [nop_f hv e, nIT_add, q, nIT_add, nit_d hs, ← mk]
      exact nmd_s (M := (tb0 J2, u)) (show tb0 J2 164 21 = 0 from g2) hk.1 hk.2 (by omega) (by show (nRT (tb0 J2) u k).1 164 21 = 0; rw [rt]; exact gR) (by show NRS n' (nRT (tb0 J2) u k).1 _ (nRT (tb0 J2) u k).2 _ _; rw [rt]; exact y)
  · exact absurd g1 g.n
