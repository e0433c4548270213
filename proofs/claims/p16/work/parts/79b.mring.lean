/-! ===== rings ===== -/
def TP (f : Int → Int) (j : Int) : Prop := ∀ i v u, (0 ≤ i ∧ i < j) → (0 ≤ v ∧ v < 8) → (0 ≤ u ∧ u < 8) → bt (f v) i → bt (f i) u → bt (f v) u
def EX (f2 f1 : Int → Int) (j i : Int) : Prop := ∀ v u, (0 ≤ v ∧ v < 8) → (bt (f2 v) u ↔ bt (f1 v) u ∨ (v < i ∧ bt (f1 v) j ∧ bt (f1 j) u))
theorem EX.row {f2 f1 : Int → Int} {j i u : Int} (h : EX f2 f1 j i) (hj : 0 ≤ j ∧ j < 8) : bt (f2 j) u ↔ bt (f1 j) u := by
  rw [h j u hj]
  exact ⟨fun q => q.elim id (fun w => w.2.2), Or.inl⟩
theorem EX.me {f2 f1 : Int → Int} {j i u : Int} (h : EX f2 f1 j i) (hi : 0 ≤ i ∧ i < 8) : bt (f2 i) u ↔ bt (f1 i) u := by
  rw [h i u hi]
  exact ⟨fun q => q.elim id (fun w => by omega), Or.inl⟩
theorem EX.st {f3 f2 f1 : Int → Int} {j i : Int} (h : EX f2 f1 j i) (hj : 0 ≤ j ∧ j < 8) (hi : 0 ≤ i ∧ i < 8) (h3 : ∀ v, ¬ v = i → f3 v = f2 v) (hc : (bt (f2 i) j ∧ f3 i = zor (f2 i) (f2 j)) ∨ (¬ bt (f2 i) j ∧ f3 i = f2 i)) : EX f3 f1 j (i + 1) := fun v u hv => by
  by_cases e : v = i
  · subst e
    rcases hc with ⟨c1, c2⟩ | ⟨c1, c2⟩
    · rw [c2, bt_or, h.me hi, h.row hj]
      have c3 := (h.me hi).1 c1
      exact ⟨fun q => q.imp id (fun w => ⟨by omega, c3, w⟩), fun q => q.imp id (fun w => w.2.2)⟩
    · rw [c2, h.me hi]
      exact ⟨Or.inl, fun q => q.elim id (fun w => absurd ((h.me hi).2 w.2.1) c1)⟩
  · rw [h3 v e, h v u hv]
    exact ⟨fun q => q.imp id (fun w => ⟨by omega, w.2⟩), fun q => q.imp id (fun w => ⟨by omega, w.2⟩)⟩
theorem EX.z {f : Int → Int} {j : Int} : EX f f j 0 := fun v u hv => ⟨Or.inl, fun q => q.elim id (fun w => by omega)⟩
theorem EX.e {f2 f1 : Int → Int} {j : Int} (h : EX f2 f1 j 8) (hj : 0 ≤ j ∧ j < 8) (p : TP f1 j) : TP f2 (j + 1) := fun i v u hi hv hu a c => by
  have i8 : 0 ≤ i ∧ i < 8 := by omega
  have goal : bt (f1 v) u ∨ (bt (f1 v) j ∧ bt (f1 j) u) → bt (f2 v) u := fun q => (h v u hv).2 (q.imp id (fun w => ⟨hv.2, w⟩))
  have a1 := (h v i hv).1 a
  have c1 := (h i u i8).1 c
  by_cases e : i = j
  · subst e
    have c2 : bt (f1 i) u := c1.elim id (fun w => w.2.2)
    exact goal (Or.inr ⟨a1.elim id (fun w => w.2.1), c2⟩)
  · have i9 : 0 ≤ i ∧ i < j := by omega
    rcases a1 with a1 | ⟨-, a1, a2⟩
    · rcases c1 with c1 | ⟨-, c1, c2⟩
      · exact goal (Or.inl (p i v u i9 hv hu a1 c1))
      · exact goal (Or.inr ⟨p i v j i9 hv hj a1 c1, c2⟩)
    · rcases c1 with c1 | ⟨-, c1, c2⟩
      · exact goal (Or.inr ⟨a1, p i j u i9 hj hu a2 c1⟩)
      · exact goal (Or.inr ⟨a1, c2⟩)
theorem EX.mo {f2 f1 : Int → Int} {j i v u : Int} (h : EX f2 f1 j i) (hv : 0 ≤ v ∧ v < 8) (q : bt (f1 v) u) : bt (f2 v) u := (h v u hv).2 (Or.inl q)
def NB (J : zJ) (f : Int → Int) (b d k : Int) : Prop := ∀ v, 0 ≤ v → v < k → ¬ J 175 v = -1 → ∀ u, Occ J b d (J 175 v) u → bt (f v) u
def NR (J : zJ) (b d t : Int) : Prop := ∃ (rk : Int → Nat) (S : Int → Prop), (∀ v, rk v ≤ 8) ∧ (∀ v, Occ J b d t v → S v) ∧ ∀ v, (0 ≤ v ∧ v < 8) → S v → ¬ J 175 v = -1 → ∀ u, Occ J b d (J 175 v) u → S u ∧ (¬ J 175 u = -1 → rk u < rk v)
theorem nr_mk {J : zJ} {b r d s m t S0 S W : Int} {f : Int → Int} (hM : MS J b r d s m) (hy : gOK (J 175) m) (h1 : NB J f b d 8) (hW : ∀ v, 0 ≤ v → v < 8 → ¬ J 175 v = -1 → bt W v) (hp : TP f 8) (h0 : ∀ v, Occ J b d t v → bt S0 v) (hS : ∀ u, bt S0 u → bt S u) (hN : ∀ v u, 0 ≤ v → v < 8 → bt S0 v → bt (f v) u → bt S u) (hR : ∀ v, 0 ≤ v → v < 8 → ¬ (bt S v ∧ bt W v ∧ bt (f v) v)) : NR J b d t := by
  refine ⟨fun v => cnt (fun k => decide (zand (zshr (f v) k) 1 = 1)) 8, fun v => bt S0 v ∨ ∃ w, (0 ≤ w ∧ w < 8) ∧ bt S0 w ∧ bt (f w) v, fun v => cnt_n 8, fun v o => Or.inl (h0 v o), fun v hv sv bv u o => ?_⟩
  have hb := hy v hv.1 hv.2
  have hu := o.rg hM (by omega)
  have fu := h1 v hv.1 hv.2 bv u o
  have su : bt S0 u ∨ ∃ w, (0 ≤ w ∧ w < 8) ∧ bt S0 w ∧ bt (f w) u := by
    rcases sv with sv | ⟨w, hw, w1, w2⟩
    · exact Or.inr ⟨v, hv, sv, fu⟩
    · exact Or.inr ⟨w, hw, w1, hp v w u hv hw hu w2 fu⟩
  refine ⟨su, fun bu => ?_⟩
  have s1 : bt S u := by
    rcases su with su | ⟨w, hw, w1, w2⟩
    · exact hS u su
    · exact hN w u hw.1 hw.2 w1 w2
  have nu : ¬ bt (f u) u := fun q => hR u hu.1 hu.2 ⟨s1, hW u hu.1 hu.2 bu, q⟩
  refine cnt_lt 8 (fun k a c g => decide_eq_true ?_) ⟨u, hu, decide_eq_true fu, decide_eq_false nu⟩
  have g1 : zand (zshr (f u) k) 1 = 1 := of_decide_eq_true g
  exact hp u v k hu hv ⟨a, by omega⟩ fu g1
theorem nb_s {J J1 : zJ} {b d k z : Int} (h : NB J (J1 176) b d k) (hz : ¬ J 175 k = -1 → ∀ u, Occ J b d (J 175 k) u → bt z u) : NB J (zup J1 176 k z 176) b d (k + 1) := fun v a c q u o => by
  have e : zup J1 176 k z 176 v = if v = k then z else J1 176 v := rfl
  rw [e]
  by_cases hv : v = k
  · subst hv
    rw [if_pos rfl]
    exact hz q u o
  · rw [if_neg hv]
    exact h v a (by omega) q u o
theorem wb_s {J : zJ} {k w x : Int} (h : ∀ v, 0 ≤ v → v < k → ¬ J 175 v = -1 → bt w v) (hk : ¬ J 175 k = -1 → bt x k) : ∀ v, 0 ≤ v → v < k + 1 → ¬ J 175 v = -1 → bt (zor w x) v := fun v a c q => by
  by_cases hv : v = k
  · subst hv
    exact bt_or.2 (Or.inr (hk q))
  · exact bt_or.2 (Or.inl (h v a (by omega) q))
theorem sn_s {f : Int → Int} {s0 sS k x : Int} (h : ∀ v u, 0 ≤ v → v < k → bt s0 v → bt (f v) u → bt sS u) (hx : ∀ u, bt sS u → bt x u) (hk : ∀ u, bt s0 k → bt (f k) u → bt x u) : ∀ v u, 0 ≤ v → v < k + 1 → bt s0 v → bt (f v) u → bt x u := fun v u a c p q => by
  by_cases hv : v = k
  · subst hv
    exact hk u p q
  · exact hx u (h v u a (by omega) p q)
theorem rg_s {f : Int → Int} {sS w k : Int} (h : ∀ v, 0 ≤ v → v < k → ¬ (bt sS v ∧ bt w v ∧ bt (f v) v)) (hk : ¬ (bt sS k ∧ bt w k ∧ bt (f k) k)) : ∀ v, 0 ≤ v → v < k + 1 → ¬ (bt sS v ∧ bt w v ∧ bt (f v) v) := fun v a c => by
  by_cases hv : v = k
  · subst hv
    exact hk
  · exact h v a (by omega)
theorem MS.c176 {J' J : zJ} {b r d s m : Int} (h : MS J b r d s m) (f : zOf (zbut [176]) J' J) : MS J' b r d s m := h.c1 f (by decide)
theorem occ_cg {J' J : zJ} {b d : Int} (e6 : J' 166 = J 166) (e7 : J' 167 = J 167) (e0 : J' 170 = J 170) : ∀ (k : Nat) (t v : Int), occ J' b d k t v ↔ occ J b d k t v
  | 0, _, _ => Iff.rfl
  | k + 1, t, v => by
    have em : mar J' b d t = mar J b d t := by unfold mar; rw [e6, e0]
    unfold occ
    rw [e6, e7, em]
    exact or_congr Iff.rfl ⟨fun ⟨i, a, c⟩ => ⟨i, a, (occ_cg e6 e7 e0 k _ v).1 c⟩, fun ⟨i, a, c⟩ => ⟨i, a, (occ_cg e6 e7 e0 k _ v).2 c⟩⟩
theorem Occ.cg {J' J : zJ} {b d t v : Int} (f : zOf (zbut [176]) J' J) (o : Occ J b d t v) : Occ J' b d t v := o.elim fun k o => ⟨k, (occ_cg (f 166 rfl) (f 167 rfl) (f 170 rfl) k t v).2 o⟩
