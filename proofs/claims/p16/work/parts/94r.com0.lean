/-! ===== what two terms have in common, as functions ===== -/
/-- where a couple stands; the list's length, if it doesn't -/
def cix : List (Int × Int) → Int → Int → Int
  | [], _, _ => 0
  | p :: L, s, t => if p.1 = s ∧ p.2 = t then 0 else 1 + cix L s t
theorem cix_ap : ∀ (L M : List (Int × Int)) (s t : Int), cix L s t < L.length → cix (L ++ M) s t = cix L s t
  | [], _, _, _, h => absurd h (by unfold cix; simp)
  | p :: L, M, s, t, h => by
    rw [List.cons_append]
    unfold cix at h ⊢
    rw [List.length_cons] at h
    by_cases q : p.1 = s ∧ p.2 = t
    · rw [if_pos q, if_pos q]
    · rw [if_neg q] at h ⊢
      rw [if_neg q, cix_ap L M s t (by omega)]
theorem cix_nw : ∀ (L M : List (Int × Int)) (s t : Int), ¬ cix L s t < L.length → cix (L ++ [(s, t)] ++ M) s t = cix L s t
  | [], M, s, t, _ => by
    show (if s = s ∧ t = t then (0 : Int) else _) = 0
    rw [if_pos ⟨rfl, rfl⟩]
  | p :: L, M, s, t, h => by
    rw [List.cons_append, List.cons_append]
    unfold cix at h ⊢
    rw [List.length_cons] at h
    by_cases q : p.1 = s ∧ p.2 = t
    · rw [if_pos q] at h; omega
    · rw [if_neg q] at h ⊢
      rw [if_neg q, cix_nw L M s t (by omega)]
theorem cix_mem : ∀ (L : List (Int × Int)) (s t : Int), cix L s t < L.length → (s, t) ∈ L
  | [], _, _, h => absurd h (by unfold cix; simp)
  | p :: L, s, t, h => by
    unfold cix at h
    rw [List.length_cons] at h
    by_cases q : p.1 = s ∧ p.2 = t
    · obtain ⟨a, b⟩ := p
      obtain ⟨rfl, rfl⟩ := q
      exact List.mem_cons_self
    · rw [if_neg q] at h
      exact List.mem_cons_of_mem _ (cix_mem L s t (by omega))
/-- the couples of two rows -/
def cLo (a b : Int → Int) : Int → List (Int × Int) → Prop
  | _, [] => True
  | o, p :: L => (a o = p.1 ∧ b o = p.2) ∧ cLo a b (o + 1) L
theorem cLo_ix {a b : Int → Int} : ∀ (L : List (Int × Int)) (o z s t : Int), cLo a b o L → o ≤ z → z < o + L.length → (a z = s ∧ b z = t) → (∀ i, o ≤ i → i < z → ¬ (a i = s ∧ b i = t)) → cix L s t = z - o
  | [], o, z, _, _, _, h1, h2, _, _ => by
    rw [List.length_nil] at h2
    omega
  | p :: L, o, z, s, t, h, h1, h2, h3, h4 => by
    obtain ⟨⟨ha, hb⟩, h⟩ := h
    rw [List.length_cons] at h2
    unfold cix
    by_cases e : z = o
    · subst e
      rw [if_pos (by omega)]
      omega
    · have := h4 o (by omega) (by omega)
      rw [if_neg (by omega), cLo_ix L (o + 1) z s t h (by omega) (by omega) h3 (fun i a b => h4 i (by omega) b)]
      omega
theorem cLo_no {a b : Int → Int} : ∀ (L : List (Int × Int)) (o s t : Int), cLo a b o L → (∀ i, o ≤ i → i < o + L.length → ¬ (a i = s ∧ b i = t)) → cix L s t = L.length
  | [], _, _, _, _, _ => rfl
  | p :: L, o, s, t, h, h4 => by
    obtain ⟨⟨ha, hb⟩, h⟩ := h
    rw [List.length_cons] at h4 ⊢
    unfold cix
    have := h4 o (by omega) (by omega)
    rw [if_neg (by omega), cLo_no L (o + 1) s t h (fun i a b => h4 i (by omega) (by omega))]
    omega
theorem cLo_cg {a b a' b' : Int → Int} : ∀ (L : List (Int × Int)) (o : Int), (∀ i, o ≤ i → i < o + L.length → a' i = a i ∧ b' i = b i) → cLo a b o L → cLo a' b' o L
  | [], _, _, _ => trivial
  | p :: L, o, e, h => by
    obtain ⟨⟨ha, hb⟩, h⟩ := h
    rw [List.length_cons] at e
    have := e o (by omega) (by omega)
    exact ⟨⟨by omega, by omega⟩, cLo_cg L (o + 1) (fun i a b => e i (by omega) (by omega)) h⟩
theorem cLo_ap {a b : Int → Int} : ∀ (L M : List (Int × Int)) (o : Int), cLo a b o L → cLo a b (o + L.length) M → cLo a b o (L ++ M)
  | [], M, o, _, g => by
    have e : o + (([] : List (Int × Int)).length : Int) = o := by rw [List.length_nil]; omega
    rw [e] at g
    exact g
  | p :: L, M, o, h, g => by
    obtain ⟨h0, h⟩ := h
    rw [List.length_cons] at g
    exact ⟨h0, cLo_ap L M (o + 1) h (by rw [show o + 1 + (L.length : Int) = o + ((L.length + 1 : Nat) : Int) from by omega]; exact g)⟩
/-- one more couple, if it isn't there; false, if there is no room -/
def cad (L : List (Int × Int)) (s t : Int) : List (Int × Int) × Bool := if cix L s t < L.length then (L, true) else if L.length < 8 then (L ++ [(s, t)], true) else (L, false)
theorem cad_ix {L K : List (Int × Int)} {s t : Int} (h : cad L s t = (K, true)) (M : List (Int × Int)) : cix (K ++ M) s t = cix L s t := by
  unfold cad at h
  by_cases q : cix L s t < L.length
  · rw [if_pos q] at h
    rw [← (Prod.mk.inj h).1]
    exact cix_ap L M s t q
  · rw [if_neg q] at h
    by_cases r : L.length < 8
    · rw [if_pos r] at h
      rw [← (Prod.mk.inj h).1]
      exact cix_nw L M s t q
    · rw [if_neg r] at h
      exact absurd (Prod.mk.inj h).2 (by decide)
/-- the arguments' couples, one argument after the other -/
def stg (T : List (Int × Int) → Int → List (Int × Int) × Bool) (L : List (Int × Int)) (A : Int) : Nat → List (Int × Int) × Bool
  | 0 => (L, true)
  | i + 1 => if (stg T L A i).2 = true ∧ (i : Int) < A then T (stg T L A i).1 i else stg T L A i
theorem stg_s {T : List (Int × Int) → Int → List (Int × Int) × Bool} {L : List (Int × Int)} {A : Int} {i : Nat} : stg T L A (i + 1) = if (stg T L A i).2 = true ∧ (i : Int) < A then T (stg T L A i).1 i else stg T L A i := rfl
theorem stg_e {T : List (Int × Int) → Int → List (Int × Int) × Bool} {L : List (Int × Int)} {A : Int} {i : Nat} (h : (stg T L A i).2 = false ∨ A ≤ i) : ∀ j : Nat, stg T L A (i + j) = stg T L A i
  | 0 => rfl
  | j + 1 => by
    rw [show i + (j + 1) = (i + j) + 1 from rfl, stg_s, stg_e h j, if_neg]
    rcases h with h | h
    · rw [h]; simp
    · omega
def cpO : Nat → zJ → List (Int × Int) → Int → Int → List (Int × Int) × Bool
  | 0, _, L, _, _ => (L, false)
  | k + 1, S, L, s, t => if S 166 (0 + s) < 0 ∨ ¬ S 166 (0 + s) = S 166 (0 + t) then cad L s t else stg (fun M i => cpO k S M (S 167 (3 * (0 + s) + i)) (S 167 (3 * (0 + t) + i))) L (oar S (S 166 (0 + s))) 3
theorem cpO_s {k : Nat} {S : zJ} {L : List (Int × Int)} {s t : Int} : cpO (k + 1) S L s t = if S 166 (0 + s) < 0 ∨ ¬ S 166 (0 + s) = S 166 (0 + t) then cad L s t else stg (fun M i => cpO k S M (S 167 (3 * (0 + s) + i)) (S 167 (3 * (0 + t) + i))) L (oar S (S 166 (0 + s))) 3 := rfl
/-- the couples of the arguments -/
def cT (k : Nat) (S : zJ) (s t : Int) : List (Int × Int) → Int → List (Int × Int) × Bool := fun M i => cpO k S M (S 167 (3 * (0 + s) + i)) (S 167 (3 * (0 + t) + i))
/-- more of it -/
def pfx (L K : List (Int × Int)) : Prop := ∃ M, K = L ++ M
theorem pfx.rf {L : List (Int × Int)} : pfx L L := ⟨[], (List.append_nil L).symm⟩
theorem pfx.tr {L K N : List (Int × Int)} (h : pfx L K) (g : pfx K N) : pfx L N := by
  obtain ⟨A, rfl⟩ := h
  obtain ⟨B, rfl⟩ := g
  exact ⟨A ++ B, List.append_assoc L A B⟩
theorem cad_p {L : List (Int × Int)} {s t : Int} : pfx L (cad L s t).1 := by
  unfold cad
  (repeat' split) <;> first | exact pfx.rf | exact ⟨_, rfl⟩
theorem stg_p {T : List (Int × Int) → Int → List (Int × Int) × Bool} {L : List (Int × Int)} {A : Int} (hT : ∀ M i, pfx M (T M i).1) : ∀ i, pfx L (stg T L A i).1
  | 0 => pfx.rf
  | i + 1 => by
    rw [stg_s]
    split
    · exact (stg_p hT i).tr (hT _ _)
    · exact stg_p hT i
theorem cpO_p : ∀ (k : Nat) (S : zJ) (L : List (Int × Int)) (s t : Int), pfx L (cpO k S L s t).1
  | 0, _, _, _, _ => pfx.rf
  | k + 1, S, L, s, t => by
    rw [cpO_s]
    split
    · exact cad_p
    · exact stg_p (fun M i => cpO_p k S M _ _) 3
/-- all couples are unlike ones, or variables -/
def cok (S : zJ) (m : Int) (L : List (Int × Int)) : Prop := ∀ p, p ∈ L → (0 ≤ p.1 ∧ p.1 < m) ∧ (0 ≤ p.2 ∧ p.2 < m) ∧ (S 166 (0 + p.1) < 0 ∨ ¬ S 166 (0 + p.1) = S 166 (0 + p.2))
/-- the table's arguments are terms -/
def tcl (S : zJ) (m : Int) : Prop := ∀ t i, (0 ≤ t ∧ t < m) → 0 ≤ i → i < oar S (S 166 (0 + t)) → i < 3 ∧ 0 ≤ S 167 (3 * (0 + t) + i) ∧ S 167 (3 * (0 + t) + i) < m
theorem stg_k {P : List (Int × Int) → Prop} {T : List (Int × Int) → Int → List (Int × Int) × Bool} {L : List (Int × Int)} {A : Int} (h0 : P L) (hT : ∀ M i, 0 ≤ i → i < A → P M → P (T M i).1) : ∀ i, P (stg T L A i).1
  | 0 => h0
  | i + 1 => by
    rw [stg_s]
    split
    · next q => exact hT _ _ (by omega) q.2 (stg_k h0 hT i)
    · exact stg_k h0 hT i
theorem cpO_k {S : zJ} {m : Int} (hc : tcl S m) : ∀ (k : Nat) (L : List (Int × Int)) (s t : Int), (0 ≤ s ∧ s < m) → (0 ≤ t ∧ t < m) → cok S m L → cok S m (cpO k S L s t).1
  | 0, _, _, _, _, _, h => h
  | k + 1, L, s, t, hs, ht, h => by
    rw [cpO_s]
    by_cases q : S 166 (0 + s) < 0 ∨ ¬ S 166 (0 + s) = S 166 (0 + t)
    · rw [if_pos q]
      unfold cad
      by_cases q1 : cix L s t < L.length
      · rw [if_pos q1]; exact h
      · rw [if_neg q1]
        by_cases q2 : L.length < 8
        · rw [if_pos q2]
          intro p hp
          rcases List.mem_append.1 hp with hp | hp
          · exact h p hp
          · rw [List.mem_singleton.1 hp]
            exact ⟨hs, ht, q⟩
        · rw [if_neg q2]; exact h
    · rw [if_neg q]
      have e : S 166 (0 + s) = S 166 (0 + t) := by omega
      exact stg_k (P := cok S m) h (fun M i a b hM => cpO_k hc k M _ _ (hc s i hs a b).2 (hc t i ht a (by rw [← e]; exact b)).2 hM) 3
theorem stg_cg {T' T : List (Int × Int) → Int → List (Int × Int) × Bool} {L : List (Int × Int)} {A : Int} (hT : ∀ M i, 0 ≤ i → i < A → T' M i = T M i) : ∀ i, stg T' L A i = stg T L A i
  | 0 => rfl
  | i + 1 => by
    rw [stg_s, stg_s, stg_cg hT i]
    by_cases q : (stg T L A i).2 = true ∧ (i : Int) < A
    · rw [if_pos q, if_pos q, hT _ _ (by omega) q.2]
    · rw [if_neg q, if_neg q]
theorem cpO_cg {S' S : zJ} {m : Int} (hc : tcl S m) (h6 : ∀ t, 0 ≤ t → t < m → S' 166 (0 + t) = S 166 (0 + t)) (h7 : ∀ t i, 0 ≤ t → t < m → 0 ≤ i → i < 3 → S' 167 (3 * (0 + t) + i) = S 167 (3 * (0 + t) + i)) (h0 : ∀ k, S' 170 k = S 170 k) : ∀ (k : Nat) (L : List (Int × Int)) (s t : Int), (0 ≤ s ∧ s < m) → (0 ≤ t ∧ t < m) → cpO k S' L s t = cpO k S L s t
  | 0, _, _, _, _, _ => rfl
  | k + 1, L, s, t, hs, ht => by
    rw [cpO_s, cpO_s, h6 s hs.1 hs.2, h6 t ht.1 ht.2]
    by_cases q : S 166 (0 + s) < 0 ∨ ¬ S 166 (0 + s) = S 166 (0 + t)
    · rw [if_pos q, if_pos q]
    · rw [if_neg q, if_neg q]
      have e : S 166 (0 + s) = S 166 (0 + t) := by omega
      have eA : oar S' (S 166 (0 + s)) = oar S (S 166 (0 + s)) := by
        unfold oar
        exact arh_cg (fun _ => h0 _)
      rw [eA]
      refine stg_cg (fun M i a b => ?_) 3
      have c1 := hc s i hs a b
      have c2 := hc t i ht a (by rw [← e]; exact b)
      rw [h7 s i hs.1 hs.2 a c1.1, h7 t i ht.1 ht.2 a c1.1]
      exact cpO_cg hc h6 h7 h0 k M _ _ c1.2 c2.2
