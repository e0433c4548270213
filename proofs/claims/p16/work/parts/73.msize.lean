/-- sizes, of a table of arities and arguments -/
def tps (f : Int → Int) (ag : Int → Int → Int) (t : Int) : Nat → Int
  | 0 => 1
  | i + 1 => tps f ag t i + f (ag t i)
def tsz (ar : Int → Int) (ag : Int → Int → Int) : Nat → Int → Int
  | 0, _ => 1
  | k + 1, t => tps (tsz ar ag k) ag t (ar t).toNat
theorem tps_cg {f g : Int → Int} {ag : Int → Int → Int} {t : Int} : ∀ (n : Nat), (∀ i : Nat, i < n → f (ag t i) = g (ag t i)) → tps f ag t n = tps g ag t n
  | 0, _ => rfl
  | n + 1, h => by
    show tps f ag t n + _ = tps g ag t n + _
    rw [tps_cg n (fun i hi => h i (by omega)), h n (by omega)]
def mag (J : zJ) (b : Int) : Int → Int → Int := fun t i => J 167 (3 * (b + t) + i)
def msz (J : zJ) (b d t : Int) : Int := tsz (mar J b d) (mag J b) 6 t
theorem msz_st {J : zJ} {b r d s m : Int} (h : MS J b r d s m) : ∀ (k k' : Nat) (t : Int), (0 ≤ t ∧ t < m) → J 168 (b + t) ≤ k → J 168 (b + t) ≤ k' → tsz (mar J b d) (mag J b) k t = tsz (mar J b d) (mag J b) k' t
  | 0, _, t, ht, h1, _ => by have := (h.ar ht).2.2.1; omega
  | _ + 1, 0, t, ht, _, h2 => by have := (h.ar ht).2.2.1; omega
  | k + 1, k' + 1, t, ht, h1, h2 => by
    refine tps_cg _ (fun i hi => ?_)
    have ha := (h.ar ht).1
    have hb := h.arg ht (i := i) (by omega)
    exact msz_st h k k' _ ⟨hb.1.1, by have := hb.1.2; show J 167 (3 * (b + t) + i) < m; omega⟩ (by have := hb.2; show J 168 (b + J 167 (3 * (b + t) + i)) ≤ k; omega) (by have := hb.2; show J 168 (b + J 167 (3 * (b + t) + i)) ≤ k'; omega)
theorem msz_un {J : zJ} {b r d s m t : Int} (h : MS J b r d s m) (ht : 0 ≤ t ∧ t < m) : msz J b d t = tps (msz J b d) (mag J b) t (mar J b d t).toNat := by
  have := (h.ar ht).2.2.1
  exact msz_st h 6 7 t ht (by omega) (by omega)
theorem msz_bd {J : zJ} {b r d s m : Int} (h : MS J b r d s m) : ∀ (k : Nat) (t : Int), (0 ≤ t ∧ t < m) → J 168 (b + t) ≤ k → 1 ≤ msz J b d t ∧ msz J b d t ≤ zB (J 168 (b + t))
  | 0, t, ht, h1 => by have := (h.ar ht).2.2.1; omega
  | k + 1, t, ht, h1 => by
    have ha := h.ar ht
    rw [msz_un h ht]
    have hz := zB_rg (J 168 (b + t))
    have hs : ∀ i : Nat, (i : Int) < mar J b d t → 1 ≤ msz J b d (mag J b t i) ∧ 3 * msz J b d (mag J b t i) + 1 ≤ zB (J 168 (b + t)) := fun i hi => by
      have hb := h.arg ht (i := i) (by omega)
      have h8 : 0 ≤ mag J b t i ∧ mag J b t i < m := ⟨hb.1.1, by have := hb.1.2; show J 167 (3 * (b + t) + i) < m; omega⟩
      have h9 : J 168 (b + mag J b t i) < J 168 (b + t) := hb.2
      have h7 := msz_bd h k (mag J b t i) h8 (by omega)
      have h6 := (h.ar h8).2.2.1
      have := zB_step h9 h6.1 (by omega)
      omega
    have hc : mar J b d t = 0 ∨ mar J b d t = 1 ∨ mar J b d t = 2 ∨ mar J b d t = 3 := by omega
    have s0 := hs 0
    have s1 := hs 1
    have s2 := hs 2
    rcases hc with hc | hc | hc | hc <;> rw [hc] at s0 s1 s2 ⊢
    · show 1 ≤ (1 : Int) ∧ (1 : Int) ≤ _
      omega
    · show 1 ≤ (1 : Int) + msz J b d (mag J b t (0 : Nat)) ∧ (1 : Int) + msz J b d (mag J b t (0 : Nat)) ≤ _
      have := s0 (by decide)
      omega
    · show 1 ≤ (1 : Int) + msz J b d (mag J b t (0 : Nat)) + msz J b d (mag J b t (1 : Nat)) ∧ (1 : Int) + msz J b d (mag J b t (0 : Nat)) + msz J b d (mag J b t (1 : Nat)) ≤ _
      have := s0 (by decide)
      have := s1 (by decide)
      omega
    · show 1 ≤ (1 : Int) + msz J b d (mag J b t (0 : Nat)) + msz J b d (mag J b t (1 : Nat)) + msz J b d (mag J b t (2 : Nat)) ∧ (1 : Int) + msz J b d (mag J b t (0 : Nat)) + msz J b d (mag J b t (1 : Nat)) + msz J b d (mag J b t (2 : Nat)) ≤ _
      have := s0 (by decide)
      have := s1 (by decide)
      have := s2 (by decide)
      omega
theorem MS.sz {J : zJ} {b r d s m t : Int} (h : MS J b r d s m) (ht : 0 ≤ t ∧ t < m) : 1 ≤ msz J b d t ∧ msz J b d t ≤ 364 := by
  have h1 := (h.ar ht).2.2.1
  have h2 := msz_bd h 6 t ht (by omega)
  have h3 := zB_rg (J 168 (b + t))
  omega
theorem tps_s {J : zJ} {b d t i : Int} (hi : 0 ≤ i) : tps (msz J b d) (mag J b) t (i + 1).toNat = tps (msz J b d) (mag J b) t i.toNat + msz J b d (J 167 (3 * (b + t) + i)) := by
  have e : (i + 1).toNat = i.toNat + 1 := by omega
  rw [e]
  show _ + msz J b d (mag J b t (i.toNat : Int)) = _
  rw [Int.toNat_of_nonneg hi]
  rfl
theorem tps_bd {J : zJ} {b r d s m t : Int} (h : MS J b r d s m) (ht : 0 ≤ t ∧ t < m) : ∀ (i : Nat), (i : Int) ≤ mar J b d t → 1 ≤ tps (msz J b d) (mag J b) t i ∧ tps (msz J b d) (mag J b) t i ≤ 1 + 364 * i
  | 0, _ => by show 1 ≤ (1 : Int) ∧ (1 : Int) ≤ _; omega
  | i + 1, hi => by
    have h1 := tps_bd h ht i (by omega)
    have hb := h.arg ht (i := i) (by omega)
    have h2 := h.sz (t := mag J b t i) ⟨hb.1.1, by have := hb.1.2; show J 167 (3 * (b + t) + i) < m; omega⟩
    show 1 ≤ tps (msz J b d) (mag J b) t i + msz J b d (mag J b t i) ∧ tps (msz J b d) (mag J b) t i + msz J b d (mag J b t i) ≤ _
    omega
