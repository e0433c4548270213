/-! ===== a table of terms ===== -/
def arh (ar : Int → Int) (h : Int) : Int := if h < 0 then 0 else ar h
def TS (told : Int) (ar : Int → Int) : Prop := (0 ≤ told ∧ told ≤ 10) ∧ ∀ k, 0 ≤ k → k < told → 0 ≤ ar k ∧ ar k ≤ 3
/-- what holds of one term -/
def T1 (told : Int) (ar hd : Int → Int) (ag : Int → Int → Int) (dp : Int → Int) (t : Int) : Prop := (-8 ≤ hd t ∧ hd t < told) ∧ (1 ≤ dp t ∧ dp t ≤ 6) ∧ (∀ i, 0 ≤ i → i < arh ar (hd t) → (0 ≤ ag t i ∧ ag t i < t) ∧ dp (ag t i) < dp t) ∧ (dp t = 1 ∨ ∃ i, (0 ≤ i ∧ i < arh ar (hd t)) ∧ dp t = dp (ag t i) + 1)
/-- two that are made alike -/
def TU (ar hd : Int → Int) (ag : Int → Int → Int) (s t : Int) : Prop := hd s = hd t ∧ ∀ i, 0 ≤ i → i < arh ar (hd t) → ag s i = ag t i
def TT (told : Int) (ar : Int → Int) (m : Int) (hd : Int → Int) (ag : Int → Int → Int) (dp : Int → Int) : Prop := TS told ar ∧ (0 ≤ m ∧ m ≤ 400) ∧ (∀ t, 0 ≤ t → t < m → T1 told ar hd ag dp t) ∧ ∀ s t, 0 ≤ s → s < m → 0 ≤ t → t < m → TU ar hd ag s t → s = t
theorem arh_rg {told : Int} {ar : Int → Int} (h : TS told ar) {x : Int} (hx : x < told) : 0 ≤ arh ar x ∧ arh ar x ≤ 3 := by
  unfold arh
  split
  · omega
  · exact h.2 x (by omega) hx
theorem TT.cut {told m m' : Int} {ar hd : Int → Int} {ag : Int → Int → Int} {dp : Int → Int} (h : TT told ar m hd ag dp) (h0 : 0 ≤ m') (h1 : m' ≤ m) : TT told ar m' hd ag dp := by
  obtain ⟨a, b, c, d⟩ := h
  exact ⟨a, by omega, fun t p q => c t p (by omega), fun s t p q r u => d s t p (by omega) r (by omega)⟩
theorem arh_congr {told : Int} {ar ar' : Int → Int} (h : ∀ k, 0 ≤ k → k < told → ar' k = ar k) {x : Int} (hx : x < told) : arh ar' x = arh ar x := by
  unfold arh
  split
  · rfl
  · exact h x (by omega) hx
theorem T1.congr {told told' t : Int} {ar ar' hd hd' : Int → Int} {ag ag' : Int → Int → Int} {dp dp' : Int → Int} (h : T1 told ar hd ag dp t) (h0 : 0 ≤ t) (ht : told ≤ told') (ha : ∀ k, 0 ≤ k → k < told → ar' k = ar k) (hh : hd' t = hd t) (hg : ∀ i, 0 ≤ i → i < arh ar (hd t) → ag' t i = ag t i) (hp : ∀ s, 0 ≤ s → s ≤ t → dp' s = dp s) : T1 told' ar' hd' ag' dp' t := by
  obtain ⟨a, b, c, d⟩ := h
  have e1 : arh ar' (hd' t) = arh ar (hd t) := by rw [hh]; exact arh_congr ha a.2
  unfold T1
  rw [e1, hh, hp t h0 (Int.le_refl _)]
  refine ⟨by omega, b, fun i p q => ?_, ?_⟩
  · obtain ⟨c1, c2⟩ := c i p q
    rw [hg i p q, hp _ c1.1 (by omega)]
    exact ⟨c1, c2⟩
  · rcases d with d | ⟨i, p, q⟩
    · exact Or.inl d
    · refine Or.inr ⟨i, p, ?_⟩
      have c1 := (c i p.1 p.2).1
      rw [hg i p.1 p.2, hp _ c1.1 (by omega)]
      exact q
theorem TT.congr {told told' m : Int} {ar ar' hd hd' : Int → Int} {ag ag' : Int → Int → Int} {dp dp' : Int → Int} (h : TT told ar m hd ag dp) (hs : TS told' ar') (ht : told ≤ told') (ha : ∀ k, 0 ≤ k → k < told → ar' k = ar k) (hh : ∀ t, 0 ≤ t → t < m → hd' t = hd t) (hg : ∀ t, 0 ≤ t → t < m → ∀ i, 0 ≤ i → i < arh ar (hd t) → ag' t i = ag t i) (hp : ∀ t, 0 ≤ t → t < m → dp' t = dp t) : TT told' ar' m hd' ag' dp' := by
  obtain ⟨a, b, c, d⟩ := h
  refine ⟨hs, b, fun t p q => (c t p q).congr p ht ha (hh t p q) (hg t p q) (fun s x y => hp s x (by omega)), fun s t p q r u v => d s t p q r u ?_⟩
  obtain ⟨v1, v2⟩ := v
  rw [hh s p q, hh t r u] at v1
  refine ⟨v1, fun i x y => ?_⟩
  have e1 : arh ar' (hd' t) = arh ar (hd t) := by rw [hh t r u]; exact arh_congr ha (c t r u).1.2
  have := v2 i x (by rw [e1]; exact y)
  rw [hg t r u i x y, hg s p q i x (by rw [v1]; exact y)] at this
  exact this
/-- one more -/
theorem TT.push {told m : Int} {ar hd hd' : Int → Int} {ag ag' : Int → Int → Int} {dp dp' : Int → Int} (h : TT told ar m hd ag dp) (hm : m < 400) (hh : ∀ t, 0 ≤ t → t < m → hd' t = hd t) (hg : ∀ t, 0 ≤ t → t < m → ∀ i, 0 ≤ i → i < arh ar (hd t) → ag' t i = ag t i) (hp : ∀ t, 0 ≤ t → t < m → dp' t = dp t) (h1 : T1 told ar hd' ag' dp' m) (hu : ∀ s, 0 ≤ s → s < m → ¬ TU ar hd' ag' s m) : TT told ar (m + 1) hd' ag' dp' := by
  have hc := h.congr (hd' := hd') (ag' := ag') (dp' := dp') h.1 (Int.le_refl _) (fun _ _ _ => rfl) hh hg hp
  obtain ⟨a, b, c, d⟩ := hc
  refine ⟨a, by omega, fun t p q => ?_, fun s t p q r u v => ?_⟩
  · by_cases e : t = m
    · rw [e]
      exact h1
    · exact c t p (by omega)
  · by_cases e1 : s = m
    · by_cases e2 : t = m
      · omega
      · refine absurd ?_ (hu t r (by omega))
        subst e1
        obtain ⟨v1, v2⟩ := v
        exact ⟨v1.symm, fun i x y => (v2 i x (by rw [← v1]; exact y)).symm⟩
    · by_cases e2 : t = m
      · subst e2
        exact absurd v (hu s p (by omega))
      · exact d s t p (by omega) r (by omega) v
/-! ===== the class's own: its rows, its buckets ===== -/
def zmx (J : zJ) (t : Int) : Nat → Int
  | 0 => if J 7 t < -1 then -1 else J 7 t
  | i + 1 => zmx J t i * 37 + J 14 (J 9 (t * 3 + i))
def zbk (J : zJ) (t : Int) : Int := zand (zxor (zmx J t (J 8 t).toNat) (zushr (zmx J t (J 8 t).toNat) 8)) 255
theorem zbk_rg (J : zJ) (t : Int) : 0 ≤ zbk J t ∧ zbk J t < 256 := z_and _ (m := 255) 8 (by decide) (by decide)
theorem zmx_congr {J J' : zJ} {t : Int} : ∀ (k : Nat), J' 7 t = J 7 t → (∀ i : Int, 0 ≤ i → i < k → J' 14 (J' 9 (t * 3 + i)) = J 14 (J 9 (t * 3 + i))) → zmx J' t k = zmx J t k
  | 0, h, _ => by simp only [zmx, h]
  | k + 1, h, h2 => by
    simp only [zmx]
    rw [zmx_congr k h (fun i a b => h2 i a (by omega)), h2 (k : Int) (by omega) (by omega)]
def zs3 (J : zJ) (t : Int) : Int := (if 0 < J 8 t then J 10 (J 9 (t * 3 + 0)) else 0) + (if 1 < J 8 t then J 10 (J 9 (t * 3 + 1)) else 0) + (if 2 < J 8 t then J 10 (J 9 (t * 3 + 2)) else 0)
def cSW (J : zJ) : Prop := ∀ k, 0 ≤ k → k < J 1 3 → 1 ≤ J 4 k ∧ J 4 k ≤ 9
def cTT (J : zJ) (m : Int) : Prop := TT (J 1 3) (J 3) m (J 7) (fun t i => J 9 (t * 3 + i)) (J 12)
def zw3 (J : zJ) (t : Int) : Int := (if 0 < J 8 t then J 11 (J 9 (t * 3 + 0)) else 0) + (if 1 < J 8 t then J 11 (J 9 (t * 3 + 1)) else 0) + (if 2 < J 8 t then J 11 (J 9 (t * 3 + 2)) else 0)
def zmax (a b : Int) : Int := if a < b then b else a
theorem zmax_le (a b : Int) : (a ≤ zmax a b ∧ b ≤ zmax a b) ∧ (zmax a b = a ∨ zmax a b = b) := by
  unfold zmax
  split <;> omega
/-- how great a term of a depth can be -/
def zB (d : Int) : Int := if d ≤ 1 then 1 else if d = 2 then 4 else if d = 3 then 13 else if d = 4 then 40 else if d = 5 then 121 else 364
theorem zB_step {d e : Int} (h : e < d) (h0 : 1 ≤ e) (h1 : d ≤ 6) : 3 * zB e + 1 ≤ zB d := by
  have h2 : e = 1 ∨ e = 2 ∨ e = 3 ∨ e = 4 ∨ e = 5 := by omega
  have h3 : d = 2 ∨ d = 3 ∨ d = 4 ∨ d = 5 ∨ d = 6 := by omega
  rcases h2 with rfl | rfl | rfl | rfl | rfl <;> rcases h3 with rfl | rfl | rfl | rfl | rfl <;> first | decide | omega
theorem zB_rg (d : Int) : 1 ≤ zB d ∧ zB d ≤ 364 := by
  unfold zB
  (repeat' split) <;> omega
def zv0 (J : zJ) (t : Int) : Int := if J 7 t < 0 then zshl 1 (zxor (J 7 t) (-1)) else 0
def zv3 (J : zJ) (t : Int) : Int := if J 8 t ≤ 0 then zv0 J t else if J 8 t ≤ 1 then zor (zv0 J t) (J 13 (J 9 (t * 3 + 0))) else if J 8 t ≤ 2 then zor (zor (zv0 J t) (J 13 (J 9 (t * 3 + 0)))) (J 13 (J 9 (t * 3 + 1))) else zor (zor (zor (zv0 J t) (J 13 (J 9 (t * 3 + 0)))) (J 13 (J 9 (t * 3 + 1)))) (J 13 (J 9 (t * 3 + 2)))
def zd3 (J : zJ) (t : Int) : Int := if J 8 t ≤ 0 then 1 else if J 8 t ≤ 1 then zmax 1 (J 12 (J 9 (t * 3 + 0)) + 1) else if J 8 t ≤ 2 then zmax (zmax 1 (J 12 (J 9 (t * 3 + 0)) + 1)) (J 12 (J 9 (t * 3 + 1)) + 1) else zmax (zmax (zmax 1 (J 12 (J 9 (t * 3 + 0)) + 1)) (J 12 (J 9 (t * 3 + 1)) + 1)) (J 12 (J 9 (t * 3 + 2)) + 1)
def cR1 (J : zJ) (t : Int) : Prop := J 8 t = arh (J 3) (J 7 t) ∧ (J 10 t = 1 + zs3 J t ∧ 1 ≤ J 10 t ∧ J 10 t ≤ zB (J 12 t)) ∧ (J 11 t = (if J 7 t < 0 then 1 else J 4 (J 7 t)) + zw3 J t ∧ 1 ≤ J 11 t ∧ J 11 t ≤ 9 * J 10 t) ∧ J 13 t = zv3 J t
def cC1 (J : zJ) (t : Int) : Prop := (J 15 t = -1 ∨ ((0 ≤ J 15 t ∧ J 15 t < t) ∧ zbk J (J 15 t) = zbk J t)) ∧ ∀ s, 0 ≤ s → s < t → zbk J s = zbk J t → s ≤ J 15 t
def cB1 (J : zJ) (m b : Int) : Prop := (J 16 b = -1 ∨ ((0 ≤ J 16 b ∧ J 16 b < m) ∧ zbk J (J 16 b) = b)) ∧ ∀ t, 0 ≤ t → t < m → zbk J t = b → t ≤ J 16 b
def CT (J : zJ) (m : Int) : Prop := (cTT J m ∧ cSW J) ∧ (∀ t, 0 ≤ t → t < m → cR1 J t ∧ cC1 J t) ∧ ∀ b, 0 ≤ b → b < 256 → cB1 J m b
