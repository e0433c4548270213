/-! ===== rows, rings of rows: alike ===== -/
/-- a row of the class's ledger and one of the reference tell the same -/
def RW (f h : Int → Int) : Prop := (f 1 = h 39 ∧ f 2 = h 61 ∧ f 3 = h 62) ∧ (f 4 = h 9 ∧ ∀ i, 0 ≤ i → i < h 9 → f (15 + i) = h (10 + 2 * i) ∧ f (23 + i) = h (10 + 2 * i + 1)) ∧ (f 5 = h 26 ∧ ∀ i, 0 ≤ i → i < h 26 → f (31 + i) = h (27 + i)) ∧ (f 6 = h 40 ∧ ∀ i, 0 ≤ i → i < h 40 → f (43 + i) = h (41 + 2 * i) ∧ f (52 + i) = h (41 + 2 * i + 1)) ∧ ∀ v, 0 ≤ v → v < 8 → f (7 + v) + 1 = h (1 + v)
theorem RW.of {f' f h : Int → Int} {m : Int} (w : RW f h) (l : LI f m) (e : ∀ k, 1 ≤ k → k < 61 → f' k = f k) : RW f' h := by
  obtain ⟨⟨a1, a2, a3⟩, ⟨b1, b2⟩, ⟨c1, c2⟩, ⟨d1, d2⟩, v⟩ := w
  obtain ⟨⟨_, l4, l5, l6⟩, _⟩ := l
  refine ⟨⟨by rw [e 1 (by decide) (by decide)]; exact a1, by rw [e 2 (by decide) (by decide)]; exact a2, by rw [e 3 (by decide) (by decide)]; exact a3⟩, ⟨by rw [e 4 (by decide) (by decide)]; exact b1, fun i p q => ?_⟩, ⟨by rw [e 5 (by decide) (by decide)]; exact c1, fun i p q => ?_⟩, ⟨by rw [e 6 (by decide) (by decide)]; exact d1, fun i p q => ?_⟩, fun i p q => ?_⟩
  · rw [e (15 + i) (by omega) (by omega), e (23 + i) (by omega) (by omega)]; exact b2 i p q
  · rw [e (31 + i) (by omega) (by omega)]; exact c2 i p q
  · rw [e (43 + i) (by omega) (by omega), e (52 + i) (by omega) (by omega)]; exact d2 i p q
  · rw [e (7 + i) (by omega) (by omega)]; exact v i p q
theorem RW.to {f h' h : Int → Int} {m : Int} (w : RW f h) (l : LI f m) (e : ∀ k, 1 ≤ k → k < 63 → h' k = h k) : RW f h' := by
  obtain ⟨⟨a1, a2, a3⟩, ⟨b1, b2⟩, ⟨c1, c2⟩, ⟨d1, d2⟩, v⟩ := w
  obtain ⟨⟨_, l4, l5, l6⟩, _⟩ := l
  refine ⟨⟨by rw [e 39 (by decide) (by decide)]; exact a1, by rw [e 61 (by decide) (by decide)]; exact a2, by rw [e 62 (by decide) (by decide)]; exact a3⟩, ⟨by rw [e 9 (by decide) (by decide)]; exact b1, fun i p q => ?_⟩, ⟨by rw [e 26 (by decide) (by decide)]; exact c1, fun i p q => ?_⟩, ⟨by rw [e 40 (by decide) (by decide)]; exact d1, fun i p q => ?_⟩, fun i p q => ?_⟩
  · rw [e 9 (by decide) (by decide)] at q
    rw [e (10 + 2 * i) (by omega) (by omega), e (10 + 2 * i + 1) (by omega) (by omega)]; exact b2 i p q
  · rw [e 26 (by decide) (by decide)] at q
    rw [e (27 + i) (by omega) (by omega)]; exact c2 i p q
  · rw [e 40 (by decide) (by decide)] at q
    rw [e (41 + 2 * i) (by omega) (by omega), e (41 + 2 * i + 1) (by omega) (by omega)]; exact d2 i p q
  · rw [e (1 + i) (by omega) (by omega)]; exact v i p q
/-- a row that is kept: its count of terms too -/
def KW (f h : Int → Int) : Prop := RW f h ∧ f 0 = h 0
/-- the class's kept rows -/
def CU (J : zJ) (n : Int) (R : Int → Int → Int) : Prop := J 5 6 = n ∧ ∀ k, 0 ≤ k → k < n → KW (J (zU ((J 5 5 + k) % 40))) (R k)
/-- one more is kept, the eldest goes when there are 40 -/
def psn (n : Int) : Int := if n < 40 then n + 1 else 40
def psh (n : Int) (R : Int → Int → Int) (h : Int → Int) : Int → Int → Int := if n < 40 then (fun k => if k = n then h else R k) else (fun k => if k = 39 then h else R (k + 1))
/-- what keep does -/
def KX (J' J : zJ) : Prop := (J 5 6 < 40 ∧ zup (zcp J 61 (zU ((J 5 5 + J 5 6) % 40)) 0 0 61) 5 6 (J 5 6 + 1) = J') ∨ (J 5 6 = 40 ∧ zup (zcp (zup (zup J 5 5 ((J 5 5 + 1) % 40)) 5 6 39) 61 (zU (((J 5 5 + 1) % 40 + 39) % 40)) 0 0 61) 5 6 40 = J')
theorem KW.cp {f' f h : Int → Int} {m : Int} (w : KW f h) (l : LI f m) (e : ∀ k, 0 ≤ k → k < 61 → f' k = f k) : KW f' h := ⟨w.1.of l (fun k a b => e k (by omega) b), (e 0 (by decide) (by decide)).trans w.2⟩
theorem CU.keep {J' J : zJ} {n m : Int} {R : Int → Int → Int} {h : Int → Int} (c : CU J n R) (hn : 0 ≤ n ∧ n ≤ 40) (h5 : 0 ≤ J 5 5 ∧ J 5 5 < 40) (w : KW (J 61) h) (l : LI (J 61) m) (k : KX J' J) : CU J' (psn n) (psh n R h) := by
  obtain ⟨c1, c2⟩ := c
  rcases k with ⟨k1, k2⟩ | ⟨k1, k2⟩
  · have e5 : J' 5 5 = J 5 5 := by rw [← k2, zup_ne (by omega), zcp_nc (by unfold zU; omega)]
    have e6 : J' 5 6 = n + 1 := by rw [← k2, zup_at, c1]
    have er : ∀ q, 0 ≤ q → q < 61 → J' (zU ((J 5 5 + J 5 6) % 40)) q = J 61 q := fun q a b => by
      rw [← k2, zup_nc (by unfold zU; omega), zcp_in (by omega)]
      congr 1
      omega
    have eo : ∀ i, 0 ≤ i → i < 40 → ¬ i = (J 5 5 + J 5 6) % 40 → J' (zU i) = J (zU i) := fun i a b q => by
      rw [← k2, zup_nc (by unfold zU; omega), zcp_nc (by unfold zU; omega)]
    unfold psn psh
    rw [if_pos (by omega), if_pos (by omega)]
    refine ⟨e6, fun q a b => ?_⟩
    rw [e5]
    dsimp only
    by_cases e : q = n
    · subst e
      rw [if_pos rfl, ← c1]
      exact w.cp l er
    · rw [if_neg e, eo _ (by omega) (by omega) (by omega)]
      exact c2 q a (by omega)
  · have e5 : J' 5 5 = (J 5 5 + 1) % 40 := by rw [← k2, zup_ne (by omega), zcp_nc (by unfold zU; omega), zup_ne (by omega), zup_at]
    have e6 : J' 5 6 = 40 := by rw [← k2, zup_at]
    have er : ∀ q, 0 ≤ q → q < 61 → J' (zU (((J 5 5 + 1) % 40 + 39) % 40)) q = J 61 q := fun q a b => by
      rw [← k2, zup_nc (by unfold zU; omega), zcp_in (by omega), zup_nc (by omega), zup_nc (by omega)]
      congr 1
      omega
    have eo : ∀ i, 0 ≤ i → i < 40 → ¬ i = ((J 5 5 + 1) % 40 + 39) % 40 → J' (zU i) = J (zU i) := fun i a b q => by
      rw [← k2, zup_nc (by unfold zU; omega), zcp_nc (by unfold zU; omega), zup_nc (by unfold zU; omega), zup_nc (by unfold zU; omega)]
    unfold psn psh
    rw [if_neg (by omega), if_neg (by omega)]
    refine ⟨e6, fun q a b => ?_⟩
    rw [e5]
    dsimp only
    by_cases e : q = 39
    · subst e
      rw [if_pos rfl]
      exact w.cp l er
    · rw [if_neg e, eo _ (by omega) (by omega) (by omega)]
      have := c2 (q + 1) (by omega) (by omega)
      rw [show ((J 5 5 + 1) % 40 + q) % 40 = (J 5 5 + (q + 1)) % 40 from by omega]
      exact this
theorem CU.of {J' J : zJ} {n : Int} {R : Int → Int → Int} (c : CU J n R) (hn : n ≤ 40) (e5 : J' 5 = J 5) (e : ∀ i, 0 ≤ i → i < 40 → J' (zU i) = J (zU i)) : CU J' n R := by
  unfold CU
  rw [e5]
  refine ⟨c.1, fun k a b => ?_⟩
  rw [e _ (by omega) (by omega)]
  exact c.2 k a b
/-- the class is where the state G with the kept rows R is -/
def CAL (J G : zJ) (n : Int) (R : Int → Int → Int) : Prop := A0 J G ∧ RW (J 19) (G 165) ∧ CU J n R
theorem A0.f {J' J g : zJ} (E : A0 J g) (e : ∀ c, c = 1 ∨ c = 2 ∨ c = 3 ∨ c = 4 ∨ c = 6 ∨ c = 7 ∨ c = 8 ∨ c = 9 ∨ c = 12 → J' c = J c) : A0 J' g := by
  unfold A0
  rw [e 1 (by omega), e 2 (by omega), e 3 (by omega), e 4 (by omega), e 6 (by omega), e 7 (by omega), e 8 (by omega), e 9 (by omega), e 12 (by omega)]
  exact E
/-- an act's end: kept, or undone -/
def ED (G : zJ) (n : Int) (R : Int → Int → Int) (F : zJ × Int) (J' : zJ) (z : Int) : Prop := (¬ F.1 164 21 = 0 ∧ z = -3 ∧ CAL J' G n R) ∨ (F.1 164 21 = 0 ∧ z = F.2 ∧ CAL J' F.1 (psn n) (psh n R (G 165)))
