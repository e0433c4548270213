/-! ===== the memo, as functions of the row ===== -/
/-- the memo without its w-th -/
def mlO (h : Int → Int) (w : Int) : Int → Int := fun k => if k = 40 then h 40 - 1 else if 41 + 2 * w ≤ k ∧ k < 41 + 2 * (h 40 - 1) then h (k + 2) else h k
/-- the memo with one more -/
def maO (h : Int → Int) (t z : Int) : Int → Int := fun k => if k = 40 then h 40 + 1 else if k = 41 + 2 * h 40 + 1 then z else if k = 41 + 2 * h 40 then t else h k
def mgO (h : Int → Int) (t z : Int) : Int → Int := if h 39 = 0 then h else if h 40 = h 39 then maO (mlO h 0) t z else maO h t z
/-- one that was recalled -/
def mhO (h : Int → Int) (w : Int) : Int → Int := maO (mlO (fun k => if k = 61 then zw (h 61 + 1) else h k) w) (h (41 + 2 * w)) (h (41 + 2 * w + 1))
theorem mlO_o {h : Int → Int} {w k : Int} (hk : k < 40 ∨ 59 ≤ k) (b : 0 ≤ w ∧ h 40 ≤ 9) : mlO h w k = h k := by
  unfold mlO
  rw [if_neg (by omega), if_neg (by omega)]
theorem maO_o {h : Int → Int} {t z k : Int} (hk : k < 40 ∨ 59 ≤ k) (b : 0 ≤ h 40 ∧ h 40 ≤ 8) : maO h t z k = h k := by
  unfold maO
  rw [if_neg (by omega), if_neg (by omega), if_neg (by omega)]
theorem RW.ml {J : zJ} {h : Int → Int} {w : Int} (W : RW (J 19) h) (b : (0 ≤ h 9 ∧ h 9 ≤ 8) ∧ (0 ≤ h 26 ∧ h 26 ≤ 12) ∧ (0 ≤ h 40 ∧ h 40 ≤ 9)) (hw : 0 ≤ w ∧ w < h 40) : RW (zdM J w 19) (mlO h w) := by
  obtain ⟨⟨a1, a2, a3⟩, ⟨b1, b2⟩, ⟨c1, c2⟩, ⟨d1, d2⟩, v⟩ := W
  generalize hg : zdM J w 19 = g
  have e : ∀ k, g k = if k = 6 then J 19 6 - 1 else if (43 + w ≤ k ∧ k < 43 + (J 19 6 - 1)) ∨ (52 + w ≤ k ∧ k < 52 + (J 19 6 - 1)) then J 19 (k + 1) else J 19 k := fun k => by rw [← hg]; simp only [zdM, zup, zdm, if_true]
  have e6 : g 6 = J 19 6 - 1 := by rw [e, if_pos rfl]
  have e0 : ∀ k, ¬ k = 6 → ¬ ((43 + w ≤ k ∧ k < 43 + (J 19 6 - 1)) ∨ (52 + w ≤ k ∧ k < 52 + (J 19 6 - 1))) → g k = J 19 k := fun k a b => by rw [e, if_neg a, if_neg b]
  have o : ∀ k, (k < 40 ∨ 59 ≤ k) → mlO h w k = h k := fun k hk => mlO_o hk ⟨hw.1, b.2.2.2⟩
  have m40 : mlO h w 40 = h 40 - 1 := if_pos rfl
  refine ⟨⟨?_, ?_, ?_⟩, ⟨?_, fun i p q => ?_⟩, ⟨?_, fun i p q => ?_⟩, ⟨?_, fun i p q => ?_⟩, fun i p q => ?_⟩
  · rw [e0 1 (by omega) (by omega), o 39 (by omega)]; exact a1
  · rw [e0 2 (by omega) (by omega), o 61 (by omega)]; exact a2
  · rw [e0 3 (by omega) (by omega), o 62 (by omega)]; exact a3
  · rw [e0 4 (by omega) (by omega), o 9 (by omega)]; exact b1
  · rw [o 9 (by omega)] at q
    rw [e0 (15 + i) (by omega) (by omega), e0 (23 + i) (by omega) (by omega), o _ (by omega), o _ (by omega)]; exact b2 i p q
  · rw [e0 5 (by omega) (by omega), o 26 (by omega)]; exact c1
  · rw [o 26 (by omega)] at q
    rw [e0 (31 + i) (by omega) (by omega), o _ (by omega)]; exact c2 i p q
  · rw [e6, m40]; omega
  · rw [m40] at q
    by_cases x : w ≤ i
    · have y := d2 (i + 1) (by omega) (by omega)
      rw [e (43 + i), e (52 + i), if_neg (by omega), if_pos (by omega), if_neg (by omega), if_pos (by omega), show 43 + i + 1 = 43 + (i + 1) by omega, show 52 + i + 1 = 52 + (i + 1) by omega, y.1, y.2]
      unfold mlO
      rw [if_neg (by omega), if_pos (by omega), if_neg (by omega), if_pos (by omega), show 41 + 2 * i + 2 = 41 + 2 * (i + 1) by omega, show 41 + 2 * i + 1 + 2 = 41 + 2 * (i + 1) + 1 by omega]
      exact ⟨rfl, rfl⟩
    · have y := d2 i p (by omega)
      rw [e0 (43 + i) (by omega) (by omega), e0 (52 + i) (by omega) (by omega), y.1, y.2]
      unfold mlO
      rw [if_neg (by omega), if_neg (by omega), if_neg (by omega), if_neg (by omega)]
      exact ⟨rfl, rfl⟩
  · rw [e0 (7 + i) (by omega) (by omega), o _ (by omega)]; exact v i p q
theorem RW.ma {J : zJ} {h : Int → Int} {t z : Int} (W : RW (J 19) h) (b : (0 ≤ h 9 ∧ h 9 ≤ 8) ∧ (0 ≤ h 26 ∧ h 26 ≤ 12) ∧ (0 ≤ h 40 ∧ h 40 ≤ 8)) : RW (zaM J t z 19) (maO h t z) := by
  obtain ⟨⟨a1, a2, a3⟩, ⟨b1, b2⟩, ⟨c1, c2⟩, ⟨d1, d2⟩, v⟩ := W
  generalize hg : zaM J t z 19 = g
  have e : ∀ k, g k = if k = 6 then J 19 6 + 1 else if k = 52 + J 19 6 then z else if k = 43 + J 19 6 then t else J 19 k := fun k => by
    rw [← hg]
    unfold zaM
    rw [if_pos (by omega)]
    rfl
  have o : ∀ k, (k < 40 ∨ 59 ≤ k) → maO h t z k = h k := fun k hk => maO_o hk b.2.2
  have m40 : maO h t z 40 = h 40 + 1 := if_pos rfl
  have e0 : ∀ k, k < 43 → ¬ k = 6 → g k = J 19 k := fun k hk h6 => by rw [e, if_neg h6, if_neg (by omega), if_neg (by omega)]
  refine ⟨⟨?_, ?_, ?_⟩, ⟨?_, fun i p q => ?_⟩, ⟨?_, fun i p q => ?_⟩, ⟨?_, fun i p q => ?_⟩, fun i p q => ?_⟩
  · rw [e0 1 (by omega) (by omega), o 39 (by omega)]; exact a1
  · rw [e0 2 (by omega) (by omega), o 61 (by omega)]; exact a2
  · rw [e0 3 (by omega) (by omega), o 62 (by omega)]; exact a3
  · rw [e0 4 (by omega) (by omega), o 9 (by omega)]; exact b1
  · rw [o 9 (by omega)] at q
    rw [e0 (15 + i) (by omega) (by omega), e0 (23 + i) (by omega) (by omega), o _ (by omega), o _ (by omega)]; exact b2 i p q
  · rw [e0 5 (by omega) (by omega), o 26 (by omega)]; exact c1
  · rw [o 26 (by omega)] at q
    rw [e0 (31 + i) (by omega) (by omega), o _ (by omega)]; exact c2 i p q
  · rw [e 6, if_pos rfl, m40]; omega
  · rw [m40] at q
    by_cases x : i = h 40
    · rw [e (43 + i), e (52 + i), if_neg (by omega), if_neg (by omega), if_pos (by omega), if_neg (by omega), if_pos (by omega)]
      unfold maO
      rw [if_neg (by omega), if_neg (by omega), if_pos (by omega), if_neg (by omega), if_pos (by omega)]
      exact ⟨rfl, rfl⟩
    · have y := d2 i p (by omega)
      rw [e (43 + i), e (52 + i), if_neg (by omega), if_neg (by omega), if_neg (by omega), if_neg (by omega), if_neg (by omega), if_neg (by omega), y.1, y.2]
      unfold maO
      rw [if_neg (by omega), if_neg (by omega), if_neg (by omega), if_neg (by omega), if_neg (by omega), if_neg (by omega)]
      exact ⟨rfl, rfl⟩
  · rw [e0 (7 + i) (by omega) (by omega), o _ (by omega)]; exact v i p q
theorem RW.mg {J : zJ} {h : Int → Int} {t z : Int} (W : RW (J 19) h) (b : (0 ≤ h 9 ∧ h 9 ≤ 8) ∧ (0 ≤ h 26 ∧ h 26 ≤ 12) ∧ (0 ≤ h 40 ∧ h 40 ≤ 9)) (r : h 40 ≤ h 39 ∧ h 39 ≤ 9) : RW (zrM J t z 19) (mgO h t z) := by
  have d1 := W.2.2.2.1.1
  have a1 := W.1.1
  unfold zrM mgO
  by_cases q : h 39 = 0
  · rw [if_pos (by omega), if_pos q]; exact W
  · rw [if_neg (by omega), if_neg q]
    by_cases x : h 40 = h 39
    · rw [if_pos (by omega), if_pos x]
      have W2 := W.ml (w := 0) b (by omega)
      have m40 : mlO h 0 40 = h 40 - 1 := if_pos rfl
      refine W2.ma ⟨?_, ?_, by rw [m40]; omega⟩
      · rw [mlO_o (by omega) ⟨by omega, by omega⟩]; exact b.1
      · rw [mlO_o (by omega) ⟨by omega, by omega⟩]; exact b.2.1
    · rw [if_neg (by omega), if_neg x]
      exact W.ma ⟨b.1, b.2.1, by omega⟩
theorem RW.mh {J : zJ} {h : Int → Int} {w : Int} (W : RW (J 19) h) (b : (0 ≤ h 9 ∧ h 9 ≤ 8) ∧ (0 ≤ h 26 ∧ h 26 ≤ 12) ∧ (0 ≤ h 40 ∧ h 40 ≤ 9)) (hw : 0 ≤ w ∧ w < h 40) : RW (zaM (zdM (zup J 19 2 (zw (J 19 2 + 1))) w) (J 19 (43 + w)) (J 19 (52 + w)) 19) (mhO h w) := by
  obtain ⟨⟨a1, a2, a3⟩, ⟨b1, b2⟩, ⟨c1, c2⟩, ⟨d1, d2⟩, v⟩ := W
  have y := d2 w hw.1 hw.2
  have z2 : zw (J 19 2 + 1) = zw (h 61 + 1) := by rw [a2]
  have W1 : RW (zup J 19 2 (zw (J 19 2 + 1)) 19) (fun k => if k = 61 then zw (h 61 + 1) else h k) := by
    have e : ∀ k, zup J 19 2 (zw (J 19 2 + 1)) 19 k = if k = 2 then zw (h 61 + 1) else J 19 k := fun k => by rw [z2]; rfl
    refine ⟨⟨?_, ?_, ?_⟩, ⟨?_, fun i p q => ?_⟩, ⟨?_, fun i p q => ?_⟩, ⟨?_, fun i p q => ?_⟩, fun i p q => ?_⟩
    · rw [e, if_neg (by decide)]; exact a1
    · rw [e, if_pos rfl]; rfl
    · rw [e, if_neg (by decide)]; exact a3
    · rw [e, if_neg (by decide)]; exact b1
    · have q' : i < h 9 := q
      have x := b2 i p q'
      rw [e, e, if_neg (by omega), if_neg (by omega)]
      dsimp only
      rw [if_neg (by omega), if_neg (by omega)]; exact x
    · rw [e, if_neg (by decide)]; exact c1
    · have q' : i < h 26 := q
      have x := c2 i p q'
      rw [e, if_neg (by omega)]
      dsimp only
      rw [if_neg (by omega)]; exact x
    · rw [e, if_neg (by decide)]; exact d1
    · have q' : i < h 40 := q
      have x := d2 i p q'
      rw [e, e, if_neg (by omega), if_neg (by omega)]
      dsimp only
      rw [if_neg (by omega), if_neg (by omega)]; exact x
    · have x := v i p q
      rw [e, if_neg (by omega)]
      dsimp only
      rw [if_neg (by omega)]; exact x
  have W2 := W1.ml (w := w) b hw
  unfold mhO
  rw [y.1, y.2]
  have m40 : mlO (fun k => if k = 61 then zw (h 61 + 1) else h k) w 40 = h 40 - 1 := if_pos rfl
  have h40 : (fun k : Int => if k = 61 then zw (h 61 + 1) else h k) 40 = h 40 := if_neg (by decide)
  have o9 : mlO (fun k => if k = 61 then zw (h 61 + 1) else h k) w 9 = h 9 := (mlO_o (h := fun k => if k = 61 then zw (h 61 + 1) else h k) (Or.inl (by decide)) ⟨hw.1, by rw [if_neg (by decide)]; exact b.2.2.2⟩).trans (if_neg (by decide))
  have o26 : mlO (fun k => if k = 61 then zw (h 61 + 1) else h k) w 26 = h 26 := (mlO_o (h := fun k => if k = 61 then zw (h 61 + 1) else h k) (Or.inl (by decide)) ⟨hw.1, by rw [if_neg (by decide)]; exact b.2.2.2⟩).trans (if_neg (by decide))
  exact W2.ma ⟨by rw [o9]; exact b.1, by rw [o26]; exact b.2.1, by rw [m40]; omega⟩
