/-! ===== the memo of the reference on the shared row ===== -/
def clR (f : Int → Int) : Int → Int := fun k => if 0 ≤ k ∧ k < 63 then f k else 0
theorem clR_i {f : Int → Int} {k : Int} (h : 0 ≤ k ∧ k < 63) : clR f k = f k := if_pos h
theorem tb0_cl {J : zJ} : tb0 J 165 = clR (J 165) := funext fun k => tb0_5
theorem clR_ml {h : Int → Int} {w : Int} (b : 0 ≤ w ∧ 0 ≤ h 40 ∧ h 40 ≤ 9) : clR (mlO h w) = mlO (clR h) w := by
  have e40 : clR h 40 = h 40 := clR_i (by omega)
  funext k
  by_cases r : 0 ≤ k ∧ k < 63
  · rw [clR_i r]
    unfold mlO
    rw [e40]
    by_cases a : k = 40
    · rw [if_pos a, if_pos a]
    · rw [if_neg a, if_neg a]
      by_cases q : 41 + 2 * w ≤ k ∧ k < 41 + 2 * (h 40 - 1)
      · rw [if_pos q, if_pos q, clR_i (by omega)]
      · rw [if_neg q, if_neg q, clR_i r]
  · unfold mlO
    rw [e40, if_neg (by omega), if_neg (by omega)]
    unfold clR
    rw [if_neg r, if_neg r]
theorem clR_ma {h : Int → Int} {t z : Int} (b : 0 ≤ h 40 ∧ h 40 ≤ 8) : clR (maO h t z) = maO (clR h) t z := by
  have e40 : clR h 40 = h 40 := clR_i (by omega)
  funext k
  by_cases r : 0 ≤ k ∧ k < 63
  · rw [clR_i r]
    unfold maO
    rw [e40, clR_i r]
  · unfold maO
    rw [e40, if_neg (by omega), if_neg (by omega), if_neg (by omega)]
    unfold clR
    rw [if_neg r, if_neg r]
theorem clR_mg {h : Int → Int} {t z : Int} (b : 0 ≤ h 40 ∧ h 40 ≤ h 39 ∧ h 39 ≤ 9) : clR (mgO h t z) = mgO (clR h) t z := by
  have e40 : clR h 40 = h 40 := clR_i (by omega)
  have e39 : clR h 39 = h 39 := clR_i (by omega)
  unfold mgO
  rw [e40, e39]
  by_cases a : h 39 = 0
  · rw [if_pos a, if_pos a]
  · rw [if_neg a, if_neg a]
    by_cases c : h 40 = h 39
    · rw [if_pos c, if_pos c]
      have m40 : mlO h 0 40 = h 40 - 1 := if_pos rfl
      rw [clR_ma (by rw [m40]; omega), clR_ml (by omega)]
    · rw [if_neg c, if_neg c, clR_ma (by omega)]
/-- the memo told, on the shared state -/
theorem tb0_mg {J' J : zJ} {t z : Int} (f : zOf (zbut [165]) J' J) (e : J' 165 = mgO (J 165) t z) (b : 0 ≤ J 165 40 ∧ J 165 40 ≤ J 165 39 ∧ J 165 39 ≤ 9) : tb0 J' = sr (tb0 J) (mgO (tb0 J 165) t z) := by
  rw [tb0_row f, tb0_cl, e, clR_mg b, ← tb0_cl]
/-- one that was recalled: lost, got again, the hit counted -/
theorem mh_e {h : Int → Int} {w : Int} (b : h 40 ≤ h 39 ∧ h 39 ≤ 9) (hw : 0 ≤ w ∧ w < h 40) : (fun k => if k = 61 then zw (h 61 + 1) else mgO (mlO h w) (h (41 + 2 * w)) (h (41 + 2 * w + 1)) k) = mhO h w := by
  have m40 : mlO h w 40 = h 40 - 1 := if_pos rfl
  have m39 : mlO h w 39 = h 39 := mlO_o (Or.inl (by decide)) ⟨hw.1, by omega⟩
  have mg : mgO (mlO h w) (h (41 + 2 * w)) (h (41 + 2 * w + 1)) = maO (mlO h w) (h (41 + 2 * w)) (h (41 + 2 * w + 1)) := by
    unfold mgO
    rw [m39, m40, if_neg (by omega), if_neg (by omega)]
  rw [mg]
  funext k
  unfold mhO maO
  have n40 : mlO (fun k => if k = 61 then zw (h 61 + 1) else h k) w 40 = h 40 - 1 := if_pos rfl
  rw [m40, n40]
  by_cases a : k = 61
  · subst a
    rw [if_pos rfl, if_neg (by decide), if_neg (by omega), if_neg (by omega)]
    unfold mlO
    rw [if_neg (by decide), if_neg (by show ¬ (41 + 2 * w ≤ 61 ∧ 61 < 41 + 2 * ((if (40 : Int) = 61 then zw (h 61 + 1) else h 40) - 1)); rw [if_neg (by decide)]; omega)]
    rfl
  · rw [if_neg a]
    by_cases c : k = 40
    · rw [if_pos c, if_pos c]
    · rw [if_neg c, if_neg c]
      by_cases d : k = 41 + 2 * (h 40 - 1) + 1
      · rw [if_pos d, if_pos d]
      · rw [if_neg d, if_neg d]
        by_cases d' : k = 41 + 2 * (h 40 - 1)
        · rw [if_pos d', if_pos d']
        · rw [if_neg d', if_neg d']
          unfold mlO
          have o40 : (if (40 : Int) = 61 then zw (h 61 + 1) else h 40) = h 40 := if_neg (by decide)
          rw [if_neg c, if_neg c]
          dsimp only
          by_cases r : 41 + 2 * w ≤ k ∧ k < 41 + 2 * (h 40 - 1)
          · rw [if_pos r, if_pos (by rw [o40]; exact r), if_neg (by omega)]
          · rw [if_neg r, if_neg (by rw [o40]; exact r), if_neg a]
