theorem rv_variable {J J1 : zJ} {n m m1 z1 a : Int} {R : Int → Int → Int} (c0 : CAL J (tbz J) n R) (hI : CI J m) (hI1 : CI J1 m1) (v : RVC J) (x : (((0 ≤ a ∧ a < 8) ∧ ED (tbz J) n R (tmO (tbz J) (-1 - a) 0 0 0) J1 z1) ∨ (¬ (0 ≤ a ∧ a < 8) ∧ z1 = -1 ∧ CAL J1 (tbz J) n R))) : RVC J1 := by
  rcases x with ⟨x0, x1⟩ | ⟨_, _, x1⟩
  · exact rv_ed c0 hI hI1 x1 EXA.tm.r v
  · exact rv_eq c0 hI hI1 x1 v
theorem rv_make {J J1 : zJ} {n m m1 z1 a b c d : Int} {R : Int → Int → Int} (c0 : CAL J (tbz J) n R) (hI : CI J m) (hI1 : CI J1 m1) (v : RVC J) (x : ((((0 ≤ a ∧ a < J 1 3) ∧ (0 < J 3 a → 0 ≤ b ∧ b < J 6 12) ∧ (1 < J 3 a → 0 ≤ c ∧ c < J 6 12) ∧ (2 < J 3 a → 0 ≤ d ∧ d < J 6 12)) ∧ ED (tbz J) n R (tmO (tbz J) a b c d) J1 z1) ∨ (¬ ((0 ≤ a ∧ a < J 1 3) ∧ (0 < J 3 a → 0 ≤ b ∧ b < J 6 12) ∧ (1 < J 3 a → 0 ≤ c ∧ c < J 6 12) ∧ (2 < J 3 a → 0 ≤ d ∧ d < J 6 12)) ∧ z1 = -1 ∧ CAL J1 (tbz J) n R))) : RVC J1 := by
  rcases x with ⟨x0, x1⟩ | ⟨_, _, x1⟩
  · exact rv_ed c0 hI hI1 x1 EXA.tm.r v
  · exact rv_eq c0 hI hI1 x1 v
theorem rv_bind {J J1 : zJ} {n m m1 z1 a b : Int} {R : Int → Int → Int} (c0 : CAL J (tbz J) n R) (hI : CI J m) (hI1 : CI J1 m1) (v : RVC J) (x : ((((0 ≤ a ∧ a < 8) ∧ (b = -1 ∨ (0 ≤ b ∧ b < J 6 12)) ∧ ¬ J 19 (7 + a) = b) ∧ ED (tbz J) n R ((zbd (tbz J) a b, J 19 (7 + a))) J1 z1) ∨ (¬ ((0 ≤ a ∧ a < 8) ∧ (b = -1 ∨ (0 ≤ b ∧ b < J 6 12)) ∧ ¬ J 19 (7 + a) = b) ∧ z1 = -2 ∧ CAL J1 (tbz J) n R))) : RVC J1 := by
  rcases x with ⟨x0, x1⟩ | ⟨_, _, x1⟩
  · exact rv_ed c0 hI hI1 x1 (EXR.bd x0.1) v
  · exact rv_eq c0 hI hI1 x1 v
theorem rv_room {J J1 : zJ} {n m m1 z1 a : Int} {R : Int → Int → Int} (c0 : CAL J (tbz J) n R) (hI : CI J m) (hI1 : CI J1 m1) (v : RVC J) (x : (((0 ≤ a ∧ a ≤ 9) ∧ ED (tbz J) n R ((zrm (tbz J) a, J 19 1)) J1 z1) ∨ (¬ (0 ≤ a ∧ a ≤ 9) ∧ z1 = -1 ∧ CAL J1 (tbz J) n R))) : RVC J1 := by
  rcases x with ⟨x0, x1⟩ | ⟨_, _, x1⟩
  · exact rv_ed c0 hI hI1 x1 EXR.rm v
  · exact rv_eq c0 hI hI1 x1 v
theorem rv_enter {J J1 : zJ} {n m m1 z1 a : Int} {R : Int → Int → Int} (c0 : CAL J (tbz J) n R) (hI : CI J m) (hI1 : CI J1 m1) (v : RVC J) (x : ((((0 ≤ a ∧ a < J 6 12) ∧ J 19 5 < 12 ∧ eyC J a = J 19 5) ∧ ED (tbz J) n R ((zen (tbz J) 0 a, J 19 5 + 1)) J1 z1) ∨ (¬ ((0 ≤ a ∧ a < J 6 12) ∧ J 19 5 < 12 ∧ eyC J a = J 19 5) ∧ z1 = -1 ∧ CAL J1 (tbz J) n R))) : RVC J1 := by
  rcases x with ⟨x0, x1⟩ | ⟨_, _, x1⟩
  · exact rv_ed c0 hI hI1 x1 (EXR.en (by have a := c0.2.1.2.2.1.1; have b := hI.1.1.2.2.1.2.2.1; omega)) v
  · exact rv_eq c0 hI hI1 x1 v
theorem rv_leave {J J1 : zJ} {n m m1 z1 a : Int} {R : Int → Int → Int} (c0 : CAL J (tbz J) n R) (hI : CI J m) (hI1 : CI J1 m1) (v : RVC J) (x : ((((0 ≤ a ∧ a < J 6 12) ∧ eyC J a < J 19 5) ∧ ED (tbz J) n R ((zlv (tbz J) (eyC J a), J 19 5 - 1)) J1 z1) ∨ (¬ ((0 ≤ a ∧ a < J 6 12) ∧ eyC J a < J 19 5) ∧ z1 = -1 ∧ CAL J1 (tbz J) n R))) : RVC J1 := by
  rcases x with ⟨x0, x1⟩ | ⟨_, _, x1⟩
  · exact rv_ed c0 hI hI1 x1 (EXR.lv (by unfold eyC; exact (fnB_rg hI.1.1.2.2.1.2.2.1.1).1)) v
  · exact rv_eq c0 hI hI1 x1 v
theorem rv_apply {J J1 : zJ} {n m m1 z1 a : Int} {R : Int → Int → Int} (c0 : CAL J (tbz J) n R) (hI : CI J m) (hI1 : CI J1 m1) (v : RVC J) (x : (((0 ≤ a ∧ a < J 6 12) ∧ ED (tbz J) n R (apO (bO (tbz J)) 6 (tbz J) a) J1 z1) ∨ (¬ (0 ≤ a ∧ a < J 6 12) ∧ z1 = -1 ∧ CAL J1 (tbz J) n R))) : RVC J1 := by
  rcases x with ⟨x0, x1⟩ | ⟨_, _, x1⟩
  · exact rv_ed c0 hI hI1 x1 (EXA.ap 6 _ _).r v
  · exact rv_eq c0 hI hI1 x1 v
theorem rv_draw {J J1 : zJ} {n m m1 z1 a b : Int} {R : Int → Int → Int} (c0 : CAL J (tbz J) n R) (hI : CI J m) (hI1 : CI J1 m1) (v : RVC J) (x : (((1 ≤ b ∧ b ≤ 4) ∧ ED (tbz J) n R (drO b.toNat (tbz J) a).1 J1 z1) ∨ (¬ (1 ≤ b ∧ b ≤ 4) ∧ z1 = -1 ∧ CAL J1 (tbz J) n R))) : RVC J1 := by
  rcases x with ⟨x0, x1⟩ | ⟨_, _, x1⟩
  · exact rv_ed c0 hI hI1 x1 (EXA.dr _ _ _).r v
  · exact rv_eq c0 hI hI1 x1 v
theorem rv_put {J J1 : zJ} {n m m1 z1 a b c : Int} {R : Int → Int → Int} (c0 : CAL J (tbz J) n R) (hI : CI J m) (hI1 : CI J1 m1) (v : RVC J) (x : ((((0 ≤ a ∧ a < J 6 12) ∧ (0 ≤ c ∧ c < J 6 12) ∧ 0 ≤ b ∧ b < msz (tbz J) 0 0 a) ∧ ED (tbz J) n R (puO c 6 (tbz J) a b) J1 z1) ∨ (¬ ((0 ≤ a ∧ a < J 6 12) ∧ (0 ≤ c ∧ c < J 6 12) ∧ 0 ≤ b ∧ b < msz (tbz J) 0 0 a) ∧ z1 = -1 ∧ CAL J1 (tbz J) n R))) : RVC J1 := by
  rcases x with ⟨x0, x1⟩ | ⟨_, _, x1⟩
  · exact rv_ed c0 hI hI1 x1 (EXA.pu 6 _ _ _).r v
  · exact rv_eq c0 hI hI1 x1 v
theorem rv_match {J J1 : zJ} {n m m1 z1 a b : Int} {R : Int → Int → Int} (c0 : CAL J (tbz J) n R) (hI : CI J m) (hI1 : CI J1 m1) (v : RVC J) (x : ((((0 ≤ a ∧ a < J 6 12) ∧ (0 ≤ b ∧ b < J 6 12)) ∧ (omt (tbz J) a b).1 = true ∧ ED (tbz J) n R (zmt (tbz J) (omt (tbz J) a b).2, 1) J1 z1) ∨ (((0 ≤ a ∧ a < J 6 12) ∧ (0 ≤ b ∧ b < J 6 12)) ∧ (omt (tbz J) a b).1 = false ∧ z1 = 0 ∧ CAL J1 (tbz J) n R) ∨ (¬ ((0 ≤ a ∧ a < J 6 12) ∧ (0 ≤ b ∧ b < J 6 12)) ∧ z1 = -1 ∧ CAL J1 (tbz J) n R))) : RVC J1 := by
  rcases x with ⟨_, _, x1⟩ | ⟨_, _, _, x1⟩ | ⟨_, _, x1⟩
  · exact rv_ed c0 hI hI1 x1 EXR.mt v
  · exact rv_eq c0 hI hI1 x1 v
  · exact rv_eq c0 hI hI1 x1 v
theorem rv_close {J J1 : zJ} {n m m1 z1 a : Int} {R : Int → Int → Int} (c0 : CAL J (tbz J) n R) (hI : CI J m) (hI1 : CI J1 m1) (v : RVC J) (x : (((0 ≤ a ∧ a < J 6 12) ∧ NRb (tbz J) (bO (tbz J)) a ∧ ED (tbz J) n R (cloF (tbz J) a) J1 z1) ∨ ((0 ≤ a ∧ a < J 6 12) ∧ ¬ NRb (tbz J) (bO (tbz J)) a ∧ z1 = -2 ∧ CAL J1 (tbz J) n R) ∨ (¬ (0 ≤ a ∧ a < J 6 12) ∧ z1 = -1 ∧ CAL J1 (tbz J) n R))) : RVC J1 := by
  rcases x with ⟨_, _, x1⟩ | ⟨_, _, _, x1⟩ | ⟨_, _, x1⟩
  · exact rv_ed c0 hI hI1 x1 (EXA.gr 6 _ _).r v
  · exact rv_eq c0 hI hI1 x1 v
  · exact rv_eq c0 hI hI1 x1 v
theorem rv_common {J J1 : zJ} {n m m1 z1 a b : Int} {R : Int → Int → Int} (c0 : CAL J (tbz J) n R) (hI : CI J m) (hI1 : CI J1 m1) (v : RVC J) (x : ((((0 ≤ a ∧ a < J 6 12) ∧ (0 ≤ b ∧ b < J 6 12)) ∧ (cpO 6 (tbz J) [] a b).2 = true ∧ ED (tbz J) n R (coO (cpO 6 (tbz J) [] a b).1 6 (tbz J) a b) J1 z1) ∨ (((0 ≤ a ∧ a < J 6 12) ∧ (0 ≤ b ∧ b < J 6 12)) ∧ (cpO 6 (tbz J) [] a b).2 = false ∧ z1 = -2 ∧ CAL J1 (tbz J) n R) ∨ (¬ ((0 ≤ a ∧ a < J 6 12) ∧ (0 ≤ b ∧ b < J 6 12)) ∧ z1 = -1 ∧ CAL J1 (tbz J) n R))) : RVC J1 := by
  rcases x with ⟨_, _, x1⟩ | ⟨_, _, _, x1⟩ | ⟨_, _, x1⟩
  · exact rv_ed c0 hI hI1 x1 (EXA.co 6 _ _ _).r v
  · exact rv_eq c0 hI hI1 x1 v
  · exact rv_eq c0 hI hI1 x1 v
theorem rv_unify {J J1 : zJ} {n m m1 z1 a b : Int} {R : Int → Int → Int} (c0 : CAL J (tbz J) n R) (hI : CI J m) (hI1 : CI J1 m1) (v : RVC J) (x : ((((0 ≤ a ∧ a < J 6 12) ∧ (0 ≤ b ∧ b < J 6 12)) ∧ UEX (tbz J) m a b ∧ NRQ (tbz J) m a b ∧ ∃ ρ bs, GSOL (tbz J) m a b ρ ∧ (∀ v, 0 ≤ v → v < 8 → (bt bs v ↔ Occ (tbz J) 0 0 a v ∨ Occ (tbz J) 0 0 b v)) ∧ ED (tbz J) n R (bnO ρ bs (tbz J) 8, 1) J1 z1) ∨ (((0 ≤ a ∧ a < J 6 12) ∧ (0 ≤ b ∧ b < J 6 12)) ∧ ¬ UEX (tbz J) m a b ∧ z1 = 0 ∧ CAL J1 (tbz J) n R) ∨ (((0 ≤ a ∧ a < J 6 12) ∧ (0 ≤ b ∧ b < J 6 12)) ∧ UEX (tbz J) m a b ∧ ¬ NRQ (tbz J) m a b ∧ z1 = 2 ∧ CAL J1 (tbz J) n R) ∨ (¬ ((0 ≤ a ∧ a < J 6 12) ∧ (0 ≤ b ∧ b < J 6 12)) ∧ z1 = -1 ∧ CAL J1 (tbz J) n R))) : RVC J1 := by
  rcases x with ⟨_, _, _, ρ, bs, _, _, x1⟩ | ⟨_, _, _, x1⟩ | ⟨_, _, _, _, x1⟩ | ⟨_, _, x1⟩
  · exact rv_ed c0 hI hI1 x1 (EXR.bn 8 (by decide)) v
  · exact rv_eq c0 hI hI1 x1 v
  · exact rv_eq c0 hI hI1 x1 v
  · exact rv_eq c0 hI hI1 x1 v
/-- a row that is kept, in general -/
theorem rv_keep {J J1 S S' : zJ} {n m m1 : Int} {R : Int → Int → Int} (c : CAL J S n R) (hI : CI J m) (hI1 : CI J1 m1) (c1 : CAL J1 S' (psn n) (psh n R (S 165))) (e : EXR S' S) (v : RVC J) : RVC J1 := by
  by_cases h : S' 164 21 = 0
  · exact rv_ed (F := (S', 0)) (z := 0) c hI hI1 (Or.inr ⟨h, rfl, c1⟩) e v
  · have E : A0 J1 (zup S' 164 21 0) := ⟨⟨c1.1.1.1, c1.1.1.2⟩, c1.1.2⟩
    exact rv_ed (F := (zup S' 164 21 0, 0)) (z := 0) c hI hI1 (Or.inr ⟨rfl, rfl, E, c1.2⟩) (EXR.tr EXA.fu.r e) v
theorem rv_normal {J J1 : zJ} {n m m1 z1 a : Int} {R : Int → Int → Int} (c0 : CAL J (tbz J) n R) (hI : CI J m) (hI1 : CI J1 m1) (v : RVC J) {J2 : zJ} {z2 : Int} (f : ∀ q, 164 ≤ q → q < 183 → J1 q = J q) (y : (((0 ≤ a ∧ a < J1 165 0) ∧ MRE (tbz J1) n R (nFN (tbz J1) 0 a) J2 z2) ∨ (¬ (0 ≤ a ∧ a < J1 165 0) ∧ z2 = -1 ∧ MBT J2 (tbz J1) ∧ MUr J2 n R))) (hr : tbz J 165 40 ≤ tbz J 165 39) (x : (((0 ≤ a ∧ a < J 6 12) ∧ ((nFN (tbz J) 0 a).2.1 = [] → NRE (tbz J) n R (nFN (tbz J) 0 a) J1 z1)) ∨ (¬ (0 ≤ a ∧ a < J 6 12) ∧ z1 = -1 ∧ CAL J1 (tbz J) n R))) : RVC J1 := by
  have E6 := (al_eq c0 hI).2.1
  have e5 : J1 165 = J 165 := f 165 (by decide) (by decide)
  rw [tbz_hi f, e5] at y
  rcases x with ⟨x0, x1⟩ | ⟨_, _, x1⟩
  · rcases y with ⟨y0, yf, _⟩ | ⟨y0, _⟩
    · rcases x1 yf with ⟨_, _, p⟩ | ⟨_, _, p⟩ | ⟨_, _, p⟩
      · refine rv_keep c0 hI hI1 p (EXN.fn ⟨?_, ?_, ?_⟩).1 v
        · exact (c0.2.1.b hI.1.1.2.2).2.2.1
        · exact hr
        · exact (c0.2.1.r9 hI.1.1.2.2).2
      · exact rv_eq c0 hI hI1 p v
      · exact rv_eq c0 hI hI1 p v
    · exact absurd x0 (by omega)
  · exact rv_eq c0 hI hI1 x1 v
theorem zru_9 {S : zJ} {a b : Int} : zru S a b 165 9 = S 165 9 + 1 ∧ ∀ q, ¬ q = 9 → ¬ q = 40 → zru S a b 165 q = if q = 10 + 2 * S 165 9 + 1 then b else if q = 10 + 2 * S 165 9 then a else S 165 q := by
  refine ⟨rfl, fun q x y => ?_⟩
  show (if q = 40 then 0 else if q = 0 + 9 then _ else if q = 0 + 10 + 2 * S 165 (0 + 9) + 1 then b else if q = 0 + 10 + 2 * S 165 (0 + 9) then a else S 165 q) = _
  rw [if_neg y, if_neg (by omega), show S 165 (0 + 9) = S 165 9 from rfl, show (0 : Int) + 10 = 10 from rfl]
theorem rv_rules {J J1 : zJ} {n m m1 z1 a b : Int} {R : Int → Int → Int} (c0 : CAL J (tbz J) n R) (hI : CI J m) (hI1 : CI J1 m1) (v : RVC J) (x : (((J 19 4 < 8 ∧ ((0 ≤ a ∧ a < J 6 12) ∧ (0 ≤ b ∧ b < J 6 12)) ∧ cru J a b) ∧ ED (tbz J) n R ((zru (tbz J) a b, J 19 4 + 1)) J1 z1) ∨ (¬ (J 19 4 < 8 ∧ ((0 ≤ a ∧ a < J 6 12) ∧ (0 ≤ b ∧ b < J 6 12)) ∧ cru J a b) ∧ z1 = -1 ∧ CAL J1 (tbz J) n R))) : RVC J1 := by
  rcases x with ⟨⟨x0, x2, x3⟩, x1⟩ | ⟨_, _, x1⟩
  · rcases x1 with ⟨_, _, c1⟩ | ⟨_, _, c1⟩
    · exact rv_eq c0 hI hI1 c1 v
    · have v := c0.rv.1 v
      have hm := hI.1.1.2.1
      have c1 : CAL J1 (zru (tbz J) a b) (psn n) (psh n R (tbz J 165)) := c1
      obtain ⟨z9, zq⟩ := zru_9 (S := tbz J) (a := a) (b := b)
      have l4 := hI.1.1.2.2.1.2.1
      have w9 : J 19 4 = tbz J 165 9 := c0.2.1.2.1.1
      have x9 : EXT (zru (tbz J) a b) (tbz J) := ⟨by rw [zq 0 (by decide) (by decide), if_neg (by omega), if_neg (by omega)]; exact Int.le_refl _, fun _ _ _ => ⟨rfl, fun _ _ _ => rfl⟩, rfl, rfl⟩
      have g := c0.1.gro hI.1.1.1 hm c1.1 hI1.1.1.1 hI1.1.1.2.1 x9
      have w := RVS.to c0 hI v g
      obtain ⟨k1, k2, k3, k4⟩ := x3
      refine c1.rv.2 ⟨fun i p q => ?_, fun k p q => ?_⟩
      · rw [z9] at q
        rw [zq (10 + 2 * i) (by omega) (by omega), zq (10 + 2 * i + 1) (by omega) (by omega)]
        by_cases e : i = tbz J 165 9
        · subst e
          rw [if_neg (by omega), if_pos rfl, if_pos rfl, (g a x2.1.1 (by omega)).1, (g a x2.1.1 (by omega)).2, (g b x2.2.1 (by omega)).2]
          exact ⟨k1, k3, k4⟩
        · rw [if_neg (by omega), if_neg (by omega), if_neg (by omega), if_neg (by omega)]
          exact w.1 i p (by omega)
      · unfold psn at q
        unfold psh
        by_cases h : n < 40
        · rw [if_pos h] at q ⊢
          show RVh J1 (if k = n then tbz J 165 else R k)
          by_cases e : k = n
          · rw [if_pos e]; exact w.1
          · rw [if_neg e]; exact w.2 k p (by omega)
        · rw [if_neg h] at q ⊢
          show RVh J1 (if k = 39 then tbz J 165 else R (k + 1))
          by_cases e : k = 39
          · rw [if_pos e]; exact w.1
          · rw [if_neg e]; exact w.2 (k + 1) (by omega) (by omega)
  · exact rv_eq c0 hI hI1 x1 v
theorem rv_undo {J J1 : zJ} {n m m1 z1 : Int} {R : Int → Int → Int} (c0 : CAL J (tbz J) n R) (hI : CI J m) (hI1 : CI J1 m1) (v : RVC J) (x : ((n = 0 ∧ z1 = -1 ∧ CAL J1 (tbz J) n R) ∨ (0 < n ∧ z1 = n - 1 ∧ CAL J1 (zun (tbz J) (R (n - 1))) (n - 1) R))) : RVC J1 := by
  rcases x with ⟨_, _, c1⟩ | ⟨x0, _, c1⟩
  · exact rv_eq c0 hI hI1 c1 v
  · have v := c0.rv.1 v
    have hm := hI.1.1.2.1
    have hm1 := hI1.1.1.2.1
    have e6 := c0.2.2.1
    have e0 : J1 6 12 = zun (tbz J) (R (n - 1)) 165 0 := c1.1.2.1
    have e0' : zun (tbz J) (R (n - 1)) 165 0 = R (n - 1) 0 := (if_pos ⟨by decide, by decide⟩ : (if (0 : Int) ≤ 0 ∧ (0 : Int) < 63 then R (n - 1) 0 else tbz J 165 0) = R (n - 1) 0)
    obtain ⟨⟨l9, l0⟩, _⟩ := hI.2.2 (n - 1) (by omega) (by omega)
    have k0 := (c0.2.2.2 (n - 1) (by omega) (by omega)).2
    have g : ∀ t, 0 ≤ t → t < m1 → J1 7 t = J 7 t ∧ J1 10 t = J 10 t := fun t a b => by
      have E1 := c1.1
      have tm : t < m := by omega
      have h0 := (c0.1.2.2.1 t a (by have := c0.1.2.1; omega)).1
      have h1 := (E1.2.2.1 t a (by omega)).1
      have s0 := c0.1.sz hI.1.1.1 hm (t := t) ⟨a, tm⟩
      have s1 := E1.sz hI1.1.1.1 hm1 (t := t) ⟨a, b⟩
      exact ⟨h1.trans h0.symm, s1.symm.trans s0⟩
    refine c1.rv.2 ⟨?_, fun k p q => ?_⟩
    · have w := v.2 (n - 1) (by omega) (by omega)
      have lb := (c0.2.2.2 (n - 1) (by omega) (by omega)).1.lb l9
      have b9 := (c0.2.2.2 (n - 1) (by omega) (by omega)).1.b l9
      have w1 : RVh J1 (R (n - 1)) := w.to lb (fun t a b => g t a (by omega))
      have r : ∀ q, 0 ≤ q → q < 63 → zun (tbz J) (R (n - 1)) 165 q = R (n - 1) q := fun q a b => if_pos ⟨a, b⟩
      intro i p q
      rw [r 9 (by decide) (by decide)] at q
      rw [r (10 + 2 * i) (by omega) (by omega), r (10 + 2 * i + 1) (by omega) (by omega)]
      exact w1 i p q
    · obtain ⟨⟨lk, lk0⟩, mo⟩ := hI.2.2 k p (by omega)
      have m9 := mo (n - 1) (by omega) (by omega)
      exact (v.2 k p (by omega)).to ((c0.2.2.2 k p (by omega)).1.lb lk) (fun t a b => g t a (by omega))
