/-! ===== acts of the reference, exact: how they end ===== -/
/-- the reference's tables, up to what is there, are those of S -/
def MBT (J S : zJ) : Prop := (J 164 9 = S 164 9 ∧ ∀ k, 0 ≤ k → k < 10 → J 169 k = S 169 k ∧ J 170 k = S 170 k ∧ J 171 k = S 171 k) ∧ (∀ k, 0 ≤ k → k < 63 → J 165 k = S 165 k) ∧ (∀ t, 0 ≤ t → t < S 165 0 → J 166 t = S 166 t ∧ J 168 t = S 168 t) ∧ (∀ k, 0 ≤ k → k < 3 * S 165 0 → J 167 k = S 167 k)
theorem MBT.tb {J S : zJ} (e : tb0 J = S) (hm : S 165 0 ≤ 400) : MBT J S := by
  subst e
  refine ⟨⟨rfl, fun k a b => ⟨?_, ?_, ?_⟩⟩, fun k a b => ?_, fun t a b => ⟨?_, ?_⟩, fun k a b => ?_⟩
  · show J 169 k = if 0 ≤ k ∧ k < 10 then J 169 k else 0
    rw [if_pos ⟨a, b⟩]
  · show J 170 k = if 0 ≤ k ∧ k < 10 then J 170 k else 0
    rw [if_pos ⟨a, b⟩]
  · show J 171 k = if 0 ≤ k ∧ k < 10 then J 171 k else 0
    rw [if_pos ⟨a, b⟩]
  · rw [tb0_5, if_pos ⟨a, b⟩]
  · rw [tb0_6, if_pos ⟨a, by omega⟩]
  · rw [tb0_8, if_pos ⟨a, by omega⟩]
  · rw [tb0_7, if_pos ⟨a, by omega⟩]
/-- the reference's kept rows -/
def MUr (J : zJ) (n : Int) (R : Int → Int → Int) : Prop := J 164 10 = n ∧ ∀ k, 0 ≤ k → k < n → ∀ q, 0 ≤ q → q < 63 → J 165 (189 + 63 * ((J 164 11 + k) % 40) + q) = R k q
theorem MUr.of {J' J : zJ} {n : Int} {R : Int → Int → Int} (u : MUr J n R) (e10 : J' 164 10 = J 164 10) (e11 : J' 164 11 = J 164 11) (e : ∀ k, 189 ≤ k → J' 165 k = J 165 k) : MUr J' n R := by
  refine ⟨by rw [e10]; exact u.1, fun k a b q c d => ?_⟩
  rw [e11, e _ (by omega)]
  exact u.2 k a b q c d
def MED (S : zJ) (n : Int) (R : Int → Int → Int) (F : zJ × Int) (J' : zJ) (z : Int) : Prop := (¬ F.1 164 21 = 0 ∧ z = -3 ∧ MBT J' S ∧ MUr J' n R) ∨ (F.1 164 21 = 0 ∧ z = F.2 ∧ MBT J' F.1 ∧ MUr J' (psn n) (psh n R (S 165)))
theorem tb0_bg {J : zJ} : tb0 (zbg J) = zup (tb0 J) 164 21 0 := by
  have f := zbg_of (J := J)
  funext c k
  by_cases h4 : c = 164
  · subst h4
    rw [tb0_4, zbg4]
    show _ = if k = 21 then 0 else if k = 9 ∨ k = 21 then J 164 k else 0
    (repeat' split) <;> first | rfl | omega
  · rw [zup_nc h4]
    unfold tb0
    rw [if_neg h4, if_neg h4]
    by_cases h5 : c = 165
    · rw [if_pos h5, if_pos h5]
      split
      · next q => exact zbg_r (by omega)
      · rfl
    · rw [if_neg h5, if_neg h5, f 167 rfl]
      by_cases hc : c = 166 ∨ c = 168
      · rw [if_pos hc, if_pos hc]
        rcases hc with hc | hc
        · rw [hc, f 166 rfl]
        · rw [hc, f 168 rfl]
      · rw [if_neg hc, if_neg hc]
        by_cases h7 : c = 167
        · rw [if_pos h7, if_pos h7]
        · rw [if_neg h7, if_neg h7]
          by_cases h9 : c = 169 ∨ c = 170 ∨ c = 171
          · rw [if_pos h9, if_pos h9]
            rcases h9 with h9 | h9 | h9
            · rw [h9, f 169 rfl]
            · rw [h9, f 170 rfl]
            · rw [h9, f 171 rfl]
          · rw [if_neg h9, if_neg h9]
/-- the image stays -/
def MFI (J' J : zJ) : Prop := (∀ k, 2709 ≤ k → J' 165 k = J 165 k) ∧ (∀ k, 400 ≤ k → k < 800 → J' 166 k = J 166 k ∧ J' 168 k = J 168 k) ∧ (∀ k, 1200 ≤ k → k < 2400 → J' 167 k = J 167 k) ∧ (J' 164 12 = J 164 12 ∧ J' 164 13 = J 164 13)
theorem MFI.tr {J3 J2 J1 : zJ} (g : MFI J2 J1) (h : MFI J3 J2) : MFI J3 J1 := ⟨fun k a => (h.1 k a).trans (g.1 k a), fun k a b => ⟨(h.2.1 k a b).1.trans (g.2.1 k a b).1, (h.2.1 k a b).2.trans (g.2.1 k a b).2⟩, fun k a b => (h.2.2.1 k a b).trans (g.2.2.1 k a b), h.2.2.2.1.trans g.2.2.2.1, h.2.2.2.2.trans g.2.2.2.2⟩
theorem MFI.z {J' J : zJ} (z : MZ J' J) : MFI J' J := ⟨fun k _ => by rw [z.1 165 rfl], fun k _ _ => ⟨by rw [z.1 166 rfl], by rw [z.1 168 rfl]⟩, fun k _ _ => by rw [z.1 167 rfl], z.2 12 (by decide) (by decide), z.2 13 (by decide) (by decide)⟩
theorem MFI.bg {J : zJ} : MFI (zbg J) J := ⟨fun k a => zbg_r (by omega), fun k _ _ => ⟨by rw [zbg_of 166 rfl], by rw [zbg_of 168 rfl]⟩, fun k _ _ => by rw [zbg_of 167 rfl], zbg_f (by decide) (by decide) (by decide), zbg_f (by decide) (by decide) (by decide)⟩
/-- what stays, and what the act's own work tells -/
def MOP (Jo Jb : zJ) (m : Int) : Prop := MFI Jo Jb ∧ (∀ k, 63 ≤ k → Jo 165 k = Jb 165 k) ∧ (Jo 164 9 = Jb 164 9 ∧ Jo 164 10 = Jb 164 10 ∧ Jo 164 11 = Jb 164 11) ∧ (∀ t, 0 ≤ t → t < m → Jo 166 t = Jb 166 t ∧ Jo 168 t = Jb 168 t) ∧ (∀ k, 0 ≤ k → k < 3 * m → Jo 167 k = Jb 167 k) ∧ (∀ k, 0 ≤ k → k < 10 → Jo 169 k = Jb 169 k ∧ Jo 170 k = Jb 170 k ∧ Jo 171 k = Jb 171 k)
theorem mact_end {Jb Jo J' S : zJ} {F : zJ × Int} {n m a z : Int} {R : Int → Int → Int} (hb : tb0 Jb = S) (hS : S 165 0 = m) (hm : m ≤ 400) (hA : ∀ q, 0 ≤ q → q < 63 → Jb 165 (63 + q) = S 165 q) (u : MUr Jb n R) (hn : 0 ≤ n ∧ n ≤ 40) (h11 : 0 ≤ Jb 164 11 ∧ Jb 164 11 < 40) (p : MOP Jo Jb m) (e : tb0 Jo = F.1) (hm' : F.1 165 0 ≤ 400) (ea : F.1 164 21 = 0 → a = F.2) (k : (¬ Jo 164 21 = 0 ∧ -3 = z ∧ zOf (zbut [172]) J' (zmv Jo 165 63 0 63)) ∨ (Jo 164 21 = 0 ∧ a = z ∧ ((¬ Jo 164 10 = 40 ∧ zkL Jo = J') ∨ (Jo 164 10 = 40 ∧ zkF Jo = J')))) : MED S n R F J' z ∧ MFI J' Jb := by
  obtain ⟨pf, p5, ⟨p9, p10, p11⟩, p6, p7, p0⟩ := p
  have e21 : F.1 164 21 = Jo 164 21 := by rw [← e]; rfl
  have mb := MBT.tb hb (by omega)
  have mo := MBT.tb e hm'
  have u0 := u.1
  rcases k with ⟨k1, k2, k3⟩ | ⟨k1, k2, k3⟩
  · refine ⟨Or.inl ⟨by rw [e21]; exact k1, k2.symm, ⟨⟨?_, fun k a b => ?_⟩, fun k a b => ?_, fun t a b => ?_, fun k a b => ?_⟩, u.of ?_ ?_ (fun k a => ?_)⟩, pf.tr ⟨fun k a => ?_, fun k _ _ => ⟨by rw [k3 166 rfl]; rfl, by rw [k3 168 rfl]; rfl⟩, fun k _ _ => by rw [k3 167 rfl]; rfl, by rw [k3 164 rfl]; rfl, by rw [k3 164 rfl]; rfl⟩⟩
    · rw [k3 164 rfl]; exact p9.trans mb.1.1
    · rw [k3 169 rfl, k3 170 rfl, k3 171 rfl]
      obtain ⟨q1, q2, q3⟩ := p0 k a b
      obtain ⟨r1, r2, r3⟩ := mb.1.2 k a b
      exact ⟨q1.trans r1, q2.trans r2, q3.trans r3⟩
    · rw [k3 165 rfl, zmv5, if_pos (by omega), show 63 + (k - 0) = 63 + k from by omega, p5 _ (by omega)]
      exact hA k a b
    · rw [k3 166 rfl, k3 168 rfl]
      obtain ⟨q1, q2⟩ := p6 t a (by omega)
      obtain ⟨r1, r2⟩ := mb.2.2.1 t a b
      exact ⟨q1.trans r1, q2.trans r2⟩
    · rw [k3 167 rfl]
      exact (p7 k a (by omega)).trans (mb.2.2.2 k a b)
    · rw [k3 164 rfl]; exact p10
    · rw [k3 164 rfl]; exact p11
    · rw [k3 165 rfl, zmv5, if_neg (by omega)]; exact p5 k (by omega)
    · rw [k3 165 rfl, zmv5, if_neg (by omega)]
  · have hr : ∀ q, 0 ≤ q → q < 63 → Jo 165 (63 + q) = S 165 q := fun q a b => (p5 _ (by omega)).trans (hA q a b)
    rcases k3 with ⟨k4, k5⟩ | ⟨k4, k5⟩
    · have f4 : ∀ k, ¬ k = 10 → J' 164 k = Jo 164 k := fun k q => by rw [← k5]; unfold zkL; rw [zup_ne q]; rfl
      have f10 : J' 164 10 = Jo 164 10 + 1 := by rw [← k5]; exact zup_at
      have f5 : ∀ k, J' 165 k = if 189 + 63 * ((Jo 164 11 + Jo 164 10) % 40) ≤ k ∧ k < 189 + 63 * ((Jo 164 11 + Jo 164 10) % 40) + 63 then Jo 165 (63 + (k - (189 + 63 * ((Jo 164 11 + Jo 164 10) % 40)))) else Jo 165 k := fun k => by rw [← k5]; rfl
      have fo : zOf (zbut [164, 165]) J' Jo := by rw [← k5]; exact zOf.up rfl (zOf.mv rfl zOf.rf)
      have et : tb0 J' = F.1 := by
        rw [← e]
        refine tb0_of (f4 9 (by decide)) (f4 21 (by decide)) (fun k a b => ?_) (fun k _ _ => ⟨by rw [fo 166 rfl], by rw [fo 168 rfl]⟩) (fun k _ _ => by rw [fo 167 rfl]) (fun k _ _ => ⟨by rw [fo 169 rfl], by rw [fo 170 rfl], by rw [fo 171 rfl]⟩)
        rw [f5, if_neg (by omega)]
      refine ⟨Or.inr ⟨by rw [e21]; exact k1, k2.symm.trans (ea (by rw [e21]; exact k1)), MBT.tb et hm', ?_⟩, pf.tr ⟨fun k a => by rw [f5, if_neg (by omega)], fun k _ _ => ⟨by rw [fo 166 rfl], by rw [fo 168 rfl]⟩, fun k _ _ => by rw [fo 167 rfl], f4 12 (by decide), f4 13 (by decide)⟩⟩
      unfold psn psh
      rw [if_pos (by omega), if_pos (by omega)]
      refine ⟨by omega, fun k a b q c d => ?_⟩
      rw [f4 11 (by decide), f5]
      dsimp only
      by_cases hk : k = n
      · subst hk
        rw [if_pos (by omega), if_pos rfl]
        rw [show 63 + (189 + 63 * ((Jo 164 11 + k) % 40) + q - (189 + 63 * ((Jo 164 11 + Jo 164 10) % 40))) = 63 + q from by omega]
        exact hr q c d
      · rw [if_neg (by omega), if_neg hk, p5 _ (by omega), p11]
        exact u.2 k a (by omega) q c d
    · have f4 : ∀ k, ¬ k = 10 → ¬ k = 11 → J' 164 k = Jo 164 k := fun k q r => by rw [← k5]; unfold zkF; rw [zup_ne q]; show zup (zup Jo 164 11 ((Jo 164 11 + 1) % 40)) 164 10 (Jo 164 10 - 1) 164 k = _; rw [zup_ne q, zup_ne r]
      have f10 : J' 164 10 = 40 := by rw [← k5]; unfold zkF; rw [zup_at]; omega
      have f11 : J' 164 11 = (Jo 164 11 + 1) % 40 := by rw [← k5]; unfold zkF; rw [zup_ne (by decide)]; rfl
      have f5 : ∀ k, J' 165 k = if 189 + 63 * (((Jo 164 11 + 1) % 40 + (Jo 164 10 - 1)) % 40) ≤ k ∧ k < 189 + 63 * (((Jo 164 11 + 1) % 40 + (Jo 164 10 - 1)) % 40) + 63 then Jo 165 (63 + (k - (189 + 63 * (((Jo 164 11 + 1) % 40 + (Jo 164 10 - 1)) % 40)))) else Jo 165 k := fun k => by rw [← k5]; rfl
      have fo : zOf (zbut [164, 165]) J' Jo := by rw [← k5]; exact zOf.up rfl (zOf.mv rfl (zOf.up rfl (zOf.up rfl zOf.rf)))
      have et : tb0 J' = F.1 := by
        rw [← e]
        refine tb0_of (f4 9 (by decide) (by decide)) (f4 21 (by decide) (by decide)) (fun k a b => ?_) (fun k _ _ => ⟨by rw [fo 166 rfl], by rw [fo 168 rfl]⟩) (fun k _ _ => by rw [fo 167 rfl]) (fun k _ _ => ⟨by rw [fo 169 rfl], by rw [fo 170 rfl], by rw [fo 171 rfl]⟩)
        rw [f5, if_neg (by omega)]
      refine ⟨Or.inr ⟨by rw [e21]; exact k1, k2.symm.trans (ea (by rw [e21]; exact k1)), MBT.tb et hm', ?_⟩, pf.tr ⟨fun k a => by rw [f5, if_neg (by omega)], fun k _ _ => ⟨by rw [fo 166 rfl], by rw [fo 168 rfl]⟩, fun k _ _ => by rw [fo 167 rfl], f4 12 (by decide) (by decide), f4 13 (by decide) (by decide)⟩⟩
      unfold psn psh
      rw [if_neg (by omega), if_neg (by omega)]
      refine ⟨f10, fun k a b q c d => ?_⟩
      rw [f11, f5]
      dsimp only
      by_cases hk : k = 39
      · subst hk
        rw [if_pos (by omega), if_pos rfl]
        rw [show 63 + (189 + 63 * (((Jo 164 11 + 1) % 40 + 39) % 40) + q - (189 + 63 * (((Jo 164 11 + 1) % 40 + (Jo 164 10 - 1)) % 40))) = 63 + q from by omega]
        exact hr q c d
      · rw [if_neg (by omega), if_neg hk, p5 _ (by omega), show ((Jo 164 11 + 1) % 40 + k) % 40 = (Jb 164 11 + (k + 1)) % 40 from by omega]
        exact u.2 (k + 1) (by omega) (by omega) q c d
