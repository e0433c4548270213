/-! ===== both sides behind a call ===== -/
def BO (J1 J2 : zJ) : Prop := ∃ S n R, CAL J1 S n R ∧ MBT J2 S ∧ MUr J2 n R
theorem CAL.mbt {J S : zJ} {n m : Int} {R : Int → Int → Int} (c : CAL J S n R) (hI : CI J m) (b : MBT J S) : CAL J (tbz J) n R := by
  obtain ⟨⟨⟨E0, E1⟩, e6, E2, E3⟩, W, U⟩ := c
  obtain ⟨⟨b9, bs⟩, b5, b6, b7⟩ := b
  have T := hI.1.1.1.told
  have ts := hI.1.1.1.told
  have hm := hI.1.1.2.1
  have z5 : ∀ k, 0 ≤ k → k < 63 → tbz J 165 k = S 165 k := fun k a c => (show tbz J 165 k = J 165 k from if_pos ⟨a, c⟩).trans (b5 k a c)
  have z0 := z5 0 (by decide) (by decide)
  refine ⟨⟨⟨E0.trans b9.symm, fun k a c => ?_⟩, e6.trans z0.symm, fun t a c => ?_, fun t i a c x y => ?_⟩, W.to hI.1.1.2.2 (fun k a c => z5 k (by omega) c), U⟩
  · have c' : k < J 164 9 := c
    have q := bs k a (by omega)
    obtain ⟨p1, p2, p3⟩ := E1 k a (by omega)
    rw [Int.zero_add] at p1 p2 p3 ⊢
    rw [show tbz J 169 k = J 169 k from if_pos ⟨a, by omega⟩, show tbz J 170 k = J 170 k from if_pos ⟨a, by omega⟩, show tbz J 171 k = J 171 k from if_pos ⟨a, by omega⟩, q.1, q.2.1, q.2.2]
    exact ⟨p1, p2, p3⟩
  · rw [z0] at c
    have q := b6 t a c
    obtain ⟨p1, p2⟩ := E2 t a c
    rw [Int.zero_add] at p1 p2 ⊢
    rw [show tbz J 166 t = J 166 t from if_pos ⟨a, by omega⟩, show tbz J 168 t = J 168 t from if_pos ⟨a, by omega⟩, q.1, q.2]
    exact ⟨p1, p2⟩
  · rw [z0] at c
    have ar := (hI.1.1.1.ar a (by omega)).1
    rw [show tbz J 167 (3 * (0 + t) + i) = J 167 (3 * (0 + t) + i) from if_pos ⟨by omega, by omega⟩, b7 _ (by omega) (by omega)]
    exact E3 t i a c x y
theorem tbz_hi {J1 J : zJ} (f : ∀ c, 164 ≤ c → c < 183 → J1 c = J c) : tbz J1 = tbz J := by
  have e : tb0 J1 = tb0 J := tb0_of (by rw [f 164 (by decide) (by decide)]) (by rw [f 164 (by decide) (by decide)]) (fun k _ _ => by rw [f 165 (by decide) (by decide)]) (fun k _ _ => ⟨by rw [f 166 (by decide) (by decide)], by rw [f 168 (by decide) (by decide)]⟩) (fun k _ _ => by rw [f 167 (by decide) (by decide)]) (fun k _ _ => ⟨by rw [f 169 (by decide) (by decide)], by rw [f 170 (by decide) (by decide)], by rw [f 171 (by decide) (by decide)]⟩)
  show zup (tb0 J1) 164 21 0 = zup (tb0 J) 164 21 0
  rw [e]
theorem al_eq {J : zJ} {n m : Int} {R : Int → Int → Int} (c : CAL J (tbz J) n R) (hI : CI J m) : J 1 3 = J 164 9 ∧ J 6 12 = J 165 0 ∧ J 19 1 = J 165 39 ∧ J 19 4 = J 165 9 ∧ J 19 5 = J 165 26 ∧ J 19 6 = J 165 40 ∧ (∀ v, 0 ≤ v → v < 8 → J 19 (7 + v) + 1 = J 165 (1 + v)) ∧ (∀ k, 0 ≤ k → k < J 164 9 → J 3 k = J 170 k) ∧ m = J 165 0 := by
  obtain ⟨⟨⟨E0, E1⟩, e6, E2, E3⟩, ⟨⟨w1, w2, w3⟩, ⟨w4, _⟩, ⟨w5, _⟩, ⟨w6, _⟩, wv⟩, U⟩ := c
  have ts := hI.1.1.1.told
  have hm := hI.1.1.2.1
  have E0' : J 1 3 = J 164 9 := E0
  have e6' : J 6 12 = J 165 0 := e6
  refine ⟨E0', e6', w1, w4, w5, w6, fun v a b => ?_, fun k a b => ?_, hm.symm.trans e6'⟩
  · rw [wv v a b]
    exact if_pos ⟨by omega, by omega⟩
  · have q := (E1 k a b).2.1
    rw [Int.zero_add] at q
    rw [q]
    exact if_pos ⟨a, by omega⟩
theorem ed_bo {S J1 J2 : zJ} {F : zJ × Int} {n z1 z2 : Int} {R : Int → Int → Int} (x : ED S n R F J1 z1) (y : MED S n R F J2 z2) : z1 = z2 ∧ BO J1 J2 := by
  rcases x with ⟨x1, x2, x3⟩ | ⟨x1, x2, x3⟩ <;> rcases y with ⟨y1, y2, y3, y4⟩ | ⟨y1, y2, y3, y4⟩
  · exact ⟨x2.trans y2.symm, S, n, R, x3, y3, y4⟩
  · exact absurd y1 x1
  · exact absurd x1 y1
  · exact ⟨x2.trans y2.symm, F.1, _, _, x3, y3, y4⟩
theorem bo2 {P Q : Prop} (pq : P ↔ Q) {S J1 J2 : zJ} {F F' : zJ × Int} {n z1 z2 a : Int} {R : Int → Int → Int} (eF : P → F = F') (x : (P ∧ ED S n R F J1 z1) ∨ (¬ P ∧ z1 = a ∧ CAL J1 S n R)) (y : (Q ∧ MED S n R F' J2 z2) ∨ (¬ Q ∧ z2 = a ∧ MBT J2 S ∧ MUr J2 n R)) : z1 = z2 ∧ BO J1 J2 := by
  rcases x with ⟨x1, x2⟩ | ⟨x1, x2, x3⟩ <;> rcases y with ⟨y1, y2⟩ | ⟨y1, y2, y3, y4⟩
  · rw [eF x1] at x2
    exact ed_bo x2 y2
  · exact absurd (pq.1 x1) y1
  · exact absurd (pq.2 y1) x1
  · exact ⟨x2.trans y2.symm, S, n, R, x3, y3, y4⟩
theorem ey_cm {J J1 : zJ} {n m t : Int} {R : Int → Int → Int} (c : CAL J (tbz J) n R) (hI : CI J m) (e : J1 165 = J 165) : eyC J t = eyM J1 t := by
  have w5 := c.2.1.2.2.1
  have l5 := hI.1.1.2.2.1.2.2.1
  have e5 : J 19 5 = J 165 26 := w5.1
  unfold eyC eyM
  rw [e, e5]
  refine fnB_cg (fun k a b => ?_)
  have b' : k < tbz J 165 26 := b
  rw [w5.2 k a b', show tbz J 165 (27 + k) = J 165 (27 + k) from if_pos ⟨by omega, by omega⟩]
/-- rules are rules on both sides -/
theorem cru_ma {J : zJ} {m u t : Int} (E : A0 J (tbz J)) (C : CT J m) (hm : J 6 12 = m) (hu : 0 ≤ u ∧ u < m) (ht : 0 ≤ t ∧ t < m) : mru J 0 0 u t ↔ cru J u t := by
  have T := C.told
  have ts := C.1.1.1
  obtain ⟨⟨e1, e0'⟩, ⟨e6', E2', E3'⟩⟩ := E
  have e1' : J 1 3 = J 164 9 := e1
  have e6 : J 6 12 = J 165 0 := e6'
  have e0 : ∀ k, 0 ≤ k → k < J 164 9 → J 2 k = J 169 (0 + k) ∧ J 3 k = J 170 (0 + k) ∧ J 4 k = J 171 (0 + k) := fun k a b => by
    have q := e0' k a b
    rw [show tbz J 169 (0 + k) = J 169 (0 + k) from if_pos ⟨by omega, by omega⟩, show tbz J 170 (0 + k) = J 170 (0 + k) from if_pos ⟨by omega, by omega⟩, show tbz J 171 (0 + k) = J 171 (0 + k) from if_pos ⟨by omega, by omega⟩] at q
    exact q
  have h6 : ∀ t, 0 ≤ t → t < m → J 166 (0 + t) = J 7 t := fun t a c => by
    have q := (E2' t a (show t < J 165 0 by omega)).1
    rw [show tbz J 166 (0 + t) = J 166 (0 + t) from if_pos ⟨by omega, by omega⟩] at q
    exact q.symm
  have E3 : ∀ t i, 0 ≤ t → t < m → 0 ≤ i → i < J 8 t → J 9 (t * 3 + i) = J 167 (3 * (0 + t) + i) := fun t i a c x y => by
    have ar := (C.ar a c).1
    have q := E3' t i a (show t < J 165 0 by omega) x y
    rw [show tbz J 167 (3 * (0 + t) + i) = J 167 (3 * (0 + t) + i) from if_pos ⟨by omega, by omega⟩] at q
    exact q
  have ha : ∀ t, 0 ≤ t → t < m → mar J 0 0 t = J 8 t := fun t a c => by
    have h7 := (C.ar a c).2.2
    unfold mar
    rw [h6 t a c, (C.2.1 t a c).1.1]
    exact arh_cg (fun q => ((e0 _ q (by omega)).2.1).symm)
  have hg : ∀ t, 0 ≤ t → t < m → ∀ i, 0 ≤ i → i < J 8 t → mag J 0 t i = cag J t i := fun t a c i x y => (E3 t i a c x y).symm
  have hgw : ∀ t, 0 ≤ t → t < m → mgw J 0 0 t = cgw J t := fun t a c => by
    have h7 := (C.ar a c).2.2
    unfold mgw cgw
    rw [h6 t a c]
    split
    · rfl
    · exact ((e0 _ (by omega) (by omega)).2.2).symm
  have hgc : ∀ v t, 0 ≤ t → t < m → mgc J 0 v t = cgc J v t := fun v t a c => by
    unfold mgc cgc
    rw [h6 t a c]
  have hw : ∀ t, 0 ≤ t → t < m → mwt J 0 0 t = cwt J t := fun t a c => sV_cg C.td hgw ha hg 6 t ⟨a, c⟩
  have hc : ∀ v t, 0 ≤ v → v < 8 → 0 ≤ t → t < m → mcn J 0 0 v t = ccn J v t := fun v t _ _ a c => sV_cg C.td (hgc v) ha hg 6 t ⟨a, c⟩
  have td' : TD m (mar J 0 0) (mag J 0) (J 12) := fun t x y => by
    obtain ⟨a, b, c⟩ := C.td t x y
    refine ⟨by rw [ha t x y]; exact a, b, fun i p q => ?_⟩
    rw [ha t x y] at q
    rw [hg t x y i p q]
    exact c i p q
  have hz : ∀ t, 0 ≤ t → t < m → msz J 0 0 t = J 10 t := fun t a c => by
    have h12 := (C.td t a c).2.1
    rw [C.sz ⟨a, c⟩]
    exact (tsz_sS td' 6 t ⟨a, c⟩ (by omega)).trans (sV_cg C.td (fun _ _ _ => rfl) ha hg 6 t ⟨a, c⟩)
  have hx : ∀ s t, 0 ≤ s → s < m → 0 ≤ t → t < m → J 7 s = J 7 t → J 8 s = J 8 t := fun s t a b c d e => by rw [(C.2.1 s a b).1.1, (C.2.1 t c d).1.1, e]
  have hgt := gtP_cg (cn := ccn J) (cn' := mcn J 0 0) (wt := cwt J) (wt' := mwt J 0 0) (hd := J 7) (hd' := fun t => J 166 (0 + t)) C.td hc hw h6 ha hg hx 6 u t hu ht
  unfold mru mgt cru cgt
  rw [h6 u hu.1 hu.2, hz u hu.1 hu.2, hz t ht.1 ht.2]
  exact ⟨fun ⟨a, b, c⟩ => ⟨a, hgt.1 b, c⟩, fun ⟨a, b, c⟩ => ⟨a, hgt.2 b, c⟩⟩
theorem mru_hi {J1 J : zJ} {u t : Int} (f : ∀ c, 164 ≤ c → c < 183 → J1 c = J c) : mru J1 0 0 u t = mru J 0 0 u t := by
  unfold mru mgt msz mwt mcn mgw mgc mag mar
  rw [f 166 (by decide) (by decide), f 167 (by decide) (by decide), f 170 (by decide) (by decide), f 171 (by decide) (by decide)]
theorem b_variable {J J1 J2 : zJ} {n m m2 z1 z2 a : Int} {R : Int → Int → Int} (c0 : CAL J (tbz J) n R) (hI : CI J m) (f : ∀ q, 164 ≤ q → q < 183 → J1 q = J q) (x : (((0 ≤ a ∧ a < 8) ∧ ED (tbz J) n R (tmO (tbz J) (-1 - a) 0 0 0) J1 z1) ∨ (¬ (0 ≤ a ∧ a < 8) ∧ z1 = -1 ∧ CAL J1 (tbz J) n R))) (y : (((0 ≤ a ∧ a < 8) ∧ MED (tbz J1) n R (tmO (tbz J1) (-1 - a) 0 0 0) J2 z2) ∨ (¬ (0 ≤ a ∧ a < 8) ∧ z2 = -1 ∧ MBT J2 (tbz J1) ∧ MUr J2 n R))) : z1 = z2 ∧ BO J1 J2 := by
  obtain ⟨E13, E6, E39, E9, E26, E40, Eb, Ea, Em⟩ := al_eq c0 hI
  rw [tbz_hi f] at y
  exact bo2 Iff.rfl (fun _ => rfl) x y
theorem b_make {J J1 J2 : zJ} {n m m2 z1 z2 a b c d : Int} {R : Int → Int → Int} (c0 : CAL J (tbz J) n R) (hI : CI J m) (f : ∀ q, 164 ≤ q → q < 183 → J1 q = J q) (x : ((((0 ≤ a ∧ a < J 1 3) ∧ (0 < J 3 a → 0 ≤ b ∧ b < J 6 12) ∧ (1 < J 3 a → 0 ≤ c ∧ c < J 6 12) ∧ (2 < J 3 a → 0 ≤ d ∧ d < J 6 12)) ∧ ED (tbz J) n R (tmO (tbz J) a b c d) J1 z1) ∨ (¬ ((0 ≤ a ∧ a < J 1 3) ∧ (0 < J 3 a → 0 ≤ b ∧ b < J 6 12) ∧ (1 < J 3 a → 0 ≤ c ∧ c < J 6 12) ∧ (2 < J 3 a → 0 ≤ d ∧ d < J 6 12)) ∧ z1 = -1 ∧ CAL J1 (tbz J) n R))) (y : ((((0 ≤ a ∧ a < J1 164 9) ∧ (0 < J1 170 a → 0 ≤ b ∧ b < J1 165 0) ∧ (1 < J1 170 a → 0 ≤ c ∧ c < J1 165 0) ∧ (2 < J1 170 a → 0 ≤ d ∧ d < J1 165 0)) ∧ MED (tbz J1) n R (tmO (tbz J1) a b c d) J2 z2) ∨ (¬ ((0 ≤ a ∧ a < J1 164 9) ∧ (0 < J1 170 a → 0 ≤ b ∧ b < J1 165 0) ∧ (1 < J1 170 a → 0 ≤ c ∧ c < J1 165 0) ∧ (2 < J1 170 a → 0 ≤ d ∧ d < J1 165 0)) ∧ z2 = -1 ∧ MBT J2 (tbz J1) ∧ MUr J2 n R))) : z1 = z2 ∧ BO J1 J2 := by
  obtain ⟨E13, E6, E39, E9, E26, E40, Eb, Ea, Em⟩ := al_eq c0 hI
  rw [tbz_hi f] at y
  rw [f 164 (by decide) (by decide), f 170 (by decide) (by decide), f 165 (by decide) (by decide)] at y
  refine bo2 ?_ (fun _ => rfl) x y
  rw [E13, E6]
  refine ⟨fun ⟨q, q0, q1, q2⟩ => ?_, fun ⟨q, q0, q1, q2⟩ => ?_⟩
  · have e := Ea a q.1 q.2
    exact ⟨q, fun w => q0 (by omega), fun w => q1 (by omega), fun w => q2 (by omega)⟩
  · have e := Ea a q.1 q.2
    exact ⟨q, fun w => q0 (by omega), fun w => q1 (by omega), fun w => q2 (by omega)⟩
theorem b_bind {J J1 J2 : zJ} {n m m2 z1 z2 a b : Int} {R : Int → Int → Int} (c0 : CAL J (tbz J) n R) (hI : CI J m) (f : ∀ q, 164 ≤ q → q < 183 → J1 q = J q) (x : ((((0 ≤ a ∧ a < 8) ∧ (b = -1 ∨ (0 ≤ b ∧ b < J 6 12)) ∧ ¬ J 19 (7 + a) = b) ∧ ED (tbz J) n R ((zbd (tbz J) a b, J 19 (7 + a))) J1 z1) ∨ (¬ ((0 ≤ a ∧ a < 8) ∧ (b = -1 ∨ (0 ≤ b ∧ b < J 6 12)) ∧ ¬ J 19 (7 + a) = b) ∧ z1 = -2 ∧ CAL J1 (tbz J) n R))) (y : ((((0 ≤ a ∧ a < 8) ∧ (b = -1 ∨ (0 ≤ b ∧ b < J1 165 0)) ∧ ¬ J1 165 (1 + a) = b + 1) ∧ MED (tbz J1) n R ((zbd (tbz J1) a b, J1 165 (1 + a) - 1)) J2 z2) ∨ (¬ ((0 ≤ a ∧ a < 8) ∧ (b = -1 ∨ (0 ≤ b ∧ b < J1 165 0)) ∧ ¬ J1 165 (1 + a) = b + 1) ∧ z2 = -2 ∧ MBT J2 (tbz J1) ∧ MUr J2 n R))) : z1 = z2 ∧ BO J1 J2 := by
  obtain ⟨E13, E6, E39, E9, E26, E40, Eb, Ea, Em⟩ := al_eq c0 hI
  rw [tbz_hi f] at y
  rw [f 165 (by decide) (by decide)] at y
  refine bo2 ?_ (fun q => ?_) x y
  · rw [E6]
    refine ⟨fun ⟨q, q0, q1⟩ => ?_, fun ⟨q, q0, q1⟩ => ?_⟩
    · have e := Eb a q.1 q.2
      exact ⟨q, q0, by omega⟩
    · have e := Eb a q.1 q.2
      exact ⟨q, q0, by omega⟩
  · have e := Eb a q.1.1 q.1.2
    exact Prod.ext rfl (show J 19 (7 + a) = J 165 (1 + a) - 1 by omega)
theorem b_room {J J1 J2 : zJ} {n m m2 z1 z2 a : Int} {R : Int → Int → Int} (c0 : CAL J (tbz J) n R) (hI : CI J m) (f : ∀ q, 164 ≤ q → q < 183 → J1 q = J q) (x : (((0 ≤ a ∧ a ≤ 9) ∧ ED (tbz J) n R ((zrm (tbz J) a, J 19 1)) J1 z1) ∨ (¬ (0 ≤ a ∧ a ≤ 9) ∧ z1 = -1 ∧ CAL J1 (tbz J) n R))) (y : (((0 ≤ a ∧ a ≤ 9) ∧ MED (tbz J1) n R ((zrm (tbz J1) a, J1 165 39)) J2 z2) ∨ (¬ (0 ≤ a ∧ a ≤ 9) ∧ z2 = -1 ∧ MBT J2 (tbz J1) ∧ MUr J2 n R))) : z1 = z2 ∧ BO J1 J2 := by
  obtain ⟨E13, E6, E39, E9, E26, E40, Eb, Ea, Em⟩ := al_eq c0 hI
  rw [tbz_hi f] at y
  rw [f 165 (by decide) (by decide)] at y
  exact bo2 Iff.rfl (fun _ => by rw [E39]) x y
theorem b_enter {J J1 J2 : zJ} {n m m2 z1 z2 a : Int} {R : Int → Int → Int} (c0 : CAL J (tbz J) n R) (hI : CI J m) (f : ∀ q, 164 ≤ q → q < 183 → J1 q = J q) (x : ((((0 ≤ a ∧ a < J 6 12) ∧ J 19 5 < 12 ∧ eyC J a = J 19 5) ∧ ED (tbz J) n R ((zen (tbz J) 0 a, J 19 5 + 1)) J1 z1) ∨ (¬ ((0 ≤ a ∧ a < J 6 12) ∧ J 19 5 < 12 ∧ eyC J a = J 19 5) ∧ z1 = -1 ∧ CAL J1 (tbz J) n R))) (y : ((((0 ≤ a ∧ a < J1 165 0) ∧ J1 165 26 < 12 ∧ eyM J1 a = J1 165 26) ∧ MED (tbz J1) n R ((zen (tbz J1) 0 a, J1 165 26 + 1)) J2 z2) ∨ (¬ ((0 ≤ a ∧ a < J1 165 0) ∧ J1 165 26 < 12 ∧ eyM J1 a = J1 165 26) ∧ z2 = -1 ∧ MBT J2 (tbz J1) ∧ MUr J2 n R))) : z1 = z2 ∧ BO J1 J2 := by
  obtain ⟨E13, E6, E39, E9, E26, E40, Eb, Ea, Em⟩ := al_eq c0 hI
  rw [tbz_hi f] at y
  rw [← ey_cm (t := a) c0 hI (f 165 (by decide) (by decide)), f 165 (by decide) (by decide)] at y
  refine bo2 ?_ (fun _ => by rw [E26]) x y
  rw [E6, E26]
theorem b_leave {J J1 J2 : zJ} {n m m2 z1 z2 a : Int} {R : Int → Int → Int} (c0 : CAL J (tbz J) n R) (hI : CI J m) (f : ∀ q, 164 ≤ q → q < 183 → J1 q = J q) (x : ((((0 ≤ a ∧ a < J 6 12) ∧ eyC J a < J 19 5) ∧ ED (tbz J) n R ((zlv (tbz J) (eyC J a), J 19 5 - 1)) J1 z1) ∨ (¬ ((0 ≤ a ∧ a < J 6 12) ∧ eyC J a < J 19 5) ∧ z1 = -1 ∧ CAL J1 (tbz J) n R))) (y : ((((0 ≤ a ∧ a < J1 165 0) ∧ eyM J1 a < J1 165 26) ∧ MED (tbz J1) n R ((zlv (tbz J1) (eyM J1 a), J1 165 26 - 1)) J2 z2) ∨ (¬ ((0 ≤ a ∧ a < J1 165 0) ∧ eyM J1 a < J1 165 26) ∧ z2 = -1 ∧ MBT J2 (tbz J1) ∧ MUr J2 n R))) : z1 = z2 ∧ BO J1 J2 := by
  obtain ⟨E13, E6, E39, E9, E26, E40, Eb, Ea, Em⟩ := al_eq c0 hI
  rw [tbz_hi f] at y
  rw [← ey_cm (t := a) c0 hI (f 165 (by decide) (by decide)), f 165 (by decide) (by decide)] at y
  refine bo2 ?_ (fun _ => by rw [E26]) x y
  rw [E6, E26]
theorem b_rules {J J1 J2 : zJ} {n m m2 z1 z2 a b : Int} {R : Int → Int → Int} (c0 : CAL J (tbz J) n R) (hI : CI J m) (f : ∀ q, 164 ≤ q → q < 183 → J1 q = J q) (x : (((J 19 4 < 8 ∧ ((0 ≤ a ∧ a < J 6 12) ∧ (0 ≤ b ∧ b < J 6 12)) ∧ cru J a b) ∧ ED (tbz J) n R ((zru (tbz J) a b, J 19 4 + 1)) J1 z1) ∨ (¬ (J 19 4 < 8 ∧ ((0 ≤ a ∧ a < J 6 12) ∧ (0 ≤ b ∧ b < J 6 12)) ∧ cru J a b) ∧ z1 = -1 ∧ CAL J1 (tbz J) n R))) (y : (((((0 ≤ a ∧ a < J1 165 0) ∧ (0 ≤ b ∧ b < J1 165 0)) ∧ J1 165 9 < 8 ∧ mru J1 0 0 a b) ∧ MED (tbz J1) n R ((zru (tbz J1) a b, J1 165 9 + 1)) J2 z2) ∨ (¬ (((0 ≤ a ∧ a < J1 165 0) ∧ (0 ≤ b ∧ b < J1 165 0)) ∧ J1 165 9 < 8 ∧ mru J1 0 0 a b) ∧ z2 = -1 ∧ MBT J2 (tbz J1) ∧ MUr J2 n R))) : z1 = z2 ∧ BO J1 J2 := by
  obtain ⟨E13, E6, E39, E9, E26, E40, Eb, Ea, Em⟩ := al_eq c0 hI
  rw [tbz_hi f] at y
  rw [mru_hi f, f 165 (by decide) (by decide)] at y
  refine bo2 ?_ (fun _ => by rw [E9]) x y
  have hC := hI.1.1.1
  have hm := hI.1.1.2.1
  rw [E6, E9]
  refine ⟨fun ⟨q, q0, q1⟩ => ⟨q0, q, (cru_ma c0.1 hC hm (by omega) (by omega)).2 q1⟩, fun ⟨q0, q, q1⟩ => ⟨q, q0, (cru_ma c0.1 hC hm (by omega) (by omega)).1 q1⟩⟩
theorem b_apply {J J1 J2 : zJ} {n m m2 z1 z2 a : Int} {R : Int → Int → Int} (c0 : CAL J (tbz J) n R) (hI : CI J m) (f : ∀ q, 164 ≤ q → q < 183 → J1 q = J q) (x : (((0 ≤ a ∧ a < J 6 12) ∧ ED (tbz J) n R (apO (bO (tbz J)) 6 (tbz J) a) J1 z1) ∨ (¬ (0 ≤ a ∧ a < J 6 12) ∧ z1 = -1 ∧ CAL J1 (tbz J) n R))) (y : (((0 ≤ a ∧ a < J1 165 0) ∧ MED (tbz J1) n R (apO (bO (tbz J1)) 6 (tbz J1) a) J2 z2) ∨ (¬ (0 ≤ a ∧ a < J1 165 0) ∧ z2 = -1 ∧ MBT J2 (tbz J1) ∧ MUr J2 n R))) : z1 = z2 ∧ BO J1 J2 := by
  obtain ⟨E13, E6, E39, E9, E26, E40, Eb, Ea, Em⟩ := al_eq c0 hI
  rw [tbz_hi f] at y
  rw [f 165 (by decide) (by decide)] at y
  exact bo2 (by rw [E6]) (fun _ => rfl) x y
theorem b_draw {J J1 J2 : zJ} {n m m2 z1 z2 a b : Int} {R : Int → Int → Int} (c0 : CAL J (tbz J) n R) (hI : CI J m) (f : ∀ q, 164 ≤ q → q < 183 → J1 q = J q) (x : (((1 ≤ b ∧ b ≤ 4) ∧ ED (tbz J) n R (drO b.toNat (tbz J) a).1 J1 z1) ∨ (¬ (1 ≤ b ∧ b ≤ 4) ∧ z1 = -1 ∧ CAL J1 (tbz J) n R))) (y : (((1 ≤ b ∧ b ≤ 4) ∧ MED (tbz J1) n R (drO b.toNat (tbz J1) a).1 J2 z2) ∨ (¬ (1 ≤ b ∧ b ≤ 4) ∧ z2 = -1 ∧ MBT J2 (tbz J1) ∧ MUr J2 n R))) : z1 = z2 ∧ BO J1 J2 := by
  obtain ⟨E13, E6, E39, E9, E26, E40, Eb, Ea, Em⟩ := al_eq c0 hI
  rw [tbz_hi f] at y
  exact bo2 Iff.rfl (fun _ => rfl) x y
theorem b_put {J J1 J2 : zJ} {n m m2 z1 z2 a b c : Int} {R : Int → Int → Int} (c0 : CAL J (tbz J) n R) (hI : CI J m) (f : ∀ q, 164 ≤ q → q < 183 → J1 q = J q) (x : ((((0 ≤ a ∧ a < J 6 12) ∧ (0 ≤ c ∧ c < J 6 12) ∧ 0 ≤ b ∧ b < msz (tbz J) 0 0 a) ∧ ED (tbz J) n R (puO c 6 (tbz J) a b) J1 z1) ∨ (¬ ((0 ≤ a ∧ a < J 6 12) ∧ (0 ≤ c ∧ c < J 6 12) ∧ 0 ≤ b ∧ b < msz (tbz J) 0 0 a) ∧ z1 = -1 ∧ CAL J1 (tbz J) n R))) (y : ((((0 ≤ a ∧ a < J1 165 0) ∧ (0 ≤ c ∧ c < J1 165 0) ∧ 0 ≤ b ∧ b < msz (tbz J1) 0 0 a) ∧ MED (tbz J1) n R (puO c 6 (tbz J1) a b) J2 z2) ∨ (¬ ((0 ≤ a ∧ a < J1 165 0) ∧ (0 ≤ c ∧ c < J1 165 0) ∧ 0 ≤ b ∧ b < msz (tbz J1) 0 0 a) ∧ z2 = -1 ∧ MBT J2 (tbz J1) ∧ MUr J2 n R))) : z1 = z2 ∧ BO J1 J2 := by
  obtain ⟨E13, E6, E39, E9, E26, E40, Eb, Ea, Em⟩ := al_eq c0 hI
  rw [tbz_hi f] at y
  rw [f 165 (by decide) (by decide)] at y
  exact bo2 (by rw [E6]) (fun _ => rfl) x y
theorem b_undo {J J1 J2 : zJ} {n m m2 z1 z2 : Int} {R : Int → Int → Int} (c0 : CAL J (tbz J) n R) (hI : CI J m) (f : ∀ q, 164 ≤ q → q < 183 → J1 q = J q) (x : ((n = 0 ∧ z1 = -1 ∧ CAL J1 (tbz J) n R) ∨ (0 < n ∧ z1 = n - 1 ∧ CAL J1 (zun (tbz J) (R (n - 1))) (n - 1) R))) (y : ((n = 0 ∧ z2 = -1 ∧ MBT J2 (tbz J1) ∧ MUr J2 n R) ∨ (0 < n ∧ z2 = n - 1 ∧ MBT J2 (zun (tbz J1) (R (n - 1))) ∧ MUr J2 (n - 1) R))) : z1 = z2 ∧ BO J1 J2 := by
  obtain ⟨E13, E6, E39, E9, E26, E40, Eb, Ea, Em⟩ := al_eq c0 hI
  rw [tbz_hi f] at y
  rcases x with ⟨x1, x2, x3⟩ | ⟨x1, x2, x3⟩ <;> rcases y with ⟨y1, y2, y3, y4⟩ | ⟨y1, y2, y3, y4⟩
  · exact ⟨x2.trans y2.symm, _, _, _, x3, y3, y4⟩
  · omega
  · omega
  · exact ⟨x2.trans y2.symm, _, _, _, x3, y3, y4⟩
theorem b_match {J J1 J2 : zJ} {n m m2 z1 z2 a b : Int} {R : Int → Int → Int} (c0 : CAL J (tbz J) n R) (hI : CI J m) (f : ∀ q, 164 ≤ q → q < 183 → J1 q = J q) (x : ((((0 ≤ a ∧ a < J 6 12) ∧ (0 ≤ b ∧ b < J 6 12)) ∧ (omt (tbz J) a b).1 = true ∧ ED (tbz J) n R (zmt (tbz J) (omt (tbz J) a b).2, 1) J1 z1) ∨ (((0 ≤ a ∧ a < J 6 12) ∧ (0 ≤ b ∧ b < J 6 12)) ∧ (omt (tbz J) a b).1 = false ∧ z1 = 0 ∧ CAL J1 (tbz J) n R) ∨ (¬ ((0 ≤ a ∧ a < J 6 12) ∧ (0 ≤ b ∧ b < J 6 12)) ∧ z1 = -1 ∧ CAL J1 (tbz J) n R))) (y : ((((0 ≤ a ∧ a < J1 165 0) ∧ (0 ≤ b ∧ b < J1 165 0)) ∧ (omt (tbz J1) a b).1 = true ∧ MED (tbz J1) n R (zmt (tbz J1) (omt (tbz J1) a b).2, 1) J2 z2) ∨ (((0 ≤ a ∧ a < J1 165 0) ∧ (0 ≤ b ∧ b < J1 165 0)) ∧ (omt (tbz J1) a b).1 = false ∧ z2 = 0 ∧ MBT J2 (tbz J1) ∧ MUr J2 n R) ∨ (¬ ((0 ≤ a ∧ a < J1 165 0) ∧ (0 ≤ b ∧ b < J1 165 0)) ∧ z2 = -1 ∧ MBT J2 (tbz J1) ∧ MUr J2 n R))) : z1 = z2 ∧ BO J1 J2 := by
  obtain ⟨E13, E6, E39, E9, E26, E40, Eb, Ea, Em⟩ := al_eq c0 hI
  rw [tbz_hi f] at y
  rw [f 165 (by decide) (by decide)] at y
  rw [E6] at x
  rcases x with ⟨x0, x1, x2⟩ | ⟨x0, x1, x2, x3⟩ | ⟨x0, x2, x3⟩ <;> rcases y with ⟨y0, y1, y2⟩ | ⟨y0, y1, y2, y3, y4⟩ | ⟨y0, y2, y3, y4⟩
  · exact ed_bo x2 y2
  · rw [x1] at y1; cases y1
  · exact absurd x0 y0
  · rw [x1] at y1; cases y1
  · exact ⟨x2.trans y2.symm, _, _, _, x3, y3, y4⟩
  · exact absurd x0 y0
  · exact absurd y0 x0
  · exact absurd y0 x0
  · exact ⟨x2.trans y2.symm, _, _, _, x3, y3, y4⟩
theorem b_close {J J1 J2 : zJ} {n m m2 z1 z2 a : Int} {R : Int → Int → Int} (c0 : CAL J (tbz J) n R) (hI : CI J m) (f : ∀ q, 164 ≤ q → q < 183 → J1 q = J q) (x : (((0 ≤ a ∧ a < J 6 12) ∧ NRb (tbz J) (bO (tbz J)) a ∧ ED (tbz J) n R (cloF (tbz J) a) J1 z1) ∨ ((0 ≤ a ∧ a < J 6 12) ∧ ¬ NRb (tbz J) (bO (tbz J)) a ∧ z1 = -2 ∧ CAL J1 (tbz J) n R) ∨ (¬ (0 ≤ a ∧ a < J 6 12) ∧ z1 = -1 ∧ CAL J1 (tbz J) n R))) (y : (((0 ≤ a ∧ a < J1 165 0) ∧ NRb (tbz J1) (bO (tbz J1)) a ∧ MED (tbz J1) n R (cloF (tbz J1) a) J2 z2) ∨ ((0 ≤ a ∧ a < J1 165 0) ∧ ¬ NRb (tbz J1) (bO (tbz J1)) a ∧ z2 = -2 ∧ MBT J2 (tbz J1) ∧ MUr J2 n R) ∨ (¬ (0 ≤ a ∧ a < J1 165 0) ∧ z2 = -1 ∧ MBT J2 (tbz J1) ∧ MUr J2 n R))) : z1 = z2 ∧ BO J1 J2 := by
  obtain ⟨E13, E6, E39, E9, E26, E40, Eb, Ea, Em⟩ := al_eq c0 hI
  rw [tbz_hi f] at y
  rw [f 165 (by decide) (by decide)] at y
  rw [E6] at x
  rcases x with ⟨x0, x1, x2⟩ | ⟨x0, x1, x2, x3⟩ | ⟨x0, x2, x3⟩ <;> rcases y with ⟨y0, y1, y2⟩ | ⟨y0, y1, y2, y3, y4⟩ | ⟨y0, y2, y3, y4⟩
  · exact ed_bo x2 y2
  · exact absurd x1 y1
  · exact absurd x0 y0
  · exact absurd y1 x1
  · exact ⟨x2.trans y2.symm, _, _, _, x3, y3, y4⟩
  · exact absurd x0 y0
  · exact absurd y0 x0
  · exact absurd y0 x0
  · exact ⟨x2.trans y2.symm, _, _, _, x3, y3, y4⟩
