/-! ===== putting a term at a place, as a function ===== -/
theorem A0.tsk {J G : zJ} {m : Int} (E : A0 J G) (C : CT J m) (hm : J 6 12 = m) : ∀ (k : Nat) (t : Int), (0 ≤ t ∧ t < m) → J 12 t ≤ k → tsz (mar G 0 0) (mag G 0) k t = J 10 t
  | 0, t, ht, h => by have := C.nums ht.1 ht.2; omega
  | k + 1, t, ht, h => by
    have e8 := (C.2.1 t ht.1 ht.2).1.1
    have hd := (C.ar ht.1 ht.2).2.2
    have eh : G 166 (0 + t) = J 7 t := (E.2.2.1 t ht.1 (by have := E.2.1; omega)).1.symm
    have eA : mar G 0 0 t = J 8 t := by
      show oar G (G 166 (0 + t)) = J 8 t
      rw [eh, E.ar hd.2, e8]
    have st : ∀ n : Nat, (n : Int) ≤ J 8 t → tps (tsz (mar G 0 0) (mag G 0) k) (mag G 0) t n = zfr J t n := fun n => by
      induction n with
      | zero => intro _; rfl
      | succ n ih =>
        intro hn
        show tps _ _ t n + _ = zfr J t n + J 10 (J 9 (t * 3 + n))
        have ea : mag G 0 t n = J 9 (t * 3 + n) := (E.2.2.2 t n ht.1 (by have := E.2.1; omega) (by omega) (by omega)).symm
        have hg := C.arg (t := t) (i := n) (by omega) (by omega) (by omega) (by omega)
        rw [ih (by omega), ea, A0.tsk E C hm k (J 9 (t * 3 + n)) (by omega) (by omega)]
    show tps _ _ t (mar G 0 0 t).toNat = _
    rw [eA, st _ (by have := (C.ar ht.1 ht.2).1; omega), zfr_end C ht.1 ht.2]
theorem A0.sz {J G : zJ} {m t : Int} (E : A0 J G) (C : CT J m) (hm : J 6 12 = m) (ht : 0 ≤ t ∧ t < m) : msz G 0 0 t = J 10 t := A0.tsk E C hm 6 t ht (by have := C.nums ht.1 ht.2; omega)
/-- where argument i begins -/
def pfr (G : zJ) (t : Int) (i : Nat) : Int := tps (msz G 0 0) (mag G 0) t i
/-- the argument that a place lies in -/
def puI (G : zJ) (t p : Int) : Int := if p < pfr G t 1 then 0 else if p < pfr G t 2 then 1 else 2
noncomputable def puR (T : zJ → Int → Int → zJ × Int) (G : zJ) (t p : Int) : zJ × Int := tmO (T G (mag G 0 t (puI G t p)) (p - pfr G t (puI G t p).toNat)).1 (G 166 (0 + t)) (if puI G t p = 0 then (T G (mag G 0 t (puI G t p)) (p - pfr G t (puI G t p).toNat)).2 else mag G 0 t 0) (if puI G t p = 1 then (T G (mag G 0 t (puI G t p)) (p - pfr G t (puI G t p).toNat)).2 else mag G 0 t 1) (if puI G t p = 2 then (T G (mag G 0 t (puI G t p)) (p - pfr G t (puI G t p).toNat)).2 else mag G 0 t 2)
noncomputable def puO (x : Int) : Nat → zJ → Int → Int → zJ × Int
  | 0, G, _, _ => (zup G 164 21 1, 0)
  | k + 1, G, t, p => if p ≤ 0 then (G, x) else puR (puO x k) G t p
theorem puO_s {x : Int} {k : Nat} {G : zJ} {t p : Int} : puO x (k + 1) G t p = if p ≤ 0 then (G, x) else puR (puO x k) G t p := rfl
theorem A0.pfr {J G : zJ} {m t : Int} (E : A0 J G) (C : CT J m) (hm : J 6 12 = m) (ht : 0 ≤ t ∧ t < m) : ∀ n : Nat, (n : Int) ≤ J 8 t → tps (msz G 0 0) (mag G 0) t n = zfr J t n
  | 0, _ => rfl
  | n + 1, hn => by
    show tps _ _ t n + _ = zfr J t n + J 10 (J 9 (t * 3 + n))
    have ea : mag G 0 t n = J 9 (t * 3 + n) := (E.2.2.2 t n ht.1 (by have := E.2.1; omega) (by omega) (by omega)).symm
    have hg := C.arg (t := t) (i := n) (by omega) (by omega) (by omega) (by omega)
    rw [A0.pfr E C hm ht n (by omega), ea, E.sz C hm (t := J 9 (t * 3 + n)) (by omega)]
theorem A0.puI {J G : zJ} {m t p i : Int} (E : A0 J G) (C : CT J m) (hm : J 6 12 = m) (ht : 0 ≤ t ∧ t < m) (hi : 0 ≤ i ∧ i < J 8 t) (h1 : zfr J t i.toNat ≤ p) (h2 : p < zfr J t (i + 1).toNat) : puI G t p = i := by
  have h8 := (C.ar ht.1 ht.2).1
  have f := E.pfr C hm ht
  have z1 := zfr_bd C ht.1 ht.2
  have mo : ∀ n : Nat, ((n + 1 : Nat) : Int) ≤ J 8 t → zfr J t n ≤ zfr J t (n + 1) := fun n hn => by
    have hg := C.arg (t := t) (i := n) (by omega) (by omega) (by omega) (by omega)
    have := C.nums (t := J 9 (t * 3 + n)) (by omega) (by omega)
    show _ ≤ zfr J t n + J 10 (J 9 (t * 3 + n))
    omega
  show (if p < tps (msz G 0 0) (mag G 0) t 1 then (0 : Int) else if p < tps (msz G 0 0) (mag G 0) t 2 then 1 else 2) = i
  rcases (show i = 0 ∨ i = 1 ∨ i = 2 by omega) with e | e | e
  · subst e
    rw [f 1 (by omega), if_pos (show p < zfr J t 1 from h2)]
  · subst e
    rw [f 1 (by omega), f 2 (by omega), if_neg (by have : zfr J t 1 ≤ p := h1; omega), if_pos (show p < zfr J t 2 from h2)]
  · subst e
    have m1 : zfr J t 1 ≤ zfr J t 2 := mo 1 (by omega)
    have h1 : zfr J t 2 ≤ p := h1
    rw [f 1 (by omega), f 2 (by omega), if_neg (by omega), if_neg (by omega)]
theorem pu_end {T : zJ → Int → Int → zJ × Int} {G J J1 J' : zJ} {t p i m m1 z1 a b c z : Int} (hG : G 164 21 = 0) (E : A0 J G) (C : CT J m) (hm : J 6 12 = m) (ht : 0 ≤ t ∧ t < m) (hi : 0 ≤ i ∧ i < J 8 t) (h1 : zfr J t i.toNat ≤ p) (h2 : p < zfr J t (i + 1).toNat) (g1 : GR J1 J m m1) (hz : z1 = -3 ∨ (0 ≤ z1 ∧ z1 < m1)) (x1 : ∀ S, S 164 21 = 0 → A0 J S → EXO (T S (J 9 (t * 3 + i)) (p - zfr J t i.toNat)) z1 J1) (q : madeP J1 m1 (J1 7 t) a b c z J') (ha : (i = 0 ∧ a = z1) ∨ (¬ i = 0 ∧ a = J1 9 (t * 3 + 0))) (hb : (i = 1 ∧ b = z1) ∨ (¬ i = 1 ∧ b = J1 9 (t * 3 + 1))) (hc : (i = 2 ∧ c = z1) ∨ (¬ i = 2 ∧ c = J1 9 (t * 3 + 2))) : EXO (puR T G t p) z J' := by
  have e8 := (C.2.1 t ht.1 ht.2).1.1
  have hd := (C.ar ht.1 ht.2).2.2
  have h8 := (C.ar ht.1 ht.2).1
  have l1 := g1.1
  have eh : G 166 (0 + t) = J 7 t := (E.2.2.1 t ht.1 (by have := E.2.1; omega)).1.symm
  have eI : puI G t p = i := E.puI C hm ht hi h1 h2
  have ef : pfr G t i.toNat = zfr J t i.toNat := E.pfr C hm ht i.toNat (by omega)
  have em : ∀ j, 0 ≤ j → j < J 8 t → mag G 0 t j = J 9 (t * 3 + j) := fun j x y => (E.2.2.2 t j ht.1 (by have := E.2.1; omega) x y).symm
  have e9 : ∀ j, 0 ≤ j → j < J 8 t → J1 9 (t * 3 + j) = J 9 (t * 3 + j) := fun j x y => g1.2.2.2.1.2 (t * 3 + j) (by omega) (by omega)
  have e7 : J1 7 t = J 7 t := (g1.2.2.2.1.1 t ht.1 ht.2).1
  have e3 : J1 3 = J 3 := g1.2.2.2.2 3 rfl
  have e1 : J1 1 = J 1 := g1.2.2.2.2 1 rfl
  have ea : arh (J1 3) (J 7 t) = J 8 t := by rw [e3, e8]
  rw [e7] at q
  unfold puR
  rw [eI, ef, em i hi.1 hi.2, eh]
  rcases x1 G hG E with ⟨u1, u2⟩ | ⟨u1, u2, u3, u4⟩
  · refine Or.inl ⟨made_neg q (fun k => ?_), ?_⟩
    · rw [ea] at k
      obtain ⟨k0, k1, k2⟩ := k
      omega
    · rw [tmO_f u2]; exact u2
  · have b0 : ∀ j, 0 ≤ j → j < J 8 t → 0 ≤ J 9 (t * 3 + j) ∧ J 9 (t * 3 + j) < m1 := fun j x y => by
      have := C.arg (t := t) (i := j) ht.1 ht.2 x y
      omega
    have := u3.made u2 g1.2.1 g1.2.2.1 (h := J 7 t) (a := a) (b := b) (c := c) (x := if i = 0 then (T G (J 9 (t * 3 + i)) (p - zfr J t i.toNat)).2 else mag G 0 t 0) (y := if i = 1 then (T G (J 9 (t * 3 + i)) (p - zfr J t i.toNat)).2 else mag G 0 t 1) (w := if i = 2 then (T G (J 9 (t * 3 + i)) (p - zfr J t i.toNat)).2 else mag G 0 t 2) (by rw [e1]; exact hd) (by
      rw [ea]
      refine ⟨fun u => ?_, fun u => ?_, fun u => ?_⟩
      · rcases ha with ⟨v, w⟩ | ⟨v, w⟩
        · rw [if_pos v, w, u4]
        · rw [if_neg v, w, em 0 (by omega) u, e9 0 (by omega) u]
      · rcases hb with ⟨v, w⟩ | ⟨v, w⟩
        · rw [if_pos v, w, u4]
        · rw [if_neg v, w, em 1 (by omega) u, e9 1 (by omega) u]
      · rcases hc with ⟨v, w⟩ | ⟨v, w⟩
        · rw [if_pos v, w, u4]
        · rw [if_neg v, w, em 2 (by omega) u, e9 2 (by omega) u]) (by
      rw [ea]
      refine ⟨fun u => ?_, fun u => ?_, fun u => ?_⟩
      · have := b0 0 (by omega) u
        have := e9 0 (by omega) u
        omega
      · have := b0 1 (by omega) u
        have := e9 1 (by omega) u
        omega
      · have := b0 2 (by omega) u
        have := e9 2 (by omega) u
        omega) q
    exact this.imp (fun u => ⟨u.1.2, u.2⟩) id
