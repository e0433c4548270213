/-! ===== rings of bindings, as a property ===== -/
theorem Occ.iff {J : zJ} {b d t v : Int} : Occ J b d t v ↔ (J 166 (b + t) < 0 ∧ v = -1 - J 166 (b + t)) ∨ ∃ i, (0 ≤ i ∧ i < mar J b d t) ∧ Occ J b d (J 167 (3 * (b + t) + i)) v := by
  constructor
  · rintro ⟨k, o⟩
    cases k with
    | zero => exact o.elim
    | succ k => exact o.imp id (fun ⟨i, hi, o⟩ => ⟨i, hi, k, o⟩)
  · rintro (⟨a, e⟩ | ⟨i, hi, o⟩)
    · rw [e]; exact Occ.v a
    · exact Occ.a hi o
theorem bt_z {v : Int} (h : 0 ≤ v ∧ v < 8) : ¬ bt 0 v := by
  have h1 : v = 0 ∨ v = 1 ∨ v = 2 ∨ v = 3 ∨ v = 4 ∨ v = 5 ∨ v = 6 ∨ v = 7 := by omega
  rcases h1 with h1 | h1 | h1 | h1 | h1 | h1 | h1 | h1 <;> (subst h1; unfold bt; decide)
theorem bt_shlI {u v : Int} (hu : 0 ≤ u ∧ u < 8) (hv : 0 ≤ v ∧ v < 8) : bt (zshl 1 u) v ↔ v = u := by
  have h1 : v = 0 ∨ v = 1 ∨ v = 2 ∨ v = 3 ∨ v = 4 ∨ v = 5 ∨ v = 6 ∨ v = 7 := by omega
  have h2 : u = 0 ∨ u = 1 ∨ u = 2 ∨ u = 3 ∨ u = 4 ∨ u = 5 ∨ u = 6 ∨ u = 7 := by omega
  rcases h1 with h1 | h1 | h1 | h1 | h1 | h1 | h1 | h1 <;> subst h1 <;> rcases h2 with h2 | h2 | h2 | h2 | h2 | h2 | h2 | h2 <;> subst h2 <;> (unfold bt; decide)
theorem bt_and3r {a b c v : Int} (h : zand (zand (zand (zshr a v) (zshr b v)) (zshr c v)) 1 = 1) : bt a v ∧ bt b v ∧ bt c v := by
  have h' : ((Int32.ofInt a >>> (Int32.ofInt v &&& 31)) &&& 1) &&& ((Int32.ofInt b >>> (Int32.ofInt v &&& 31)) &&& 1) &&& ((Int32.ofInt c >>> (Int32.ofInt v &&& 31)) &&& 1) = 1 := by
    rw [← i1_and, ← i1_and]
    unfold zand zshr at h
    simp only [Int32.ofInt_toInt] at h
    rw [show Int32.ofInt 1 = 1 from rfl] at h
    exact Int32.toInt_inj.1 (h.trans rfl)
  rw [bt_iff, bt_iff, bt_iff]
  rcases i1_01 (Int32.ofInt a >>> (Int32.ofInt v &&& 31)) with h1 | h1 <;> rcases i1_01 (Int32.ofInt b >>> (Int32.ofInt v &&& 31)) with h2 | h2 <;> rcases i1_01 (Int32.ofInt c >>> (Int32.ofInt v &&& 31)) with h3 | h3 <;> rw [h1, h2, h3] at h' <;> rw [h1, h2, h3] <;> first | exact ⟨rfl, rfl, rfl⟩ | exact absurd h' (by decide)
/-- the class's table and the function's, a term -/
theorem A0.tm {J S : zJ} {m t : Int} (E : A0 J S) (C : CT J m) (hm : J 6 12 = m) (ht : 0 ≤ t ∧ t < m) : S 166 (0 + t) = J 7 t ∧ mar S 0 0 t = J 8 t ∧ ∀ i, 0 ≤ i → i < J 8 t → S 167 (3 * (0 + t) + i) = J 9 (t * 3 + i) := by
  have e6 := E.2.1
  have hd := (C.ar ht.1 ht.2).2.2
  have h7 : S 166 (0 + t) = J 7 t := (E.2.2.1 t ht.1 (by omega)).1.symm
  refine ⟨h7, ?_, fun i a b => (E.2.2.2 t i ht.1 (by omega) a b).symm⟩
  show arh (fun k => S 170 (0 + k)) (S 166 (0 + t)) = _
  rw [h7, (C.2.1 t ht.1 ht.2).1.1]
  exact E.ar hd.2
theorem A0.ocx {J S : zJ} {m : Int} (E : A0 J S) (C : CT J m) (hm : J 6 12 = m) : ∀ (n : Nat) (t : Int), (0 ≤ t ∧ t < m) → J 12 t ≤ n → ∀ v, (0 ≤ v ∧ v < 8) → (bt (J 13 t) v ↔ Occ S 0 0 t v)
  | 0, t, ht, hd, v, hv => by have := (C.nums ht.1 ht.2).2.2; omega
  | n + 1, t, ht, hd, v, hv => by
    obtain ⟨e1, e2, e3⟩ := E.tm C hm ht
    have h13 := (C.2.1 t ht.1 ht.2).1.2.2.2
    have ha := C.ar ht.1 ht.2
    have g : ∀ i, 0 ≤ i → i < J 8 t → (bt (J 13 (J 9 (t * 3 + i))) v ↔ Occ S 0 0 (S 167 (3 * (0 + t) + i)) v) := fun i a b => by
      have := C.arg ht.1 ht.2 a b
      rw [e3 i a b]
      exact A0.ocx E C hm n _ ⟨this.1.1, by omega⟩ (by omega) v hv
    rw [Occ.iff, e1, e2, h13]
    have z0 : bt (zv0 J t) v ↔ (J 7 t < 0 ∧ v = -1 - J 7 t) := by
      unfold zv0
      by_cases q : J 7 t < 0
      · rw [if_pos q, z_nn ⟨ha.2.2.1, q⟩, bt_shlI (by omega) hv]
        exact ⟨fun w => ⟨q, w⟩, fun w => w.2⟩
      · rw [if_neg q]
        exact ⟨fun w => absurd w (bt_z hv), fun w => absurd w.1 q⟩
    unfold zv3
    by_cases h0 : J 8 t ≤ 0
    · rw [if_pos h0, z0]
      exact ⟨Or.inl, fun q => q.elim id (fun ⟨i, hi, _⟩ => by omega)⟩
    · rw [if_neg h0]
      have g0 := g 0 (by decide) (by omega)
      by_cases h1 : J 8 t ≤ 1
      · rw [if_pos h1, bt_or, z0, g0]
        refine or_congr Iff.rfl ⟨fun q => ⟨0, by omega, q⟩, fun ⟨i, hi, o⟩ => ?_⟩
        have : i = 0 := by omega
        subst this
        exact o
      · rw [if_neg h1]
        have g1 := g 1 (by decide) (by omega)
        by_cases h2 : J 8 t ≤ 2
        · rw [if_pos h2, bt_or, bt_or, z0, g0, g1, or_assoc]
          refine or_congr Iff.rfl ⟨fun q => q.elim (fun q => ⟨0, by omega, q⟩) (fun q => ⟨1, by omega, q⟩), fun ⟨i, hi, o⟩ => ?_⟩
          have : i = 0 ∨ i = 1 := by omega
          rcases this with this | this
          · subst this; exact Or.inl o
          · subst this; exact Or.inr o
        · rw [if_neg h2]
          have g2 := g 2 (by decide) (by omega)
          rw [bt_or, bt_or, bt_or, z0, g0, g1, g2, or_assoc, or_assoc]
          refine or_congr Iff.rfl ⟨fun q => q.elim (fun q => ⟨0, by omega, q⟩) (fun q => q.elim (fun q => ⟨1, by omega, q⟩) (fun q => ⟨2, by omega, q⟩)), fun ⟨i, hi, o⟩ => ?_⟩
          have : i = 0 ∨ i = 1 ∨ i = 2 := by omega
          rcases this with this | this | this
          · subst this; exact Or.inl o
          · subst this; exact Or.inr (Or.inl o)
          · subst this; exact Or.inr (Or.inr o)
theorem A0.oc {J S : zJ} {m t v : Int} (E : A0 J S) (C : CT J m) (hm : J 6 12 = m) (ht : 0 ≤ t ∧ t < m) (hv : 0 ≤ v ∧ v < 8) : bt (J 13 t) v ↔ Occ S 0 0 t v := E.ocx C hm (J 12 t).toNat t ht (by have := (C.nums ht.1 ht.2).2.2; omega) v hv
/-- what leads on: v is bound, and its term tells u -/
def WTb (S : zJ) (β : Int → Int) (rk : Int → Nat) (P : Int → Prop) : Prop := ∀ v, (0 ≤ v ∧ v < 8) → P v → ¬ β v = -1 → ∀ u, Occ S 0 0 (β v) u → P u ∧ (¬ β u = -1 → rk u < rk v)
/-- no ring from a term -/
def NRb (S : zJ) (β : Int → Int) (t : Int) : Prop := ∃ (rk : Int → Nat) (P : Int → Prop), (∀ v, rk v ≤ 8) ∧ (∀ v, Occ S 0 0 t v → P v) ∧ WTb S β rk P
/-- it surely leads on, by whatever shows that there is no ring -/
def SDb (S : zJ) (β : Int → Int) (v u : Int) : Prop := ¬ β v = -1 ∧ ∀ (rk : Int → Nat) (P : Int → Prop), WTb S β rk P → P v → P u ∧ (¬ β u = -1 → rk u < rk v)
theorem SDb.tr {S : zJ} {β : Int → Int} {v w u : Int} (h : SDb S β v w) (g : SDb S β w u) : SDb S β v u := ⟨h.1, fun rk P q p => by
  obtain ⟨a, b⟩ := h.2 rk P q p
  obtain ⟨c, d⟩ := g.2 rk P q a
  exact ⟨c, fun e => Nat.lt_trans (d e) (b g.1)⟩⟩
theorem SDb.b {S : zJ} {β : Int → Int} {v u : Int} (hv : 0 ≤ v ∧ v < 8) (h : ¬ β v = -1) (o : Occ S 0 0 (β v) u) : SDb S β v u := ⟨h, fun _ _ q p => q v hv p h u o⟩
/-- what comes of a term -/
def RTb (S : zJ) (β : Int → Int) (t u : Int) : Prop := Occ S 0 0 t u ∨ ∃ v, Occ S 0 0 t v ∧ SDb S β v u
theorem RTb.no {S : zJ} {β : Int → Int} {t u : Int} (h : RTb S β t u) (g : SDb S β u u) : ¬ NRb S β t := fun ⟨rk, P, _, h2, h3⟩ => by
  have pu : P u := h.elim (h2 u) (fun ⟨v, o, q⟩ => (q.2 rk P h3 (h2 v o)).1)
  exact Nat.lt_irrefl _ ((g.2 rk P h3 pu).2 g.1)
theorem MS.ocx {J : zJ} {s m : Int} (hM : MS J 0 0 0 s m) : ∀ (k : Nat) (t v : Int), (0 ≤ t ∧ t < m) → (occ (tb0 J) 0 0 k t v ↔ occ J 0 0 k t v)
  | 0, _, _, _ => Iff.rfl
  | k + 1, t, v, ht => by
    have hT := hM.told
    have e := hM.oa ht
    have e2 : mar (tb0 J) 0 0 t = mar J 0 0 t := e.2
    have h3 := (hM.ar ht).1
    unfold occ
    rw [e.1, e2]
    refine or_congr Iff.rfl ⟨fun ⟨i, hi, o⟩ => ⟨i, hi, ?_⟩, fun ⟨i, hi, o⟩ => ⟨i, hi, ?_⟩⟩
    · have a := (hM.arg ht hi).1
      rw [tb0_7, if_pos (by omega)] at o
      exact (MS.ocx hM k _ v ⟨a.1, by omega⟩).1 o
    · have a := (hM.arg ht hi).1
      rw [tb0_7, if_pos (by omega)]
      exact (MS.ocx hM k _ v ⟨a.1, by omega⟩).2 o
theorem MS.oc {J : zJ} {s m t v : Int} (hM : MS J 0 0 0 s m) (ht : 0 ≤ t ∧ t < m) : Occ (tb0 J) 0 0 t v ↔ Occ J 0 0 t v := ⟨fun ⟨k, o⟩ => ⟨k, (hM.ocx k t v ht).1 o⟩, fun ⟨k, o⟩ => ⟨k, (hM.ocx k t v ht).2 o⟩⟩
theorem NR.b {J : zJ} {β : Int → Int} {s m t : Int} (hM : MS J 0 0 0 s m) (hy : gOK (J 175) m) (hβ : ∀ v, 0 ≤ v → v < 8 → β v = J 175 v) (ht : 0 ≤ t ∧ t < m) (h : NR J 0 0 t) : NRb (tb0 J) β t := by
  obtain ⟨rk, P, h1, h2, h3⟩ := h
  refine ⟨rk, P, h1, fun v o => h2 v ((hM.oc ht).1 o), fun v hv p b u o => ?_⟩
  rw [hβ v hv.1 hv.2] at b o
  have y := hy v hv.1 hv.2
  have o1 := (hM.oc (by omega)).1 o
  have hu := o1.rg hM (by omega)
  rw [hβ u hu.1 hu.2]
  exact h3 v hv p b u o1
theorem NRb.cg {S : zJ} {β γ : Int → Int} {t : Int} (h : NRb S β t) (e : ∀ v, 0 ≤ v → v < 8 → γ v = β v) (hb : ∀ v u, (0 ≤ v ∧ v < 8) → ¬ β v = -1 → Occ S 0 0 (β v) u → 0 ≤ u ∧ u < 8) : NRb S γ t := by
  obtain ⟨rk, P, h1, h2, h3⟩ := h
  refine ⟨rk, P, h1, h2, fun v hv p b u o => ?_⟩
  rw [e v hv.1 hv.2] at b o
  have hu := hb v u hv b o
  rw [e u hu.1 hu.2]
  exact h3 v hv p b u o
theorem NRb.j {J : zJ} {β : Int → Int} {s m t : Int} (hM : MS J 0 0 0 s m) (hy : gOK (J 175) m) (hβ : ∀ v, 0 ≤ v → v < 8 → β v = J 175 v) (ht : 0 ≤ t ∧ t < m) (h : NRb (tb0 J) β t) : NR J 0 0 t := by
  obtain ⟨rk, P, h1, h2, h3⟩ := h
  refine ⟨rk, P, h1, fun v o => h2 v ((hM.oc ht).2 o), fun v hv p b u o => ?_⟩
  have y := hy v hv.1 hv.2
  have hu := o.rg hM (by omega)
  have o1 := (hM.oc (by omega)).2 o
  have b' := b
  rw [← hβ v hv.1 hv.2] at b' o1
  rw [← hβ u hu.1 hu.2]
  exact h3 v hv p b' u o1
