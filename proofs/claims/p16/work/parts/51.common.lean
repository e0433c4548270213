/-- a couple that is there -/
def inC (J : zJ) (s t : Int) : Prop := ∃ i, (0 ≤ i ∧ i < J 141 4) ∧ J 143 i = s ∧ J 144 i = t
/-- down to k levels: a couple, or one symbol and so on -/
def cpl (J : zJ) : Nat → Int → Int → Prop
  | 0, _, _ => True
  | k + 1, s, t => inC J s t ∨ (0 ≤ J 7 s ∧ J 7 s = J 7 t ∧ ∀ i, 0 ≤ i → i < J 8 s → cpl J k (J 9 (s * 3 + i)) (J 9 (t * 3 + i)))
theorem cpl.mono {J' J : zJ} {m : Int} (C : CT J m) (h7 : ∀ t, 0 ≤ t → t < m → J' 7 t = J 7 t ∧ J' 8 t = J 8 t) (h9 : ∀ k, 0 ≤ k → k < m * 3 → J' 9 k = J 9 k) (hi : ∀ s t, inC J s t → inC J' s t) : ∀ (k : Nat) (s t : Int), (0 ≤ s ∧ s < m) → (0 ≤ t ∧ t < m) → cpl J k s t → cpl J' k s t
  | 0, _, _, _, _, _ => trivial
  | k + 1, s, t, hs, ht, h => by
    rcases h with h | ⟨h1, h2, h3⟩
    · exact Or.inl (hi s t h)
    · obtain ⟨es7, es8⟩ := h7 s hs.1 hs.2
      obtain ⟨et7, et8⟩ := h7 t ht.1 ht.2
      refine Or.inr ⟨by omega, by omega, fun i a b => ?_⟩
      rw [es8] at b
      have ha := (C.ar hs.1 hs.2).1
      have hb := C.arh hs ht h2
      have hc := C.arg hs.1 hs.2 a b
      have hd := C.arg ht.1 ht.2 a (by omega)
      rw [h9 (s * 3 + i) (by omega) (by omega), h9 (t * 3 + i) (by omega) (by omega)]
      exact cpl.mono C h7 h9 hi k _ _ (by omega) (by omega) (h3 i a b)
theorem cpl.gx {X : List Nat} {J' J : zJ} {m m' : Int} (C : CT J m) (g : GX X J' J m m') (hX : zbut (6 :: 7 :: 8 :: 9 :: 10 :: 11 :: 12 :: 13 :: 14 :: 15 :: 16 :: 17 :: X) 141 = true ∧ zbut (6 :: 7 :: 8 :: 9 :: 10 :: 11 :: 12 :: 13 :: 14 :: 15 :: 16 :: 17 :: X) 143 = true ∧ zbut (6 :: 7 :: 8 :: 9 :: 10 :: 11 :: 12 :: 13 :: 14 :: 15 :: 16 :: 17 :: X) 144 = true) {k : Nat} {s t : Int} (hs : 0 ≤ s ∧ s < m) (ht : 0 ≤ t ∧ t < m) (h : cpl J k s t) : cpl J' k s t := by
  refine cpl.mono C (fun t a b => ⟨(g.2.2.2.1.1 t a b).1, (g.2.2.2.1.1 t a b).2.1⟩) g.2.2.2.1.2 (fun s t q => ?_) k s t hs ht h
  obtain ⟨i, a, b⟩ := q
  exact ⟨i, by rw [g.2.2.2.2 141 hX.1]; exact a, by rw [g.2.2.2.2 143 hX.2.1, g.2.2.2.2 144 hX.2.2]; exact b⟩
/-- more couples -/
def mC (J' J : zJ) : Prop := (0 ≤ J' 141 4 ∧ J' 141 4 ≤ 8) ∧ zOf (zbut [141, 143, 144]) J' J ∧ ∀ s t, inC J s t → inC J' s t
theorem mC.tr {J3 J2 J1 : zJ} (h : mC J3 J2) (g : mC J2 J1) : mC J3 J1 := ⟨h.1, h.2.1.tr g.2.1, fun s t q => h.2.2 s t (g.2.2 s t q)⟩
theorem mC.cpl {J' J : zJ} {m : Int} (C : CT J m) (h : mC J' J) {k : Nat} {s t : Int} (hs : 0 ≤ s ∧ s < m) (ht : 0 ≤ t ∧ t < m) (q : cpl J k s t) : cpl J' k s t :=
  cpl.mono C (fun t _ _ => ⟨congrFun (h.2.1 7 rfl) t, congrFun (h.2.1 8 rfl) t⟩) (fun k _ _ => congrFun (h.2.1 9 rfl) k) h.2.2 k s t hs ht q
theorem mC.add {J : zJ} {s t : Int} (h0 : 0 ≤ J 141 4 ∧ J 141 4 < 8) : mC (zup (zup (zup J 143 (J 141 4) s) 144 (J 141 4) t) 141 4 (J 141 4 + 1)) J ∧ inC (zup (zup (zup J 143 (J 141 4) s) 144 (J 141 4) t) 141 4 (J 141 4 + 1)) s t := by
  have e4 : zup (zup (zup J 143 (J 141 4) s) 144 (J 141 4) t) 141 4 (J 141 4 + 1) 141 4 = J 141 4 + 1 := zup_at
  have e3 : ∀ i, zup (zup (zup J 143 (J 141 4) s) 144 (J 141 4) t) 141 4 (J 141 4 + 1) 143 i = if i = J 141 4 then s else J 143 i := fun i => rfl
  have e2 : ∀ i, zup (zup (zup J 143 (J 141 4) s) 144 (J 141 4) t) 141 4 (J 141 4 + 1) 144 i = if i = J 141 4 then t else J 144 i := fun i => rfl
  refine ⟨⟨by rw [e4]; omega, zOf.up rfl (zOf.up rfl (zOf.up rfl zOf.rf)), fun s9 t9 q => ?_⟩, ⟨J 141 4, by rw [e4]; omega, by rw [e3, if_pos rfl], by rw [e2, if_pos rfl]⟩⟩
  obtain ⟨i, a, b, c⟩ := q
  exact ⟨i, by rw [e4]; omega, by rw [e3, if_neg (by omega)]; exact b, by rw [e2, if_neg (by omega)]; exact c⟩
theorem mC.ac {J J' : zJ} {s t z : Int} (h0 : 0 ≤ J 141 4 ∧ J 141 4 ≤ 8) (h : ((∃ i, (0 ≤ i ∧ i < J 141 4) ∧ J 143 i = s ∧ J 144 i = t) ∧ z = 1 ∧ J = J') ∨ ((∀ i, 0 ≤ i → i < J 141 4 → ¬ (J 143 i = s ∧ J 144 i = t)) ∧ ((J 141 4 = 8 ∧ z = 0 ∧ J = J') ∨ (J 141 4 < 8 ∧ z = 1 ∧ zup (zup (zup J 143 (J 141 4) s) 144 (J 141 4) t) 141 4 (J 141 4 + 1) = J')))) : mC J' J ∧ (z = 0 ∨ z = 1) ∧ (z = 1 → inC J' s t) := by
  rcases h with ⟨q, hz, rfl⟩ | ⟨-, ⟨h8, hz, rfl⟩ | ⟨h8, hz, rfl⟩⟩
  · exact ⟨⟨h0, zOf.rf, fun _ _ q => q⟩, Or.inr hz, fun _ => q⟩
  · exact ⟨⟨h0, zOf.rf, fun _ _ q => q⟩, Or.inl hz, fun e => by omega⟩
  · have := mC.add (J := J) (s := s) (t := t) (by omega)
    exact ⟨this.1, Or.inr hz, fun _ => this.2⟩
theorem cpl.s {J : zJ} {k : Int} {s t : Int} (hk : 1 ≤ k) (h : inC J s t ∨ (0 ≤ J 7 s ∧ J 7 s = J 7 t ∧ ∀ i, 0 ≤ i → i < J 8 s → cpl J (k - 1).toNat (J 9 (s * 3 + i)) (J 9 (t * 3 + i)))) : cpl J k.toNat s t := by
  have : k.toNat = (k - 1).toNat + 1 := by omega
  rw [this]
  exact h
theorem cpl.nx {J : zJ} {k : Int} {s t : Int} (hk : 1 ≤ k) (h : cpl J k.toNat s t) (hn : ¬ inC J s t) : 0 ≤ J 7 s ∧ J 7 s = J 7 t ∧ ∀ i, 0 ≤ i → i < J 8 s → cpl J (k - 1).toNat (J 9 (s * 3 + i)) (J 9 (t * 3 + i)) := by
  have : k.toNat = (k - 1).toNat + 1 := by omega
  rw [this] at h
  exact h.elim (fun q => absurd q hn) id
