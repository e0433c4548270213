/-! ===== bits ===== -/
def bt (a v : Int) : Prop := zand (zshr a v) 1 = 1
theorem i1_01 (x : Int32) : x &&& 1 = 0 ∨ x &&& 1 = 1 := by
  have h := z_and x.toInt (m := 1) 1 (by decide) (by decide)
  unfold zand at h
  rw [Int32.ofInt_toInt, show Int32.ofInt 1 = 1 from rfl] at h
  have h2 : (x &&& 1).toInt = 0 ∨ (x &&& 1).toInt = 1 := by omega
  exact h2.imp (fun q => Int32.toInt_inj.1 (q.trans rfl)) (fun q => Int32.toInt_inj.1 (q.trans rfl))
theorem i1_or (x y : Int32) : (x ||| y) &&& 1 = (x &&& 1) ||| (y &&& 1) := by
  refine Int32.toBitVec_inj.1 (BitVec.eq_of_getLsbD_eq (fun i hi => ?_))
  simp only [Int32.toBitVec_and, Int32.toBitVec_or, BitVec.getLsbD_and, BitVec.getLsbD_or]
  exact Bool.and_or_distrib_right _ _ _
theorem i1_and (x y : Int32) : (x &&& y) &&& 1 = (x &&& 1) &&& (y &&& 1) := by
  rw [Int32.and_assoc, Int32.and_assoc, ← Int32.and_assoc 1 y 1, Int32.and_comm 1 y, Int32.and_assoc y, Int32.and_self]
theorem bt_iff {a v : Int} : bt a v ↔ (Int32.ofInt a >>> (Int32.ofInt v &&& 31)) &&& 1 = 1 := by
  unfold bt zand zshr
  rw [Int32.ofInt_toInt, show Int32.ofInt 1 = 1 from rfl]
  exact ⟨fun q => Int32.toInt_inj.1 (q.trans rfl), fun q => by rw [q]; rfl⟩
theorem bt_or {a b v : Int} : bt (zor a b) v ↔ bt a v ∨ bt b v := by
  rw [bt_iff, bt_iff, bt_iff]
  unfold zor
  rw [Int32.ofInt_toInt, Int32.shiftRight_or, i1_or]
  rcases i1_01 (Int32.ofInt a >>> (Int32.ofInt v &&& 31)) with h1 | h1 <;> rcases i1_01 (Int32.ofInt b >>> (Int32.ofInt v &&& 31)) with h2 | h2 <;> rw [h1, h2] <;> decide
theorem bt_and3 {a b c v : Int} (ha : bt a v) (hb : bt b v) (hc : bt c v) : zand (zand (zand (zshr a v) (zshr b v)) (zshr c v)) 1 = 1 := by
  have h1 := bt_iff.1 ha
  have h2 := bt_iff.1 hb
  have h3 := bt_iff.1 hc
  unfold zand zshr
  simp only [Int32.ofInt_toInt]
  rw [show Int32.ofInt 1 = 1 from rfl, i1_and, i1_and, h1, h2, h3]
  rfl
theorem bt_shl {v : Int} (h : 0 ≤ v ∧ v < 8) : bt (zshl 1 v) v := by
  have h1 : v = 0 ∨ v = 1 ∨ v = 2 ∨ v = 3 ∨ v = 4 ∨ v = 5 ∨ v = 6 ∨ v = 7 := by omega
  rcases h1 with h1 | h1 | h1 | h1 | h1 | h1 | h1 | h1 <;> (subst h1; unfold bt; decide)
/-! ===== what variables a term tells ===== -/
def occ (J : zJ) (b d : Int) : Nat → Int → Int → Prop
  | 0, _, _ => False
  | k + 1, t, v => (J 166 (b + t) < 0 ∧ v = -1 - J 166 (b + t)) ∨ ∃ i, (0 ≤ i ∧ i < mar J b d t) ∧ occ J b d k (J 167 (3 * (b + t) + i)) v
def Occ (J : zJ) (b d t v : Int) : Prop := ∃ k, occ J b d k t v
theorem Occ.v {J : zJ} {b d t : Int} (h : J 166 (b + t) < 0) : Occ J b d t (-1 - J 166 (b + t)) := ⟨1, Or.inl ⟨h, rfl⟩⟩
theorem Occ.a {J : zJ} {b d t i v : Int} (hi : 0 ≤ i ∧ i < mar J b d t) : Occ J b d (J 167 (3 * (b + t) + i)) v → Occ J b d t v := fun ⟨k, h⟩ => ⟨k + 1, Or.inr ⟨i, hi, h⟩⟩
theorem occ_rg {J : zJ} {b r d s m : Int} (h : MS J b r d s m) : ∀ (k : Nat) {t v : Int}, occ J b d k t v → (0 ≤ t ∧ t < m) → 0 ≤ v ∧ v < 8
  | 0, _, _, o, _ => o.elim
  | k + 1, t, v, o, ht => by
    rcases o with ⟨o1, o2⟩ | ⟨i, hi, o⟩
    · have := (h.ar ht).2.1
      omega
    · have := (h.arg ht hi).1
      exact occ_rg h k o (by omega)
theorem Occ.rg {J : zJ} {b r d s m t v : Int} (h : MS J b r d s m) (o : Occ J b d t v) (ht : 0 ≤ t ∧ t < m) : 0 ≤ v ∧ v < 8 := o.elim fun k o => occ_rg h k o ht
