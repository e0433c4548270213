/-! ===== the unifier: a node is a term on one of two sides ===== -/
def nd (b m x : Int) : Prop := (0 ≤ x ∧ x < m) ∨ (b = 400 ∧ 400 ≤ x ∧ x < 400 + m)
def tm (x : Int) : Int := if x < 400 then x else x - 400
def sd (x : Int) : Int := if x < 400 then 0 else 400
theorem nd.ix {b m x : Int} (h : nd b m x) (hm : 0 ≤ m ∧ m ≤ 400) : 0 ≤ tm x ∧ tm x < m := by
  unfold tm
  unfold nd at h
  split <;> omega
theorem nd.rg {b m x : Int} (h : nd b m x) (hm : 0 ≤ m ∧ m ≤ 400) : 0 ≤ x ∧ x < 800 := by
  unfold nd at h
  omega
theorem nd.part {b m x y : Int} (h : nd b m x) (hm : 0 ≤ m ∧ m ≤ 400) (hy : 0 ≤ y ∧ y < m) : nd b m (y + sd x) := by
  unfold nd at h ⊢
  unfold sd
  split <;> omega
theorem sd_rg (x : Int) : 0 ≤ sd x ∧ sd x ≤ 400 := by unfold sd; split <;> omega
theorem nd.mono {b m m' x : Int} (h : nd b m x) (hm : m ≤ m') : nd b m' x := by
  unfold nd at h ⊢
  omega
def UN (J : zJ) (b m x : Int) : Prop := nd b m x ∧ (nd b m (J 147 x) ∧ J 146 (J 147 x) = J 145 10) ∧ (J 148 x = -1 ∨ nd b m (J 148 x)) ∧ nd b m (J 149 x) ∧ (J 150 x = -1 ∨ J 150 x = -3 ∨ (0 ≤ J 150 x ∧ J 150 x < m))
def UI (J : zJ) (b m : Int) : Prop := ∀ x, 0 ≤ x → x < 800 → J 146 x ≤ J 145 10 ∧ (J 146 x = J 145 10 → UN J b m x)
def UW (J' J : zJ) (b m : Int) : Prop := UI J' b m ∧ J' 145 10 = J 145 10 ∧ ∀ x, J 146 x = J 145 10 → J' 146 x = J 145 10
theorem UW.rf {J : zJ} {b m : Int} (h : UI J b m) : UW J J b m := ⟨h, rfl, fun _ q => q⟩
theorem UW.tr {J3 J2 J1 : zJ} {b m m1 : Int} (h : UW J3 J2 b m) (g : UW J2 J1 b m1) : UW J3 J1 b m := ⟨h.1, h.2.1.trans g.2.1, fun x q => by rw [← g.2.1]; exact h.2.2 x (by rw [g.2.1]; exact g.2.2 x q)⟩
theorem UN.cg {J' J : zJ} {b m m' x : Int} (h : UN J b m x) (hm : m ≤ m') (e0 : J' 145 10 = J 145 10) (e6 : J' 146 = J 146) (e7 : J' 147 x = J 147 x) (e8 : J' 148 x = J 148 x) (e9 : J' 149 x = J 149 x) (e5 : J' 150 x = J 150 x) : UN J' b m' x := by
  obtain ⟨h1, h2, h3, h4, h5⟩ := h
  unfold UN
  rw [e0, e6, e7, e8, e9, e5]
  exact ⟨h1.mono hm, ⟨h2.1.mono hm, h2.2⟩, h3.imp id (fun q => q.mono hm), h4.mono hm, by omega⟩
theorem UI.of {J' J : zJ} {b m m' : Int} (h : UI J b m) (hm : m ≤ m') (e0 : J' 145 10 = J 145 10) (e : ∀ c, 146 ≤ c ∧ c ≤ 150 → J' c = J c) : UI J' b m' := fun x a c => by
  have e6 := e 146 (by omega)
  obtain ⟨h1, h2⟩ := h x a c
  rw [e0, e6]
  exact ⟨h1, fun q => (h2 q).cg hm e0 e6 (congrFun (e 147 (by omega)) x) (congrFun (e 148 (by omega)) x) (congrFun (e 149 (by omega)) x) (congrFun (e 150 (by omega)) x)⟩
theorem UW.of {J2 J1 J : zJ} {b m m' : Int} (h : UW J1 J b m) (hm : m ≤ m') (e0 : J2 145 10 = J1 145 10) (e : ∀ c, 146 ≤ c ∧ c ≤ 150 → J2 c = J1 c) : UW J2 J b m' := ⟨h.1.of hm e0 e, e0.trans h.2.1, fun x q => by rw [e 146 (by omega)]; exact h.2.2 x q⟩
/-- a node is waked -/
theorem UI.wake {J : zJ} {b m x sv : Int} (h : UI J b m) (hx : nd b m x) (hs : sv = -1 ∨ sv = x) : UW (zup (zup (zup (zup (zup (zup J 146 x (J 145 10)) 147 x x) 148 x sv) 149 x x) 150 x (-1)) 154 x (-1)) J b m ∧ zup (zup (zup (zup (zup (zup J 146 x (J 145 10)) 147 x x) 148 x sv) 149 x x) 150 x (-1)) 154 x (-1) 146 x = J 145 10 := by
  have e6 : ∀ k, zup (zup (zup (zup (zup (zup J 146 x (J 145 10)) 147 x x) 148 x sv) 149 x x) 150 x (-1)) 154 x (-1) 146 k = if k = x then J 145 10 else J 146 k := fun k => rfl
  have e7 : ∀ k, zup (zup (zup (zup (zup (zup J 146 x (J 145 10)) 147 x x) 148 x sv) 149 x x) 150 x (-1)) 154 x (-1) 147 k = if k = x then x else J 147 k := fun k => rfl
  have e8 : ∀ k, zup (zup (zup (zup (zup (zup J 146 x (J 145 10)) 147 x x) 148 x sv) 149 x x) 150 x (-1)) 154 x (-1) 148 k = if k = x then sv else J 148 k := fun k => rfl
  have e9 : ∀ k, zup (zup (zup (zup (zup (zup J 146 x (J 145 10)) 147 x x) 148 x sv) 149 x x) 150 x (-1)) 154 x (-1) 149 k = if k = x then x else J 149 k := fun k => rfl
  have e5 : ∀ k, zup (zup (zup (zup (zup (zup J 146 x (J 145 10)) 147 x x) 148 x sv) 149 x x) 150 x (-1)) 154 x (-1) 150 k = if k = x then -1 else J 150 k := fun k => rfl
  have e0 : zup (zup (zup (zup (zup (zup J 146 x (J 145 10)) 147 x x) 148 x sv) 149 x x) 150 x (-1)) 154 x (-1) 145 10 = J 145 10 := rfl
  generalize zup (zup (zup (zup (zup (zup J 146 x (J 145 10)) 147 x x) 148 x sv) 149 x x) 150 x (-1)) 154 x (-1) = J9 at *
  have hw : ∀ k, J 146 k = J 145 10 → J9 146 k = J 145 10 := fun k q => by
    rw [e6]
    split
    · rfl
    · exact q
  refine ⟨⟨fun k a c => ?_, e0, hw⟩, by rw [e6, if_pos rfl]⟩
  rw [e0]
  by_cases e : k = x
  · subst e
    rw [e6, if_pos rfl]
    refine ⟨by omega, fun _ => ?_⟩
    unfold UN
    rw [e7, e8, e9, e5, if_pos rfl, if_pos rfl, if_pos rfl, if_pos rfl, e6, if_pos rfl, e0]
    refine ⟨hx, ⟨hx, rfl⟩, ?_, hx, Or.inl rfl⟩
    rcases hs with hs | hs
    · exact Or.inl hs
    · exact Or.inr (by rw [hs]; exact hx)
  · rw [e6, if_neg e]
    obtain ⟨h1, h2⟩ := h k a c
    refine ⟨h1, fun q => ?_⟩
    obtain ⟨g1, g2, g3, g4, g5⟩ := h2 q
    unfold UN
    rw [e7, e8, e9, e5, if_neg e, if_neg e, if_neg e, if_neg e, e0]
    exact ⟨g1, ⟨g2.1, hw _ g2.2⟩, g3, g4, g5⟩
theorem UI.p7 {J : zJ} {b m x v : Int} (h : UI J b m) (hv : nd b m v) (ha : J 146 v = J 145 10) : UI (zup J 147 x v) b m := fun k a c => by
  refine ⟨(h k a c).1, fun q => ?_⟩
  obtain ⟨g1, g2, g3, g4, g5⟩ := (h k a c).2 q
  refine ⟨g1, ?_, g3, g4, g5⟩
  have e7 : zup J 147 x v 147 k = if k = x then v else J 147 k := rfl
  rw [e7]
  show (nd b m _ ∧ J 146 _ = J 145 10)
  split
  · exact ⟨hv, ha⟩
  · exact g2
theorem UI.p8 {J : zJ} {b m x v : Int} (h : UI J b m) (hv : v = -1 ∨ nd b m v) : UI (zup J 148 x v) b m := fun k a c => by
  refine ⟨(h k a c).1, fun q => ?_⟩
  obtain ⟨g1, g2, g3, g4, g5⟩ := (h k a c).2 q
  refine ⟨g1, g2, ?_, g4, g5⟩
  have e7 : zup J 148 x v 148 k = if k = x then v else J 148 k := rfl
  rw [e7]
  split
  · exact hv
  · exact g3
theorem UI.p9 {J : zJ} {b m x v : Int} (h : UI J b m) (hv : nd b m v) : UI (zup J 149 x v) b m := fun k a c => by
  refine ⟨(h k a c).1, fun q => ?_⟩
  obtain ⟨g1, g2, g3, g4, g5⟩ := (h k a c).2 q
  refine ⟨g1, g2, g3, ?_, g5⟩
  have e7 : zup J 149 x v 149 k = if k = x then v else J 149 k := rfl
  rw [e7]
  split
  · exact hv
  · exact g4
theorem UI.p5 {J : zJ} {b m x v : Int} (h : UI J b m) (hv : v = -1 ∨ v = -3 ∨ (0 ≤ v ∧ v < m)) : UI (zup J 150 x v) b m := fun k a c => by
  refine ⟨(h k a c).1, fun q => ?_⟩
  obtain ⟨g1, g2, g3, g4, g5⟩ := (h k a c).2 q
  refine ⟨g1, g2, g3, g4, ?_⟩
  have e7 : zup J 150 x v 150 k = if k = x then v else J 150 k := rfl
  rw [e7]
  split
  · exact hv
  · exact g5
theorem UW.p7 {J1 J : zJ} {b m x v : Int} (h : UW J1 J b m) (hv : nd b m v) (ha : J1 146 v = J 145 10) : UW (zup J1 147 x v) J b m := ⟨h.1.p7 hv (by rw [h.2.1]; exact ha), h.2.1, h.2.2⟩
theorem UW.p8 {J1 J : zJ} {b m x v : Int} (h : UW J1 J b m) (hv : v = -1 ∨ nd b m v) : UW (zup J1 148 x v) J b m := ⟨h.1.p8 hv, h.2.1, h.2.2⟩
theorem UW.p9 {J1 J : zJ} {b m x v : Int} (h : UW J1 J b m) (hv : nd b m v) : UW (zup J1 149 x v) J b m := ⟨h.1.p9 hv, h.2.1, h.2.2⟩
theorem UW.p5 {J1 J : zJ} {b m x v : Int} (h : UW J1 J b m) (hv : v = -1 ∨ v = -3 ∨ (0 ≤ v ∧ v < m)) : UW (zup J1 150 x v) J b m := ⟨h.1.p5 hv, h.2.1, h.2.2⟩
theorem UW.at {J1 J : zJ} {b m x : Int} (h : UW J1 J b m) (hm : 0 ≤ m ∧ m ≤ 400) (hx : nd b m x) (ha : J1 146 x = J 145 10) : UN J1 b m x := (h.1 x (hx.rg hm).1 (hx.rg hm).2).2 (by rw [h.2.1]; exact ha)
/-- the pairs that wait -/
def PI (J : zJ) (b m : Int) : Prop := (0 ≤ J 145 11 ∧ J 145 11 ≤ 2401) ∧ ∀ k, 0 ≤ k → k < J 145 11 → nd b m (J 151 k) ∧ nd b m (J 152 k)
theorem PI.of {J' J : zJ} {b m : Int} (h : PI J b m) (e5 : J' 145 11 = J 145 11) (e1 : J' 151 = J 151) (e2 : J' 152 = J 152) : PI J' b m := by
  unfold PI
  rw [e5, e1, e2]
  exact h
theorem PI.push {J : zJ} {b m x y : Int} (h : PI J b m) (hx : nd b m x) (hy : nd b m y) (h9 : J 145 11 < 2401) : PI (zup (zup (zup J 151 (J 145 11) x) 152 (J 145 11) y) 145 11 (J 145 11 + 1)) b m := by
  have e0 : zup (zup (zup J 151 (J 145 11) x) 152 (J 145 11) y) 145 11 (J 145 11 + 1) 145 11 = J 145 11 + 1 := zup_at
  have e1 : ∀ k, zup (zup (zup J 151 (J 145 11) x) 152 (J 145 11) y) 145 11 (J 145 11 + 1) 151 k = if k = J 145 11 then x else J 151 k := fun k => rfl
  have e2 : ∀ k, zup (zup (zup J 151 (J 145 11) x) 152 (J 145 11) y) 145 11 (J 145 11 + 1) 152 k = if k = J 145 11 then y else J 152 k := fun k => rfl
  unfold PI
  refine ⟨by rw [e0]; have := h.1; omega, fun k a c => ?_⟩
  rw [e0] at c
  rw [e1, e2]
  by_cases e : k = J 145 11
  · rw [if_pos e, if_pos e]
    exact ⟨hx, hy⟩
  · rw [if_neg e, if_neg e]
    exact h.2 k a (by omega)
/-- what is listed -/
def lsI (J1 J : zJ) (b m f : Int) : Prop := (0 ≤ f ∧ f ≤ 800) ∧ ∀ k, 0 ≤ k → k < f → nd b m (J1 153 k) ∧ J1 146 (J1 153 k) = J 145 10
theorem lsI.of {J2 J1 J : zJ} {b m f : Int} (h : lsI J1 J b m f) (e3 : J2 153 = J1 153) (e6 : ∀ x, J1 146 x = J 145 10 → J2 146 x = J 145 10) : lsI J2 J b m f := ⟨h.1, fun k a c => by rw [e3]; exact ⟨(h.2 k a c).1, e6 _ (h.2 k a c).2⟩⟩
theorem lsI.push {J1 J : zJ} {b m f z : Int} (h : lsI J1 J b m f) (hf : f < 800) (hz : nd b m z) (ha : J1 146 z = J 145 10) : lsI (zup J1 153 f z) J b m (f + 1) := by
  refine ⟨by have := h.1; omega, fun k a c => ?_⟩
  have e3 : zup J1 153 f z 153 k = if k = f then z else J1 153 k := rfl
  rw [e3]
  show nd b m _ ∧ J1 146 _ = J 145 10
  by_cases e : k = f
  · rw [if_pos e]
    exact ⟨hz, ha⟩
  · rw [if_neg e]
    exact h.2 k a (by omega)
/-- at rest -/
def RU (J : zJ) : Prop := 0 ≤ J 145 10 ∧ ∀ x, 0 ≤ x → x < 800 → J 146 x ≤ J 145 10
theorem RU.start {J J' : zJ} (h : RU J) {b m : Int} (e0 : J' 145 10 = J 145 10 + 1) (e6 : J' 146 = J 146) : UI J' b m := fun x a c => by
  have := h.2 x a c
  rw [e0, e6]
  exact ⟨by omega, fun q => by omega⟩
theorem UI.rest {J : zJ} {b m : Int} (h : UI J b m) (h0 : 0 ≤ J 145 10) : RU J := ⟨h0, fun x a c => (h x a c).1⟩
theorem RU.of {J' J : zJ} (h : RU J) (e5 : J' 145 = J 145) (e6 : J' 146 = J 146) : RU J' := by
  unfold RU
  rw [e5, e6]
  exact h
