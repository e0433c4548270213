/-! ===== classes of the class, as they are seen ===== -/
theorem UFp.b {V : Int → Prop} {p : Int → Int} (h : UFp V p) (hV : ∀ x, V x → 0 ≤ x ∧ x < 800) : ∃ rk : Int → Nat, (∀ x, V x → rk x < 800) ∧ ∀ x, V x → V (p x) ∧ (p x = x ∨ rk (p x) < rk x) := by
  obtain ⟨rk, h⟩ := h
  refine ⟨fun x => cnt (fun k => @decide (V k ∧ rk k < rk x) (Classical.propDecidable _)) 800, fun x hx => ?_, fun x hx => ⟨(h x hx).1, (h x hx).2.imp id (fun g => ?_)⟩⟩
  · have hb := hV x hx
    have := cnt_lt (p := fun _ => true) (q := fun k => @decide (V k ∧ rk k < rk x) (Classical.propDecidable _)) 800 (fun _ _ _ _ => rfl) ⟨x, ⟨hb.1, by omega⟩, rfl, @decide_eq_false _ (Classical.propDecidable _) (fun w => Nat.lt_irrefl _ w.2)⟩
    have e := cnt_n (p := fun _ => true) 800
    exact Nat.lt_of_lt_of_le this e
  · have hb := hV _ (h x hx).1
    refine cnt_lt 800 (fun k _ _ q => ?_) ⟨p x, ⟨hb.1, by omega⟩, @decide_eq_true _ (Classical.propDecidable _) ⟨(h x hx).1, g⟩, @decide_eq_false _ (Classical.propDecidable _) (fun w => Nat.lt_irrefl _ w.2)⟩
    have q' := @of_decide_eq_true _ (Classical.propDecidable _) q
    exact @decide_eq_true _ (Classical.propDecidable _) ⟨q'.1, Nat.lt_trans q'.2 g⟩
theorem VN.b {c m x : Int} (hc : c = 400 ∨ c = 800) (h : VN c m x) : 0 ≤ x ∧ x < 800 := by
  have := h.1
  omega
theorem nd.vn {b c m x : Int} (hb : (b = 0 ∧ c = 400) ∨ (b = 400 ∧ c = 800)) (hm : 0 ≤ m ∧ m ≤ 400) : nd b m x ↔ VN c m x := by
  unfold nd VN
  rcases hb with ⟨rfl, rfl⟩ | ⟨rfl, rfl⟩ <;> (constructor <;> intro h <;> omega)
theorem tm_m {x : Int} (h : 0 ≤ x ∧ x < 800) : tm x = x % 400 ∧ sd x = x / 400 * 400 := by
  unfold tm sd
  split <;> omega
/-- parents, what is shown, the least variable, uses, what it is made to, of a node that may sleep -/
def upV (J : zJ) (x : Int) : Int := if J 146 x = J 145 10 then J 147 x else x
def usV (J : zJ) (x : Int) : Int := if J 146 x = J 145 10 then J 148 x else if J 7 (tm x) < 0 then -1 else x
def ulV (J : zJ) (x : Int) : Int := if J 146 x = J 145 10 then -1 - J 7 (tm (J 149 x)) else -1 - J 7 (tm x)
def uuV (J : zJ) (x : Int) : Int := if J 146 x = J 145 10 then J 154 x else -1
def uoV (J : zJ) (x : Int) : Int := if J 146 x = J 145 10 then J 150 x else -1
def vE (c m : Int) (J' J : zJ) : Prop := UFp (VN c m) (upV J') ∧ (∀ x, VN c m x → tp (upV J') x = tp (upV J) x) ∧ ∀ x, VN c m x → usV J' x = usV J x ∧ ulV J' x = ulV J x ∧ uuV J' x = uuV J x ∧ uoV J' x = uoV J x
theorem vE.rf {c m : Int} {J : zJ} (U : UFp (VN c m) (upV J)) : vE c m J J := ⟨U, fun _ _ => rfl, fun _ _ => ⟨rfl, rfl, rfl, rfl⟩⟩
theorem vE.tr {c m : Int} {J3 J2 J1 : zJ} (h : vE c m J3 J2) (g : vE c m J2 J1) : vE c m J3 J1 := ⟨h.1, fun x hx => (h.2.1 x hx).trans (g.2.1 x hx), fun x hx => by
  obtain ⟨a1, a2, a3, a4⟩ := h.2.2 x hx
  obtain ⟨b1, b2, b3, b4⟩ := g.2.2 x hx
  exact ⟨a1.trans b1, a2.trans b2, a3.trans b3, a4.trans b4⟩⟩
/-- all that is seen is the same -/
def vS (J' J : zJ) : Prop := ∀ x, upV J' x = upV J x ∧ usV J' x = usV J x ∧ ulV J' x = ulV J x ∧ uuV J' x = uuV J x ∧ uoV J' x = uoV J x
theorem vS.of {J' J : zJ} (e0 : J' 145 10 = J 145 10) (e7 : J' 7 = J 7) (e : ∀ c, 146 ≤ c ∧ c ≤ 150 ∨ c = 154 → J' c = J c) : vS J' J := fun x => by
  unfold upV usV ulV uuV uoV
  rw [e0, e7, e 146 (by omega), e 147 (by omega), e 148 (by omega), e 149 (by omega), e 150 (by omega), e 154 (by omega)]
  exact ⟨rfl, rfl, rfl, rfl, rfl⟩
theorem vS.p {J' J : zJ} (h : vS J' J) : upV J' = upV J := funext fun x => (h x).1
theorem vS.e {c m : Int} {J' J : zJ} (h : vS J' J) (U : UFp (VN c m) (upV J)) : vE c m J' J := ⟨by rw [h.p]; exact U, fun _ _ => by rw [h.p], fun x _ => (h x).2⟩
theorem vwake {J : zJ} {x sv : Int} (hn : ¬ J 146 x = J 145 10) (hs : (J 7 (tm x) < 0 ∧ sv = -1) ∨ (¬ J 7 (tm x) < 0 ∧ sv = x)) : vS (zup (zup (zup (zup (zup (zup J 146 x (J 145 10)) 147 x x) 148 x sv) 149 x x) 150 x (-1)) 154 x (-1)) J := fun k => by
  have e6 : ∀ k, zup (zup (zup (zup (zup (zup J 146 x (J 145 10)) 147 x x) 148 x sv) 149 x x) 150 x (-1)) 154 x (-1) 146 k = if k = x then J 145 10 else J 146 k := fun k => rfl
  have e7 : ∀ k, zup (zup (zup (zup (zup (zup J 146 x (J 145 10)) 147 x x) 148 x sv) 149 x x) 150 x (-1)) 154 x (-1) 147 k = if k = x then x else J 147 k := fun k => rfl
  have e8 : ∀ k, zup (zup (zup (zup (zup (zup J 146 x (J 145 10)) 147 x x) 148 x sv) 149 x x) 150 x (-1)) 154 x (-1) 148 k = if k = x then sv else J 148 k := fun k => rfl
  have e9 : ∀ k, zup (zup (zup (zup (zup (zup J 146 x (J 145 10)) 147 x x) 148 x sv) 149 x x) 150 x (-1)) 154 x (-1) 149 k = if k = x then x else J 149 k := fun k => rfl
  have e5 : ∀ k, zup (zup (zup (zup (zup (zup J 146 x (J 145 10)) 147 x x) 148 x sv) 149 x x) 150 x (-1)) 154 x (-1) 150 k = if k = x then -1 else J 150 k := fun k => rfl
  have e4 : ∀ k, zup (zup (zup (zup (zup (zup J 146 x (J 145 10)) 147 x x) 148 x sv) 149 x x) 150 x (-1)) 154 x (-1) 154 k = if k = x then -1 else J 154 k := fun k => rfl
  have e0 : zup (zup (zup (zup (zup (zup J 146 x (J 145 10)) 147 x x) 148 x sv) 149 x x) 150 x (-1)) 154 x (-1) 145 10 = J 145 10 := rfl
  have eh : zup (zup (zup (zup (zup (zup J 146 x (J 145 10)) 147 x x) 148 x sv) 149 x x) 150 x (-1)) 154 x (-1) 7 = J 7 := rfl
  unfold upV usV ulV uuV uoV
  rw [e6, e7, e8, e9, e5, e4, e0, eh]
  by_cases e : k = x
  · subst e
    rw [if_pos rfl, if_pos rfl, if_pos rfl, if_pos rfl, if_pos rfl, if_pos rfl, if_neg hn, if_neg hn, if_neg hn, if_neg hn, if_neg hn, if_pos rfl, if_pos rfl, if_pos rfl, if_pos rfl, if_pos rfl]
    refine ⟨rfl, ?_, rfl, rfl, rfl⟩
    rcases hs with ⟨a, b⟩ | ⟨a, b⟩
    · rw [if_pos a]; exact b
    · rw [if_neg a]; exact b
  · rw [if_neg e, if_neg e, if_neg e, if_neg e, if_neg e, if_neg e]
    exact ⟨rfl, rfl, rfl, rfl, rfl⟩
/-- a way made shorter -/
theorem vshort {c m : Int} {J : zJ} {t : Int} (U : UFp (VN c m) (upV J)) (ht : VN c m t) (h1 : J 146 t = J 145 10) (h2 : J 146 (J 147 t) = J 145 10) : vE c m (zup J 147 t (J 147 (J 147 t))) J ∧ ∀ k, upV (zup J 147 t (J 147 (J 147 t))) k = if k = t then upV J (upV J t) else upV J k := by
  have e7 : ∀ k, zup J 147 t (J 147 (J 147 t)) 147 k = if k = t then J 147 (J 147 t) else J 147 k := fun k => rfl
  have e6 : zup J 147 t (J 147 (J 147 t)) 146 = J 146 := rfl
  have e0 : zup J 147 t (J 147 (J 147 t)) 145 = J 145 := rfl
  have ep : ∀ k, upV (zup J 147 t (J 147 (J 147 t))) k = if k = t then upV J (upV J t) else upV J k := fun k => by
    have q1 : upV J t = J 147 t := by unfold upV; rw [if_pos h1]
    have q2 : upV J (J 147 t) = J 147 (J 147 t) := by unfold upV; rw [if_pos h2]
    rw [q1, q2]
    unfold upV
    rw [e6, e0, e7]
    by_cases w : k = t
    · rw [if_pos w, if_pos w, w, if_pos h1]
    · rw [if_neg w, if_neg w]
  obtain ⟨a1, a2, _⟩ := U.short ht (fun k _ => ep k)
  exact ⟨⟨a1, a2, fun x _ => ⟨rfl, rfl, rfl, rfl⟩⟩, ep⟩
def RKb (c m : Int) (rk : Int → Nat) (p : Int → Int) : Prop := ∀ x, VN c m x → VN c m (p x) ∧ (p x = x ∨ rk (p x) < rk x)
theorem RKb.short {c m t : Int} {rk : Int → Nat} {p p' : Int → Int} (h : RKb c m rk p) (ht : VN c m t) (e : ∀ k, p' k = if k = t then p (p t) else p k) : RKb c m rk p' := fun x hx => by
  rw [e]
  by_cases w : x = t
  · rw [if_pos w, w]
    obtain ⟨a, b⟩ := h t ht
    obtain ⟨a2, b2⟩ := h _ a
    refine ⟨a2, ?_⟩
    rcases b with b | b
    · exact Or.inl (by rw [b, b])
    · rcases b2 with b2 | b2
      · exact Or.inr (by rw [b2]; exact b)
      · exact Or.inr (by omega)
  · rw [if_neg w]; exact h x hx
/-- two roots made one, as it is seen -/
def VLK (c m : Int) (J' J : zJ) (x y : Int) : Prop := (∀ k, VN c m k → upV J' k = if k = y then x else upV J k) ∧ (∀ k, VN c m k → usV J' k = if k = x then (if usV J x = -1 then usV J y else usV J x) else usV J k) ∧ (∀ k, VN c m k → ¬ k = x → ulV J' k = ulV J k) ∧ (usV J x = -1 → usV J y = -1 → ulV J' x = if ulV J y < ulV J x then ulV J y else ulV J x) ∧ ∀ k, VN c m k → uuV J' k = uuV J k ∧ uoV J' k = uoV J k
theorem vlk {c m : Int} {J J' : zJ} {x y v w : Int} (hx : VN c m x ∧ J 146 x = J 145 10) (hy : VN c m y ∧ J 146 y = J 145 10) (hxy : ¬ x = y) (hv : v = if J 148 x = -1 then J 148 y else J 148 x) (hw : J 148 x = -1 → J 148 y = -1 → (w = J 149 x ∧ ¬ -1 - J 7 (tm (J 149 y)) < -1 - J 7 (tm (J 149 x))) ∨ (w = J 149 y ∧ -1 - J 7 (tm (J 149 y)) < -1 - J 7 (tm (J 149 x)))) (e0 : J' 145 10 = J 145 10) (e7 : J' 7 = J 7) (e6 : J' 146 = J 146) (e5 : J' 150 = J 150) (e4 : J' 154 = J 154) (f7 : ∀ k, J' 147 k = if k = y then x else J 147 k) (f8 : ∀ k, J' 148 k = if k = x then v else J 148 k) (f9 : ∀ k, J' 149 k = if k = x then w else J 149 k) : VLK c m J' J x y := by
  refine ⟨fun k _ => ?_, fun k _ => ?_, fun k _ n => ?_, fun s1 s2 => ?_, fun k _ => ?_⟩
  · unfold upV
    rw [e6, e0, f7]
    by_cases q : k = y
    · rw [if_pos q, if_pos q, q, if_pos hy.2]
    · rw [if_neg q, if_neg q]
  · unfold usV
    rw [e6, e0, f8, e7, if_pos hx.2, if_pos hy.2]
    by_cases q : k = x
    · rw [if_pos q, if_pos q, q, if_pos hx.2]; exact hv
    · rw [if_neg q, if_neg q]
  · unfold ulV
    rw [e6, e0, f9, e7, if_neg n]
  · unfold usV at s1 s2
    rw [if_pos hx.2] at s1
    rw [if_pos hy.2] at s2
    have l1 : ulV J x = -1 - J 7 (tm (J 149 x)) := by unfold ulV; rw [if_pos hx.2]
    have l2 : ulV J y = -1 - J 7 (tm (J 149 y)) := by unfold ulV; rw [if_pos hy.2]
    have l3 : ulV J' x = -1 - J 7 (tm w) := by unfold ulV; rw [e6, e0, if_pos hx.2, f9, e7, if_pos rfl]
    rw [l1, l2, l3]
    rcases hw s1 s2 with ⟨q1, q2⟩ | ⟨q1, q2⟩
    · rw [if_neg q2, q1]
    · rw [if_pos q2, q1]
  · unfold uuV uoV
    rw [e6, e0, e5, e4]
    exact ⟨rfl, rfl⟩
