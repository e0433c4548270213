/-! ===== listed and taken away: beginnings and ends ===== -/
theorem cnP_le {D D' : Int → Prop} (h : ∀ c, (0 ≤ c ∧ c < 800) → D c → D' c) : cnP D ≤ cnP D' := cnt_le 800 (fun k a b q => @decide_eq_true _ (Classical.propDecidable _) (h k ⟨a, by omega⟩ (@of_decide_eq_true _ (Classical.propDecidable _) q)))
theorem cnP_0 {D : Int → Prop} (h : ∀ c, ¬ D c) : cnP D = 0 := by
  unfold cnP
  have z : ∀ n : Nat, cnt (fun c => @decide (D c) (Classical.propDecidable _)) n = 0 := fun n => by
    induction n with
    | zero => rfl
    | succ n ih =>
      show cnt _ n + _ = 0
      rw [ih, if_neg (by show ¬ @decide (D n) (Classical.propDecidable _) = true; rw [@decide_eq_false _ (Classical.propDecidable _) (h n)]; decide)]
  exact z 800
theorem smI_le {f : Int → Int} : ∀ (n : Nat), (∀ k : Int, f k ≤ 3) → smI f n ≤ 3 * n
  | 0, _ => Int.le_refl 0
  | n + 1, h => by
    have a := smI_le n h
    have b := h n
    rw [smI_s]
    omega
theorem eP_3 {S : zJ} {T sh : Int → Int} {d c i : Int} : eP S T sh d c i ≤ 3 := by
  unfold eP
  (repeat' split) <;> omega
theorem SUd.le {S : zJ} {T sh : Int → Int} {D : Int → Prop} {c : Int} : SUd S T sh D c ≤ 2400 := smI_le 800 (fun d => by
  by_cases w : D d
  · rw [@if_pos _ (Classical.propDecidable _) w]; exact eP_3
  · rw [@if_neg _ (Classical.propDecidable _) w]; decide)
theorem LSI.start {c m x : Int} {S : zJ} {T sh r u : Int → Int} (hc : c = 400 ∨ c = 800) (hx : VN c m x ∧ T x = x) (hr : r 0 = x) (hu : ∀ y, VN c m y → u y = if y = x then 0 else -1) : LSI c m S T sh x r u 1 0 0 := by
  have l0 : LIS c m T r 0 := ⟨by omega, fun j a b => by omega, fun i j a b d => by omega, by rw [cnP_0 (fun c ⟨j, hj, _⟩ => by omega)]; rfl⟩
  have l1 := l0.push (r' := r) hc hx (fun ⟨j, hj, _⟩ => by omega) (fun k => by split; (next h => rw [h]; exact hr); rfl)
  have e0 : ∀ y, DLr r 1 y ↔ y = x := fun y => ⟨fun ⟨j, hj, e⟩ => by rw [← e, show j = 0 by omega]; exact hr, fun e => ⟨0, by omega, by rw [e]; exact hr⟩⟩
  refine ⟨l1, by omega, fun j a p q w => by omega, fun y hy ty => ⟨fun d => ?_, fun d => ?_⟩, ⟨by omega, hr⟩, fun y d n => absurd ((e0 y).1 d) n, fun rk P w px j a b => by rw [show j = 0 by omega, hr]; exact px⟩
  · rw [hu y hy, if_pos ((e0 y).1 d), eP_0, SUd.z (fun d ⟨j, hj, _⟩ => by omega)]
    rfl
  · rw [hu y hy, if_neg (fun w => d ((e0 y).2 w))]
theorem LSI.u9 {c m x f k i p : Int} {S : zJ} {T sh r u : Int → Int} (hc : c = 400 ∨ c = 800) (h : LSI c m S T sh x r u f k i) (vp : VN c m p ∧ T p = p) : (-1 ≤ u p ∧ u p ≤ 2403) ∧ (u p = -1 → ¬ DLr r f p ∧ f < 800) ∧ (¬ u p = -1 → DLr r f p) := by
  have q := h.2.2.2.1 p vp.1 vp.2
  have a := SUd.nn (S := S) (T := T) (sh := sh) (D := DLr r k) (c := p)
  have a2 := SUd.le (S := S) (T := T) (sh := sh) (D := DLr r k) (c := p)
  have b := eP_nn (S := S) (T := T) (sh := sh) (d := r k) (c := p) (i := i)
  have b2 := eP_3 (S := S) (T := T) (sh := sh) (d := r k) (c := p) (i := i)
  by_cases d : DLr r f p
  · have := q.1 d
    exact ⟨by omega, fun w => by omega, fun _ => d⟩
  · have := q.2 d
    exact ⟨by omega, fun _ => ⟨d, h.1.lt (vp.1.b hc) d⟩, fun w => absurd this w⟩
theorem TKI.s0 {c m x f : Int} {S : zJ} {T sh r u : Int → Int} {L : Int → Prop} (E : LSE c m S T sh x L u f) (n : ¬ u x = 0) : TKI c m S T sh L r u 0 0 0 0 := by
  obtain ⟨⟨e1, e2, e3⟩, e4, e5, e6, e7, e8⟩ := E
  refine ⟨⟨by omega, fun j a b => by omega, fun i j a b d => by omega, by rw [cnP_0 (fun c ⟨j, hj, _⟩ => by omega)]; rfl⟩, by omega, fun j a b => by omega, fun y ly => ?_, fun y ly => ⟨fun q => ?_, fun ⟨j, hj, _⟩ => by omega⟩, fun j d a b => by omega⟩
  · rw [e6 y ly, SUd.cg (D' := fun d => L d ∧ ¬ DLr r (0 + 0) d) (D := L) (fun d => ⟨fun q => q.1, fun q => ⟨q, fun ⟨j, hj, _⟩ => by omega⟩⟩)]
    omega
  · by_cases w : y = x
    · rw [w] at q; exact absurd q n
    · have := e7 y ly w; omega
theorem TKI.s1 {c m x f : Int} {S : zJ} {T sh r u : Int → Int} {L : Int → Prop} (hc : c = 400 ∨ c = 800) (E : LSE c m S T sh x L u f) (n : u x = 0) (hr : r 0 = x) : TKI c m S T sh L r u 1 0 0 0 := by
  obtain ⟨⟨e1, e2, e3⟩, e4, e5, e6, e7, e8⟩ := E
  have l0 : LIS c m T r 0 := ⟨by omega, fun j a b => by omega, fun i j a b d => by omega, by rw [cnP_0 (fun c ⟨j, hj, _⟩ => by omega)]; rfl⟩
  have l1 := l0.push (r' := r) hc (e4 x e3) (fun ⟨j, hj, _⟩ => by omega) (fun k => by split; (next h => rw [h]; exact hr); rfl)
  refine ⟨l1, by omega, fun j a b => by rw [show j = 0 by omega, hr]; exact e3, fun y ly => ?_, fun y ly => ⟨fun q => ?_, fun ⟨j, hj, w⟩ => ?_⟩, fun j d a b ld q => ?_⟩
  · rw [e6 y ly, SUd.cg (D' := fun d => L d ∧ ¬ DLr r (0 + 0) d) (D := L) (fun d => ⟨fun q => q.1, fun q => ⟨q, fun ⟨j, hj, _⟩ => by omega⟩⟩)]
    omega
  · by_cases w : y = x
    · exact ⟨0, by omega, by rw [w]; exact hr⟩
    · have := e7 y ly w; omega
  · rw [← w, show j = 0 by omega, hr]; exact n
  · rw [show j = 0 by omega, hr] at q
    have a := e6 x e3
    have b := SUd.ge (S := S) (T := T) (sh := sh) (c := x) ((e4 d ld).1.b hc) ld
    omega
theorem TKI.no {c m x f g k : Int} {S : zJ} {T sh r u u0 : Int → Int} {L : Int → Prop} (hc : c = 400 ∨ c = 800) (E : LSE c m S T sh x L u0 f) (h : TKI c m S T sh L r u g k 0 0) (hk : g ≤ k) (hg : g < f) (hV : ∀ x i, VN c m x → 0 ≤ hdN S 0 x → 0 ≤ i → i < arN S 0 0 x → VN c m (agN S 0 x i)) (hS : ∀ y, L y → ¬ sh y = -1 → VN c m (sh y) ∧ 0 ≤ hdN S 0 (sh y) ∧ T (sh y) = y) (h3 : ∀ x, VN c m x → arN S 0 0 x ≤ 3) : ¬ NRu (VN c m) (hdN S 0) (arN S 0 0) (agN S 0) (fun u v => T u = T v) x := by
  rintro ⟨rk, P, px, w⟩
  obtain ⟨h1, h2, _, h4, h5, h6⟩ := h
  have ek : k = g := by omega
  subst ek
  obtain ⟨⟨e1, e2, e3⟩, e4, e5, e6, e7, e8⟩ := E
  have ne : ∃ y : Int, (0 ≤ y ∧ y < (800 : Nat)) ∧ (L y ∧ ¬ DLr r k y) := Classical.byContradiction (fun n => by
    have := cnP_le (D := L) (D' := DLr r k) (fun y hy ly => Classical.byContradiction (fun q => n ⟨y, ⟨hy.1, by omega⟩, ly, q⟩))
    have := h1.2.2.2
    omega)
  obtain ⟨y, hy, ⟨ly, ny⟩, mx⟩ := mx_ex (rk := rk) 800 ne
  have u1 := h4 y ly
  have nz : ¬ u y = 0 := fun q => ny ((h5 y ly).1 q)
  have a := SUd.nn (S := S) (T := T) (sh := sh) (D := fun d => L d ∧ ¬ DLr r (k + 0) d) (c := y)
  obtain ⟨d, hd, ⟨ld, nd⟩, pd⟩ := SUd.ex (S := S) (T := T) (sh := sh) (D := fun d => L d ∧ ¬ DLr r (k + 0) d) (c := y) (by omega)
  rw [show k + 0 = k from by omega] at nd
  obtain ⟨j, hj, jn, je⟩ := eP_x pd
  have ns : ¬ sh d = -1 := fun q => by unfold nai at jn; rw [if_pos q] at jn; omega
  have jn' : j < arN S 0 0 (sh d) := by unfold nai at jn; rw [if_neg ns] at jn; exact jn
  obtain ⟨s1, s2, s3⟩ := hS d ld ns
  have vd := e4 d ld
  have vy := e4 y ly
  obtain ⟨q1, q2⟩ := w.1 d _ vd.1 s1 (vd.2.trans s3.symm) (e8 rk P w px d ld)
  obtain ⟨q3, q4⟩ := w.2 _ s1 q1 s2 j hj.1 jn'
  have va := hV _ j s1 s2 hj.1 jn'
  have q5 := (w.1 _ y va vy.1 ((show T (agN S 0 (sh d) j) = y from je).trans vy.2.symm) q3).2
  have := mx d ⟨hd.1, by omega⟩ ⟨ld, nd⟩
  omega
noncomputable def idr (r : Int → Int) (g y : Int) : Int := @dite _ (DLr r g y) (Classical.propDecidable _) (fun h => Classical.choose h) (fun _ => 0)
theorem idr_e {r : Int → Int} {g y : Int} (h : DLr r g y) : (0 ≤ idr r g y ∧ idr r g y < g) ∧ r (idr r g y) = y := by
  unfold idr
  rw [dif_pos h]
  exact Classical.choose_spec h
theorem TKI.yes {c m x f g k : Int} {S : zJ} {T sh r u u0 : Int → Int} {L : Int → Prop} (hc : c = 400 ∨ c = 800) (E : LSE c m S T sh x L u0 f) (h : TKI c m S T sh L r u g k 0 0) (hg : f ≤ g) (hV : ∀ x i, VN c m x → 0 ≤ hdN S 0 x → 0 ≤ i → i < arN S 0 0 x → VN c m (agN S 0 x i)) (hS : ∀ y, L y → ¬ sh y = -1 → VN c m (sh y) ∧ 0 ≤ hdN S 0 (sh y) ∧ T (sh y) = y) (hN : ∀ u, VN c m u → 0 ≤ hdN S 0 u → ¬ sh (T u) = -1) (hT : CGm (VN c m) (hdN S 0) (arN S 0 0) (agN S 0) T) (h3 : ∀ x, VN c m x → arN S 0 0 x ≤ 3) : NRu (VN c m) (hdN S 0) (arN S 0 0) (agN S 0) (fun u v => T u = T v) x := by
  obtain ⟨h1, h2, h30, h4, h5, h6⟩ := h
  obtain ⟨⟨e1, e2, e3⟩, e4, e5, e6, e7, e8⟩ := E
  have all : ∀ y, L y → DLr r g y := fun y ly => Classical.byContradiction (fun n => by
    have := cnP_lt (D := DLr r g) (D' := L) (fun q _ ⟨j, hj, e⟩ => by rw [← e]; exact h30 j hj.1 hj.2) ⟨y, (e4 y ly).1.b hc, ly, n⟩
    have := h1.2.2.2
    omega)
  refine ⟨fun u => (800 - idr r g (T u)).toNat, fun u => VN c m u ∧ L (T u), ⟨(e4 x e3).1, by rw [(e4 x e3).2]; exact e3⟩, fun u v _ hv e q => ⟨⟨hv, by rw [← e]; exact q.2⟩, by (try dsimp only); rw [show T u = T v from e]⟩, fun u hu q h0 i a b => ?_⟩
  have lc := q.2
  have ns := hN u hu h0
  obtain ⟨s1, s2, s3⟩ := hS _ lc ns
  obtain ⟨g1, g2⟩ := hT u _ hu s1 s3.symm h0 s2
  have ea : arN S 0 0 u = arN S 0 0 (sh (T u)) := by
    unfold arN mar
    unfold hdN at g1
    rw [g1]
  have e9 := g2 i a b
  have na : nai S sh (T u) = arN S 0 0 (sh (T u)) := by unfold nai; rw [if_neg ns]
  have lch : L (chi S T sh (T u) i) := e5 _ i lc a (by omega)
  have ech : T (agN S 0 u i) = chi S T sh (T u) i := e9
  refine ⟨⟨hV u i hu h0 a b, by rw [ech]; exact lch⟩, ?_⟩
  show (800 - idr r g (T (agN S 0 u i))).toNat < (800 - idr r g (T u)).toNat
  rw [ech]
  obtain ⟨i1, i2⟩ := idr_e (all _ lch)
  obtain ⟨j1, j2⟩ := idr_e (all _ lc)
  have i3 := h3 _ s1
  obtain ⟨j', hj', ej⟩ := h6 _ (T u) i1.1 i1.2 lc (by rw [i2]; exact eP_p (j := i) ⟨a, by omega⟩ (by omega) rfl)
  have : j' = idr r g (T u) := by
    rcases Int.lt_trichotomy j' (idr r g (T u)) with q | q | q
    · exact absurd (ej.trans j2.symm) (h1.2.2.1 _ _ hj'.1 q j1.2)
    · exact q
    · exact absurd (j2.trans ej.symm) (h1.2.2.1 _ _ j1.1 q (by omega))
  have := h1.1
  omega
/-- what is seen but for the uses -/
def vF (c m : Int) (J' J : zJ) : Prop := UFp (VN c m) (upV J') ∧ (∀ x, VN c m x → tp (upV J') x = tp (upV J) x) ∧ ∀ x, VN c m x → usV J' x = usV J x ∧ ulV J' x = ulV J x ∧ uoV J' x = uoV J x
theorem vF.rf {c m : Int} {J : zJ} (U : UFp (VN c m) (upV J)) : vF c m J J := ⟨U, fun _ _ => rfl, fun _ _ => ⟨rfl, rfl, rfl⟩⟩
theorem vE.f {c m : Int} {J3 J2 J1 : zJ} (h : vE c m J3 J2) (g : vF c m J2 J1) : vF c m J3 J1 := ⟨h.1, fun x hx => (h.2.1 x hx).trans (g.2.1 x hx), fun x hx => by
  obtain ⟨a1, a2, a3, a4⟩ := h.2.2 x hx
  obtain ⟨b1, b2, b4⟩ := g.2.2 x hx
  exact ⟨a1.trans b1, a2.trans b2, a4.trans b4⟩⟩
theorem vF.up {c m : Int} {J2 J1 J : zJ} (g : vF c m J1 J) (e : ∀ q, (q = 7 ∨ q = 145 ∨ (146 ≤ q ∧ q ≤ 150)) → J2 q = J1 q) : vF c m J2 J := by
  have e7 := e 7 (by omega)
  have e5 := e 145 (by omega)
  have p : upV J2 = upV J1 := funext fun x => by unfold upV; rw [e5, e 146 (by omega), e 147 (by omega)]
  refine ⟨by rw [p]; exact g.1, by rw [p]; exact g.2.1, fun x hx => ?_⟩
  have : usV J2 x = usV J1 x ∧ ulV J2 x = ulV J1 x ∧ uoV J2 x = uoV J1 x := by
    unfold usV ulV uoV
    rw [e7, e5, e 146 (by omega), e 148 (by omega), e 149 (by omega), e 150 (by omega)]
    exact ⟨rfl, rfl, rfl⟩
  obtain ⟨a, b, d⟩ := g.2.2 x hx
  exact ⟨this.1.trans a, this.2.1.trans b, this.2.2.trans d⟩
/-- a term's symbol, arguments, as a node -/
theorem a0_nd {J S : zJ} {b m x : Int} (E : A0 J S) (C : CT J m) (hm : J 6 12 = m) (hx : nd b m x) : arN S 0 0 x = J 8 (tm x) ∧ hdN S 0 x = J 7 (tm x) ∧ ∀ i, 0 ≤ i → i < J 8 (tm x) → agN S 0 x i = J 9 (tm x * 3 + i) + sd x := by
  have t := C.told.2
  have hr := hx.rg t
  have hi := hx.ix t
  have e := tm_m hr
  obtain ⟨a1, a2, a3⟩ := E.tm C hm hi
  unfold arN hdN agN
  rw [← e.1, ← e.2]
  exact ⟨a2, a1, fun i p q => by rw [a3 i p q]; omega⟩
