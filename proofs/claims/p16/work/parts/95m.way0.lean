/-! ===== wayOf of the class: what holds between two pairs ===== -/
theorem rsp_eq {V : Int → Prop} {p1 p2 f : Int → Int} (U1 : UFp V p1) (U2 : UFp V p2) (e : ∀ x, V x → tp p2 x = tp p1 x) (r : Rsp V p1 f) : Rsp V p2 f := fun y hy => by
  rw [← U1.f r (U2.V hy), ← e _ (U2.V hy), U2.p y hy, e y hy, U1.f r hy]
theorem CLp.eqt {V : Int → Prop} {hd ar : Int → Int} {ag : Int → Int → Int} {p1 p2 : Int → Int} {Q : (Int → Int) → Prop} (U1 : UFp V p1) (U2 : UFp V p2) (e : ∀ x, V x → tp p2 x = tp p1 x) (h : CLp V hd ar ag p1 Q) : CLp V hd ar ag p2 Q := fun x y hx hy q h1 h2 => by
  rw [e x hx, e y hy] at q
  obtain ⟨a, b⟩ := h x y hx hy q h1 h2
  exact ⟨a, fun f r w => b f (rsp_eq U2 U1 (fun x hx => (e x hx).symm) r) w⟩
theorem SHp.eqt {V : Int → Prop} {hd p1 p2 sh1 sh2 lv1 lv2 : Int → Int} (U1 : UFp V p1) (e : ∀ x, V x → tp p2 x = tp p1 x) (es : ∀ x, V x → sh2 x = sh1 x) (el : ∀ x, V x → lv2 x = lv1 x) (h : SHp V hd p1 sh1 lv1) : SHp V hd p2 sh2 lv2 := fun a ha ra => by
  have r1 : p1 a = a := by
    have q := (U1.root ha).1
    rw [← e a ha, tp_r ra] at q
    exact q
  obtain ⟨k1, k2⟩ := h a ha r1
  rw [es a ha, el a ha]
  refine ⟨k1.imp id (fun q => ⟨q.1, q.2.1, by rw [e _ q.1]; exact q.2.2⟩), fun w => ?_⟩
  obtain ⟨x1, u, hu, e1, e2⟩ := k2 w
  exact ⟨fun u hu q => x1 u hu (by rw [← e u hu]; exact q), u, hu, by rw [e u hu]; exact e1, e2⟩
/-- what still waits -/
def PND (J : zJ) (k : Int) (f : Int → Int) : Prop := ∀ j, k ≤ j → j < J 145 11 → f (J 151 j) = f (J 152 j)
def WAY (c m : Int) (S : zJ) (s t : Int) (J : zJ) (k : Int) : Prop := UFp (VN c m) (upV J) ∧ SHp (VN c m) (hdN S 0) (upV J) (usV J) (ulV J) ∧ (∀ y, VN c m y → uuV J y = -1 ∧ uoV J y = -1) ∧ (∀ f, CGm (VN c m) (hdN S 0) (arN S 0 0) (agN S 0) f → f s = f t → Rsp (VN c m) (upV J) f ∧ ∀ j, 0 ≤ j → j < J 145 11 → f (J 151 j) = f (J 152 j)) ∧ CLp (VN c m) (hdN S 0) (arN S 0 0) (agN S 0) (upV J) (PND J k) ∧ (∀ f, Rsp (VN c m) (upV J) f → PND J k f → f s = f t) ∧ J 145 11 + 3 * (cnP (fun x => VN c m x ∧ tp (upV J) x = x) : Int) ≤ 2401
theorem WAY.e {c m s t k : Int} {S J2 J1 : zJ} (h : WAY c m S s t J1 k) (v : vE c m J2 J1) (e5 : J2 145 11 = J1 145 11) (e1 : J2 151 = J1 151) (e2 : J2 152 = J1 152) : WAY c m S s t J2 k := by
  obtain ⟨U1, hS, hu, hA, hB, hD, hn⟩ := h
  obtain ⟨U2, et, ev⟩ := v
  have ep : PND J2 k = PND J1 k := by unfold PND; rw [e5, e1, e2]
  refine ⟨U2, hS.eqt U1 et (fun x hx => (ev x hx).1) (fun x hx => (ev x hx).2.1), fun y hy => ?_, fun f g q => ?_, ?_, fun f r q => ?_, ?_⟩
  · obtain ⟨_, _, a, b⟩ := ev y hy
    rw [a, b]; exact hu y hy
  · obtain ⟨a, b⟩ := hA f g q
    rw [e5, e1, e2]
    exact ⟨rsp_eq U1 U2 et a, b⟩
  · rw [ep]; exact hB.eqt U1 U2 et
  · rw [ep] at q
    exact hD f (rsp_eq U2 U1 (fun x hx => (et x hx).symm) r) q
  · rw [e5]
    have : (fun x => VN c m x ∧ tp (upV J2) x = x) = (fun x => VN c m x ∧ tp (upV J1) x = x) := funext fun x => propext ⟨fun q => ⟨q.1, by rw [← et x q.1]; exact q.2⟩, fun q => ⟨q.1, by rw [et x q.1]; exact q.2⟩⟩
    rw [this]; exact hn
theorem PND.s {J : zJ} {k : Int} {f : Int → Int} (h : PND J (k + 1) f) (q : f (J 151 k) = f (J 152 k)) : PND J k f := fun j a b => by
  by_cases w : j = k
  · rw [w]; exact q
  · exact h j (by omega) b
theorem WAY.same {c m s t k : Int} {S J : zJ} (h : WAY c m S s t J k) (v1 : VN c m (J 151 k)) (v2 : VN c m (J 152 k)) (e : tp (upV J) (J 151 k) = tp (upV J) (J 152 k)) : WAY c m S s t J (k + 1) := by
  obtain ⟨U, hS, hu, hA, hB, hD, hn⟩ := h
  refine ⟨U, hS, hu, hA, hB.mono (fun f r q => q.s (U.eq r v1 v2 e)), fun f r q => hD f r (q.s (U.eq r v1 v2 e)), hn⟩
theorem cnP_2 {D : Int → Prop} {a b : Int} (ha : 0 ≤ a ∧ a < 800) (hb : 0 ≤ b ∧ b < 800) (n : ¬ a = b) (da : D a) (db : D b) : 2 ≤ cnP D := by
  have h1 := cnP_lt (D := fun _ => False) (D' := fun x => x = a) (fun _ _ q => q.elim) ⟨a, ha, rfl, id⟩
  have h2 := cnP_lt (D := fun x => x = a) (D' := D) (fun x _ q => by rw [q]; exact da) ⟨b, hb, db, fun q => n q.symm⟩
  omega
/-- two classes made one -/
theorem WAY.join {c m s t k a b : Int} {S J J' : zJ} (hc : c = 400 ∨ c = 800) (h : WAY c m S s t J k) (hk : 0 ≤ k ∧ k < J 145 11) (v1 : VN c m (J 151 k)) (v2 : VN c m (J 152 k)) (ea : tp (upV J) (J 151 k) = a) (eb : tp (upV J) (J 152 k) = b) (hab : ¬ a = b) (L : VLK c m J' J a b) (q : ((usV J a = -1 ∨ usV J b = -1) ∧ J' 145 11 = J 145 11 ∧ J' 151 = J 151 ∧ J' 152 = J 152) ∨ (¬ usV J a = -1 ∧ ¬ usV J b = -1 ∧ hdN S 0 (usV J a) = hdN S 0 (usV J b) ∧ (J 145 11 ≤ 2398 → ∃ A, (arN S 0 0 (usV J a) = A ∧ 0 ≤ A ∧ A ≤ 3) ∧ J' 145 11 = J 145 11 + A ∧ (∀ j, j < J 145 11 → J' 151 j = J 151 j ∧ J' 152 j = J 152 j) ∧ ∀ i, 0 ≤ i → i < A → J' 151 (J 145 11 + i) = agN S 0 (usV J a) i ∧ J' 152 (J 145 11 + i) = agN S 0 (usV J b) i))) : WAY c m S s t J' (k + 1) := by
  obtain ⟨U, hS, hu, hA, hB, hD, hn⟩ := h
  obtain ⟨l1, l2, l3, l4, l5⟩ := L
  have ra := U.root v1
  have rb := U.root v2
  rw [ea] at ra
  rw [eb] at rb
  obtain ⟨U', tp', rs⟩ := U.link ⟨ra.2, ra.1⟩ ⟨rb.2, rb.1⟩ hab l1
  have hS' := hS.link U ⟨ra.2, ra.1⟩ ⟨rb.2, rb.1⟩ hab l1 l2 l3 l4 (fun k hk => by have := hk.1; omega)
  have fab : ∀ f, Rsp (VN c m) (upV J) f → (f (J 151 k) = f (J 152 k) ↔ f a = f b) := fun f r => by rw [← U.f r v1, ← U.f r v2, ea, eb]
  have rt2 := cnP_2 (D := fun x => VN c m x ∧ tp (upV J) x = x) (ra.2.b hc) (rb.2.b hc) hab ⟨ra.2, tp_r ra.1⟩ ⟨rb.2, tp_r rb.1⟩
  have rtl := cnP_lt (D := fun x => VN c m x ∧ tp (upV J') x = x) (D' := fun x => VN c m x ∧ tp (upV J) x = x) (fun x _ y => ⟨y.1, by
    have w := y.2
    rw [tp' x y.1] at w
    by_cases z : tp (upV J) x = b
    · rw [if_pos z] at w
      rw [← w, tp_r ra.1] at z
      exact absurd z hab
    · rw [if_neg z] at w; exact w⟩) ⟨b, rb.2.b hc, ⟨rb.2, tp_r rb.1⟩, fun y => by
    have w := y.2
    rw [tp' b rb.2, tp_r rb.1, if_pos rfl] at w
    exact hab w⟩
  refine ⟨U', hS', fun y hy => by rw [(l5 y hy).1, (l5 y hy).2]; exact hu y hy, ?_⟩
  have old : ∀ f, CGm (VN c m) (hdN S 0) (arN S 0 0) (agN S 0) f → f s = f t → Rsp (VN c m) (upV J') f ∧ Rsp (VN c m) (upV J) f ∧ f a = f b ∧ ∀ j, 0 ≤ j → j < J 145 11 → f (J 151 j) = f (J 152 j) := fun f g w => by
    obtain ⟨x, y⟩ := hA f g w
    have z := (fab f x).1 (y k hk.1 hk.2)
    exact ⟨(rs f).2 ⟨x, z⟩, x, z, y⟩
  rcases q with ⟨q1, q2, q3, q4⟩ | ⟨q1, q2, q3, q4⟩
  · have ep : PND J' (k + 1) = PND J (k + 1) := by unfold PND; rw [q2, q3, q4]
    refine ⟨fun f g w => ⟨(old f g w).1, by rw [q2, q3, q4]; exact (old f g w).2.2.2⟩, ?_, fun f r w => ?_, by rw [q2]; omega⟩
    · rw [ep]
      refine (hB.mono (fun f r w => PND.s w.1 w.2)).one (Q := PND J (k + 1)) U v1 v2 ea eb hab l1 ?_
      rcases q1 with q1 | q1
      · exact Or.inl (fun u hu eu => (((hS a ra.2 ra.1).2 q1).1 u hu eu).1)
      · exact Or.inr (fun u hu eu => (((hS b rb.2 rb.1).2 q1).1 u hu eu).1)
    · rw [ep] at w
      obtain ⟨r1, r2⟩ := (rs f).1 r
      exact hD f r1 (w.s ((fab f r1).2 r2))
  · obtain ⟨A, ⟨hA1, hA0, hA2⟩, p1, p2, p3⟩ := q4 (by omega)
    obtain ⟨x1, x2, x3⟩ := (hS a ra.2 ra.1).1.resolve_left q1
    obtain ⟨y1, y2, y3⟩ := (hS b rb.2 rb.1).1.resolve_left q2
    refine ⟨fun f g w => ?_, ?_, fun f r w => ?_, by rw [p1]; omega⟩
    · obtain ⟨w1, w2, w3, w4⟩ := old f g w
      refine ⟨w1, fun j a1 b1 => ?_⟩
      by_cases z : j < J 145 11
      · rw [(p2 j z).1, (p2 j z).2]; exact w4 j a1 z
      · have e1 : f (usV J a) = f (usV J b) := by rw [U.eq w2 x1 v1 (x3.trans ea.symm), U.eq w2 y1 v2 (y3.trans eb.symm)]; exact (fab f w2).2 w3
        have e2 := (g _ _ x1 y1 e1 x2 y2).2 (j - J 145 11) (by omega) (by omega)
        have e3 := p3 (j - J 145 11) (by omega) (by omega)
        rw [show J 145 11 + (j - J 145 11) = j from by omega] at e3
        rw [e3.1, e3.2]
        exact e2
    · refine ((hB.mono (fun f r w => PND.s w.1 w.2)).two (Q := PND J (k + 1)) (x0 := usV J a) (y0 := usV J b) (fun u v _ _ _ e => by unfold arN mar; unfold hdN at e; rw [e]) U v1 v2 ea eb hab l1 ⟨x1, x2, x3⟩ ⟨y1, y2, y3⟩ q3).mono (fun f r w => ⟨fun j a1 b1 => ?_, fun i a1 b1 => ?_⟩)
      · have := w j a1 (by omega)
        rw [(p2 j b1).1, (p2 j b1).2] at this
        exact this
      · have := w (J 145 11 + i) (by omega) (by omega)
        have e3 := p3 i a1 (by omega)
        rw [e3.1, e3.2] at this
        exact this
    · obtain ⟨r1, r2⟩ := (rs f).1 r
      refine hD f r1 (PND.s (fun j a1 b1 => ?_) ((fab f r1).2 r2))
      have := w j a1 (by omega)
      rw [(p2 j b1).1, (p2 j b1).2] at this
      exact this
theorem WAY.no {c m s t k a b : Int} {S J : zJ} (h : WAY c m S s t J k) (hk : 0 ≤ k ∧ k < J 145 11) (v1 : VN c m (J 151 k)) (v2 : VN c m (J 152 k)) (ea : tp (upV J) (J 151 k) = a) (eb : tp (upV J) (J 152 k) = b) (q1 : ¬ usV J a = -1) (q2 : ¬ usV J b = -1) (n : ¬ hdN S 0 (usV J a) = hdN S 0 (usV J b)) : ¬ ∃ f, CGm (VN c m) (hdN S 0) (arN S 0 0) (agN S 0) f ∧ f s = f t := by
  rintro ⟨f, g, w⟩
  obtain ⟨U, hS, hu, hA, hB, hD, hn⟩ := h
  have ra := U.root v1
  have rb := U.root v2
  rw [ea] at ra
  rw [eb] at rb
  obtain ⟨x1, x2, x3⟩ := (hS a ra.2 ra.1).1.resolve_left q1
  obtain ⟨y1, y2, y3⟩ := (hS b rb.2 rb.1).1.resolve_left q2
  obtain ⟨r, y⟩ := hA f g w
  exact n (g _ _ x1 y1 (by rw [U.eq r x1 v1 (x3.trans ea.symm), U.eq r y1 v2 (y3.trans eb.symm)]; exact y k hk.1 hk.2) x2 y2).1
theorem WAY.fin {c m s t k : Int} {S J : zJ} (h : WAY c m S s t J k) (hk : J 145 11 ≤ k) : CGm (VN c m) (hdN S 0) (arN S 0 0) (agN S 0) (tp (upV J)) ∧ tp (upV J) s = tp (upV J) t ∧ ∀ u v, VN c m u → VN c m v → (tp (upV J) u = tp (upV J) v ↔ LCu (VN c m) (hdN S 0) (arN S 0 0) (agN S 0) s t u v) := by
  obtain ⟨U, hS, hu, hA, hB, hD, hn⟩ := h
  have pd : ∀ f, PND J k f := fun f j a b => by omega
  have g := (hB.mono (Q' := fun _ => True) (fun f _ _ => pd f)).cg U
  have e := hD _ U.p (pd _)
  exact ⟨g, e, fun u v hu hv => ⟨fun q f gf qf => U.eq (hA f gf qf).1 hu hv q, fun q => q _ g e⟩⟩
/-- a round begins -/
theorem WAY.start {c m s t : Int} {S J' : zJ} (hc : c = 400 ∨ c = 800) (e : ∀ u, VN c m u → ¬ J' 146 u = J' 145 10) (hh : ∀ u, VN c m u → hdN S 0 u = J' 7 (tm u)) (e5 : J' 145 11 = 1) (e1 : J' 151 0 = s) (e2 : J' 152 0 = t) : WAY c m S s t J' 0 := by
  have ep : ∀ u, VN c m u → upV J' u = u := fun u hu => by unfold upV; rw [if_neg (e u hu)]
  have et : ∀ u, VN c m u → tp (upV J') u = u := fun u hu => tp_r (ep u hu)
  have U : UFp (VN c m) (upV J') := ⟨fun _ => 0, fun u hu => by rw [ep u hu]; exact ⟨hu, Or.inl rfl⟩⟩
  have h8 := cnP_8 (fun x => VN c m x ∧ tp (upV J') x = x)
  refine ⟨U, fun a ha _ => ?_, fun u hu => by unfold uuV uoV; rw [if_neg (e u hu), if_neg (e u hu)]; exact ⟨rfl, rfl⟩, fun f _ q => ⟨fun u hu => by rw [ep u hu], fun j a b => by rw [show j = 0 by omega, e1, e2]; exact q⟩, fun u v hu hv k h1 h2 => ?_, fun f _ q => ?_, by rw [e5]; omega⟩
  · have hs : usV J' a = if J' 7 (tm a) < 0 then -1 else a := by unfold usV; rw [if_neg (e a ha)]
    have hl : ulV J' a = -1 - J' 7 (tm a) := by unfold ulV; rw [if_neg (e a ha)]
    have h7 := hh a ha
    rw [hs]
    by_cases w : J' 7 (tm a) < 0
    · rw [if_pos w]
      refine ⟨Or.inl rfl, fun _ => ⟨fun u hu eu => ?_, a, ha, et a ha, by rw [hl, h7]⟩⟩
      rw [et u hu] at eu
      subst eu
      omega
    · rw [if_neg w]
      exact ⟨Or.inr ⟨ha, by omega, et a ha⟩, fun q => by have := ha.1; omega⟩
  · rw [et u hu, et v hv] at k
    rw [k]
    exact ⟨rfl, fun _ _ _ _ _ _ => rfl⟩
  · have := q 0 (by omega) (by omega)
    rw [e1, e2] at this
    exact this
