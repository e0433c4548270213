/-! ===== classes by parents, purely ===== -/
def itP (p : Int → Int) : Nat → Int → Int
  | 0, x => x
  | n + 1, x => itP p n (p x)
theorem itP_s {p : Int → Int} {n : Nat} {x : Int} : itP p (n + 1) x = itP p n (p x) := rfl
theorem itP_f {V : Int → Prop} {p f : Int → Int} (hV : ∀ x, V x → V (p x)) (hf : ∀ x, V x → f (p x) = f x) : ∀ (n : Nat) (x : Int), V x → f (itP p n x) = f x ∧ V (itP p n x)
  | 0, _, hx => ⟨rfl, hx⟩
  | n + 1, x, hx => by
    have := itP_f hV hf n (p x) (hV x hx)
    exact ⟨this.1.trans (hf x hx), this.2⟩
theorem itP_r {p : Int → Int} {x : Int} (h : p x = x) : ∀ n : Nat, itP p n x = x
  | 0 => rfl
  | n + 1 => by rw [itP_s, h]; exact itP_r h n
theorem itP_a {p : Int → Int} : ∀ (a b : Nat) (x : Int), itP p (a + b) x = itP p b (itP p a x)
  | 0, b, x => by rw [Nat.zero_add]; rfl
  | a + 1, b, x => by rw [show a + 1 + b = (a + b) + 1 from by omega, itP_s, itP_a a b (p x), itP_s]
theorem itP_u {p : Int → Int} {a b : Nat} {x : Int} (ha : p (itP p a x) = itP p a x) (hb : p (itP p b x) = itP p b x) : itP p a x = itP p b x := by
  rcases Nat.le_total a b with h | h
  · obtain ⟨d, rfl⟩ := Nat.exists_eq_add_of_le h
    rw [itP_a, itP_r ha]
  · obtain ⟨d, rfl⟩ := Nat.exists_eq_add_of_le h
    rw [itP_a, itP_r hb]
def UFp (V : Int → Prop) (p : Int → Int) : Prop := ∃ rk : Int → Nat, ∀ x, V x → V (p x) ∧ (p x = x ∨ rk (p x) < rk x)
theorem UFp.V {V : Int → Prop} {p : Int → Int} (h : UFp V p) {x : Int} (hx : V x) : V (p x) := h.elim (fun _ h => (h x hx).1)
theorem UFp.ex {V : Int → Prop} {p : Int → Int} (h : UFp V p) {x : Int} (hx : V x) : ∃ n, p (itP p n x) = itP p n x := by
  obtain ⟨rk, h⟩ := h
  have key : ∀ (N : Nat) (x : Int), V x → rk x < N → ∃ n, p (itP p n x) = itP p n x := by
    intro N
    induction N with
    | zero => intro x _ q; exact absurd q (Nat.not_lt_zero _)
    | succ N ih =>
      intro x hx q
      obtain ⟨a, b⟩ := h x hx
      rcases b with b | b
      · exact ⟨0, b⟩
      · obtain ⟨n, e⟩ := ih (p x) a (by omega)
        exact ⟨n + 1, e⟩
  exact key _ x hx (Nat.lt_succ_self _)
/-- the root -/
noncomputable def tp (p : Int → Int) (x : Int) : Int := @dite _ (∃ n, p (itP p n x) = itP p n x) (Classical.propDecidable _) (fun h => itP p (Classical.choose h) x) (fun _ => x)
theorem tp_e {p : Int → Int} {x : Int} (h : ∃ n, p (itP p n x) = itP p n x) : ∃ n, tp p x = itP p n x ∧ p (itP p n x) = itP p n x := by
  refine ⟨Classical.choose h, ?_, Classical.choose_spec h⟩
  unfold tp
  rw [dif_pos h]
theorem tp_n {p : Int → Int} {x : Int} {n : Nat} (h : p (itP p n x) = itP p n x) : tp p x = itP p n x := by
  obtain ⟨k, a, b⟩ := tp_e ⟨n, h⟩
  rw [a]
  exact itP_u b h
theorem tp_r {p : Int → Int} {z : Int} (h : p z = z) : tp p z = z := tp_n (n := 0) h
def Rsp (V : Int → Prop) (p f : Int → Int) : Prop := ∀ y, V y → f (p y) = f y
theorem UFp.root {V : Int → Prop} {p : Int → Int} (h : UFp V p) {x : Int} (hx : V x) : p (tp p x) = tp p x ∧ V (tp p x) := by
  obtain ⟨n, a, b⟩ := tp_e (h.ex hx)
  rw [a]
  exact ⟨b, (itP_f (f := fun _ => 0) (fun y hy => h.V hy) (fun _ _ => rfl) n x hx).2⟩
theorem UFp.f {V : Int → Prop} {p f : Int → Int} (h : UFp V p) (hf : Rsp V p f) {x : Int} (hx : V x) : f (tp p x) = f x := by
  obtain ⟨n, a, _⟩ := tp_e (h.ex hx)
  rw [a]
  exact (itP_f (fun y hy => h.V hy) hf n x hx).1
theorem UFp.p {V : Int → Prop} {p : Int → Int} (h : UFp V p) : Rsp V p (tp p) := fun x hx => by
  obtain ⟨n, a, b⟩ := tp_e (h.ex (h.V hx))
  rw [a]
  exact (tp_n (n := n + 1) b).symm
theorem UFp.eq {V : Int → Prop} {p f : Int → Int} (h : UFp V p) (hf : Rsp V p f) {x y : Int} (hx : V x) (hy : V y) (e : tp p x = tp p y) : f x = f y := by
  rw [← h.f hf hx, ← h.f hf hy, e]
/-- two classes made one -/
theorem UFp.link {V : Int → Prop} {p p' : Int → Int} (h : UFp V p) {a b : Int} (ha : V a ∧ p a = a) (hb : V b ∧ p b = b) (hab : ¬ a = b) (e : ∀ k, V k → p' k = if k = b then a else p k) : UFp V p' ∧ (∀ x, V x → tp p' x = if tp p x = b then a else tp p x) ∧ ∀ f, Rsp V p' f ↔ Rsp V p f ∧ f a = f b := by
  have rs : ∀ f, Rsp V p' f ↔ Rsp V p f ∧ f a = f b := fun f => by
    constructor
    · intro q
      refine ⟨fun y hy => ?_, ?_⟩
      · by_cases w : y = b
        · rw [w, hb.2]
        · have := q y hy
          rw [e y hy, if_neg w] at this
          exact this
      · have := q b hb.1
        rw [e b hb.1, if_pos rfl] at this
        exact this
    · rintro ⟨q, w⟩ y hy
      rw [e y hy]
      by_cases u : y = b
      · rw [if_pos u, u]; exact w
      · rw [if_neg u]; exact q y hy
  have U : UFp V p' := by
    obtain ⟨rk, h⟩ := h
    refine ⟨fun x => if x = a then 0 else rk x + 1, fun x hx => ?_⟩
    obtain ⟨h1, h2⟩ := h x hx
    rw [e x hx]
    by_cases u : x = b
    · rw [if_pos u]
      refine ⟨ha.1, Or.inr ?_⟩
      show (if a = a then 0 else rk a + 1) < (if x = a then 0 else rk x + 1)
      rw [if_pos rfl, if_neg (by omega)]
      omega
    · rw [if_neg u]
      refine ⟨h1, h2.imp id (fun g => ?_)⟩
      have hka : ¬ x = a := fun e2 => by subst e2; rw [ha.2] at g; omega
      show (if p x = a then 0 else rk (p x) + 1) < (if x = a then 0 else rk x + 1)
      rw [if_neg hka]
      split <;> omega
  refine ⟨U, fun x hx => ?_, rs⟩
  have q : Rsp V p' (fun x => if tp p x = b then a else tp p x) := (rs _).2 ⟨fun y hy => by (try dsimp only); rw [h.p y hy], by (try dsimp only); rw [tp_r ha.2, tp_r hb.2, if_neg hab, if_pos rfl]⟩
  have w := U.f q hx
  (try dsimp only at w)
  rw [← w]
  obtain ⟨r1, r2⟩ := U.root hx
  have nb : ¬ tp p' x = b := fun u => by
    rw [u, e b hb.1, if_pos rfl] at r1
    exact hab r1
  rw [e _ r2, if_neg nb] at r1
  rw [tp_r r1, if_neg nb]
/-- a way made shorter -/
theorem UFp.short {V : Int → Prop} {p p' : Int → Int} (h : UFp V p) {t : Int} (ht : V t) (e : ∀ k, V k → p' k = if k = t then p (p t) else p k) : UFp V p' ∧ (∀ x, V x → tp p' x = tp p x) ∧ ∀ f, Rsp V p f → Rsp V p' f := by
  have rs : ∀ f, Rsp V p f → Rsp V p' f := fun f q y hy => by
    rw [e y hy]
    by_cases u : y = t
    · rw [if_pos u, u, q _ (h.V ht), q t ht]
    · rw [if_neg u]; exact q y hy
  have hp := h.p
  have U : UFp V p' := by
    obtain ⟨rk, h⟩ := h
    refine ⟨rk, fun x hx => ?_⟩
    rw [e x hx]
    by_cases u : x = t
    · rw [if_pos u, u]
      obtain ⟨h1, h2⟩ := h t ht
      obtain ⟨h3, h4⟩ := h _ h1
      refine ⟨h3, ?_⟩
      rcases h2 with h2 | h2
      · exact Or.inl (by rw [h2, h2])
      · rcases h4 with h4 | h4
        · exact Or.inr (by rw [h4]; exact h2)
        · exact Or.inr (by omega)
    · rw [if_neg u]; exact h x hx
  refine ⟨U, fun x hx => ?_, rs⟩
  have w := U.f (rs _ hp) hx
  rw [← w]
  obtain ⟨r1, r2⟩ := U.root hx
  refine (tp_r ?_).symm
  rw [e _ r2] at r1
  by_cases u : tp p' x = t
  · rw [if_pos u] at r1
    rw [u] at r1 ⊢
    obtain ⟨rk, h⟩ := h
    obtain ⟨h1, h2⟩ := h t ht
    obtain ⟨h3, h4⟩ := h _ h1
    rw [r1] at h4
    rcases h2 with h2 | h2
    · exact h2
    · rcases h4 with h4 | h4
      · exact h4.symm
      · omega
  · rw [if_neg u] at r1; exact r1
/-! ===== what must be alike ===== -/
/-- no clash in a likeness that goes down into arguments -/
def CGm (V : Int → Prop) (hd ar : Int → Int) (ag : Int → Int → Int) (f : Int → Int) : Prop := ∀ x y, V x → V y → f x = f y → 0 ≤ hd x → 0 ≤ hd y → hd x = hd y ∧ ∀ i, 0 ≤ i → i < ar x → f (ag x i) = f (ag y i)
/-- classes, up to what is still to be done -/
def CLp (V : Int → Prop) (hd ar : Int → Int) (ag : Int → Int → Int) (p : Int → Int) (Q : (Int → Int) → Prop) : Prop := ∀ x y, V x → V y → tp p x = tp p y → 0 ≤ hd x → 0 ≤ hd y → hd x = hd y ∧ ∀ f, Rsp V p f → Q f → ∀ i, 0 ≤ i → i < ar x → f (ag x i) = f (ag y i)
theorem CLp.mono {V : Int → Prop} {hd ar : Int → Int} {ag : Int → Int → Int} {p : Int → Int} {Q Q' : (Int → Int) → Prop} (h : CLp V hd ar ag p Q) (q : ∀ f, Rsp V p f → Q' f → Q f) : CLp V hd ar ag p Q' := fun x y hx hy e h1 h2 => ⟨(h x y hx hy e h1 h2).1, fun f r w => (h x y hx hy e h1 h2).2 f r (q f r w)⟩
theorem CLp.cg {V : Int → Prop} {hd ar : Int → Int} {ag : Int → Int → Int} {p : Int → Int} (U : UFp V p) (h : CLp V hd ar ag p (fun _ => True)) : CGm V hd ar ag (tp p) := fun x y hx hy e h1 h2 => ⟨(h x y hx hy e h1 h2).1, (h x y hx hy e h1 h2).2 _ U.p trivial⟩
theorem CLp.same {V : Int → Prop} {hd ar : Int → Int} {ag : Int → Int → Int} {p : Int → Int} {Q : (Int → Int) → Prop} {s t : Int} (U : UFp V p) (hs : V s) (ht : V t) (e : tp p s = tp p t) (h : CLp V hd ar ag p (fun f => Q f ∧ f s = f t)) : CLp V hd ar ag p Q := h.mono (fun f r q => ⟨q, U.eq r hs ht e⟩)
theorem CLp.one {V : Int → Prop} {hd ar : Int → Int} {ag : Int → Int → Int} {p p' : Int → Int} {Q : (Int → Int) → Prop} {s t a b : Int} (U : UFp V p) (hs : V s) (ht : V t) (ea : tp p s = a) (eb : tp p t = b) (hab : ¬ a = b) (e : ∀ k, V k → p' k = if k = b then a else p k) (n : (∀ u, V u → tp p u = a → hd u < 0) ∨ (∀ u, V u → tp p u = b → hd u < 0)) (h : CLp V hd ar ag p (fun f => Q f ∧ f s = f t)) : CLp V hd ar ag p' Q := by
  have ra := U.root hs
  have rb := U.root ht
  rw [ea] at ra
  rw [eb] at rb
  obtain ⟨_, l2, l3⟩ := U.link ⟨ra.2, ra.1⟩ ⟨rb.2, rb.1⟩ hab e
  have st : ∀ f, Rsp V p' f → Rsp V p f ∧ f s = f t := fun f r => by
    obtain ⟨r1, r2⟩ := (l3 f).1 r
    refine ⟨r1, ?_⟩
    rw [← U.f r1 hs, ← U.f r1 ht, ea, eb]
    exact r2
  intro x y hx hy exy h1 h2
  rw [l2 x hx, l2 y hy] at exy
  have key : tp p x = tp p y := by
    by_cases w1 : tp p x = b
    · rw [if_pos w1] at exy
      by_cases w2 : tp p y = b
      · rw [w1, w2]
      · rw [if_neg w2] at exy
        rcases n with n | n
        · have := n y hy exy.symm; omega
        · have := n x hx w1; omega
    · rw [if_neg w1] at exy
      by_cases w2 : tp p y = b
      · rw [if_pos w2] at exy
        rcases n with n | n
        · have := n x hx exy; omega
        · have := n y hy w2; omega
      · rw [if_neg w2] at exy
        exact exy
  obtain ⟨q1, q2⟩ := h x y hx hy key h1 h2
  exact ⟨q1, fun f r w => q2 f (st f r).1 ⟨w, (st f r).2⟩⟩
theorem CLp.two {V : Int → Prop} {hd ar : Int → Int} {ag : Int → Int → Int} {p p' : Int → Int} {Q : (Int → Int) → Prop} {s t a b x0 y0 : Int} (hA : ∀ x y, V x → V y → 0 ≤ hd x → hd x = hd y → ar x = ar y) (U : UFp V p) (hs : V s) (ht : V t) (ea : tp p s = a) (eb : tp p t = b) (hab : ¬ a = b) (e : ∀ k, V k → p' k = if k = b then a else p k) (hx0 : V x0 ∧ 0 ≤ hd x0 ∧ tp p x0 = a) (hy0 : V y0 ∧ 0 ≤ hd y0 ∧ tp p y0 = b) (eh : hd x0 = hd y0) (h : CLp V hd ar ag p (fun f => Q f ∧ f s = f t)) : CLp V hd ar ag p' (fun f => Q f ∧ ∀ i, 0 ≤ i → i < ar x0 → f (ag x0 i) = f (ag y0 i)) := by
  have ra := U.root hs
  have rb := U.root ht
  rw [ea] at ra
  rw [eb] at rb
  obtain ⟨_, l2, l3⟩ := U.link ⟨ra.2, ra.1⟩ ⟨rb.2, rb.1⟩ hab e
  have st : ∀ f, Rsp V p' f → Rsp V p f ∧ f s = f t := fun f r => by
    obtain ⟨r1, r2⟩ := (l3 f).1 r
    refine ⟨r1, ?_⟩
    rw [← U.f r1 hs, ← U.f r1 ht, ea, eb]
    exact r2
  have one : ∀ x y, V x → V y → tp p x = tp p y → 0 ≤ hd x → 0 ≤ hd y → hd x = hd y ∧ ∀ f, Rsp V p' f → Q f → ∀ i, 0 ≤ i → i < ar x → f (ag x i) = f (ag y i) := fun x y hx hy k h1 h2 => by
    obtain ⟨q1, q2⟩ := h x y hx hy k h1 h2
    exact ⟨q1, fun f r w => q2 f (st f r).1 ⟨w, (st f r).2⟩⟩
  have aA := hA x0 y0 hx0.1 hy0.1 hx0.2.1 eh
  intro x y hx hy exy h1 h2
  rw [l2 x hx, l2 y hy] at exy
  have fin : tp p x = tp p y → hd x = hd y ∧ ∀ f, Rsp V p' f → (Q f ∧ ∀ i, 0 ≤ i → i < ar x0 → f (ag x0 i) = f (ag y0 i)) → ∀ i, 0 ≤ i → i < ar x → f (ag x i) = f (ag y i) := fun k => by
    obtain ⟨q1, q2⟩ := one x y hx hy k h1 h2
    exact ⟨q1, fun f r w => q2 f r w.1⟩
  by_cases w1 : tp p x = b
  · rw [if_pos w1] at exy
    by_cases w2 : tp p y = b
    · exact fin (w1.trans w2.symm)
    · rw [if_neg w2] at exy
      obtain ⟨u1, u2⟩ := one x y0 hx hy0.1 (w1.trans hy0.2.2.symm) h1 hy0.2.1
      obtain ⟨v1, v2⟩ := one x0 y hx0.1 hy (hx0.2.2.trans exy) hx0.2.1 h2
      have aX := hA x y0 hx hy0.1 h1 u1
      refine ⟨u1.trans (eh.symm.trans v1), fun f r w i a c => ?_⟩
      exact (u2 f r w.1 i a c).trans ((w.2 i a (by omega)).symm.trans (v2 f r w.1 i a (by omega)))
  · rw [if_neg w1] at exy
    by_cases w2 : tp p y = b
    · rw [if_pos w2] at exy
      obtain ⟨u1, u2⟩ := one x x0 hx hx0.1 (exy.trans hx0.2.2.symm) h1 hx0.2.1
      obtain ⟨v1, v2⟩ := one y0 y hy0.1 hy (hy0.2.2.trans w2.symm) hy0.2.1 h2
      have aX := hA x x0 hx hx0.1 h1 u1
      refine ⟨u1.trans (eh.trans v1), fun f r w i a c => ?_⟩
      exact (u2 f r w.1 i a c).trans ((w.2 i a (by omega)).trans (v2 f r w.1 i a (by omega)))
    · rw [if_neg w2] at exy
      exact fin exy
/-- what is shown of classes: a node that is no variable; else the least variable -/
def SHp (V : Int → Prop) (hd p sh lv : Int → Int) : Prop := ∀ a, V a → p a = a → (sh a = -1 ∨ (V (sh a) ∧ 0 ≤ hd (sh a) ∧ tp p (sh a) = a)) ∧ (sh a = -1 → (∀ u, V u → tp p u = a → hd u < 0 ∧ lv a ≤ -1 - hd u) ∧ ∃ u, V u ∧ tp p u = a ∧ lv a = -1 - hd u)
theorem SHp.link {V : Int → Prop} {hd p p' sh sh' lv lv' : Int → Int} (h : SHp V hd p sh lv) (U : UFp V p) {a b : Int} (ha : V a ∧ p a = a) (hb : V b ∧ p b = b) (hab : ¬ a = b) (e : ∀ k, V k → p' k = if k = b then a else p k) (es : ∀ k, V k → sh' k = if k = a then (if sh a = -1 then sh b else sh a) else sh k) (el : ∀ k, V k → ¬ k = a → lv' k = lv k) (ela : sh a = -1 → sh b = -1 → lv' a = if lv b < lv a then lv b else lv a) (h1 : ∀ k, V k → ¬ k = -1) : SHp V hd p' sh' lv' := by
  obtain ⟨U', l2, l3⟩ := U.link ha hb hab e
  intro c hc rc
  have ncb : ¬ c = b := fun q => by
    rw [q, e b hb.1, if_pos rfl] at rc
    exact hab rc
  rw [e c hc, if_neg ncb] at rc
  obtain ⟨k1, k2⟩ := h c hc rc
  rw [es c hc]
  by_cases q : c = a
  · subst q
    rw [if_pos rfl]
    obtain ⟨b1, b2⟩ := h b hb.1 hb.2
    by_cases w : sh c = -1
    · rw [if_pos w]
      refine ⟨?_, fun w2 => ?_⟩
      · rcases b1 with b1 | ⟨b1, b3, b4⟩
        · exact Or.inl b1
        · refine Or.inr ⟨b1, b3, ?_⟩
          rw [l2 _ b1, if_pos b4]
      · obtain ⟨x1, x2⟩ := k2 w
        obtain ⟨y1, y2⟩ := b2 w2
        have el9 := ela w w2
        refine ⟨fun u hu eu => ?_, ?_⟩
        · rw [l2 u hu] at eu
          by_cases z : tp p u = b
          · have := y1 u hu z
            refine ⟨this.1, ?_⟩
            rw [el9]
            split <;> omega
          · rw [if_neg z] at eu
            have := x1 u hu eu
            refine ⟨this.1, ?_⟩
            rw [el9]
            split <;> omega
        · rw [el9]
          split
          · obtain ⟨u, hu, e1, e2⟩ := y2
            exact ⟨u, hu, by rw [l2 u hu, if_pos e1], e2⟩
          · obtain ⟨u, hu, e1, e2⟩ := x2
            refine ⟨u, hu, ?_, e2⟩
            rw [l2 u hu, if_neg (by rw [e1]; exact hab)]
            exact e1
    · rw [if_neg w]
      rcases k1 with k1 | ⟨k1, k3, k4⟩
      · exact absurd k1 w
      · refine ⟨Or.inr ⟨k1, k3, ?_⟩, fun q => absurd q w⟩
        rw [l2 _ k1, if_neg (by rw [k4]; exact hab)]
        exact k4
  · rw [if_neg q]
    have cl : ∀ u, V u → tp p' u = c → tp p u = c := fun u hu eu => by
      rw [l2 u hu] at eu
      by_cases z : tp p u = b
      · rw [if_pos z] at eu; exact absurd eu.symm q
      · rw [if_neg z] at eu; exact eu
    have lc : ∀ u, V u → tp p u = c → tp p' u = c := fun u hu eu => by
      rw [l2 u hu, if_neg (by rw [eu]; exact ncb)]
      exact eu
    refine ⟨k1.imp id (fun k => ⟨k.1, k.2.1, lc _ k.1 k.2.2⟩), fun w => ?_⟩
    obtain ⟨x1, u, hu, e1, e2⟩ := k2 w
    rw [el c hc q]
    exact ⟨fun u hu eu => x1 u hu (cl u hu eu), u, hu, lc u hu e1, e2⟩
