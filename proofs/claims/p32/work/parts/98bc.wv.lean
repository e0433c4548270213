theorem cwt_s {J : zJ} {m : Int} (h : CT J m) : ∀ (k : Nat) (t : Int), (0 ≤ t ∧ t < m) → J 12 t ≤ k → J 11 t = cwt J t
  | 0, t, ht, h1 => by have := (h.nums ht.1 ht.2).2.2; omega
  | k + 1, t, ht, h1 => by
    have ha := (h.ar ht.1 ht.2).1
    have e := ((h.2.1 t ht.1 ht.2).1).2.2.1.1
    have hs : ∀ i, 0 ≤ i → i < J 8 t → J 11 (J 9 (t * 3 + i)) = cwt J (J 9 (t * 3 + i)) := fun i x y => by
      have hb := h.arg ht.1 ht.2 x y
      exact cwt_s h k _ ⟨hb.1.1, by omega⟩ (by omega)
    have hU : cwt J t = cgw J t + sps (cwt J) (cag J) t (J 8 t).toNat := sV_un h.td ht
    have e' : J 11 t = cgw J t + zw3 J t := e
    rw [hU, e']
    unfold zw3
    have hc : J 8 t = 0 ∨ J 8 t = 1 ∨ J 8 t = 2 ∨ J 8 t = 3 := by omega
    have s0 := hs 0
    have s1 := hs 1
    have s2 := hs 2
    generalize cgw J t = g
    rcases hc with hc | hc | hc | hc <;> rw [hc] at s0 s1 s2 ⊢
    · rfl
    · rw [if_pos (by decide), if_neg (by decide), if_neg (by decide), s0 (by decide) (by decide)]
      show g + (cwt J (J 9 (t * 3 + 0)) + 0 + 0) = g + (0 + cwt J (J 9 (t * 3 + 0)))
      omega
    · rw [if_pos (by decide), if_pos (by decide), if_neg (by decide), s0 (by decide) (by decide), s1 (by decide) (by decide)]
      show g + (cwt J (J 9 (t * 3 + 0)) + cwt J (J 9 (t * 3 + 1)) + 0) = g + (0 + cwt J (J 9 (t * 3 + 0)) + cwt J (J 9 (t * 3 + 1)))
      omega
    · rw [if_pos (by decide), if_pos (by decide), if_pos (by decide), s0 (by decide) (by decide), s1 (by decide) (by decide), s2 (by decide) (by decide)]
      show g + (cwt J (J 9 (t * 3 + 0)) + cwt J (J 9 (t * 3 + 1)) + cwt J (J 9 (t * 3 + 2))) = g + (0 + cwt J (J 9 (t * 3 + 0)) + cwt J (J 9 (t * 3 + 1)) + cwt J (J 9 (t * 3 + 2)))
      omega
theorem CT.wt {J : zJ} {m t : Int} (h : CT J m) (ht : 0 ≤ t ∧ t < m) : J 11 t = cwt J t := cwt_s h 6 t ht (by have := (h.nums ht.1 ht.2).2.2; omega)
/-- the kept table, where the class's is -/
def kz (J : zJ) : zJ := zup (kv J) 6 12 (J 64 12)
theorem kz_a {J S G : zJ} (E : A0 J S) (k : A1k J G) : A0 (kz J) (gsy S G) := ⟨E.1, k⟩
theorem kz_c {J : zJ} {mk : Int} (h : KI J mk) : CT (kz J) mk ∧ kz J 6 12 = mk := ⟨h.1.1.of (fun c hc => zup_nc (by omega)), zup_at.trans h.1.2⟩
theorem kz_s {J S : zJ} (E : A0 J S) (k : A1k J S) : A0 (kz J) S := ⟨E.1, k⟩
/-! ===== a row that changes, but for the rules and the memo ===== -/
def EXM (S' S : zJ) : Prop := EXT S' S ∧ ∀ q, 9 ≤ q → (q ≤ 25 ∨ (39 ≤ q ∧ q ≤ 58)) → S' 165 q = S 165 q
theorem EXM.rf {S : zJ} : EXM S S := ⟨EXT.rf, fun _ _ _ => rfl⟩
theorem EXM.tr {S2 S1 S : zJ} (g : EXM S2 S1) (h : EXM S1 S) : EXM S2 S := ⟨g.1.tr h.1, fun q a b => (g.2 q a b).trans (h.2 q a b)⟩
theorem EXA.m {S' S : zJ} (h : EXA S' S) : EXM S' S := ⟨h.1, fun q a _ => h.2 q (by omega)⟩
theorem EXM.up {S : zJ} {k v : Int} (h : ¬ k = 0 ∧ (k < 9 ∨ (25 < k ∧ k < 39) ∨ 58 < k)) : EXM (zup S 165 k v) S := ⟨(EXR.up (by omega)).1, fun q a b => zup_ne (by omega)⟩
theorem EXM.bn {ρ : Int → Int} {bs : Int} {G : zJ} : ∀ v : Nat, v ≤ 8 → EXM (bnO ρ bs G v) G
  | 0, _ => EXM.rf
  | v + 1, h => by
    rw [bnO_s]
    have ih := EXM.bn (ρ := ρ) (bs := bs) (G := G) v (by omega)
    unfold bn1
    split
    · split
      · split
        · exact EXM.tr (EXM.up (by omega)) ih
        · exact EXM.tr (EXM.up (by omega)) (EXM.tr (EXA.gr 6 _ _).m (EXM.tr (EXM.up (by omega)) ih))
      · exact EXM.tr (EXM.up (by omega)) ih
    · exact ih
theorem EXM.mt {S : zJ} {τ : Int → Int} : EXM (zmt S τ) S := ⟨EXR.mt.1, fun q a b => by
  show (if 1 ≤ q ∧ q < 9 then τ (q - 1) + 1 else S 165 q) = S 165 q
  rw [if_neg (by omega)]⟩
theorem EXM.bd {S : zJ} {v t : Int} (h : 0 ≤ v ∧ v < 8) : EXM (zbd S v t) S := EXM.up (by omega)
theorem EXM.en {S : zJ} {t : Int} (h : 0 ≤ S 165 26 ∧ S 165 26 < 12) : EXM (zen S 0 t) S := EXM.tr (EXM.up (by decide)) (EXM.up (by
  have e : S 165 (0 + 26) = S 165 26 := rfl
  rw [e]
  omega))
theorem EXM.lv {S : zJ} {w : Int} (h : 0 ≤ w) (h2 : S 165 26 ≤ 12) : EXM (zlv S w) S := ⟨(EXR.lv h).1, fun q a b => by
  show (if q = 26 then S 165 26 - 1 else if 27 + w ≤ q ∧ q < 27 + (S 165 26 - 1) then S 165 (q + 1) else S 165 q) = S 165 q
  rw [if_neg (by omega), if_neg (by omega)]⟩
theorem EXW.t {S' S : zJ} (x : EXW S' S) : EXT S' S := ⟨x.1.1, fun t a b => ⟨(x.1.2 t a b).1.1, (x.1.2 t a b).2⟩, x.2.1, x.2.2.1⟩
/-! ===== weights and counts, of both sides, as the table grows ===== -/
theorem A0.wc {J S : zJ} {m : Int} (E : A0 J S) (C : CT J m) (hm : J 6 12 = m) : ∀ t, 0 ≤ t → t < m → mwt S 0 0 t = J 11 t ∧ ∀ v, mcn S 0 0 v t = ccn J v t := by
  have T := C.told
  have tm : ∀ t, 0 ≤ t → t < m → S 166 (0 + t) = J 7 t ∧ mar S 0 0 t = J 8 t ∧ ∀ i, 0 ≤ i → i < J 8 t → S 167 (3 * (0 + t) + i) = J 9 (t * 3 + i) := fun t a b => E.tm C hm ⟨a, b⟩
  have e9 := E.1.1
  have hgw : ∀ t, 0 ≤ t → t < m → mgw S 0 0 t = cgw J t := fun t a c => by
    have h7 := (C.ar a c).2.2
    unfold mgw cgw
    rw [(tm t a c).1]
    split
    · rfl
    · exact ((E.1.2 _ (by omega) (by omega)).2.2).symm
  have hgc : ∀ v t, 0 ≤ t → t < m → mgc S 0 v t = cgc J v t := fun v t a c => by
    unfold mgc cgc
    rw [(tm t a c).1]
  have ha : ∀ t, 0 ≤ t → t < m → mar S 0 0 t = J 8 t := fun t a b => (tm t a b).2.1
  have hg : ∀ t, 0 ≤ t → t < m → ∀ i, 0 ≤ i → i < J 8 t → mag S 0 t i = cag J t i := fun t a b => (tm t a b).2.2
  exact fun t a b => ⟨(sV_cg C.td hgw ha hg 6 t ⟨a, b⟩ : mwt S 0 0 t = cwt J t).trans (C.wt ⟨a, b⟩).symm, fun v => sV_cg C.td (hgc v) ha hg 6 t ⟨a, b⟩⟩
theorem A0.td {J S : zJ} {m : Int} (E : A0 J S) (C : CT J m) (hm : J 6 12 = m) : TD m (mar S 0 0) (mag S 0) (J 12) := fun t x y => by
  obtain ⟨a, b, c⟩ := C.td t x y
  obtain ⟨_, e8, e9⟩ := E.tm C hm ⟨x, y⟩
  refine ⟨by rw [e8]; exact a, b, fun i p q => ?_⟩
  rw [e8] at q
  rw [show mag S 0 t i = cag J t i from e9 i p q]
  exact c i p q
theorem EXT.wc {S' S : zJ} {m : Int} {dp : Int → Int} (x : EXT S' S) (hm : m ≤ S 165 0) (td : TD m (mar S 0 0) (mag S 0) dp) : ∀ t, 0 ≤ t → t < m → mwt S' 0 0 t = mwt S 0 0 t ∧ ∀ v, mcn S' 0 0 v t = mcn S 0 0 v t := by
  obtain ⟨x1, x2, x3, x4⟩ := x
  have hd : ∀ t, 0 ≤ t → t < m → S' 166 (0 + t) = S 166 (0 + t) := fun t a b => (x2 t a (by omega)).1
  have ha : ∀ t, 0 ≤ t → t < m → mar S' 0 0 t = mar S 0 0 t := fun t a b => by
    unfold mar
    rw [x3, hd t a b]
  have hg : ∀ t, 0 ≤ t → t < m → ∀ i, 0 ≤ i → i < mar S 0 0 t → mag S' 0 t i = mag S 0 t i := fun t a b i p q => (x2 t a (by omega)).2 i p (by have := (td t a b).1; omega)
  have hw : ∀ t, 0 ≤ t → t < m → mgw S' 0 0 t = mgw S 0 0 t := fun t a b => by
    unfold mgw
    rw [x4, hd t a b]
  have hc : ∀ v t, 0 ≤ t → t < m → mgc S' 0 v t = mgc S 0 v t := fun v t a b => by
    unfold mgc
    rw [hd t a b]
  exact fun t a b => ⟨sV_cg td hw ha hg 6 t ⟨a, b⟩, fun v => sV_cg td (hc v) ha hg 6 t ⟨a, b⟩⟩
/-- terms weigh the same, and have the same variables as often -/
def SWT (J1 J : zJ) (m : Int) : Prop := ∀ t, 0 ≤ t → t < m → J1 11 t = J 11 t ∧ ∀ v, ccn J1 v t = ccn J v t
theorem A0.grw {J J1 S S' : zJ} {m m1 : Int} (E : A0 J S) (C : CT J m) (hm : J 6 12 = m) (E1 : A0 J1 S') (C1 : CT J1 m1) (hm1 : J1 6 12 = m1) (x : EXT S' S) : SWT J1 J m := fun t a b => by
  have e6 := E.2.1
  have e61 := E1.2.1
  have x1 := x.1
  have w0 := E.wc C hm t a b
  have w1 := E1.wc C1 hm1 t a (by omega)
  have wx := x.wc (m := m) (by omega) (E.td C hm) t a b
  exact ⟨w1.1.symm.trans (wx.1.trans w0.1), fun v => (w1.2 v).symm.trans ((wx.2 v).trans (w0.2 v))⟩
/-! ===== the class's rows: rules make nothing heavier, the memo tells nothing heavier ===== -/
def WLC (J : zJ) (r l : Int) : Prop := (∀ v, 0 ≤ v → v < 8 → ccn J v r ≤ ccn J v l) ∧ J 11 r ≤ J 11 l
def WVf (J : zJ) (f : Int → Int) : Prop := (∀ i, 0 ≤ i → i < f 4 → WLC J (f (23 + i)) (f (15 + i))) ∧ ∀ i, 0 ≤ i → i < f 6 → J 11 (f (52 + i)) ≤ J 11 (f (43 + i))
def WVC (J : zJ) : Prop := WVf J (J 19) ∧ ∀ k, 0 ≤ k → k < J 5 6 → WVf J (J (zU ((J 5 5 + k) % 40)))
def WVh (J : zJ) (h : Int → Int) : Prop := (∀ i, 0 ≤ i → i < h 9 → WLC J (h (10 + 2 * i + 1)) (h (10 + 2 * i))) ∧ ∀ i, 0 ≤ i → i < h 40 → J 11 (h (41 + 2 * i + 1)) ≤ J 11 (h (41 + 2 * i))
def WVS (J S : zJ) (n : Int) (R : Int → Int → Int) : Prop := WVh J (S 165) ∧ ∀ k, 0 ≤ k → k < n → WVh J (R k)
theorem WLC.to {J1 J : zJ} {r l : Int} (h : WLC J r l) (er : J1 11 r = J 11 r ∧ ∀ v, ccn J1 v r = ccn J v r) (el : J1 11 l = J 11 l ∧ ∀ v, ccn J1 v l = ccn J v l) : WLC J1 r l := ⟨fun v a b => by rw [er.2 v, el.2 v]; exact h.1 v a b, by rw [er.1, el.1]; exact h.2⟩
theorem RW.wv {J : zJ} {f h : Int → Int} (w : RW f h) : WVf J f ↔ WVh J h := by
  obtain ⟨_, ⟨a, b⟩, _, ⟨c, d⟩, _⟩ := w
  constructor
  · rintro ⟨v, u⟩
    refine ⟨fun i x y => ?_, fun i x y => ?_⟩
    · have q := v i x (by rw [a]; exact y)
      obtain ⟨b1, b2⟩ := b i x y
      rw [b1, b2] at q
      exact q
    · have q := u i x (by rw [c]; exact y)
      obtain ⟨d1, d2⟩ := d i x y
      rw [d1, d2] at q
      exact q
  · rintro ⟨v, u⟩
    refine ⟨fun i x y => ?_, fun i x y => ?_⟩
    · rw [a] at y
      obtain ⟨b1, b2⟩ := b i x y
      rw [b1, b2]
      exact v i x y
    · rw [c] at y
      obtain ⟨d1, d2⟩ := d i x y
      rw [d1, d2]
      exact u i x y
theorem CAL.wv {J S : zJ} {n : Int} {R : Int → Int → Int} (c : CAL J S n R) : WVC J ↔ WVS J S n R := by
  obtain ⟨_, w, e6, k⟩ := c
  constructor
  · rintro ⟨a, b⟩
    exact ⟨w.wv.1 a, fun q x y => (k q x y).1.wv.1 (b q x (by rw [e6]; exact y))⟩
  · rintro ⟨a, b⟩
    exact ⟨w.wv.2 a, fun q x y => (k q x (by rw [e6] at y; exact y)).1.wv.2 (b q x (by rw [e6] at y; exact y))⟩
/-- the terms of a row's rules and memo are there -/
def LB2 (h : Int → Int) (m : Int) : Prop := (∀ i, 0 ≤ i → i < h 9 → (0 ≤ h (10 + 2 * i) ∧ h (10 + 2 * i) < m) ∧ (0 ≤ h (10 + 2 * i + 1) ∧ h (10 + 2 * i + 1) < m)) ∧ ∀ i, 0 ≤ i → i < h 40 → (0 ≤ h (41 + 2 * i) ∧ h (41 + 2 * i) < m) ∧ (0 ≤ h (41 + 2 * i + 1) ∧ h (41 + 2 * i + 1) < m)
theorem RW.lb2 {f h : Int → Int} {m : Int} (w : RW f h) (l : LI f m) : LB2 h m := by
  obtain ⟨_, ⟨a, b⟩, _, ⟨c, d⟩, _⟩ := w
  refine ⟨fun i x y => ?_, fun i x y => ?_⟩
  · obtain ⟨b1, b2⟩ := b i x y
    have q := l.2.2.1 i x (by rw [a]; exact y)
    rw [b1, b2] at q
    exact q
  · obtain ⟨d1, d2⟩ := d i x y
    have q := l.2.2.2.2 i x (by rw [c]; exact y)
    rw [d1, d2] at q
    exact q
theorem WVh.to {J J1 : zJ} {h : Int → Int} {m : Int} (v : WVh J h) (b : LB2 h m) (g : SWT J1 J m) : WVh J1 h := by
  refine ⟨fun i x y => ?_, fun i x y => ?_⟩
  · obtain ⟨p, q⟩ := b.1 i x y
    exact (v.1 i x y).to (g _ q.1 q.2) (g _ p.1 p.2)
  · obtain ⟨p, q⟩ := b.2 i x y
    rw [(g _ p.1 p.2).1, (g _ q.1 q.2).1]
    exact v.2 i x y
theorem WVS.to {J J1 S : zJ} {n m : Int} {R : Int → Int → Int} (c : CAL J S n R) (hI : CI J m) (v : WVS J S n R) (g : SWT J1 J m) : WVS J1 S n R := by
  refine ⟨v.1.to (c.2.1.lb2 hI.1.1.2.2) g, fun k x y => ?_⟩
  have e6 := c.2.2.1
  obtain ⟨⟨l, l0⟩, _⟩ := hI.2.2 k x (by rw [e6]; exact y)
  exact (v.2 k x y).to ((c.2.2.2 k x y).1.lb2 (l.mono l0.2)) g
/-- a call that keeps a row -/
theorem wv_keep {J J1 S S' : zJ} {n m : Int} {R : Int → Int → Int} (c : CAL J S n R) (hI : CI J m) (c1 : CAL J1 S' (psn n) (psh n R (S 165))) (g : SWT J1 J m) (r : WVh J1 (S' 165)) (v : WVC J) : WVC J1 := by
  have w := WVS.to c hI (c.wv.1 v) g
  refine c1.wv.2 ⟨r, fun k a b => ?_⟩
  unfold psn at b
  unfold psh
  by_cases h : n < 40
  · rw [if_pos h] at b ⊢
    show WVh J1 (if k = n then S 165 else R k)
    by_cases q : k = n
    · rw [if_pos q]; exact w.1
    · rw [if_neg q]; exact w.2 k a (by omega)
  · rw [if_neg h] at b ⊢
    show WVh J1 (if k = 39 then S 165 else R (k + 1))
    by_cases q : k = 39
    · rw [if_pos q]; exact w.1
    · rw [if_neg q]; exact w.2 (k + 1) (by omega) (by omega)
/-- a call that leaves what is told alone -/
theorem wv_eq {J J1 S : zJ} {n m m1 : Int} {R : Int → Int → Int} (c : CAL J S n R) (hI : CI J m) (hI1 : CI J1 m1) (c1 : CAL J1 S n R) (v : WVC J) : WVC J1 :=
  c1.wv.2 (WVS.to c hI (c.wv.1 v) (c.1.grw hI.1.1.1 hI.1.1.2.1 c1.1 hI1.1.1.1 hI1.1.1.2.1 EXT.rf))
theorem wv_ed {J J1 S : zJ} {F : zJ × Int} {n m m1 z : Int} {R : Int → Int → Int} (c : CAL J S n R) (hI : CI J m) (hI1 : CI J1 m1) (x : ED S n R F J1 z) (e : EXM F.1 S) (v : WVC J) : WVC J1 := by
  rcases x with ⟨_, _, c1⟩ | ⟨_, _, c1⟩
  · exact wv_eq c hI hI1 c1 v
  · have g := c.1.grw hI.1.1.1 hI.1.1.2.1 c1.1 hI1.1.1.1 hI1.1.1.2.1 e.1
    have w := (WVS.to c hI (c.wv.1 v) g).1
    have b := c.2.1.b hI.1.1.2.2
    refine wv_keep c hI c1 g ⟨fun i p q => ?_, fun i p q => ?_⟩ v
    · rw [e.2 9 (by decide) (by decide)] at q
      rw [e.2 (10 + 2 * i) (by omega) (by omega), e.2 (10 + 2 * i + 1) (by omega) (by omega)]
      exact w.1 i p q
    · rw [e.2 40 (by decide) (by decide)] at q
      rw [e.2 (41 + 2 * i) (by omega) (by omega), e.2 (41 + 2 * i + 1) (by omega) (by omega)]
      exact w.2 i p q
/-! ===== the machine's invariant comes of it, and gives it back ===== -/
theorem pt_of {J S : zJ} {m : Int} (E : A0 J S) (C : CT J m) (hm : J 6 12 = m) : PT S := by
  have T := C.told
  have e6 := E.2.1
  have e9 := E.1.1
  have d : ∀ t, 0 ≤ t → t < m → S 168 (0 + t) = J 12 t := fun t a b => (E.2.2.1 t a (by omega)).2.symm
  refine ⟨⟨⟨by omega, by omega⟩, fun k a b => ?_⟩, fun t a b => ?_, fun t a b => ?_⟩
  · obtain ⟨_, e3, e4⟩ := E.1.2 k a b
    rw [← e3, ← e4]
    exact ⟨C.1.1.1.2 k a (by omega), C.1.2 k a (by omega)⟩
  · have h7 := (C.ar (t := t) a (by omega)).2.2
    rw [(E.tm C hm (t := t) ⟨a, by omega⟩).1, ← e9]
    exact h7
  · obtain ⟨q1, q2, q3⟩ := E.td C hm t a (by omega)
    refine ⟨q1, ?_, fun i p q => ?_⟩
    · show 1 ≤ S 168 (0 + t) ∧ S 168 (0 + t) ≤ 6
      rw [d t a (by omega)]
      exact q2
    · obtain ⟨u1, u2⟩ := q3 i p q
      refine ⟨u1, ?_⟩
      show S 168 (0 + mag S 0 t i) < S 168 (0 + t)
      rw [d t a (by omega), d _ u1.1 (by omega)]
      exact u2
theorem mwi_of {J S : zJ} {m : Int} (E : A0 J S) (C : CT J m) (hm : J 6 12 = m) (W : RW (J 19) (S 165)) (l : LI (J 19) m) (hr : S 165 40 ≤ S 165 39) (v : WVf J (J 19)) : MWI S := by
  have e6 := E.2.1
  have lb := W.lb2 l
  have wc := E.wc C hm
  obtain ⟨v1, v2⟩ := W.wv.1 v
  have b := W.b l
  have r9 := W.r9 l
  refine ⟨pt_of E C hm, ⟨⟨b.1.1, fun i x y => ?_⟩, b.1.2⟩, ⟨by omega, fun i x y => ?_⟩⟩
  · obtain ⟨p, q⟩ := lb.1 i x y
    obtain ⟨u1, u2⟩ := v1 i x y
    refine ⟨⟨⟨p.1, by omega⟩, ⟨q.1, by omega⟩⟩, fun v c d => ?_, ?_⟩
    · rw [(wc _ q.1 q.2).2 v, (wc _ p.1 p.2).2 v]
      exact u1 v c d
    · rw [(wc _ q.1 q.2).1, (wc _ p.1 p.2).1]
      exact u2
  · obtain ⟨p, q⟩ := lb.2 i x y
    refine ⟨⟨⟨p.1, by omega⟩, ⟨q.1, by omega⟩⟩, ?_⟩
    rw [(wc _ q.1 q.2).1, (wc _ p.1 p.2).1]
    exact v2 i x y
theorem wv_of {J S : zJ} {m : Int} (E : A0 J S) (C : CT J m) (hm : J 6 12 = m) (M : MWI S) : WVh J (S 165) := by
  have e6 := E.2.1
  have wc := E.wc C hm
  obtain ⟨_, ⟨⟨_, r⟩, _⟩, _, q⟩ := M
  refine ⟨fun i x y => ?_, fun i x y => ?_⟩
  · obtain ⟨⟨p1, p2⟩, u1, u2⟩ := r i x y
    refine ⟨fun v c d => ?_, ?_⟩
    · rw [← (wc _ p2.1 (by omega)).2 v, ← (wc _ p1.1 (by omega)).2 v]
      exact u1 v c d
    · rw [← (wc _ p2.1 (by omega)).1, ← (wc _ p1.1 (by omega)).1]
      exact u2
  · obtain ⟨⟨p1, p2⟩, u⟩ := q i x y
    rw [← (wc _ p2.1 (by omega)).1, ← (wc _ p1.1 (by omega)).1]
    exact u
/-! ===== the invariant, the image's besides ===== -/
def WVI (J : zJ) : Prop := ¬ J 0 15 = 0 → WVf (kz J) (J 77) ∧ ∀ k, 0 ≤ k → k < J 63 6 → WVf (kz J) (J (zV ((J 63 5 + k) % 40)))
def WVX (J : zJ) : Prop := WVC J ∧ WVI J
theorem ccn_c {A B : zJ} {v t : Int} (e7 : A 7 = B 7) (e8 : A 8 = B 8) (e9 : A 9 = B 9) : ccn A v t = ccn B v t := by
  have a : cgc A v = cgc B v := by
    funext x
    unfold cgc
    rw [e7]
  have b : cag A = cag B := by
    funext x i
    unfold cag
    rw [e9]
  unfold ccn
  rw [a, b, e8]
theorem WVf.c {A B : zJ} {f : Int → Int} (h : WVf B f) (e7 : A 7 = B 7) (e8 : A 8 = B 8) (e9 : A 9 = B 9) (e1 : A 11 = B 11) : WVf A f := by
  refine ⟨fun i x y => ⟨fun v a b => ?_, ?_⟩, fun i x y => ?_⟩
  · rw [ccn_c e7 e8 e9, ccn_c e7 e8 e9]
    exact (h.1 i x y).1 v a b
  · rw [e1]
    exact (h.1 i x y).2
  · rw [e1]
    exact h.2 i x y
theorem WVC.of {J' J : zJ} (h : WVC J) (f : ∀ c, 5 ≤ c → c ≤ 61 → J' c = J c) : WVC J' := by
  obtain ⟨a, b⟩ := h
  have e5 := f 5 (by decide) (by decide)
  have t : ∀ {g : Int → Int}, WVf J g → WVf J' g := fun w => w.c (f 7 (by decide) (by decide)) (f 8 (by decide) (by decide)) (f 9 (by decide) (by decide)) (f 11 (by decide) (by decide))
  refine ⟨?_, fun k x y => ?_⟩
  · rw [f 19 (by decide) (by decide)]
    exact t a
  · rw [e5] at y
    rw [e5, f (zU ((J 5 5 + k) % 40)) (by unfold zU; omega) (by unfold zU; omega)]
    exact t (b k x y)
theorem WVI.of {J' J : zJ} (h : WVI J) (f : ∀ c, 63 ≤ c → c ≤ 120 → J' c = J c) (e : J' 0 15 = J 0 15) : WVI J' := fun w => by
  rw [e] at w
  obtain ⟨a, b⟩ := h w
  have e5 := f 63 (by decide) (by decide)
  have t : ∀ {g : Int → Int}, WVf (kz J) g → WVf (kz J') g := fun w => w.c (f 65 (by decide) (by decide)) (f 66 (by decide) (by decide)) (f 67 (by decide) (by decide)) (f 69 (by decide) (by decide))
  refine ⟨?_, fun k x y => ?_⟩
  · rw [f 77 (by decide) (by decide)]
    exact t a
  · rw [e5] at y
    rw [e5, f (zV ((J 63 5 + k) % 40)) (by unfold zV; omega) (by unfold zV; omega)]
    exact t (b k x y)
theorem WVX.lo {J' J : zJ} (h : WVX J) (f : ∀ c, c < 164 → J' c = J c) : WVX J' := ⟨h.1.of (fun c _ b => f c (by omega)), h.2.of (fun c _ b => f c (by omega)) (by rw [f 0 (by decide)])⟩
theorem wv_image {J S : zJ} {n m : Int} {R : Int → Int → Int} (c : CAL J S n R) (ck : CALk J S n R) (hI : CI J m) (v : WVC J) : WVI J := fun w => by
  rcases hI.1.2.2.2 with q | ⟨_, mk, hK⟩
  · exact absurd q w
  · obtain ⟨ka, kr, k6, kk⟩ := ck
    obtain ⟨C1, m1⟩ := kz_c hK
    have g := c.1.grw hI.1.1.1 hI.1.1.2.1 (kz_s c.1 ka) C1 m1 EXT.rf
    have r := WVS.to c hI (c.wv.1 v) g
    exact ⟨kr.wv.2 r.1, fun k a b => (kk k a (by omega)).1.wv.2 (r.2 k a (by omega))⟩
theorem wv_restore {J J1 S G : zJ} {n ni m m1 : Int} {R Ri : Int → Int → Int} (c : CAL J S n R) (ck : CALk J G ni Ri) (hI : CI J m) (hI1 : CI J1 m1) (c1 : CAL J1 (gsy S G) ni Ri) (v : WVI J) (w : ¬ J 0 15 = 0) : WVC J1 := by
  obtain ⟨v1, v2⟩ := v w
  rcases hI.1.2.2.2 with q | ⟨_, mk, hK⟩
  · exact absurd q w
  · obtain ⟨ka, kr, k6, kk⟩ := ck
    obtain ⟨C1, m1'⟩ := kz_c hK
    have g := (kz_a c.1 ka).grw C1 m1' c1.1 hI1.1.1.1 hI1.1.1.2.1 EXT.rf
    refine c1.wv.2 ⟨(kr.wv.1 v1).to (kr.lb2 hK.2.1) g, fun k a b => ?_⟩
    obtain ⟨⟨l, l0⟩, _⟩ := hK.2.2.2 k a (by omega)
    exact ((kk k a b).1.wv.1 (v2 k a (by omega))).to ((kk k a b).1.lb2 (l.mono l0.2)) g
/-- what a reading tells -/
theorem wv_new {J S : zJ} {m : Int} (E : A0 J S) (C : CT J m) (hm : J 6 12 = m) (h : ∀ i, 0 ≤ i → i < S 165 9 → ((0 ≤ S 165 (10 + 2 * i) ∧ S 165 (10 + 2 * i) < m) ∧ (0 ≤ S 165 (10 + 2 * i + 1) ∧ S 165 (10 + 2 * i + 1) < m)) ∧ WLE S (S 165 (10 + 2 * i + 1)) (S 165 (10 + 2 * i))) (h0 : S 165 40 = 0) : WVh J (S 165) := by
  have wc := E.wc C hm
  refine ⟨fun i x y => ?_, fun i x y => absurd y (by omega)⟩
  obtain ⟨⟨p1, p2⟩, u1, u2⟩ := h i x y
  refine ⟨fun v c d => ?_, ?_⟩
  · rw [← (wc _ p2.1 p2.2).2 v, ← (wc _ p1.1 p1.2).2 v]
    exact u1 v c d
  · rw [← (wc _ p2.1 p2.2).1, ← (wc _ p1.1 p1.2).1]
    exact u2
theorem wv_variable {J J1 : zJ} {n m m1 z1 a : Int} {R : Int → Int → Int} (c0 : CAL J (tbz J) n R) (hI : CI J m) (hI1 : CI J1 m1) (v : WVC J) (x : (((0 ≤ a ∧ a < 8) ∧ ED (tbz J) n R (tmO (tbz J) (-1 - a) 0 0 0) J1 z1) ∨ (¬ (0 ≤ a ∧ a < 8) ∧ z1 = -1 ∧ CAL J1 (tbz J) n R))) : WVC J1 := by
  rcases x with ⟨x0, x1⟩ | ⟨_, _, x1⟩
  · exact wv_ed c0 hI hI1 x1 EXA.tm.m v
  · exact wv_eq c0 hI hI1 x1 v
theorem wv_make {J J1 : zJ} {n m m1 z1 a b c d : Int} {R : Int → Int → Int} (c0 : CAL J (tbz J) n R) (hI : CI J m) (hI1 : CI J1 m1) (v : WVC J) (x : ((((0 ≤ a ∧ a < J 1 3) ∧ (0 < J 3 a → 0 ≤ b ∧ b < J 6 12) ∧ (1 < J 3 a → 0 ≤ c ∧ c < J 6 12) ∧ (2 < J 3 a → 0 ≤ d ∧ d < J 6 12)) ∧ ED (tbz J) n R (tmO (tbz J) a b c d) J1 z1) ∨ (¬ ((0 ≤ a ∧ a < J 1 3) ∧ (0 < J 3 a → 0 ≤ b ∧ b < J 6 12) ∧ (1 < J 3 a → 0 ≤ c ∧ c < J 6 12) ∧ (2 < J 3 a → 0 ≤ d ∧ d < J 6 12)) ∧ z1 = -1 ∧ CAL J1 (tbz J) n R))) : WVC J1 := by
  rcases x with ⟨x0, x1⟩ | ⟨_, _, x1⟩
  · exact wv_ed c0 hI hI1 x1 EXA.tm.m v
  · exact wv_eq c0 hI hI1 x1 v
theorem wv_bind {J J1 : zJ} {n m m1 z1 a b : Int} {R : Int → Int → Int} (c0 : CAL J (tbz J) n R) (hI : CI J m) (hI1 : CI J1 m1) (v : WVC J) (x : ((((0 ≤ a ∧ a < 8) ∧ (b = -1 ∨ (0 ≤ b ∧ b < J 6 12)) ∧ ¬ J 19 (7 + a) = b) ∧ ED (tbz J) n R ((zbd (tbz J) a b, J 19 (7 + a))) J1 z1) ∨ (¬ ((0 ≤ a ∧ a < 8) ∧ (b = -1 ∨ (0 ≤ b ∧ b < J 6 12)) ∧ ¬ J 19 (7 + a) = b) ∧ z1 = -2 ∧ CAL J1 (tbz J) n R))) : WVC J1 := by
  rcases x with ⟨x0, x1⟩ | ⟨_, _, x1⟩
  · exact wv_ed c0 hI hI1 x1 (EXM.bd x0.1) v
  · exact wv_eq c0 hI hI1 x1 v
theorem wv_enter {J J1 : zJ} {n m m1 z1 a : Int} {R : Int → Int → Int} (c0 : CAL J (tbz J) n R) (hI : CI J m) (hI1 : CI J1 m1) (v : WVC J) (x : ((((0 ≤ a ∧ a < J 6 12) ∧ J 19 5 < 12 ∧ eyC J a = J 19 5) ∧ ED (tbz J) n R ((zen (tbz J) 0 a, J 19 5 + 1)) J1 z1) ∨ (¬ ((0 ≤ a ∧ a < J 6 12) ∧ J 19 5 < 12 ∧ eyC J a = J 19 5) ∧ z1 = -1 ∧ CAL J1 (tbz J) n R))) : WVC J1 := by
  rcases x with ⟨x0, x1⟩ | ⟨_, _, x1⟩
  · exact wv_ed c0 hI hI1 x1 (EXM.en (by have a := c0.2.1.2.2.1.1; have b := hI.1.1.2.2.1.2.2.1; have d := x0.2.1; omega)) v
  · exact wv_eq c0 hI hI1 x1 v
theorem wv_leave {J J1 : zJ} {n m m1 z1 a : Int} {R : Int → Int → Int} (c0 : CAL J (tbz J) n R) (hI : CI J m) (hI1 : CI J1 m1) (v : WVC J) (x : ((((0 ≤ a ∧ a < J 6 12) ∧ eyC J a < J 19 5) ∧ ED (tbz J) n R ((zlv (tbz J) (eyC J a), J 19 5 - 1)) J1 z1) ∨ (¬ ((0 ≤ a ∧ a < J 6 12) ∧ eyC J a < J 19 5) ∧ z1 = -1 ∧ CAL J1 (tbz J) n R))) : WVC J1 := by
  rcases x with ⟨x0, x1⟩ | ⟨_, _, x1⟩
  · exact wv_ed c0 hI hI1 x1 (EXM.lv (by unfold eyC; exact (fnB_rg hI.1.1.2.2.1.2.2.1.1).1) (by have a := c0.2.1.2.2.1.1; have b := hI.1.1.2.2.1.2.2.1; omega)) v
  · exact wv_eq c0 hI hI1 x1 v
theorem wv_apply {J J1 : zJ} {n m m1 z1 a : Int} {R : Int → Int → Int} (c0 : CAL J (tbz J) n R) (hI : CI J m) (hI1 : CI J1 m1) (v : WVC J) (x : (((0 ≤ a ∧ a < J 6 12) ∧ ED (tbz J) n R (apO (bO (tbz J)) 6 (tbz J) a) J1 z1) ∨ (¬ (0 ≤ a ∧ a < J 6 12) ∧ z1 = -1 ∧ CAL J1 (tbz J) n R))) : WVC J1 := by
  rcases x with ⟨x0, x1⟩ | ⟨_, _, x1⟩
  · exact wv_ed c0 hI hI1 x1 (EXA.ap 6 _ _).m v
  · exact wv_eq c0 hI hI1 x1 v
theorem wv_draw {J J1 : zJ} {n m m1 z1 a b : Int} {R : Int → Int → Int} (c0 : CAL J (tbz J) n R) (hI : CI J m) (hI1 : CI J1 m1) (v : WVC J) (x : (((1 ≤ b ∧ b ≤ 4) ∧ ED (tbz J) n R (drO b.toNat (tbz J) a).1 J1 z1) ∨ (¬ (1 ≤ b ∧ b ≤ 4) ∧ z1 = -1 ∧ CAL J1 (tbz J) n R))) : WVC J1 := by
  rcases x with ⟨x0, x1⟩ | ⟨_, _, x1⟩
  · exact wv_ed c0 hI hI1 x1 (EXA.dr _ _ _).m v
  · exact wv_eq c0 hI hI1 x1 v
theorem wv_put {J J1 : zJ} {n m m1 z1 a b c : Int} {R : Int → Int → Int} (c0 : CAL J (tbz J) n R) (hI : CI J m) (hI1 : CI J1 m1) (v : WVC J) (x : ((((0 ≤ a ∧ a < J 6 12) ∧ (0 ≤ c ∧ c < J 6 12) ∧ 0 ≤ b ∧ b < msz (tbz J) 0 0 a) ∧ ED (tbz J) n R (puO c 6 (tbz J) a b) J1 z1) ∨ (¬ ((0 ≤ a ∧ a < J 6 12) ∧ (0 ≤ c ∧ c < J 6 12) ∧ 0 ≤ b ∧ b < msz (tbz J) 0 0 a) ∧ z1 = -1 ∧ CAL J1 (tbz J) n R))) : WVC J1 := by
  rcases x with ⟨x0, x1⟩ | ⟨_, _, x1⟩
  · exact wv_ed c0 hI hI1 x1 (EXA.pu 6 _ _ _).m v
  · exact wv_eq c0 hI hI1 x1 v
theorem wv_match {J J1 : zJ} {n m m1 z1 a b : Int} {R : Int → Int → Int} (c0 : CAL J (tbz J) n R) (hI : CI J m) (hI1 : CI J1 m1) (v : WVC J) (x : ((((0 ≤ a ∧ a < J 6 12) ∧ (0 ≤ b ∧ b < J 6 12)) ∧ (omt (tbz J) a b).1 = true ∧ ED (tbz J) n R (zmt (tbz J) (omt (tbz J) a b).2, 1) J1 z1) ∨ (((0 ≤ a ∧ a < J 6 12) ∧ (0 ≤ b ∧ b < J 6 12)) ∧ (omt (tbz J) a b).1 = false ∧ z1 = 0 ∧ CAL J1 (tbz J) n R) ∨ (¬ ((0 ≤ a ∧ a < J 6 12) ∧ (0 ≤ b ∧ b < J 6 12)) ∧ z1 = -1 ∧ CAL J1 (tbz J) n R))) : WVC J1 := by
  rcases x with ⟨_, _, x1⟩ | ⟨_, _, _, x1⟩ | ⟨_, _, x1⟩
  · exact wv_ed c0 hI hI1 x1 EXM.mt v
  · exact wv_eq c0 hI hI1 x1 v
  · exact wv_eq c0 hI hI1 x1 v
theorem wv_close {J J1 : zJ} {n m m1 z1 a : Int} {R : Int → Int → Int} (c0 : CAL J (tbz J) n R) (hI : CI J m) (hI1 : CI J1 m1) (v : WVC J) (x : (((0 ≤ a ∧ a < J 6 12) ∧ NRb (tbz J) (bO (tbz J)) a ∧ ED (tbz J) n R (cloF (tbz J) a) J1 z1) ∨ ((0 ≤ a ∧ a < J 6 12) ∧ ¬ NRb (tbz J) (bO (tbz J)) a ∧ z1 = -2 ∧ CAL J1 (tbz J) n R) ∨ (¬ (0 ≤ a ∧ a < J 6 12) ∧ z1 = -1 ∧ CAL J1 (tbz J) n R))) : WVC J1 := by
  rcases x with ⟨_, _, x1⟩ | ⟨_, _, _, x1⟩ | ⟨_, _, x1⟩
  · exact wv_ed c0 hI hI1 x1 (EXA.gr 6 _ _).m v
  · exact wv_eq c0 hI hI1 x1 v
  · exact wv_eq c0 hI hI1 x1 v
theorem wv_common {J J1 : zJ} {n m m1 z1 a b : Int} {R : Int → Int → Int} (c0 : CAL J (tbz J) n R) (hI : CI J m) (hI1 : CI J1 m1) (v : WVC J) (x : ((((0 ≤ a ∧ a < J 6 12) ∧ (0 ≤ b ∧ b < J 6 12)) ∧ (cpO 6 (tbz J) [] a b).2 = true ∧ ED (tbz J) n R (coO (cpO 6 (tbz J) [] a b).1 6 (tbz J) a b) J1 z1) ∨ (((0 ≤ a ∧ a < J 6 12) ∧ (0 ≤ b ∧ b < J 6 12)) ∧ (cpO 6 (tbz J) [] a b).2 = false ∧ z1 = -2 ∧ CAL J1 (tbz J) n R) ∨ (¬ ((0 ≤ a ∧ a < J 6 12) ∧ (0 ≤ b ∧ b < J 6 12)) ∧ z1 = -1 ∧ CAL J1 (tbz J) n R))) : WVC J1 := by
  rcases x with ⟨_, _, x1⟩ | ⟨_, _, _, x1⟩ | ⟨_, _, x1⟩
  · exact wv_ed c0 hI hI1 x1 (EXA.co 6 _ _ _).m v
  · exact wv_eq c0 hI hI1 x1 v
  · exact wv_eq c0 hI hI1 x1 v
theorem wv_unify {J J1 : zJ} {n m m1 z1 a b : Int} {R : Int → Int → Int} (c0 : CAL J (tbz J) n R) (hI : CI J m) (hI1 : CI J1 m1) (v : WVC J) (x : ((((0 ≤ a ∧ a < J 6 12) ∧ (0 ≤ b ∧ b < J 6 12)) ∧ UEX (tbz J) m a b ∧ NRQ (tbz J) m a b ∧ ∃ ρ bs, GSOL (tbz J) m a b ρ ∧ (∀ v, 0 ≤ v → v < 8 → (bt bs v ↔ Occ (tbz J) 0 0 a v ∨ Occ (tbz J) 0 0 b v)) ∧ ED (tbz J) n R (bnO ρ bs (tbz J) 8, 1) J1 z1) ∨ (((0 ≤ a ∧ a < J 6 12) ∧ (0 ≤ b ∧ b < J 6 12)) ∧ ¬ UEX (tbz J) m a b ∧ z1 = 0 ∧ CAL J1 (tbz J) n R) ∨ (((0 ≤ a ∧ a < J 6 12) ∧ (0 ≤ b ∧ b < J 6 12)) ∧ UEX (tbz J) m a b ∧ ¬ NRQ (tbz J) m a b ∧ z1 = 2 ∧ CAL J1 (tbz J) n R) ∨ (¬ ((0 ≤ a ∧ a < J 6 12) ∧ (0 ≤ b ∧ b < J 6 12)) ∧ z1 = -1 ∧ CAL J1 (tbz J) n R))) : WVC J1 := by
  rcases x with ⟨_, _, _, ρ, bs, _, _, x1⟩ | ⟨_, _, _, x1⟩ | ⟨_, _, _, _, x1⟩ | ⟨_, _, x1⟩
  · exact wv_ed c0 hI hI1 x1 (EXM.bn 8 (by decide)) v
  · exact wv_eq c0 hI hI1 x1 v
  · exact wv_eq c0 hI hI1 x1 v
  · exact wv_eq c0 hI hI1 x1 v
theorem wv_room {J J1 : zJ} {n m m1 z1 a : Int} {R : Int → Int → Int} (c0 : CAL J (tbz J) n R) (hI : CI J m) (hI1 : CI J1 m1) (v : WVC J) (x : (((0 ≤ a ∧ a ≤ 9) ∧ ED (tbz J) n R ((zrm (tbz J) a, J 19 1)) J1 z1) ∨ (¬ (0 ≤ a ∧ a ≤ 9) ∧ z1 = -1 ∧ CAL J1 (tbz J) n R))) : WVC J1 := by
  rcases x with ⟨x0, x1⟩ | ⟨_, _, x1⟩
  · rcases x1 with ⟨_, _, c1⟩ | ⟨_, _, c1⟩
    · exact wv_eq c0 hI hI1 c1 v
    · have c1 : CAL J1 (zrm (tbz J) a) (psn n) (psh n R (tbz J 165)) := c1
      have g := c0.1.grw hI.1.1.1 hI.1.1.2.1 c1.1 hI1.1.1.1 hI1.1.1.2.1 EXR.rm.1
      have w := (WVS.to c0 hI (c0.wv.1 v) g).1
      have b := c0.2.1.b hI.1.1.2.2
      have e : ∀ q, ¬ q = 39 → ¬ q = 40 → zrm (tbz J) a 165 q = tbz J 165 q := fun q h1 h2 => (zup_ne h2).trans (zup_ne h1)
      refine wv_keep c0 hI c1 g ⟨fun i p q => ?_, fun i p q => absurd q ?_⟩ v
      · have q : i < zrm (tbz J) a 165 9 := q
        rw [e 9 (by decide) (by decide)] at q
        show WLC J1 (zrm (tbz J) a 165 (10 + 2 * i + 1)) (zrm (tbz J) a 165 (10 + 2 * i))
        rw [e (10 + 2 * i) (by omega) (by omega), e (10 + 2 * i + 1) (by omega) (by omega)]
        exact w.1 i p q
      · show ¬ i < zrm (tbz J) a 165 40
        rw [show zrm (tbz J) a 165 40 = 0 from zup_at]
        omega
  · exact wv_eq c0 hI hI1 x1 v
theorem wv_normal {J J1 : zJ} {n m m1 z1 a : Int} {R : Int → Int → Int} (c0 : CAL J (tbz J) n R) (hI : CI J m) (hI1 : CI J1 m1) (v : WVC J) {J2 : zJ} {z2 : Int} (f : ∀ q, 164 ≤ q → q < 183 → J1 q = J q) (y : (((0 ≤ a ∧ a < J1 165 0) ∧ MRE (tbz J1) n R (nFN (tbz J1) 0 a) J2 z2) ∨ (¬ (0 ≤ a ∧ a < J1 165 0) ∧ z2 = -1 ∧ MBT J2 (tbz J1) ∧ MUr J2 n R))) (hr : tbz J 165 40 ≤ tbz J 165 39) (x : (((0 ≤ a ∧ a < J 6 12) ∧ ((nFN (tbz J) 0 a).2.1 = [] → NRE (tbz J) n R (nFN (tbz J) 0 a) J1 z1)) ∨ (¬ (0 ≤ a ∧ a < J 6 12) ∧ z1 = -1 ∧ CAL J1 (tbz J) n R))) : WVC J1 := by
  have e6 := c0.1.2.1
  have e5 : J1 165 = J 165 := f 165 (by decide) (by decide)
  rw [tbz_hi f, e5] at y
  have E6 := (al_eq c0 hI).2.1
  rcases x with ⟨x0, x1⟩ | ⟨_, _, x1⟩
  · rcases y with ⟨y0, yf, _⟩ | ⟨y0, _⟩
    · rcases x1 yf with ⟨n0, _, p⟩ | ⟨_, _, p⟩ | ⟨_, _, p⟩
      · have M := mwi_of c0.1 hI.1.1.1 hI.1.1.2.1 c0.2.1 hI.1.1.2.2 hr v.1
        obtain ⟨⟨i1, _, i3⟩, _⟩ := fn_w M rfl ⟨x0.1, by omega⟩ yf n0
        exact wv_keep c0 hI p (c0.1.grw hI.1.1.1 hI.1.1.2.1 p.1 hI1.1.1.1 hI1.1.1.2.1 i3.t) (wv_of p.1 hI1.1.1.1 hI1.1.1.2.1 i1) v
      · exact wv_eq c0 hI hI1 p v
      · exact wv_eq c0 hI hI1 p v
    · exact absurd x0 (by omega)
  · exact wv_eq c0 hI hI1 x1 v
theorem zru_9 {S : zJ} {a b : Int} : zru S a b 165 9 = S 165 9 + 1 ∧ ∀ q, ¬ q = 9 → ¬ q = 40 → zru S a b 165 q = if q = 10 + 2 * S 165 9 + 1 then b else if q = 10 + 2 * S 165 9 then a else S 165 q := by
  refine ⟨rfl, fun q x y => ?_⟩
  show (if q = 40 then 0 else if q = 0 + 9 then _ else if q = 0 + 10 + 2 * S 165 (0 + 9) + 1 then b else if q = 0 + 10 + 2 * S 165 (0 + 9) then a else S 165 q) = _
  rw [if_neg y, if_neg (by omega), show S 165 (0 + 9) = S 165 9 from rfl, show (0 : Int) + 10 = 10 from rfl]
theorem wv_rules {J J1 : zJ} {n m m1 z1 a b : Int} {R : Int → Int → Int} (c0 : CAL J (tbz J) n R) (hI : CI J m) (hI1 : CI J1 m1) (v : WVC J) (x : (((J 19 4 < 8 ∧ ((0 ≤ a ∧ a < J 6 12) ∧ (0 ≤ b ∧ b < J 6 12)) ∧ cru J a b) ∧ ED (tbz J) n R ((zru (tbz J) a b, J 19 4 + 1)) J1 z1) ∨ (¬ (J 19 4 < 8 ∧ ((0 ≤ a ∧ a < J 6 12) ∧ (0 ≤ b ∧ b < J 6 12)) ∧ cru J a b) ∧ z1 = -1 ∧ CAL J1 (tbz J) n R))) : WVC J1 := by
  rcases x with ⟨⟨x0, x2, x3⟩, x1⟩ | ⟨_, _, x1⟩
  · rcases x1 with ⟨_, _, c1⟩ | ⟨_, _, c1⟩
    · exact wv_eq c0 hI hI1 c1 v
    · have hm := hI.1.1.2.1
      have c1 : CAL J1 (zru (tbz J) a b) (psn n) (psh n R (tbz J 165)) := c1
      obtain ⟨z9, zq⟩ := zru_9 (S := tbz J) (a := a) (b := b)
      have l4 := hI.1.1.2.2.1.2.1
      have w9 : J 19 4 = tbz J 165 9 := c0.2.1.2.1.1
      have x9 : EXT (zru (tbz J) a b) (tbz J) := ⟨by rw [zq 0 (by decide) (by decide), if_neg (by omega), if_neg (by omega)]; exact Int.le_refl _, fun _ _ _ => ⟨rfl, fun _ _ _ => rfl⟩, rfl, rfl⟩
      have g := c0.1.grw hI.1.1.1 hm c1.1 hI1.1.1.1 hI1.1.1.2.1 x9
      have w := (WVS.to c0 hI (c0.wv.1 v) g).1
      have C := hI.1.1.1
      obtain ⟨_, k2, _⟩ := x3
      have kw : WLC J b a := by
        obtain ⟨_, h2, h3⟩ := k2
        refine ⟨h2, ?_⟩
        rw [C.wt (t := b) ⟨x2.2.1, by omega⟩, C.wt (t := a) ⟨x2.1.1, by omega⟩]
        rcases h3 with q | q
        · exact Int.le_of_lt q
        · exact Int.le_of_eq q.1
      refine wv_keep c0 hI c1 g ⟨fun i p q => ?_, fun i p q => absurd q ?_⟩ v
      · rw [z9] at q
        rw [zq (10 + 2 * i) (by omega) (by omega), zq (10 + 2 * i + 1) (by omega) (by omega)]
        by_cases e : i = tbz J 165 9
        · subst e
          rw [if_pos rfl, if_neg (by omega), if_pos rfl]
          exact kw.to (g b x2.2.1 (by omega)) (g a x2.1.1 (by omega))
        · rw [if_neg (by omega), if_neg (by omega), if_neg (by omega), if_neg (by omega)]
          exact w.1 i p (by omega)
      · show ¬ i < zru (tbz J) a b 165 40
        rw [show zru (tbz J) a b 165 40 = 0 from zup_at]
        omega
  · exact wv_eq c0 hI hI1 x1 v
theorem wv_undo {J J1 : zJ} {n m m1 z1 : Int} {R : Int → Int → Int} (c0 : CAL J (tbz J) n R) (hI : CI J m) (hI1 : CI J1 m1) (v : WVC J) (x : ((n = 0 ∧ z1 = -1 ∧ CAL J1 (tbz J) n R) ∨ (0 < n ∧ z1 = n - 1 ∧ CAL J1 (zun (tbz J) (R (n - 1))) (n - 1) R))) : WVC J1 := by
  rcases x with ⟨_, _, c1⟩ | ⟨x0, _, c1⟩
  · exact wv_eq c0 hI hI1 c1 v
  · have v := c0.wv.1 v
    have hm := hI.1.1.2.1
    have hm1 := hI1.1.1.2.1
    have e6 := c0.2.2.1
    have e0 : J1 6 12 = zun (tbz J) (R (n - 1)) 165 0 := c1.1.2.1
    have e0' : zun (tbz J) (R (n - 1)) 165 0 = R (n - 1) 0 := (if_pos ⟨by decide, by decide⟩ : (if (0 : Int) ≤ 0 ∧ (0 : Int) < 63 then R (n - 1) 0 else tbz J 165 0) = R (n - 1) 0)
    obtain ⟨⟨l9, l0⟩, _⟩ := hI.2.2 (n - 1) (by omega) (by omega)
    have k0 := (c0.2.2.2 (n - 1) (by omega) (by omega)).2
    have g : SWT J1 J m1 := fun t a b => by
      have tm : t < m := by omega
      have w0 := c0.1.wc hI.1.1.1 hm t a tm
      have w1 := c1.1.wc hI1.1.1.1 hm1 t a b
      exact ⟨w1.1.symm.trans w0.1, fun v => (w1.2 v).symm.trans (w0.2 v)⟩
    refine c1.wv.2 ⟨?_, fun k p q => ?_⟩
    · have w := v.2 (n - 1) (by omega) (by omega)
      have lb := (c0.2.2.2 (n - 1) (by omega) (by omega)).1.lb2 l9
      have b9 := (c0.2.2.2 (n - 1) (by omega) (by omega)).1.b l9
      have w1 : WVh J1 (R (n - 1)) := w.to lb (fun t a b => g t a (by omega))
      have r : ∀ q, 0 ≤ q → q < 63 → zun (tbz J) (R (n - 1)) 165 q = R (n - 1) q := fun q a b => if_pos ⟨a, b⟩
      refine ⟨fun i p q => ?_, fun i p q => ?_⟩
      · rw [r 9 (by decide) (by decide)] at q
        rw [r (10 + 2 * i) (by omega) (by omega), r (10 + 2 * i + 1) (by omega) (by omega)]
        exact w1.1 i p q
      · rw [r 40 (by decide) (by decide)] at q
        rw [r (41 + 2 * i) (by omega) (by omega), r (41 + 2 * i + 1) (by omega) (by omega)]
        exact w1.2 i p q
    · obtain ⟨⟨lk, lk0⟩, mo⟩ := hI.2.2 k p (by omega)
      have m9 := mo (n - 1) (by omega) (by omega)
      exact (v.2 k p (by omega)).to ((c0.2.2.2 k p (by omega)).1.lb2 lk) (fun t a b => g t a (by omega))
