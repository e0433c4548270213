/-! ===== years: how the class and the reference stand ===== -/
noncomputable def yrA (S : zJ) (c : YCf) (u : Int) : Int := if c.2.2.2 = 0 then (if u = 0 then c.2.2.1 else if u = 1 then zw (c.1.1 165 61 - S 165 61) else zw (c.1.1 165 62 - S 165 62)) else -1
theorem yr_end {S : zJ} {seed : Int} {k y : Int} (hk : 0 ≤ k ∧ k ≤ y) (h : ¬ (yrO S seed k.toNat).2.2.2 = 0) : yrO S seed y.toNat = yrO S seed k.toNat := by
  have e := yrO_k h (y.toNat - k.toNat)
  rw [show k.toNat + (y.toNat - k.toNat) = y.toNat by omega] at e
  exact e
theorem yr_s {S : zJ} {seed k : Int} (hk : 0 ≤ k) : yrO S seed (k + 1).toNat = yrS (yrO S seed k.toNat) := by
  rw [show (k + 1).toNat = k.toNat + 1 by omega, yrO_s]
theorem yrS_2 {c : YCf} (h : ¬ c.2.2.2 = 0) : yrS c = c := yrG_k h
/-- what normalOf wants of the class -/
def NHY (J S : zJ) (σ : Int) : Prop := A0 J S ∧ RW (J 19) (S 165) ∧ S 164 21 = 0 ∧ S 165 40 ≤ S 165 39 ∧ (J 158 8 = 100 - σ ∧ 0 ≤ σ ∧ σ ≤ 100)
theorem x_cnormalH {l : Launch} {G : tb_G} (hl : l.stackTraces = false) (n : Nat) (J : zJ) (t : Int) (hr_t : -2147483648 ≤ t ∧ t < 2147483648) (m : Int) (S : zJ) (σ : Int) (C : CT J m) (hm : J 6 12 = m) (hL : LI (J 19) m) (ht : 0 ≤ t ∧ t < m) : tz_Ok l G M_X6_normalOf 11 0 0 [.ref 158, zi t] n J (zqi (fun z J' => ∃ m', GX [19, 140, 158, 159, 160, 161] J' J m m' ∧ LI (J' 19) m' ∧ (z = -3 ∨ z = -2 ∨ (0 ≤ z ∧ z < m')) ∧ (NHY J S σ → (nFN S σ t).2.1 = [] → NCG m' J' z (nFN S σ t)))) zN := by
  by_cases h : NHY J S σ
  · obtain ⟨E, W, h21, hr9, hσ⟩ := h
    refine (x_cnormal hl n J t hr_t m S σ C hm hL ht E W h21 hr9 hσ).mono (fun r J' _ q => ?_) (fun _ _ _ q => q)
    obtain ⟨z, e1, e2, m', g, l', h', x⟩ := q
    exact ⟨z, e1, e2, m', g, l', h', fun _ => x⟩
  · refine (c_normalOf hl n J t hr_t m C hm hL ht).mono (fun r J' _ q => ?_) (fun _ _ _ q => q)
    obtain ⟨z, e1, e2, m', g, l', h'⟩ := q
    exact ⟨z, e1, e2, m', g, l', h', fun w => absurd w h⟩
/-- the class shows where the years stand -/
def YCC (J : zJ) (q : Int) (c : YCf) : Prop := (c.2.2.2 = 0 ∨ c.2.2.2 = 2) ∧ (c.2.2.2 = 0 → NHY J c.1.1 c.1.2 ∧ J 141 5 = c.2.1 ∧ q = c.2.2.1)
theorem yc_0 {J J1 S : zJ} {s : Int} (E : A0 J S) (W : RW (J 19) (S 165)) (h21 : S 164 21 = 0) (hr9 : S 165 40 ≤ S 165 39) (hj : zup (zup J 141 5 s) 158 8 100 = J1) : YCC J1 0 (yrO S s (0 : Int).toNat) := by
  have e : yrO S s (0 : Int).toNat = ((S, 0), s, 0, 0) := rfl
  rw [e]
  refine ⟨Or.inl rfl, fun _ => ⟨⟨E.f (fun c hc => ?_), ?_, h21, hr9, ?_⟩, ?_, rfl⟩⟩
  · rw [← hj]
    exact (zup_nc (by omega)).trans (zup_nc (by omega))
  · rw [← hj]
    exact W
  · have e8 : J1 158 8 = 100 := by rw [← hj]; exact zup_at
    exact ⟨by rw [e8]; rfl, Int.le_refl _, (by decide : (0 : Int) ≤ 100)⟩
  · rw [← hj]
    exact (congrFun (zup_nc (by decide)) 5).trans zup_at
/-- a term is drawn -/
theorem yc_d {c : YCf} {J1 J2 : zJ} {q zd m1 m2 : Int} (h : YCC J1 q c) (l1 : LI (J1 19) m1) (g2 : GX [141] J2 J1 m1 m2) (x2 : ∀ S, S 164 21 = 0 → A0 J1 S → EXD (drO (3 : Int).toNat S (J1 141 5)) zd J2) (e : c.2.2.2 = 0) : (zd = -3 ∧ ¬ (yrD c).1.1 164 21 = 0) ∨ (0 ≤ zd ∧ (yrD c).1.1 164 21 = 0 ∧ NHY J2 (yrD c).1.1 c.1.2 ∧ zd = (yrD c).1.2 ∧ J2 141 5 = (yrD c).2) := by
  obtain ⟨⟨E, W, h21, hr, hσ⟩, hs, hq⟩ := h.2 e
  have x := x2 c.1.1 h21 E
  rw [hs] at x
  have x : EXD (yrD c) zd J2 := x
  rcases x with ⟨a, b⟩ | ⟨a0, a1, a2, a3, a4⟩
  · exact Or.inl ⟨a, b⟩
  · have d5 : ∀ q, ¬ q = 0 → (yrD c).1.1 165 q = c.1.1 165 q := fun q hq => drO_5 3 c.1.1 c.2.1 q hq
    refine Or.inr ⟨a0, a1, ⟨a2, ?_, a1, ?_, ?_⟩, a3, a4⟩
    · rw [g2.2.2.2.2 19 rfl]
      exact W.to l1 (fun k a _ => d5 k (by omega))
    · rw [d5 40 (by decide), d5 39 (by decide)]
      exact hr
    · rw [g2.2.2.2.2 158 rfl]
      exact hσ
theorem yc_f {c : YCf} {J1 J2 : zJ} {q zd m1 m2 : Int} (h : YCC J1 q c) (l1 : LI (J1 19) m1) (g2 : GX [141] J2 J1 m1 m2) (x2 : ∀ S, S 164 21 = 0 → A0 J1 S → EXD (drO (3 : Int).toNat S (J1 141 5)) zd J2) (hz : zd < 0) : (yrS c).2.2.2 = 1 ∨ (yrS c).2.2.2 = 2 := by
  rcases h.1 with e | e
  · rcases yc_d h l1 g2 x2 e with ⟨_, f⟩ | ⟨f, _⟩
    · refine Or.inl ?_
      rw [show yrS c = _ from yrG_d e f]
    · omega
  · rw [yrS_2 (by omega)]
    exact Or.inr e
/-- its normal form is made -/
theorem yc_m {c : YCf} {D : (zJ × Int) × Int} {Y : NCf} {J2 J3 : zJ} {q zd zn m2 m3 : Int} (e : c.2.2.2 = 0) (f : D.1.1 164 21 = 0) (ez : zd = D.1.2) (es : J2 141 5 = D.2) (hq : q = c.2.2.1) (hzd : 0 ≤ zd ∧ zd < m2) (g3 : GX [19, 140, 158, 159, 160, 161] J3 J2 m2 m3) (x4 : Y.2.1 = [] → NCG m3 J3 zn Y) (hzn : zn < m3) : (zn < 0 → (yrG c D Y).2.2.2 = 1 ∨ (yrG c D Y).2.2.2 = 2) ∧ (0 ≤ zn → YCC J3 (q + (J3 11 zd - J3 11 zn)) (yrG c D Y)) := by
  by_cases c2 : Y.2.1 = []
  · rcases x4 c2 with ⟨a, b, n1, n2, _⟩ | ⟨_, a⟩
    · have a0 : 0 ≤ Y.2.2 := by
        rcases a with ⟨_, F, K, e', _⟩ | a
        · rw [c2] at e'
          cases e'
        · exact a
      refine ⟨fun w => by omega, fun w => ?_⟩
      have wc := n1.1.wc g3.2.1 g3.2.2.1
      have m23 := g3.1
      rw [yrG_0 e f c2 a0]
      refine ⟨Or.inl rfl, fun _ => ⟨⟨n1.1, n1.2.1, n1.2.2.1, n1.2.2.2, n2⟩, ?_, ?_⟩⟩
      · show J3 141 5 = D.2
        rw [g3.2.2.2.2 141 rfl]
        exact es
      · show q + (J3 11 zd - J3 11 zn) = c.2.2.1 + (mwt Y.1.1 0 0 D.1.2 - mwt Y.1.1 0 0 Y.2.2)
        rw [← ez, ← b, (wc zd hzd.1 (by omega)).1, (wc zn w hzn).1, hq]
    · refine ⟨fun w => Or.inl ?_, fun w => by omega⟩
      rw [yrG_n e f c2 (by omega)]
  · rw [yrG_2 e f c2]
    exact ⟨fun _ => Or.inr rfl, fun _ => ⟨Or.inr rfl, fun w => absurd (show (2 : Int) = 0 from w) (by decide)⟩⟩
theorem yc_4 {c : YCf} {J2 J3 : zJ} {zd zn m3 : Int} (N : NHY J2 (yrD c).1.1 c.1.2) (x3 : NHY J2 (yrD c).1.1 c.1.2 → (nFN (yrD c).1.1 c.1.2 zd).2.1 = [] → NCG m3 J3 zn (nFN (yrD c).1.1 c.1.2 zd)) (ez : zd = (yrD c).1.2) : (yrN c).2.1 = [] → NCG m3 J3 zn (yrN c) := by
  have y := x3 N
  rw [ez] at y
  rw [← yrN_e]
  exact y
theorem yc_n {c : YCf} {J1 J2 J3 : zJ} {q zd zn m1 m2 m3 : Int} (h : YCC J1 q c) (l1 : LI (J1 19) m1) (g2 : GX [141] J2 J1 m1 m2) (x2 : ∀ S, S 164 21 = 0 → A0 J1 S → EXD (drO (3 : Int).toNat S (J1 141 5)) zd J2) (hzd : 0 ≤ zd ∧ zd < m2) (g3 : GX [19, 140, 158, 159, 160, 161] J3 J2 m2 m3) (x3 : NHY J2 (yrD c).1.1 c.1.2 → (nFN (yrD c).1.1 c.1.2 zd).2.1 = [] → NCG m3 J3 zn (nFN (yrD c).1.1 c.1.2 zd)) (hzn : zn < m3) : (zn < 0 → (yrS c).2.2.2 = 1 ∨ (yrS c).2.2.2 = 2) ∧ (0 ≤ zn → YCC J3 (q + (J3 11 zd - J3 11 zn)) (yrS c)) := by
  rcases h.1 with e | e
  · rcases yc_d h l1 g2 x2 e with ⟨f, _⟩ | ⟨_, f, N, ez, es⟩
    · omega
    · exact yc_m (D := yrD c) (Y := yrN c) e f ez es (h.2 e).2.2 hzd g3 (yc_4 N x3 ez) hzn
  · rw [yrS_2 (by omega)]
    exact ⟨fun _ => Or.inr e, fun _ => ⟨Or.inr e, fun w => by omega⟩⟩
/-- how it ends -/
def YCE (J : zJ) (z : Int) (c : YCf) : Prop := c.2.2.2 = 2 ∨ (c.2.2.2 = 1 ∧ z = -1) ∨ (c.2.2.2 = 0 ∧ z = c.2.2.1 ∧ RW (J 19) (c.1.1 165))
theorem yc_x {S J : zJ} {s k y : Int} (hk : 0 ≤ k ∧ k < y) (h : (yrS (yrO S s k.toNat)).2.2.2 = 1 ∨ (yrS (yrO S s k.toNat)).2.2.2 = 2) : YCE J (-1) (yrO S s y.toNat) := by
  rw [← yr_s hk.1] at h
  rw [yr_end (k := k + 1) (by omega) (by omega)]
  rcases h with h | h
  · exact Or.inr (Or.inl ⟨h, rfl⟩)
  · exact Or.inl h
theorem yc_e {S J : zJ} {s k y q : Int} (hk : k = y) (h : YCC J q (yrO S s k.toNat)) : YCE J q (yrO S s y.toNat) := by
  subst hk
  rcases h.1 with e | e
  · obtain ⟨n, _, hq⟩ := h.2 e
    exact Or.inr (Or.inr ⟨e, hq, n.2.1⟩)
  · exact Or.inl e
theorem yc_ans {S J1 : zJ} {c : YCf} {u zl z : Int} (h : YCE J1 zl c) (b2 : J1 61 2 = S 165 61) (b3 : J1 61 3 = S 165 62) (hw : c.2.2.2 = 0 → 0 ≤ c.2.2.1) (hz : (zl = -1 ∧ z = -1) ∨ (¬ zl = -1 ∧ z = if u = 0 then zl else if u = 1 then zw (J1 19 2 - J1 61 2) else zw (J1 19 3 - J1 61 3))) : ¬ c.2.2.2 = 2 → z = yrA S c u := fun n2 => by
  unfold yrA
  rcases h with e | ⟨e, ez⟩ | ⟨e, ez, w⟩
  · exact absurd e n2
  · rw [if_neg (by omega)]
    rcases hz with ⟨_, hz⟩ | ⟨q, _⟩
    · exact hz
    · exact absurd ez q
  · have := hw e
    rw [if_pos e]
    rcases hz with ⟨q, _⟩ | ⟨_, hz⟩
    · omega
    · rw [hz, b2, b3, w.1.2.1, w.1.2.2, ez]
/-! ===== the reference ===== -/
theorem tb0_1 {J : zJ} {k : Int} : tb0 J 171 k = if 0 ≤ k ∧ k < 10 then J 171 k else 0 := rfl
theorem mwt_tb {J : zJ} {s m t : Int} (hM : MS J 0 0 0 s m) (ht : 0 ≤ t ∧ t < m) : mwt (tb0 J) 0 0 t = mwt J 0 0 t := by
  have T := hM.told
  have hd : ∀ t, 0 ≤ t → t < m → tb0 J 166 (0 + t) = J 166 (0 + t) := fun t a b => by rw [tb0_6, if_pos (by omega)]
  have ha : ∀ t, 0 ≤ t → t < m → mar (tb0 J) 0 0 t = mar J 0 0 t := fun t a b => by
    have h := (hM.ar (t := t) ⟨a, b⟩).2.1
    unfold mar
    rw [hd t a b]
    exact arh_cg (fun q => by rw [tb0_0, if_pos (by omega)])
  have hg : ∀ t, 0 ≤ t → t < m → ∀ i, 0 ≤ i → i < mar J 0 0 t → mag (tb0 J) 0 t i = mag J 0 t i := fun t a b i p q => by
    have h := (hM.ar (t := t) ⟨a, b⟩).1
    show tb0 J 167 (3 * (0 + t) + i) = J 167 (3 * (0 + t) + i)
    rw [tb0_7, if_pos (by omega)]
  have hw : ∀ t, 0 ≤ t → t < m → mgw (tb0 J) 0 0 t = mgw J 0 0 t := fun t a b => by
    have h := (hM.ar (t := t) ⟨a, b⟩).2.1
    unfold mgw
    rw [hd t a b]
    split
    · rfl
    · rw [tb0_1, if_pos (by omega)]
  exact sV_cg hM.td hw ha hg 6 t ht
/-- the reference shows where the years stand -/
def YMC (J : zJ) (q e : Int) (c : YCf) : Prop := (e = 1 ∧ c = ((tb0 J, J 164 34), J 164 46, q, 0)) ∨ (e = 0 ∧ c.2.2.2 = 1)
theorem ym_0 {S J : zJ} {x : Int} (h : tb0 J = S) (h4 : J 164 34 = 0) : YMC (zup J 164 46 x) 0 1 (yrO S x (0 : Int).toNat) := by
  refine Or.inl ⟨rfl, ?_⟩
  rw [tb0_it, h, show zup J 164 46 x 164 34 = J 164 34 from zup_ne (by decide), h4, show zup J 164 46 x 164 46 = x from zup_at]
  rfl
theorem ym_d {c : YCf} {J1 J2 : zJ} {q z : Int} (h : c = ((tb0 J1, J1 164 34), J1 164 46, q, 0)) (x : ((tb0 J2, z), J2 164 46) = drO (3 : Int).toNat (tb0 J1) (J1 164 46)) : yrD c = ((tb0 J2, z), J2 164 46) := by
  rw [h]
  exact x.symm
theorem ym_full {c : YCf} {J1 J2 J3 : zJ} {q q' z : Int} (h : YMC J1 q 1 c) (x : ((tb0 J2, z), J2 164 46) = drO (3 : Int).toNat (tb0 J1) (J1 164 46)) (f : ¬ J2 164 21 = 0) : YMC J3 q' 0 (yrS c) := by
  rcases h with ⟨_, h⟩ | ⟨h, _⟩
  · refine Or.inr ⟨rfl, ?_⟩
    have d := ym_d h x
    have c0 : c.2.2.2 = 0 := by rw [h]
    rw [show yrS c = (c.1, c.2.1, c.2.2.1, 1) from yrG_d c0 (by rw [d]; exact f)]
  · exact absurd h (by decide)
theorem ym_n {c : YCf} {J1 J2 : zJ} {q z : Int} (h : c = ((tb0 J1, J1 164 34), J1 164 46, q, 0)) (x : ((tb0 J2, z), J2 164 46) = drO (3 : Int).toNat (tb0 J1) (J1 164 46)) (h4 : J2 164 34 = J1 164 34) : yrN c = nFN (tb0 J2) (J2 164 34) z := by
  rw [← yrN_e, ym_d h x, h, h4]
theorem ym_stop {c : YCf} {J1 J2 J3 J4 : zJ} {q q' z w : Int} (h : YMC J1 q 1 c) (x : ((tb0 J2, z), J2 164 46) = drO (3 : Int).toNat (tb0 J1) (J1 164 46)) (f : J2 164 21 = 0) (h4 : J2 164 34 = J1 164 34) (e : (NGO J3 ∧ 0 ≤ w ∧ nFN (tb0 J2) (J2 164 34) z = ((tb0 J3, J3 164 34), [], w)) ∨ ∃ Q v, NSV J3 v ∧ nFN (tb0 J2) (J2 164 34) z = (Q, [], v)) (g : ¬ J3 164 21 = 0 ∨ 100 < J3 164 34) : YMC J4 q' 0 (yrS c) := by
  rcases h with ⟨_, h⟩ | ⟨h, _⟩
  · have d := ym_d h x
    have n := ym_n h x h4
    have c0 : c.2.2.2 = 0 := by rw [h]
    refine Or.inr ⟨rfl, ?_⟩
    rcases e with ⟨g', _⟩ | ⟨Q, v, s, e⟩
    · obtain ⟨g1, g2⟩ := g'
      omega
    · have v0 : v < 0 := by
        rcases s with ⟨s, _⟩ | ⟨s, _⟩ <;> omega
      rw [show yrS c = (c.1, c.2.1, c.2.2.1, 1) from yrG_n c0 (by rw [d]; exact f) (by rw [n, e]) (by rw [n, e]; show ¬ 0 ≤ v; omega)]
  · exact absurd h (by decide)
theorem ym_go {c : YCf} {J1 J2 J3 : zJ} {q z w s m3 wz ww : Int} (h : YMC J1 q 1 c) (x : ((tb0 J2, z), J2 164 46) = drO (3 : Int).toNat (tb0 J1) (J1 164 46)) (f : J2 164 21 = 0) (h4 : J2 164 34 = J1 164 34) (e : (NGO J3 ∧ 0 ≤ w ∧ nFN (tb0 J2) (J2 164 34) z = ((tb0 J3, J3 164 34), [], w)) ∨ ∃ Q v, NSV J3 v ∧ nFN (tb0 J2) (J2 164 34) z = (Q, [], v)) (g : J3 164 21 = 0 ∧ J3 164 34 ≤ 100) (k6 : J3 164 46 = J2 164 46) (hM : MS J3 0 0 0 s m3) (hz : 0 ≤ z ∧ z < m3) (hw : 0 ≤ w ∧ w < m3) (ez : mwt J3 0 0 z = wz) (ew : mwt J3 0 0 w = ww) : YMC J3 (q + (wz - ww)) 1 (yrS c) := by
  rcases h with ⟨_, h⟩ | ⟨h, _⟩
  · have d := ym_d h x
    have n := ym_n h x h4
    have c0 : c.2.2.2 = 0 := by rw [h]
    have cq : c.2.2.1 = q := by rw [h]
    refine Or.inl ⟨rfl, ?_⟩
    rcases e with ⟨_, w0, e⟩ | ⟨Q, v, sv, e⟩
    · have k0 := yrG_0 (c := c) (D := yrD c) (N := yrN c) c0 (by rw [d]; exact f) (by rw [n, e]) (by rw [n, e]; exact w0)
      rw [show yrS c = yrG c (yrD c) (yrN c) from rfl, k0, n, e, d, cq]
      show ((tb0 J3, J3 164 34), J2 164 46, q + (mwt (tb0 J3) 0 0 z - mwt (tb0 J3) 0 0 w), (0 : Int)) = _
      rw [mwt_tb hM hz, mwt_tb hM hw, ez, ew, k6]
    · exfalso
      rcases sv with ⟨_, s1, _⟩ | ⟨_, _, s1⟩
      · exact s1 g.1
      · omega
  · exact absurd h (by decide)
theorem ym_2 {J : zJ} {q e : Int} {c : YCf} (h : YMC J q e c) : ¬ c.2.2.2 = 2 := by
  rcases h with ⟨_, h⟩ | ⟨_, h⟩
  · rw [h]
    exact (by decide : ¬ (0 : Int) = 2)
  · omega
theorem ym_e {S J : zJ} {x k y q e : Int} (hk : 0 ≤ k ∧ k ≤ y) (hd : y ≤ k ∨ e = 0) (h : YMC J q e (yrO S x k.toNat)) : YMC J q e (yrO S x y.toNat) := by
  by_cases c : k = y
  · rw [← c]
    exact h
  · rcases h with ⟨h, _⟩ | ⟨h, g⟩
    · omega
    · rw [yr_end hk (by omega)]
      exact Or.inr ⟨h, g⟩
theorem ym_ans {S J1 : zJ} {c : YCf} {q e v z : Int} (h : YMC J1 q e c) (b2 : J1 165 124 = S 165 61) (b3 : J1 165 125 = S 165 62) (hq : -2147483648 ≤ q ∧ q < 2147483648) (hz : (e = 0 ∧ z = -1) ∨ (¬ e = 0 ∧ z = if v = 0 then zw q else if v = 1 then zw (J1 165 61 - J1 165 124) else zw (J1 165 62 - J1 165 125))) : ¬ c.2.2.2 = 2 ∧ z = yrA S c v := by
  refine ⟨ym_2 h, ?_⟩
  unfold yrA
  rcases h with ⟨he, h⟩ | ⟨he, h⟩
  · rcases hz with ⟨a, _⟩ | ⟨_, hz⟩
    · omega
    · rw [h, if_pos rfl, hz, b2, b3, zw_eq hq]
      rfl
  · rw [if_neg (by omega)]
    rcases hz with ⟨_, hz⟩ | ⟨a, _⟩
    · exact hz
    · exact absurd he a
/-! ===== they meet ===== -/
theorem ask_eq3 {za zb t8 ra : Int} {A B A2 B2 : Prop} {V : Int} {F : Prop} (ha : A ↔ A2) (hb : B ↔ B2) (a : (za = 0 ∧ (A ∧ B) ∧ (¬ F → ra = V)) ∨ (za = 1 ∧ ¬ A) ∨ (za = 2 ∧ A ∧ ¬ B)) (b : (t8 = 0 ∧ (A2 ∧ B2) ∧ (¬ F ∧ zb = V)) ∨ (t8 = 1 ∧ ¬ A2) ∨ (t8 = 2 ∧ A2 ∧ ¬ B2)) : t8 = za ∧ (za = 0 → ra = zb) := by
  rcases a with ⟨a1, a2, a3⟩ | ⟨a1, a2⟩ | ⟨a1, a2, a3⟩ <;> rcases b with ⟨b1, b2, b3, b4⟩ | ⟨b1, b2⟩ | ⟨b1, b2, b3⟩
  · exact ⟨b1.trans a1.symm, fun _ => (a3 b3).trans b4.symm⟩
  · exact absurd (ha.1 a2.1) b2
  · exact absurd (hb.1 a2.2) b3
  · exact absurd (ha.2 b2.1) a2
  · exact ⟨b1.trans a1.symm, fun w => absurd (w.symm.trans a1) (by decide)⟩
  · exact absurd (ha.2 b2) a2
  · exact absurd (hb.2 b2.2) a3
  · exact absurd (ha.1 a2) b2
  · exact ⟨b1.trans a1.symm, fun w => absurd (w.symm.trans a1) (by decide)⟩
