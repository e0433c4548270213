/-! ===== room, entries, rules of a text: the reference follows the reading ===== -/
def pNx (g : zJ) : zJ := if g 0 4 = 0 then pN g else g
def pFx (g : zJ) (c : Int) : zJ := if g 0 4 = 0 then pF g c else g
theorem SI.nx {g : zJ} (h : SI g) : SI (pNx g) := by unfold pNx; split; exact h.n; exact h
theorem SI.fx {g : zJ} (h : SI g) {c : Int} : SI (pFx g c) := by unfold pFx; split; exact h.f; exact h
theorem RelX.tk {J g : zJ} (h : RelX J g) (h0 : g 0 4 = 0) : TKM J (g 1) (g 0 1) (g 0 3) (g 0 2) ∧ EM J g := (h.resolve_left (by omega)).2.2 h0
theorem z_go {l : Launch} {G : tb_G} (hl : l.stackTraces = false) (n : Nat) (J : zJ) (g : zJ) (hX : RelX J g) (hb : J 164 43 = 0) (hS : SI g) (hP : RSP J) : tz_Ok l G M_X12_go 2 0 0 [.ref 164] n J (zqv (fun J' => RGw J' J ∧ RelX J' (pNx g))) zN := by
  rcases hX.bad hb with q | ⟨q, hR⟩
  · exact (m_goW hl n J hP).mono (fun r J' _ ⟨a, b, c⟩ => ⟨a, b, by unfold pNx; rw [if_neg (by omega)]; exact Or.inl q⟩) (fun _ _ _ h => h)
  · exact (y_go hl n J g hR q hS).mono (fun r J' _ ⟨a, b, c, d⟩ => ⟨a, c, by unfold pNx; rw [if_pos q]; exact Or.inr b⟩) (fun _ _ _ h => h)
theorem z_wants {l : Launch} {G : tb_G} (hl : l.stackTraces = false) (n : Nat) (J : zJ) (x y : Int) (hr_x : -2147483648 ≤ x ∧ x < 2147483648) (hr_y : -2147483648 ≤ y ∧ y < 2147483648) (g : zJ) (hX : RelX J g) (hb : J 164 43 = 0) (hP : RSP J) (hy : ¬ y = 0) : tz_Ok l G M_X12_wants 0 0 0 [.ref 164, zi x, zi y] n J (zqi (fun z J' => RGw J' J ∧ ((¬ x = 0 ∧ z = 1 ∧ J = J') ∨ (x = 0 ∧ z = 0 ∧ ¬ J' 164 43 = 0 ∧ RelX J' (pFx g y))))) zN := by
  refine (x_wants hl n J x y hr_x hr_y hy).mono (fun r J' _ ⟨z, h1, h2, h3⟩ => ⟨z, h1, h2, ?_⟩) (fun _ _ _ h => h)
  rcases h3 with ⟨a, b, c, d⟩ | ⟨a, b, c, d⟩ | ⟨a, b, c⟩
  · subst d
    exact ⟨RGw.rf hP, Or.inl ⟨b, c, rfl⟩⟩
  · subst d
    refine ⟨RGw.wb hP hy, Or.inr ⟨b, c, ?_, ?_⟩⟩
    · show ¬ zup J 164 43 y 164 43 = 0
      rw [zup_at]
      exact hy
    · unfold pFx
      rcases hX.bad hb with q | ⟨q, hR⟩
      · rw [if_neg (by omega)]; exact Or.inl q
      · rw [if_pos q]; exact Or.inr (hR.fail q hy)
  · exact absurd hb a
theorem z_term1 {l : Launch} {G : tb_G} (hl : l.stackTraces = false) (n : Nat) (J : zJ) (s m : Int) (g : zJ) (hM : MS J 800 126 10 s m) (hP : RSP J) (hu : J 164 21 = 0 ∨ 0 < m) (h44 : J 164 44 = s) (hX : RelX J g) (hS : SI g) : tz_Ok l G M_X12_term1 14 0 0 [.ref 164, zi 1] n J (zqi (fun z J' => ∃ m', MRT J' J s m m' ∧ TV J' z m' ∧ RelX J' (pT 8 g 1).1 ∧ VQ z (pT 8 g 1))) zN := z_term1R hl n 8 J 1 (by decide) s m g hM hP hu h44 (by decide) hX hS (by decide)
/-- the tables agree: rules are rules on both -/
theorem mru_em {J g : zJ} {s m u t : Int} (hM : MS J 800 126 10 s m) (hE : EM J g) (hu : 0 ≤ u ∧ u < m) (ht : 0 ≤ t ∧ t < m) : mru J 800 10 u t ↔ mru g 800 10 u t := by
  obtain ⟨e1, e2, e3, e6, e7, e8, e9⟩ := hE
  have hT := hM.told
  have h6 : ∀ t, 0 ≤ t → t < m → g 166 (800 + t) = J 166 (800 + t) := fun t a c => ((e7 _ (by omega) (by omega)).1).symm
  have ha : ∀ t, 0 ≤ t → t < m → mar g 800 10 t = mar J 800 10 t := fun t a c => by
    have := (hM.ar ⟨a, c⟩).2.1
    unfold mar
    rw [h6 t a c]
    exact arh_cg (fun q => ((e9 _ (by omega) (by omega)).2.1).symm)
  have hg : ∀ t, 0 ≤ t → t < m → ∀ i, 0 ≤ i → i < mar J 800 10 t → mag g 800 t i = mag J 800 t i := fun t a c i x y => by
    have := (hM.ar ⟨a, c⟩).1
    exact (e8 _ (by omega) (by omega)).symm
  have hgw : ∀ t, 0 ≤ t → t < m → mgw g 800 10 t = mgw J 800 10 t := fun t a c => by
    have := (hM.ar ⟨a, c⟩).2.1
    unfold mgw
    rw [h6 t a c]
    split
    · rfl
    · exact ((e9 _ (by omega) (by omega)).2.2).symm
  have hgc : ∀ v t, 0 ≤ t → t < m → mgc g 800 v t = mgc J 800 v t := fun v t a c => by
    unfold mgc
    rw [h6 t a c]
  have hw : ∀ t, 0 ≤ t → t < m → mwt g 800 10 t = mwt J 800 10 t := fun t a c => sV_cg hM.td hgw ha hg 6 t ⟨a, c⟩
  have hc : ∀ v t, 0 ≤ v → v < 8 → 0 ≤ t → t < m → mcn g 800 10 v t = mcn J 800 10 v t := fun v t _ _ a c => sV_cg hM.td (hgc v) ha hg 6 t ⟨a, c⟩
  have hz : ∀ t, 0 ≤ t → t < m → msz g 800 10 t = msz J 800 10 t := fun t a c => by
    have key : ∀ (k : Nat) (t : Int), (0 ≤ t ∧ t < m) → tsz (mar g 800 10) (mag g 800) k t = tsz (mar J 800 10) (mag J 800) k t := by
      intro k
      induction k with
      | zero => intro t _; rfl
      | succ k ih =>
        intro t ht
        show tps (tsz (mar g 800 10) (mag g 800) k) (mag g 800) t (mar g 800 10 t).toNat = tps (tsz (mar J 800 10) (mag J 800) k) (mag J 800) t (mar J 800 10 t).toNat
        rw [ha t ht.1 ht.2, tps_sps, tps_sps]
        congr 1
        refine sps_cg _ (fun i hi => ?_)
        have hr := (hM.ar ht).1
        have hb := hM.arg ht (i := i) (by omega)
        rw [hg t ht.1 ht.2 (i : Int) (by omega) (by omega)]
        exact ih _ ⟨hb.1.1, by have := hb.1.2; show J 167 (3 * (800 + t) + i) < m; omega⟩
    exact key 6 t ⟨a, c⟩
  have hgt := gtP_cg (cn := mcn J 800 10) (cn' := mcn g 800 10) (wt := mwt J 800 10) (wt' := mwt g 800 10) (hd := fun t => J 166 (800 + t)) (hd' := fun t => g 166 (800 + t)) hM.td hc hw h6 ha hg (fun s t _ _ _ _ e => MS.hd8 e) 6 u t hu ht
  unfold mru mgt
  rw [h6 u hu.1 hu.2, hz u hu.1 hu.2, hz t ht.1 ht.2]
  exact ⟨fun ⟨a, b, c⟩ => ⟨a, hgt.2 b, c⟩, fun ⟨a, b, c⟩ => ⟨a, hgt.1 b, c⟩⟩
theorem RelM.r5 {J' J g' g : zJ} (h : RelM J g) (h0 : g 0 4 = 0) (f : zOf (zbut [165]) J' J) (f' : zOf (zbut [165]) g' g) (e : ∀ k, 126 ≤ k → k < 189 → J' 165 k = g' 165 k) : RelM J' g' := by
  obtain ⟨h1, h2, h3⟩ := h
  obtain ⟨k1, e1, e2, ⟨e3, e4, e5⟩, e6, e7, e8, e9⟩ := h3 h0
  have j4 := f 164 rfl
  have g0 := f' 0 rfl
  refine ⟨by rw [j4, g0]; exact h1, by rw [j4, g0]; exact h2, ?_⟩
  rw [g0, f' 1 rfl]
  intro _
  refine ⟨?_, ?_⟩
  · unfold TKM
    rw [j4]
    exact k1
  · unfold EM
    rw [j4, g0, f' 1 rfl, f' 164 rfl, f' 166 rfl, f' 167 rfl, f' 168 rfl, f' 169 rfl, f' 170 rfl, f' 171 rfl, f 173 rfl, f 166 rfl, f 167 rfl, f 168 rfl, f 169 rfl, f 170 rfl, f 171 rfl]
    exact ⟨e1, e2, ⟨e3, e4, e5⟩, e, e7, e8, e9⟩
theorem RelM.rl {J g : zJ} {u t : Int} (h : RelM J g) (h0 : g 0 4 = 0) (hK : 0 ≤ J 165 135 ∧ J 165 135 < 8) : RelM (zrl J 126 u t) (zrl g 126 u t) := by
  have e6 := (h.2.2 h0).2.2.2.2.1
  have e9 : g 165 (126 + 9) = J 165 (126 + 9) := (e6 135 (by decide) (by decide)).symm
  refine h.r5 h0 zrl_of zrl_of (fun k a b => ?_)
  rw [zrl_at, zrl_at, e9, e6 k a b]
theorem RelM.en {J g : zJ} {t : Int} (h : RelM J g) (h0 : g 0 4 = 0) : RelM (zen J 126 t) (zen g 126 t) := by
  have e6 := (h.2.2 h0).2.2.2.2.1
  have e9 : g 165 (126 + 26) = J 165 (126 + 26) := (e6 152 (by decide) (by decide)).symm
  refine h.r5 h0 zen_of zen_of (fun k a b => ?_)
  rw [zen_at, zen_at, e9, e6 k a b]
