section
/-! ===== room, entries, rules of a text: the reference follows the reading ===== -/
def pNx (g : zJ) : zJ := if g 0 4 = 0 then pN g else g
def pFx (g : zJ) (c : Int) : zJ := if g 0 4 = 0 then pF g c else g
theorem SI.nx {g : zJ} (h : SI g) : SI (pNx g) := by unfold pNx; split; exact h.n; exact h
theorem SI.fx {g : zJ} (h : SI g) {c : Int} : SI (pFx g c) := by unfold pFx; split; exact h.f; exact h
theorem RelX.tk {J g : zJ} (h : RelX J g) (h0 : g 0 4 = 0) : TKM J (g 1) (g 0 1) (g 0 3) (g 0 2) ∧ EM J g := (h.resolve_left (by omega)).2.2 h0
theorem z_go {l : Launch} {G : tb_G} (hl : l.stackTraces = false) (n : Nat) (J : zJ) (g : zJ) (hX : RelX J g) (hb : J 164 43 = 0) (hS : SI g) (hP : RSP J) : tz_Ok l G M_X12_go 2 0 0 [.ref 164] n J (zqv (fun J' => RGw J' J ∧ RelX J' (pNx g))) zN := by
  rcases hX.bad hb with q | ⟨q, hR⟩
  · exact (m_goW hl n J hP).mono (fun r J' _ ⟨a, b, c⟩ => ⟨a, b, by unfold pNx; rw [if_neg (by omega)]; exact Or.inl q⟩) (fun _ _ _ h => h)
  · exact (y_go hl n J g hR q hS).mono (fun r J' _ ⟨a, b, c, d⟩ => ⟨a, c, by unfold pNx; rw [if_pos q]; exact Or.inr b⟩) (fun _ _ _ h => h)
theorem z_wants {l : Launch} {G : tb_G} (hl : l.stackTraces = false) (n : Nat) (J : zJ) (x y : Int) (hr_x : -2147483648 ≤ x ∧ x < 2147483648) (hr_y : -2147483648 ≤ y ∧ y < 2147483648) (g : zJ) (hX : RelX J g) (hb : J 164 43 = 0) (hP : RSP J) (hy : ¬ y = 0) : tz_Ok l G M_X12_wants 0 0 0 [.ref 164, zi x, zi y] n J (zqi (fun z J' => RGw J' J ∧ ((¬ x = 0 ∧ z = 1 ∧ J = J') ∨ (x = 0 ∧ z = 0 ∧ ¬ J' 164 43 = 0 ∧ RelX J' (pFx g y))))) zN := by
  refine (x_wants hl n J x y hr_x hr_y hy).mono (fun r J' _ ⟨z, h1, h2, h3⟩ => ⟨z, h1, h2, ?_⟩) (fun _ _ _ h => h)
  rcases h3 with ⟨a, b, c, d⟩ | ⟨a, b, c, d⟩ | ⟨a, b, c⟩
  · subst d
    exact ⟨RGw.rf hP, Or.inl ⟨b, c, rfl⟩⟩
  · subst d
    refine ⟨RGw.wb hP hy, Or.inr ⟨b, c, ?_, ?_⟩⟩
    · show ¬ zup J 164 43 y 164 43 = 0
      rw [zup_at]
      exact hy
    · unfold pFx
      rcases hX.bad hb with q | ⟨q, hR⟩
      · rw [if_neg (by omega)]; exact Or.inl q
      · rw [if_pos q]; exact Or.inr (hR.fail q hy)
  · exact absurd hb a
theorem z_term1 {l : Launch} {G : tb_G} (hl : l.stackTraces = false) (n : Nat) (J : zJ) (s m : Int) (g : zJ) (hM : MS J 800 126 10 s m) (hP : RSP J) (hu : J 164 21 = 0 ∨ 0 < m) (h44 : J 164 44 = s) (hX : RelX J g) (hS : SI g) : tz_Ok l G M_X12_term1 14 0 0 [.ref 164, zi 1] n J (zqi (fun z J' => ∃ m', MRT J' J s m m' ∧ TV J' z m' ∧ RelX J' (pT 8 g 1).1 ∧ VQ z (pT 8 g 1))) zN := z_term1R hl n 8 J 1 (by decide) s m g hM hP hu h44 (by decide) hX hS (by decide)
/-- the tables agree: rules are rules on both -/
theorem mru_em {J g : zJ} {s m u t : Int} (hM : MS J 800 126 10 s m) (hE : EM J g) (hu : 0 ≤ u ∧ u < m) (ht : 0 ≤ t ∧ t < m) : mru J 800 10 u t ↔ mru g 800 10 u t := by
  obtain ⟨e1, e2, e3, e6, e7, e8, e9⟩ := hE
  have hT := hM.told
  have h6 : ∀ t, 0 ≤ t → t < m → g 166 (800 + t) = J 166 (800 + t) := fun t a c => ((e7 _ (by omega) (by omega)).1).symm
  have ha : ∀ t, 0 ≤ t → t < m → mar g 800 10 t = mar J 800 10 t := fun t a c => by
    have := (hM.ar ⟨a, c⟩).2.1
    unfold mar
    rw [h6 t a c]
    exact arh_cg (fun q => ((e9 _ (by omega) (by omega)).2.1).symm)
  have hg : ∀ t, 0 ≤ t → t < m → ∀ i, 0 ≤ i → i < mar J 800 10 t → mag g 800 t i = mag J 800 t i := fun t a c i x y => by
    have := (hM.ar ⟨a, c⟩).1
    exact (e8 _ (by omega) (by omega)).symm
  have hgw : ∀ t, 0 ≤ t → t < m → mgw g 800 10 t = mgw J 800 10 t := fun t a c => by
    have := (hM.ar ⟨a, c⟩).2.1
    unfold mgw
    rw [h6 t a c]
    split
    · rfl
    · exact ((e9 _ (by omega) (by omega)).2.2).symm
  have hgc : ∀ v t, 0 ≤ t → t < m → mgc g 800 v t = mgc J 800 v t := fun v t a c => by
    unfold mgc
    rw [h6 t a c]
  have hw : ∀ t, 0 ≤ t → t < m → mwt g 800 10 t = mwt J 800 10 t := fun t a c => sV_cg hM.td hgw ha hg 6 t ⟨a, c⟩
  have hc : ∀ v t, 0 ≤ v → v < 8 → 0 ≤ t → t < m → mcn g 800 10 v t = mcn J 800 10 v t := fun v t _ _ a c => sV_cg hM.td (hgc v) ha hg 6 t ⟨a, c⟩
  have hz : ∀ t, 0 ≤ t → t < m → msz g 800 10 t = msz J 800 10 t := fun t a c => by
    have key : ∀ (k : Nat) (t : Int), (0 ≤ t ∧ t < m) → tsz (mar g 800 10) (mag g 800) k t = tsz (mar J 800 10) (mag J 800) k t := by
      intro k
      induction k with
      | zero => intro t _; rfl
      | succ k ih =>
        intro t ht
        show tps (tsz (mar g 800 10) (mag g 800) k) (mag g 800) t (mar g 800 10 t).toNat = tps (tsz (mar J 800 10) (mag J 800) k) (mag J 800) t (mar J 800 10 t).toNat
        rw [ha t ht.1 ht.2, tps_sps, tps_sps]
        congr 1
        refine sps_cg _ (fun i hi => ?_)
        have hr := (hM.ar ht).1
        have hb := hM.arg ht (i := i) (by omega)
        rw [hg t ht.1 ht.2 (i : Int) (by omega) (by omega)]
        exact ih _ ⟨hb.1.1, by have := hb.1.2; show J 167 (3 * (800 + t) + i) < m; omega⟩
    exact key 6 t ⟨a, c⟩
  have hgt := gtP_cg (cn := mcn J 800 10) (cn' := mcn g 800 10) (wt := mwt J 800 10) (wt' := mwt g 800 10) (hd := fun t => J 166 (800 + t)) (hd' := fun t => g 166 (800 + t)) hM.td hc hw h6 ha hg (fun s t _ _ _ _ e => MS.hd8 e) 6 u t hu ht
  unfold mru mgt
  rw [h6 u hu.1 hu.2, hz u hu.1 hu.2, hz t ht.1 ht.2]
  exact ⟨fun ⟨a, b, c⟩ => ⟨a, hgt.2 b, c⟩, fun ⟨a, b, c⟩ => ⟨a, hgt.1 b, c⟩⟩
theorem RelM.r5 {J' J g' g : zJ} (h : RelM J g) (h0 : g 0 4 = 0) (f : zOf (zbut [165]) J' J) (f' : zOf (zbut [165]) g' g) (e : ∀ k, 126 ≤ k → k < 189 → J' 165 k = g' 165 k) : RelM J' g' := by
  obtain ⟨h1, h2, h3⟩ := h
  obtain ⟨k1, e1, e2, ⟨e3, e4, e5⟩, e6, e7, e8, e9⟩ := h3 h0
  have j4 := f 164 rfl
  have g0 := f' 0 rfl
  refine ⟨by rw [j4, g0]; exact h1, by rw [j4, g0]; exact h2, ?_⟩
  rw [g0, f' 1 rfl]
  intro _
  refine ⟨?_, ?_⟩
  · unfold TKM
    rw [j4]
    exact k1
  · unfold EM
    rw [j4, g0, f' 1 rfl, f' 164 rfl, f' 166 rfl, f' 167 rfl, f' 168 rfl, f' 169 rfl, f' 170 rfl, f' 171 rfl, f 173 rfl, f 166 rfl, f 167 rfl, f 168 rfl, f 169 rfl, f 170 rfl, f 171 rfl]
    exact ⟨e1, e2, ⟨e3, e4, e5⟩, e, e7, e8, e9⟩
theorem RelM.rl {J g : zJ} {u t : Int} (h : RelM J g) (h0 : g 0 4 = 0) (hK : 0 ≤ J 165 135 ∧ J 165 135 < 8) : RelM (zrl J 126 u t) (zrl g 126 u t) := by
  have e6 := (h.2.2 h0).2.2.2.2.1
  have e9 : g 165 (126 + 9) = J 165 (126 + 9) := (e6 135 (by decide) (by decide)).symm
  refine h.r5 h0 zrl_of zrl_of (fun k a b => ?_)
  rw [zrl_at, zrl_at, e9, e6 k a b]
theorem RelM.en {J g : zJ} {t : Int} (h : RelM J g) (h0 : g 0 4 = 0) : RelM (zen J 126 t) (zen g 126 t) := by
  have e6 := (h.2.2 h0).2.2.2.2.1
  have e9 : g 165 (126 + 26) = J 165 (126 + 26) := (e6 152 (by decide) (by decide)).symm
  refine h.r5 h0 zen_of zen_of (fun k a b => ?_)
  rw [zen_at, zen_at, e9, e6 k a b]
end
section
set_option maxHeartbeats 4000000 in
set_option maxRecDepth 100000 in
theorem x_entryOf {l : Launch} {G : tb_G} (hl : l.stackTraces = false) (n : Nat) (J : zJ) (t : Int) (hr_t : -2147483648 ≤ t ∧ t < 2147483648)  (h16 : J 164 16 = 126) (h1 : 0 ≤ J 165 152 ∧ J 165 152 ≤ 12) : tz_Ok l G M_X12_entryOf 0 0 0 [.ref 164, zi t] n J (zqi (fun z J' => J = J' ∧ ((0 ≤ z ∧ z < J 165 152 ∧ fnB (fun k => decide (¬ J 165 (153 + k) = t)) (J 165 152) 0 = z) ∨ (z = -1 ∧ fnB (fun k => decide (¬ J 165 (153 + k) = t)) (J 165 152) 0 = J 165 152)))) zN := by
  refine tz_Ok.of hl (by decide +kernel) rfl (tb_c1 rfl) (Nat.le_of_ble_eq_true rfl) ?_
  show tz_At l G M_X12_entryOf (tb_rm 0 0 0) none (tb_ZM G 0 0 (zQ n 0 (zqi (fun z J' => J = J' ∧ ((0 ≤ z ∧ z < J 165 152 ∧ fnB (fun k => decide (¬ J 165 (153 + k) = t)) (J 165 152) 0 = z) ∨ (z = -1 ∧ fnB (fun k => decide (¬ J 165 (153 + k) = t)) (J 165 152) 0 = J 165 152))))) (zX n 0 zN)) 0 0 n J 0 [some (.ref 164), some (zi t), none] []
  refine tz_iconst (pc := 0) dX12_entryOf_0 ?_
  refine tz_istore_n (pc := 1) (L2 := [_, _, _]) dX12_entryOf_1 rfl (by decide) rfl ?_
  have loop2 : ∀ (f9 : Nat) (k : Int), ((12 - k).toNat) < f9 → (0 ≤ k ∧ k ≤ J 165 152) → (∀ q, 0 ≤ q → q < k → ¬ J 165 (153 + q) = t) → tz_At l G M_X12_entryOf (tb_rm 0 0 0) none (tb_ZM G 0 0 (zQ n 0 (zqi (fun z J' => J = J' ∧ ((0 ≤ z ∧ z < J 165 152 ∧ fnB (fun k => decide (¬ J 165 (153 + k) = t)) (J 165 152) 0 = z) ∨ (z = -1 ∧ fnB (fun k => decide (¬ J 165 (153 + k) = t)) (J 165 152) 0 = J 165 152))))) (zX n 0 zN)) 0 0 n J 2 [some (.ref 164), some (zi t), some (zi k)] [] := by
    intro f9
    induction f9 with
    | zero => intro k hm9; exact absurd hm9 (Nat.not_lt_zero _)
    | succ f9 ih2 =>
      intro k hm2 hk hq
      refine tz_iload_n (pc := 2) dX12_entryOf_2 rfl rfl ?_
      refine tz_aload_n (pc := 3) dX12_entryOf_3 rfl rfl ?_
      refine tz_fR (pc := 4) dX12_entryOf_4 fl_X12_9 r_164_0 ?_
      refine tz_aload_n (pc := 7) dX12_entryOf_7 rfl rfl ?_
      refine tz_fI (pc := 8) (kz := 16) (v := 126) dX12_entryOf_8 fl_X12_85 i_164_16 rfl h16 (fun _ => ?_)
      refine tz_bipush (pc := 11) dX12_entryOf_11 (by decide) ?_
      refine tz_iadd (pc := 13) (v := 152) dX12_entryOf_13 (by decide) ?_
      refine tz_aL (pc := 14) (z := 152) (v := (J 165 152)) dX12_entryOf_14 a_165 rfl (by decide) rfl (fun r_14 => ?_)
      refine tz_icmp_ge (pc := 15) (tgt := 44) dX12_entryOf_15 (by decide) (by omega) (by omega) (fun h_15 => ?_) (fun h_15 => ?_)
      · refine tz_iconst (pc := 44) dX12_entryOf_44 ?_
        exact tz_iret (pc := 45) (z := (-1)) dX12_entryOf_45 rfl (Nat.le_of_ble_eq_true rfl) (Nat.le_of_ble_eq_true rfl) ⟨Nat.le_refl _, Nat.le_add_right _ _⟩ ⟨_, rfl, (by decide), ⟨rfl, Or.inr ⟨rfl, fnB_eq (by omega) (by omega) (fun q a b => decide_eq_true (hq q a (by omega))) (Or.inl rfl)⟩⟩⟩
      · refine tz_aload_n (pc := 18) dX12_entryOf_18 rfl rfl ?_
        refine tz_fR (pc := 19) dX12_entryOf_19 fl_X12_9 r_164_0 ?_
        refine tz_aload_n (pc := 22) dX12_entryOf_22 rfl rfl ?_
        refine tz_fI (pc := 23) (kz := 16) (v := 126) dX12_entryOf_23 fl_X12_85 i_164_16 rfl h16 (fun _ => ?_)
        refine tz_bipush (pc := 26) dX12_entryOf_26 (by decide) ?_
        refine tz_iadd (pc := 28) (v := 153) dX12_entryOf_28 (by decide) ?_
        refine tz_iload_n (pc := 29) dX12_entryOf_29 rfl rfl ?_
        refine tz_iadd (pc := 30) (v := 153 + k) dX12_entryOf_30 rfl ?_
        refine tz_aL (pc := 31) (z := (153 + k)) (v := (J 165 (153 + k))) dX12_entryOf_31 a_165 rfl (by omega) rfl (fun r_31 => ?_)
        refine tz_iload_n (pc := 32) dX12_entryOf_32 rfl rfl ?_
        refine tz_icmp_ne (pc := 33) (tgt := 38) dX12_entryOf_33 (by decide) (by omega) (by omega) (fun h_33 => ?_) (fun h_33 => ?_)
        · refine tz_iinc (pc := 38) (z := k + 1) (L2 := [_, _, _]) dX12_entryOf_38 rfl (by omega) rfl ?_
          refine tz_goto (pc := 41) (tgt := 2) dX12_entryOf_41 (by decide) ?_
          exact ih2 (k + 1) (by omega) (by omega) (fun q a b => (Decidable.em (q = k)).elim (fun e => by rw [e]; omega) (fun e => hq q a (by omega)))
        · refine tz_iload_n (pc := 36) dX12_entryOf_36 rfl rfl ?_
          exact tz_iret (pc := 37) (z := k) dX12_entryOf_37 rfl (Nat.le_of_ble_eq_true rfl) (Nat.le_of_ble_eq_true rfl) ⟨Nat.le_refl _, Nat.le_add_right _ _⟩ ⟨_, rfl, (by omega), ⟨rfl, Or.inl ⟨by omega, by omega, fnB_eq (by omega) (by omega) (fun q a b => decide_eq_true (hq q a b)) (Or.inr (decide_eq_false (fun e => e (by omega))))⟩⟩⟩
  exact loop2 _ 0 (Nat.lt_succ_self _) (by omega) (fun q a b => by omega)

set_option maxHeartbeats 4000000 in
set_option maxRecDepth 100000 in
theorem y_room1 {l : Launch} {G : tb_G} (hl : l.stackTraces = false) (n : Nat) (J : zJ)   (s m : Int) (g : zJ) (hI : TI J s m) (hw : ∀ k, 0 ≤ k → k < s → 1 ≤ J 171 (10 + k) ∧ J 171 (10 + k) ≤ 9) (hR : RelM J g) (h9 : g 0 4 = 0) (hS : SI g) : tz_Ok l G M_X12_room1 4 0 0 [.ref 164] n J (zqv (fun J' => CL J' J ∧ (J' 171 = J 171 ∧ J' 164 44 = J 164 44) ∧ RelX J' (pRo g))) zN := by
  refine tz_Ok.of hl (by decide +kernel) rfl (tb_c1 rfl) (Nat.le_of_ble_eq_true rfl) ?_
  show tz_At l G M_X12_room1 (tb_rm 4 0 0) none (tb_ZM G 0 0 (zQ n 0 (zqv (fun J' => CL J' J ∧ (J' 171 = J 171 ∧ J' 164 44 = J 164 44) ∧ RelX J' (pRo g)))) (zX n 0 zN)) 0 0 n J 0 [some (.ref 164)] []
  obtain ⟨hM, h44, hP, hu, hL, h66⟩ := id hI
  have hT := hM.told
  have g0 := MRT.rf hM hP hu
  clear hu
  have hL9 : 0 ≤ J 165 135 ∧ J 165 135 ≤ 8 := hL.1.1
  have hL8 : 0 ≤ J 165 152 ∧ J 165 152 ≤ 12 := hL.2.2.1.1
  have hX : RelX J g := Or.inr hR
  have hb0 : J 164 43 = 0 := hR.1.trans h9
  have hE := (hR.2.2 h9).2
  have nx9 : pNx g = pN g := by unfold pNx; rw [if_pos h9]
  have fx9 : ∀ c, pFx g c = pF g c := fun c => by unfold pFx; rw [if_pos h9]
  refine tz_aload_n (pc := 0) dX12_room1_0 rfl rfl ?_
  refine tz_aload_n (pc := 1) dX12_room1_1 rfl rfl ?_
  refine tz_fI (pc := 2) (kz := 45) (v := (J 164 45)) dX12_room1_2 fl_X12_313 i_164_45 rfl rfl (fun r_2 => ?_)
  refine tz_if_ne (pc := 5) (tgt := 12) dX12_room1_5 (by decide) (by omega) (fun h_5 => ?_) (fun h_5 => ?_)
  · refine tz_iconst (pc := 12) dX12_room1_12 ?_
    refine tz_iconst (pc := 13) dX12_room1_13 ?_
    refine tz_cV (pc := 14) (z_wants hl n _ _ _ (by decide) (by decide) _ hX hb0 (g0).2.1 (by decide)) vl_X12_276 dX12_room1_14 o_164 rfl rfl (Nat.le_of_ble_eq_true rfl) ⟨(Nat.le_of_ble_eq_true rfl), (Nat.le_of_ble_eq_true rfl)⟩ rfl rfl (Nat.le_of_ble_eq_true rfl) (Nat.le_of_ble_eq_true rfl) (fun r9 J_14 hq9 => ?_)
    obtain ⟨z_14, rfl, hz_14, w_14, o_14⟩ := hq9
    obtain ⟨rfl, v_14, x_14⟩ : z_14 = 0 ∧ ¬ J_14 164 43 = 0 ∧ RelX J_14 (pFx g 4) := by rcases o_14 with q | q; exact absurd rfl q.1; exact q.2
    have q_14 := MRT.w g0 w_14
    have s_14 := SI.fx (c := 4) hS
    clear o_14
    refine tz_if_neF (pc := 17) (tgt := 21) (by decide) dX12_room1_17 (by decide) (by decide) ?_
    exact tz_vret (pc := 20) dX12_room1_20 rfl (Nat.le_of_ble_eq_true rfl) (Nat.le_of_ble_eq_true rfl) ⟨Nat.le_refl _, Nat.le_add_right _ _⟩ ⟨rfl, ⟨CL.rt hI q_14, ⟨(q_14).c 171 rfl, (q_14).f 44 rfl⟩, by rw [show pRo g = pF g 4 from by unfold pRo; rw [if_neg (by rw [← hE.2.2.1.2.1]; omega)], ← fx9]; exact x_14⟩⟩
  · refine tz_iconst (pc := 8) dX12_room1_8 ?_
    refine tz_goto (pc := 9) (tgt := 13) dX12_room1_9 (by decide) ?_
    refine tz_iconst (pc := 13) dX12_room1_13 ?_
    refine tz_cV (pc := 14) (z_wants hl n _ _ _ (by decide) (by decide) _ hX hb0 (g0).2.1 (by decide)) vl_X12_276 dX12_room1_14 o_164 rfl rfl (Nat.le_of_ble_eq_true rfl) ⟨(Nat.le_of_ble_eq_true rfl), (Nat.le_of_ble_eq_true rfl)⟩ rfl rfl (Nat.le_of_ble_eq_true rfl) (Nat.le_of_ble_eq_true rfl) (fun r9 J_14 hq9 => ?_)
    obtain ⟨z_14, rfl, hz_14, w_14, o_14⟩ := hq9
    obtain ⟨rfl, rfl⟩ : z_14 = 1 ∧ J = J_14 := by rcases o_14 with q | q; exact q.2; exact absurd q.1 (by decide)
    clear o_14
    refine tz_if_neT (pc := 17) (tgt := 21) (by decide) dX12_room1_17 (by decide) (by decide) ?_
    refine tz_aload_n (pc := 21) dX12_room1_21 rfl rfl ?_
    refine tz_cV (pc := 22) (z_go hl n _ _ hX hb0 hS (g0).2.1) vl_X12_280 dX12_room1_22 o_164 rfl rfl (Nat.le_of_ble_eq_true rfl) ⟨(Nat.le_of_ble_eq_true rfl), (Nat.le_of_ble_eq_true rfl)⟩ rfl rfl (Nat.le_of_ble_eq_true rfl) (Nat.le_of_ble_eq_true rfl) (fun r9 J_22 hq9 => ?_)
    obtain ⟨rfl, w_22, x_22⟩ := hq9
    have q_22 := MRT.w g0 w_22
    have s_22 := SI.nx hS
    refine tz_aload_n (pc := 25) dX12_room1_25 rfl rfl ?_
    refine tz_fR (pc := 26) dX12_room1_26 fl_X12_9 r_164_0 ?_
    refine tz_sipush (pc := 29) dX12_room1_29 (by decide) ?_
    refine tz_aload_n (pc := 32) dX12_room1_32 rfl rfl ?_
    refine tz_iconst (pc := 33) dX12_room1_33 ?_
    refine tz_bipush (pc := 34) dX12_room1_34 (by decide) ?_
    refine tz_cV (pc := 36) (z_number hl n _ _ _ (by decide) (by decide) _ x_22 s_22 (q_22).2.1 (by decide)) vl_X12_290 dX12_room1_36 o_164 rfl rfl (Nat.le_of_ble_eq_true rfl) ⟨(Nat.le_of_ble_eq_true rfl), (Nat.le_of_ble_eq_true rfl)⟩ rfl rfl (Nat.le_of_ble_eq_true rfl) (Nat.le_of_ble_eq_true rfl) (fun r9 J_36 hq9 => ?_)
    obtain ⟨z_36, rfl, hz_36, w_36, b_36, x_36, e_36⟩ := hq9
    have q_36 := MRT.w q_22 w_36
    have s_36 := SI.u (a := 0) (b := 9) s_22
    refine tz_aS (pc := 39) (z := 165) dX12_room1_39 a_165 rfl (by decide) (by omega) ?_
    refine tz_aload_n (pc := 40) dX12_room1_40 rfl rfl ?_
    refine tz_iconst (pc := 41) dX12_room1_41 ?_
    refine tz_pI (pc := 42) (kz := 45) dX12_room1_42 fl_X12_313 i_164_45 rfl rfl (by decide) ?_
    exact tz_vret (pc := 45) dX12_room1_45 rfl (Nat.le_of_ble_eq_true rfl) (Nat.le_of_ble_eq_true rfl) ⟨Nat.le_refl _, Nat.le_add_right _ _⟩ ⟨rfl, ⟨CL.ro hI q_36 (by omega), ⟨(q_36).c 171 rfl, (q_36).f 44 rfl⟩, by have e1 : pO1 g = pU (pNx g) 0 9 := (by unfold pO1; rw [nx9]); have e2 : g 164 45 = 0 := (by rw [← hE.2.2.1.2.1]; omega); by_cases hc : (pU (pNx g) 0 9).1 0 4 = 0; (have e3 : pRo g = zup (zup (pU (pNx g) 0 9).1 165 165 z_36) 164 45 1 := (by unfold pRo; rw [if_pos e2, e1, if_pos hc, ← e_36 hc]); rw [e3]; exact Or.inr (RelM.room (x_36.resolve_left (by omega)) hc)); (have e3 : pRo g = (pU (pNx g) 0 9).1 := (by unfold pRo; rw [if_pos e2, e1, if_neg hc]); rw [e3]; exact x_36.imp id (fun r => r.far hc rfl rfl rfl rfl))⟩⟩

set_option maxHeartbeats 4000000 in
set_option maxRecDepth 100000 in
theorem y_entry1 {l : Launch} {G : tb_G} (hl : l.stackTraces = false) (n : Nat) (J : zJ)   (s m : Int) (g : zJ) (hI : TI J s m) (hw : ∀ k, 0 ≤ k → k < s → 1 ≤ J 171 (10 + k) ∧ J 171 (10 + k) ≤ 9) (hR : RelM J g) (h9 : g 0 4 = 0) (hS : SI g) : tz_Ok l G M_X12_entry1 15 0 0 [.ref 164] n J (zqv (fun J' => CL J' J ∧ (J' 171 = J 171 ∧ J' 164 44 = J 164 44) ∧ RelX J' (pEn g))) zN := by
  refine tz_Ok.of hl (by decide +kernel) rfl (tb_c1 rfl) (Nat.le_of_ble_eq_true rfl) ?_
  show tz_At l G M_X12_entry1 (tb_rm 15 0 0) none (tb_ZM G 0 0 (zQ n 0 (zqv (fun J' => CL J' J ∧ (J' 171 = J 171 ∧ J' 164 44 = J 164 44) ∧ RelX J' (pEn g)))) (zX n 0 zN)) 0 0 n J 0 [some (.ref 164), none] []
  obtain ⟨hM, h44, hP, hu, hL, h66⟩ := id hI
  have hT := hM.told
  have g0 := MRT.rf hM hP hu
  clear hu
  have hL9 : 0 ≤ J 165 135 ∧ J 165 135 ≤ 8 := hL.1.1
  have hL8 : 0 ≤ J 165 152 ∧ J 165 152 ≤ 12 := hL.2.2.1.1
  have hX : RelX J g := Or.inr hR
  have hb0 : J 164 43 = 0 := hR.1.trans h9
  have hE := (hR.2.2 h9).2
  have nx9 : pNx g = pN g := by unfold pNx; rw [if_pos h9]
  have fx9 : ∀ c, pFx g c = pF g c := fun c => by unfold pFx; rw [if_pos h9]
  refine tz_aload_n (pc := 0) dX12_entry1_0 rfl rfl ?_
  refine tz_aload_n (pc := 1) dX12_entry1_1 rfl rfl ?_
  refine tz_fR (pc := 2) dX12_entry1_2 fl_X12_9 r_164_0 ?_
  refine tz_sipush (pc := 5) dX12_entry1_5 (by decide) ?_
  refine tz_aL (pc := 8) (z := 152) (v := (J 165 152)) dX12_entry1_8 a_165 rfl (by decide) rfl (fun r_8 => ?_)
  refine tz_bipush (pc := 9) dX12_entry1_9 (by decide) ?_
  refine tz_icmp_ge (pc := 11) (tgt := 18) dX12_entry1_11 (by decide) (by omega) (by decide) (fun h_11 => ?_) (fun h_11 => ?_)
  · refine tz_iconst (pc := 18) dX12_entry1_18 ?_
    refine tz_iconst (pc := 19) dX12_entry1_19 ?_
    refine tz_cV (pc := 20) (z_wants hl n _ _ _ (by decide) (by decide) _ hX hb0 (g0).2.1 (by decide)) vl_X12_276 dX12_entry1_20 o_164 rfl rfl (Nat.le_of_ble_eq_true rfl) ⟨(Nat.le_of_ble_eq_true rfl), (Nat.le_of_ble_eq_true rfl)⟩ rfl rfl (Nat.le_of_ble_eq_true rfl) (Nat.le_of_ble_eq_true rfl) (fun r9 J_20 hq9 => ?_)
    obtain ⟨z_20, rfl, hz_20, w_20, o_20⟩ := hq9
    obtain ⟨rfl, v_20, x_20⟩ : z_20 = 0 ∧ ¬ J_20 164 43 = 0 ∧ RelX J_20 (pFx g 2) := by rcases o_20 with q | q; exact absurd rfl q.1; exact q.2
    have q_20 := MRT.w g0 w_20
    have s_20 := SI.fx (c := 2) hS
    clear o_20
    refine tz_if_neF (pc := 23) (tgt := 27) (by decide) dX12_entry1_23 (by decide) (by decide) ?_
    exact tz_vret (pc := 26) dX12_entry1_26 rfl (Nat.le_of_ble_eq_true rfl) (Nat.le_of_ble_eq_true rfl) ⟨Nat.le_refl _, Nat.le_add_right _ _⟩ ⟨rfl, ⟨CL.rt hI q_20, ⟨(q_20).c 171 rfl, (q_20).f 44 rfl⟩, by rw [show pEn g = pF g 2 from by unfold pEn; rw [if_neg (by rw [← hE.2.2.2.1 152 (by decide) (by decide)]; omega)], ← fx9]; exact x_20⟩⟩
  · refine tz_iconst (pc := 14) dX12_entry1_14 ?_
    refine tz_goto (pc := 15) (tgt := 19) dX12_entry1_15 (by decide) ?_
    refine tz_iconst (pc := 19) dX12_entry1_19 ?_
    refine tz_cV (pc := 20) (z_wants hl n _ _ _ (by decide) (by decide) _ hX hb0 (g0).2.1 (by decide)) vl_X12_276 dX12_entry1_20 o_164 rfl rfl (Nat.le_of_ble_eq_true rfl) ⟨(Nat.le_of_ble_eq_true rfl), (Nat.le_of_ble_eq_true rfl)⟩ rfl rfl (Nat.le_of_ble_eq_true rfl) (Nat.le_of_ble_eq_true rfl) (fun r9 J_20 hq9 => ?_)
    obtain ⟨z_20, rfl, hz_20, w_20, o_20⟩ := hq9
    obtain ⟨rfl, rfl⟩ : z_20 = 1 ∧ J = J_20 := by rcases o_20 with q | q; exact q.2; exact absurd q.1 (by decide)
    clear o_20
    refine tz_if_neT (pc := 23) (tgt := 27) (by decide) dX12_entry1_23 (by decide) (by decide) ?_
    refine tz_aload_n (pc := 27) dX12_entry1_27 rfl rfl ?_
    refine tz_cV (pc := 28) (z_go hl n _ _ hX hb0 hS (g0).2.1) vl_X12_280 dX12_entry1_28 o_164 rfl rfl (Nat.le_of_ble_eq_true rfl) ⟨(Nat.le_of_ble_eq_true rfl), (Nat.le_of_ble_eq_true rfl)⟩ rfl rfl (Nat.le_of_ble_eq_true rfl) (Nat.le_of_ble_eq_true rfl) (fun r9 J_28 hq9 => ?_)
    obtain ⟨rfl, w_28, x_28⟩ := hq9
    have q_28 := MRT.w g0 w_28
    have s_28 := SI.nx hS
    refine tz_aload_n (pc := 31) dX12_entry1_31 rfl rfl ?_
    refine tz_iconst (pc := 32) dX12_entry1_32 ?_
    refine tz_cV (pc := 33) (z_term1 hl n _ s m _ (q_28).1.1.1 (q_28).2.1 (q_28).2.2.2.2 (((q_28).f 44 rfl).trans h44) x_28 s_28) vl_X12_298 dX12_entry1_33 o_164 rfl rfl (Nat.le_of_ble_eq_true rfl) ⟨(Nat.le_of_ble_eq_true rfl), (Nat.le_of_ble_eq_true rfl)⟩ rfl rfl (Nat.le_of_ble_eq_true rfl) (Nat.le_of_ble_eq_true rfl) (fun r9 J_33 hq9 => ?_)
    obtain ⟨z_33, rfl, hz_33, m_33, w_33, h_33, x_33, y_33⟩ := hq9
    have q_33 := MRT.tr q_28 w_33
    have l_33 := w_33.1.1.2
    have s_33 := SI.t 8 _ 1 s_28
    refine tz_istore_n (pc := 36) (L2 := [_, _]) dX12_entry1_36 rfl (by decide) rfl ?_
    refine tz_aload_n (pc := 37) dX12_entry1_37 rfl rfl ?_
    refine tz_fI (pc := 38) (kz := 43) (v := (J_33 164 43)) dX12_entry1_38 fl_X12_273 i_164_43 rfl rfl (fun r_38 => ?_)
    refine tz_if_ne (pc := 41) (tgt := 93) dX12_entry1_41 (by decide) (by omega) (fun h_41 => ?_) (fun h_41 => ?_)
    · exact tz_vret (pc := 93) dX12_entry1_93 rfl (Nat.le_of_ble_eq_true rfl) (Nat.le_of_ble_eq_true rfl) ⟨Nat.le_refl _, Nat.le_add_right _ _⟩ ⟨rfl, ⟨CL.rt hI q_33, ⟨(q_33).c 171 rfl, (q_33).f 44 rfl⟩, by have lt9 : g 165 152 < 12 := (by rw [← hE.2.2.2.1 152 (by decide) (by decide)]; omega); have e1 : pR1 g = (pT 8 (pNx g) 1) := (by unfold pR1; rw [nx9]); have n9 := x_33.no (by omega); rw [show pEn g = (pT 8 (pNx g) 1).1 from by unfold pEn; rw [if_pos lt9, e1, if_neg n9]]; exact x_33⟩⟩
    · have ro33 : J_33 165 152 = J 165 152 := ((q_33).1.2.2.1.2.1 152 (by decide) rfl)
      have pe : (J_33 164 43 = 0) → ∀ hc : (pT 8 (pNx g) 1).1 0 4 = 0, fnB (fun k => decide (¬ J_33 165 (153 + k) = z_33)) (J_33 165 152) 0 = pey (pT 8 (pNx g) 1).1 (pT 8 (pNx g) 1).2 ∧ J_33 165 152 = (pT 8 (pNx g) 1).1 165 152 := fun _ hc => by have em := (x_33.tk hc).2.2.2.2.1; have e1 : J_33 165 152 = (pT 8 (pNx g) 1).1 165 152 := em 152 (by decide) (by decide); refine ⟨?_, e1⟩; unfold pey; rw [← y_33 hc, ← e1]; exact fnB_cg (fun j a b => by rw [em (153 + j) (by omega) (by omega)])
      refine tz_aload_n (pc := 44) dX12_entry1_44 rfl rfl ?_
      refine tz_aload_n (pc := 45) dX12_entry1_45 rfl rfl ?_
      refine tz_fI (pc := 46) (kz := 42) (v := (J_33 164 42)) dX12_entry1_46 fl_X12_258 i_164_42 rfl rfl (fun r_46 => ?_)
      refine tz_bipush (pc := 49) dX12_entry1_49 (by decide) ?_
      refine tz_icmp_ne (pc := 51) (tgt := 58) dX12_entry1_51 (by decide) (by omega) (by decide) (fun h_51 => ?_) (fun h_51 => ?_)
      · refine tz_iconst (pc := 58) dX12_entry1_58 ?_
        refine tz_iconst (pc := 59) dX12_entry1_59 ?_
        refine tz_cV (pc := 60) (z_wants hl n _ _ _ (by decide) (by decide) _ x_33 (by omega) (q_33).2.1 (by decide)) vl_X12_276 dX12_entry1_60 o_164 rfl rfl (Nat.le_of_ble_eq_true rfl) ⟨(Nat.le_of_ble_eq_true rfl), (Nat.le_of_ble_eq_true rfl)⟩ rfl rfl (Nat.le_of_ble_eq_true rfl) (Nat.le_of_ble_eq_true rfl) (fun r9 J_60 hq9 => ?_)
        obtain ⟨z_60, rfl, hz_60, w_60, o_60⟩ := hq9
        obtain ⟨rfl, v_60, x_60⟩ : z_60 = 0 ∧ ¬ J_60 164 43 = 0 ∧ RelX J_60 (pFx (pT 8 (pNx g) 1).1 1) := by rcases o_60 with q | q; exact absurd rfl q.1; exact q.2
        have q_60 := MRT.w q_33 w_60
        have s_60 := SI.fx (c := 1) s_33
        clear o_60
        refine tz_if_eqT (pc := 63) (tgt := 93) (by decide) dX12_entry1_63 (by decide) (by decide) ?_
        exact tz_vret (pc := 93) dX12_entry1_93 rfl (Nat.le_of_ble_eq_true rfl) (Nat.le_of_ble_eq_true rfl) ⟨Nat.le_refl _, Nat.le_add_right _ _⟩ ⟨rfl, ⟨CL.rt hI q_60, ⟨(q_60).c 171 rfl, (q_60).f 44 rfl⟩, by have lt9 : g 165 152 < 12 := (by rw [← hE.2.2.2.1 152 (by decide) (by decide)]; omega); have e1 : pR1 g = (pT 8 (pNx g) 1) := (by unfold pR1; rw [nx9]); have e2 : pEn g = pFx (pT 8 (pNx g) 1).1 1 := (by unfold pEn pFx; rw [if_pos lt9, e1]; rcases x_33.bad h_41 with hc | ⟨hc, r⟩; rw [if_neg (by omega), if_neg (by omega)]; rw [if_pos hc, if_pos hc, if_neg (by have := (r.2.2 hc).1.sg (c := 59) (by decide); omega)]); rw [e2]; exact x_60⟩⟩
      · refine tz_iconst (pc := 54) dX12_entry1_54 ?_
        refine tz_goto (pc := 55) (tgt := 59) dX12_entry1_55 (by decide) ?_
        refine tz_iconst (pc := 59) dX12_entry1_59 ?_
        refine tz_cV (pc := 60) (z_wants hl n _ _ _ (by decide) (by decide) _ x_33 (by omega) (q_33).2.1 (by decide)) vl_X12_276 dX12_entry1_60 o_164 rfl rfl (Nat.le_of_ble_eq_true rfl) ⟨(Nat.le_of_ble_eq_true rfl), (Nat.le_of_ble_eq_true rfl)⟩ rfl rfl (Nat.le_of_ble_eq_true rfl) (Nat.le_of_ble_eq_true rfl) (fun r9 J_60 hq9 => ?_)
        obtain ⟨z_60, rfl, hz_60, w_60, o_60⟩ := hq9
        obtain ⟨rfl, rfl⟩ : z_60 = 1 ∧ J_33 = J_60 := by rcases o_60 with q | q; exact q.2; exact absurd q.1 (by decide)
        clear o_60
        refine tz_if_eqF (pc := 63) (tgt := 93) (by decide) dX12_entry1_63 (by decide) (by decide) ?_
        refine tz_aload_n (pc := 66) dX12_entry1_66 rfl rfl ?_
        refine tz_aload_n (pc := 67) dX12_entry1_67 rfl rfl ?_
        refine tz_iload_n (pc := 68) dX12_entry1_68 rfl rfl ?_
        have ro_69 : J_33 165 152 = J 165 152 := ((q_33).1.2.2.1.2.1 152 (by decide) rfl)
        refine tz_cV (pc := 69) (x_entryOf hl n _ _ (by omega) (q_33).1.1.1.2.2.1 (by rw [ro_69]; omega)) vl_X12_307 dX12_entry1_69 o_164 rfl rfl (Nat.le_of_ble_eq_true rfl) ⟨(Nat.le_of_ble_eq_true rfl), (Nat.le_of_ble_eq_true rfl)⟩ rfl rfl (Nat.le_of_ble_eq_true rfl) (Nat.le_of_ble_eq_true rfl) (fun r9 J_69 hq9 => ?_)
        obtain ⟨z_69, rfl, hz_69, rfl, he_69⟩ := hq9
        refine tz_iconst (pc := 72) dX12_entry1_72 ?_
        refine tz_icmp_ne (pc := 73) (tgt := 80) dX12_entry1_73 (by decide) (by omega) (by decide) (fun h_73 => ?_) (fun h_73 => ?_)
        · refine tz_iconst (pc := 80) dX12_entry1_80 ?_
          refine tz_iconst (pc := 81) dX12_entry1_81 ?_
          refine tz_cV (pc := 82) (z_wants hl n _ _ _ (by decide) (by decide) _ x_33 (by omega) (q_33).2.1 (by decide)) vl_X12_276 dX12_entry1_82 o_164 rfl rfl (Nat.le_of_ble_eq_true rfl) ⟨(Nat.le_of_ble_eq_true rfl), (Nat.le_of_ble_eq_true rfl)⟩ rfl rfl (Nat.le_of_ble_eq_true rfl) (Nat.le_of_ble_eq_true rfl) (fun r9 J_82 hq9 => ?_)
          obtain ⟨z_82, rfl, hz_82, w_82, o_82⟩ := hq9
          obtain ⟨rfl, v_82, x_82⟩ : z_82 = 0 ∧ ¬ J_82 164 43 = 0 ∧ RelX J_82 (pFx (pT 8 (pNx g) 1).1 5) := by rcases o_82 with q | q; exact absurd rfl q.1; exact q.2
          have q_82 := MRT.w q_33 w_82
          have s_82 := SI.fx (c := 5) s_33
          clear o_82
          refine tz_if_eqT (pc := 85) (tgt := 93) (by decide) dX12_entry1_85 (by decide) (by decide) ?_
          exact tz_vret (pc := 93) dX12_entry1_93 rfl (Nat.le_of_ble_eq_true rfl) (Nat.le_of_ble_eq_true rfl) ⟨Nat.le_refl _, Nat.le_add_right _ _⟩ ⟨rfl, ⟨CL.rt hI q_82, ⟨(q_82).c 171 rfl, (q_82).f 44 rfl⟩, by have lt9 : g 165 152 < 12 := (by rw [← hE.2.2.2.1 152 (by decide) (by decide)]; omega); have e1 : pR1 g = (pT 8 (pNx g) 1) := (by unfold pR1; rw [nx9]); have e2 : pEn g = pFx (pT 8 (pNx g) 1).1 5 := (by unfold pEn pFx; rw [if_pos lt9, e1]; rcases x_33.bad h_41 with hc | ⟨hc, r⟩; rw [if_neg (by omega), if_neg (by omega)]; rw [if_pos hc, if_pos hc, if_pos ((r.2.2 hc).1.sg (c := 59) (by decide) |>.1 (by omega)), if_pos (by have p1 := pe h_41 hc; omega)]); rw [e2]; exact x_82⟩⟩
        · refine tz_iconst (pc := 76) dX12_entry1_76 ?_
          refine tz_goto (pc := 77) (tgt := 81) dX12_entry1_77 (by decide) ?_
          refine tz_iconst (pc := 81) dX12_entry1_81 ?_
          refine tz_cV (pc := 82) (z_wants hl n _ _ _ (by decide) (by decide) _ x_33 (by omega) (q_33).2.1 (by decide)) vl_X12_276 dX12_entry1_82 o_164 rfl rfl (Nat.le_of_ble_eq_true rfl) ⟨(Nat.le_of_ble_eq_true rfl), (Nat.le_of_ble_eq_true rfl)⟩ rfl rfl (Nat.le_of_ble_eq_true rfl) (Nat.le_of_ble_eq_true rfl) (fun r9 J_82 hq9 => ?_)
          obtain ⟨z_82, rfl, hz_82, w_82, o_82⟩ := hq9
          obtain ⟨rfl, rfl⟩ : z_82 = 1 ∧ J_33 = J_82 := by rcases o_82 with q | q; exact q.2; exact absurd q.1 (by decide)
          clear o_82
          refine tz_if_eqF (pc := 85) (tgt := 93) (by decide) dX12_entry1_85 (by decide) (by decide) ?_
          refine tz_aload_n (pc := 88) dX12_entry1_88 rfl rfl ?_
          refine tz_iload_n (pc := 89) dX12_entry1_89 rfl rfl ?_
          have hv9 := h_33 h_41
          have ro9_90 : J_33 165 (126 + 26) = J 165 152 := ((q_33).1.2.2.1.2.1 152 (by decide) rfl)
          refine tz_cV (pc := 90) (m_enters1 hl n _ _ (by omega) 126 (q_33).1.1.1.2.2.1 (by decide) (by omega)) vl_X12_310 dX12_entry1_90 o_164 rfl rfl (Nat.le_of_ble_eq_true rfl) ⟨(Nat.le_of_ble_eq_true rfl), (Nat.le_of_ble_eq_true rfl)⟩ rfl rfl (Nat.le_of_ble_eq_true rfl) (Nat.le_of_ble_eq_true rfl) (fun r9 J_90 hq9 => ?_)
          obtain ⟨rfl, hr_90⟩ := hq9
          exact tz_vret (pc := 93) dX12_entry1_93 rfl (Nat.le_of_ble_eq_true rfl) (Nat.le_of_ble_eq_true rfl) ⟨Nat.le_refl _, Nat.le_add_right _ _⟩ ⟨rfl, ⟨by rw [← hr_90]; exact CL.tr (CL.en (hI.rt q_33) (by omega) hv9) (CL.rt hI q_33), by rw [← hr_90]; exact ⟨(q_33).c 171 rfl, (q_33).f 44 rfl⟩, by have lt9 : g 165 152 < 12 := (by rw [← hE.2.2.2.1 152 (by decide) (by decide)]; omega); have e1 : pR1 g = (pT 8 (pNx g) 1) := (by unfold pR1; rw [nx9]); rcases x_33.bad h_41 with hc | ⟨hc, r⟩; (have e2 : pEn g = (pT 8 (pNx g) 1).1 := (by unfold pEn; rw [if_pos lt9, e1, if_neg (by omega)]); rw [e2]; exact Or.inl hc); (have p1 := pe h_41 hc; have e2 : pEn g = zen (pT 8 (pNx g) 1).1 126 z_33 := (by unfold pEn; rw [if_pos lt9, e1, if_pos hc, if_pos ((r.2.2 hc).1.sg (c := 59) (by decide) |>.1 (by omega)), if_neg (by omega), ← y_33 hc]); rw [e2, ← hr_90]; exact Or.inr (r.en hc))⟩⟩

theorem pFx_0 {g : zJ} {c : Int} (h : g 0 4 = 0) : pFx g c = pF g c := by unfold pFx; rw [if_pos h]
theorem pFx_1 {g : zJ} {c : Int} (h : ¬ g 0 4 = 0) : pFx g c = g := by unfold pFx; rw [if_neg h]
theorem toA {J g : zJ} (h : RelX J g) (hb : J 164 43 = 0) (hw : J 164 40 = 5) : pTo g = pNx g := by
  unfold pTo pNx
  rcases h.bad hb with q | ⟨q, r⟩
  · rw [if_neg (by omega), if_neg (by omega)]
  · rw [if_pos q, if_pos q]
    refine cif_pos ?_
    obtain ⟨_, _, h3⟩ := (r.2.2 q).1
    rcases h3 with u | u | u | u | u
    · omega
    · refine ⟨u.1, ?_⟩
      have wd := u.2.2.2.2
      rw [hw] at wd
      unfold WD at wd
      rcases wd with ⟨_, e⟩ | ⟨_, ⟨_, e⟩ | ⟨_, ⟨_, e⟩ | ⟨_, ⟨_, e⟩ | ⟨_, ⟨_, e⟩ | ⟨_, ⟨e, _⟩ | ⟨_, e⟩⟩⟩⟩⟩⟩
      · omega
      · omega
      · omega
      · omega
      · omega
      · exact e
      · omega
    · omega
    · omega
    · omega
theorem toB {J g : zJ} (h : RelX J g) (hb : J 164 43 = 0) (hw : ¬ J 164 40 = 5) : pTo g = pFx g 1 := by
  unfold pTo pFx
  rcases h.bad hb with q | ⟨q, r⟩
  · rw [if_neg (by omega), if_neg (by omega)]
  · rw [if_pos q, if_pos q]
    refine cif_neg (fun p => ?_)
    obtain ⟨_, _, h3⟩ := (r.2.2 q).1
    have p1 := p.1
    rcases h3 with u | u | u | u | u
    · omega
    · have wd := u.2.2.2.2
      unfold WD at wd
      rcases wd with ⟨m0, e⟩ | ⟨_, ⟨m0, e⟩ | ⟨_, ⟨m0, e⟩ | ⟨_, ⟨m0, e⟩ | ⟨_, ⟨m0, e⟩ | ⟨_, ⟨_, e⟩ | ⟨n0, _⟩⟩⟩⟩⟩⟩
      · have a1 : g 0 2 = g 0 1 + 6 := m0.2
        have a2 : g 0 2 = g 0 1 + 2 := p.2.2
        omega
      · have a1 : g 0 2 = g 0 1 + 4 := m0.2
        have a2 : g 0 2 = g 0 1 + 2 := p.2.2
        omega
      · have a1 : g 0 2 = g 0 1 + 4 := m0.2
        have a2 : g 0 2 = g 0 1 + 2 := p.2.2
        omega
      · have a1 : g 0 2 = g 0 1 + 5 := m0.2
        have a2 : g 0 2 = g 0 1 + 2 := p.2.2
        omega
      · have a1 : g 0 2 = g 0 1 + 4 := m0.2
        have a2 : g 0 2 = g 0 1 + 2 := p.2.2
        omega
      · exact hw e
      · exact n0 p.2
    · omega
    · omega
    · omega
theorem toC {g : zJ} (h : ¬ g 0 4 = 0) : pTo g = g := by unfold pTo; rw [if_neg h]
set_option maxHeartbeats 4000000 in
set_option maxRecDepth 100000 in
theorem y_rule1 {l : Launch} {G : tb_G} (hl : l.stackTraces = false) (n : Nat) (J : zJ)   (s m : Int) (g : zJ) (hI : TI J s m) (hw : ∀ k, 0 ≤ k → k < s → 1 ≤ J 171 (10 + k) ∧ J 171 (10 + k) ≤ 9) (hR : RelM J g) (h9 : g 0 4 = 0) (hS : SI g) : tz_Ok l G M_X12_rule1 21 0 0 [.ref 164] n J (zqv (fun J' => CL J' J ∧ (J' 171 = J 171 ∧ J' 164 44 = J 164 44) ∧ RelX J' (pRu g))) zN := by
  refine tz_Ok.of hl (by decide +kernel) rfl (tb_c1 rfl) (Nat.le_of_ble_eq_true rfl) ?_
  show tz_At l G M_X12_rule1 (tb_rm 21 0 0) none (tb_ZM G 0 0 (zQ n 0 (zqv (fun J' => CL J' J ∧ (J' 171 = J 171 ∧ J' 164 44 = J 164 44) ∧ RelX J' (pRu g)))) (zX n 0 zN)) 0 0 n J 0 [some (.ref 164), none, none] []
  obtain ⟨hM, h44, hP, hu, hL, h66⟩ := id hI
  have hT := hM.told
  have g0 := MRT.rf hM hP hu
  clear hu
  have hL9 : 0 ≤ J 165 135 ∧ J 165 135 ≤ 8 := hL.1.1
  have hL8 : 0 ≤ J 165 152 ∧ J 165 152 ≤ 12 := hL.2.2.1.1
  have hX : RelX J g := Or.inr hR
  have hb0 : J 164 43 = 0 := hR.1.trans h9
  have hE := (hR.2.2 h9).2
  have nx9 : pNx g = pN g := by unfold pNx; rw [if_pos h9]
  have fx9 : ∀ c, pFx g c = pF g c := fun c => by unfold pFx; rw [if_pos h9]
  refine tz_aload_n (pc := 0) dX12_rule1_0 rfl rfl ?_
  refine tz_aload_n (pc := 1) dX12_rule1_1 rfl rfl ?_
  refine tz_fR (pc := 2) dX12_rule1_2 fl_X12_9 r_164_0 ?_
  refine tz_sipush (pc := 5) dX12_rule1_5 (by decide) ?_
  refine tz_aL (pc := 8) (z := 135) (v := (J 165 135)) dX12_rule1_8 a_165 rfl (by decide) rfl (fun r_8 => ?_)
  refine tz_bipush (pc := 9) dX12_rule1_9 (by decide) ?_
  refine tz_icmp_ge (pc := 11) (tgt := 18) dX12_rule1_11 (by decide) (by omega) (by decide) (fun h_11 => ?_) (fun h_11 => ?_)
  · refine tz_iconst (pc := 18) dX12_rule1_18 ?_
    refine tz_iconst (pc := 19) dX12_rule1_19 ?_
    refine tz_cV (pc := 20) (z_wants hl n _ _ _ (by decide) (by decide) _ hX hb0 (g0).2.1 (by decide)) vl_X12_276 dX12_rule1_20 o_164 rfl rfl (Nat.le_of_ble_eq_true rfl) ⟨(Nat.le_of_ble_eq_true rfl), (Nat.le_of_ble_eq_true rfl)⟩ rfl rfl (Nat.le_of_ble_eq_true rfl) (Nat.le_of_ble_eq_true rfl) (fun r9 J_20 hq9 => ?_)
    obtain ⟨z_20, rfl, hz_20, w_20, o_20⟩ := hq9
    obtain ⟨rfl, v_20, x_20⟩ : z_20 = 0 ∧ ¬ J_20 164 43 = 0 ∧ RelX J_20 (pFx g 2) := by rcases o_20 with q | q; exact absurd rfl q.1; exact q.2
    have q_20 := MRT.w g0 w_20
    have s_20 := SI.fx (c := 2) hS
    clear o_20
    refine tz_if_neF (pc := 23) (tgt := 27) (by decide) dX12_rule1_23 (by decide) (by decide) ?_
    exact tz_vret (pc := 26) dX12_rule1_26 rfl (Nat.le_of_ble_eq_true rfl) (Nat.le_of_ble_eq_true rfl) ⟨Nat.le_refl _, Nat.le_add_right _ _⟩ ⟨rfl, ⟨CL.rt hI q_20, ⟨(q_20).c 171 rfl, (q_20).f 44 rfl⟩, by rw [show pRu g = pF g 2 from by unfold pRu; rw [if_neg (by rw [← hE.2.2.2.1 135 (by decide) (by decide)]; omega)], ← fx9]; exact x_20⟩⟩
  · refine tz_iconst (pc := 14) dX12_rule1_14 ?_
    refine tz_goto (pc := 15) (tgt := 19) dX12_rule1_15 (by decide) ?_
    refine tz_iconst (pc := 19) dX12_rule1_19 ?_
    refine tz_cV (pc := 20) (z_wants hl n _ _ _ (by decide) (by decide) _ hX hb0 (g0).2.1 (by decide)) vl_X12_276 dX12_rule1_20 o_164 rfl rfl (Nat.le_of_ble_eq_true rfl) ⟨(Nat.le_of_ble_eq_true rfl), (Nat.le_of_ble_eq_true rfl)⟩ rfl rfl (Nat.le_of_ble_eq_true rfl) (Nat.le_of_ble_eq_true rfl) (fun r9 J_20 hq9 => ?_)
    obtain ⟨z_20, rfl, hz_20, w_20, o_20⟩ := hq9
    obtain ⟨rfl, rfl⟩ : z_20 = 1 ∧ J = J_20 := by rcases o_20 with q | q; exact q.2; exact absurd q.1 (by decide)
    clear o_20
    refine tz_if_neT (pc := 23) (tgt := 27) (by decide) dX12_rule1_23 (by decide) (by decide) ?_
    refine tz_aload_n (pc := 27) dX12_rule1_27 rfl rfl ?_
    refine tz_cV (pc := 28) (z_go hl n _ _ hX hb0 hS (g0).2.1) vl_X12_280 dX12_rule1_28 o_164 rfl rfl (Nat.le_of_ble_eq_true rfl) ⟨(Nat.le_of_ble_eq_true rfl), (Nat.le_of_ble_eq_true rfl)⟩ rfl rfl (Nat.le_of_ble_eq_true rfl) (Nat.le_of_ble_eq_true rfl) (fun r9 J_28 hq9 => ?_)
    obtain ⟨rfl, w_28, x_28⟩ := hq9
    have q_28 := MRT.w g0 w_28
    have s_28 := SI.nx hS
    refine tz_aload_n (pc := 31) dX12_rule1_31 rfl rfl ?_
    refine tz_iconst (pc := 32) dX12_rule1_32 ?_
    refine tz_cV (pc := 33) (z_term1 hl n _ s m _ (q_28).1.1.1 (q_28).2.1 (q_28).2.2.2.2 (((q_28).f 44 rfl).trans h44) x_28 s_28) vl_X12_298 dX12_rule1_33 o_164 rfl rfl (Nat.le_of_ble_eq_true rfl) ⟨(Nat.le_of_ble_eq_true rfl), (Nat.le_of_ble_eq_true rfl)⟩ rfl rfl (Nat.le_of_ble_eq_true rfl) (Nat.le_of_ble_eq_true rfl) (fun r9 J_33 hq9 => ?_)
    obtain ⟨z_33, rfl, hz_33, m_33, w_33, h_33, x_33, y_33⟩ := hq9
    have q_33 := MRT.tr q_28 w_33
    have l_33 := w_33.1.1.2
    have s_33 := SI.t 8 _ 1 s_28
    refine tz_istore_n (pc := 36) (L2 := [_, _, _]) dX12_rule1_36 rfl (by decide) rfl ?_
    refine tz_aload_n (pc := 37) dX12_rule1_37 rfl rfl ?_
    refine tz_fI (pc := 38) (kz := 43) (v := (J_33 164 43)) dX12_rule1_38 fl_X12_273 i_164_43 rfl rfl (fun r_38 => ?_)
    refine tz_if_ne (pc := 41) (tgt := 69) dX12_rule1_41 (by decide) (by omega) (fun h_41 => ?_) (fun h_41 => ?_)
    · refine tz_aload_n (pc := 69) dX12_rule1_69 rfl rfl ?_
      refine tz_iconst (pc := 70) dX12_rule1_70 ?_
      refine tz_cV (pc := 71) (z_term1 hl n _ s m_33 _ (q_33).1.1.1 (q_33).2.1 (q_33).2.2.2.2 (((q_33).f 44 rfl).trans h44) x_33 s_33) vl_X12_298 dX12_rule1_71 o_164 rfl rfl (Nat.le_of_ble_eq_true rfl) ⟨(Nat.le_of_ble_eq_true rfl), (Nat.le_of_ble_eq_true rfl)⟩ rfl rfl (Nat.le_of_ble_eq_true rfl) (Nat.le_of_ble_eq_true rfl) (fun r9 J_71 hq9 => ?_)
      obtain ⟨z_71, rfl, hz_71, m_71, w_71, h_71, x_71, y_71⟩ := hq9
      have q_71 := MRT.tr q_33 w_71
      have l_71 := w_71.1.1.2
      have s_71 := SI.t 8 _ 1 s_33
      have t9 : pTo (pT 8 (pNx g) 1).1 = (pT 8 (pNx g) 1).1 := toC (x_33.no (by omega))
      refine tz_istore_n (pc := 74) (L2 := [_, _, _]) dX12_rule1_74 rfl (by decide) rfl ?_
      refine tz_aload_n (pc := 75) dX12_rule1_75 rfl rfl ?_
      refine tz_fI (pc := 76) (kz := 43) (v := (J_71 164 43)) dX12_rule1_76 fl_X12_273 i_164_43 rfl rfl (fun r_76 => ?_)
      refine tz_if_ne (pc := 79) (tgt := 118) dX12_rule1_79 (by decide) (by omega) (fun h_79 => ?_) (fun h_79 => ?_)
      · exact tz_vret (pc := 118) dX12_rule1_118 rfl (Nat.le_of_ble_eq_true rfl) (Nat.le_of_ble_eq_true rfl) ⟨Nat.le_refl _, Nat.le_add_right _ _⟩ ⟨rfl, ⟨CL.rt hI q_71, ⟨(q_71).c 171 rfl, (q_71).f 44 rfl⟩, by have lt9 : g 165 135 < 8 := (by rw [← hE.2.2.2.1 135 (by decide) (by decide)]; omega); have e1 : pR1 g = (pT 8 (pNx g) 1) := (by unfold pR1; rw [nx9]); have e2 : pR2 g = (pT 8 (pT 8 (pNx g) 1).1 1) := (by unfold pR2; rw [e1, t9]); have n9 := x_71.no (by omega); rw [show pRu g = (pT 8 (pT 8 (pNx g) 1).1 1).1 from by unfold pRu; rw [if_pos lt9, e2, if_neg n9]]; exact x_71⟩⟩
      · refine tz_aload_n (pc := 82) dX12_rule1_82 rfl rfl ?_
        refine tz_aload_n (pc := 83) dX12_rule1_83 rfl rfl ?_
        refine tz_fI (pc := 84) (kz := 42) (v := (J_71 164 42)) dX12_rule1_84 fl_X12_258 i_164_42 rfl rfl (fun r_84 => ?_)
        refine tz_bipush (pc := 87) dX12_rule1_87 (by decide) ?_
        refine tz_icmp_ne (pc := 89) (tgt := 96) dX12_rule1_89 (by decide) (by omega) (by decide) (fun h_89 => ?_) (fun h_89 => ?_)
        · refine tz_iconst (pc := 96) dX12_rule1_96 ?_
          refine tz_iconst (pc := 97) dX12_rule1_97 ?_
          refine tz_cV (pc := 98) (z_wants hl n _ _ _ (by decide) (by decide) _ x_71 (by omega) (q_71).2.1 (by decide)) vl_X12_276 dX12_rule1_98 o_164 rfl rfl (Nat.le_of_ble_eq_true rfl) ⟨(Nat.le_of_ble_eq_true rfl), (Nat.le_of_ble_eq_true rfl)⟩ rfl rfl (Nat.le_of_ble_eq_true rfl) (Nat.le_of_ble_eq_true rfl) (fun r9 J_98 hq9 => ?_)
          obtain ⟨z_98, rfl, hz_98, w_98, o_98⟩ := hq9
          obtain ⟨rfl, v_98, x_98⟩ : z_98 = 0 ∧ ¬ J_98 164 43 = 0 ∧ RelX J_98 (pFx (pT 8 (pT 8 (pNx g) 1).1 1).1 1) := by rcases o_98 with q | q; exact absurd rfl q.1; exact q.2
          have q_98 := MRT.w q_71 w_98
          have s_98 := SI.fx (c := 1) s_71
          clear o_98
          refine tz_if_eqT (pc := 101) (tgt := 118) (by decide) dX12_rule1_101 (by decide) (by decide) ?_
          exact tz_vret (pc := 118) dX12_rule1_118 rfl (Nat.le_of_ble_eq_true rfl) (Nat.le_of_ble_eq_true rfl) ⟨Nat.le_refl _, Nat.le_add_right _ _⟩ ⟨rfl, ⟨CL.rt hI q_98, ⟨(q_98).c 171 rfl, (q_98).f 44 rfl⟩, by have lt9 : g 165 135 < 8 := (by rw [← hE.2.2.2.1 135 (by decide) (by decide)]; omega); have e1 : pR1 g = (pT 8 (pNx g) 1) := (by unfold pR1; rw [nx9]); have e2 : pR2 g = (pT 8 (pT 8 (pNx g) 1).1 1) := (by unfold pR2; rw [e1, t9]); have e3 : pRu g = pFx (pT 8 (pT 8 (pNx g) 1).1 1).1 1 := (by unfold pRu; rw [if_pos lt9, e2]; rcases x_71.bad h_79 with hc | ⟨hc, r⟩; rw [if_neg (by omega), pFx_1 (g := (pT 8 (pT 8 (pNx g) 1).1 1).1) (c := 1) (by omega)]; rw [if_pos hc, pFx_0 (g := (pT 8 (pT 8 (pNx g) 1).1 1).1) (c := 1) hc, if_neg (by have := (r.2.2 hc).1.sg (c := 59) (by decide); omega)]); rw [e3]; exact x_98⟩⟩
        · refine tz_iconst (pc := 92) dX12_rule1_92 ?_
          refine tz_goto (pc := 93) (tgt := 97) dX12_rule1_93 (by decide) ?_
          refine tz_iconst (pc := 97) dX12_rule1_97 ?_
          refine tz_cV (pc := 98) (z_wants hl n _ _ _ (by decide) (by decide) _ x_71 (by omega) (q_71).2.1 (by decide)) vl_X12_276 dX12_rule1_98 o_164 rfl rfl (Nat.le_of_ble_eq_true rfl) ⟨(Nat.le_of_ble_eq_true rfl), (Nat.le_of_ble_eq_true rfl)⟩ rfl rfl (Nat.le_of_ble_eq_true rfl) (Nat.le_of_ble_eq_true rfl) (fun r9 J_98 hq9 => ?_)
          obtain ⟨z_98, rfl, hz_98, w_98, o_98⟩ := hq9
          obtain ⟨rfl, rfl⟩ : z_98 = 1 ∧ J_71 = J_98 := by rcases o_98 with q | q; exact q.2; exact absurd q.1 (by decide)
          clear o_98
          refine tz_if_eqF (pc := 101) (tgt := 118) (by decide) dX12_rule1_101 (by decide) (by decide) ?_
          refine tz_aload_n (pc := 104) dX12_rule1_104 rfl rfl ?_
          refine tz_aload_n (pc := 105) dX12_rule1_105 rfl rfl ?_
          refine tz_iload_n (pc := 106) dX12_rule1_106 rfl rfl ?_
          refine tz_iload_n (pc := 107) dX12_rule1_107 rfl rfl ?_
          have hb_71 : J_71 164 43 = 0 := h_79
          have hb_33 := w_71.2.2.1 hb_71
          have hv1 := h_33 hb_33
          have hv2 := h_71 hb_71
          have hl9 : m_33 ≤ m_71 := by have := l_71; omega
          have hwc : ∀ k, 0 ≤ k → k < s → 1 ≤ J_71 171 (10 + k) ∧ J_71 171 (10 + k) ≤ 9 := fun k a b => by rw [(q_71).c 171 rfl]; exact hw k a b
          refine tz_cV (pc := 108) (x_isRule hl n _ _ _ (by omega) (by omega) 800 126 10 s m_71 (q_71).1.1.1 (by omega) (by omega) hwc) vl_X12_301 dX12_rule1_108 o_164 rfl rfl (Nat.le_of_ble_eq_true rfl) ⟨(Nat.le_of_ble_eq_true rfl), (Nat.le_of_ble_eq_true rfl)⟩ rfl rfl (Nat.le_of_ble_eq_true rfl) (Nat.le_of_ble_eq_true rfl) (fun r9 J_108 hq9 => ?_)
          obtain ⟨z_108, rfl, hz_108, rfl, hz_r⟩ := hq9
          rcases hz_r with ⟨rfl, hru⟩ | ⟨rfl, hru⟩
          · refine tz_iconst (pc := 111) dX12_rule1_111 ?_
            refine tz_cV (pc := 112) (z_wants hl n _ _ _ (by decide) (by decide) _ x_71 (by omega) (q_71).2.1 (by decide)) vl_X12_276 dX12_rule1_112 o_164 rfl rfl (Nat.le_of_ble_eq_true rfl) ⟨(Nat.le_of_ble_eq_true rfl), (Nat.le_of_ble_eq_true rfl)⟩ rfl rfl (Nat.le_of_ble_eq_true rfl) (Nat.le_of_ble_eq_true rfl) (fun r9 J_112 hq9 => ?_)
            obtain ⟨z_112, rfl, hz_112, w_112, o_112⟩ := hq9
            obtain ⟨rfl, rfl⟩ : z_112 = 1 ∧ J_71 = J_112 := by rcases o_112 with q | q; exact q.2; exact absurd q.1 (by decide)
            clear o_112
            refine tz_if_neT (pc := 115) (tgt := 119) (by decide) dX12_rule1_115 (by decide) (by decide) ?_
            refine tz_aload_n (pc := 119) dX12_rule1_119 rfl rfl ?_
            refine tz_iload_n (pc := 120) dX12_rule1_120 rfl rfl ?_
            refine tz_iload_n (pc := 121) dX12_rule1_121 rfl rfl ?_
            have ro_122 : J_71 165 (126 + 9) = J 165 135 := ((q_71).1.2.2.1.2.1 135 (by decide) rfl)
            refine tz_cV (pc := 122) (m_rules1 hl n _ _ _ (by omega) (by omega) 126 (q_71).1.1.1.2.2.1 (by decide) (by omega)) vl_X12_304 dX12_rule1_122 o_164 rfl rfl (Nat.le_of_ble_eq_true rfl) ⟨(Nat.le_of_ble_eq_true rfl), (Nat.le_of_ble_eq_true rfl)⟩ rfl rfl (Nat.le_of_ble_eq_true rfl) (Nat.le_of_ble_eq_true rfl) (fun r9 J_122 hq9 => ?_)
            obtain ⟨rfl, hr_122⟩ := hq9
            exact tz_vret (pc := 125) dX12_rule1_125 rfl (Nat.le_of_ble_eq_true rfl) (Nat.le_of_ble_eq_true rfl) ⟨Nat.le_refl _, Nat.le_add_right _ _⟩ ⟨rfl, ⟨by rw [← hr_122]; exact CL.tr (CL.rl (hI.rt q_71) (by omega) (by omega) (by omega)) (CL.rt hI q_71), by rw [← hr_122]; exact ⟨(q_71).c 171 rfl, (q_71).f 44 rfl⟩, by have lt9 : g 165 135 < 8 := (by rw [← hE.2.2.2.1 135 (by decide) (by decide)]; omega); have e1 : pR1 g = (pT 8 (pNx g) 1) := (by unfold pR1; rw [nx9]); have e2 : pR2 g = (pT 8 (pT 8 (pNx g) 1).1 1) := (by unfold pR2; rw [e1, t9]); rcases x_71.bad h_79 with hc | ⟨hc, r⟩; (have e3 : pRu g = (pT 8 (pT 8 (pNx g) 1).1 1).1 := (by unfold pRu; rw [if_pos lt9, e2, if_neg (by omega)]); rw [e3]; exact Or.inl hc); (have v1 : z_33 = (pT 8 (pNx g) 1).2 := y_33 (Classical.byContradiction (fun e => absurd hc (by show ¬ (pT 8 (pT 8 (pNx g) 1).1 1).1 0 4 = 0; rw [show (pT 8 (pT 8 (pNx g) 1).1 1) = ((pT 8 (pNx g) 1).1, 0) from (by rw [← t9, toC e]; exact pT_f e)]; exact e))); have v2 := y_71 hc; have e3 : pRu g = zrl (pT 8 (pT 8 (pNx g) 1).1 1).1 126 z_33 z_71 := (by unfold pRu; rw [if_pos lt9, e2, if_pos hc, if_pos ((r.2.2 hc).1.sg (c := 59) (by decide) |>.1 (by omega)), e1, ← v1, ← v2]; exact cif_pos ((mru_em (q_71).1.1.1 (r.2.2 hc).2 (by omega) (by omega)).1 hru)); rw [e3, ← hr_122]; exact Or.inr (r.rl hc (show 0 ≤ J_71 165 (126 + 9) ∧ J_71 165 (126 + 9) < 8 by omega)))⟩⟩
          · refine tz_iconst (pc := 111) dX12_rule1_111 ?_
            refine tz_cV (pc := 112) (z_wants hl n _ _ _ (by decide) (by decide) _ x_71 (by omega) (q_71).2.1 (by decide)) vl_X12_276 dX12_rule1_112 o_164 rfl rfl (Nat.le_of_ble_eq_true rfl) ⟨(Nat.le_of_ble_eq_true rfl), (Nat.le_of_ble_eq_true rfl)⟩ rfl rfl (Nat.le_of_ble_eq_true rfl) (Nat.le_of_ble_eq_true rfl) (fun r9 J_112 hq9 => ?_)
            obtain ⟨z_112, rfl, hz_112, w_112, o_112⟩ := hq9
            obtain ⟨rfl, v_112, x_112⟩ : z_112 = 0 ∧ ¬ J_112 164 43 = 0 ∧ RelX J_112 (pFx (pT 8 (pT 8 (pNx g) 1).1 1).1 5) := by rcases o_112 with q | q; exact absurd rfl q.1; exact q.2
            have q_112 := MRT.w q_71 w_112
            have s_112 := SI.fx (c := 5) s_71
            clear o_112
            refine tz_if_neF (pc := 115) (tgt := 119) (by decide) dX12_rule1_115 (by decide) (by decide) ?_
            exact tz_vret (pc := 118) dX12_rule1_118 rfl (Nat.le_of_ble_eq_true rfl) (Nat.le_of_ble_eq_true rfl) ⟨Nat.le_refl _, Nat.le_add_right _ _⟩ ⟨rfl, ⟨CL.rt hI q_112, ⟨(q_112).c 171 rfl, (q_112).f 44 rfl⟩, by have lt9 : g 165 135 < 8 := (by rw [← hE.2.2.2.1 135 (by decide) (by decide)]; omega); have e1 : pR1 g = (pT 8 (pNx g) 1) := (by unfold pR1; rw [nx9]); have e2 : pR2 g = (pT 8 (pT 8 (pNx g) 1).1 1) := (by unfold pR2; rw [e1, t9]); have e3 : pRu g = pFx (pT 8 (pT 8 (pNx g) 1).1 1).1 5 := (by unfold pRu; rw [if_pos lt9, e2]; rcases x_71.bad h_79 with hc | ⟨hc, r⟩; rw [if_neg (by omega), pFx_1 (g := (pT 8 (pT 8 (pNx g) 1).1 1).1) (c := 5) (by omega)]; (have v1 : z_33 = (pT 8 (pNx g) 1).2 := y_33 (Classical.byContradiction (fun e => absurd hc (by show ¬ (pT 8 (pT 8 (pNx g) 1).1 1).1 0 4 = 0; rw [show (pT 8 (pT 8 (pNx g) 1).1 1) = ((pT 8 (pNx g) 1).1, 0) from (by rw [← t9, toC e]; exact pT_f e)]; exact e))); have v2 := y_71 hc; rw [if_pos hc, pFx_0 (g := (pT 8 (pT 8 (pNx g) 1).1 1).1) (c := 5) hc, if_pos ((r.2.2 hc).1.sg (c := 59) (by decide) |>.1 (by omega)), e1, ← v1, ← v2]; exact cif_neg (fun e => hru ((mru_em (q_71).1.1.1 (r.2.2 hc).2 (by omega) (by omega)).2 e)))); rw [e3]; exact x_112⟩⟩
    · refine tz_aload_n (pc := 44) dX12_rule1_44 rfl rfl ?_
      refine tz_aload_n (pc := 45) dX12_rule1_45 rfl rfl ?_
      refine tz_fI (pc := 46) (kz := 40) (v := (J_33 164 40)) dX12_rule1_46 fl_X12_249 i_164_40 rfl rfl (fun r_46 => ?_)
      refine tz_iconst (pc := 49) dX12_rule1_49 ?_
      refine tz_icmp_ne (pc := 50) (tgt := 57) dX12_rule1_50 (by decide) (by omega) (by decide) (fun h_50 => ?_) (fun h_50 => ?_)
      · refine tz_iconst (pc := 57) dX12_rule1_57 ?_
        refine tz_iconst (pc := 58) dX12_rule1_58 ?_
        refine tz_cV (pc := 59) (z_wants hl n _ _ _ (by decide) (by decide) _ x_33 (by omega) (q_33).2.1 (by decide)) vl_X12_276 dX12_rule1_59 o_164 rfl rfl (Nat.le_of_ble_eq_true rfl) ⟨(Nat.le_of_ble_eq_true rfl), (Nat.le_of_ble_eq_true rfl)⟩ rfl rfl (Nat.le_of_ble_eq_true rfl) (Nat.le_of_ble_eq_true rfl) (fun r9 J_59 hq9 => ?_)
        obtain ⟨z_59, rfl, hz_59, w_59, o_59⟩ := hq9
        obtain ⟨rfl, v_59, x_59⟩ : z_59 = 0 ∧ ¬ J_59 164 43 = 0 ∧ RelX J_59 (pFx (pT 8 (pNx g) 1).1 1) := by rcases o_59 with q | q; exact absurd rfl q.1; exact q.2
        have q_59 := MRT.w q_33 w_59
        have s_59 := SI.fx (c := 1) s_33
        clear o_59
        refine tz_if_eqT (pc := 62) (tgt := 69) (by decide) dX12_rule1_62 (by decide) (by decide) ?_
        refine tz_aload_n (pc := 69) dX12_rule1_69 rfl rfl ?_
        refine tz_iconst (pc := 70) dX12_rule1_70 ?_
        refine tz_cV (pc := 71) (z_term1 hl n _ s m_33 _ (q_59).1.1.1 (q_59).2.1 (q_59).2.2.2.2 (((q_59).f 44 rfl).trans h44) x_59 s_59) vl_X12_298 dX12_rule1_71 o_164 rfl rfl (Nat.le_of_ble_eq_true rfl) ⟨(Nat.le_of_ble_eq_true rfl), (Nat.le_of_ble_eq_true rfl)⟩ rfl rfl (Nat.le_of_ble_eq_true rfl) (Nat.le_of_ble_eq_true rfl) (fun r9 J_71 hq9 => ?_)
        obtain ⟨z_71, rfl, hz_71, m_71, w_71, h_71, x_71, y_71⟩ := hq9
        have q_71 := MRT.tr q_59 w_71
        have l_71 := w_71.1.1.2
        have s_71 := SI.t 8 _ 1 s_59
        have t9 : pTo (pT 8 (pNx g) 1).1 = (pFx (pT 8 (pNx g) 1).1 1) := toB x_33 h_41 (by omega)
        refine tz_istore_n (pc := 74) (L2 := [_, _, _]) dX12_rule1_74 rfl (by decide) rfl ?_
        refine tz_aload_n (pc := 75) dX12_rule1_75 rfl rfl ?_
        refine tz_fI (pc := 76) (kz := 43) (v := (J_71 164 43)) dX12_rule1_76 fl_X12_273 i_164_43 rfl rfl (fun r_76 => ?_)
        refine tz_if_ne (pc := 79) (tgt := 118) dX12_rule1_79 (by decide) (by omega) (fun h_79 => ?_) (fun h_79 => ?_)
        · exact tz_vret (pc := 118) dX12_rule1_118 rfl (Nat.le_of_ble_eq_true rfl) (Nat.le_of_ble_eq_true rfl) ⟨Nat.le_refl _, Nat.le_add_right _ _⟩ ⟨rfl, ⟨CL.rt hI q_71, ⟨(q_71).c 171 rfl, (q_71).f 44 rfl⟩, by have lt9 : g 165 135 < 8 := (by rw [← hE.2.2.2.1 135 (by decide) (by decide)]; omega); have e1 : pR1 g = (pT 8 (pNx g) 1) := (by unfold pR1; rw [nx9]); have e2 : pR2 g = (pT 8 (pFx (pT 8 (pNx g) 1).1 1) 1) := (by unfold pR2; rw [e1, t9]); have n9 := x_71.no (by omega); rw [show pRu g = (pT 8 (pFx (pT 8 (pNx g) 1).1 1) 1).1 from by unfold pRu; rw [if_pos lt9, e2, if_neg n9]]; exact x_71⟩⟩
        · refine tz_aload_n (pc := 82) dX12_rule1_82 rfl rfl ?_
          refine tz_aload_n (pc := 83) dX12_rule1_83 rfl rfl ?_
          refine tz_fI (pc := 84) (kz := 42) (v := (J_71 164 42)) dX12_rule1_84 fl_X12_258 i_164_42 rfl rfl (fun r_84 => ?_)
          refine tz_bipush (pc := 87) dX12_rule1_87 (by decide) ?_
          refine tz_icmp_ne (pc := 89) (tgt := 96) dX12_rule1_89 (by decide) (by omega) (by decide) (fun h_89 => ?_) (fun h_89 => ?_)
          · refine tz_iconst (pc := 96) dX12_rule1_96 ?_
            refine tz_iconst (pc := 97) dX12_rule1_97 ?_
            refine tz_cV (pc := 98) (z_wants hl n _ _ _ (by decide) (by decide) _ x_71 (by omega) (q_71).2.1 (by decide)) vl_X12_276 dX12_rule1_98 o_164 rfl rfl (Nat.le_of_ble_eq_true rfl) ⟨(Nat.le_of_ble_eq_true rfl), (Nat.le_of_ble_eq_true rfl)⟩ rfl rfl (Nat.le_of_ble_eq_true rfl) (Nat.le_of_ble_eq_true rfl) (fun r9 J_98 hq9 => ?_)
            obtain ⟨z_98, rfl, hz_98, w_98, o_98⟩ := hq9
            obtain ⟨rfl, v_98, x_98⟩ : z_98 = 0 ∧ ¬ J_98 164 43 = 0 ∧ RelX J_98 (pFx (pT 8 (pFx (pT 8 (pNx g) 1).1 1) 1).1 1) := by rcases o_98 with q | q; exact absurd rfl q.1; exact q.2
            have q_98 := MRT.w q_71 w_98
            have s_98 := SI.fx (c := 1) s_71
            clear o_98
            refine tz_if_eqT (pc := 101) (tgt := 118) (by decide) dX12_rule1_101 (by decide) (by decide) ?_
            exact tz_vret (pc := 118) dX12_rule1_118 rfl (Nat.le_of_ble_eq_true rfl) (Nat.le_of_ble_eq_true rfl) ⟨Nat.le_refl _, Nat.le_add_right _ _⟩ ⟨rfl, ⟨CL.rt hI q_98, ⟨(q_98).c 171 rfl, (q_98).f 44 rfl⟩, by have lt9 : g 165 135 < 8 := (by rw [← hE.2.2.2.1 135 (by decide) (by decide)]; omega); have e1 : pR1 g = (pT 8 (pNx g) 1) := (by unfold pR1; rw [nx9]); have e2 : pR2 g = (pT 8 (pFx (pT 8 (pNx g) 1).1 1) 1) := (by unfold pR2; rw [e1, t9]); have e3 : pRu g = pFx (pT 8 (pFx (pT 8 (pNx g) 1).1 1) 1).1 1 := (by unfold pRu; rw [if_pos lt9, e2]; rcases x_71.bad h_79 with hc | ⟨hc, r⟩; rw [if_neg (by omega), pFx_1 (g := (pT 8 (pFx (pT 8 (pNx g) 1).1 1) 1).1) (c := 1) (by omega)]; rw [if_pos hc, pFx_0 (g := (pT 8 (pFx (pT 8 (pNx g) 1).1 1) 1).1) (c := 1) hc, if_neg (by have := (r.2.2 hc).1.sg (c := 59) (by decide); omega)]); rw [e3]; exact x_98⟩⟩
          · refine tz_iconst (pc := 92) dX12_rule1_92 ?_
            refine tz_goto (pc := 93) (tgt := 97) dX12_rule1_93 (by decide) ?_
            refine tz_iconst (pc := 97) dX12_rule1_97 ?_
            refine tz_cV (pc := 98) (z_wants hl n _ _ _ (by decide) (by decide) _ x_71 (by omega) (q_71).2.1 (by decide)) vl_X12_276 dX12_rule1_98 o_164 rfl rfl (Nat.le_of_ble_eq_true rfl) ⟨(Nat.le_of_ble_eq_true rfl), (Nat.le_of_ble_eq_true rfl)⟩ rfl rfl (Nat.le_of_ble_eq_true rfl) (Nat.le_of_ble_eq_true rfl) (fun r9 J_98 hq9 => ?_)
            obtain ⟨z_98, rfl, hz_98, w_98, o_98⟩ := hq9
            obtain ⟨rfl, rfl⟩ : z_98 = 1 ∧ J_71 = J_98 := by rcases o_98 with q | q; exact q.2; exact absurd q.1 (by decide)
            clear o_98
            refine tz_if_eqF (pc := 101) (tgt := 118) (by decide) dX12_rule1_101 (by decide) (by decide) ?_
            refine tz_aload_n (pc := 104) dX12_rule1_104 rfl rfl ?_
            refine tz_aload_n (pc := 105) dX12_rule1_105 rfl rfl ?_
            refine tz_iload_n (pc := 106) dX12_rule1_106 rfl rfl ?_
            refine tz_iload_n (pc := 107) dX12_rule1_107 rfl rfl ?_
            have hb_71 : J_71 164 43 = 0 := h_79
            have hb_59 := w_71.2.2.1 hb_71
            have hb_33 := w_59.2.2.1 hb_59
            have hv1 := h_33 hb_33
            have hv2 := h_71 hb_71
            have hl9 : m_33 ≤ m_71 := by have := l_71; omega
            have hwc : ∀ k, 0 ≤ k → k < s → 1 ≤ J_71 171 (10 + k) ∧ J_71 171 (10 + k) ≤ 9 := fun k a b => by rw [(q_71).c 171 rfl]; exact hw k a b
            refine tz_cV (pc := 108) (x_isRule hl n _ _ _ (by omega) (by omega) 800 126 10 s m_71 (q_71).1.1.1 (by omega) (by omega) hwc) vl_X12_301 dX12_rule1_108 o_164 rfl rfl (Nat.le_of_ble_eq_true rfl) ⟨(Nat.le_of_ble_eq_true rfl), (Nat.le_of_ble_eq_true rfl)⟩ rfl rfl (Nat.le_of_ble_eq_true rfl) (Nat.le_of_ble_eq_true rfl) (fun r9 J_108 hq9 => ?_)
            obtain ⟨z_108, rfl, hz_108, rfl, hz_r⟩ := hq9
            rcases hz_r with ⟨rfl, hru⟩ | ⟨rfl, hru⟩
            · refine tz_iconst (pc := 111) dX12_rule1_111 ?_
              refine tz_cV (pc := 112) (z_wants hl n _ _ _ (by decide) (by decide) _ x_71 (by omega) (q_71).2.1 (by decide)) vl_X12_276 dX12_rule1_112 o_164 rfl rfl (Nat.le_of_ble_eq_true rfl) ⟨(Nat.le_of_ble_eq_true rfl), (Nat.le_of_ble_eq_true rfl)⟩ rfl rfl (Nat.le_of_ble_eq_true rfl) (Nat.le_of_ble_eq_true rfl) (fun r9 J_112 hq9 => ?_)
              obtain ⟨z_112, rfl, hz_112, w_112, o_112⟩ := hq9
              obtain ⟨rfl, rfl⟩ : z_112 = 1 ∧ J_71 = J_112 := by rcases o_112 with q | q; exact q.2; exact absurd q.1 (by decide)
              clear o_112
              refine tz_if_neT (pc := 115) (tgt := 119) (by decide) dX12_rule1_115 (by decide) (by decide) ?_
              refine tz_aload_n (pc := 119) dX12_rule1_119 rfl rfl ?_
              refine tz_iload_n (pc := 120) dX12_rule1_120 rfl rfl ?_
              refine tz_iload_n (pc := 121) dX12_rule1_121 rfl rfl ?_
              have ro_122 : J_71 165 (126 + 9) = J 165 135 := ((q_71).1.2.2.1.2.1 135 (by decide) rfl)
              refine tz_cV (pc := 122) (m_rules1 hl n _ _ _ (by omega) (by omega) 126 (q_71).1.1.1.2.2.1 (by decide) (by omega)) vl_X12_304 dX12_rule1_122 o_164 rfl rfl (Nat.le_of_ble_eq_true rfl) ⟨(Nat.le_of_ble_eq_true rfl), (Nat.le_of_ble_eq_true rfl)⟩ rfl rfl (Nat.le_of_ble_eq_true rfl) (Nat.le_of_ble_eq_true rfl) (fun r9 J_122 hq9 => ?_)
              obtain ⟨rfl, hr_122⟩ := hq9
              exact tz_vret (pc := 125) dX12_rule1_125 rfl (Nat.le_of_ble_eq_true rfl) (Nat.le_of_ble_eq_true rfl) ⟨Nat.le_refl _, Nat.le_add_right _ _⟩ ⟨rfl, ⟨by rw [← hr_122]; exact CL.tr (CL.rl (hI.rt q_71) (by omega) (by omega) (by omega)) (CL.rt hI q_71), by rw [← hr_122]; exact ⟨(q_71).c 171 rfl, (q_71).f 44 rfl⟩, by have lt9 : g 165 135 < 8 := (by rw [← hE.2.2.2.1 135 (by decide) (by decide)]; omega); have e1 : pR1 g = (pT 8 (pNx g) 1) := (by unfold pR1; rw [nx9]); have e2 : pR2 g = (pT 8 (pFx (pT 8 (pNx g) 1).1 1) 1) := (by unfold pR2; rw [e1, t9]); rcases x_71.bad h_79 with hc | ⟨hc, r⟩; (have e3 : pRu g = (pT 8 (pFx (pT 8 (pNx g) 1).1 1) 1).1 := (by unfold pRu; rw [if_pos lt9, e2, if_neg (by omega)]); rw [e3]; exact Or.inl hc); (have v1 : z_33 = (pT 8 (pNx g) 1).2 := y_33 (Classical.byContradiction (fun e => absurd hc (by show ¬ (pT 8 (pFx (pT 8 (pNx g) 1).1 1) 1).1 0 4 = 0; rw [show (pT 8 (pFx (pT 8 (pNx g) 1).1 1) 1) = ((pT 8 (pNx g) 1).1, 0) from (by rw [← t9, toC e]; exact pT_f e)]; exact e))); have v2 := y_71 hc; have e3 : pRu g = zrl (pT 8 (pFx (pT 8 (pNx g) 1).1 1) 1).1 126 z_33 z_71 := (by unfold pRu; rw [if_pos lt9, e2, if_pos hc, if_pos ((r.2.2 hc).1.sg (c := 59) (by decide) |>.1 (by omega)), e1, ← v1, ← v2]; exact cif_pos ((mru_em (q_71).1.1.1 (r.2.2 hc).2 (by omega) (by omega)).1 hru)); rw [e3, ← hr_122]; exact Or.inr (r.rl hc (show 0 ≤ J_71 165 (126 + 9) ∧ J_71 165 (126 + 9) < 8 by omega)))⟩⟩
            · refine tz_iconst (pc := 111) dX12_rule1_111 ?_
              refine tz_cV (pc := 112) (z_wants hl n _ _ _ (by decide) (by decide) _ x_71 (by omega) (q_71).2.1 (by decide)) vl_X12_276 dX12_rule1_112 o_164 rfl rfl (Nat.le_of_ble_eq_true rfl) ⟨(Nat.le_of_ble_eq_true rfl), (Nat.le_of_ble_eq_true rfl)⟩ rfl rfl (Nat.le_of_ble_eq_true rfl) (Nat.le_of_ble_eq_true rfl) (fun r9 J_112 hq9 => ?_)
              obtain ⟨z_112, rfl, hz_112, w_112, o_112⟩ := hq9
              obtain ⟨rfl, v_112, x_112⟩ : z_112 = 0 ∧ ¬ J_112 164 43 = 0 ∧ RelX J_112 (pFx (pT 8 (pFx (pT 8 (pNx g) 1).1 1) 1).1 5) := by rcases o_112 with q | q; exact absurd rfl q.1; exact q.2
              have q_112 := MRT.w q_71 w_112
              have s_112 := SI.fx (c := 5) s_71
              clear o_112
              refine tz_if_neF (pc := 115) (tgt := 119) (by decide) dX12_rule1_115 (by decide) (by decide) ?_
              exact tz_vret (pc := 118) dX12_rule1_118 rfl (Nat.le_of_ble_eq_true rfl) (Nat.le_of_ble_eq_true rfl) ⟨Nat.le_refl _, Nat.le_add_right _ _⟩ ⟨rfl, ⟨CL.rt hI q_112, ⟨(q_112).c 171 rfl, (q_112).f 44 rfl⟩, by have lt9 : g 165 135 < 8 := (by rw [← hE.2.2.2.1 135 (by decide) (by decide)]; omega); have e1 : pR1 g = (pT 8 (pNx g) 1) := (by unfold pR1; rw [nx9]); have e2 : pR2 g = (pT 8 (pFx (pT 8 (pNx g) 1).1 1) 1) := (by unfold pR2; rw [e1, t9]); have e3 : pRu g = pFx (pT 8 (pFx (pT 8 (pNx g) 1).1 1) 1).1 5 := (by unfold pRu; rw [if_pos lt9, e2]; rcases x_71.bad h_79 with hc | ⟨hc, r⟩; rw [if_neg (by omega), pFx_1 (g := (pT 8 (pFx (pT 8 (pNx g) 1).1 1) 1).1) (c := 5) (by omega)]; (have v1 : z_33 = (pT 8 (pNx g) 1).2 := y_33 (Classical.byContradiction (fun e => absurd hc (by show ¬ (pT 8 (pFx (pT 8 (pNx g) 1).1 1) 1).1 0 4 = 0; rw [show (pT 8 (pFx (pT 8 (pNx g) 1).1 1) 1) = ((pT 8 (pNx g) 1).1, 0) from (by rw [← t9, toC e]; exact pT_f e)]; exact e))); have v2 := y_71 hc; rw [if_pos hc, pFx_0 (g := (pT 8 (pFx (pT 8 (pNx g) 1).1 1) 1).1) (c := 5) hc, if_pos ((r.2.2 hc).1.sg (c := 59) (by decide) |>.1 (by omega)), e1, ← v1, ← v2]; exact cif_neg (fun e => hru ((mru_em (q_71).1.1.1 (r.2.2 hc).2 (by omega) (by omega)).2 e)))); rw [e3]; exact x_112⟩⟩
      · refine tz_iconst (pc := 53) dX12_rule1_53 ?_
        refine tz_goto (pc := 54) (tgt := 58) dX12_rule1_54 (by decide) ?_
        refine tz_iconst (pc := 58) dX12_rule1_58 ?_
        refine tz_cV (pc := 59) (z_wants hl n _ _ _ (by decide) (by decide) _ x_33 (by omega) (q_33).2.1 (by decide)) vl_X12_276 dX12_rule1_59 o_164 rfl rfl (Nat.le_of_ble_eq_true rfl) ⟨(Nat.le_of_ble_eq_true rfl), (Nat.le_of_ble_eq_true rfl)⟩ rfl rfl (Nat.le_of_ble_eq_true rfl) (Nat.le_of_ble_eq_true rfl) (fun r9 J_59 hq9 => ?_)
        obtain ⟨z_59, rfl, hz_59, w_59, o_59⟩ := hq9
        obtain ⟨rfl, rfl⟩ : z_59 = 1 ∧ J_33 = J_59 := by rcases o_59 with q | q; exact q.2; exact absurd q.1 (by decide)
        clear o_59
        refine tz_if_eqF (pc := 62) (tgt := 69) (by decide) dX12_rule1_62 (by decide) (by decide) ?_
        refine tz_aload_n (pc := 65) dX12_rule1_65 rfl rfl ?_
        refine tz_cV (pc := 66) (z_go hl n _ _ x_33 (by omega) s_33 (q_33).2.1) vl_X12_280 dX12_rule1_66 o_164 rfl rfl (Nat.le_of_ble_eq_true rfl) ⟨(Nat.le_of_ble_eq_true rfl), (Nat.le_of_ble_eq_true rfl)⟩ rfl rfl (Nat.le_of_ble_eq_true rfl) (Nat.le_of_ble_eq_true rfl) (fun r9 J_66 hq9 => ?_)
        obtain ⟨rfl, w_66, x_66⟩ := hq9
        have q_66 := MRT.w q_33 w_66
        have s_66 := SI.nx s_33
        refine tz_aload_n (pc := 69) dX12_rule1_69 rfl rfl ?_
        refine tz_iconst (pc := 70) dX12_rule1_70 ?_
        refine tz_cV (pc := 71) (z_term1 hl n _ s m_33 _ (q_66).1.1.1 (q_66).2.1 (q_66).2.2.2.2 (((q_66).f 44 rfl).trans h44) x_66 s_66) vl_X12_298 dX12_rule1_71 o_164 rfl rfl (Nat.le_of_ble_eq_true rfl) ⟨(Nat.le_of_ble_eq_true rfl), (Nat.le_of_ble_eq_true rfl)⟩ rfl rfl (Nat.le_of_ble_eq_true rfl) (Nat.le_of_ble_eq_true rfl) (fun r9 J_71 hq9 => ?_)
        obtain ⟨z_71, rfl, hz_71, m_71, w_71, h_71, x_71, y_71⟩ := hq9
        have q_71 := MRT.tr q_66 w_71
        have l_71 := w_71.1.1.2
        have s_71 := SI.t 8 _ 1 s_66
        have t9 : pTo (pT 8 (pNx g) 1).1 = (pNx (pT 8 (pNx g) 1).1) := toA x_33 h_41 (by omega)
        refine tz_istore_n (pc := 74) (L2 := [_, _, _]) dX12_rule1_74 rfl (by decide) rfl ?_
        refine tz_aload_n (pc := 75) dX12_rule1_75 rfl rfl ?_
        refine tz_fI (pc := 76) (kz := 43) (v := (J_71 164 43)) dX12_rule1_76 fl_X12_273 i_164_43 rfl rfl (fun r_76 => ?_)
        refine tz_if_ne (pc := 79) (tgt := 118) dX12_rule1_79 (by decide) (by omega) (fun h_79 => ?_) (fun h_79 => ?_)
        · exact tz_vret (pc := 118) dX12_rule1_118 rfl (Nat.le_of_ble_eq_true rfl) (Nat.le_of_ble_eq_true rfl) ⟨Nat.le_refl _, Nat.le_add_right _ _⟩ ⟨rfl, ⟨CL.rt hI q_71, ⟨(q_71).c 171 rfl, (q_71).f 44 rfl⟩, by have lt9 : g 165 135 < 8 := (by rw [← hE.2.2.2.1 135 (by decide) (by decide)]; omega); have e1 : pR1 g = (pT 8 (pNx g) 1) := (by unfold pR1; rw [nx9]); have e2 : pR2 g = (pT 8 (pNx (pT 8 (pNx g) 1).1) 1) := (by unfold pR2; rw [e1, t9]); have n9 := x_71.no (by omega); rw [show pRu g = (pT 8 (pNx (pT 8 (pNx g) 1).1) 1).1 from by unfold pRu; rw [if_pos lt9, e2, if_neg n9]]; exact x_71⟩⟩
        · refine tz_aload_n (pc := 82) dX12_rule1_82 rfl rfl ?_
          refine tz_aload_n (pc := 83) dX12_rule1_83 rfl rfl ?_
          refine tz_fI (pc := 84) (kz := 42) (v := (J_71 164 42)) dX12_rule1_84 fl_X12_258 i_164_42 rfl rfl (fun r_84 => ?_)
          refine tz_bipush (pc := 87) dX12_rule1_87 (by decide) ?_
          refine tz_icmp_ne (pc := 89) (tgt := 96) dX12_rule1_89 (by decide) (by omega) (by decide) (fun h_89 => ?_) (fun h_89 => ?_)
          · refine tz_iconst (pc := 96) dX12_rule1_96 ?_
            refine tz_iconst (pc := 97) dX12_rule1_97 ?_
            refine tz_cV (pc := 98) (z_wants hl n _ _ _ (by decide) (by decide) _ x_71 (by omega) (q_71).2.1 (by decide)) vl_X12_276 dX12_rule1_98 o_164 rfl rfl (Nat.le_of_ble_eq_true rfl) ⟨(Nat.le_of_ble_eq_true rfl), (Nat.le_of_ble_eq_true rfl)⟩ rfl rfl (Nat.le_of_ble_eq_true rfl) (Nat.le_of_ble_eq_true rfl) (fun r9 J_98 hq9 => ?_)
            obtain ⟨z_98, rfl, hz_98, w_98, o_98⟩ := hq9
            obtain ⟨rfl, v_98, x_98⟩ : z_98 = 0 ∧ ¬ J_98 164 43 = 0 ∧ RelX J_98 (pFx (pT 8 (pNx (pT 8 (pNx g) 1).1) 1).1 1) := by rcases o_98 with q | q; exact absurd rfl q.1; exact q.2
            have q_98 := MRT.w q_71 w_98
            have s_98 := SI.fx (c := 1) s_71
            clear o_98
            refine tz_if_eqT (pc := 101) (tgt := 118) (by decide) dX12_rule1_101 (by decide) (by decide) ?_
            exact tz_vret (pc := 118) dX12_rule1_118 rfl (Nat.le_of_ble_eq_true rfl) (Nat.le_of_ble_eq_true rfl) ⟨Nat.le_refl _, Nat.le_add_right _ _⟩ ⟨rfl, ⟨CL.rt hI q_98, ⟨(q_98).c 171 rfl, (q_98).f 44 rfl⟩, by have lt9 : g 165 135 < 8 := (by rw [← hE.2.2.2.1 135 (by decide) (by decide)]; omega); have e1 : pR1 g = (pT 8 (pNx g) 1) := (by unfold pR1; rw [nx9]); have e2 : pR2 g = (pT 8 (pNx (pT 8 (pNx g) 1).1) 1) := (by unfold pR2; rw [e1, t9]); have e3 : pRu g = pFx (pT 8 (pNx (pT 8 (pNx g) 1).1) 1).1 1 := (by unfold pRu; rw [if_pos lt9, e2]; rcases x_71.bad h_79 with hc | ⟨hc, r⟩; rw [if_neg (by omega), pFx_1 (g := (pT 8 (pNx (pT 8 (pNx g) 1).1) 1).1) (c := 1) (by omega)]; rw [if_pos hc, pFx_0 (g := (pT 8 (pNx (pT 8 (pNx g) 1).1) 1).1) (c := 1) hc, if_neg (by have := (r.2.2 hc).1.sg (c := 59) (by decide); omega)]); rw [e3]; exact x_98⟩⟩
          · refine tz_iconst (pc := 92) dX12_rule1_92 ?_
            refine tz_goto (pc := 93) (tgt := 97) dX12_rule1_93 (by decide) ?_
            refine tz_iconst (pc := 97) dX12_rule1_97 ?_
            refine tz_cV (pc := 98) (z_wants hl n _ _ _ (by decide) (by decide) _ x_71 (by omega) (q_71).2.1 (by decide)) vl_X12_276 dX12_rule1_98 o_164 rfl rfl (Nat.le_of_ble_eq_true rfl) ⟨(Nat.le_of_ble_eq_true rfl), (Nat.le_of_ble_eq_true rfl)⟩ rfl rfl (Nat.le_of_ble_eq_true rfl) (Nat.le_of_ble_eq_true rfl) (fun r9 J_98 hq9 => ?_)
            obtain ⟨z_98, rfl, hz_98, w_98, o_98⟩ := hq9
            obtain ⟨rfl, rfl⟩ : z_98 = 1 ∧ J_71 = J_98 := by rcases o_98 with q | q; exact q.2; exact absurd q.1 (by decide)
            clear o_98
            refine tz_if_eqF (pc := 101) (tgt := 118) (by decide) dX12_rule1_101 (by decide) (by decide) ?_
            refine tz_aload_n (pc := 104) dX12_rule1_104 rfl rfl ?_
            refine tz_aload_n (pc := 105) dX12_rule1_105 rfl rfl ?_
            refine tz_iload_n (pc := 106) dX12_rule1_106 rfl rfl ?_
            refine tz_iload_n (pc := 107) dX12_rule1_107 rfl rfl ?_
            have hb_71 : J_71 164 43 = 0 := h_79
            have hb_66 := w_71.2.2.1 hb_71
            have hb_33 := w_66.2.2.1 hb_66
            have hv1 := h_33 hb_33
            have hv2 := h_71 hb_71
            have hl9 : m_33 ≤ m_71 := by have := l_71; omega
            have hwc : ∀ k, 0 ≤ k → k < s → 1 ≤ J_71 171 (10 + k) ∧ J_71 171 (10 + k) ≤ 9 := fun k a b => by rw [(q_71).c 171 rfl]; exact hw k a b
            refine tz_cV (pc := 108) (x_isRule hl n _ _ _ (by omega) (by omega) 800 126 10 s m_71 (q_71).1.1.1 (by omega) (by omega) hwc) vl_X12_301 dX12_rule1_108 o_164 rfl rfl (Nat.le_of_ble_eq_true rfl) ⟨(Nat.le_of_ble_eq_true rfl), (Nat.le_of_ble_eq_true rfl)⟩ rfl rfl (Nat.le_of_ble_eq_true rfl) (Nat.le_of_ble_eq_true rfl) (fun r9 J_108 hq9 => ?_)
            obtain ⟨z_108, rfl, hz_108, rfl, hz_r⟩ := hq9
            rcases hz_r with ⟨rfl, hru⟩ | ⟨rfl, hru⟩
            · refine tz_iconst (pc := 111) dX12_rule1_111 ?_
              refine tz_cV (pc := 112) (z_wants hl n _ _ _ (by decide) (by decide) _ x_71 (by omega) (q_71).2.1 (by decide)) vl_X12_276 dX12_rule1_112 o_164 rfl rfl (Nat.le_of_ble_eq_true rfl) ⟨(Nat.le_of_ble_eq_true rfl), (Nat.le_of_ble_eq_true rfl)⟩ rfl rfl (Nat.le_of_ble_eq_true rfl) (Nat.le_of_ble_eq_true rfl) (fun r9 J_112 hq9 => ?_)
              obtain ⟨z_112, rfl, hz_112, w_112, o_112⟩ := hq9
              obtain ⟨rfl, rfl⟩ : z_112 = 1 ∧ J_71 = J_112 := by rcases o_112 with q | q; exact q.2; exact absurd q.1 (by decide)
              clear o_112
              refine tz_if_neT (pc := 115) (tgt := 119) (by decide) dX12_rule1_115 (by decide) (by decide) ?_
              refine tz_aload_n (pc := 119) dX12_rule1_119 rfl rfl ?_
              refine tz_iload_n (pc := 120) dX12_rule1_120 rfl rfl ?_
              refine tz_iload_n (pc := 121) dX12_rule1_121 rfl rfl ?_
              have ro_122 : J_71 165 (126 + 9) = J 165 135 := ((q_71).1.2.2.1.2.1 135 (by decide) rfl)
              refine tz_cV (pc := 122) (m_rules1 hl n _ _ _ (by omega) (by omega) 126 (q_71).1.1.1.2.2.1 (by decide) (by omega)) vl_X12_304 dX12_rule1_122 o_164 rfl rfl (Nat.le_of_ble_eq_true rfl) ⟨(Nat.le_of_ble_eq_true rfl), (Nat.le_of_ble_eq_true rfl)⟩ rfl rfl (Nat.le_of_ble_eq_true rfl) (Nat.le_of_ble_eq_true rfl) (fun r9 J_122 hq9 => ?_)
              obtain ⟨rfl, hr_122⟩ := hq9
              exact tz_vret (pc := 125) dX12_rule1_125 rfl (Nat.le_of_ble_eq_true rfl) (Nat.le_of_ble_eq_true rfl) ⟨Nat.le_refl _, Nat.le_add_right _ _⟩ ⟨rfl, ⟨by rw [← hr_122]; exact CL.tr (CL.rl (hI.rt q_71) (by omega) (by omega) (by omega)) (CL.rt hI q_71), by rw [← hr_122]; exact ⟨(q_71).c 171 rfl, (q_71).f 44 rfl⟩, by have lt9 : g 165 135 < 8 := (by rw [← hE.2.2.2.1 135 (by decide) (by decide)]; omega); have e1 : pR1 g = (pT 8 (pNx g) 1) := (by unfold pR1; rw [nx9]); have e2 : pR2 g = (pT 8 (pNx (pT 8 (pNx g) 1).1) 1) := (by unfold pR2; rw [e1, t9]); rcases x_71.bad h_79 with hc | ⟨hc, r⟩; (have e3 : pRu g = (pT 8 (pNx (pT 8 (pNx g) 1).1) 1).1 := (by unfold pRu; rw [if_pos lt9, e2, if_neg (by omega)]); rw [e3]; exact Or.inl hc); (have v1 : z_33 = (pT 8 (pNx g) 1).2 := y_33 (Classical.byContradiction (fun e => absurd hc (by show ¬ (pT 8 (pNx (pT 8 (pNx g) 1).1) 1).1 0 4 = 0; rw [show (pT 8 (pNx (pT 8 (pNx g) 1).1) 1) = ((pT 8 (pNx g) 1).1, 0) from (by rw [← t9, toC e]; exact pT_f e)]; exact e))); have v2 := y_71 hc; have e3 : pRu g = zrl (pT 8 (pNx (pT 8 (pNx g) 1).1) 1).1 126 z_33 z_71 := (by unfold pRu; rw [if_pos lt9, e2, if_pos hc, if_pos ((r.2.2 hc).1.sg (c := 59) (by decide) |>.1 (by omega)), e1, ← v1, ← v2]; exact cif_pos ((mru_em (q_71).1.1.1 (r.2.2 hc).2 (by omega) (by omega)).1 hru)); rw [e3, ← hr_122]; exact Or.inr (r.rl hc (show 0 ≤ J_71 165 (126 + 9) ∧ J_71 165 (126 + 9) < 8 by omega)))⟩⟩
            · refine tz_iconst (pc := 111) dX12_rule1_111 ?_
              refine tz_cV (pc := 112) (z_wants hl n _ _ _ (by decide) (by decide) _ x_71 (by omega) (q_71).2.1 (by decide)) vl_X12_276 dX12_rule1_112 o_164 rfl rfl (Nat.le_of_ble_eq_true rfl) ⟨(Nat.le_of_ble_eq_true rfl), (Nat.le_of_ble_eq_true rfl)⟩ rfl rfl (Nat.le_of_ble_eq_true rfl) (Nat.le_of_ble_eq_true rfl) (fun r9 J_112 hq9 => ?_)
              obtain ⟨z_112, rfl, hz_112, w_112, o_112⟩ := hq9
              obtain ⟨rfl, v_112, x_112⟩ : z_112 = 0 ∧ ¬ J_112 164 43 = 0 ∧ RelX J_112 (pFx (pT 8 (pNx (pT 8 (pNx g) 1).1) 1).1 5) := by rcases o_112 with q | q; exact absurd rfl q.1; exact q.2
              have q_112 := MRT.w q_71 w_112
              have s_112 := SI.fx (c := 5) s_71
              clear o_112
              refine tz_if_neF (pc := 115) (tgt := 119) (by decide) dX12_rule1_115 (by decide) (by decide) ?_
              exact tz_vret (pc := 118) dX12_rule1_118 rfl (Nat.le_of_ble_eq_true rfl) (Nat.le_of_ble_eq_true rfl) ⟨Nat.le_refl _, Nat.le_add_right _ _⟩ ⟨rfl, ⟨CL.rt hI q_112, ⟨(q_112).c 171 rfl, (q_112).f 44 rfl⟩, by have lt9 : g 165 135 < 8 := (by rw [← hE.2.2.2.1 135 (by decide) (by decide)]; omega); have e1 : pR1 g = (pT 8 (pNx g) 1) := (by unfold pR1; rw [nx9]); have e2 : pR2 g = (pT 8 (pNx (pT 8 (pNx g) 1).1) 1) := (by unfold pR2; rw [e1, t9]); have e3 : pRu g = pFx (pT 8 (pNx (pT 8 (pNx g) 1).1) 1).1 5 := (by unfold pRu; rw [if_pos lt9, e2]; rcases x_71.bad h_79 with hc | ⟨hc, r⟩; rw [if_neg (by omega), pFx_1 (g := (pT 8 (pNx (pT 8 (pNx g) 1).1) 1).1) (c := 5) (by omega)]; (have v1 : z_33 = (pT 8 (pNx g) 1).2 := y_33 (Classical.byContradiction (fun e => absurd hc (by show ¬ (pT 8 (pNx (pT 8 (pNx g) 1).1) 1).1 0 4 = 0; rw [show (pT 8 (pNx (pT 8 (pNx g) 1).1) 1) = ((pT 8 (pNx g) 1).1, 0) from (by rw [← t9, toC e]; exact pT_f e)]; exact e))); have v2 := y_71 hc; rw [if_pos hc, pFx_0 (g := (pT 8 (pNx (pT 8 (pNx g) 1).1) 1).1) (c := 5) hc, if_pos ((r.2.2 hc).1.sg (c := 59) (by decide) |>.1 (by omega)), e1, ← v1, ← v2]; exact cif_neg (fun e => hru ((mru_em (q_71).1.1.1 (r.2.2 hc).2 (by omega) (by omega)).2 e)))); rw [e3]; exact x_112⟩⟩

end
section
/-! ===== the whole text: the reference follows the reading ===== -/
theorem cl_n {g : zJ} (h : ¬ g 0 3 = 2) : pCl g = pF g 1 := by
  unfold pCl
  rw [cif_neg (fun p => h p.1), cif_neg (fun p => h p.1), cif_neg (fun p => h p.1), cif_neg (fun p => h p.1), cif_neg (fun p => h p.1)]
theorem cl_k {g : zJ} {z : Int} (h : g 0 3 = 2) (w : WD (g 1) (g 0 1) (g 0 2) z) : (z = 0 → pCl g = pSy g) ∧ (z = 1 → pCl g = (pR1 g).1) ∧ (z = 2 → pCl g = pRu g) ∧ (z = 3 → pCl g = pEn g) ∧ (z = 4 → pCl g = pRo g) ∧ (¬ (0 ≤ z ∧ z ≤ 4) → pCl g = pF g 1) := by
  unfold WD at w
  unfold pCl
  rcases w with ⟨m0, e⟩ | ⟨n0, ⟨m0, e⟩ | ⟨n1, ⟨m0, e⟩ | ⟨n2, ⟨m0, e⟩ | ⟨n3, ⟨m0, e⟩ | ⟨n4, r⟩⟩⟩⟩⟩
  · rw [cif_pos ⟨h, m0⟩]
    exact ⟨fun _ => rfl, fun q => by omega, fun q => by omega, fun q => by omega, fun q => by omega, fun q => by omega⟩
  · rw [cif_neg (fun p => n0 p.2), cif_pos ⟨h, m0⟩]
    exact ⟨fun q => by omega, fun _ => rfl, fun q => by omega, fun q => by omega, fun q => by omega, fun q => by omega⟩
  · rw [cif_neg (fun p => n0 p.2), cif_neg (fun p => n1 p.2), cif_pos ⟨h, m0⟩]
    exact ⟨fun q => by omega, fun q => by omega, fun _ => rfl, fun q => by omega, fun q => by omega, fun q => by omega⟩
  · rw [cif_neg (fun p => n0 p.2), cif_neg (fun p => n1 p.2), cif_neg (fun p => n2 p.2), cif_pos ⟨h, m0⟩]
    exact ⟨fun q => by omega, fun q => by omega, fun q => by omega, fun _ => rfl, fun q => by omega, fun q => by omega⟩
  · rw [cif_neg (fun p => n0 p.2), cif_neg (fun p => n1 p.2), cif_neg (fun p => n2 p.2), cif_neg (fun p => n3 p.2), cif_pos ⟨h, m0⟩]
    exact ⟨fun q => by omega, fun q => by omega, fun q => by omega, fun q => by omega, fun _ => rfl, fun q => by omega⟩
  · rw [cif_neg (fun p => n0 p.2), cif_neg (fun p => n1 p.2), cif_neg (fun p => n2 p.2), cif_neg (fun p => n3 p.2), cif_neg (fun p => n4 p.2)]
    have hz : z = 5 ∨ z = -1 := by rcases r with r | r; exact Or.inl r.2; exact Or.inr r.2
    exact ⟨fun q => by omega, fun q => by omega, fun q => by omega, fun q => by omega, fun q => by omega, fun _ => rfl⟩
theorem TKM.wd {J g : zJ} (h : TKM J (g 1) (g 0 1) (g 0 3) (g 0 2)) (h1 : J 164 38 = 1) : g 0 3 = 2 ∧ WD (g 1) (g 0 1) (g 0 2) (J 164 40) := by
  obtain ⟨_, _, h3⟩ := h
  rcases h3 with q | q | q | q | q
  · omega
  · exact ⟨q.1, q.2.2.2.2⟩
  · omega
  · omega
  · omega
def WOK (J : zJ) : Prop := ∀ k, 0 ≤ k → k < J 164 44 → 1 ≤ J 171 (10 + k) ∧ J 171 (10 + k) ≤ 9
theorem WOK.of {J' J : zJ} (h : WOK J) (e : J' 171 = J 171 ∧ J' 164 44 = J 164 44) : WOK J' := by
  unfold WOK
  rw [e.1, e.2]
  exact h
theorem WOK.sy {J' J : zJ} (h : WOK J) (x : RSy J' J) (u : J' 164 44 = J 164 44 + 1 → 1 ≤ J' 171 (10 + J 164 44) ∧ J' 171 (10 + J 164 44) ≤ 9) : WOK J' := fun k a b => by
  have h1 := x.2.2.2.2.1
  by_cases e : k = J 164 44
  · subst e
    exact u (by omega)
  · rw [(x.2.2.2.2.2.2.1 (10 + k) (by omega)).2.2]
    exact h k a (by omega)
set_option maxHeartbeats 4000000 in
set_option maxRecDepth 100000 in
theorem y_clause1 {l : Launch} {G : tb_G} (hl : l.stackTraces = false) (n : Nat) (J : zJ)   (s m : Int) (g : zJ) (hI : TI J s m) (hw : ∀ k, 0 ≤ k → k < s → 1 ≤ J 171 (10 + k) ∧ J 171 (10 + k) ≤ 9) (hR : RelM J g) (h9 : g 0 4 = 0) (hS : SI g) : tz_Ok l G M_X12_clause1 22 0 0 [.ref 164] n J (zqv (fun J' => CL J' J ∧ WOK J' ∧ RelX J' (pCl g))) zN := by
  refine tz_Ok.of hl (by decide +kernel) rfl (tb_c1 rfl) (Nat.le_of_ble_eq_true rfl) ?_
  show tz_At l G M_X12_clause1 (tb_rm 22 0 0) none (tb_ZM G 0 0 (zQ n 0 (zqv (fun J' => CL J' J ∧ WOK J' ∧ RelX J' (pCl g)))) (zX n 0 zN)) 0 0 n J 0 [some (.ref 164), none] []
  obtain ⟨hM, h44, hP, hu, hL, h66⟩ := id hI
  have hT := hM.told
  have g0 := MRT.rf hM hP hu
  clear hu
  have hL9 : 0 ≤ J 165 135 ∧ J 165 135 ≤ 8 := hL.1.1
  have hL8 : 0 ≤ J 165 152 ∧ J 165 152 ≤ 12 := hL.2.2.1.1
  have hX : RelX J g := Or.inr hR
  have hb0 : J 164 43 = 0 := hR.1.trans h9
  have hE := (hR.2.2 h9).2
  have nx9 : pNx g = pN g := by unfold pNx; rw [if_pos h9]
  have fx9 : ∀ c, pFx g c = pF g c := fun c => by unfold pFx; rw [if_pos h9]
  have hT9 := (hR.2.2 h9).1
  have hW : WOK J := fun k a b => hw k a (by omega)
  refine tz_aload_n (pc := 0) dX12_clause1_0 rfl rfl ?_
  refine tz_fI (pc := 1) (kz := 38) (v := (J 164 38)) dX12_clause1_1 fl_X12_261 i_164_38 rfl rfl (fun r_1 => ?_)
  refine tz_iconst (pc := 4) dX12_clause1_4 ?_
  refine tz_icmp_ne (pc := 5) (tgt := 15) dX12_clause1_5 (by decide) (by omega) (by decide) (fun h_5 => ?_) (fun h_5 => ?_)
  · refine tz_iconst (pc := 15) dX12_clause1_15 ?_
    refine tz_istore_n (pc := 16) (L2 := [_, _]) dX12_clause1_16 rfl (by decide) rfl ?_
    refine tz_iload_n (pc := 17) dX12_clause1_17 rfl rfl ?_
    refine tz_if_neT (pc := 18) (tgt := 28) (by decide) dX12_clause1_18 (by decide) (by decide) ?_
    refine tz_iload_n (pc := 28) dX12_clause1_28 rfl rfl ?_
    refine tz_iconst (pc := 29) dX12_clause1_29 ?_
    refine tz_icmp_neT (pc := 30) (tgt := 46) (by decide) dX12_clause1_30 (by decide) (by decide) (by decide) ?_
    refine tz_iload_n (pc := 46) dX12_clause1_46 rfl rfl ?_
    refine tz_iconst (pc := 47) dX12_clause1_47 ?_
    refine tz_icmp_neT (pc := 48) (tgt := 58) (by decide) dX12_clause1_48 (by decide) (by decide) (by decide) ?_
    refine tz_iload_n (pc := 58) dX12_clause1_58 rfl rfl ?_
    refine tz_iconst (pc := 59) dX12_clause1_59 ?_
    refine tz_icmp_neT (pc := 60) (tgt := 70) (by decide) dX12_clause1_60 (by decide) (by decide) (by decide) ?_
    refine tz_aload_n (pc := 70) dX12_clause1_70 rfl rfl ?_
    refine tz_iload_n (pc := 71) dX12_clause1_71 rfl rfl ?_
    refine tz_iconst (pc := 72) dX12_clause1_72 ?_
    refine tz_icmp_neT (pc := 73) (tgt := 80) (by decide) dX12_clause1_73 (by decide) (by decide) (by decide) ?_
    refine tz_iconst (pc := 80) dX12_clause1_80 ?_
    refine tz_iconst (pc := 81) dX12_clause1_81 ?_
    refine tz_cV (pc := 82) (z_wants hl n _ _ _ (by decide) (by decide) _ hX hb0 (g0).2.1 (by decide)) vl_X12_276 dX12_clause1_82 o_164 rfl rfl (Nat.le_of_ble_eq_true rfl) ⟨(Nat.le_of_ble_eq_true rfl), (Nat.le_of_ble_eq_true rfl)⟩ rfl rfl (Nat.le_of_ble_eq_true rfl) (Nat.le_of_ble_eq_true rfl) (fun r9 J_82 hq9 => ?_)
    obtain ⟨z_82, rfl, hz_82, w_82, o_82⟩ := hq9
    obtain ⟨rfl, v_82, x_82⟩ : z_82 = 0 ∧ ¬ J_82 164 43 = 0 ∧ RelX J_82 (pFx g 1) := by rcases o_82 with q | q; exact absurd rfl q.1; exact q.2
    have q_82 := MRT.w g0 w_82
    have s_82 := SI.fx (c := 1) hS
    clear o_82
    refine tz_if_eqT (pc := 85) (tgt := 92) (by decide) dX12_clause1_85 (by decide) (by decide) ?_
    exact tz_vret (pc := 92) dX12_clause1_92 rfl (Nat.le_of_ble_eq_true rfl) (Nat.le_of_ble_eq_true rfl) ⟨Nat.le_refl _, Nat.le_add_right _ _⟩ ⟨rfl, ⟨CL.rt hI q_82, hW.of ⟨(q_82).c 171 rfl, (q_82).f 44 rfl⟩, by rw [show pCl g = pF g 1 from (by by_cases h38 : J 164 38 = 1; (have kw := cl_k (hT9.wd h38).1 (hT9.wd h38).2; exact kw.2.2.2.2.2 (by omega)); exact cl_n (by have := hT9.so; omega)), ← fx9]; exact x_82⟩⟩
  · refine tz_aload_n (pc := 8) dX12_clause1_8 rfl rfl ?_
    refine tz_fI (pc := 9) (kz := 40) (v := (J 164 40)) dX12_clause1_9 fl_X12_249 i_164_40 rfl rfl (fun r_9 => ?_)
    refine tz_goto (pc := 12) (tgt := 16) dX12_clause1_12 (by decide) ?_
    refine tz_istore_n (pc := 16) (L2 := [_, _]) dX12_clause1_16 rfl (by decide) rfl ?_
    refine tz_iload_n (pc := 17) dX12_clause1_17 rfl rfl ?_
    refine tz_if_ne (pc := 18) (tgt := 28) dX12_clause1_18 (by decide) (by omega) (fun h_18 => ?_) (fun h_18 => ?_)
    · refine tz_iload_n (pc := 28) dX12_clause1_28 rfl rfl ?_
      refine tz_iconst (pc := 29) dX12_clause1_29 ?_
      refine tz_icmp_ne (pc := 30) (tgt := 46) dX12_clause1_30 (by decide) (by omega) (by decide) (fun h_30 => ?_) (fun h_30 => ?_)
      · refine tz_iload_n (pc := 46) dX12_clause1_46 rfl rfl ?_
        refine tz_iconst (pc := 47) dX12_clause1_47 ?_
        refine tz_icmp_ne (pc := 48) (tgt := 58) dX12_clause1_48 (by decide) (by omega) (by decide) (fun h_48 => ?_) (fun h_48 => ?_)
        · refine tz_iload_n (pc := 58) dX12_clause1_58 rfl rfl ?_
          refine tz_iconst (pc := 59) dX12_clause1_59 ?_
          refine tz_icmp_ne (pc := 60) (tgt := 70) dX12_clause1_60 (by decide) (by omega) (by decide) (fun h_60 => ?_) (fun h_60 => ?_)
          · refine tz_aload_n (pc := 70) dX12_clause1_70 rfl rfl ?_
            refine tz_iload_n (pc := 71) dX12_clause1_71 rfl rfl ?_
            refine tz_iconst (pc := 72) dX12_clause1_72 ?_
            refine tz_icmp_ne (pc := 73) (tgt := 80) dX12_clause1_73 (by decide) (by omega) (by decide) (fun h_73 => ?_) (fun h_73 => ?_)
            · refine tz_iconst (pc := 80) dX12_clause1_80 ?_
              refine tz_iconst (pc := 81) dX12_clause1_81 ?_
              refine tz_cV (pc := 82) (z_wants hl n _ _ _ (by decide) (by decide) _ hX hb0 (g0).2.1 (by decide)) vl_X12_276 dX12_clause1_82 o_164 rfl rfl (Nat.le_of_ble_eq_true rfl) ⟨(Nat.le_of_ble_eq_true rfl), (Nat.le_of_ble_eq_true rfl)⟩ rfl rfl (Nat.le_of_ble_eq_true rfl) (Nat.le_of_ble_eq_true rfl) (fun r9 J_82 hq9 => ?_)
              obtain ⟨z_82, rfl, hz_82, w_82, o_82⟩ := hq9
              obtain ⟨rfl, v_82, x_82⟩ : z_82 = 0 ∧ ¬ J_82 164 43 = 0 ∧ RelX J_82 (pFx g 1) := by rcases o_82 with q | q; exact absurd rfl q.1; exact q.2
              have q_82 := MRT.w g0 w_82
              have s_82 := SI.fx (c := 1) hS
              clear o_82
              refine tz_if_eqT (pc := 85) (tgt := 92) (by decide) dX12_clause1_85 (by decide) (by decide) ?_
              exact tz_vret (pc := 92) dX12_clause1_92 rfl (Nat.le_of_ble_eq_true rfl) (Nat.le_of_ble_eq_true rfl) ⟨Nat.le_refl _, Nat.le_add_right _ _⟩ ⟨rfl, ⟨CL.rt hI q_82, hW.of ⟨(q_82).c 171 rfl, (q_82).f 44 rfl⟩, by rw [show pCl g = pF g 1 from (by by_cases h38 : J 164 38 = 1; (have kw := cl_k (hT9.wd h38).1 (hT9.wd h38).2; exact kw.2.2.2.2.2 (by omega)); exact cl_n (by have := hT9.so; omega)), ← fx9]; exact x_82⟩⟩
            · refine tz_iconst (pc := 76) dX12_clause1_76 ?_
              refine tz_goto (pc := 77) (tgt := 81) dX12_clause1_77 (by decide) ?_
              refine tz_iconst (pc := 81) dX12_clause1_81 ?_
              refine tz_cV (pc := 82) (z_wants hl n _ _ _ (by decide) (by decide) _ hX hb0 (g0).2.1 (by decide)) vl_X12_276 dX12_clause1_82 o_164 rfl rfl (Nat.le_of_ble_eq_true rfl) ⟨(Nat.le_of_ble_eq_true rfl), (Nat.le_of_ble_eq_true rfl)⟩ rfl rfl (Nat.le_of_ble_eq_true rfl) (Nat.le_of_ble_eq_true rfl) (fun r9 J_82 hq9 => ?_)
              obtain ⟨z_82, rfl, hz_82, w_82, o_82⟩ := hq9
              obtain ⟨rfl, rfl⟩ : z_82 = 1 ∧ J = J_82 := by rcases o_82 with q | q; exact q.2; exact absurd q.1 (by decide)
              clear o_82
              refine tz_if_eqF (pc := 85) (tgt := 92) (by decide) dX12_clause1_85 (by decide) (by decide) ?_
              refine tz_aload_n (pc := 88) dX12_clause1_88 rfl rfl ?_
              refine tz_cV (pc := 89) (y_room1 hl n _ s m g hI hw hR h9 hS) vl_X12_325 dX12_clause1_89 o_164 rfl rfl (Nat.le_of_ble_eq_true rfl) ⟨(Nat.le_of_ble_eq_true rfl), (Nat.le_of_ble_eq_true rfl)⟩ rfl rfl (Nat.le_of_ble_eq_true rfl) (Nat.le_of_ble_eq_true rfl) (fun r9 J_89 hq9 => ?_)
              obtain ⟨rfl, c_89, k_89, x_89⟩ := hq9
              exact tz_vret (pc := 92) dX12_clause1_92 rfl (Nat.le_of_ble_eq_true rfl) (Nat.le_of_ble_eq_true rfl) ⟨Nat.le_refl _, Nat.le_add_right _ _⟩ ⟨rfl, ⟨c_89, hW.of k_89, by have kw := cl_k (hT9.wd (by omega)).1 (hT9.wd (by omega)).2; rw [kw.2.2.2.2.1 (by omega)]; exact x_89⟩⟩
          · refine tz_aload_n (pc := 63) dX12_clause1_63 rfl rfl ?_
            refine tz_cV (pc := 64) (y_entry1 hl n _ s m g hI hw hR h9 hS) vl_X12_322 dX12_clause1_64 o_164 rfl rfl (Nat.le_of_ble_eq_true rfl) ⟨(Nat.le_of_ble_eq_true rfl), (Nat.le_of_ble_eq_true rfl)⟩ rfl rfl (Nat.le_of_ble_eq_true rfl) (Nat.le_of_ble_eq_true rfl) (fun r9 J_64 hq9 => ?_)
            obtain ⟨rfl, c_64, k_64, x_64⟩ := hq9
            refine tz_goto (pc := 67) (tgt := 92) dX12_clause1_67 (by decide) ?_
            exact tz_vret (pc := 92) dX12_clause1_92 rfl (Nat.le_of_ble_eq_true rfl) (Nat.le_of_ble_eq_true rfl) ⟨Nat.le_refl _, Nat.le_add_right _ _⟩ ⟨rfl, ⟨c_64, hW.of k_64, by have kw := cl_k (hT9.wd (by omega)).1 (hT9.wd (by omega)).2; rw [kw.2.2.2.1 (by omega)]; exact x_64⟩⟩
        · refine tz_aload_n (pc := 51) dX12_clause1_51 rfl rfl ?_
          refine tz_cV (pc := 52) (y_rule1 hl n _ s m g hI hw hR h9 hS) vl_X12_319 dX12_clause1_52 o_164 rfl rfl (Nat.le_of_ble_eq_true rfl) ⟨(Nat.le_of_ble_eq_true rfl), (Nat.le_of_ble_eq_true rfl)⟩ rfl rfl (Nat.le_of_ble_eq_true rfl) (Nat.le_of_ble_eq_true rfl) (fun r9 J_52 hq9 => ?_)
          obtain ⟨rfl, c_52, k_52, x_52⟩ := hq9
          refine tz_goto (pc := 55) (tgt := 92) dX12_clause1_55 (by decide) ?_
          exact tz_vret (pc := 92) dX12_clause1_92 rfl (Nat.le_of_ble_eq_true rfl) (Nat.le_of_ble_eq_true rfl) ⟨Nat.le_refl _, Nat.le_add_right _ _⟩ ⟨rfl, ⟨c_52, hW.of k_52, by have kw := cl_k (hT9.wd (by omega)).1 (hT9.wd (by omega)).2; rw [kw.2.2.1 (by omega)]; exact x_52⟩⟩
      · refine tz_aload_n (pc := 33) dX12_clause1_33 rfl rfl ?_
        refine tz_cV (pc := 34) (z_go hl n _ _ hX hb0 hS (g0).2.1) vl_X12_280 dX12_clause1_34 o_164 rfl rfl (Nat.le_of_ble_eq_true rfl) ⟨(Nat.le_of_ble_eq_true rfl), (Nat.le_of_ble_eq_true rfl)⟩ rfl rfl (Nat.le_of_ble_eq_true rfl) (Nat.le_of_ble_eq_true rfl) (fun r9 J_34 hq9 => ?_)
        obtain ⟨rfl, w_34, x_34⟩ := hq9
        have q_34 := MRT.w g0 w_34
        have s_34 := SI.nx hS
        refine tz_aload_n (pc := 37) dX12_clause1_37 rfl rfl ?_
        refine tz_iconst (pc := 38) dX12_clause1_38 ?_
        refine tz_cV (pc := 39) (z_term1 hl n _ s m _ (q_34).1.1.1 (q_34).2.1 (q_34).2.2.2.2 (((q_34).f 44 rfl).trans h44) x_34 s_34) vl_X12_298 dX12_clause1_39 o_164 rfl rfl (Nat.le_of_ble_eq_true rfl) ⟨(Nat.le_of_ble_eq_true rfl), (Nat.le_of_ble_eq_true rfl)⟩ rfl rfl (Nat.le_of_ble_eq_true rfl) (Nat.le_of_ble_eq_true rfl) (fun r9 J_39 hq9 => ?_)
        obtain ⟨z_39, rfl, hz_39, m_39, w_39, h_39, x_39, y_39⟩ := hq9
        have q_39 := MRT.tr q_34 w_39
        have l_39 := w_39.1.1.2
        have s_39 := SI.t 8 _ 1 s_34
        refine tz_pop (pc := 42) dX12_clause1_42 rfl ?_
        refine tz_goto (pc := 43) (tgt := 92) dX12_clause1_43 (by decide) ?_
        exact tz_vret (pc := 92) dX12_clause1_92 rfl (Nat.le_of_ble_eq_true rfl) (Nat.le_of_ble_eq_true rfl) ⟨Nat.le_refl _, Nat.le_add_right _ _⟩ ⟨rfl, ⟨CL.rt hI q_39, hW.of ⟨(q_39).c 171 rfl, (q_39).f 44 rfl⟩, by have kw := cl_k (hT9.wd (by omega)).1 (hT9.wd (by omega)).2; rw [kw.2.1 (by omega), show pR1 g = pT 8 (pNx g) 1 from by unfold pR1; rw [nx9]]; exact x_39⟩⟩
    · refine tz_aload_n (pc := 21) dX12_clause1_21 rfl rfl ?_
      refine tz_cV (pc := 22) (y_symbol1 hl n _ g hR h9 hS hP (by omega)) vl_X12_316 dX12_clause1_22 o_164 rfl rfl (Nat.le_of_ble_eq_true rfl) ⟨(Nat.le_of_ble_eq_true rfl), (Nat.le_of_ble_eq_true rfl)⟩ rfl rfl (Nat.le_of_ble_eq_true rfl) (Nat.le_of_ble_eq_true rfl) (fun r9 J_22 hq9 => ?_)
      obtain ⟨rfl, x_22, r_22, u_22⟩ := hq9
      refine tz_goto (pc := 25) (tgt := 92) dX12_clause1_25 (by decide) ?_
      exact tz_vret (pc := 92) dX12_clause1_92 rfl (Nat.le_of_ble_eq_true rfl) (Nat.le_of_ble_eq_true rfl) ⟨Nat.le_refl _, Nat.le_add_right _ _⟩ ⟨rfl, ⟨CL.sy hI x_22, WOK.sy hW x_22 u_22, by have kw := cl_k (hT9.wd (by omega)).1 (hT9.wd (by omega)).2; rw [kw.1 (by omega)]; exact Or.inr r_22⟩⟩

end
section
/-! ===== all clauses: the reference follows the reading ===== -/
theorem SI.cif {p : Prop} {a b : zJ} (ha : SI a) (hb : SI b) : SI (cif p a b) := by
  by_cases h : p
  · rw [cif_pos h]; exact ha
  · rw [cif_neg h]; exact hb
theorem SI.c5 {g' g : zJ} (h : SI g) (e : g' 0 = g 0) : SI g' := by
  unfold SI
  rw [e]
  exact h
theorem SI.nm {g : zJ} (h : SI g) : SI (pNm g).1 := by
  unfold pNm
  (repeat' split) <;> first | exact h.f | exact h.n
theorem SI.sy {g : zJ} (h : SI g) : SI (pSy g) := by
  have h3 : SI (pS3 g).1 := (SI.u (SI.u (SI.nm h.n)))
  unfold pSy
  (repeat' split)
  · exact h3.c5 rfl
  · exact h3
  · exact h.f
theorem SI.r1 {g : zJ} (h : SI g) : SI (pR1 g).1 := SI.t 8 _ 1 h.n
theorem SI.to {g : zJ} (h : SI g) : SI (pTo g) := by
  unfold pTo
  split
  · exact SI.cif h.n h.f
  · exact h
theorem SI.ru {g : zJ} (h : SI g) : SI (pRu g) := by
  have h3 : SI (pR2 g).1 := SI.t 8 _ 1 h.r1.to
  unfold pRu
  (repeat' split)
  · exact SI.cif (h3.c5 rfl) h3.f
  · exact h3.f
  · exact h3
  · exact h.f
theorem SI.en {g : zJ} (h : SI g) : SI (pEn g) := by
  have h3 := h.r1
  unfold pEn
  (repeat' split)
  · exact h3.f
  · exact h3.c5 rfl
  · exact h3.f
  · exact h3
  · exact h.f
theorem SI.ro {g : zJ} (h : SI g) : SI (pRo g) := by
  have h3 : SI (pO1 g).1 := SI.u h.n
  unfold pRo
  (repeat' split)
  · exact h3.c5 rfl
  · exact h3
  · exact h.f
theorem SI.cl {g : zJ} (h : SI g) : SI (pCl g) := SI.cif h.sy (SI.cif h.r1 (SI.cif h.ru (SI.cif h.en (SI.cif h.ro h.f))))
noncomputable def pClx (g : zJ) : zJ := if g 0 4 = 0 then pCl g else g
theorem SI.clx {g : zJ} (h : SI g) : SI (pClx g) := by unfold pClx; split; exact h.cl; exact h
/-- the reading has no room, or the reference is where it is -/
def WX (J g : zJ) : Prop := g 0 4 = 99 ∨ (RelM J g ∧ WOK J)
theorem z_clause1 {l : Launch} {G : tb_G} (hl : l.stackTraces = false) (n : Nat) (J : zJ) (s m : Int) (g : zJ) (hI : TI J s m) (hX : WX J g) (hb : J 164 43 = 0) (hS : SI g) : tz_Ok l G M_X12_clause1 22 0 0 [.ref 164] n J (zqv (fun J' => CL J' J ∧ WX J' (pClx g))) zN := by
  rcases hX with q | ⟨hR, hW⟩
  · exact (m_clause1 hl n J s m hI).mono (fun r J' _ ⟨a, b⟩ => ⟨a, b, by unfold pClx; rw [if_neg (by omega)]; exact Or.inl q⟩) (fun _ _ _ h => h)
  · have h9 : g 0 4 = 0 := by rw [← hR.1]; exact hb
    have e44 := hI.2.1
    exact (y_clause1 hl n J s m g hI (fun k a b => hW k a (by omega)) hR h9 hS).mono (fun r J' _ ⟨a, b, c, d⟩ => ⟨a, b, by unfold pClx; rw [if_pos h9]; exact d.imp id (fun q => ⟨q, c⟩)⟩) (fun _ _ _ h => h)
theorem pAl_s {k : Nat} {g : zJ} : pAl (k + 1) g = if g 0 4 = 0 ∧ ¬ g 0 3 = 0 then pAl k (pP (pCl g) 59) else g := rfl
theorem pAl_e {k : Nat} {g : zJ} (h : ¬ g 0 4 = 0 ∨ g 0 3 = 0) : pAl k g = g := by
  cases k with
  | zero => rfl
  | succ k => rw [pAl_s, if_neg (by omega)]
/-- the reading that started at g0 goes on from where the reference is -/
def RI (J g0 : zJ) : Prop := ∃ g, ∃ k : Nat, SI g ∧ WX J g ∧ pAl 703 g0 = pAl k g ∧ (J 164 43 = 0 → rmu J < k)
theorem RI.st {J' Jc J g0 g : zJ} {k : Nat} (hS : SI g) (hW : WX J g) (ha : pAl 703 g0 = pAl k g) (hf : J 164 43 = 0 → rmu J < k) (hb : J 164 43 = 0) (h38 : ¬ J 164 38 = 0) (hz : RSz J) (c : WX Jc (pClx g)) (w : RelX J' (pP (pClx g) 59)) (r : RGw J' Jc) (mu : J' 164 43 = 0 → rmu J' < rmu Jc) (c3 : rmu Jc ≤ rmu J) : RI J' g0 := by
  have e2 := rmu_nn hz
  have hf := hf hb
  obtain ⟨k, rfl⟩ : ∃ k9, k = k9 + 1 := ⟨k - 1, by omega⟩
  refine ⟨pP (pClx g) 59, k, hS.clx.p, ?_, ?_, fun q => by have := mu q; omega⟩
  · rcases w with q | q
    · exact Or.inl q
    · rcases c with p | p
      · refine Or.inl ?_
        rw [pP_f (by omega)]
        exact p
      · exact Or.inr ⟨q, p.2.of ⟨r.1.1 171 rfl, r.1.2 44 rfl (by decide) (by decide)⟩⟩
  · rw [ha]
    rcases hW with q | ⟨q, _⟩
    · have e : pClx g = g := by unfold pClx; rw [if_neg (by omega)]
      rw [e, pP_f (by omega), pAl_e (Or.inl (by omega)), pAl_e (Or.inl (by omega))]
    · have h9 : g 0 4 = 0 := by rw [← q.1]; exact hb
      have h3 : ¬ g 0 3 = 0 := fun e => h38 ((q.2.2 h9).1.so.2.2.1.2 e)
      rw [pAl_s, if_pos ⟨h9, h3⟩]
      unfold pClx
      rw [if_pos h9]
/-- what the reference tells when it has read -/
def QR (J r : zJ) : Prop := r 0 4 = 99 ∨ (J 164 43 = r 0 4 ∧ (¬ r 0 4 = 0 → J 164 20 = r 0 5) ∧ (r 0 4 = 0 → EM J r ∧ WOK J))
theorem RI.qr {J2 g0 : zJ} (h : RI J2 g0) (he : ¬ J2 164 43 = 0 ∨ J2 164 38 = 0) : QR (zup (zup (zup J2 164 17 0) 164 16 0) 164 15 0) (pAl 703 g0) := by
  obtain ⟨g, k, hS, hW, ha, hf⟩ := h
  rw [ha]
  rcases hW with q | ⟨q, w⟩
  · rw [pAl_e (Or.inl (by omega))]
    exact Or.inl q
  · have e : pAl k g = g := by
      refine pAl_e ?_
      by_cases h9 : g 0 4 = 0
      · refine Or.inr ((q.2.2 h9).1.so.2.2.1.1 (he.resolve_left (fun p => p ?_)))
        rw [q.1]; exact h9
      · exact Or.inl h9
    rw [e]
    exact Or.inr ⟨q.1, q.2.1, fun h9 => ⟨(q.2.2 h9).2, w⟩⟩
/-- where a reading of the first x bytes starts -/
def pG (J : zJ) (x : Int) : zJ := fun c => if c = 0 then (fun k => if k = 0 then x else 0) else if c = 1 then J 173 else if c = 164 then (fun _ => 0) else if c = 165 then (fun k => if k = 165 then 4 else 0) else if 166 ≤ c ∧ c ≤ 182 then J c else (fun _ => 0)
theorem pG_s {J : zJ} {x : Int} (hx : 0 ≤ x ∧ x ≤ 700) : SI (pG J x) := ⟨hx, ⟨Int.le_refl 0, Int.le_refl 0, hx.1⟩, Or.inl rfl⟩
theorem RA.em {J1 J : zJ} {x : Int} (h : RA J1 J x 63) (h45 : J1 164 45 = 0 ∧ J1 164 20 = -1) : EM (zup (zup (zup (zup J1 165 165 4) 164 15 800) 164 16 126) 164 17 10) (pG J x) := by
  have e4 : ∀ k, ¬ k = 15 → ¬ k = 16 → ¬ k = 17 → (zup (zup (zup (zup J1 165 165 4) 164 15 800) 164 16 126) 164 17 10) 164 k = J1 164 k := fun k a b c => by
    have e : (zup (zup (zup (zup J1 165 165 4) 164 15 800) 164 16 126) 164 17 10) 164 k = if k = 17 then 10 else if k = 16 then 126 else if k = 15 then 800 else J1 164 k := rfl
    rw [e, if_neg c, if_neg b, if_neg a]
  have e5 : ∀ k, (zup (zup (zup (zup J1 165 165 4) 164 15 800) 164 16 126) 164 17 10) 165 k = if k = 165 then 4 else J1 165 k := fun _ => rfl
  have f : zOf (zbut [164, 165]) (zup (zup (zup (zup J1 165 165 4) 164 15 800) 164 16 126) 164 17 10) J1 := zOf.up rfl (zOf.up rfl (zOf.up rfl (zOf.up rfl zOf.rf)))
  generalize (zup (zup (zup (zup J1 165 165 4) 164 15 800) 164 16 126) 164 17 10) = J2 at *
  have f2 := f.tr h.1
  obtain ⟨a1, a2, a3, a4, a5⟩ := h.2.2.1
  refine ⟨by rw [e4 37 (by decide) (by decide) (by decide)]; exact a1, f2 173 rfl, ⟨?_, ?_, ?_⟩, fun k a b => ?_, fun k _ _ => ⟨by rw [f2 166 rfl]; rfl, by rw [f2 168 rfl]; rfl⟩, fun k _ _ => by rw [f2 167 rfl]; rfl, fun k _ _ => ⟨by rw [f2 169 rfl]; rfl, by rw [f2 170 rfl]; rfl, by rw [f2 171 rfl]; rfl⟩⟩
  · rw [e4 44 (by decide) (by decide) (by decide)]; exact a4
  · rw [e4 45 (by decide) (by decide) (by decide)]; exact h45.1
  · rw [e4 21 (by decide) (by decide) (by decide), e4 20 (by decide) (by decide) (by decide)]; exact ⟨a5, h45.2⟩
  · show J2 165 k = if k = 165 then 4 else 0
    rw [e5]
    split
    · rfl
    · have := h.2.2.2.2 (k - 126) (by omega) (by omega)
      rw [show 126 + (k - 126) = k from by omega] at this
      exact this
theorem y_go0 {l : Launch} {G : tb_G} (hl : l.stackTraces = false) (n : Nat) (J : zJ) (g : zJ) (hE : EM J g) (h43 : J 164 43 = 0) (h35 : J 164 35 = g 0 2) (h0 : g 0 4 = 0) (hS : SI g) : tz_Ok l G M_X12_go 2 0 0 [.ref 164] n J (zqv (fun J' => RelM J' (pN g) ∧ RGw J' J)) zN := by
  have hP : RSz J := by
    unfold RSz
    rw [hE.1, h35]
    have := hS.2.1
    have := hS.1
    omega
  refine (x_go hl n J hP).mono (fun r J' _ ⟨h1, h2, h3⟩ => ⟨h1, ?_⟩) (fun _ _ _ h => h)
  have t := h3
  rw [hE.2.1, hE.1, h35] at t
  have hr : RelM J' (pN g) := by
    refine ⟨by rw [h2.2 43 rfl, h43]; exact h0.symm, fun q => absurd h0 q, fun _ => ⟨?_, hE.tok h2⟩⟩
    rw [pN_c (c := 1) (by decide)]
    exact t
  have hT' := hr.2.2 h0
  have hP' : RSP J' := hT'.1.rs (f := J') hS.n hT'.2.1
  have e37 : J' 164 37 = J 164 37 := h2.2 37 rfl
  have e35 : J' 164 35 = tkE (J 173) (J 164 37) (J 164 35) := h3.2.1
  have e38 := h3.2.2
  have rg := tk_rg (f := J 173) (N := J 164 37) (a := J 164 35) ⟨hP.2.1, hP.2.2⟩
  have hm : rmu J' ≤ J 164 37 - J 164 35 := by
    unfold rmu
    rw [e37, e35]
    split
    · omega
    · next q => rcases e38 with w | w | w | w | w <;> omega
  exact ⟨hr, ⟨⟨h2.1, fun k a _ _ => h2.2 k a⟩, hP', fun q => (h2.2 43 rfl).symm.trans q, Int.le_trans hm rmu_ge⟩⟩
theorem RA.c4 {J1 J : zJ} {x : Int} (h : RA J1 J x 63) : (zup (zup (zup (zup J1 165 165 4) 164 15 800) 164 16 126) 164 17 10) 164 43 = 0 ∧ (zup (zup (zup (zup J1 165 165 4) 164 15 800) 164 16 126) 164 17 10) 164 35 = pG J x 0 2 := ⟨h.2.2.1.2.2.1, h.2.2.1.2.1⟩
theorem RI.in {J2 g : zJ} (hI : TI J2 0 0) (hS : SI g) (hR : RelM J2 g) : RI J2 g := by
  refine ⟨g, 703, hS, Or.inr ⟨hR, fun k a b => ?_⟩, rfl, fun _ => ?_⟩
  · have := hI.2.1
    omega
  · have h1 : RSz J2 := hI.2.2.1.1
    unfold RSz at h1
    unfold rmu
    split <;> omega
set_option maxHeartbeats 4000000 in
set_option maxRecDepth 100000 in
theorem y_readsAll {l : Launch} {G : tb_G} (hl : l.stackTraces = false) (n : Nat) (J : zJ) (x : Int) (hr_x : -2147483648 ≤ x ∧ x < 2147483648)  (hx : 0 ≤ x ∧ x ≤ 700) (h0 : J 164 15 = 0 ∧ J 164 16 = 0 ∧ J 164 17 = 0) : tz_Ok l G M_X12_readsAll 23 0 0 [.ref 164, zi x] n J (zqv (fun J' => (RDf J' J ∧ ∃ s m, TB J' s m) ∧ QR J' (pAl 703 (pN (pG J x))))) zN := by
  refine tz_Ok.of hl (by decide +kernel) rfl (tb_c1 rfl) (Nat.le_of_ble_eq_true rfl) ?_
  show tz_At l G M_X12_readsAll (tb_rm 23 0 0) none (tb_ZM G 0 0 (zQ n 0 (zqv (fun J' => (RDf J' J ∧ ∃ s m, TB J' s m) ∧ QR J' (pAl 703 (pN (pG J x)))))) (zX n 0 zN)) 0 0 n J 0 [some (.ref 164), some (zi x), none] []
  refine tz_aload_n (pc := 0) dX12_readsAll_0 rfl rfl ?_
  refine tz_iload_n (pc := 1) dX12_readsAll_1 rfl rfl ?_
  refine tz_pI (pc := 2) (kz := 37) dX12_readsAll_2 fl_X12_233 i_164_37 rfl rfl (by omega) ?_
  refine tz_aload_n (pc := 5) dX12_readsAll_5 rfl rfl ?_
  refine tz_iconst (pc := 6) dX12_readsAll_6 ?_
  refine tz_pI (pc := 7) (kz := 35) dX12_readsAll_7 fl_X12_243 i_164_35 rfl rfl (by decide) ?_
  refine tz_aload_n (pc := 10) dX12_readsAll_10 rfl rfl ?_
  refine tz_iconst (pc := 11) dX12_readsAll_11 ?_
  refine tz_pI (pc := 12) (kz := 43) dX12_readsAll_12 fl_X12_273 i_164_43 rfl rfl (by decide) ?_
  refine tz_aload_n (pc := 15) dX12_readsAll_15 rfl rfl ?_
  refine tz_iconst (pc := 16) dX12_readsAll_16 ?_
  refine tz_pI (pc := 17) (kz := 20) dX12_readsAll_17 fl_X12_37 i_164_20 rfl rfl (by decide) ?_
  refine tz_aload_n (pc := 20) dX12_readsAll_20 rfl rfl ?_
  refine tz_aload_n (pc := 21) dX12_readsAll_21 rfl rfl ?_
  refine tz_iconst (pc := 22) dX12_readsAll_22 ?_
  refine tz_dup_x1 (pc := 23) dX12_readsAll_23 rfl rfl ?_
  refine tz_pI (pc := 24) (kz := 45) dX12_readsAll_24 fl_X12_313 i_164_45 rfl rfl (by decide) ?_
  refine tz_pI (pc := 27) (kz := 44) dX12_readsAll_27 fl_X12_287 i_164_44 rfl rfl (by decide) ?_
  refine tz_aload_n (pc := 30) dX12_readsAll_30 rfl rfl ?_
  refine tz_iconst (pc := 31) dX12_readsAll_31 ?_
  refine tz_pZ (pc := 32) (kz := 21) dX12_readsAll_32 fl_X12_92 i_164_21 rfl rfl (Or.inl rfl) ?_
  refine tz_iconst (pc := 35) dX12_readsAll_35 ?_
  refine tz_istore_n (pc := 36) (L2 := [_, _, _]) dX12_readsAll_36 rfl (by decide) rfl ?_
  have loop37 : ∀ (f9 : Nat) (k : Int) (J1 : zJ), ((63 - k).toNat) < f9 → (0 ≤ k ∧ k ≤ 63) → (RA J1 J x k) → (J1 164 45 = 0 ∧ J1 164 20 = -1) → tz_At l G M_X12_readsAll (tb_rm 23 0 0) none (tb_ZM G 0 0 (zQ n 0 (zqv (fun J' => (RDf J' J ∧ ∃ s m, TB J' s m) ∧ QR J' (pAl 703 (pN (pG J x)))))) (zX n 0 zN)) 0 0 n J1 37 [some (.ref 164), some (zi x), some (zi k)] [] := by
    intro f9
    induction f9 with
    | zero => intro k J1 hm9; exact absurd hm9 (Nat.not_lt_zero _)
    | succ f9 ih37 =>
      intro k J1 hm37 hk f1 f45
      refine tz_iload_n (pc := 37) dX12_readsAll_37 rfl rfl ?_
      refine tz_bipush (pc := 38) dX12_readsAll_38 (by decide) ?_
      refine tz_icmp_ge (pc := 40) (tgt := 59) dX12_readsAll_40 (by decide) (by omega) (by decide) (fun h_40 => ?_) (fun h_40 => ?_)
      · have k63 : k = 63 := by omega
        have fa := f1
        rw [k63] at fa
        refine tz_aload_n (pc := 59) dX12_readsAll_59 rfl rfl ?_
        refine tz_fR (pc := 60) dX12_readsAll_60 fl_X12_9 r_164_0 ?_
        refine tz_sipush (pc := 63) dX12_readsAll_63 (by decide) ?_
        refine tz_iconst (pc := 66) dX12_readsAll_66 ?_
        refine tz_aS (pc := 67) (z := 165) dX12_readsAll_67 a_165 rfl (by decide) (by decide) ?_
        refine tz_aload_n (pc := 68) dX12_readsAll_68 rfl rfl ?_
        refine tz_sipush (pc := 69) dX12_readsAll_69 (by decide) ?_
        refine tz_pI (pc := 72) (kz := 15) dX12_readsAll_72 fl_X12_71 i_164_15 rfl rfl (by decide) ?_
        refine tz_aload_n (pc := 75) dX12_readsAll_75 rfl rfl ?_
        refine tz_bipush (pc := 76) dX12_readsAll_76 (by decide) ?_
        refine tz_pI (pc := 78) (kz := 16) dX12_readsAll_78 fl_X12_85 i_164_16 rfl rfl (by decide) ?_
        refine tz_aload_n (pc := 81) dX12_readsAll_81 rfl rfl ?_
        refine tz_bipush (pc := 82) dX12_readsAll_82 (by decide) ?_
        refine tz_pI (pc := 84) (kz := 17) dX12_readsAll_84 fl_X12_82 i_164_17 rfl rfl (by decide) ?_
        refine tz_aload_n (pc := 87) dX12_readsAll_87 rfl rfl ?_
        refine tz_cV (pc := 88) (y_go0 hl n _ (pG J x) (fa.em f45) fa.c4.1 fa.c4.2 rfl (pG_s hx)) vl_X12_280 dX12_readsAll_88 o_164 rfl rfl (Nat.le_of_ble_eq_true rfl) ⟨(Nat.le_of_ble_eq_true rfl), (Nat.le_of_ble_eq_true rfl)⟩ rfl rfl (Nat.le_of_ble_eq_true rfl) (Nat.le_of_ble_eq_true rfl) (fun r9 J_88 hq9 => ?_)
        obtain ⟨rfl, g1, g2⟩ := hq9
        have g9 := fa.go g2
        have g8 := RI.in g9.2 (pG_s hx).n g1
        have loop91 : ∀ (f9 : Nat) (J2 : zJ), ((if J2 164 43 = 0 then (rmu J2 + 1).toNat else 0)) < f9 → (RX J2 J) → (∃ s m, TI J2 s m) → (RI J2 (pN (pG J x))) → tz_At l G M_X12_readsAll (tb_rm 23 0 0) none (tb_ZM G 0 0 (zQ n 0 (zqv (fun J' => (RDf J' J ∧ ∃ s m, TB J' s m) ∧ QR J' (pAl 703 (pN (pG J x)))))) (zX n 0 zN)) 0 0 n J2 91 [some (.ref 164), some (zi x), some (zi k)] [] := by
          intro f9
          induction f9 with
          | zero => intro J2 hm9; exact absurd hm9 (Nat.not_lt_zero _)
          | succ f9 ih91 =>
            intro J2 hm91 fx hi hr
            obtain ⟨s, m, ti⟩ := id hi
            obtain ⟨g, kf, hS, hW, ha, hf⟩ := id hr
            refine tz_aload_n (pc := 91) dX12_readsAll_91 rfl rfl ?_
            refine tz_fI (pc := 92) (kz := 43) (v := (J2 164 43)) dX12_readsAll_92 fl_X12_273 i_164_43 rfl rfl (fun r_92 => ?_)
            refine tz_if_ne (pc := 95) (tgt := 118) dX12_readsAll_95 (by decide) (by omega) (fun h_95 => ?_) (fun h_95 => ?_)
            · refine tz_aload_n (pc := 118) dX12_readsAll_118 rfl rfl ?_
              refine tz_aload_n (pc := 119) dX12_readsAll_119 rfl rfl ?_
              refine tz_aload_n (pc := 120) dX12_readsAll_120 rfl rfl ?_
              refine tz_iconst (pc := 121) dX12_readsAll_121 ?_
              refine tz_dup_x1 (pc := 122) dX12_readsAll_122 rfl rfl ?_
              refine tz_pI (pc := 123) (kz := 17) dX12_readsAll_123 fl_X12_82 i_164_17 rfl rfl (by decide) ?_
              refine tz_dup_x1 (pc := 126) dX12_readsAll_126 rfl rfl ?_
              refine tz_pI (pc := 127) (kz := 16) dX12_readsAll_127 fl_X12_85 i_164_16 rfl rfl (by decide) ?_
              refine tz_pI (pc := 130) (kz := 15) dX12_readsAll_130 fl_X12_71 i_164_15 rfl rfl (by decide) ?_
              exact tz_vret (pc := 133) dX12_readsAll_133 rfl (Nat.le_of_ble_eq_true rfl) (Nat.le_of_ble_eq_true rfl) ⟨Nat.le_refl _, Nat.le_add_right _ _⟩ ⟨rfl, ⟨RX.fin fx hi h0, hr.qr (by omega)⟩⟩
            · have h_95b : J2 164 43 = 0 := by omega
              refine tz_aload_n (pc := 98) dX12_readsAll_98 rfl rfl ?_
              refine tz_fI (pc := 99) (kz := 38) (v := (J2 164 38)) dX12_readsAll_99 fl_X12_261 i_164_38 rfl rfl (fun r_99 => ?_)
              refine tz_if_eq (pc := 102) (tgt := 118) dX12_readsAll_102 (by decide) (by omega) (fun h_102 => ?_) (fun h_102 => ?_)
              · refine tz_aload_n (pc := 118) dX12_readsAll_118 rfl rfl ?_
                refine tz_aload_n (pc := 119) dX12_readsAll_119 rfl rfl ?_
                refine tz_aload_n (pc := 120) dX12_readsAll_120 rfl rfl ?_
                refine tz_iconst (pc := 121) dX12_readsAll_121 ?_
                refine tz_dup_x1 (pc := 122) dX12_readsAll_122 rfl rfl ?_
                refine tz_pI (pc := 123) (kz := 17) dX12_readsAll_123 fl_X12_82 i_164_17 rfl rfl (by decide) ?_
                refine tz_dup_x1 (pc := 126) dX12_readsAll_126 rfl rfl ?_
                refine tz_pI (pc := 127) (kz := 16) dX12_readsAll_127 fl_X12_85 i_164_16 rfl rfl (by decide) ?_
                refine tz_pI (pc := 130) (kz := 15) dX12_readsAll_130 fl_X12_71 i_164_15 rfl rfl (by decide) ?_
                exact tz_vret (pc := 133) dX12_readsAll_133 rfl (Nat.le_of_ble_eq_true rfl) (Nat.le_of_ble_eq_true rfl) ⟨Nat.le_refl _, Nat.le_add_right _ _⟩ ⟨rfl, ⟨RX.fin fx hi h0, hr.qr (by omega)⟩⟩
              · refine tz_aload_n (pc := 105) dX12_readsAll_105 rfl rfl ?_
                refine tz_cV (pc := 106) (z_clause1 hl n _ s m g ti hW h_95b hS) vl_X12_331 dX12_readsAll_106 o_164 rfl rfl (Nat.le_of_ble_eq_true rfl) ⟨(Nat.le_of_ble_eq_true rfl), (Nat.le_of_ble_eq_true rfl)⟩ rfl rfl (Nat.le_of_ble_eq_true rfl) (Nat.le_of_ble_eq_true rfl) (fun r9 J_106 hq9 => ?_)
                obtain ⟨rfl, c9, x9⟩ := hq9
                obtain ⟨s2, m2, t2⟩ := c9.2.1
                refine tz_aload_n (pc := 109) dX12_readsAll_109 rfl rfl ?_
                refine tz_bipush (pc := 110) dX12_readsAll_110 (by decide) ?_
                refine tz_cV (pc := 112) (z_sign hl n _ _ (by decide) (pClx g) (x9.imp id (fun q => q.1)) hS.clx t2.2.2.1 (by decide)) vl_X12_296 dX12_readsAll_112 o_164 rfl rfl (Nat.le_of_ble_eq_true rfl) ⟨(Nat.le_of_ble_eq_true rfl), (Nat.le_of_ble_eq_true rfl)⟩ rfl rfl (Nat.le_of_ble_eq_true rfl) (Nat.le_of_ble_eq_true rfl) (fun r9 J_112 hq9 => ?_)
                obtain ⟨rfl, w_112, mu9, y9⟩ := hq9
                refine tz_goto (pc := 115) (tgt := 91) dX12_readsAll_115 (by decide) ?_
                exact ih91 _ (by have e1 := rmu_nn (J := J_112) w_112.2.1.1; have e2 := rmu_nn (J := J2) ti.2.2.1.1; have e3 := c9.2.2.2; rw [if_pos (by omega)] at hm91; split <;> omega) (RX.cl (CLf.rt ((MRT.rf t2.1 t2.2.2.1 t2.2.2.2.1).w w_112)) (RX.cl c9.1 fx)) ⟨_, _, t2.rt ((MRT.rf t2.1 t2.2.2.1 t2.2.2.2.1).w w_112)⟩ (RI.st hS hW ha hf h_95b (by omega) ti.2.2.1.1 x9 y9 w_112 mu9 c9.2.2.2)
        exact loop91 _ _ (Nat.lt_succ_self _) g9.1 ⟨_, _, g9.2⟩ g8
      · refine tz_aload_n (pc := 43) dX12_readsAll_43 rfl rfl ?_
        refine tz_fR (pc := 44) dX12_readsAll_44 fl_X12_9 r_164_0 ?_
        refine tz_bipush (pc := 47) dX12_readsAll_47 (by decide) ?_
        refine tz_iload_n (pc := 49) dX12_readsAll_49 rfl rfl ?_
        refine tz_iadd (pc := 50) (v := 126 + k) dX12_readsAll_50 rfl ?_
        refine tz_iconst (pc := 51) dX12_readsAll_51 ?_
        refine tz_aS (pc := 52) (z := (126 + k)) dX12_readsAll_52 a_165 rfl (by omega) (by decide) ?_
        refine tz_iinc (pc := 53) (z := k + 1) (L2 := [_, _, _]) dX12_readsAll_53 rfl (by omega) rfl ?_
        refine tz_goto (pc := 56) (tgt := 37) dX12_readsAll_56 (by decide) ?_
        exact ih37 (k + 1) _ (by omega) (by omega) (f1.up (by omega)) f45
  exact loop37 _ 0 _ (Nat.lt_succ_self _) (by omega) RA.in ⟨rfl, rfl⟩

end
section
/-! ===== the class follows the reading: leaves ===== -/
/-- the rest of the row -/
def EB (f h : Int → Int) : Prop := f 1 = h 165 ∧ (f 2 = h 187 ∧ f 3 = h 188 ∧ f 6 = 0) ∧ ∀ v, 0 ≤ v → v < 8 → f (7 + v) + 1 = h (127 + v)
/-- the tables of the class, as the reading has them -/
def ET (J g : zJ) : Prop := (J 1 3 = g 164 44 ∧ ∀ k, 0 ≤ k → k < g 164 44 → J 2 k = g 169 (10 + k) ∧ J 3 k = g 170 (10 + k) ∧ J 4 k = g 171 (10 + k)) ∧ (J 6 12 = g 165 126 ∧ (∀ t, 0 ≤ t → t < g 165 126 → J 7 t = g 166 (800 + t) ∧ J 12 t = g 168 (800 + t)) ∧ (∀ t i, 0 ≤ t → t < g 165 126 → 0 ≤ i → i < J 8 t → J 9 (t * 3 + i) = g 167 (3 * (800 + t) + i))) ∧ (J 19 4 = g 165 135 ∧ ∀ i, 0 ≤ i → i < g 165 135 → J 19 (15 + i) = g 165 (136 + 2 * i) ∧ J 19 (23 + i) = g 165 (137 + 2 * i)) ∧ (J 19 5 = g 165 152 ∧ ∀ i, 0 ≤ i → i < g 165 152 → J 19 (31 + i) = g 165 (153 + i)) ∧ EB (J 19) (g 165)
def EC (J g : zJ) : Prop := J 163 4 = g 0 0 ∧ J 162 = g 1 ∧ J 163 10 = g 164 45 ∧ ET J g
def RelC (J g : zJ) : Prop := J 163 8 = g 0 4 ∧ (¬ g 0 4 = 0 → J 163 9 = g 0 5) ∧ (g 0 4 = 0 → (J 163 6 = g 0 1 ∧ J 163 5 = g 0 3 ∧ J 163 7 = g 0 2) ∧ EC J g)
def XC (J g : zJ) : Prop := g 0 4 = 99 ∨ RelC J g
theorem ET.of {J' J g : zJ} (h : ET J g) (f : zOf (zbut [163]) J' J) : ET J' g := by
  unfold ET
  rw [f 1 rfl, f 2 rfl, f 3 rfl, f 4 rfl, f 6 rfl, f 7 rfl, f 8 rfl, f 12 rfl, f 9 rfl, f 19 rfl]
  exact h
theorem ET.g {J g' g : zJ} (h : ET J g) (f : ∀ c, ¬ c = 0 → g' c = g c) : ET J g' := by
  unfold ET
  rw [f 164 (by decide), f 165 (by decide), f 166 (by decide), f 167 (by decide), f 168 (by decide), f 169 (by decide), f 170 (by decide), f 171 (by decide)]
  exact h
theorem XC.bad {J g : zJ} (h : XC J g) (h0 : J 163 8 = 0) : g 0 4 = 99 ∨ (g 0 4 = 0 ∧ RelC J g) := h.imp id (fun q => ⟨by rw [← q.1]; exact h0, q⟩)
theorem XC.no {J g : zJ} (h : XC J g) (h0 : ¬ J 163 8 = 0) : ¬ g 0 4 = 0 := by
  rcases h with q | q
  · omega
  · rw [← q.1]; exact h0
theorem RelC.next {J' J g : zJ} (h : RelC J g) (h0 : g 0 4 = 0) (f : zOf (zbut [163]) J' J ∧ ∀ k, ¬ k = 5 → ¬ k = 6 → ¬ k = 7 → J' 163 k = J 163 k) (e6 : J' 163 6 = tkS (J 162) (J 163 4) (J 163 7)) (e5 : J' 163 5 = tkK (J 162) (J 163 4) (J 163 7)) (e7 : J' 163 7 = tkE (J 162) (J 163 4) (J 163 7)) : RelC J' (pN g) := by
  obtain ⟨h1, h2, h3⟩ := h
  obtain ⟨⟨a1, a2, a3⟩, b1, b2, b3, b4⟩ := h3 h0
  rw [b2, b1, a3] at e6 e5 e7
  refine ⟨by rw [f.2 8 (by decide) (by decide) (by decide)]; exact h1, fun q => absurd h0 q, fun _ => ⟨⟨e6, e5, e7⟩, ?_, ?_, ?_, ?_⟩⟩
  · rw [f.2 4 (by decide) (by decide) (by decide)]; exact b1
  · rw [f.1 162 rfl, pN_c (by decide)]; exact b2
  · rw [f.2 10 (by decide) (by decide) (by decide), pN_c (by decide)]; exact b3
  · exact (b4.of f.1).g (fun c hc => pN_c hc)
theorem w_next {l : Launch} {G : tb_G} (hl : l.stackTraces = false) (n : Nat) (J : zJ) (g : zJ) (hD : RD2 J) (hX : XC J g) (hb : J 163 8 = 0) : tz_Ok l G M_X5_next 1 0 0 [.ref 163] n J (zqv (fun J' => RN J' J ∧ RD2 J' ∧ J' 163 8 = J 163 8 ∧ XC J' (pNx g))) zN := by
  obtain ⟨⟨d1, d2⟩, d3⟩ := id hD
  rcases hX.bad hb with q | ⟨q, hR⟩
  · exact (c_next hl n J (by omega) d2.2).mono (fun r J' _ ⟨a, b, c, d⟩ => ⟨a, b, c, d, by unfold pNx; rw [if_neg (by omega)]; exact Or.inl q⟩) (fun _ _ _ h => h)
  · refine (x_next hl n J (by omega) d2.2).mono (fun r J' _ ⟨a, f, e6, e5, e7⟩ => ⟨a, ?_⟩) (fun _ _ _ h => h)
    have e8 := f.2 8 (by decide) (by decide) (by decide)
    have e4 := f.2 4 (by decide) (by decide) (by decide)
    have rg := tk_rg (f := J 162) (N := J 163 4) (a := J 163 7) (by omega)
    refine ⟨⟨f.1, e4, fun p => by rw [← e8]; exact p⟩, ⟨⟨?_, ?_⟩, ?_⟩, e8, by unfold pNx; rw [if_pos q]; exact Or.inr (hR.next q f e6 e5 e7)⟩
    · rw [e6, e7]; omega
    · rw [e7, e4]; omega
    · rw [e5, e6, e4]
      exact rg.2.imp id (fun p => p.1)
theorem RelC.fail {J g : zJ} {c : Int} (h : RelC J g) (h0 : g 0 4 = 0) (hc : ¬ c = 0) : RelC (zup (zup J 163 8 c) 163 9 (J 163 6)) (pF g c) := by
  obtain ⟨h1, h2, h3⟩ := h
  obtain ⟨⟨a1, a2, a3⟩, _⟩ := h3 h0
  exact ⟨rfl, fun _ => a1, fun q => absurd q hc⟩
set_option maxHeartbeats 4000000 in
set_option maxRecDepth 100000 in
theorem x_failC {l : Launch} {G : tb_G} (hl : l.stackTraces = false) (n : Nat) (J : zJ) (k : Int) (hr_k : -2147483648 ≤ k ∧ k < 2147483648)  (hk : ¬ k = 0) : tz_Ok l G M_X5_fail 0 0 0 [.ref 163, zi k] n J (zqi (fun z J' => z = -1 ∧ ((J 163 8 = 0 ∧ J' = zup (zup J 163 8 k) 163 9 (J 163 6)) ∨ (¬ J 163 8 = 0 ∧ J = J')))) zN := by
  refine tz_Ok.of hl (by decide +kernel) rfl (tb_c1 rfl) (Nat.le_of_ble_eq_true rfl) ?_
  show tz_At l G M_X5_fail (tb_rm 0 0 0) none (tb_ZM G 0 0 (zQ n 0 (zqi (fun z J' => z = -1 ∧ ((J 163 8 = 0 ∧ J' = zup (zup J 163 8 k) 163 9 (J 163 6)) ∨ (¬ J 163 8 = 0 ∧ J = J'))))) (zX n 0 zN)) 0 0 n J 0 [some (.ref 163), some (zi k)] []
  refine tz_aload_n (pc := 0) dX5_fail_0 rfl rfl ?_
  refine tz_fI (pc := 1) (kz := 8) (v := (J 163 8)) dX5_fail_1 fl_X5_24 i_163_8 rfl rfl (fun r_1 => ?_)
  refine tz_if_ne (pc := 4) (tgt := 20) dX5_fail_4 (by decide) (by omega) (fun h_4 => ?_) (fun h_4 => ?_)
  · refine tz_iconst (pc := 20) dX5_fail_20 ?_
    exact tz_iret (pc := 21) (z := (-1)) dX5_fail_21 rfl (Nat.le_of_ble_eq_true rfl) (Nat.le_of_ble_eq_true rfl) ⟨Nat.le_refl _, Nat.le_add_right _ _⟩ ⟨_, rfl, (by decide), ⟨rfl, by first | exact Or.inl ⟨by omega, rfl⟩ | exact Or.inr ⟨by omega, rfl⟩⟩⟩
  · refine tz_aload_n (pc := 7) dX5_fail_7 rfl rfl ?_
    refine tz_iload_n (pc := 8) dX5_fail_8 rfl rfl ?_
    refine tz_pI (pc := 9) (kz := 8) dX5_fail_9 fl_X5_24 i_163_8 rfl rfl (by omega) ?_
    refine tz_aload_n (pc := 12) dX5_fail_12 rfl rfl ?_
    refine tz_aload_n (pc := 13) dX5_fail_13 rfl rfl ?_
    refine tz_fI (pc := 14) (kz := 6) (v := (J 163 6)) dX5_fail_14 fl_X5_18 i_163_6 rfl rfl (fun r_14 => ?_)
    refine tz_pI (pc := 17) (kz := 9) dX5_fail_17 fl_X5_27 i_163_9 rfl rfl (by omega) ?_
    refine tz_iconst (pc := 20) dX5_fail_20 ?_
    exact tz_iret (pc := 21) (z := (-1)) dX5_fail_21 rfl (Nat.le_of_ble_eq_true rfl) (Nat.le_of_ble_eq_true rfl) ⟨Nat.le_refl _, Nat.le_add_right _ _⟩ ⟨_, rfl, (by decide), ⟨rfl, by first | exact Or.inl ⟨by omega, rfl⟩ | exact Or.inr ⟨by omega, rfl⟩⟩⟩

theorem w_fail {l : Launch} {G : tb_G} (hl : l.stackTraces = false) (n : Nat) (J : zJ) (k : Int) (hr_k : -2147483648 ≤ k ∧ k < 2147483648) (g : zJ) (hk : ¬ k = 0) (hX : XC J g) : tz_Ok l G M_X5_fail 0 0 0 [.ref 163, zi k] n J (zqi (fun z J' => RN J' J ∧ (RD2 J → RD2 J') ∧ z = -1 ∧ ¬ J' 163 8 = 0 ∧ XC J' (pFx g k))) zN := by
  refine (x_failC hl n J k hr_k hk).mono (fun r J' _ ⟨z, a, b, c, d⟩ => ⟨z, a, b, ?_⟩) (fun _ _ _ h => h)
  rcases d with ⟨p, e⟩ | ⟨p, e⟩
  · subst e
    refine ⟨⟨zOf.up rfl (zOf.up rfl zOf.rf), rfl, fun _ => p⟩, id, c, hk, ?_⟩
    unfold pFx
    rcases hX.bad p with q | ⟨q, hR⟩
    · rw [if_neg (by omega)]; exact Or.inl q
    · rw [if_pos q]; exact Or.inr (hR.fail q hk)
  · subst e
    refine ⟨RN.rf, id, c, p, ?_⟩
    unfold pFx
    rw [if_neg (hX.no p)]
    exact hX
theorem XC.k {J g : zJ} (h : XC J g) (h0 : J 163 8 = 0) : g 0 4 = 99 ∨ (g 0 4 = 0 ∧ g 0 3 = J 163 5 ∧ g 0 2 = J 163 7 ∧ g 0 1 = J 163 6 ∧ g 1 = J 162 ∧ EC J g) := (h.bad h0).imp id (fun q => by
  obtain ⟨a, b⟩ := q.2.2.2 q.1
  exact ⟨q.1, a.2.1.symm, a.2.2.symm, a.1.symm, b.2.1.symm, b⟩)
theorem pP_1 {J g : zJ} {k : Int} (h : XC J g) (h0 : J 163 8 = 0) (hk : J 163 5 = k) : pP g k = pNx g := by
  unfold pP pNx
  rcases h.k h0 with q | ⟨q, e, _⟩
  · rw [if_neg (by omega), if_neg (by omega)]
  · rw [if_pos q, if_pos q, if_pos (by omega)]
theorem pP_2 {J g : zJ} {k : Int} (h : XC J g) (h0 : J 163 8 = 0) (hk : ¬ J 163 5 = k) : pP g k = pFx g 1 := by
  unfold pP pFx
  rcases h.k h0 with q | ⟨q, e, _⟩
  · rw [if_neg (by omega), if_neg (by omega)]
  · rw [if_pos q, if_pos q, if_neg (by omega)]
theorem pU_1 {J g : zJ} {a b : Int} (h : XC J g) (h0 : J 163 8 = 0) (hk : ¬ J 163 5 = 3) : (pU g a b).1 = pFx g 1 := by
  unfold pU pFx
  rcases h.k h0 with q | ⟨q, e, _⟩
  · rw [if_neg (by omega), if_neg (by omega)]
  · rw [if_pos q, if_pos q, if_neg (by omega)]
theorem zw48 {x a b : Int} (hx : -2147483648 ≤ x ∧ x < 2147483648) (ha : 0 ≤ a) (hb : b ≤ 9) : (a ≤ zw (x - 48) ∧ zw (x - 48) ≤ b ∧ zw (x - 48) = x - 48) ∨ (¬ (a ≤ zw (x - 48) ∧ zw (x - 48) ≤ b) ∧ ¬ (a ≤ x - 48 ∧ x - 48 ≤ b)) := by
  by_cases h : -2147483648 ≤ x - 48
  · rw [zw_eq (by omega)]
    omega
  · refine Or.inr ⟨?_, by omega⟩
    have e : zw (x - 48) = x - 48 + 4294967296 := by
      unfold zw
      rw [Int32.toInt_ofInt]
      show Int.bmod (x - 48) 4294967296 = _
      unfold Int.bmod
      show (if (x - 48) % 4294967296 < (4294967296 + 1) / 2 then (x - 48) % 4294967296 else (x - 48) % 4294967296 - 4294967296) = _
      split <;> omega
    omega
theorem XC.w {J g : zJ} (h : XC J g) (hS : SI g) (h0 : J 163 8 = 0) (hk : ¬ J 163 5 = 0) : g 0 4 = 99 ∨ J 163 6 < J 163 7 := by
  rcases h.k h0 with q | ⟨q, e3, e2, e1, e, _⟩
  · exact Or.inl q
  · have := hS.2.2
    omega
theorem pU_2 {J g : zJ} {a b : Int} (h : XC J g) (h0 : J 163 8 = 0) (hk : J 163 5 = 3) (hx : -2147483648 ≤ J 162 (J 163 6) ∧ J 162 (J 163 6) < 2147483648) (ha : a = 0 ∨ a = 1) (hb : 0 ≤ b ∧ b ≤ 9) (hn : ¬ (J 163 7 - J 163 6 ≤ 1 ∧ a ≤ zw (J 162 (J 163 6) - 48) ∧ zw (J 162 (J 163 6) - 48) ≤ b)) : (pU g a b).1 = pFx g 2 := by
  have w := zw48 (a := a) (b := b) hx (by omega) hb.2
  unfold pU pFx
  rcases h.k h0 with q | ⟨q, e3, e2, e1, e, _⟩
  · rw [if_neg (by omega), if_neg (by omega)]
  · rw [if_pos q, if_pos q, if_pos (by omega), e1, e2, e, if_neg (by omega)]
theorem pU_3 {J g : zJ} {a b : Int} (h : XC J g) (hS : SI g) (h0 : J 163 8 = 0) (hk : J 163 5 = 3) (hx : -2147483648 ≤ J 162 (J 163 6) ∧ J 162 (J 163 6) < 2147483648) (ha : a = 0 ∨ a = 1) (hb : 0 ≤ b ∧ b ≤ 9) (hn : J 163 7 - J 163 6 ≤ 1 ∧ a ≤ zw (J 162 (J 163 6) - 48) ∧ zw (J 162 (J 163 6) - 48) ≤ b) : (pU g a b).1 = pNx g ∧ (g 0 4 = 99 ∨ (pU g a b).2 = zw (J 162 (J 163 6) - 48)) := by
  have w := zw48 (a := a) (b := b) hx (by omega) hb.2
  have v := h.w hS h0 (by omega)
  unfold pU pNx
  rcases h.k h0 with q | ⟨q, e3, e2, e1, e, _⟩
  · rw [if_neg (by omega), if_neg (by omega)]
    exact ⟨rfl, Or.inl q⟩
  · rw [if_pos q, if_pos q, if_pos (by omega), e1, e2, e, if_pos (by omega)]
    exact ⟨rfl, Or.inr (by show J 162 (J 163 6) - 48 = _; omega)⟩
theorem pFx_n {g : zJ} {c : Int} (hc : ¬ c = 0) : ¬ pFx g c 0 4 = 0 := by
  unfold pFx
  split
  · exact hc
  · next q => exact q
theorem pNx_4 {g : zJ} : pNx g 0 4 = g 0 4 := by
  unfold pNx
  split
  · rfl
  · rfl
set_option maxHeartbeats 4000000 in
set_option maxRecDepth 100000 in
theorem w_pass {l : Launch} {G : tb_G} (hl : l.stackTraces = false) (n : Nat) (J : zJ) (k : Int) (hr_k : -2147483648 ≤ k ∧ k < 2147483648) (g : zJ) (hD : RD2 J) (hX : XC J g) (hS : SI g) : tz_Ok l G M_X5_pass 2 0 0 [.ref 163, zi k] n J (zqv (fun J' => RN J' J ∧ RD2 J' ∧ XC J' (pP g k))) zN := by
  refine tz_Ok.of hl (by decide +kernel) rfl (tb_c1 rfl) (Nat.le_of_ble_eq_true rfl) ?_
  show tz_At l G M_X5_pass (tb_rm 2 0 0) none (tb_ZM G 0 0 (zQ n 0 (zqv (fun J' => RN J' J ∧ RD2 J' ∧ XC J' (pP g k)))) (zX n 0 zN)) 0 0 n J 0 [some (.ref 163), some (zi k)] []
  refine tz_aload_n (pc := 0) dX5_pass_0 rfl rfl ?_
  refine tz_fI (pc := 1) (kz := 8) (v := (J 163 8)) dX5_pass_1 fl_X5_24 i_163_8 rfl rfl (fun r_1 => ?_)
  refine tz_if_eq (pc := 4) (tgt := 8) dX5_pass_4 (by decide) (by omega) (fun h_4 => ?_) (fun h_4 => ?_)
  · refine tz_aload_n (pc := 8) dX5_pass_8 rfl rfl ?_
    refine tz_fI (pc := 9) (kz := 5) (v := (J 163 5)) dX5_pass_9 fl_X5_15 i_163_5 rfl rfl (fun r_9 => ?_)
    refine tz_iload_n (pc := 12) dX5_pass_12 rfl rfl ?_
    refine tz_icmp_eq (pc := 13) (tgt := 23) dX5_pass_13 (by decide) (by omega) (by omega) (fun h_13 => ?_) (fun h_13 => ?_)
    · refine tz_aload_n (pc := 23) dX5_pass_23 rfl rfl ?_
      refine tz_cV (pc := 24) (w_next hl n _ g hD hX (by omega)) vl_X5_65 dX5_pass_24 o_163 rfl rfl (Nat.le_of_ble_eq_true rfl) ⟨(Nat.le_of_ble_eq_true rfl), (Nat.le_of_ble_eq_true rfl)⟩ rfl rfl (Nat.le_of_ble_eq_true rfl) (Nat.le_of_ble_eq_true rfl) (fun r9 J_24 hq9 => ?_)
      obtain ⟨rfl, g9, d9, v9, x9⟩ := hq9
      exact tz_vret (pc := 27) dX5_pass_27 rfl (Nat.le_of_ble_eq_true rfl) (Nat.le_of_ble_eq_true rfl) ⟨Nat.le_refl _, Nat.le_add_right _ _⟩ ⟨rfl, (by first | exact ⟨g9, d9 hD, by rw [pP_2 hX (by omega) (by omega)]; exact x9⟩ | exact ⟨g9, d9, by rw [pP_1 hX (by omega) (by omega)]; exact x9⟩ | exact ⟨RN.rf, hD, by rw [pP_f (hX.no (by omega))]; exact hX⟩)⟩
    · refine tz_aload_n (pc := 16) dX5_pass_16 rfl rfl ?_
      refine tz_iconst (pc := 17) dX5_pass_17 ?_
      refine tz_cV (pc := 18) (w_fail hl n _ _ (by decide) g (by decide) hX) vl_X5_97 dX5_pass_18 o_163 rfl rfl (Nat.le_of_ble_eq_true rfl) ⟨(Nat.le_of_ble_eq_true rfl), (Nat.le_of_ble_eq_true rfl)⟩ rfl rfl (Nat.le_of_ble_eq_true rfl) (Nat.le_of_ble_eq_true rfl) (fun r9 J_18 hq9 => ?_)
      obtain ⟨z_18, rfl, hz_18, g9, d9, e9, v9, x9⟩ := hq9
      refine tz_pop (pc := 21) dX5_pass_21 rfl ?_
      exact tz_vret (pc := 22) dX5_pass_22 rfl (Nat.le_of_ble_eq_true rfl) (Nat.le_of_ble_eq_true rfl) ⟨Nat.le_refl _, Nat.le_add_right _ _⟩ ⟨rfl, (by first | exact ⟨g9, d9 hD, by rw [pP_2 hX (by omega) (by omega)]; exact x9⟩ | exact ⟨g9, d9, by rw [pP_1 hX (by omega) (by omega)]; exact x9⟩ | exact ⟨RN.rf, hD, by rw [pP_f (hX.no (by omega))]; exact hX⟩)⟩
  · exact tz_vret (pc := 7) dX5_pass_7 rfl (Nat.le_of_ble_eq_true rfl) (Nat.le_of_ble_eq_true rfl) ⟨Nat.le_refl _, Nat.le_add_right _ _⟩ ⟨rfl, (by first | exact ⟨g9, d9 hD, by rw [pP_2 hX (by omega) (by omega)]; exact x9⟩ | exact ⟨g9, d9, by rw [pP_1 hX (by omega) (by omega)]; exact x9⟩ | exact ⟨RN.rf, hD, by rw [pP_f (hX.no (by omega))]; exact hX⟩)⟩

set_option maxHeartbeats 4000000 in
set_option maxRecDepth 100000 in
theorem w_readNum {l : Launch} {G : tb_G} (hl : l.stackTraces = false) (n : Nat) (J : zJ) (a : Int) (b : Int) (hr_a : -2147483648 ≤ a ∧ a < 2147483648) (hr_b : -2147483648 ≤ b ∧ b < 2147483648) (g : zJ) (hD : RD2 J) (hX : XC J g) (hS : SI g) (ha : a = 0 ∨ a = 1) (hb : 0 ≤ b ∧ b ≤ 9) : tz_Ok l G M_X5_readNumber 2 0 0 [.ref 163, zi a, zi b] n J (zqi (fun z J' => RN J' J ∧ RD2 J' ∧ (J' 163 8 = 0 → a ≤ z ∧ z ≤ b) ∧ XC J' (pU g a b).1 ∧ VQ z (pU g a b))) zN := by
  refine tz_Ok.of hl (by decide +kernel) rfl (tb_c1 rfl) (Nat.le_of_ble_eq_true rfl) ?_
  show tz_At l G M_X5_readNumber (tb_rm 2 0 0) none (tb_ZM G 0 0 (zQ n 0 (zqi (fun z J' => RN J' J ∧ RD2 J' ∧ (J' 163 8 = 0 → a ≤ z ∧ z ≤ b) ∧ XC J' (pU g a b).1 ∧ VQ z (pU g a b)))) (zX n 0 zN)) 0 0 n J 0 [some (.ref 163), some (zi a), some (zi b), none] []
  obtain ⟨⟨⟨hD1, hD2⟩, hD3, hD4⟩, hD5⟩ := id hD
  refine tz_aload_n (pc := 0) dX5_readNumber_0 rfl rfl ?_
  refine tz_fI (pc := 1) (kz := 8) (v := (J 163 8)) dX5_readNumber_1 fl_X5_24 i_163_8 rfl rfl (fun r_1 => ?_)
  refine tz_if_eq (pc := 4) (tgt := 9) dX5_readNumber_4 (by decide) (by omega) (fun h_4 => ?_) (fun h_4 => ?_)
  · refine tz_aload_n (pc := 9) dX5_readNumber_9 rfl rfl ?_
    refine tz_fI (pc := 10) (kz := 5) (v := (J 163 5)) dX5_readNumber_10 fl_X5_15 i_163_5 rfl rfl (fun r_10 => ?_)
    refine tz_iconst (pc := 13) dX5_readNumber_13 ?_
    refine tz_icmp_eq (pc := 14) (tgt := 23) dX5_readNumber_14 (by decide) (by omega) (by decide) (fun h_14 => ?_) (fun h_14 => ?_)
    · refine tz_aload_n (pc := 23) dX5_readNumber_23 rfl rfl ?_
      refine tz_fR (pc := 24) dX5_readNumber_24 fl_X5_34 r_163_0 ?_
      refine tz_aload_n (pc := 27) dX5_readNumber_27 rfl rfl ?_
      refine tz_fI (pc := 28) (kz := 6) (v := (J 163 6)) dX5_readNumber_28 fl_X5_18 i_163_6 rfl rfl (fun r_28 => ?_)
      refine tz_aL (pc := 31) (z := (J 163 6)) (v := (J 162 (J 163 6))) dX5_readNumber_31 a_162 rfl (by omega) rfl (fun r_31 => ?_)
      refine tz_bipush (pc := 32) dX5_readNumber_32 (by decide) ?_
      refine tz_isub (pc := 34) (v := (J 162 (J 163 6)) - 48) dX5_readNumber_34 rfl ?_
      refine tz_tw ?_
      have rw_35 := zw_rg ((J 162 (J 163 6)) - 48)
      refine tz_istore_n (pc := 35) (L2 := [_, _, _, _]) dX5_readNumber_35 rfl (by decide) rfl ?_
      refine tz_aload_n (pc := 36) dX5_readNumber_36 rfl rfl ?_
      refine tz_fI (pc := 37) (kz := 7) (v := (J 163 7)) dX5_readNumber_37 fl_X5_21 i_163_7 rfl rfl (fun r_37 => ?_)
      refine tz_aload_n (pc := 40) dX5_readNumber_40 rfl rfl ?_
      refine tz_fI (pc := 41) (kz := 6) (v := (J 163 6)) dX5_readNumber_41 fl_X5_18 i_163_6 rfl rfl (fun r_41 => ?_)
      refine tz_isub (pc := 44) (v := (J 163 7) - (J 163 6)) dX5_readNumber_44 rfl ?_
      refine tz_iconst (pc := 45) dX5_readNumber_45 ?_
      refine tz_icmp_gt (pc := 46) (tgt := 59) dX5_readNumber_46 (by decide) (by omega) (by decide) (fun h_46 => ?_) (fun h_46 => ?_)
      · refine tz_aload_n (pc := 59) dX5_readNumber_59 rfl rfl ?_
        refine tz_iconst (pc := 60) dX5_readNumber_60 ?_
        refine tz_cV (pc := 61) (w_fail hl n _ _ (by decide) g (by decide) hX) vl_X5_97 dX5_readNumber_61 o_163 rfl rfl (Nat.le_of_ble_eq_true rfl) ⟨(Nat.le_of_ble_eq_true rfl), (Nat.le_of_ble_eq_true rfl)⟩ rfl rfl (Nat.le_of_ble_eq_true rfl) (Nat.le_of_ble_eq_true rfl) (fun r9 J_61 hq9 => ?_)
        obtain ⟨z_61, rfl, hz_61, g9, d9, e9, v9, x9⟩ := hq9
        exact tz_iret (pc := 64) (z := z_61) dX5_readNumber_64 rfl (Nat.le_of_ble_eq_true rfl) (Nat.le_of_ble_eq_true rfl) ⟨Nat.le_refl _, Nat.le_add_right _ _⟩ ⟨_, rfl, (by omega), (by first | exact ⟨RN.rf, hD, fun q => by omega, by rw [pU_f (hX.no (by omega))]; exact hX, fun q => by rw [pU_f (hX.no (by omega))] at q; exact absurd q (hX.no (by omega))⟩ | exact ⟨g9, d9 hD, fun q => absurd q v9, by rw [pU_1 hX (by omega) (by omega)]; exact x9, fun q => by rw [pU_1 hX (by omega) (by omega)] at q; exact absurd q (pFx_n (by decide))⟩ | exact ⟨g9, d9 hD, fun q => absurd q v9, by rw [pU_2 hX (by omega) (by omega) (by omega) ha hb (by omega)]; exact x9, fun q => by rw [pU_2 hX (by omega) (by omega) (by omega) ha hb (by omega)] at q; exact absurd q (pFx_n (by decide))⟩ | exact ⟨g9, d9, fun q => by omega, by rw [(pU_3 hX hS (by omega) (by omega) (by omega) ha hb (by omega)).1]; exact x9, fun q => by have u := pU_3 hX hS (by omega) (by omega) (by omega) ha hb (by omega); rw [u.1, pNx_4] at q; rcases u.2 with p | p; omega; exact p.symm⟩)⟩
      · refine tz_iload_n (pc := 49) dX5_readNumber_49 rfl rfl ?_
        refine tz_iload_n (pc := 50) dX5_readNumber_50 rfl rfl ?_
        refine tz_icmp_lt (pc := 51) (tgt := 59) dX5_readNumber_51 (by decide) (zw_rg _) (by omega) (fun h_51 => ?_) (fun h_51 => ?_)
        · refine tz_aload_n (pc := 59) dX5_readNumber_59 rfl rfl ?_
          refine tz_iconst (pc := 60) dX5_readNumber_60 ?_
          refine tz_cV (pc := 61) (w_fail hl n _ _ (by decide) g (by decide) hX) vl_X5_97 dX5_readNumber_61 o_163 rfl rfl (Nat.le_of_ble_eq_true rfl) ⟨(Nat.le_of_ble_eq_true rfl), (Nat.le_of_ble_eq_true rfl)⟩ rfl rfl (Nat.le_of_ble_eq_true rfl) (Nat.le_of_ble_eq_true rfl) (fun r9 J_61 hq9 => ?_)
          obtain ⟨z_61, rfl, hz_61, g9, d9, e9, v9, x9⟩ := hq9
          exact tz_iret (pc := 64) (z := z_61) dX5_readNumber_64 rfl (Nat.le_of_ble_eq_true rfl) (Nat.le_of_ble_eq_true rfl) ⟨Nat.le_refl _, Nat.le_add_right _ _⟩ ⟨_, rfl, (by omega), (by first | exact ⟨RN.rf, hD, fun q => by omega, by rw [pU_f (hX.no (by omega))]; exact hX, fun q => by rw [pU_f (hX.no (by omega))] at q; exact absurd q (hX.no (by omega))⟩ | exact ⟨g9, d9 hD, fun q => absurd q v9, by rw [pU_1 hX (by omega) (by omega)]; exact x9, fun q => by rw [pU_1 hX (by omega) (by omega)] at q; exact absurd q (pFx_n (by decide))⟩ | exact ⟨g9, d9 hD, fun q => absurd q v9, by rw [pU_2 hX (by omega) (by omega) (by omega) ha hb (by omega)]; exact x9, fun q => by rw [pU_2 hX (by omega) (by omega) (by omega) ha hb (by omega)] at q; exact absurd q (pFx_n (by decide))⟩ | exact ⟨g9, d9, fun q => by omega, by rw [(pU_3 hX hS (by omega) (by omega) (by omega) ha hb (by omega)).1]; exact x9, fun q => by have u := pU_3 hX hS (by omega) (by omega) (by omega) ha hb (by omega); rw [u.1, pNx_4] at q; rcases u.2 with p | p; omega; exact p.symm⟩)⟩
        · refine tz_iload_n (pc := 54) dX5_readNumber_54 rfl rfl ?_
          refine tz_iload_n (pc := 55) dX5_readNumber_55 rfl rfl ?_
          refine tz_icmp_le (pc := 56) (tgt := 65) dX5_readNumber_56 (by decide) (zw_rg _) (by omega) (fun h_56 => ?_) (fun h_56 => ?_)
          · refine tz_aload_n (pc := 65) dX5_readNumber_65 rfl rfl ?_
            refine tz_cV (pc := 66) (w_next hl n _ g hD hX (by omega)) vl_X5_65 dX5_readNumber_66 o_163 rfl rfl (Nat.le_of_ble_eq_true rfl) ⟨(Nat.le_of_ble_eq_true rfl), (Nat.le_of_ble_eq_true rfl)⟩ rfl rfl (Nat.le_of_ble_eq_true rfl) (Nat.le_of_ble_eq_true rfl) (fun r9 J_66 hq9 => ?_)
            obtain ⟨rfl, g9, d9, v9, x9⟩ := hq9
            refine tz_iload_n (pc := 69) dX5_readNumber_69 rfl rfl ?_
            exact tz_iret (pc := 70) (z := (zw ((J 162 (J 163 6)) - 48))) dX5_readNumber_70 rfl (Nat.le_of_ble_eq_true rfl) (Nat.le_of_ble_eq_true rfl) ⟨Nat.le_refl _, Nat.le_add_right _ _⟩ ⟨_, rfl, (zw_rg _), (by first | exact ⟨RN.rf, hD, fun q => by omega, by rw [pU_f (hX.no (by omega))]; exact hX, fun q => by rw [pU_f (hX.no (by omega))] at q; exact absurd q (hX.no (by omega))⟩ | exact ⟨g9, d9 hD, fun q => absurd q v9, by rw [pU_1 hX (by omega) (by omega)]; exact x9, fun q => by rw [pU_1 hX (by omega) (by omega)] at q; exact absurd q (pFx_n (by decide))⟩ | exact ⟨g9, d9 hD, fun q => absurd q v9, by rw [pU_2 hX (by omega) (by omega) (by omega) ha hb (by omega)]; exact x9, fun q => by rw [pU_2 hX (by omega) (by omega) (by omega) ha hb (by omega)] at q; exact absurd q (pFx_n (by decide))⟩ | exact ⟨g9, d9, fun q => by omega, by rw [(pU_3 hX hS (by omega) (by omega) (by omega) ha hb (by omega)).1]; exact x9, fun q => by have u := pU_3 hX hS (by omega) (by omega) (by omega) ha hb (by omega); rw [u.1, pNx_4] at q; rcases u.2 with p | p; omega; exact p.symm⟩)⟩
          · refine tz_aload_n (pc := 59) dX5_readNumber_59 rfl rfl ?_
            refine tz_iconst (pc := 60) dX5_readNumber_60 ?_
            refine tz_cV (pc := 61) (w_fail hl n _ _ (by decide) g (by decide) hX) vl_X5_97 dX5_readNumber_61 o_163 rfl rfl (Nat.le_of_ble_eq_true rfl) ⟨(Nat.le_of_ble_eq_true rfl), (Nat.le_of_ble_eq_true rfl)⟩ rfl rfl (Nat.le_of_ble_eq_true rfl) (Nat.le_of_ble_eq_true rfl) (fun r9 J_61 hq9 => ?_)
            obtain ⟨z_61, rfl, hz_61, g9, d9, e9, v9, x9⟩ := hq9
            exact tz_iret (pc := 64) (z := z_61) dX5_readNumber_64 rfl (Nat.le_of_ble_eq_true rfl) (Nat.le_of_ble_eq_true rfl) ⟨Nat.le_refl _, Nat.le_add_right _ _⟩ ⟨_, rfl, (by omega), (by first | exact ⟨RN.rf, hD, fun q => by omega, by rw [pU_f (hX.no (by omega))]; exact hX, fun q => by rw [pU_f (hX.no (by omega))] at q; exact absurd q (hX.no (by omega))⟩ | exact ⟨g9, d9 hD, fun q => absurd q v9, by rw [pU_1 hX (by omega) (by omega)]; exact x9, fun q => by rw [pU_1 hX (by omega) (by omega)] at q; exact absurd q (pFx_n (by decide))⟩ | exact ⟨g9, d9 hD, fun q => absurd q v9, by rw [pU_2 hX (by omega) (by omega) (by omega) ha hb (by omega)]; exact x9, fun q => by rw [pU_2 hX (by omega) (by omega) (by omega) ha hb (by omega)] at q; exact absurd q (pFx_n (by decide))⟩ | exact ⟨g9, d9, fun q => by omega, by rw [(pU_3 hX hS (by omega) (by omega) (by omega) ha hb (by omega)).1]; exact x9, fun q => by have u := pU_3 hX hS (by omega) (by omega) (by omega) ha hb (by omega); rw [u.1, pNx_4] at q; rcases u.2 with p | p; omega; exact p.symm⟩)⟩
    · refine tz_aload_n (pc := 17) dX5_readNumber_17 rfl rfl ?_
      refine tz_iconst (pc := 18) dX5_readNumber_18 ?_
      refine tz_cV (pc := 19) (w_fail hl n _ _ (by decide) g (by decide) hX) vl_X5_97 dX5_readNumber_19 o_163 rfl rfl (Nat.le_of_ble_eq_true rfl) ⟨(Nat.le_of_ble_eq_true rfl), (Nat.le_of_ble_eq_true rfl)⟩ rfl rfl (Nat.le_of_ble_eq_true rfl) (Nat.le_of_ble_eq_true rfl) (fun r9 J_19 hq9 => ?_)
      obtain ⟨z_19, rfl, hz_19, g9, d9, e9, v9, x9⟩ := hq9
      exact tz_iret (pc := 22) (z := z_19) dX5_readNumber_22 rfl (Nat.le_of_ble_eq_true rfl) (Nat.le_of_ble_eq_true rfl) ⟨Nat.le_refl _, Nat.le_add_right _ _⟩ ⟨_, rfl, (by omega), (by first | exact ⟨RN.rf, hD, fun q => by omega, by rw [pU_f (hX.no (by omega))]; exact hX, fun q => by rw [pU_f (hX.no (by omega))] at q; exact absurd q (hX.no (by omega))⟩ | exact ⟨g9, d9 hD, fun q => absurd q v9, by rw [pU_1 hX (by omega) (by omega)]; exact x9, fun q => by rw [pU_1 hX (by omega) (by omega)] at q; exact absurd q (pFx_n (by decide))⟩ | exact ⟨g9, d9 hD, fun q => absurd q v9, by rw [pU_2 hX (by omega) (by omega) (by omega) ha hb (by omega)]; exact x9, fun q => by rw [pU_2 hX (by omega) (by omega) (by omega) ha hb (by omega)] at q; exact absurd q (pFx_n (by decide))⟩ | exact ⟨g9, d9, fun q => by omega, by rw [(pU_3 hX hS (by omega) (by omega) (by omega) ha hb (by omega)).1]; exact x9, fun q => by have u := pU_3 hX hS (by omega) (by omega) (by omega) ha hb (by omega); rw [u.1, pNx_4] at q; rcases u.2 with p | p; omega; exact p.symm⟩)⟩
  · refine tz_iconst (pc := 7) dX5_readNumber_7 ?_
    exact tz_iret (pc := 8) (z := (-1)) dX5_readNumber_8 rfl (Nat.le_of_ble_eq_true rfl) (Nat.le_of_ble_eq_true rfl) ⟨Nat.le_refl _, Nat.le_add_right _ _⟩ ⟨_, rfl, (by decide), (by first | exact ⟨RN.rf, hD, fun q => by omega, by rw [pU_f (hX.no (by omega))]; exact hX, fun q => by rw [pU_f (hX.no (by omega))] at q; exact absurd q (hX.no (by omega))⟩ | exact ⟨g9, d9 hD, fun q => absurd q v9, by rw [pU_1 hX (by omega) (by omega)]; exact x9, fun q => by rw [pU_1 hX (by omega) (by omega)] at q; exact absurd q (pFx_n (by decide))⟩ | exact ⟨g9, d9 hD, fun q => absurd q v9, by rw [pU_2 hX (by omega) (by omega) (by omega) ha hb (by omega)]; exact x9, fun q => by rw [pU_2 hX (by omega) (by omega) (by omega) ha hb (by omega)] at q; exact absurd q (pFx_n (by decide))⟩ | exact ⟨g9, d9, fun q => by omega, by rw [(pU_3 hX hS (by omega) (by omega) (by omega) ha hb (by omega)).1]; exact x9, fun q => by have u := pU_3 hX hS (by omega) (by omega) (by omega) ha hb (by omega); rw [u.1, pNx_4] at q; rcases u.2 with p | p; omega; exact p.symm⟩)⟩

end
section
/-! ===== terms that the class makes: those of the reading ===== -/
theorem isT_u {J : zJ} {m h a b c q q' : Int} (C : CT J m) (hh : h < J 1 3) (hq : 0 ≤ q ∧ q < m) (hq' : 0 ≤ q' ∧ q' < m) (e : isT J q h a b c) (e' : isT J q' h a b c) : q = q' := by
  have hA := arh_rg C.1.1.1 hh
  refine C.1.1.2.2.2 q q' hq.1 hq.2 hq'.1 hq'.2 ⟨e.1.trans e'.1.symm, fun i x y => ?_⟩
  rw [e'.1] at y
  have hi : i = 0 ∨ i = 1 ∨ i = 2 := by omega
  rcases hi with rfl | rfl | rfl
  · exact (e.2.1 y).trans (e'.2.1 y).symm
  · exact (e.2.2.1 y).trans (e'.2.2.1 y).symm
  · exact (e.2.2.2 y).trans (e'.2.2.2 y).symm
theorem ET.ar {J g : zJ} {h : Int} (E : ET J g) (hh : h < J 1 3) : par g h = arh (J 3) h := (arh_cg (fun q => (E.1.2 h q (by have := E.1.1; omega)).2.1)).symm
theorem ET.nm {J g : zJ} {m h a b c x y w q : Int} (E : ET J g) (C : CT J m) (hm : J 6 12 = m) (hx : (0 < arh (J 3) h → a = x) ∧ (1 < arh (J 3) h → b = y) ∧ (2 < arh (J 3) h → c = w)) (hq : 0 ≤ q ∧ q < m) : nmT g 800 (arh (J 3) h) h x y w q ↔ isT J q h a b c := by
  obtain ⟨x0, x1, x2⟩ := hx
  have e6 := E.2.1.1
  have e7 := (E.2.1.2.1 q hq.1 (by omega)).1
  have e8 := (C.2.1 q hq.1 hq.2).1.1
  have e9 := fun i => E.2.1.2.2 q i hq.1 (by omega)
  constructor
  · rintro ⟨n0, n1, n2, n3⟩
    have h7 : J 7 q = h := e7.trans n0
    rw [h7] at e8
    exact ⟨h7, fun p => (e9 0 (by decide) (by omega)).trans ((n1 p).trans (x0 p).symm), fun p => (e9 1 (by decide) (by omega)).trans ((n2 p).trans (x1 p).symm), fun p => (e9 2 (by decide) (by omega)).trans ((n3 p).trans (x2 p).symm)⟩
  · rintro ⟨h7, n1, n2, n3⟩
    rw [h7] at e8
    exact ⟨e7.symm.trans h7, fun p => (e9 0 (by decide) (by omega)).symm.trans ((n1 p).trans (x0 p)), fun p => (e9 1 (by decide) (by omega)).symm.trans ((n2 p).trans (x1 p)), fun p => (e9 2 (by decide) (by omega)).symm.trans ((n3 p).trans (x2 p))⟩
theorem ct_dpT {J : zJ} {m h a b c : Int} (C : CT J (m + 1)) (h0 : 0 ≤ m) (hh : h < J 1 3) (e : isT J m h a b c) : J 12 m = dpT J h a b c := by
  obtain ⟨e7, e0, e1, e2⟩ := e
  have hA := arh_rg C.1.1.1 hh
  obtain ⟨_, t2, t3, t4⟩ := C.1.1.2.2.1 m h0 (by omega)
  rw [e7] at t3 t4
  dsimp only at t3 t4
  have a0 : 0 < arh (J 3) h → J 12 a < J 12 m := fun p => by have := (t3 0 (by decide) p).2; rw [e0 p] at this; exact this
  have a1 : 1 < arh (J 3) h → J 12 b < J 12 m := fun p => by have := (t3 1 (by decide) p).2; rw [e1 p] at this; exact this
  have a2 : 2 < arh (J 3) h → J 12 c < J 12 m := fun p => by have := (t3 2 (by decide) p).2; rw [e2 p] at this; exact this
  have a4 : J 12 m = 1 ∨ (0 < arh (J 3) h ∧ J 12 m = J 12 a + 1) ∨ (1 < arh (J 3) h ∧ J 12 m = J 12 b + 1) ∨ (2 < arh (J 3) h ∧ J 12 m = J 12 c + 1) := by
    rcases t4 with q | ⟨i, ⟨q1, q2⟩, q3⟩
    · exact Or.inl q
    · have hi : i = 0 ∨ i = 1 ∨ i = 2 := by omega
      rcases hi with rfl | rfl | rfl
      · rw [e0 q2] at q3; exact Or.inr (Or.inl ⟨q2, q3⟩)
      · rw [e1 q2] at q3; exact Or.inr (Or.inr (Or.inl ⟨q2, q3⟩))
      · rw [e2 q2] at q3; exact Or.inr (Or.inr (Or.inr ⟨q2, q3⟩))
  unfold dpT
  split
  · omega
  · split
    · have a0 := a0 (by omega)
      unfold zmax
      (repeat' split) <;> omega
    · split
      · have a0 := a0 (by omega)
        have a1 := a1 (by omega)
        unfold zmax
        (repeat' split) <;> omega
      · have a0 := a0 (by omega)
        have a1 := a1 (by omega)
        have a2 := a2 (by omega)
        unfold zmax
        (repeat' split) <;> omega
theorem ET.dp {J g : zJ} {m h a b c x y w : Int} (E : ET J g) (hm : J 6 12 = m) (hh : h < J 1 3) (hx : (0 < arh (J 3) h → a = x) ∧ (1 < arh (J 3) h → b = y) ∧ (2 < arh (J 3) h → c = w)) (hr : (0 < arh (J 3) h → 0 ≤ a ∧ a < m) ∧ (1 < arh (J 3) h → 0 ≤ b ∧ b < m) ∧ (2 < arh (J 3) h → 0 ≤ c ∧ c < m)) : pdp g h x y w = dpT J h a b c := by
  have e6 := E.2.1.1
  unfold pdp
  rw [E.ar hh]
  have e : ∀ u, 0 ≤ u ∧ u < m → J 12 u = g 168 (800 + u) := fun u q => (E.2.1.2.1 u q.1 (by omega)).2
  show dpS _ _ _ _ _ = dpS (J 12) (arh (J 3) h) a b c
  have r0 : 0 < arh (J 3) h → g 168 (800 + x) = J 12 a := fun p => by rw [← hx.1 p]; exact (e a (hr.1 p)).symm
  have r1 : 1 < arh (J 3) h → g 168 (800 + y) = J 12 b := fun p => by rw [← hx.2.1 p]; exact (e b (hr.2.1 p)).symm
  have r2 : 2 < arh (J 3) h → g 168 (800 + w) = J 12 c := fun p => by rw [← hx.2.2 p]; exact (e c (hr.2.2 p)).symm
  unfold dpS
  dsimp only
  split
  · rfl
  · rw [r0 (by omega)]
    split
    · rfl
    · rw [r1 (by omega)]
      split
      · rfl
      · rw [r2 (by omega)]
/-- the table is as it was, up to m -/
theorem ET.su {J' J g : zJ} {m : Int} (E : ET J g) (hm : J 6 12 = m) (hm' : J' 6 12 = m) (f : zOf (zbut [6, 7, 8, 9, 10, 11, 12, 13, 14, 15, 16, 17]) J' J) (s : zSU J' J m) (C : CT J m) : ET J' g := by
  obtain ⟨E1, ⟨e6, E2, E3⟩, E4⟩ := E
  unfold ET
  rw [f 1 rfl, f 2 rfl, f 3 rfl, f 4 rfl, f 19 rfl]
  refine ⟨E1, ⟨by omega, fun t a b => ?_, fun t i a b x y => ?_⟩, E4⟩
  · have q := s.1 t a (by omega)
    rw [q.1, q.2.2.2.2.1]
    exact E2 t a b
  · have q := s.1 t a (by omega)
    rw [q.2.1] at y
    have := (C.ar a (by omega)).1
    rw [s.2 (t * 3 + i) (by omega) (by omega)]
    exact E3 t i a b x y
theorem ET.nw {J' J g : zJ} {m h a b c x y w : Int} (E : ET J g) (hm : J 6 12 = m) (hm' : J' 6 12 = m + 1) (f : zOf (zbut [6, 7, 8, 9, 10, 11, 12, 13, 14, 15, 16, 17]) J' J) (s : zSU J' J m) (C : CT J m) (C' : CT J' (m + 1)) (hh : h < J 1 3) (hx : (0 < arh (J 3) h → a = x) ∧ (1 < arh (J 3) h → b = y) ∧ (2 < arh (J 3) h → c = w)) (hi : isT J' m h a b c) (hd : J' 12 m = pdp g h x y w) : ET J' (chT g 800 126 m h (if 0 < par g h then x else -1) (if 1 < par g h then y else -1) (if 2 < par g h then w else -1) (pdp g h x y w)) := by
  have hA := E.ar hh
  have t0 := C.told
  obtain ⟨E1, ⟨e6, E2, E3⟩, ⟨E4, E5⟩, ⟨E6, E7⟩, E8⟩ := E
  have e8 := (C'.2.1 m (by omega) (by omega)).1.1
  rw [hi.1, f 3 rfl] at e8
  obtain ⟨i7, i0, i1, i2⟩ := hi
  rw [f 3 rfl] at i0 i1 i2
  have hA3 := arh_rg C.1.1.1 hh
  unfold ET
  rw [f 1 rfl, f 2 rfl, f 3 rfl, f 4 rfl, f 19 rfl, chT4 164 (by decide), chT4 169 (by decide), chT4 170 (by decide), chT4 171 (by decide), hA]
  have n5 : ∀ k, ¬ k = 126 → chT g 800 126 m h (if 0 < arh (J 3) h then x else -1) (if 1 < arh (J 3) h then y else -1) (if 2 < arh (J 3) h then w else -1) (pdp g h x y w) 165 k = g 165 k := fun k q => by rw [chT_5, if_neg q]
  have n6 : chT g 800 126 m h (if 0 < arh (J 3) h then x else -1) (if 1 < arh (J 3) h then y else -1) (if 2 < arh (J 3) h then w else -1) (pdp g h x y w) 165 126 = m + 1 := by rw [chT_5, if_pos rfl]
  rw [n5 135 (by decide), n5 152 (by decide), n6]
  refine ⟨E1, ⟨hm', fun t p q => ?_, fun t i p q u v => ?_⟩, ⟨E4, fun i p q => ?_⟩, ⟨E6, fun i p q => ?_⟩, ⟨by rw [n5 165 (by decide)]; exact E8.1, ⟨by rw [n5 187 (by decide)]; exact E8.2.1.1, by rw [n5 188 (by decide)]; exact E8.2.1.2.1, E8.2.1.2.2⟩, fun v a b => by rw [n5 (127 + v) (by omega)]; exact E8.2.2 v a b⟩⟩
  · rw [chT_6, chT_8]
    by_cases et : t = m
    · subst et
      rw [if_pos rfl, if_pos rfl]
      exact ⟨i7, hd⟩
    · rw [if_neg (by omega), if_neg (by omega)]
      have r := s.1 t p (by omega)
      rw [r.1, r.2.2.2.2.1]
      exact E2 t p (by omega)
  · rw [chT_7]
    by_cases et : t = m
    · subst et
      rw [e8] at v
      have h3 : i = 0 ∨ i = 1 ∨ i = 2 := by omega
      rcases h3 with rfl | rfl | rfl
      · rw [if_neg (by omega), if_neg (by omega), if_pos (by omega), if_pos v, i0 v]
        exact hx.1 v
      · rw [if_neg (by omega), if_pos (by omega), if_pos v, i1 v]
        exact hx.2.1 v
      · rw [if_pos (by omega), if_pos v, i2 v]
        exact hx.2.2 v
    · have r := s.1 t p (by omega)
      rw [r.2.1] at v
      have := (C.ar p (by omega)).1
      rw [if_neg (by omega), if_neg (by omega), if_neg (by omega), s.2 (t * 3 + i) (by omega) (by omega)]
      exact E3 t i p (by omega) u v
  · rw [n5 _ (by omega), n5 _ (by omega)]
    exact E5 i p q
  · rw [n5 _ (by omega)]
    exact E7 i p q
/-- made by the class, made by the reading -/
theorem RelC.made {J' J g : zJ} {m h a b c x y w z : Int} (hR : RelC J g) (h0 : g 0 4 = 0) (C : CT J m) (hm : J 6 12 = m) (hh : -8 ≤ h ∧ h < J 1 3) (hx : (0 < arh (J 3) h → a = x) ∧ (1 < arh (J 3) h → b = y) ∧ (2 < arh (J 3) h → c = w)) (hr : (0 < arh (J 3) h → 0 ≤ a ∧ a < m) ∧ (1 < arh (J 3) h → 0 ≤ b ∧ b < m) ∧ (2 < arh (J 3) h → 0 ≤ c ∧ c < m)) (p : madeP J m h a b c z J') : XC J' (pMd g h x y w).1 ∧ VQ z (pMd g h x y w) ∧ (z < 0 → (pMd g h x y w).1 0 4 = 99) := by
  obtain ⟨f, s, p⟩ := p
  obtain ⟨h1, h2, h3⟩ := hR
  obtain ⟨T, b1, b2, b3, E⟩ := h3 h0
  have t0 := C.told
  have e6 := E.2.1.1
  have hA := E.ar hh.2
  have hdp := E.dp hm hh.2 hx hr
  have n1 : NST J m h a b c → pfi g h x y w = g 165 126 := fun q => by
    unfold pfi
    refine fnB_eq (by omega) (Int.le_refl _) (fun t u v => dcB_t (fun k => q t u (by omega) ?_)) (Or.inl rfl)
    rw [hA] at k
    exact (E.nm C hm hx (by omega)).1 k
  have n2 : (0 ≤ z ∧ z < m) → isT J z h a b c → pfi g h x y w = z := fun r q => by
    unfold pfi
    refine fnB_eq r.1 (by omega) (fun t u v => dcB_t (fun k => ?_)) (Or.inr (dcB_f (fun k => k ?_)))
    · rw [hA] at k
      have := isT_u C hh.2 (q := t) (q' := z) (by omega) r ((E.nm C hm hx (by omega)).1 k) q
      omega
    · rw [hA]
      exact (E.nm C hm hx r).2 q
  have e163 : J' 163 = J 163 := f 163 rfl
  have e162 : J' 162 = J 162 := f 162 rfl
  rcases p with ⟨⟨pz, q⟩, m1, C1⟩ | ⟨⟨pz, q, _⟩, m1, C1⟩ | ⟨⟨pz, q1, q2, _, q3⟩, m1, C1, q4⟩
  · have e99 : pMd g h x y w = (zup g 0 4 99, 0) := by
      rcases q with q | ⟨q, v⟩
      · exact absurd ⟨fun k => (hr.1 k).1, fun k => (hr.2.1 k).1, fun k => (hr.2.2 k).1⟩ q
      · unfold pMd
        rw [n1 q, if_neg (by omega), hdp, if_neg (by omega)]
    rw [e99]
    exact ⟨Or.inl rfl, fun q => absurd q (by show ¬ (99 : Int) = 0; decide), fun _ => rfl⟩
  · have e : pMd g h x y w = (g, z) := by
      unfold pMd
      rw [n2 pz q, if_pos (by omega)]
    rw [e]
    refine ⟨Or.inr ⟨by rw [e163]; exact h1, fun q => absurd h0 q, fun _ => ⟨by rw [e163]; exact T, by rw [e163]; exact b1, by rw [e162]; exact b2, by rw [e163]; exact b3, E.su hm m1 f s C⟩⟩, fun _ => rfl, fun q => by omega⟩
  · have e : pMd g h x y w = (chT g 800 126 (g 165 126) h (if 0 < par g h then x else -1) (if 1 < par g h then y else -1) (if 2 < par g h then w else -1) (pdp g h x y w), g 165 126) := by
      unfold pMd
      rw [n1 q2, if_neg (by omega), if_pos (by omega)]
    have e1 : J' 1 = J 1 := f 1 rfl
    have e3 : J' 3 = J 3 := f 3 rfl
    have d1 := ct_dpT C1 (by omega) (by rw [e1]; exact hh.2) q4
    have d2 : dpT J' h a b c = dpT J h a b c := by
      show dpS (J' 12) (arh (J' 3) h) a b c = dpS (J 12) (arh (J 3) h) a b c
      rw [e3]
      exact dpS_cg (fun k => (s.1 a (hr.1 k).1 (hr.1 k).2).2.2.2.2.1) (fun k => (s.1 b (hr.2.1 k).1 (hr.2.1 k).2).2.2.2.2.1) (fun k => (s.1 c (hr.2.2 k).1 (hr.2.2 k).2).2.2.2.2.1)
    have N := E.nw hm m1 f s C C1 hh.2 hx q4 (by rw [d1, d2, hdp])
    rw [← e6, hm] at e
    rw [e]
    refine ⟨Or.inr ⟨by dsimp only; rw [e163, chT4 0 (by decide)]; exact h1, fun q => absurd h0 q, fun _ => ⟨by dsimp only; rw [e163, chT4 0 (by decide)]; exact T, by dsimp only; rw [e163, chT4 0 (by decide)]; exact b1, by dsimp only; rw [e162, chT4 1 (by decide)]; exact b2, by dsimp only; rw [e163, chT4 164 (by decide)]; exact b3, N⟩⟩, fun _ => pz, fun q => by omega⟩
end
section
/-! ===== the class follows the reading: names, variables ===== -/
theorem ET.sy {J g : zJ} {t z : Int} (E : ET J g) (h1 : 0 ≤ J 1 3) (d : (0 ≤ z ∧ z < J 1 3 ∧ J 2 z = t ∧ ∀ i, 0 ≤ i → i < z → ¬ J 2 i = t) ∨ (z = -1 ∧ ∀ i, 0 ≤ i → i < J 1 3 → ¬ J 2 i = t)) : (0 ≤ z ∧ z < g 164 44 ∧ psy g t = z) ∨ (z = -1 ∧ psy g t = g 164 44) := by
  obtain ⟨⟨e3, e2⟩, _⟩ := E
  rcases d with ⟨a, b, c, d⟩ | ⟨a, d⟩
  · refine Or.inl ⟨a, by omega, fnB_eq a (by omega) (fun q u v => decide_eq_true ?_) (Or.inr (decide_eq_false (fun k => k ?_)))⟩
    · rw [← (e2 q u (by omega)).1]; exact d q u v
    · rw [← (e2 z a (by omega)).1]; exact c
  · refine Or.inr ⟨a, fnB_eq (by omega) (Int.le_refl _) (fun q u v => decide_eq_true ?_) (Or.inl rfl)⟩
    rw [← (e2 q u (by omega)).1]; exact d q u (by omega)
theorem pNm_1 {J g : zJ} (h : XC J g) (q : g 0 4 = 0) (h0 : J 163 8 = 0) (hk : ¬ J 163 5 = 2) : pNm g = (pFx g 1, 0) := by
  unfold pNm pFx
  rcases h.k h0 with p | ⟨_, e3, e2, e1, e, _⟩
  · omega
  · rw [if_pos q, if_neg (by omega)]
theorem pNm_2 {J g : zJ} (h : XC J g) (q : g 0 4 = 0) (h0 : J 163 8 = 0) (hk : J 163 5 = 2) (hn : 1 < J 163 7 - J 163 6) : pNm g = (pFx g 2, 0) := by
  unfold pNm pFx
  rcases h.k h0 with p | ⟨_, e3, e2, e1, e, _⟩
  · omega
  · rw [if_pos q, if_pos (by omega), if_neg (by omega)]
theorem pNm_4 {J g : zJ} {z : Int} (h : XC J g) (hS : SI g) (q : g 0 4 = 0) (h0 : J 163 8 = 0) (hk : J 163 5 = 2) (hn : ¬ 1 < J 163 7 - J 163 6) (h1 : 0 ≤ J 1 3) (d : (0 ≤ z ∧ z < J 1 3 ∧ J 2 z = J 162 (J 163 6) ∧ ∀ i, 0 ≤ i → i < z → ¬ J 2 i = J 162 (J 163 6)) ∨ (z = -1 ∧ ∀ i, 0 ≤ i → i < J 1 3 → ¬ J 2 i = J 162 (J 163 6))) : (z = -1 → pNm g = (pNx g, J 162 (J 163 6))) ∧ (¬ z = -1 → pNm g = (pFx g 4, 0)) := by
  have v := h.w hS h0 (by omega)
  unfold pNm pFx pNx
  rcases h.k h0 with p | ⟨_, e3, e2, e1, e, E⟩
  · omega
  · have s := E.2.2.2.sy h1 d
    rw [if_pos q, if_pos q, if_pos (by omega), if_pos (by omega), e1, e]
    refine ⟨fun k => ?_, fun k => ?_⟩
    · rw [if_neg (by omega)]
    · rw [if_pos (by omega)]
theorem pTo_1 {J g : zJ} (h : XC J g) (h0 : J 163 8 = 0) (hk : J 163 5 = 2 ∧ mtB (J 162) (J 163 6) (J 163 7) [116, 111]) : pTo g = pNx g := by
  unfold pTo pNx
  rcases h.k h0 with p | ⟨q, e3, e2, e1, e, E⟩
  · rw [if_neg (by omega), if_neg (by omega)]
  · rw [if_pos q, if_pos q, cif_pos]
    unfold pIs
    rw [e3, e2, e1, e]
    exact hk
theorem pTo_2 {J g : zJ} (h : XC J g) (h0 : J 163 8 = 0) (hk : ¬ (J 163 5 = 2 ∧ mtB (J 162) (J 163 6) (J 163 7) [116, 111])) : pTo g = pFx g 1 := by
  unfold pTo pFx
  rcases h.k h0 with p | ⟨q, e3, e2, e1, e, E⟩
  · rw [if_neg (by omega), if_neg (by omega)]
  · rw [if_pos q, if_pos q, cif_neg]
    unfold pIs
    rw [e3, e2, e1, e]
    exact hk
theorem pTo_f {g : zJ} (h : ¬ g 0 4 = 0) : pTo g = g := by unfold pTo; rw [if_neg h]
set_option maxHeartbeats 4000000 in
set_option maxRecDepth 100000 in
theorem w_newName {l : Launch} {G : tb_G} (hl : l.stackTraces = false) (n : Nat) (J : zJ)   (g : zJ) (hD : RD2 J) (hX : XC J g) (hS : SI g) (h9 : g 0 4 = 0) (hb : J 163 8 = 0) (h1 : 0 ≤ J 1 3 ∧ J 1 3 ≤ 10) : tz_Ok l G M_X5_readNewName 2 0 0 [.ref 163] n J (zqi (fun z J' => RN J' J ∧ RD2 J' ∧ XC J' (pNm g).1 ∧ VQ z (pNm g))) zN := by
  refine tz_Ok.of hl (by decide +kernel) rfl (tb_c1 rfl) (Nat.le_of_ble_eq_true rfl) ?_
  show tz_At l G M_X5_readNewName (tb_rm 2 0 0) none (tb_ZM G 0 0 (zQ n 0 (zqi (fun z J' => RN J' J ∧ RD2 J' ∧ XC J' (pNm g).1 ∧ VQ z (pNm g)))) (zX n 0 zN)) 0 0 n J 0 [some (.ref 163), none] []
  obtain ⟨⟨⟨hD1, hD2⟩, hD3, hD4⟩, hD5⟩ := id hD
  refine tz_aload_n (pc := 0) dX5_readNewName_0 rfl rfl ?_
  refine tz_fI (pc := 1) (kz := 5) (v := (J 163 5)) dX5_readNewName_1 fl_X5_15 i_163_5 rfl rfl (fun r_1 => ?_)
  refine tz_iconst (pc := 4) dX5_readNewName_4 ?_
  refine tz_icmp_eq (pc := 5) (tgt := 14) dX5_readNewName_5 (by decide) (by omega) (by decide) (fun h_5 => ?_) (fun h_5 => ?_)
  · refine tz_aload_n (pc := 14) dX5_readNewName_14 rfl rfl ?_
    refine tz_fI (pc := 15) (kz := 7) (v := (J 163 7)) dX5_readNewName_15 fl_X5_21 i_163_7 rfl rfl (fun r_15 => ?_)
    refine tz_aload_n (pc := 18) dX5_readNewName_18 rfl rfl ?_
    refine tz_fI (pc := 19) (kz := 6) (v := (J 163 6)) dX5_readNewName_19 fl_X5_18 i_163_6 rfl rfl (fun r_19 => ?_)
    refine tz_isub (pc := 22) (v := (J 163 7) - (J 163 6)) dX5_readNewName_22 rfl ?_
    refine tz_iconst (pc := 23) dX5_readNewName_23 ?_
    refine tz_icmp_le (pc := 24) (tgt := 33) dX5_readNewName_24 (by decide) (by omega) (by decide) (fun h_24 => ?_) (fun h_24 => ?_)
    · refine tz_aload_n (pc := 33) dX5_readNewName_33 rfl rfl ?_
      refine tz_fR (pc := 34) dX5_readNewName_34 fl_X5_34 r_163_0 ?_
      refine tz_aload_n (pc := 37) dX5_readNewName_37 rfl rfl ?_
      refine tz_fI (pc := 38) (kz := 6) (v := (J 163 6)) dX5_readNewName_38 fl_X5_18 i_163_6 rfl rfl (fun r_38 => ?_)
      refine tz_aL (pc := 41) (z := (J 163 6)) (v := (J 162 (J 163 6))) dX5_readNewName_41 a_162 rfl (by omega) rfl (fun r_41 => ?_)
      refine tz_istore_n (pc := 42) (L2 := [_, _]) dX5_readNewName_42 rfl (by decide) rfl ?_
      refine tz_aload_n (pc := 43) dX5_readNewName_43 rfl rfl ?_
      refine tz_fR (pc := 44) dX5_readNewName_44 fl_X5_54 r_163_2 ?_
      refine tz_iload_n (pc := 47) dX5_readNewName_47 rfl rfl ?_
      refine tz_cV (pc := 48) (c_named hl n _ _ (by omega) h1) vl_X5_135 dX5_readNewName_48 o_1 rfl rfl (Nat.le_of_ble_eq_true rfl) ⟨(Nat.le_of_ble_eq_true rfl), (Nat.le_of_ble_eq_true rfl)⟩ rfl rfl (Nat.le_of_ble_eq_true rfl) (Nat.le_of_ble_eq_true rfl) (fun r9 J_48 hq9 => ?_)
      obtain ⟨z_48, rfl, hz_48, rfl, hnm⟩ := hq9
      refine tz_iconst (pc := 51) dX5_readNewName_51 ?_
      refine tz_icmp_eq (pc := 52) (tgt := 61) dX5_readNewName_52 (by decide) (by omega) (by decide) (fun h_52 => ?_) (fun h_52 => ?_)
      · refine tz_aload_n (pc := 61) dX5_readNewName_61 rfl rfl ?_
        refine tz_cV (pc := 62) (w_next hl n _ g hD hX (by omega)) vl_X5_65 dX5_readNewName_62 o_163 rfl rfl (Nat.le_of_ble_eq_true rfl) ⟨(Nat.le_of_ble_eq_true rfl), (Nat.le_of_ble_eq_true rfl)⟩ rfl rfl (Nat.le_of_ble_eq_true rfl) (Nat.le_of_ble_eq_true rfl) (fun r9 J_62 hq9 => ?_)
        obtain ⟨rfl, g9, d9, v9, x9⟩ := hq9
        refine tz_iload_n (pc := 65) dX5_readNewName_65 rfl rfl ?_
        exact tz_iret (pc := 66) (z := (J 162 (J 163 6))) dX5_readNewName_66 rfl (Nat.le_of_ble_eq_true rfl) (Nat.le_of_ble_eq_true rfl) ⟨Nat.le_refl _, Nat.le_add_right _ _⟩ ⟨_, rfl, (by omega), (by first | exact ⟨g9, d9 hD, by rw [pNm_1 hX h9 hb (by omega)]; exact x9, fun q => by rw [pNm_1 hX h9 hb (by omega)] at q; exact absurd q (pFx_n (by decide))⟩ | exact ⟨g9, d9 hD, by rw [pNm_2 hX h9 hb (by omega) (by omega)]; exact x9, fun q => by rw [pNm_2 hX h9 hb (by omega) (by omega)] at q; exact absurd q (pFx_n (by decide))⟩ | exact ⟨g9, d9 hD, by rw [(pNm_4 hX hS h9 hb (by omega) (by omega) h1.1 hnm).2 (by omega)]; exact x9, fun q => by rw [(pNm_4 hX hS h9 hb (by omega) (by omega) h1.1 hnm).2 (by omega)] at q; exact absurd q (pFx_n (by decide))⟩ | exact ⟨g9, d9, by rw [(pNm_4 hX hS h9 hb (by omega) (by omega) h1.1 hnm).1 (by omega)]; exact x9, fun q => by rw [(pNm_4 hX hS h9 hb (by omega) (by omega) h1.1 hnm).1 (by omega)]⟩)⟩
      · refine tz_aload_n (pc := 55) dX5_readNewName_55 rfl rfl ?_
        refine tz_iconst (pc := 56) dX5_readNewName_56 ?_
        refine tz_cV (pc := 57) (w_fail hl n _ _ (by decide) g (by decide) hX) vl_X5_97 dX5_readNewName_57 o_163 rfl rfl (Nat.le_of_ble_eq_true rfl) ⟨(Nat.le_of_ble_eq_true rfl), (Nat.le_of_ble_eq_true rfl)⟩ rfl rfl (Nat.le_of_ble_eq_true rfl) (Nat.le_of_ble_eq_true rfl) (fun r9 J_57 hq9 => ?_)
        obtain ⟨z_57, rfl, hz_57, g9, d9, e9, v9, x9⟩ := hq9
        exact tz_iret (pc := 60) (z := z_57) dX5_readNewName_60 rfl (Nat.le_of_ble_eq_true rfl) (Nat.le_of_ble_eq_true rfl) ⟨Nat.le_refl _, Nat.le_add_right _ _⟩ ⟨_, rfl, (by omega), (by first | exact ⟨g9, d9 hD, by rw [pNm_1 hX h9 hb (by omega)]; exact x9, fun q => by rw [pNm_1 hX h9 hb (by omega)] at q; exact absurd q (pFx_n (by decide))⟩ | exact ⟨g9, d9 hD, by rw [pNm_2 hX h9 hb (by omega) (by omega)]; exact x9, fun q => by rw [pNm_2 hX h9 hb (by omega) (by omega)] at q; exact absurd q (pFx_n (by decide))⟩ | exact ⟨g9, d9 hD, by rw [(pNm_4 hX hS h9 hb (by omega) (by omega) h1.1 hnm).2 (by omega)]; exact x9, fun q => by rw [(pNm_4 hX hS h9 hb (by omega) (by omega) h1.1 hnm).2 (by omega)] at q; exact absurd q (pFx_n (by decide))⟩ | exact ⟨g9, d9, by rw [(pNm_4 hX hS h9 hb (by omega) (by omega) h1.1 hnm).1 (by omega)]; exact x9, fun q => by rw [(pNm_4 hX hS h9 hb (by omega) (by omega) h1.1 hnm).1 (by omega)]⟩)⟩
    · refine tz_aload_n (pc := 27) dX5_readNewName_27 rfl rfl ?_
      refine tz_iconst (pc := 28) dX5_readNewName_28 ?_
      refine tz_cV (pc := 29) (w_fail hl n _ _ (by decide) g (by decide) hX) vl_X5_97 dX5_readNewName_29 o_163 rfl rfl (Nat.le_of_ble_eq_true rfl) ⟨(Nat.le_of_ble_eq_true rfl), (Nat.le_of_ble_eq_true rfl)⟩ rfl rfl (Nat.le_of_ble_eq_true rfl) (Nat.le_of_ble_eq_true rfl) (fun r9 J_29 hq9 => ?_)
      obtain ⟨z_29, rfl, hz_29, g9, d9, e9, v9, x9⟩ := hq9
      exact tz_iret (pc := 32) (z := z_29) dX5_readNewName_32 rfl (Nat.le_of_ble_eq_true rfl) (Nat.le_of_ble_eq_true rfl) ⟨Nat.le_refl _, Nat.le_add_right _ _⟩ ⟨_, rfl, (by omega), (by first | exact ⟨g9, d9 hD, by rw [pNm_1 hX h9 hb (by omega)]; exact x9, fun q => by rw [pNm_1 hX h9 hb (by omega)] at q; exact absurd q (pFx_n (by decide))⟩ | exact ⟨g9, d9 hD, by rw [pNm_2 hX h9 hb (by omega) (by omega)]; exact x9, fun q => by rw [pNm_2 hX h9 hb (by omega) (by omega)] at q; exact absurd q (pFx_n (by decide))⟩ | exact ⟨g9, d9 hD, by rw [(pNm_4 hX hS h9 hb (by omega) (by omega) h1.1 hnm).2 (by omega)]; exact x9, fun q => by rw [(pNm_4 hX hS h9 hb (by omega) (by omega) h1.1 hnm).2 (by omega)] at q; exact absurd q (pFx_n (by decide))⟩ | exact ⟨g9, d9, by rw [(pNm_4 hX hS h9 hb (by omega) (by omega) h1.1 hnm).1 (by omega)]; exact x9, fun q => by rw [(pNm_4 hX hS h9 hb (by omega) (by omega) h1.1 hnm).1 (by omega)]⟩)⟩
  · refine tz_aload_n (pc := 8) dX5_readNewName_8 rfl rfl ?_
    refine tz_iconst (pc := 9) dX5_readNewName_9 ?_
    refine tz_cV (pc := 10) (w_fail hl n _ _ (by decide) g (by decide) hX) vl_X5_97 dX5_readNewName_10 o_163 rfl rfl (Nat.le_of_ble_eq_true rfl) ⟨(Nat.le_of_ble_eq_true rfl), (Nat.le_of_ble_eq_true rfl)⟩ rfl rfl (Nat.le_of_ble_eq_true rfl) (Nat.le_of_ble_eq_true rfl) (fun r9 J_10 hq9 => ?_)
    obtain ⟨z_10, rfl, hz_10, g9, d9, e9, v9, x9⟩ := hq9
    exact tz_iret (pc := 13) (z := z_10) dX5_readNewName_13 rfl (Nat.le_of_ble_eq_true rfl) (Nat.le_of_ble_eq_true rfl) ⟨Nat.le_refl _, Nat.le_add_right _ _⟩ ⟨_, rfl, (by omega), (by first | exact ⟨g9, d9 hD, by rw [pNm_1 hX h9 hb (by omega)]; exact x9, fun q => by rw [pNm_1 hX h9 hb (by omega)] at q; exact absurd q (pFx_n (by decide))⟩ | exact ⟨g9, d9 hD, by rw [pNm_2 hX h9 hb (by omega) (by omega)]; exact x9, fun q => by rw [pNm_2 hX h9 hb (by omega) (by omega)] at q; exact absurd q (pFx_n (by decide))⟩ | exact ⟨g9, d9 hD, by rw [(pNm_4 hX hS h9 hb (by omega) (by omega) h1.1 hnm).2 (by omega)]; exact x9, fun q => by rw [(pNm_4 hX hS h9 hb (by omega) (by omega) h1.1 hnm).2 (by omega)] at q; exact absurd q (pFx_n (by decide))⟩ | exact ⟨g9, d9, by rw [(pNm_4 hX hS h9 hb (by omega) (by omega) h1.1 hnm).1 (by omega)]; exact x9, fun q => by rw [(pNm_4 hX hS h9 hb (by omega) (by omega) h1.1 hnm).1 (by omega)]⟩)⟩

set_option maxHeartbeats 4000000 in
set_option maxRecDepth 100000 in
theorem w_passTo {l : Launch} {G : tb_G} (hl : l.stackTraces = false) (n : Nat) (J : zJ)   (g : zJ) (hnb : n ≤ tb_sc) (hD : RD2 J) (hX : XC J g) (hS : SI g) : tz_Ok l G M_X5_passTo 5 0 0 [.ref 163] n J (zqv (fun J' => RN J' J ∧ RD2 J' ∧ XC J' (pTo g))) zN := by
  refine tz_Ok.of hl (by decide +kernel) rfl (tb_c1 rfl) (Nat.le_of_ble_eq_true rfl) ?_
  show tz_At l G M_X5_passTo (tb_rm 5 0 0) none (tb_ZM G 0 0 (zQ n 0 (zqv (fun J' => RN J' J ∧ RD2 J' ∧ XC J' (pTo g)))) (zX n 0 zN)) 0 0 n J 0 [some (.ref 163)] []
  refine tz_aload_n (pc := 0) dX5_passTo_0 rfl rfl ?_
  refine tz_fI (pc := 1) (kz := 8) (v := (J 163 8)) dX5_passTo_1 fl_X5_24 i_163_8 rfl rfl (fun r_1 => ?_)
  refine tz_if_eq (pc := 4) (tgt := 8) dX5_passTo_4 (by decide) (by omega) (fun h_4 => ?_) (fun h_4 => ?_)
  · refine tz_aload_n (pc := 8) dX5_passTo_8 rfl rfl ?_
    refine tz_word (pc := 9) (ik := 160) (tx := "to") (bs := [116, 111]) (by decide) rfl (x_isWord hl n _ [116, 111] (by decide) hnb hD.1) hnb vl_X5_70 rfl dX5_passTo_9 dX5_passTo_11 (Nat.le_of_ble_eq_true rfl) ⟨(Nat.le_of_ble_eq_true rfl), (Nat.le_of_ble_eq_true rfl)⟩ (Nat.le_of_ble_eq_true rfl) (Nat.le_of_ble_eq_true rfl) (fun z_9 J9 hz_9 hq9 => ?_)
    obtain ⟨rfl, hv_9⟩ := hq9
    have hw_9 := hv_9.imp (fun q => (⟨q.1, q.2.1, isw_to.1 q.2.2⟩ : _ ∧ _ ∧ _)) (fun q => (⟨q.1, fun r => q.2 ⟨r.1, isw_to.2 r.2⟩⟩ : _ ∧ ¬ (_ ∧ _)))
    have hc_9 : z_9 = 0 ∨ z_9 = 1 := hv_9.elim (fun q => Or.inr q.1) (fun q => Or.inl q.1)
    clear hv_9
    refine tz_if_ne (pc := 14) (tgt := 24) dX5_passTo_14 (by decide) (by omega) (fun h_14 => ?_) (fun h_14 => ?_)
    · refine tz_aload_n (pc := 24) dX5_passTo_24 rfl rfl ?_
      refine tz_cV (pc := 25) (w_next hl n _ g hD hX (by omega)) vl_X5_65 dX5_passTo_25 o_163 rfl rfl (Nat.le_of_ble_eq_true rfl) ⟨(Nat.le_of_ble_eq_true rfl), (Nat.le_of_ble_eq_true rfl)⟩ rfl rfl (Nat.le_of_ble_eq_true rfl) (Nat.le_of_ble_eq_true rfl) (fun r9 J_25 hq9 => ?_)
      obtain ⟨rfl, g9, d9, v9, x9⟩ := hq9
      exact tz_vret (pc := 28) dX5_passTo_28 rfl (Nat.le_of_ble_eq_true rfl) (Nat.le_of_ble_eq_true rfl) ⟨Nat.le_refl _, Nat.le_add_right _ _⟩ ⟨rfl, (by first | exact ⟨RN.rf, hD, by rw [pTo_f (hX.no (by omega))]; exact hX⟩ | exact ⟨g9, d9 hD, by rw [pTo_2 hX (by omega) (hw_9.elim (fun q => absurd q.1 (by omega)) (fun q => q.2))]; exact x9⟩ | exact ⟨g9, d9, by rw [pTo_1 hX (by omega) (hw_9.elim (fun q => q.2) (fun q => absurd q.1 (by omega)))]; exact x9⟩)⟩
    · refine tz_aload_n (pc := 17) dX5_passTo_17 rfl rfl ?_
      refine tz_iconst (pc := 18) dX5_passTo_18 ?_
      refine tz_cV (pc := 19) (w_fail hl n _ _ (by decide) g (by decide) hX) vl_X5_97 dX5_passTo_19 o_163 rfl rfl (Nat.le_of_ble_eq_true rfl) ⟨(Nat.le_of_ble_eq_true rfl), (Nat.le_of_ble_eq_true rfl)⟩ rfl rfl (Nat.le_of_ble_eq_true rfl) (Nat.le_of_ble_eq_true rfl) (fun r9 J_19 hq9 => ?_)
      obtain ⟨z_19, rfl, hz_19, g9, d9, e9, v9, x9⟩ := hq9
      refine tz_pop (pc := 22) dX5_passTo_22 rfl ?_
      exact tz_vret (pc := 23) dX5_passTo_23 rfl (Nat.le_of_ble_eq_true rfl) (Nat.le_of_ble_eq_true rfl) ⟨Nat.le_refl _, Nat.le_add_right _ _⟩ ⟨rfl, (by first | exact ⟨RN.rf, hD, by rw [pTo_f (hX.no (by omega))]; exact hX⟩ | exact ⟨g9, d9 hD, by rw [pTo_2 hX (by omega) (hw_9.elim (fun q => absurd q.1 (by omega)) (fun q => q.2))]; exact x9⟩ | exact ⟨g9, d9, by rw [pTo_1 hX (by omega) (hw_9.elim (fun q => q.2) (fun q => absurd q.1 (by omega)))]; exact x9⟩)⟩
  · exact tz_vret (pc := 7) dX5_passTo_7 rfl (Nat.le_of_ble_eq_true rfl) (Nat.le_of_ble_eq_true rfl) ⟨Nat.le_refl _, Nat.le_add_right _ _⟩ ⟨rfl, (by first | exact ⟨RN.rf, hD, by rw [pTo_f (hX.no (by omega))]; exact hX⟩ | exact ⟨g9, d9 hD, by rw [pTo_2 hX (by omega) (hw_9.elim (fun q => absurd q.1 (by omega)) (fun q => q.2))]; exact x9⟩ | exact ⟨g9, d9, by rw [pTo_1 hX (by omega) (hw_9.elim (fun q => q.2) (fun q => absurd q.1 (by omega)))]; exact x9⟩)⟩

set_option maxHeartbeats 4000000 in
set_option maxRecDepth 100000 in
theorem w_held {l : Launch} {G : tb_G} (hl : l.stackTraces = false) (n : Nat) (J : zJ) (x : Int) (hr_x : -2147483648 ≤ x ∧ x < 2147483648) (g : zJ) (hX : XC J g) (hx : x < 0 → g 0 4 = 99) : tz_Ok l G M_X5_held 1 0 0 [.ref 163, zi x] n J (zqi (fun z J' => RN J' J ∧ (RD2 J → RD2 J') ∧ (J' 163 8 = 0 → z = x ∧ 0 ≤ x) ∧ XC J' g ∧ (0 ≤ x → z = x))) zN := by
  refine tz_Ok.of hl (by decide +kernel) rfl (tb_c1 rfl) (Nat.le_of_ble_eq_true rfl) ?_
  show tz_At l G M_X5_held (tb_rm 1 0 0) none (tb_ZM G 0 0 (zQ n 0 (zqi (fun z J' => RN J' J ∧ (RD2 J → RD2 J') ∧ (J' 163 8 = 0 → z = x ∧ 0 ≤ x) ∧ XC J' g ∧ (0 ≤ x → z = x)))) (zX n 0 zN)) 0 0 n J 0 [some (.ref 163), some (zi x)] []
  refine tz_iload_n (pc := 0) dX5_held_0 rfl rfl ?_
  refine tz_if_ge (pc := 1) (tgt := 12) dX5_held_1 (by decide) (by omega) (fun h_1 => ?_) (fun h_1 => ?_)
  · refine tz_iload_n (pc := 12) dX5_held_12 rfl rfl ?_
    exact tz_iret (pc := 13) (z := x) dX5_held_13 rfl (Nat.le_of_ble_eq_true rfl) (Nat.le_of_ble_eq_true rfl) ⟨Nat.le_refl _, Nat.le_add_right _ _⟩ ⟨_, rfl, (by omega), (by first | exact ⟨RN.rf, id, fun q => ⟨rfl, by omega⟩, hX, fun _ => rfl⟩ | exact ⟨g9, d9, fun q => absurd q v9, Or.inl (hx (by omega)), fun q => by omega⟩)⟩
  · refine tz_aload_n (pc := 4) dX5_held_4 rfl rfl ?_
    refine tz_iconst (pc := 5) dX5_held_5 ?_
    refine tz_cV (pc := 6) (w_fail hl n _ _ (by decide) g (by decide) hX) vl_X5_97 dX5_held_6 o_163 rfl rfl (Nat.le_of_ble_eq_true rfl) ⟨(Nat.le_of_ble_eq_true rfl), (Nat.le_of_ble_eq_true rfl)⟩ rfl rfl (Nat.le_of_ble_eq_true rfl) (Nat.le_of_ble_eq_true rfl) (fun r9 J_6 hq9 => ?_)
    obtain ⟨z_6, rfl, hz_6, g9, d9, e9, v9, x9⟩ := hq9
    refine tz_goto (pc := 9) (tgt := 13) dX5_held_9 (by decide) ?_
    exact tz_iret (pc := 13) (z := z_6) dX5_held_13 rfl (Nat.le_of_ble_eq_true rfl) (Nat.le_of_ble_eq_true rfl) ⟨Nat.le_refl _, Nat.le_add_right _ _⟩ ⟨_, rfl, (by omega), (by first | exact ⟨RN.rf, id, fun q => ⟨rfl, by omega⟩, hX, fun _ => rfl⟩ | exact ⟨g9, d9, fun q => absurd q v9, Or.inl (hx (by omega)), fun q => by omega⟩)⟩

/-- a term, if there is no fault yet -/
noncomputable def pMx (g : zJ) (h x y w : Int) : zJ × Int := if g 0 4 = 0 then pMd g h x y w else (g, 0)
theorem XC.made {J' J g : zJ} {m h a b c x y w z : Int} (hX : XC J g) (hb : J 163 8 = 0) (C : CT J m) (hm : J 6 12 = m) (hh : -8 ≤ h ∧ h < J 1 3) (hx : g 0 4 = 0 → (0 < arh (J 3) h → a = x) ∧ (1 < arh (J 3) h → b = y) ∧ (2 < arh (J 3) h → c = w)) (hr : (0 < arh (J 3) h → 0 ≤ a ∧ a < m) ∧ (1 < arh (J 3) h → 0 ≤ b ∧ b < m) ∧ (2 < arh (J 3) h → 0 ≤ c ∧ c < m)) (p : madeP J m h a b c z J') : XC J' (pMx g h x y w).1 ∧ VQ z (pMx g h x y w) ∧ (z < 0 → (pMx g h x y w).1 0 4 = 99) := by
  unfold pMx
  rcases hX.bad hb with q | ⟨q, hR⟩
  · rw [if_neg (by omega)]
    exact ⟨Or.inl q, fun k => absurd k (by show ¬ g 0 4 = 0; omega), fun _ => q⟩
  · rw [if_pos q]
    exact hR.made q C hm hh (hx q) hr p
theorem pV_x {g : zJ} : pV g = pMx (pU (pN g) 0 7).1 (-1 - (pU (pN g) 0 7).2) 0 0 0 := rfl
theorem pMx_h {g : zJ} {h h' x y w : Int} (e : g 0 4 = 0 → h = h') : pMx g h x y w = pMx g h' x y w := by
  unfold pMx
  split
  · next q => rw [e q]
  · rfl
end
section
/-! ===== the class follows the reading: terms ===== -/
theorem XC.z {J g : zJ} (h : XC J g) (h9 : g 0 4 = 0) : J 163 8 = 0 := (h.resolve_left (by omega)).1.trans h9
theorem pMx_f {g : zJ} {h x y w : Int} (q : ¬ g 0 4 = 0) : pMx g h x y w = (g, 0) := by unfold pMx; rw [if_neg q]
theorem pA_0 {T : zJ → Int → zJ × Int} (hF : ∀ g d, ¬ g 0 4 = 0 → T g d = (g, 0)) {g : zJ} {B d : Int} (h : (pA4 T g B d) 0 4 = 0) : (pA3 T g B d).1 0 4 = 0 ∧ (pA2 T g B d).1 0 4 = 0 ∧ (pA1 T g B d).1 0 4 = 0 := by
  have k : ∀ (u : zJ) (c e : Int), (T (pP u c) e).1 0 4 = 0 → u 0 4 = 0 := fun u c e q => Classical.byContradiction (fun p => by
    rw [pP_f p, hF u e p] at q
    exact p q)
  have h3 : (pA3 T g B d).1 0 4 = 0 := by
    unfold pA4 at h
    split at h
    · exact Classical.byContradiction (fun p => by rw [pP_f p] at h; exact p h)
    · exact h
  have h2 : (pA2 T g B d).1 0 4 = 0 := by
    unfold pA3 at h3
    split at h3
    · exact k _ _ _ h3
    · exact h3
  refine ⟨h3, h2, ?_⟩
  unfold pA2 at h2
  split at h2
  · exact k _ _ _ h2
  · exact h2
set_option maxHeartbeats 4000000 in
set_option maxRecDepth 100000 in
theorem w_readVar {l : Launch} {G : tb_G} (hl : l.stackTraces = false) (n : Nat) (J : zJ)   (m : Int) (g : zJ) (C : CT J m) (hm : J 6 12 = m) (hD : RD2 J) (hX : XC J g) (hS : SI g) (h9 : g 0 4 = 0) : tz_Ok l G M_X5_readVariable 4 0 0 [.ref 163] n J (zqi (fun z J' => ∃ m', RT J' J m m' ∧ (J' 163 8 = 0 → 0 ≤ z ∧ z < m') ∧ XC J' (pV g).1 ∧ VQ z (pV g))) zN := by
  refine tz_Ok.of hl (by decide +kernel) rfl (tb_c1 rfl) (Nat.le_of_ble_eq_true rfl) ?_
  show tz_At l G M_X5_readVariable (tb_rm 4 0 0) none (tb_ZM G 0 0 (zQ n 0 (zqi (fun z J' => ∃ m', RT J' J m m' ∧ (J' 163 8 = 0 → 0 ≤ z ∧ z < m') ∧ XC J' (pV g).1 ∧ VQ z (pV g)))) (zX n 0 zN)) 0 0 n J 0 [some (.ref 163), none] []
  have g0 : RT J J m m := RT.rf C hm hD
  have hb := C.told
  have h8 := hX.z h9
  have nx9 : pNx g = pN g := by unfold pNx; rw [if_pos h9]
  refine tz_aload_n (pc := 0) dX5_readVariable_0 rfl rfl ?_
  have b_1 := (g0).2.1
  obtain ⟨⟨⟨b1_1, b2_1⟩, b3_1, b4_1⟩, b5_1⟩ := id b_1
  refine tz_cV (pc := 1) (w_next hl n _ g b_1 hX (by omega)) vl_X5_65 dX5_readVariable_1 o_163 rfl rfl (Nat.le_of_ble_eq_true rfl) ⟨(Nat.le_of_ble_eq_true rfl), (Nat.le_of_ble_eq_true rfl)⟩ rfl rfl (Nat.le_of_ble_eq_true rfl) (Nat.le_of_ble_eq_true rfl) (fun r9 J_1 hq9 => ?_)
  obtain ⟨rfl, g_1, d_1, v_1, x_1⟩ := hq9
  have q_1 := RT.rn g0 g_1 d_1
  have f_1 := g_1.2.2
  refine tz_aload_n (pc := 4) dX5_readVariable_4 rfl rfl ?_
  refine tz_iconst (pc := 5) dX5_readVariable_5 ?_
  refine tz_bipush (pc := 6) dX5_readVariable_6 (by decide) ?_
  have b_8 := (q_1).2.1
  obtain ⟨⟨⟨b1_8, b2_8⟩, b3_8, b4_8⟩, b5_8⟩ := id b_8
  refine tz_cV (pc := 8) (w_readNum hl n _ _ _ (by decide) (by decide) (pNx g) b_8 x_1 (SI.nx hS) (Or.inl rfl) (by decide)) vl_X5_128 dX5_readVariable_8 o_163 rfl rfl (Nat.le_of_ble_eq_true rfl) ⟨(Nat.le_of_ble_eq_true rfl), (Nat.le_of_ble_eq_true rfl)⟩ rfl rfl (Nat.le_of_ble_eq_true rfl) (Nat.le_of_ble_eq_true rfl) (fun r9 J_8 hq9 => ?_)
  obtain ⟨z_8, rfl, hz_8, g_8, d_8, u_8, x_8, y_8⟩ := hq9
  have q_8 := RT.rn q_1 g_8 d_8
  have f_8 := g_8.2.2
  refine tz_istore_n (pc := 11) (L2 := [_, _]) dX5_readVariable_11 rfl (by decide) rfl ?_
  refine tz_aload_n (pc := 12) dX5_readVariable_12 rfl rfl ?_
  refine tz_fI (pc := 13) (kz := 8) (v := (J_8 163 8)) dX5_readVariable_13 fl_X5_24 i_163_8 rfl rfl (fun r_13 => ?_)
  refine tz_if_ne (pc := 16) (tgt := 37) dX5_readVariable_16 (by decide) (by omega) (fun h_16 => ?_) (fun h_16 => ?_)
  · refine tz_iconst (pc := 37) dX5_readVariable_37 ?_
    exact tz_iret (pc := 38) (z := (-1)) dX5_readVariable_38 rfl (Nat.le_of_ble_eq_true rfl) (Nat.le_of_ble_eq_true rfl) ⟨Nat.le_refl _, Nat.le_add_right _ _⟩ ⟨_, rfl, (by decide), (by have e : pV g = ((pU (pNx g) 0 7).1, 0) := (by rw [pV_x, ← nx9]; exact pMx_f (XC.no x_8 (by omega))); rw [e]; exact ⟨m, q_8, fun k => by omega, x_8, fun k => absurd k (XC.no x_8 (by omega))⟩)⟩
  · refine tz_aload_n (pc := 19) dX5_readVariable_19 rfl rfl ?_
    refine tz_aload_n (pc := 20) dX5_readVariable_20 rfl rfl ?_
    refine tz_fR (pc := 21) dX5_readVariable_21 fl_X5_38 r_163_1 ?_
    refine tz_fR (pc := 24) dX5_readVariable_24 fl_X5_42 r_5_0 ?_
    refine tz_iload_n (pc := 27) dX5_readVariable_27 rfl rfl ?_
    have t_28 := (q_8).1.2.1.told
    have r_28 : arh (J_8 3) (-1 - z_8) = 0 := if_pos (by omega)
    refine tz_cV (pc := 28) (c_varTerm hl n _ _ (by omega) m (q_8).1.2.1 (q_8).1.2.2.1 (by omega)) vl_X5_177 dX5_readVariable_28 o_6 rfl rfl (Nat.le_of_ble_eq_true rfl) ⟨(Nat.le_of_ble_eq_true rfl), (Nat.le_of_ble_eq_true rfl)⟩ rfl rfl (Nat.le_of_ble_eq_true rfl) (Nat.le_of_ble_eq_true rfl) (fun r9 J_28 hq9 => ?_)
    obtain ⟨z_28, rfl, hz_28, p_28⟩ := hq9
    obtain ⟨m_28, y_28, h_28⟩ := GR.made p_28 (by omega)
    have q_28 := RT.made q_8 y_28
    have x_28 := XC.made (x := 0) (y := 0) (w := 0) x_8 (by omega) (q_8).1.2.1 (q_8).1.2.2.1 (by omega) (fun _ => ⟨fun k => by omega, fun k => by omega, fun k => by omega⟩) ⟨fun k => by omega, fun k => by omega, fun k => by omega⟩ p_28
    refine tz_cV (pc := 31) (w_held hl n _ _ (by omega) _ x_28.1 x_28.2.2) vl_X5_180 dX5_readVariable_31 o_163 rfl rfl (Nat.le_of_ble_eq_true rfl) ⟨(Nat.le_of_ble_eq_true rfl), (Nat.le_of_ble_eq_true rfl)⟩ rfl rfl (Nat.le_of_ble_eq_true rfl) (Nat.le_of_ble_eq_true rfl) (fun r9 J_31 hq9 => ?_)
    obtain ⟨z_31, rfl, hz_31, g_31, d_31, u_31, x_31, o_31⟩ := hq9
    have q_31 := RT.rn q_28 g_31 (d_31 (q_28).2.1)
    refine tz_goto (pc := 34) (tgt := 38) dX5_readVariable_34 (by decide) ?_
    exact tz_iret (pc := 38) (z := z_31) dX5_readVariable_38 rfl (Nat.le_of_ble_eq_true rfl) (Nat.le_of_ble_eq_true rfl) ⟨Nat.le_refl _, Nat.le_add_right _ _⟩ ⟨_, rfl, (by omega), (by have e : pV g = pMx (pU (pNx g) 0 7).1 (-1 - z_8) 0 0 0 := (by rw [pV_x, ← nx9]; exact (pMx_h (fun k => by rw [y_8 k])).symm); rw [e]; exact ⟨m_28, q_31, fun k => by have := u_31 k; omega, x_31, fun k => by have a := x_28.2.1 k; rcases (show z_28 < 0 ∨ 0 ≤ z_28 by omega) with b | b; (have := x_28.2.2 b; omega); exact (o_31 b).trans a⟩)⟩

end
section
/-! ===== the class follows the reading: compound terms ===== -/
/-- a term that begins with a word -/
noncomputable def pK (T : zJ → Int → zJ × Int) (g : zJ) (d : Int) : zJ × Int := if g 0 2 = g 0 1 + 1 then (if psy g (g 1 (g 0 1)) < g 164 44 then pC T (pN g) (psy g (g 1 (g 0 1))) d else (pF g 3, 0)) else (pF g 2, 0)
theorem pC_x {T : zJ → Int → zJ × Int} {g : zJ} {s d : Int} : pC T g s d = pMx (pA4 T g (g 170 (10 + s)) d) s (pA1 T g (g 170 (10 + s)) d).2 (pA2 T g (g 170 (10 + s)) d).2 (pA3 T g (g 170 (10 + s)) d).2 := rfl
theorem pK_2 {T : zJ → Int → zJ × Int} {d : Int} {J g : zJ} (h : XC J g) (q : g 0 4 = 0) (h0 : J 163 8 = 0) (hn : 1 < J 163 7 - J 163 6) : pK T g d = (pFx g 2, 0) := by
  unfold pK pFx
  rcases h.k h0 with p | ⟨_, e3, e2, e1, e, _⟩
  · omega
  · rw [if_pos q, if_neg (by omega)]
theorem pK_4 {T : zJ → Int → zJ × Int} {d : Int} {J g : zJ} {z : Int} (h : XC J g) (hS : SI g) (q : g 0 4 = 0) (h0 : J 163 8 = 0) (hk : ¬ J 163 5 = 0) (hn : ¬ 1 < J 163 7 - J 163 6) (h1 : 0 ≤ J 1 3) (dj : (0 ≤ z ∧ z < J 1 3 ∧ J 2 z = J 162 (J 163 6) ∧ ∀ i, 0 ≤ i → i < z → ¬ J 2 i = J 162 (J 163 6)) ∨ (z = -1 ∧ ∀ i, 0 ≤ i → i < J 1 3 → ¬ J 2 i = J 162 (J 163 6))) : (z = -1 → pK T g d = (pFx g 3, 0)) ∧ (¬ z = -1 → pK T g d = pMx (pA4 T (pNx g) (J 3 z) d) z (pA1 T (pNx g) (J 3 z) d).2 (pA2 T (pNx g) (J 3 z) d).2 (pA3 T (pNx g) (J 3 z) d).2) := by
  have v := h.w hS h0 hk
  have nx9 : pNx g = pN g := by unfold pNx; rw [if_pos q]
  rw [nx9]
  unfold pK pFx
  rcases h.k h0 with p | ⟨_, e3, e2, e1, e, E⟩
  · omega
  · have s := E.2.2.2.sy h1 dj
    rw [if_pos q, if_pos (by omega), e1, e]
    refine ⟨fun k => ?_, fun k => ?_⟩
    · rw [if_neg (by omega)]
    · rcases s with ⟨a, b, c⟩ | ⟨a, b⟩
      · have e3 : J 3 z = pN g 170 (10 + z) := (E.2.2.2.1.2 z a b).2.1.trans (congrFun (pN_c (g := g) (c := 170) (by decide)).symm _)
        rw [if_pos (by omega), c, pC_x, e3]
      · omega
theorem pT_k {k : Nat} {g : zJ} {d : Int} (h : g 0 4 = 0) (h3 : g 0 3 = 2) (hd : d ≤ 6) : pT (k + 1) g d = pK (pT k) g d := by
  rw [pT_s, if_pos h, if_neg (by omega), if_pos h3]
  unfold pK
  by_cases e : g 0 2 = g 0 1 + 1
  · rw [if_pos ⟨hd, e⟩, if_pos e]
  · rw [if_neg (fun q => e q.2), if_neg e]
set_option maxHeartbeats 4000000 in
set_option maxRecDepth 100000 in
theorem w_readArg {l : Launch} {G : tb_G} (hl : l.stackTraces = false) (n : Nat) (J : zJ) (k : Int) (dp : Int) (hr_k : -2147483648 ≤ k ∧ k < 2147483648) (hr_dp : -2147483648 ≤ dp ∧ dp < 2147483648) (T : zJ → Int → zJ × Int) (hT : ∀ g d, SI g → SI (T g d).1) (hF : ∀ g d, ¬ g 0 4 = 0 → T g d = (g, 0)) (d9 : Nat) (hd9 : 9 ≤ d9) (H : ∀ (J : zJ) (m : Int) (g : zJ) (C : CT J m) (hm : J 6 12 = m) (hD : RD2 J) (hX : XC J g) (hS : SI g), tz_Ok l G M_X5_readTerm d9 0 0 [.ref 163, zi (dp + 1)] n J (zqi (fun z J' => ∃ m', RT J' J m m' ∧ (J' 163 8 = 0 → 0 ≤ z ∧ z < m') ∧ XC J' (T g (dp + 1)).1 ∧ VQ z (T g (dp + 1)))) zN) (m : Int) (g : zJ) (C : CT J m) (hm : J 6 12 = m) (hD : RD2 J) (hX : XC J g) (hS : SI g) : tz_Ok l G M_X5_readArgument (d9 + 1) 0 0 [.ref 163, zi k, zi dp] n J (zqi (fun z J' => ∃ m', RT J' J m m' ∧ (J' 163 8 = 0 → 0 ≤ z ∧ z < m') ∧ XC J' (T (pP g k) (dp + 1)).1 ∧ VQ z (T (pP g k) (dp + 1)))) zN := by
  refine tz_Ok.of hl (by decide +kernel) rfl (tb_c1 rfl) (Nat.le_of_ble_eq_true rfl) ?_
  show tz_At l G M_X5_readArgument (tb_rm (d9 + 1) 0 0) none (tb_ZM G 0 0 (zQ n 0 (zqi (fun z J' => ∃ m', RT J' J m m' ∧ (J' 163 8 = 0 → 0 ≤ z ∧ z < m') ∧ XC J' (T (pP g k) (dp + 1)).1 ∧ VQ z (T (pP g k) (dp + 1))))) (zX n 0 zN)) 0 0 n J 0 [some (.ref 163), some (zi k), some (zi dp)] []
  have g0 : RT J J m m := RT.rf C hm hD
  refine tz_aload_n (pc := 0) dX5_readArgument_0 rfl rfl ?_
  refine tz_iload_n (pc := 1) dX5_readArgument_1 rfl rfl ?_
  have b_2 := (g0).2.1
  obtain ⟨⟨⟨b1_2, b2_2⟩, b3_2, b4_2⟩, b5_2⟩ := id b_2
  refine tz_cV (pc := 2) (w_pass hl n _ _ (by omega) g b_2 hX hS) vl_X5_116 dX5_readArgument_2 o_163 rfl rfl (Nat.le_of_ble_eq_true rfl) ⟨(show 2 + 1 ≤ d9 + 1 by omega), (show 8 + (2 + 11) + 40 * (2) ≤ 40 * (d9 + 1) by omega)⟩ rfl rfl (Nat.le_of_ble_eq_true rfl) (Nat.le_of_ble_eq_true rfl) (fun r9 J_2 hq9 => ?_)
  obtain ⟨rfl, g_2, d_2, x_2⟩ := hq9
  have q_2 := RT.rn g0 g_2 d_2
  have f_2 := g_2.2.2
  refine tz_aload_n (pc := 5) dX5_readArgument_5 rfl rfl ?_
  refine tz_iload_n (pc := 6) dX5_readArgument_6 rfl rfl ?_
  refine tz_iconst (pc := 7) dX5_readArgument_7 ?_
  refine tz_iadd (pc := 8) (v := dp + 1) dX5_readArgument_8 rfl ?_
  refine tz_cV (pc := 9) (H _ m (pP g k) (q_2).1.2.1 (q_2).1.2.2.1 (q_2).2.1 x_2 (SI.p hS)) vl_X5_113 dX5_readArgument_9 o_163 rfl rfl (Nat.le_of_ble_eq_true rfl) ⟨(show d9 + 1 ≤ d9 + 1 by omega), (show 8 + (2 + 11) + 40 * (d9) ≤ 40 * (d9 + 1) by omega)⟩ rfl rfl (Nat.le_of_ble_eq_true rfl) (Nat.le_of_ble_eq_true rfl) (fun r9 J_9 hq9 => ?_)
  obtain ⟨z_9, rfl, hz_9, m_9, g_9, u_9, x_9, y_9⟩ := hq9
  have q_9 := RT.tr q_2 g_9
  have f_9 := g_9.2.2
  exact tz_iret (pc := 12) (z := z_9) dX5_readArgument_12 rfl (Nat.le_of_ble_eq_true rfl) (Nat.le_of_ble_eq_true rfl) ⟨Nat.le_refl _, Nat.le_add_right _ _⟩ ⟨_, rfl, (by omega), ⟨m_9, q_9, u_9, x_9, y_9⟩⟩

set_option maxHeartbeats 4000000 in
set_option maxRecDepth 100000 in
theorem w_readComp {l : Launch} {G : tb_G} (hl : l.stackTraces = false) (n : Nat) (J : zJ) (dp : Int) (hr_dp : -2147483648 ≤ dp ∧ dp < 2147483648) (T : zJ → Int → zJ × Int) (hT : ∀ g d, SI g → SI (T g d).1) (hF : ∀ g d, ¬ g 0 4 = 0 → T g d = (g, 0)) (d9 : Nat) (hd9 : 9 ≤ d9) (H : ∀ (J : zJ) (m : Int) (g : zJ) (C : CT J m) (hm : J 6 12 = m) (hD : RD2 J) (hX : XC J g) (hS : SI g), tz_Ok l G M_X5_readTerm d9 0 0 [.ref 163, zi (dp + 1)] n J (zqi (fun z J' => ∃ m', RT J' J m m' ∧ (J' 163 8 = 0 → 0 ≤ z ∧ z < m') ∧ XC J' (T g (dp + 1)).1 ∧ VQ z (T g (dp + 1)))) zN) (m : Int) (g : zJ) (C : CT J m) (hm : J 6 12 = m) (hD : RD2 J) (hX : XC J g) (hS : SI g) (h9 : g 0 4 = 0) (hk : J 163 6 < J 163 4) (hk5 : ¬ J 163 5 = 0) : tz_Ok l G M_X5_readCompound (d9 + 2) 0 0 [.ref 163, zi dp] n J (zqi (fun z J' => ∃ m', RT J' J m m' ∧ (J' 163 8 = 0 → 0 ≤ z ∧ z < m') ∧ XC J' (pK T g dp).1 ∧ VQ z (pK T g dp))) zN := by
  refine tz_Ok.of hl (by decide +kernel) rfl (tb_c1 rfl) (Nat.le_of_ble_eq_true rfl) ?_
  show tz_At l G M_X5_readCompound (tb_rm (d9 + 2) 0 0) none (tb_ZM G 0 0 (zQ n 0 (zqi (fun z J' => ∃ m', RT J' J m m' ∧ (J' 163 8 = 0 → 0 ≤ z ∧ z < m') ∧ XC J' (pK T g dp).1 ∧ VQ z (pK T g dp)))) (zX n 0 zN)) 0 0 n J 0 [some (.ref 163), some (zi dp), none, none, none, none, none] []
  have g0 : RT J J m m := RT.rf C hm hD
  have hb := C.told
  have h8 := hX.z h9
  obtain ⟨⟨⟨hD1, hD2⟩, hD3, hD4⟩, hD5⟩ := id hD
  refine tz_aload_n (pc := 0) dX5_readCompound_0 rfl rfl ?_
  refine tz_fI (pc := 1) (kz := 7) (v := (J 163 7)) dX5_readCompound_1 fl_X5_21 i_163_7 rfl rfl (fun r_1 => ?_)
  refine tz_aload_n (pc := 4) dX5_readCompound_4 rfl rfl ?_
  refine tz_fI (pc := 5) (kz := 6) (v := (J 163 6)) dX5_readCompound_5 fl_X5_18 i_163_6 rfl rfl (fun r_5 => ?_)
  refine tz_isub (pc := 8) (v := (J 163 7) - (J 163 6)) dX5_readCompound_8 rfl ?_
  refine tz_iconst (pc := 9) dX5_readCompound_9 ?_
  refine tz_icmp_le (pc := 10) (tgt := 19) dX5_readCompound_10 (by decide) (by omega) (by decide) (fun h_10 => ?_) (fun h_10 => ?_)
  · refine tz_aload_n (pc := 19) dX5_readCompound_19 rfl rfl ?_
    refine tz_fR (pc := 20) dX5_readCompound_20 fl_X5_54 r_163_2 ?_
    refine tz_aload_n (pc := 23) dX5_readCompound_23 rfl rfl ?_
    refine tz_fR (pc := 24) dX5_readCompound_24 fl_X5_34 r_163_0 ?_
    refine tz_aload_n (pc := 27) dX5_readCompound_27 rfl rfl ?_
    refine tz_fI (pc := 28) (kz := 6) (v := (J 163 6)) dX5_readCompound_28 fl_X5_18 i_163_6 rfl rfl (fun r_28 => ?_)
    refine tz_aL (pc := 31) (z := (J 163 6)) (v := (J 162 (J 163 6))) dX5_readCompound_31 a_162 rfl (by omega) rfl (fun r_31 => ?_)
    refine tz_cV (pc := 32) (c_named hl n _ _ (by omega) hb.1) vl_X5_135 dX5_readCompound_32 o_1 rfl rfl (Nat.le_of_ble_eq_true rfl) ⟨(show 0 + 1 ≤ d9 + 2 by omega), (show 8 + (3 + 11) + 40 * (0) ≤ 40 * (d9 + 2) by omega)⟩ rfl rfl (Nat.le_of_ble_eq_true rfl) (Nat.le_of_ble_eq_true rfl) (fun r9 J_32 hq9 => ?_)
    obtain ⟨z_32, rfl, hz_32, rfl, hnm⟩ := hq9
    refine tz_istore_n (pc := 35) (L2 := [_, _, _, _, _, _, _]) dX5_readCompound_35 rfl (by decide) rfl ?_
    have ns : -1 ≤ z_32 ∧ z_32 < J 1 3 := by omega
    refine tz_iload_n (pc := 36) dX5_readCompound_36 rfl rfl ?_
    refine tz_iconst (pc := 37) dX5_readCompound_37 ?_
    refine tz_icmp_ne (pc := 38) (tgt := 47) dX5_readCompound_38 (by decide) (by omega) (by decide) (fun h_38 => ?_) (fun h_38 => ?_)
    · refine tz_aload_n (pc := 47) dX5_readCompound_47 rfl rfl ?_
      have b_48 := (g0).2.1
      obtain ⟨⟨⟨b1_48, b2_48⟩, b3_48, b4_48⟩, b5_48⟩ := id b_48
      refine tz_cV (pc := 48) (w_next hl n _ g b_48 hX (by omega)) vl_X5_65 dX5_readCompound_48 o_163 rfl rfl (Nat.le_of_ble_eq_true rfl) ⟨(show 1 + 1 ≤ d9 + 2 by omega), (show 8 + (1 + 11) + 40 * (1) ≤ 40 * (d9 + 2) by omega)⟩ rfl rfl (Nat.le_of_ble_eq_true rfl) (Nat.le_of_ble_eq_true rfl) (fun r9 J_48 hq9 => ?_)
      obtain ⟨rfl, g_48, d_48, v_48, x_48⟩ := hq9
      have q_48 := RT.rn g0 g_48 d_48
      have f_48 := g_48.2.2
      refine tz_aload_n (pc := 51) dX5_readCompound_51 rfl rfl ?_
      refine tz_fR (pc := 52) dX5_readCompound_52 fl_X5_54 r_163_2 ?_
      refine tz_fR (pc := 55) dX5_readCompound_55 fl_X5_183 r_1_1 ?_
      refine tz_iload_n (pc := 58) dX5_readCompound_58 rfl rfl ?_
      have hA := C.1.1.1.2 z_32 (by omega) (by omega)
      refine tz_aL (pc := 59) (z := z_32) (v := (J 3 z_32)) dX5_readCompound_59 a_3 rfl (by omega) (Eq.trans (congrFun (g_48.1 3 rfl) z_32) rfl) (fun r_59 => ?_)
      refine tz_istore_n (pc := 60) (L2 := [_, _, _, _, _, _, _]) dX5_readCompound_60 rfl (by decide) rfl ?_
      refine tz_iload_n (pc := 61) dX5_readCompound_61 rfl rfl ?_
      refine tz_iconst (pc := 62) dX5_readCompound_62 ?_
      refine tz_icmp_ge (pc := 63) (tgt := 70) dX5_readCompound_63 (by decide) (by omega) (by decide) (fun h_63 => ?_) (fun h_63 => ?_)
      · refine tz_aload_n (pc := 70) dX5_readCompound_70 rfl rfl ?_
        refine tz_bipush (pc := 71) dX5_readCompound_71 (by decide) ?_
        refine tz_iload_n (pc := 73) dX5_readCompound_73 rfl rfl ?_
        refine tz_cV (pc := 74) (w_readArg hl n _ _ _ (by decide) (by omega) T hT hF d9 hd9 H m (pNx g) (q_48).1.2.1 (q_48).1.2.2.1 (q_48).2.1 x_48 (SI.nx hS)) vl_X5_186 dX5_readCompound_74 o_163 rfl rfl (Nat.le_of_ble_eq_true rfl) ⟨(show (d9 + 1) + 1 ≤ d9 + 2 by omega), (show 8 + (3 + 11) + 40 * ((d9 + 1)) ≤ 40 * (d9 + 2) by omega)⟩ rfl rfl (Nat.le_of_ble_eq_true rfl) (Nat.le_of_ble_eq_true rfl) (fun r9 J_74 hq9 => ?_)
        obtain ⟨z_74, rfl, hz_74, m_74, g_74, u_74, x_74, y_74⟩ := hq9
        have q_74 := RT.tr q_48 g_74
        have f_74 := g_74.2.2
        have l_74 := g_74.1.1
        have a_74 : XC J_74 (pA1 T (pNx g) (J 3 z_32) dp).1 := by unfold pA1; rw [if_pos (by omega)]; exact x_74
        have b_74 : VQ z_74 (pA1 T (pNx g) (J 3 z_32) dp) := by unfold pA1; rw [if_pos (by omega)]; exact y_74
        refine tz_istore (pc := 77) (L2 := [_, _, _, _, _, _, _]) dX5_readCompound_77 (by decide) rfl ?_
        refine tz_iload_n (pc := 79) dX5_readCompound_79 rfl rfl ?_
        refine tz_iconst (pc := 80) dX5_readCompound_80 ?_
        refine tz_icmp_ge (pc := 81) (tgt := 88) dX5_readCompound_81 (by decide) (by omega) (by decide) (fun h_81 => ?_) (fun h_81 => ?_)
        · refine tz_aload_n (pc := 88) dX5_readCompound_88 rfl rfl ?_
          refine tz_bipush (pc := 89) dX5_readCompound_89 (by decide) ?_
          refine tz_iload_n (pc := 91) dX5_readCompound_91 rfl rfl ?_
          refine tz_cV (pc := 92) (w_readArg hl n _ _ _ (by decide) (by omega) T hT hF d9 hd9 H m_74 (pA1 T (pNx g) (J 3 z_32) dp).1 (q_74).1.2.1 (q_74).1.2.2.1 (q_74).2.1 a_74 (SI.a1 hT (SI.nx hS))) vl_X5_186 dX5_readCompound_92 o_163 rfl rfl (Nat.le_of_ble_eq_true rfl) ⟨(show (d9 + 1) + 1 ≤ d9 + 2 by omega), (show 8 + (3 + 11) + 40 * ((d9 + 1)) ≤ 40 * (d9 + 2) by omega)⟩ rfl rfl (Nat.le_of_ble_eq_true rfl) (Nat.le_of_ble_eq_true rfl) (fun r9 J_92 hq9 => ?_)
          obtain ⟨z_92, rfl, hz_92, m_92, g_92, u_92, x_92, y_92⟩ := hq9
          have q_92 := RT.tr q_74 g_92
          have f_92 := g_92.2.2
          have l_92 := g_92.1.1
          have a_92 : XC J_92 (pA2 T (pNx g) (J 3 z_32) dp).1 := by unfold pA2; rw [if_pos (by omega)]; exact x_92
          have b_92 : VQ z_92 (pA2 T (pNx g) (J 3 z_32) dp) := by unfold pA2; rw [if_pos (by omega)]; exact y_92
          refine tz_istore (pc := 95) (L2 := [_, _, _, _, _, _, _]) dX5_readCompound_95 (by decide) rfl ?_
          refine tz_iload_n (pc := 97) dX5_readCompound_97 rfl rfl ?_
          refine tz_iconst (pc := 98) dX5_readCompound_98 ?_
          refine tz_icmp_ge (pc := 99) (tgt := 106) dX5_readCompound_99 (by decide) (by omega) (by decide) (fun h_99 => ?_) (fun h_99 => ?_)
          · refine tz_aload_n (pc := 106) dX5_readCompound_106 rfl rfl ?_
            refine tz_bipush (pc := 107) dX5_readCompound_107 (by decide) ?_
            refine tz_iload_n (pc := 109) dX5_readCompound_109 rfl rfl ?_
            refine tz_cV (pc := 110) (w_readArg hl n _ _ _ (by decide) (by omega) T hT hF d9 hd9 H m_92 (pA2 T (pNx g) (J 3 z_32) dp).1 (q_92).1.2.1 (q_92).1.2.2.1 (q_92).2.1 a_92 (SI.a2 hT (SI.nx hS))) vl_X5_186 dX5_readCompound_110 o_163 rfl rfl (Nat.le_of_ble_eq_true rfl) ⟨(show (d9 + 1) + 1 ≤ d9 + 2 by omega), (show 8 + (3 + 11) + 40 * ((d9 + 1)) ≤ 40 * (d9 + 2) by omega)⟩ rfl rfl (Nat.le_of_ble_eq_true rfl) (Nat.le_of_ble_eq_true rfl) (fun r9 J_110 hq9 => ?_)
            obtain ⟨z_110, rfl, hz_110, m_110, g_110, u_110, x_110, y_110⟩ := hq9
            have q_110 := RT.tr q_92 g_110
            have f_110 := g_110.2.2
            have l_110 := g_110.1.1
            have a_110 : XC J_110 (pA3 T (pNx g) (J 3 z_32) dp).1 := by unfold pA3; rw [if_pos (by omega)]; exact x_110
            have b_110 : VQ z_110 (pA3 T (pNx g) (J 3 z_32) dp) := by unfold pA3; rw [if_pos (by omega)]; exact y_110
            refine tz_istore (pc := 113) (L2 := [_, _, _, _, _, _, _]) dX5_readCompound_113 (by decide) rfl ?_
            refine tz_iload_n (pc := 115) dX5_readCompound_115 rfl rfl ?_
            refine tz_if_le (pc := 116) (tgt := 125) dX5_readCompound_116 (by decide) (by omega) (fun h_116 => ?_) (fun h_116 => ?_)
            · refine tz_aload_n (pc := 125) dX5_readCompound_125 rfl rfl ?_
              refine tz_fI (pc := 126) (kz := 8) (v := (J_110 163 8)) dX5_readCompound_126 fl_X5_24 i_163_8 rfl rfl (fun r_126 => ?_)
              refine tz_if_ne (pc := 129) (tgt := 156) dX5_readCompound_129 (by decide) (by omega) (fun h_129 => ?_) (fun h_129 => ?_)
              · refine tz_iconst (pc := 156) dX5_readCompound_156 ?_
                exact tz_iret (pc := 157) (z := (-1)) dX5_readCompound_157 rfl (Nat.le_of_ble_eq_true rfl) (Nat.le_of_ble_eq_true rfl) ⟨Nat.le_refl _, Nat.le_add_right _ _⟩ ⟨_, rfl, (by decide), (by have X4 : XC J_110 (pA4 T (pNx g) (J 3 z_32) dp) := (False.elim (by omega)); rw [(pK_4 (T := T) (d := dp) hX hS h9 h8 (by omega) (by omega) hb.1.1 hnm).2 (by omega), pMx_f (XC.no X4 (by omega))]; exact ⟨m_110, q_110, fun k => by omega, X4, fun k => absurd k (XC.no X4 (by omega))⟩)⟩
              · refine tz_aload_n (pc := 132) dX5_readCompound_132 rfl rfl ?_
                refine tz_aload_n (pc := 133) dX5_readCompound_133 rfl rfl ?_
                refine tz_fR (pc := 134) dX5_readCompound_134 fl_X5_38 r_163_1 ?_
                refine tz_fR (pc := 137) dX5_readCompound_137 fl_X5_42 r_5_0 ?_
                refine tz_iload_n (pc := 140) dX5_readCompound_140 rfl rfl ?_
                refine tz_iload (pc := 141) dX5_readCompound_141 rfl ?_
                refine tz_iload (pc := 143) dX5_readCompound_143 rfl ?_
                refine tz_iload (pc := 145) dX5_readCompound_145 rfl ?_
                have x1 := (q_110).1.2.2.2.2 1 rfl
                have x3 := (q_110).1.2.2.2.2 3 rfl
                have t_147 := (q_110).1.2.1.told
                have ra : arh (J_110 3) z_32 = J 3 z_32 := by rw [x3]; exact if_neg (by omega)
                have X4 : XC J_110 (pA4 T (pNx g) (J 3 z_32) dp) := (False.elim (by omega))
                refine tz_cV (pc := 147) (c_made hl n _ _ _ _ _ (by omega) (by omega) (by omega) (by omega) m_110 (q_110).1.2.1 (q_110).1.2.2.1 (by rw [x1]; omega) (ltA_of (by omega) (by omega) (by omega))) vl_X5_189 dX5_readCompound_147 o_6 rfl rfl (Nat.le_of_ble_eq_true rfl) ⟨(show 2 + 1 ≤ d9 + 2 by omega), (show 8 + (11 + 11) + 40 * (2) ≤ 40 * (d9 + 2) by omega)⟩ rfl rfl (Nat.le_of_ble_eq_true rfl) (Nat.le_of_ble_eq_true rfl) (fun r9 J_147 hq9 => ?_)
                obtain ⟨z_147, rfl, hz_147, p_147⟩ := hq9
                obtain ⟨m_147, y_147, h_147⟩ := GR.made p_147 (by omega)
                have q_147 := RT.made q_110 y_147
                have x_147 := XC.made (x := (pA1 T (pNx g) (J 3 z_32) dp).2) (y := (pA2 T (pNx g) (J 3 z_32) dp).2) (w := (pA3 T (pNx g) (J 3 z_32) dp).2) X4 (by omega) (q_110).1.2.1 (q_110).1.2.2.1 (by rw [x1]; omega) (fun k => ⟨fun _ => b_74 (pA_0 hF k).2.2, fun _ => b_92 (pA_0 hF k).2.1, fun _ => b_110 (pA_0 hF k).1⟩) ⟨fun u => by omega, fun u => by omega, fun u => by omega⟩ p_147
                refine tz_cV (pc := 150) (w_held hl n _ _ (by omega) _ x_147.1 x_147.2.2) vl_X5_180 dX5_readCompound_150 o_163 rfl rfl (Nat.le_of_ble_eq_true rfl) ⟨(show 1 + 1 ≤ d9 + 2 by omega), (show 8 + (2 + 11) + 40 * (1) ≤ 40 * (d9 + 2) by omega)⟩ rfl rfl (Nat.le_of_ble_eq_true rfl) (Nat.le_of_ble_eq_true rfl) (fun r9 J_150 hq9 => ?_)
                obtain ⟨z_150, rfl, hz_150, g_150, d_150, u_150, x_150, o_150⟩ := hq9
                have q_150 := RT.rn q_147 g_150 (d_150 (q_147).2.1)
                refine tz_goto (pc := 153) (tgt := 157) dX5_readCompound_153 (by decide) ?_
                exact tz_iret (pc := 157) (z := z_150) dX5_readCompound_157 rfl (Nat.le_of_ble_eq_true rfl) (Nat.le_of_ble_eq_true rfl) ⟨Nat.le_refl _, Nat.le_add_right _ _⟩ ⟨_, rfl, (by omega), (by rw [(pK_4 (T := T) (d := dp) hX hS h9 h8 (by omega) (by omega) hb.1.1 hnm).2 (by omega)]; exact ⟨m_147, q_150, fun k => by have := u_150 k; omega, x_150, fun k => by have a := x_147.2.1 k; rcases (show z_147 < 0 ∨ 0 ≤ z_147 by omega) with b | b; (have := x_147.2.2 b; omega); exact (o_150 b).trans a⟩)⟩
            · refine tz_aload_n (pc := 119) dX5_readCompound_119 rfl rfl ?_
              refine tz_bipush (pc := 120) dX5_readCompound_120 (by decide) ?_
              have b_122 := (q_110).2.1
              obtain ⟨⟨⟨b1_122, b2_122⟩, b3_122, b4_122⟩, b5_122⟩ := id b_122
              refine tz_cV (pc := 122) (w_pass hl n _ _ (by omega) (pA3 T (pNx g) (J 3 z_32) dp).1 b_122 a_110 (SI.a3 hT (SI.nx hS))) vl_X5_116 dX5_readCompound_122 o_163 rfl rfl (Nat.le_of_ble_eq_true rfl) ⟨(show 2 + 1 ≤ d9 + 2 by omega), (show 8 + (2 + 11) + 40 * (2) ≤ 40 * (d9 + 2) by omega)⟩ rfl rfl (Nat.le_of_ble_eq_true rfl) (Nat.le_of_ble_eq_true rfl) (fun r9 J_122 hq9 => ?_)
              obtain ⟨rfl, g_122, d_122, x_122⟩ := hq9
              have q_122 := RT.rn q_110 g_122 d_122
              have f_122 := g_122.2.2
              refine tz_aload_n (pc := 125) dX5_readCompound_125 rfl rfl ?_
              refine tz_fI (pc := 126) (kz := 8) (v := (J_122 163 8)) dX5_readCompound_126 fl_X5_24 i_163_8 rfl rfl (fun r_126 => ?_)
              refine tz_if_ne (pc := 129) (tgt := 156) dX5_readCompound_129 (by decide) (by omega) (fun h_129 => ?_) (fun h_129 => ?_)
              · refine tz_iconst (pc := 156) dX5_readCompound_156 ?_
                exact tz_iret (pc := 157) (z := (-1)) dX5_readCompound_157 rfl (Nat.le_of_ble_eq_true rfl) (Nat.le_of_ble_eq_true rfl) ⟨Nat.le_refl _, Nat.le_add_right _ _⟩ ⟨_, rfl, (by decide), (by have X4 : XC J_122 (pA4 T (pNx g) (J 3 z_32) dp) := (by unfold pA4; rw [if_pos (by omega)]; exact x_122); rw [(pK_4 (T := T) (d := dp) hX hS h9 h8 (by omega) (by omega) hb.1.1 hnm).2 (by omega), pMx_f (XC.no X4 (by omega))]; exact ⟨m_110, q_122, fun k => by omega, X4, fun k => absurd k (XC.no X4 (by omega))⟩)⟩
              · refine tz_aload_n (pc := 132) dX5_readCompound_132 rfl rfl ?_
                refine tz_aload_n (pc := 133) dX5_readCompound_133 rfl rfl ?_
                refine tz_fR (pc := 134) dX5_readCompound_134 fl_X5_38 r_163_1 ?_
                refine tz_fR (pc := 137) dX5_readCompound_137 fl_X5_42 r_5_0 ?_
                refine tz_iload_n (pc := 140) dX5_readCompound_140 rfl rfl ?_
                refine tz_iload (pc := 141) dX5_readCompound_141 rfl ?_
                refine tz_iload (pc := 143) dX5_readCompound_143 rfl ?_
                refine tz_iload (pc := 145) dX5_readCompound_145 rfl ?_
                have x1 := (q_122).1.2.2.2.2 1 rfl
                have x3 := (q_122).1.2.2.2.2 3 rfl
                have t_147 := (q_122).1.2.1.told
                have ra : arh (J_122 3) z_32 = J 3 z_32 := by rw [x3]; exact if_neg (by omega)
                have X4 : XC J_122 (pA4 T (pNx g) (J 3 z_32) dp) := (by unfold pA4; rw [if_pos (by omega)]; exact x_122)
                refine tz_cV (pc := 147) (c_made hl n _ _ _ _ _ (by omega) (by omega) (by omega) (by omega) m_110 (q_122).1.2.1 (q_122).1.2.2.1 (by rw [x1]; omega) (ltA_of (by omega) (by omega) (by omega))) vl_X5_189 dX5_readCompound_147 o_6 rfl rfl (Nat.le_of_ble_eq_true rfl) ⟨(show 2 + 1 ≤ d9 + 2 by omega), (show 8 + (11 + 11) + 40 * (2) ≤ 40 * (d9 + 2) by omega)⟩ rfl rfl (Nat.le_of_ble_eq_true rfl) (Nat.le_of_ble_eq_true rfl) (fun r9 J_147 hq9 => ?_)
                obtain ⟨z_147, rfl, hz_147, p_147⟩ := hq9
                obtain ⟨m_147, y_147, h_147⟩ := GR.made p_147 (by omega)
                have q_147 := RT.made q_122 y_147
                have x_147 := XC.made (x := (pA1 T (pNx g) (J 3 z_32) dp).2) (y := (pA2 T (pNx g) (J 3 z_32) dp).2) (w := (pA3 T (pNx g) (J 3 z_32) dp).2) X4 (by omega) (q_122).1.2.1 (q_122).1.2.2.1 (by rw [x1]; omega) (fun k => ⟨fun _ => b_74 (pA_0 hF k).2.2, fun _ => b_92 (pA_0 hF k).2.1, fun _ => b_110 (pA_0 hF k).1⟩) ⟨fun u => by omega, fun u => by omega, fun u => by omega⟩ p_147
                refine tz_cV (pc := 150) (w_held hl n _ _ (by omega) _ x_147.1 x_147.2.2) vl_X5_180 dX5_readCompound_150 o_163 rfl rfl (Nat.le_of_ble_eq_true rfl) ⟨(show 1 + 1 ≤ d9 + 2 by omega), (show 8 + (2 + 11) + 40 * (1) ≤ 40 * (d9 + 2) by omega)⟩ rfl rfl (Nat.le_of_ble_eq_true rfl) (Nat.le_of_ble_eq_true rfl) (fun r9 J_150 hq9 => ?_)
                obtain ⟨z_150, rfl, hz_150, g_150, d_150, u_150, x_150, o_150⟩ := hq9
                have q_150 := RT.rn q_147 g_150 (d_150 (q_147).2.1)
                refine tz_goto (pc := 153) (tgt := 157) dX5_readCompound_153 (by decide) ?_
                exact tz_iret (pc := 157) (z := z_150) dX5_readCompound_157 rfl (Nat.le_of_ble_eq_true rfl) (Nat.le_of_ble_eq_true rfl) ⟨Nat.le_refl _, Nat.le_add_right _ _⟩ ⟨_, rfl, (by omega), (by rw [(pK_4 (T := T) (d := dp) hX hS h9 h8 (by omega) (by omega) hb.1.1 hnm).2 (by omega)]; exact ⟨m_147, q_150, fun k => by have := u_150 k; omega, x_150, fun k => by have a := x_147.2.1 k; rcases (show z_147 < 0 ∨ 0 ≤ z_147 by omega) with b | b; (have := x_147.2.2 b; omega); exact (o_150 b).trans a⟩)⟩
          · refine tz_iconst (pc := 102) dX5_readCompound_102 ?_
            refine tz_goto (pc := 103) (tgt := 113) dX5_readCompound_103 (by decide) ?_
            refine tz_istore (pc := 113) (L2 := [_, _, _, _, _, _, _]) dX5_readCompound_113 (by decide) rfl ?_
            refine tz_iload_n (pc := 115) dX5_readCompound_115 rfl rfl ?_
            refine tz_if_le (pc := 116) (tgt := 125) dX5_readCompound_116 (by decide) (by omega) (fun h_116 => ?_) (fun h_116 => ?_)
            · refine tz_aload_n (pc := 125) dX5_readCompound_125 rfl rfl ?_
              refine tz_fI (pc := 126) (kz := 8) (v := (J_92 163 8)) dX5_readCompound_126 fl_X5_24 i_163_8 rfl rfl (fun r_126 => ?_)
              refine tz_if_ne (pc := 129) (tgt := 156) dX5_readCompound_129 (by decide) (by omega) (fun h_129 => ?_) (fun h_129 => ?_)
              · refine tz_iconst (pc := 156) dX5_readCompound_156 ?_
                exact tz_iret (pc := 157) (z := (-1)) dX5_readCompound_157 rfl (Nat.le_of_ble_eq_true rfl) (Nat.le_of_ble_eq_true rfl) ⟨Nat.le_refl _, Nat.le_add_right _ _⟩ ⟨_, rfl, (by decide), (by have X4 : XC J_92 (pA4 T (pNx g) (J 3 z_32) dp) := (False.elim (by omega)); rw [(pK_4 (T := T) (d := dp) hX hS h9 h8 (by omega) (by omega) hb.1.1 hnm).2 (by omega), pMx_f (XC.no X4 (by omega))]; exact ⟨m_92, q_92, fun k => by omega, X4, fun k => absurd k (XC.no X4 (by omega))⟩)⟩
              · refine tz_aload_n (pc := 132) dX5_readCompound_132 rfl rfl ?_
                refine tz_aload_n (pc := 133) dX5_readCompound_133 rfl rfl ?_
                refine tz_fR (pc := 134) dX5_readCompound_134 fl_X5_38 r_163_1 ?_
                refine tz_fR (pc := 137) dX5_readCompound_137 fl_X5_42 r_5_0 ?_
                refine tz_iload_n (pc := 140) dX5_readCompound_140 rfl rfl ?_
                refine tz_iload (pc := 141) dX5_readCompound_141 rfl ?_
                refine tz_iload (pc := 143) dX5_readCompound_143 rfl ?_
                refine tz_iload (pc := 145) dX5_readCompound_145 rfl ?_
                have x1 := (q_92).1.2.2.2.2 1 rfl
                have x3 := (q_92).1.2.2.2.2 3 rfl
                have t_147 := (q_92).1.2.1.told
                have ra : arh (J_92 3) z_32 = J 3 z_32 := by rw [x3]; exact if_neg (by omega)
                have X4 : XC J_92 (pA4 T (pNx g) (J 3 z_32) dp) := (False.elim (by omega))
                refine tz_cV (pc := 147) (c_made hl n _ _ _ _ _ (by omega) (by omega) (by omega) (by omega) m_92 (q_92).1.2.1 (q_92).1.2.2.1 (by rw [x1]; omega) (ltA_of (by omega) (by omega) (by omega))) vl_X5_189 dX5_readCompound_147 o_6 rfl rfl (Nat.le_of_ble_eq_true rfl) ⟨(show 2 + 1 ≤ d9 + 2 by omega), (show 8 + (11 + 11) + 40 * (2) ≤ 40 * (d9 + 2) by omega)⟩ rfl rfl (Nat.le_of_ble_eq_true rfl) (Nat.le_of_ble_eq_true rfl) (fun r9 J_147 hq9 => ?_)
                obtain ⟨z_147, rfl, hz_147, p_147⟩ := hq9
                obtain ⟨m_147, y_147, h_147⟩ := GR.made p_147 (by omega)
                have q_147 := RT.made q_92 y_147
                have x_147 := XC.made (x := (pA1 T (pNx g) (J 3 z_32) dp).2) (y := (pA2 T (pNx g) (J 3 z_32) dp).2) (w := (pA3 T (pNx g) (J 3 z_32) dp).2) X4 (by omega) (q_92).1.2.1 (q_92).1.2.2.1 (by rw [x1]; omega) (fun k => ⟨fun _ => b_74 (pA_0 hF k).2.2, fun _ => b_92 (pA_0 hF k).2.1, fun u => by omega⟩) ⟨fun u => by omega, fun u => by omega, fun u => by omega⟩ p_147
                refine tz_cV (pc := 150) (w_held hl n _ _ (by omega) _ x_147.1 x_147.2.2) vl_X5_180 dX5_readCompound_150 o_163 rfl rfl (Nat.le_of_ble_eq_true rfl) ⟨(show 1 + 1 ≤ d9 + 2 by omega), (show 8 + (2 + 11) + 40 * (1) ≤ 40 * (d9 + 2) by omega)⟩ rfl rfl (Nat.le_of_ble_eq_true rfl) (Nat.le_of_ble_eq_true rfl) (fun r9 J_150 hq9 => ?_)
                obtain ⟨z_150, rfl, hz_150, g_150, d_150, u_150, x_150, o_150⟩ := hq9
                have q_150 := RT.rn q_147 g_150 (d_150 (q_147).2.1)
                refine tz_goto (pc := 153) (tgt := 157) dX5_readCompound_153 (by decide) ?_
                exact tz_iret (pc := 157) (z := z_150) dX5_readCompound_157 rfl (Nat.le_of_ble_eq_true rfl) (Nat.le_of_ble_eq_true rfl) ⟨Nat.le_refl _, Nat.le_add_right _ _⟩ ⟨_, rfl, (by omega), (by rw [(pK_4 (T := T) (d := dp) hX hS h9 h8 (by omega) (by omega) hb.1.1 hnm).2 (by omega)]; exact ⟨m_147, q_150, fun k => by have := u_150 k; omega, x_150, fun k => by have a := x_147.2.1 k; rcases (show z_147 < 0 ∨ 0 ≤ z_147 by omega) with b | b; (have := x_147.2.2 b; omega); exact (o_150 b).trans a⟩)⟩
            · refine tz_aload_n (pc := 119) dX5_readCompound_119 rfl rfl ?_
              refine tz_bipush (pc := 120) dX5_readCompound_120 (by decide) ?_
              have b_122 := (q_92).2.1
              obtain ⟨⟨⟨b1_122, b2_122⟩, b3_122, b4_122⟩, b5_122⟩ := id b_122
              refine tz_cV (pc := 122) (w_pass hl n _ _ (by omega) (pA3 T (pNx g) (J 3 z_32) dp).1 b_122 (by unfold pA3; rw [if_neg (by omega)]; exact a_92) (SI.a3 hT (SI.nx hS))) vl_X5_116 dX5_readCompound_122 o_163 rfl rfl (Nat.le_of_ble_eq_true rfl) ⟨(show 2 + 1 ≤ d9 + 2 by omega), (show 8 + (2 + 11) + 40 * (2) ≤ 40 * (d9 + 2) by omega)⟩ rfl rfl (Nat.le_of_ble_eq_true rfl) (Nat.le_of_ble_eq_true rfl) (fun r9 J_122 hq9 => ?_)
              obtain ⟨rfl, g_122, d_122, x_122⟩ := hq9
              have q_122 := RT.rn q_92 g_122 d_122
              have f_122 := g_122.2.2
              refine tz_aload_n (pc := 125) dX5_readCompound_125 rfl rfl ?_
              refine tz_fI (pc := 126) (kz := 8) (v := (J_122 163 8)) dX5_readCompound_126 fl_X5_24 i_163_8 rfl rfl (fun r_126 => ?_)
              refine tz_if_ne (pc := 129) (tgt := 156) dX5_readCompound_129 (by decide) (by omega) (fun h_129 => ?_) (fun h_129 => ?_)
              · refine tz_iconst (pc := 156) dX5_readCompound_156 ?_
                exact tz_iret (pc := 157) (z := (-1)) dX5_readCompound_157 rfl (Nat.le_of_ble_eq_true rfl) (Nat.le_of_ble_eq_true rfl) ⟨Nat.le_refl _, Nat.le_add_right _ _⟩ ⟨_, rfl, (by decide), (by have X4 : XC J_122 (pA4 T (pNx g) (J 3 z_32) dp) := (by unfold pA4; rw [if_pos (by omega)]; exact x_122); rw [(pK_4 (T := T) (d := dp) hX hS h9 h8 (by omega) (by omega) hb.1.1 hnm).2 (by omega), pMx_f (XC.no X4 (by omega))]; exact ⟨m_92, q_122, fun k => by omega, X4, fun k => absurd k (XC.no X4 (by omega))⟩)⟩
              · refine tz_aload_n (pc := 132) dX5_readCompound_132 rfl rfl ?_
                refine tz_aload_n (pc := 133) dX5_readCompound_133 rfl rfl ?_
                refine tz_fR (pc := 134) dX5_readCompound_134 fl_X5_38 r_163_1 ?_
                refine tz_fR (pc := 137) dX5_readCompound_137 fl_X5_42 r_5_0 ?_
                refine tz_iload_n (pc := 140) dX5_readCompound_140 rfl rfl ?_
                refine tz_iload (pc := 141) dX5_readCompound_141 rfl ?_
                refine tz_iload (pc := 143) dX5_readCompound_143 rfl ?_
                refine tz_iload (pc := 145) dX5_readCompound_145 rfl ?_
                have x1 := (q_122).1.2.2.2.2 1 rfl
                have x3 := (q_122).1.2.2.2.2 3 rfl
                have t_147 := (q_122).1.2.1.told
                have ra : arh (J_122 3) z_32 = J 3 z_32 := by rw [x3]; exact if_neg (by omega)
                have X4 : XC J_122 (pA4 T (pNx g) (J 3 z_32) dp) := (by unfold pA4; rw [if_pos (by omega)]; exact x_122)
                refine tz_cV (pc := 147) (c_made hl n _ _ _ _ _ (by omega) (by omega) (by omega) (by omega) m_92 (q_122).1.2.1 (q_122).1.2.2.1 (by rw [x1]; omega) (ltA_of (by omega) (by omega) (by omega))) vl_X5_189 dX5_readCompound_147 o_6 rfl rfl (Nat.le_of_ble_eq_true rfl) ⟨(show 2 + 1 ≤ d9 + 2 by omega), (show 8 + (11 + 11) + 40 * (2) ≤ 40 * (d9 + 2) by omega)⟩ rfl rfl (Nat.le_of_ble_eq_true rfl) (Nat.le_of_ble_eq_true rfl) (fun r9 J_147 hq9 => ?_)
                obtain ⟨z_147, rfl, hz_147, p_147⟩ := hq9
                obtain ⟨m_147, y_147, h_147⟩ := GR.made p_147 (by omega)
                have q_147 := RT.made q_122 y_147
                have x_147 := XC.made (x := (pA1 T (pNx g) (J 3 z_32) dp).2) (y := (pA2 T (pNx g) (J 3 z_32) dp).2) (w := (pA3 T (pNx g) (J 3 z_32) dp).2) X4 (by omega) (q_122).1.2.1 (q_122).1.2.2.1 (by rw [x1]; omega) (fun k => ⟨fun _ => b_74 (pA_0 hF k).2.2, fun _ => b_92 (pA_0 hF k).2.1, fun u => by omega⟩) ⟨fun u => by omega, fun u => by omega, fun u => by omega⟩ p_147
                refine tz_cV (pc := 150) (w_held hl n _ _ (by omega) _ x_147.1 x_147.2.2) vl_X5_180 dX5_readCompound_150 o_163 rfl rfl (Nat.le_of_ble_eq_true rfl) ⟨(show 1 + 1 ≤ d9 + 2 by omega), (show 8 + (2 + 11) + 40 * (1) ≤ 40 * (d9 + 2) by omega)⟩ rfl rfl (Nat.le_of_ble_eq_true rfl) (Nat.le_of_ble_eq_true rfl) (fun r9 J_150 hq9 => ?_)
                obtain ⟨z_150, rfl, hz_150, g_150, d_150, u_150, x_150, o_150⟩ := hq9
                have q_150 := RT.rn q_147 g_150 (d_150 (q_147).2.1)
                refine tz_goto (pc := 153) (tgt := 157) dX5_readCompound_153 (by decide) ?_
                exact tz_iret (pc := 157) (z := z_150) dX5_readCompound_157 rfl (Nat.le_of_ble_eq_true rfl) (Nat.le_of_ble_eq_true rfl) ⟨Nat.le_refl _, Nat.le_add_right _ _⟩ ⟨_, rfl, (by omega), (by rw [(pK_4 (T := T) (d := dp) hX hS h9 h8 (by omega) (by omega) hb.1.1 hnm).2 (by omega)]; exact ⟨m_147, q_150, fun k => by have := u_150 k; omega, x_150, fun k => by have a := x_147.2.1 k; rcases (show z_147 < 0 ∨ 0 ≤ z_147 by omega) with b | b; (have := x_147.2.2 b; omega); exact (o_150 b).trans a⟩)⟩
        · refine tz_iconst (pc := 84) dX5_readCompound_84 ?_
          refine tz_goto (pc := 85) (tgt := 95) dX5_readCompound_85 (by decide) ?_
          refine tz_istore (pc := 95) (L2 := [_, _, _, _, _, _, _]) dX5_readCompound_95 (by decide) rfl ?_
          refine tz_iload_n (pc := 97) dX5_readCompound_97 rfl rfl ?_
          refine tz_iconst (pc := 98) dX5_readCompound_98 ?_
          refine tz_icmp_ge (pc := 99) (tgt := 106) dX5_readCompound_99 (by decide) (by omega) (by decide) (fun h_99 => ?_) (fun h_99 => ?_)
          · refine tz_aload_n (pc := 106) dX5_readCompound_106 rfl rfl ?_
            refine tz_bipush (pc := 107) dX5_readCompound_107 (by decide) ?_
            refine tz_iload_n (pc := 109) dX5_readCompound_109 rfl rfl ?_
            refine tz_cV (pc := 110) (w_readArg hl n _ _ _ (by decide) (by omega) T hT hF d9 hd9 H m_74 (pA2 T (pNx g) (J 3 z_32) dp).1 (q_74).1.2.1 (q_74).1.2.2.1 (q_74).2.1 (False.elim (by omega)) (SI.a2 hT (SI.nx hS))) vl_X5_186 dX5_readCompound_110 o_163 rfl rfl (Nat.le_of_ble_eq_true rfl) ⟨(show (d9 + 1) + 1 ≤ d9 + 2 by omega), (show 8 + (3 + 11) + 40 * ((d9 + 1)) ≤ 40 * (d9 + 2) by omega)⟩ rfl rfl (Nat.le_of_ble_eq_true rfl) (Nat.le_of_ble_eq_true rfl) (fun r9 J_110 hq9 => ?_)
            obtain ⟨z_110, rfl, hz_110, m_110, g_110, u_110, x_110, y_110⟩ := hq9
            have q_110 := RT.tr q_74 g_110
            have f_110 := g_110.2.2
            have l_110 := g_110.1.1
            have a_110 : XC J_110 (pA3 T (pNx g) (J 3 z_32) dp).1 := by unfold pA3; rw [if_pos (by omega)]; exact x_110
            have b_110 : VQ z_110 (pA3 T (pNx g) (J 3 z_32) dp) := by unfold pA3; rw [if_pos (by omega)]; exact y_110
            refine tz_istore (pc := 113) (L2 := [_, _, _, _, _, _, _]) dX5_readCompound_113 (by decide) rfl ?_
            refine tz_iload_n (pc := 115) dX5_readCompound_115 rfl rfl ?_
            refine tz_if_le (pc := 116) (tgt := 125) dX5_readCompound_116 (by decide) (by omega) (fun h_116 => ?_) (fun h_116 => ?_)
            · refine tz_aload_n (pc := 125) dX5_readCompound_125 rfl rfl ?_
              refine tz_fI (pc := 126) (kz := 8) (v := (J_110 163 8)) dX5_readCompound_126 fl_X5_24 i_163_8 rfl rfl (fun r_126 => ?_)
              refine tz_if_ne (pc := 129) (tgt := 156) dX5_readCompound_129 (by decide) (by omega) (fun h_129 => ?_) (fun h_129 => ?_)
              · refine tz_iconst (pc := 156) dX5_readCompound_156 ?_
                exact tz_iret (pc := 157) (z := (-1)) dX5_readCompound_157 rfl (Nat.le_of_ble_eq_true rfl) (Nat.le_of_ble_eq_true rfl) ⟨Nat.le_refl _, Nat.le_add_right _ _⟩ ⟨_, rfl, (by decide), (by have X4 : XC J_110 (pA4 T (pNx g) (J 3 z_32) dp) := (False.elim (by omega)); rw [(pK_4 (T := T) (d := dp) hX hS h9 h8 (by omega) (by omega) hb.1.1 hnm).2 (by omega), pMx_f (XC.no X4 (by omega))]; exact ⟨m_110, q_110, fun k => by omega, X4, fun k => absurd k (XC.no X4 (by omega))⟩)⟩
              · refine tz_aload_n (pc := 132) dX5_readCompound_132 rfl rfl ?_
                refine tz_aload_n (pc := 133) dX5_readCompound_133 rfl rfl ?_
                refine tz_fR (pc := 134) dX5_readCompound_134 fl_X5_38 r_163_1 ?_
                refine tz_fR (pc := 137) dX5_readCompound_137 fl_X5_42 r_5_0 ?_
                refine tz_iload_n (pc := 140) dX5_readCompound_140 rfl rfl ?_
                refine tz_iload (pc := 141) dX5_readCompound_141 rfl ?_
                refine tz_iload (pc := 143) dX5_readCompound_143 rfl ?_
                refine tz_iload (pc := 145) dX5_readCompound_145 rfl ?_
                have x1 := (q_110).1.2.2.2.2 1 rfl
                have x3 := (q_110).1.2.2.2.2 3 rfl
                have t_147 := (q_110).1.2.1.told
                have ra : arh (J_110 3) z_32 = J 3 z_32 := by rw [x3]; exact if_neg (by omega)
                have X4 : XC J_110 (pA4 T (pNx g) (J 3 z_32) dp) := (False.elim (by omega))
                refine tz_cV (pc := 147) (c_made hl n _ _ _ _ _ (by omega) (by omega) (by omega) (by omega) m_110 (q_110).1.2.1 (q_110).1.2.2.1 (by rw [x1]; omega) (ltA_of (by omega) (by omega) (by omega))) vl_X5_189 dX5_readCompound_147 o_6 rfl rfl (Nat.le_of_ble_eq_true rfl) ⟨(show 2 + 1 ≤ d9 + 2 by omega), (show 8 + (11 + 11) + 40 * (2) ≤ 40 * (d9 + 2) by omega)⟩ rfl rfl (Nat.le_of_ble_eq_true rfl) (Nat.le_of_ble_eq_true rfl) (fun r9 J_147 hq9 => ?_)
                obtain ⟨z_147, rfl, hz_147, p_147⟩ := hq9
                obtain ⟨m_147, y_147, h_147⟩ := GR.made p_147 (by omega)
                have q_147 := RT.made q_110 y_147
                have x_147 := XC.made (x := (pA1 T (pNx g) (J 3 z_32) dp).2) (y := (pA2 T (pNx g) (J 3 z_32) dp).2) (w := (pA3 T (pNx g) (J 3 z_32) dp).2) X4 (by omega) (q_110).1.2.1 (q_110).1.2.2.1 (by rw [x1]; omega) (fun k => ⟨fun _ => b_74 (pA_0 hF k).2.2, fun u => by omega, fun _ => b_110 (pA_0 hF k).1⟩) ⟨fun u => by omega, fun u => by omega, fun u => by omega⟩ p_147
                refine tz_cV (pc := 150) (w_held hl n _ _ (by omega) _ x_147.1 x_147.2.2) vl_X5_180 dX5_readCompound_150 o_163 rfl rfl (Nat.le_of_ble_eq_true rfl) ⟨(show 1 + 1 ≤ d9 + 2 by omega), (show 8 + (2 + 11) + 40 * (1) ≤ 40 * (d9 + 2) by omega)⟩ rfl rfl (Nat.le_of_ble_eq_true rfl) (Nat.le_of_ble_eq_true rfl) (fun r9 J_150 hq9 => ?_)
                obtain ⟨z_150, rfl, hz_150, g_150, d_150, u_150, x_150, o_150⟩ := hq9
                have q_150 := RT.rn q_147 g_150 (d_150 (q_147).2.1)
                refine tz_goto (pc := 153) (tgt := 157) dX5_readCompound_153 (by decide) ?_
                exact tz_iret (pc := 157) (z := z_150) dX5_readCompound_157 rfl (Nat.le_of_ble_eq_true rfl) (Nat.le_of_ble_eq_true rfl) ⟨Nat.le_refl _, Nat.le_add_right _ _⟩ ⟨_, rfl, (by omega), (by rw [(pK_4 (T := T) (d := dp) hX hS h9 h8 (by omega) (by omega) hb.1.1 hnm).2 (by omega)]; exact ⟨m_147, q_150, fun k => by have := u_150 k; omega, x_150, fun k => by have a := x_147.2.1 k; rcases (show z_147 < 0 ∨ 0 ≤ z_147 by omega) with b | b; (have := x_147.2.2 b; omega); exact (o_150 b).trans a⟩)⟩
            · refine tz_aload_n (pc := 119) dX5_readCompound_119 rfl rfl ?_
              refine tz_bipush (pc := 120) dX5_readCompound_120 (by decide) ?_
              have b_122 := (q_110).2.1
              obtain ⟨⟨⟨b1_122, b2_122⟩, b3_122, b4_122⟩, b5_122⟩ := id b_122
              refine tz_cV (pc := 122) (w_pass hl n _ _ (by omega) (pA3 T (pNx g) (J 3 z_32) dp).1 b_122 a_110 (SI.a3 hT (SI.nx hS))) vl_X5_116 dX5_readCompound_122 o_163 rfl rfl (Nat.le_of_ble_eq_true rfl) ⟨(show 2 + 1 ≤ d9 + 2 by omega), (show 8 + (2 + 11) + 40 * (2) ≤ 40 * (d9 + 2) by omega)⟩ rfl rfl (Nat.le_of_ble_eq_true rfl) (Nat.le_of_ble_eq_true rfl) (fun r9 J_122 hq9 => ?_)
              obtain ⟨rfl, g_122, d_122, x_122⟩ := hq9
              have q_122 := RT.rn q_110 g_122 d_122
              have f_122 := g_122.2.2
              refine tz_aload_n (pc := 125) dX5_readCompound_125 rfl rfl ?_
              refine tz_fI (pc := 126) (kz := 8) (v := (J_122 163 8)) dX5_readCompound_126 fl_X5_24 i_163_8 rfl rfl (fun r_126 => ?_)
              refine tz_if_ne (pc := 129) (tgt := 156) dX5_readCompound_129 (by decide) (by omega) (fun h_129 => ?_) (fun h_129 => ?_)
              · refine tz_iconst (pc := 156) dX5_readCompound_156 ?_
                exact tz_iret (pc := 157) (z := (-1)) dX5_readCompound_157 rfl (Nat.le_of_ble_eq_true rfl) (Nat.le_of_ble_eq_true rfl) ⟨Nat.le_refl _, Nat.le_add_right _ _⟩ ⟨_, rfl, (by decide), (by have X4 : XC J_122 (pA4 T (pNx g) (J 3 z_32) dp) := (by unfold pA4; rw [if_pos (by omega)]; exact x_122); rw [(pK_4 (T := T) (d := dp) hX hS h9 h8 (by omega) (by omega) hb.1.1 hnm).2 (by omega), pMx_f (XC.no X4 (by omega))]; exact ⟨m_110, q_122, fun k => by omega, X4, fun k => absurd k (XC.no X4 (by omega))⟩)⟩
              · refine tz_aload_n (pc := 132) dX5_readCompound_132 rfl rfl ?_
                refine tz_aload_n (pc := 133) dX5_readCompound_133 rfl rfl ?_
                refine tz_fR (pc := 134) dX5_readCompound_134 fl_X5_38 r_163_1 ?_
                refine tz_fR (pc := 137) dX5_readCompound_137 fl_X5_42 r_5_0 ?_
                refine tz_iload_n (pc := 140) dX5_readCompound_140 rfl rfl ?_
                refine tz_iload (pc := 141) dX5_readCompound_141 rfl ?_
                refine tz_iload (pc := 143) dX5_readCompound_143 rfl ?_
                refine tz_iload (pc := 145) dX5_readCompound_145 rfl ?_
                have x1 := (q_122).1.2.2.2.2 1 rfl
                have x3 := (q_122).1.2.2.2.2 3 rfl
                have t_147 := (q_122).1.2.1.told
                have ra : arh (J_122 3) z_32 = J 3 z_32 := by rw [x3]; exact if_neg (by omega)
                have X4 : XC J_122 (pA4 T (pNx g) (J 3 z_32) dp) := (by unfold pA4; rw [if_pos (by omega)]; exact x_122)
                refine tz_cV (pc := 147) (c_made hl n _ _ _ _ _ (by omega) (by omega) (by omega) (by omega) m_110 (q_122).1.2.1 (q_122).1.2.2.1 (by rw [x1]; omega) (ltA_of (by omega) (by omega) (by omega))) vl_X5_189 dX5_readCompound_147 o_6 rfl rfl (Nat.le_of_ble_eq_true rfl) ⟨(show 2 + 1 ≤ d9 + 2 by omega), (show 8 + (11 + 11) + 40 * (2) ≤ 40 * (d9 + 2) by omega)⟩ rfl rfl (Nat.le_of_ble_eq_true rfl) (Nat.le_of_ble_eq_true rfl) (fun r9 J_147 hq9 => ?_)
                obtain ⟨z_147, rfl, hz_147, p_147⟩ := hq9
                obtain ⟨m_147, y_147, h_147⟩ := GR.made p_147 (by omega)
                have q_147 := RT.made q_122 y_147
                have x_147 := XC.made (x := (pA1 T (pNx g) (J 3 z_32) dp).2) (y := (pA2 T (pNx g) (J 3 z_32) dp).2) (w := (pA3 T (pNx g) (J 3 z_32) dp).2) X4 (by omega) (q_122).1.2.1 (q_122).1.2.2.1 (by rw [x1]; omega) (fun k => ⟨fun _ => b_74 (pA_0 hF k).2.2, fun u => by omega, fun _ => b_110 (pA_0 hF k).1⟩) ⟨fun u => by omega, fun u => by omega, fun u => by omega⟩ p_147
                refine tz_cV (pc := 150) (w_held hl n _ _ (by omega) _ x_147.1 x_147.2.2) vl_X5_180 dX5_readCompound_150 o_163 rfl rfl (Nat.le_of_ble_eq_true rfl) ⟨(show 1 + 1 ≤ d9 + 2 by omega), (show 8 + (2 + 11) + 40 * (1) ≤ 40 * (d9 + 2) by omega)⟩ rfl rfl (Nat.le_of_ble_eq_true rfl) (Nat.le_of_ble_eq_true rfl) (fun r9 J_150 hq9 => ?_)
                obtain ⟨z_150, rfl, hz_150, g_150, d_150, u_150, x_150, o_150⟩ := hq9
                have q_150 := RT.rn q_147 g_150 (d_150 (q_147).2.1)
                refine tz_goto (pc := 153) (tgt := 157) dX5_readCompound_153 (by decide) ?_
                exact tz_iret (pc := 157) (z := z_150) dX5_readCompound_157 rfl (Nat.le_of_ble_eq_true rfl) (Nat.le_of_ble_eq_true rfl) ⟨Nat.le_refl _, Nat.le_add_right _ _⟩ ⟨_, rfl, (by omega), (by rw [(pK_4 (T := T) (d := dp) hX hS h9 h8 (by omega) (by omega) hb.1.1 hnm).2 (by omega)]; exact ⟨m_147, q_150, fun k => by have := u_150 k; omega, x_150, fun k => by have a := x_147.2.1 k; rcases (show z_147 < 0 ∨ 0 ≤ z_147 by omega) with b | b; (have := x_147.2.2 b; omega); exact (o_150 b).trans a⟩)⟩
          · refine tz_iconst (pc := 102) dX5_readCompound_102 ?_
            refine tz_goto (pc := 103) (tgt := 113) dX5_readCompound_103 (by decide) ?_
            refine tz_istore (pc := 113) (L2 := [_, _, _, _, _, _, _]) dX5_readCompound_113 (by decide) rfl ?_
            refine tz_iload_n (pc := 115) dX5_readCompound_115 rfl rfl ?_
            refine tz_if_le (pc := 116) (tgt := 125) dX5_readCompound_116 (by decide) (by omega) (fun h_116 => ?_) (fun h_116 => ?_)
            · refine tz_aload_n (pc := 125) dX5_readCompound_125 rfl rfl ?_
              refine tz_fI (pc := 126) (kz := 8) (v := (J_74 163 8)) dX5_readCompound_126 fl_X5_24 i_163_8 rfl rfl (fun r_126 => ?_)
              refine tz_if_ne (pc := 129) (tgt := 156) dX5_readCompound_129 (by decide) (by omega) (fun h_129 => ?_) (fun h_129 => ?_)
              · refine tz_iconst (pc := 156) dX5_readCompound_156 ?_
                exact tz_iret (pc := 157) (z := (-1)) dX5_readCompound_157 rfl (Nat.le_of_ble_eq_true rfl) (Nat.le_of_ble_eq_true rfl) ⟨Nat.le_refl _, Nat.le_add_right _ _⟩ ⟨_, rfl, (by decide), (by have X4 : XC J_74 (pA4 T (pNx g) (J 3 z_32) dp) := (False.elim (by omega)); rw [(pK_4 (T := T) (d := dp) hX hS h9 h8 (by omega) (by omega) hb.1.1 hnm).2 (by omega), pMx_f (XC.no X4 (by omega))]; exact ⟨m_74, q_74, fun k => by omega, X4, fun k => absurd k (XC.no X4 (by omega))⟩)⟩
              · refine tz_aload_n (pc := 132) dX5_readCompound_132 rfl rfl ?_
                refine tz_aload_n (pc := 133) dX5_readCompound_133 rfl rfl ?_
                refine tz_fR (pc := 134) dX5_readCompound_134 fl_X5_38 r_163_1 ?_
                refine tz_fR (pc := 137) dX5_readCompound_137 fl_X5_42 r_5_0 ?_
                refine tz_iload_n (pc := 140) dX5_readCompound_140 rfl rfl ?_
                refine tz_iload (pc := 141) dX5_readCompound_141 rfl ?_
                refine tz_iload (pc := 143) dX5_readCompound_143 rfl ?_
                refine tz_iload (pc := 145) dX5_readCompound_145 rfl ?_
                have x1 := (q_74).1.2.2.2.2 1 rfl
                have x3 := (q_74).1.2.2.2.2 3 rfl
                have t_147 := (q_74).1.2.1.told
                have ra : arh (J_74 3) z_32 = J 3 z_32 := by rw [x3]; exact if_neg (by omega)
                have X4 : XC J_74 (pA4 T (pNx g) (J 3 z_32) dp) := (False.elim (by omega))
                refine tz_cV (pc := 147) (c_made hl n _ _ _ _ _ (by omega) (by omega) (by omega) (by omega) m_74 (q_74).1.2.1 (q_74).1.2.2.1 (by rw [x1]; omega) (ltA_of (by omega) (by omega) (by omega))) vl_X5_189 dX5_readCompound_147 o_6 rfl rfl (Nat.le_of_ble_eq_true rfl) ⟨(show 2 + 1 ≤ d9 + 2 by omega), (show 8 + (11 + 11) + 40 * (2) ≤ 40 * (d9 + 2) by omega)⟩ rfl rfl (Nat.le_of_ble_eq_true rfl) (Nat.le_of_ble_eq_true rfl) (fun r9 J_147 hq9 => ?_)
                obtain ⟨z_147, rfl, hz_147, p_147⟩ := hq9
                obtain ⟨m_147, y_147, h_147⟩ := GR.made p_147 (by omega)
                have q_147 := RT.made q_74 y_147
                have x_147 := XC.made (x := (pA1 T (pNx g) (J 3 z_32) dp).2) (y := (pA2 T (pNx g) (J 3 z_32) dp).2) (w := (pA3 T (pNx g) (J 3 z_32) dp).2) X4 (by omega) (q_74).1.2.1 (q_74).1.2.2.1 (by rw [x1]; omega) (fun k => ⟨fun _ => b_74 (pA_0 hF k).2.2, fun u => by omega, fun u => by omega⟩) ⟨fun u => by omega, fun u => by omega, fun u => by omega⟩ p_147
                refine tz_cV (pc := 150) (w_held hl n _ _ (by omega) _ x_147.1 x_147.2.2) vl_X5_180 dX5_readCompound_150 o_163 rfl rfl (Nat.le_of_ble_eq_true rfl) ⟨(show 1 + 1 ≤ d9 + 2 by omega), (show 8 + (2 + 11) + 40 * (1) ≤ 40 * (d9 + 2) by omega)⟩ rfl rfl (Nat.le_of_ble_eq_true rfl) (Nat.le_of_ble_eq_true rfl) (fun r9 J_150 hq9 => ?_)
                obtain ⟨z_150, rfl, hz_150, g_150, d_150, u_150, x_150, o_150⟩ := hq9
                have q_150 := RT.rn q_147 g_150 (d_150 (q_147).2.1)
                refine tz_goto (pc := 153) (tgt := 157) dX5_readCompound_153 (by decide) ?_
                exact tz_iret (pc := 157) (z := z_150) dX5_readCompound_157 rfl (Nat.le_of_ble_eq_true rfl) (Nat.le_of_ble_eq_true rfl) ⟨Nat.le_refl _, Nat.le_add_right _ _⟩ ⟨_, rfl, (by omega), (by rw [(pK_4 (T := T) (d := dp) hX hS h9 h8 (by omega) (by omega) hb.1.1 hnm).2 (by omega)]; exact ⟨m_147, q_150, fun k => by have := u_150 k; omega, x_150, fun k => by have a := x_147.2.1 k; rcases (show z_147 < 0 ∨ 0 ≤ z_147 by omega) with b | b; (have := x_147.2.2 b; omega); exact (o_150 b).trans a⟩)⟩
            · refine tz_aload_n (pc := 119) dX5_readCompound_119 rfl rfl ?_
              refine tz_bipush (pc := 120) dX5_readCompound_120 (by decide) ?_
              have b_122 := (q_74).2.1
              obtain ⟨⟨⟨b1_122, b2_122⟩, b3_122, b4_122⟩, b5_122⟩ := id b_122
              refine tz_cV (pc := 122) (w_pass hl n _ _ (by omega) (pA3 T (pNx g) (J 3 z_32) dp).1 b_122 (by unfold pA3 pA2; rw [if_neg (by omega), if_neg (by omega)]; exact a_74) (SI.a3 hT (SI.nx hS))) vl_X5_116 dX5_readCompound_122 o_163 rfl rfl (Nat.le_of_ble_eq_true rfl) ⟨(show 2 + 1 ≤ d9 + 2 by omega), (show 8 + (2 + 11) + 40 * (2) ≤ 40 * (d9 + 2) by omega)⟩ rfl rfl (Nat.le_of_ble_eq_true rfl) (Nat.le_of_ble_eq_true rfl) (fun r9 J_122 hq9 => ?_)
              obtain ⟨rfl, g_122, d_122, x_122⟩ := hq9
              have q_122 := RT.rn q_74 g_122 d_122
              have f_122 := g_122.2.2
              refine tz_aload_n (pc := 125) dX5_readCompound_125 rfl rfl ?_
              refine tz_fI (pc := 126) (kz := 8) (v := (J_122 163 8)) dX5_readCompound_126 fl_X5_24 i_163_8 rfl rfl (fun r_126 => ?_)
              refine tz_if_ne (pc := 129) (tgt := 156) dX5_readCompound_129 (by decide) (by omega) (fun h_129 => ?_) (fun h_129 => ?_)
              · refine tz_iconst (pc := 156) dX5_readCompound_156 ?_
                exact tz_iret (pc := 157) (z := (-1)) dX5_readCompound_157 rfl (Nat.le_of_ble_eq_true rfl) (Nat.le_of_ble_eq_true rfl) ⟨Nat.le_refl _, Nat.le_add_right _ _⟩ ⟨_, rfl, (by decide), (by have X4 : XC J_122 (pA4 T (pNx g) (J 3 z_32) dp) := (by unfold pA4; rw [if_pos (by omega)]; exact x_122); rw [(pK_4 (T := T) (d := dp) hX hS h9 h8 (by omega) (by omega) hb.1.1 hnm).2 (by omega), pMx_f (XC.no X4 (by omega))]; exact ⟨m_74, q_122, fun k => by omega, X4, fun k => absurd k (XC.no X4 (by omega))⟩)⟩
              · refine tz_aload_n (pc := 132) dX5_readCompound_132 rfl rfl ?_
                refine tz_aload_n (pc := 133) dX5_readCompound_133 rfl rfl ?_
                refine tz_fR (pc := 134) dX5_readCompound_134 fl_X5_38 r_163_1 ?_
                refine tz_fR (pc := 137) dX5_readCompound_137 fl_X5_42 r_5_0 ?_
                refine tz_iload_n (pc := 140) dX5_readCompound_140 rfl rfl ?_
                refine tz_iload (pc := 141) dX5_readCompound_141 rfl ?_
                refine tz_iload (pc := 143) dX5_readCompound_143 rfl ?_
                refine tz_iload (pc := 145) dX5_readCompound_145 rfl ?_
                have x1 := (q_122).1.2.2.2.2 1 rfl
                have x3 := (q_122).1.2.2.2.2 3 rfl
                have t_147 := (q_122).1.2.1.told
                have ra : arh (J_122 3) z_32 = J 3 z_32 := by rw [x3]; exact if_neg (by omega)
                have X4 : XC J_122 (pA4 T (pNx g) (J 3 z_32) dp) := (by unfold pA4; rw [if_pos (by omega)]; exact x_122)
                refine tz_cV (pc := 147) (c_made hl n _ _ _ _ _ (by omega) (by omega) (by omega) (by omega) m_74 (q_122).1.2.1 (q_122).1.2.2.1 (by rw [x1]; omega) (ltA_of (by omega) (by omega) (by omega))) vl_X5_189 dX5_readCompound_147 o_6 rfl rfl (Nat.le_of_ble_eq_true rfl) ⟨(show 2 + 1 ≤ d9 + 2 by omega), (show 8 + (11 + 11) + 40 * (2) ≤ 40 * (d9 + 2) by omega)⟩ rfl rfl (Nat.le_of_ble_eq_true rfl) (Nat.le_of_ble_eq_true rfl) (fun r9 J_147 hq9 => ?_)
                obtain ⟨z_147, rfl, hz_147, p_147⟩ := hq9
                obtain ⟨m_147, y_147, h_147⟩ := GR.made p_147 (by omega)
                have q_147 := RT.made q_122 y_147
                have x_147 := XC.made (x := (pA1 T (pNx g) (J 3 z_32) dp).2) (y := (pA2 T (pNx g) (J 3 z_32) dp).2) (w := (pA3 T (pNx g) (J 3 z_32) dp).2) X4 (by omega) (q_122).1.2.1 (q_122).1.2.2.1 (by rw [x1]; omega) (fun k => ⟨fun _ => b_74 (pA_0 hF k).2.2, fun u => by omega, fun u => by omega⟩) ⟨fun u => by omega, fun u => by omega, fun u => by omega⟩ p_147
                refine tz_cV (pc := 150) (w_held hl n _ _ (by omega) _ x_147.1 x_147.2.2) vl_X5_180 dX5_readCompound_150 o_163 rfl rfl (Nat.le_of_ble_eq_true rfl) ⟨(show 1 + 1 ≤ d9 + 2 by omega), (show 8 + (2 + 11) + 40 * (1) ≤ 40 * (d9 + 2) by omega)⟩ rfl rfl (Nat.le_of_ble_eq_true rfl) (Nat.le_of_ble_eq_true rfl) (fun r9 J_150 hq9 => ?_)
                obtain ⟨z_150, rfl, hz_150, g_150, d_150, u_150, x_150, o_150⟩ := hq9
                have q_150 := RT.rn q_147 g_150 (d_150 (q_147).2.1)
                refine tz_goto (pc := 153) (tgt := 157) dX5_readCompound_153 (by decide) ?_
                exact tz_iret (pc := 157) (z := z_150) dX5_readCompound_157 rfl (Nat.le_of_ble_eq_true rfl) (Nat.le_of_ble_eq_true rfl) ⟨Nat.le_refl _, Nat.le_add_right _ _⟩ ⟨_, rfl, (by omega), (by rw [(pK_4 (T := T) (d := dp) hX hS h9 h8 (by omega) (by omega) hb.1.1 hnm).2 (by omega)]; exact ⟨m_147, q_150, fun k => by have := u_150 k; omega, x_150, fun k => by have a := x_147.2.1 k; rcases (show z_147 < 0 ∨ 0 ≤ z_147 by omega) with b | b; (have := x_147.2.2 b; omega); exact (o_150 b).trans a⟩)⟩
      · refine tz_iconst (pc := 66) dX5_readCompound_66 ?_
        refine tz_goto (pc := 67) (tgt := 77) dX5_readCompound_67 (by decide) ?_
        refine tz_istore (pc := 77) (L2 := [_, _, _, _, _, _, _]) dX5_readCompound_77 (by decide) rfl ?_
        refine tz_iload_n (pc := 79) dX5_readCompound_79 rfl rfl ?_
        refine tz_iconst (pc := 80) dX5_readCompound_80 ?_
        refine tz_icmp_ge (pc := 81) (tgt := 88) dX5_readCompound_81 (by decide) (by omega) (by decide) (fun h_81 => ?_) (fun h_81 => ?_)
        · refine tz_aload_n (pc := 88) dX5_readCompound_88 rfl rfl ?_
          refine tz_bipush (pc := 89) dX5_readCompound_89 (by decide) ?_
          refine tz_iload_n (pc := 91) dX5_readCompound_91 rfl rfl ?_
          refine tz_cV (pc := 92) (w_readArg hl n _ _ _ (by decide) (by omega) T hT hF d9 hd9 H m (pA1 T (pNx g) (J 3 z_32) dp).1 (q_48).1.2.1 (q_48).1.2.2.1 (q_48).2.1 (False.elim (by omega)) (SI.a1 hT (SI.nx hS))) vl_X5_186 dX5_readCompound_92 o_163 rfl rfl (Nat.le_of_ble_eq_true rfl) ⟨(show (d9 + 1) + 1 ≤ d9 + 2 by omega), (show 8 + (3 + 11) + 40 * ((d9 + 1)) ≤ 40 * (d9 + 2) by omega)⟩ rfl rfl (Nat.le_of_ble_eq_true rfl) (Nat.le_of_ble_eq_true rfl) (fun r9 J_92 hq9 => ?_)
          obtain ⟨z_92, rfl, hz_92, m_92, g_92, u_92, x_92, y_92⟩ := hq9
          have q_92 := RT.tr q_48 g_92
          have f_92 := g_92.2.2
          have l_92 := g_92.1.1
          have a_92 : XC J_92 (pA2 T (pNx g) (J 3 z_32) dp).1 := by unfold pA2; rw [if_pos (by omega)]; exact x_92
          have b_92 : VQ z_92 (pA2 T (pNx g) (J 3 z_32) dp) := by unfold pA2; rw [if_pos (by omega)]; exact y_92
          refine tz_istore (pc := 95) (L2 := [_, _, _, _, _, _, _]) dX5_readCompound_95 (by decide) rfl ?_
          refine tz_iload_n (pc := 97) dX5_readCompound_97 rfl rfl ?_
          refine tz_iconst (pc := 98) dX5_readCompound_98 ?_
          refine tz_icmp_ge (pc := 99) (tgt := 106) dX5_readCompound_99 (by decide) (by omega) (by decide) (fun h_99 => ?_) (fun h_99 => ?_)
          · refine tz_aload_n (pc := 106) dX5_readCompound_106 rfl rfl ?_
            refine tz_bipush (pc := 107) dX5_readCompound_107 (by decide) ?_
            refine tz_iload_n (pc := 109) dX5_readCompound_109 rfl rfl ?_
            refine tz_cV (pc := 110) (w_readArg hl n _ _ _ (by decide) (by omega) T hT hF d9 hd9 H m_92 (pA2 T (pNx g) (J 3 z_32) dp).1 (q_92).1.2.1 (q_92).1.2.2.1 (q_92).2.1 a_92 (SI.a2 hT (SI.nx hS))) vl_X5_186 dX5_readCompound_110 o_163 rfl rfl (Nat.le_of_ble_eq_true rfl) ⟨(show (d9 + 1) + 1 ≤ d9 + 2 by omega), (show 8 + (3 + 11) + 40 * ((d9 + 1)) ≤ 40 * (d9 + 2) by omega)⟩ rfl rfl (Nat.le_of_ble_eq_true rfl) (Nat.le_of_ble_eq_true rfl) (fun r9 J_110 hq9 => ?_)
            obtain ⟨z_110, rfl, hz_110, m_110, g_110, u_110, x_110, y_110⟩ := hq9
            have q_110 := RT.tr q_92 g_110
            have f_110 := g_110.2.2
            have l_110 := g_110.1.1
            have a_110 : XC J_110 (pA3 T (pNx g) (J 3 z_32) dp).1 := by unfold pA3; rw [if_pos (by omega)]; exact x_110
            have b_110 : VQ z_110 (pA3 T (pNx g) (J 3 z_32) dp) := by unfold pA3; rw [if_pos (by omega)]; exact y_110
            refine tz_istore (pc := 113) (L2 := [_, _, _, _, _, _, _]) dX5_readCompound_113 (by decide) rfl ?_
            refine tz_iload_n (pc := 115) dX5_readCompound_115 rfl rfl ?_
            refine tz_if_le (pc := 116) (tgt := 125) dX5_readCompound_116 (by decide) (by omega) (fun h_116 => ?_) (fun h_116 => ?_)
            · refine tz_aload_n (pc := 125) dX5_readCompound_125 rfl rfl ?_
              refine tz_fI (pc := 126) (kz := 8) (v := (J_110 163 8)) dX5_readCompound_126 fl_X5_24 i_163_8 rfl rfl (fun r_126 => ?_)
              refine tz_if_ne (pc := 129) (tgt := 156) dX5_readCompound_129 (by decide) (by omega) (fun h_129 => ?_) (fun h_129 => ?_)
              · refine tz_iconst (pc := 156) dX5_readCompound_156 ?_
                exact tz_iret (pc := 157) (z := (-1)) dX5_readCompound_157 rfl (Nat.le_of_ble_eq_true rfl) (Nat.le_of_ble_eq_true rfl) ⟨Nat.le_refl _, Nat.le_add_right _ _⟩ ⟨_, rfl, (by decide), (by have X4 : XC J_110 (pA4 T (pNx g) (J 3 z_32) dp) := (False.elim (by omega)); rw [(pK_4 (T := T) (d := dp) hX hS h9 h8 (by omega) (by omega) hb.1.1 hnm).2 (by omega), pMx_f (XC.no X4 (by omega))]; exact ⟨m_110, q_110, fun k => by omega, X4, fun k => absurd k (XC.no X4 (by omega))⟩)⟩
              · refine tz_aload_n (pc := 132) dX5_readCompound_132 rfl rfl ?_
                refine tz_aload_n (pc := 133) dX5_readCompound_133 rfl rfl ?_
                refine tz_fR (pc := 134) dX5_readCompound_134 fl_X5_38 r_163_1 ?_
                refine tz_fR (pc := 137) dX5_readCompound_137 fl_X5_42 r_5_0 ?_
                refine tz_iload_n (pc := 140) dX5_readCompound_140 rfl rfl ?_
                refine tz_iload (pc := 141) dX5_readCompound_141 rfl ?_
                refine tz_iload (pc := 143) dX5_readCompound_143 rfl ?_
                refine tz_iload (pc := 145) dX5_readCompound_145 rfl ?_
                have x1 := (q_110).1.2.2.2.2 1 rfl
                have x3 := (q_110).1.2.2.2.2 3 rfl
                have t_147 := (q_110).1.2.1.told
                have ra : arh (J_110 3) z_32 = J 3 z_32 := by rw [x3]; exact if_neg (by omega)
                have X4 : XC J_110 (pA4 T (pNx g) (J 3 z_32) dp) := (False.elim (by omega))
                refine tz_cV (pc := 147) (c_made hl n _ _ _ _ _ (by omega) (by omega) (by omega) (by omega) m_110 (q_110).1.2.1 (q_110).1.2.2.1 (by rw [x1]; omega) (ltA_of (by omega) (by omega) (by omega))) vl_X5_189 dX5_readCompound_147 o_6 rfl rfl (Nat.le_of_ble_eq_true rfl) ⟨(show 2 + 1 ≤ d9 + 2 by omega), (show 8 + (11 + 11) + 40 * (2) ≤ 40 * (d9 + 2) by omega)⟩ rfl rfl (Nat.le_of_ble_eq_true rfl) (Nat.le_of_ble_eq_true rfl) (fun r9 J_147 hq9 => ?_)
                obtain ⟨z_147, rfl, hz_147, p_147⟩ := hq9
                obtain ⟨m_147, y_147, h_147⟩ := GR.made p_147 (by omega)
                have q_147 := RT.made q_110 y_147
                have x_147 := XC.made (x := (pA1 T (pNx g) (J 3 z_32) dp).2) (y := (pA2 T (pNx g) (J 3 z_32) dp).2) (w := (pA3 T (pNx g) (J 3 z_32) dp).2) X4 (by omega) (q_110).1.2.1 (q_110).1.2.2.1 (by rw [x1]; omega) (fun k => ⟨fun u => by omega, fun _ => b_92 (pA_0 hF k).2.1, fun _ => b_110 (pA_0 hF k).1⟩) ⟨fun u => by omega, fun u => by omega, fun u => by omega⟩ p_147
                refine tz_cV (pc := 150) (w_held hl n _ _ (by omega) _ x_147.1 x_147.2.2) vl_X5_180 dX5_readCompound_150 o_163 rfl rfl (Nat.le_of_ble_eq_true rfl) ⟨(show 1 + 1 ≤ d9 + 2 by omega), (show 8 + (2 + 11) + 40 * (1) ≤ 40 * (d9 + 2) by omega)⟩ rfl rfl (Nat.le_of_ble_eq_true rfl) (Nat.le_of_ble_eq_true rfl) (fun r9 J_150 hq9 => ?_)
                obtain ⟨z_150, rfl, hz_150, g_150, d_150, u_150, x_150, o_150⟩ := hq9
                have q_150 := RT.rn q_147 g_150 (d_150 (q_147).2.1)
                refine tz_goto (pc := 153) (tgt := 157) dX5_readCompound_153 (by decide) ?_
                exact tz_iret (pc := 157) (z := z_150) dX5_readCompound_157 rfl (Nat.le_of_ble_eq_true rfl) (Nat.le_of_ble_eq_true rfl) ⟨Nat.le_refl _, Nat.le_add_right _ _⟩ ⟨_, rfl, (by omega), (by rw [(pK_4 (T := T) (d := dp) hX hS h9 h8 (by omega) (by omega) hb.1.1 hnm).2 (by omega)]; exact ⟨m_147, q_150, fun k => by have := u_150 k; omega, x_150, fun k => by have a := x_147.2.1 k; rcases (show z_147 < 0 ∨ 0 ≤ z_147 by omega) with b | b; (have := x_147.2.2 b; omega); exact (o_150 b).trans a⟩)⟩
            · refine tz_aload_n (pc := 119) dX5_readCompound_119 rfl rfl ?_
              refine tz_bipush (pc := 120) dX5_readCompound_120 (by decide) ?_
              have b_122 := (q_110).2.1
              obtain ⟨⟨⟨b1_122, b2_122⟩, b3_122, b4_122⟩, b5_122⟩ := id b_122
              refine tz_cV (pc := 122) (w_pass hl n _ _ (by omega) (pA3 T (pNx g) (J 3 z_32) dp).1 b_122 a_110 (SI.a3 hT (SI.nx hS))) vl_X5_116 dX5_readCompound_122 o_163 rfl rfl (Nat.le_of_ble_eq_true rfl) ⟨(show 2 + 1 ≤ d9 + 2 by omega), (show 8 + (2 + 11) + 40 * (2) ≤ 40 * (d9 + 2) by omega)⟩ rfl rfl (Nat.le_of_ble_eq_true rfl) (Nat.le_of_ble_eq_true rfl) (fun r9 J_122 hq9 => ?_)
              obtain ⟨rfl, g_122, d_122, x_122⟩ := hq9
              have q_122 := RT.rn q_110 g_122 d_122
              have f_122 := g_122.2.2
              refine tz_aload_n (pc := 125) dX5_readCompound_125 rfl rfl ?_
              refine tz_fI (pc := 126) (kz := 8) (v := (J_122 163 8)) dX5_readCompound_126 fl_X5_24 i_163_8 rfl rfl (fun r_126 => ?_)
              refine tz_if_ne (pc := 129) (tgt := 156) dX5_readCompound_129 (by decide) (by omega) (fun h_129 => ?_) (fun h_129 => ?_)
              · refine tz_iconst (pc := 156) dX5_readCompound_156 ?_
                exact tz_iret (pc := 157) (z := (-1)) dX5_readCompound_157 rfl (Nat.le_of_ble_eq_true rfl) (Nat.le_of_ble_eq_true rfl) ⟨Nat.le_refl _, Nat.le_add_right _ _⟩ ⟨_, rfl, (by decide), (by have X4 : XC J_122 (pA4 T (pNx g) (J 3 z_32) dp) := (by unfold pA4; rw [if_pos (by omega)]; exact x_122); rw [(pK_4 (T := T) (d := dp) hX hS h9 h8 (by omega) (by omega) hb.1.1 hnm).2 (by omega), pMx_f (XC.no X4 (by omega))]; exact ⟨m_110, q_122, fun k => by omega, X4, fun k => absurd k (XC.no X4 (by omega))⟩)⟩
              · refine tz_aload_n (pc := 132) dX5_readCompound_132 rfl rfl ?_
                refine tz_aload_n (pc := 133) dX5_readCompound_133 rfl rfl ?_
                refine tz_fR (pc := 134) dX5_readCompound_134 fl_X5_38 r_163_1 ?_
                refine tz_fR (pc := 137) dX5_readCompound_137 fl_X5_42 r_5_0 ?_
                refine tz_iload_n (pc := 140) dX5_readCompound_140 rfl rfl ?_
                refine tz_iload (pc := 141) dX5_readCompound_141 rfl ?_
                refine tz_iload (pc := 143) dX5_readCompound_143 rfl ?_
                refine tz_iload (pc := 145) dX5_readCompound_145 rfl ?_
                have x1 := (q_122).1.2.2.2.2 1 rfl
                have x3 := (q_122).1.2.2.2.2 3 rfl
                have t_147 := (q_122).1.2.1.told
                have ra : arh (J_122 3) z_32 = J 3 z_32 := by rw [x3]; exact if_neg (by omega)
                have X4 : XC J_122 (pA4 T (pNx g) (J 3 z_32) dp) := (by unfold pA4; rw [if_pos (by omega)]; exact x_122)
                refine tz_cV (pc := 147) (c_made hl n _ _ _ _ _ (by omega) (by omega) (by omega) (by omega) m_110 (q_122).1.2.1 (q_122).1.2.2.1 (by rw [x1]; omega) (ltA_of (by omega) (by omega) (by omega))) vl_X5_189 dX5_readCompound_147 o_6 rfl rfl (Nat.le_of_ble_eq_true rfl) ⟨(show 2 + 1 ≤ d9 + 2 by omega), (show 8 + (11 + 11) + 40 * (2) ≤ 40 * (d9 + 2) by omega)⟩ rfl rfl (Nat.le_of_ble_eq_true rfl) (Nat.le_of_ble_eq_true rfl) (fun r9 J_147 hq9 => ?_)
                obtain ⟨z_147, rfl, hz_147, p_147⟩ := hq9
                obtain ⟨m_147, y_147, h_147⟩ := GR.made p_147 (by omega)
                have q_147 := RT.made q_122 y_147
                have x_147 := XC.made (x := (pA1 T (pNx g) (J 3 z_32) dp).2) (y := (pA2 T (pNx g) (J 3 z_32) dp).2) (w := (pA3 T (pNx g) (J 3 z_32) dp).2) X4 (by omega) (q_122).1.2.1 (q_122).1.2.2.1 (by rw [x1]; omega) (fun k => ⟨fun u => by omega, fun _ => b_92 (pA_0 hF k).2.1, fun _ => b_110 (pA_0 hF k).1⟩) ⟨fun u => by omega, fun u => by omega, fun u => by omega⟩ p_147
                refine tz_cV (pc := 150) (w_held hl n _ _ (by omega) _ x_147.1 x_147.2.2) vl_X5_180 dX5_readCompound_150 o_163 rfl rfl (Nat.le_of_ble_eq_true rfl) ⟨(show 1 + 1 ≤ d9 + 2 by omega), (show 8 + (2 + 11) + 40 * (1) ≤ 40 * (d9 + 2) by omega)⟩ rfl rfl (Nat.le_of_ble_eq_true rfl) (Nat.le_of_ble_eq_true rfl) (fun r9 J_150 hq9 => ?_)
                obtain ⟨z_150, rfl, hz_150, g_150, d_150, u_150, x_150, o_150⟩ := hq9
                have q_150 := RT.rn q_147 g_150 (d_150 (q_147).2.1)
                refine tz_goto (pc := 153) (tgt := 157) dX5_readCompound_153 (by decide) ?_
                exact tz_iret (pc := 157) (z := z_150) dX5_readCompound_157 rfl (Nat.le_of_ble_eq_true rfl) (Nat.le_of_ble_eq_true rfl) ⟨Nat.le_refl _, Nat.le_add_right _ _⟩ ⟨_, rfl, (by omega), (by rw [(pK_4 (T := T) (d := dp) hX hS h9 h8 (by omega) (by omega) hb.1.1 hnm).2 (by omega)]; exact ⟨m_147, q_150, fun k => by have := u_150 k; omega, x_150, fun k => by have a := x_147.2.1 k; rcases (show z_147 < 0 ∨ 0 ≤ z_147 by omega) with b | b; (have := x_147.2.2 b; omega); exact (o_150 b).trans a⟩)⟩
          · refine tz_iconst (pc := 102) dX5_readCompound_102 ?_
            refine tz_goto (pc := 103) (tgt := 113) dX5_readCompound_103 (by decide) ?_
            refine tz_istore (pc := 113) (L2 := [_, _, _, _, _, _, _]) dX5_readCompound_113 (by decide) rfl ?_
            refine tz_iload_n (pc := 115) dX5_readCompound_115 rfl rfl ?_
            refine tz_if_le (pc := 116) (tgt := 125) dX5_readCompound_116 (by decide) (by omega) (fun h_116 => ?_) (fun h_116 => ?_)
            · refine tz_aload_n (pc := 125) dX5_readCompound_125 rfl rfl ?_
              refine tz_fI (pc := 126) (kz := 8) (v := (J_92 163 8)) dX5_readCompound_126 fl_X5_24 i_163_8 rfl rfl (fun r_126 => ?_)
              refine tz_if_ne (pc := 129) (tgt := 156) dX5_readCompound_129 (by decide) (by omega) (fun h_129 => ?_) (fun h_129 => ?_)
              · refine tz_iconst (pc := 156) dX5_readCompound_156 ?_
                exact tz_iret (pc := 157) (z := (-1)) dX5_readCompound_157 rfl (Nat.le_of_ble_eq_true rfl) (Nat.le_of_ble_eq_true rfl) ⟨Nat.le_refl _, Nat.le_add_right _ _⟩ ⟨_, rfl, (by decide), (by have X4 : XC J_92 (pA4 T (pNx g) (J 3 z_32) dp) := (False.elim (by omega)); rw [(pK_4 (T := T) (d := dp) hX hS h9 h8 (by omega) (by omega) hb.1.1 hnm).2 (by omega), pMx_f (XC.no X4 (by omega))]; exact ⟨m_92, q_92, fun k => by omega, X4, fun k => absurd k (XC.no X4 (by omega))⟩)⟩
              · refine tz_aload_n (pc := 132) dX5_readCompound_132 rfl rfl ?_
                refine tz_aload_n (pc := 133) dX5_readCompound_133 rfl rfl ?_
                refine tz_fR (pc := 134) dX5_readCompound_134 fl_X5_38 r_163_1 ?_
                refine tz_fR (pc := 137) dX5_readCompound_137 fl_X5_42 r_5_0 ?_
                refine tz_iload_n (pc := 140) dX5_readCompound_140 rfl rfl ?_
                refine tz_iload (pc := 141) dX5_readCompound_141 rfl ?_
                refine tz_iload (pc := 143) dX5_readCompound_143 rfl ?_
                refine tz_iload (pc := 145) dX5_readCompound_145 rfl ?_
                have x1 := (q_92).1.2.2.2.2 1 rfl
                have x3 := (q_92).1.2.2.2.2 3 rfl
                have t_147 := (q_92).1.2.1.told
                have ra : arh (J_92 3) z_32 = J 3 z_32 := by rw [x3]; exact if_neg (by omega)
                have X4 : XC J_92 (pA4 T (pNx g) (J 3 z_32) dp) := (False.elim (by omega))
                refine tz_cV (pc := 147) (c_made hl n _ _ _ _ _ (by omega) (by omega) (by omega) (by omega) m_92 (q_92).1.2.1 (q_92).1.2.2.1 (by rw [x1]; omega) (ltA_of (by omega) (by omega) (by omega))) vl_X5_189 dX5_readCompound_147 o_6 rfl rfl (Nat.le_of_ble_eq_true rfl) ⟨(show 2 + 1 ≤ d9 + 2 by omega), (show 8 + (11 + 11) + 40 * (2) ≤ 40 * (d9 + 2) by omega)⟩ rfl rfl (Nat.le_of_ble_eq_true rfl) (Nat.le_of_ble_eq_true rfl) (fun r9 J_147 hq9 => ?_)
                obtain ⟨z_147, rfl, hz_147, p_147⟩ := hq9
                obtain ⟨m_147, y_147, h_147⟩ := GR.made p_147 (by omega)
                have q_147 := RT.made q_92 y_147
                have x_147 := XC.made (x := (pA1 T (pNx g) (J 3 z_32) dp).2) (y := (pA2 T (pNx g) (J 3 z_32) dp).2) (w := (pA3 T (pNx g) (J 3 z_32) dp).2) X4 (by omega) (q_92).1.2.1 (q_92).1.2.2.1 (by rw [x1]; omega) (fun k => ⟨fun u => by omega, fun _ => b_92 (pA_0 hF k).2.1, fun u => by omega⟩) ⟨fun u => by omega, fun u => by omega, fun u => by omega⟩ p_147
                refine tz_cV (pc := 150) (w_held hl n _ _ (by omega) _ x_147.1 x_147.2.2) vl_X5_180 dX5_readCompound_150 o_163 rfl rfl (Nat.le_of_ble_eq_true rfl) ⟨(show 1 + 1 ≤ d9 + 2 by omega), (show 8 + (2 + 11) + 40 * (1) ≤ 40 * (d9 + 2) by omega)⟩ rfl rfl (Nat.le_of_ble_eq_true rfl) (Nat.le_of_ble_eq_true rfl) (fun r9 J_150 hq9 => ?_)
                obtain ⟨z_150, rfl, hz_150, g_150, d_150, u_150, x_150, o_150⟩ := hq9
                have q_150 := RT.rn q_147 g_150 (d_150 (q_147).2.1)
                refine tz_goto (pc := 153) (tgt := 157) dX5_readCompound_153 (by decide) ?_
                exact tz_iret (pc := 157) (z := z_150) dX5_readCompound_157 rfl (Nat.le_of_ble_eq_true rfl) (Nat.le_of_ble_eq_true rfl) ⟨Nat.le_refl _, Nat.le_add_right _ _⟩ ⟨_, rfl, (by omega), (by rw [(pK_4 (T := T) (d := dp) hX hS h9 h8 (by omega) (by omega) hb.1.1 hnm).2 (by omega)]; exact ⟨m_147, q_150, fun k => by have := u_150 k; omega, x_150, fun k => by have a := x_147.2.1 k; rcases (show z_147 < 0 ∨ 0 ≤ z_147 by omega) with b | b; (have := x_147.2.2 b; omega); exact (o_150 b).trans a⟩)⟩
            · refine tz_aload_n (pc := 119) dX5_readCompound_119 rfl rfl ?_
              refine tz_bipush (pc := 120) dX5_readCompound_120 (by decide) ?_
              have b_122 := (q_92).2.1
              obtain ⟨⟨⟨b1_122, b2_122⟩, b3_122, b4_122⟩, b5_122⟩ := id b_122
              refine tz_cV (pc := 122) (w_pass hl n _ _ (by omega) (pA3 T (pNx g) (J 3 z_32) dp).1 b_122 (by unfold pA3; rw [if_neg (by omega)]; exact a_92) (SI.a3 hT (SI.nx hS))) vl_X5_116 dX5_readCompound_122 o_163 rfl rfl (Nat.le_of_ble_eq_true rfl) ⟨(show 2 + 1 ≤ d9 + 2 by omega), (show 8 + (2 + 11) + 40 * (2) ≤ 40 * (d9 + 2) by omega)⟩ rfl rfl (Nat.le_of_ble_eq_true rfl) (Nat.le_of_ble_eq_true rfl) (fun r9 J_122 hq9 => ?_)
              obtain ⟨rfl, g_122, d_122, x_122⟩ := hq9
              have q_122 := RT.rn q_92 g_122 d_122
              have f_122 := g_122.2.2
              refine tz_aload_n (pc := 125) dX5_readCompound_125 rfl rfl ?_
              refine tz_fI (pc := 126) (kz := 8) (v := (J_122 163 8)) dX5_readCompound_126 fl_X5_24 i_163_8 rfl rfl (fun r_126 => ?_)
              refine tz_if_ne (pc := 129) (tgt := 156) dX5_readCompound_129 (by decide) (by omega) (fun h_129 => ?_) (fun h_129 => ?_)
              · refine tz_iconst (pc := 156) dX5_readCompound_156 ?_
                exact tz_iret (pc := 157) (z := (-1)) dX5_readCompound_157 rfl (Nat.le_of_ble_eq_true rfl) (Nat.le_of_ble_eq_true rfl) ⟨Nat.le_refl _, Nat.le_add_right _ _⟩ ⟨_, rfl, (by decide), (by have X4 : XC J_122 (pA4 T (pNx g) (J 3 z_32) dp) := (by unfold pA4; rw [if_pos (by omega)]; exact x_122); rw [(pK_4 (T := T) (d := dp) hX hS h9 h8 (by omega) (by omega) hb.1.1 hnm).2 (by omega), pMx_f (XC.no X4 (by omega))]; exact ⟨m_92, q_122, fun k => by omega, X4, fun k => absurd k (XC.no X4 (by omega))⟩)⟩
              · refine tz_aload_n (pc := 132) dX5_readCompound_132 rfl rfl ?_
                refine tz_aload_n (pc := 133) dX5_readCompound_133 rfl rfl ?_
                refine tz_fR (pc := 134) dX5_readCompound_134 fl_X5_38 r_163_1 ?_
                refine tz_fR (pc := 137) dX5_readCompound_137 fl_X5_42 r_5_0 ?_
                refine tz_iload_n (pc := 140) dX5_readCompound_140 rfl rfl ?_
                refine tz_iload (pc := 141) dX5_readCompound_141 rfl ?_
                refine tz_iload (pc := 143) dX5_readCompound_143 rfl ?_
                refine tz_iload (pc := 145) dX5_readCompound_145 rfl ?_
                have x1 := (q_122).1.2.2.2.2 1 rfl
                have x3 := (q_122).1.2.2.2.2 3 rfl
                have t_147 := (q_122).1.2.1.told
                have ra : arh (J_122 3) z_32 = J 3 z_32 := by rw [x3]; exact if_neg (by omega)
                have X4 : XC J_122 (pA4 T (pNx g) (J 3 z_32) dp) := (by unfold pA4; rw [if_pos (by omega)]; exact x_122)
                refine tz_cV (pc := 147) (c_made hl n _ _ _ _ _ (by omega) (by omega) (by omega) (by omega) m_92 (q_122).1.2.1 (q_122).1.2.2.1 (by rw [x1]; omega) (ltA_of (by omega) (by omega) (by omega))) vl_X5_189 dX5_readCompound_147 o_6 rfl rfl (Nat.le_of_ble_eq_true rfl) ⟨(show 2 + 1 ≤ d9 + 2 by omega), (show 8 + (11 + 11) + 40 * (2) ≤ 40 * (d9 + 2) by omega)⟩ rfl rfl (Nat.le_of_ble_eq_true rfl) (Nat.le_of_ble_eq_true rfl) (fun r9 J_147 hq9 => ?_)
                obtain ⟨z_147, rfl, hz_147, p_147⟩ := hq9
                obtain ⟨m_147, y_147, h_147⟩ := GR.made p_147 (by omega)
                have q_147 := RT.made q_122 y_147
                have x_147 := XC.made (x := (pA1 T (pNx g) (J 3 z_32) dp).2) (y := (pA2 T (pNx g) (J 3 z_32) dp).2) (w := (pA3 T (pNx g) (J 3 z_32) dp).2) X4 (by omega) (q_122).1.2.1 (q_122).1.2.2.1 (by rw [x1]; omega) (fun k => ⟨fun u => by omega, fun _ => b_92 (pA_0 hF k).2.1, fun u => by omega⟩) ⟨fun u => by omega, fun u => by omega, fun u => by omega⟩ p_147
                refine tz_cV (pc := 150) (w_held hl n _ _ (by omega) _ x_147.1 x_147.2.2) vl_X5_180 dX5_readCompound_150 o_163 rfl rfl (Nat.le_of_ble_eq_true rfl) ⟨(show 1 + 1 ≤ d9 + 2 by omega), (show 8 + (2 + 11) + 40 * (1) ≤ 40 * (d9 + 2) by omega)⟩ rfl rfl (Nat.le_of_ble_eq_true rfl) (Nat.le_of_ble_eq_true rfl) (fun r9 J_150 hq9 => ?_)
                obtain ⟨z_150, rfl, hz_150, g_150, d_150, u_150, x_150, o_150⟩ := hq9
                have q_150 := RT.rn q_147 g_150 (d_150 (q_147).2.1)
                refine tz_goto (pc := 153) (tgt := 157) dX5_readCompound_153 (by decide) ?_
                exact tz_iret (pc := 157) (z := z_150) dX5_readCompound_157 rfl (Nat.le_of_ble_eq_true rfl) (Nat.le_of_ble_eq_true rfl) ⟨Nat.le_refl _, Nat.le_add_right _ _⟩ ⟨_, rfl, (by omega), (by rw [(pK_4 (T := T) (d := dp) hX hS h9 h8 (by omega) (by omega) hb.1.1 hnm).2 (by omega)]; exact ⟨m_147, q_150, fun k => by have := u_150 k; omega, x_150, fun k => by have a := x_147.2.1 k; rcases (show z_147 < 0 ∨ 0 ≤ z_147 by omega) with b | b; (have := x_147.2.2 b; omega); exact (o_150 b).trans a⟩)⟩
        · refine tz_iconst (pc := 84) dX5_readCompound_84 ?_
          refine tz_goto (pc := 85) (tgt := 95) dX5_readCompound_85 (by decide) ?_
          refine tz_istore (pc := 95) (L2 := [_, _, _, _, _, _, _]) dX5_readCompound_95 (by decide) rfl ?_
          refine tz_iload_n (pc := 97) dX5_readCompound_97 rfl rfl ?_
          refine tz_iconst (pc := 98) dX5_readCompound_98 ?_
          refine tz_icmp_ge (pc := 99) (tgt := 106) dX5_readCompound_99 (by decide) (by omega) (by decide) (fun h_99 => ?_) (fun h_99 => ?_)
          · refine tz_aload_n (pc := 106) dX5_readCompound_106 rfl rfl ?_
            refine tz_bipush (pc := 107) dX5_readCompound_107 (by decide) ?_
            refine tz_iload_n (pc := 109) dX5_readCompound_109 rfl rfl ?_
            refine tz_cV (pc := 110) (w_readArg hl n _ _ _ (by decide) (by omega) T hT hF d9 hd9 H m (pA2 T (pNx g) (J 3 z_32) dp).1 (q_48).1.2.1 (q_48).1.2.2.1 (q_48).2.1 (False.elim (by omega)) (SI.a2 hT (SI.nx hS))) vl_X5_186 dX5_readCompound_110 o_163 rfl rfl (Nat.le_of_ble_eq_true rfl) ⟨(show (d9 + 1) + 1 ≤ d9 + 2 by omega), (show 8 + (3 + 11) + 40 * ((d9 + 1)) ≤ 40 * (d9 + 2) by omega)⟩ rfl rfl (Nat.le_of_ble_eq_true rfl) (Nat.le_of_ble_eq_true rfl) (fun r9 J_110 hq9 => ?_)
            obtain ⟨z_110, rfl, hz_110, m_110, g_110, u_110, x_110, y_110⟩ := hq9
            have q_110 := RT.tr q_48 g_110
            have f_110 := g_110.2.2
            have l_110 := g_110.1.1
            have a_110 : XC J_110 (pA3 T (pNx g) (J 3 z_32) dp).1 := by unfold pA3; rw [if_pos (by omega)]; exact x_110
            have b_110 : VQ z_110 (pA3 T (pNx g) (J 3 z_32) dp) := by unfold pA3; rw [if_pos (by omega)]; exact y_110
            refine tz_istore (pc := 113) (L2 := [_, _, _, _, _, _, _]) dX5_readCompound_113 (by decide) rfl ?_
            refine tz_iload_n (pc := 115) dX5_readCompound_115 rfl rfl ?_
            refine tz_if_le (pc := 116) (tgt := 125) dX5_readCompound_116 (by decide) (by omega) (fun h_116 => ?_) (fun h_116 => ?_)
            · refine tz_aload_n (pc := 125) dX5_readCompound_125 rfl rfl ?_
              refine tz_fI (pc := 126) (kz := 8) (v := (J_110 163 8)) dX5_readCompound_126 fl_X5_24 i_163_8 rfl rfl (fun r_126 => ?_)
              refine tz_if_ne (pc := 129) (tgt := 156) dX5_readCompound_129 (by decide) (by omega) (fun h_129 => ?_) (fun h_129 => ?_)
              · refine tz_iconst (pc := 156) dX5_readCompound_156 ?_
                exact tz_iret (pc := 157) (z := (-1)) dX5_readCompound_157 rfl (Nat.le_of_ble_eq_true rfl) (Nat.le_of_ble_eq_true rfl) ⟨Nat.le_refl _, Nat.le_add_right _ _⟩ ⟨_, rfl, (by decide), (by have X4 : XC J_110 (pA4 T (pNx g) (J 3 z_32) dp) := (False.elim (by omega)); rw [(pK_4 (T := T) (d := dp) hX hS h9 h8 (by omega) (by omega) hb.1.1 hnm).2 (by omega), pMx_f (XC.no X4 (by omega))]; exact ⟨m_110, q_110, fun k => by omega, X4, fun k => absurd k (XC.no X4 (by omega))⟩)⟩
              · refine tz_aload_n (pc := 132) dX5_readCompound_132 rfl rfl ?_
                refine tz_aload_n (pc := 133) dX5_readCompound_133 rfl rfl ?_
                refine tz_fR (pc := 134) dX5_readCompound_134 fl_X5_38 r_163_1 ?_
                refine tz_fR (pc := 137) dX5_readCompound_137 fl_X5_42 r_5_0 ?_
                refine tz_iload_n (pc := 140) dX5_readCompound_140 rfl rfl ?_
                refine tz_iload (pc := 141) dX5_readCompound_141 rfl ?_
                refine tz_iload (pc := 143) dX5_readCompound_143 rfl ?_
                refine tz_iload (pc := 145) dX5_readCompound_145 rfl ?_
                have x1 := (q_110).1.2.2.2.2 1 rfl
                have x3 := (q_110).1.2.2.2.2 3 rfl
                have t_147 := (q_110).1.2.1.told
                have ra : arh (J_110 3) z_32 = J 3 z_32 := by rw [x3]; exact if_neg (by omega)
                have X4 : XC J_110 (pA4 T (pNx g) (J 3 z_32) dp) := (False.elim (by omega))
                refine tz_cV (pc := 147) (c_made hl n _ _ _ _ _ (by omega) (by omega) (by omega) (by omega) m_110 (q_110).1.2.1 (q_110).1.2.2.1 (by rw [x1]; omega) (ltA_of (by omega) (by omega) (by omega))) vl_X5_189 dX5_readCompound_147 o_6 rfl rfl (Nat.le_of_ble_eq_true rfl) ⟨(show 2 + 1 ≤ d9 + 2 by omega), (show 8 + (11 + 11) + 40 * (2) ≤ 40 * (d9 + 2) by omega)⟩ rfl rfl (Nat.le_of_ble_eq_true rfl) (Nat.le_of_ble_eq_true rfl) (fun r9 J_147 hq9 => ?_)
                obtain ⟨z_147, rfl, hz_147, p_147⟩ := hq9
                obtain ⟨m_147, y_147, h_147⟩ := GR.made p_147 (by omega)
                have q_147 := RT.made q_110 y_147
                have x_147 := XC.made (x := (pA1 T (pNx g) (J 3 z_32) dp).2) (y := (pA2 T (pNx g) (J 3 z_32) dp).2) (w := (pA3 T (pNx g) (J 3 z_32) dp).2) X4 (by omega) (q_110).1.2.1 (q_110).1.2.2.1 (by rw [x1]; omega) (fun k => ⟨fun u => by omega, fun u => by omega, fun _ => b_110 (pA_0 hF k).1⟩) ⟨fun u => by omega, fun u => by omega, fun u => by omega⟩ p_147
                refine tz_cV (pc := 150) (w_held hl n _ _ (by omega) _ x_147.1 x_147.2.2) vl_X5_180 dX5_readCompound_150 o_163 rfl rfl (Nat.le_of_ble_eq_true rfl) ⟨(show 1 + 1 ≤ d9 + 2 by omega), (show 8 + (2 + 11) + 40 * (1) ≤ 40 * (d9 + 2) by omega)⟩ rfl rfl (Nat.le_of_ble_eq_true rfl) (Nat.le_of_ble_eq_true rfl) (fun r9 J_150 hq9 => ?_)
                obtain ⟨z_150, rfl, hz_150, g_150, d_150, u_150, x_150, o_150⟩ := hq9
                have q_150 := RT.rn q_147 g_150 (d_150 (q_147).2.1)
                refine tz_goto (pc := 153) (tgt := 157) dX5_readCompound_153 (by decide) ?_
                exact tz_iret (pc := 157) (z := z_150) dX5_readCompound_157 rfl (Nat.le_of_ble_eq_true rfl) (Nat.le_of_ble_eq_true rfl) ⟨Nat.le_refl _, Nat.le_add_right _ _⟩ ⟨_, rfl, (by omega), (by rw [(pK_4 (T := T) (d := dp) hX hS h9 h8 (by omega) (by omega) hb.1.1 hnm).2 (by omega)]; exact ⟨m_147, q_150, fun k => by have := u_150 k; omega, x_150, fun k => by have a := x_147.2.1 k; rcases (show z_147 < 0 ∨ 0 ≤ z_147 by omega) with b | b; (have := x_147.2.2 b; omega); exact (o_150 b).trans a⟩)⟩
            · refine tz_aload_n (pc := 119) dX5_readCompound_119 rfl rfl ?_
              refine tz_bipush (pc := 120) dX5_readCompound_120 (by decide) ?_
              have b_122 := (q_110).2.1
              obtain ⟨⟨⟨b1_122, b2_122⟩, b3_122, b4_122⟩, b5_122⟩ := id b_122
              refine tz_cV (pc := 122) (w_pass hl n _ _ (by omega) (pA3 T (pNx g) (J 3 z_32) dp).1 b_122 a_110 (SI.a3 hT (SI.nx hS))) vl_X5_116 dX5_readCompound_122 o_163 rfl rfl (Nat.le_of_ble_eq_true rfl) ⟨(show 2 + 1 ≤ d9 + 2 by omega), (show 8 + (2 + 11) + 40 * (2) ≤ 40 * (d9 + 2) by omega)⟩ rfl rfl (Nat.le_of_ble_eq_true rfl) (Nat.le_of_ble_eq_true rfl) (fun r9 J_122 hq9 => ?_)
              obtain ⟨rfl, g_122, d_122, x_122⟩ := hq9
              have q_122 := RT.rn q_110 g_122 d_122
              have f_122 := g_122.2.2
              refine tz_aload_n (pc := 125) dX5_readCompound_125 rfl rfl ?_
              refine tz_fI (pc := 126) (kz := 8) (v := (J_122 163 8)) dX5_readCompound_126 fl_X5_24 i_163_8 rfl rfl (fun r_126 => ?_)
              refine tz_if_ne (pc := 129) (tgt := 156) dX5_readCompound_129 (by decide) (by omega) (fun h_129 => ?_) (fun h_129 => ?_)
              · refine tz_iconst (pc := 156) dX5_readCompound_156 ?_
                exact tz_iret (pc := 157) (z := (-1)) dX5_readCompound_157 rfl (Nat.le_of_ble_eq_true rfl) (Nat.le_of_ble_eq_true rfl) ⟨Nat.le_refl _, Nat.le_add_right _ _⟩ ⟨_, rfl, (by decide), (by have X4 : XC J_122 (pA4 T (pNx g) (J 3 z_32) dp) := (by unfold pA4; rw [if_pos (by omega)]; exact x_122); rw [(pK_4 (T := T) (d := dp) hX hS h9 h8 (by omega) (by omega) hb.1.1 hnm).2 (by omega), pMx_f (XC.no X4 (by omega))]; exact ⟨m_110, q_122, fun k => by omega, X4, fun k => absurd k (XC.no X4 (by omega))⟩)⟩
              · refine tz_aload_n (pc := 132) dX5_readCompound_132 rfl rfl ?_
                refine tz_aload_n (pc := 133) dX5_readCompound_133 rfl rfl ?_
                refine tz_fR (pc := 134) dX5_readCompound_134 fl_X5_38 r_163_1 ?_
                refine tz_fR (pc := 137) dX5_readCompound_137 fl_X5_42 r_5_0 ?_
                refine tz_iload_n (pc := 140) dX5_readCompound_140 rfl rfl ?_
                refine tz_iload (pc := 141) dX5_readCompound_141 rfl ?_
                refine tz_iload (pc := 143) dX5_readCompound_143 rfl ?_
                refine tz_iload (pc := 145) dX5_readCompound_145 rfl ?_
                have x1 := (q_122).1.2.2.2.2 1 rfl
                have x3 := (q_122).1.2.2.2.2 3 rfl
                have t_147 := (q_122).1.2.1.told
                have ra : arh (J_122 3) z_32 = J 3 z_32 := by rw [x3]; exact if_neg (by omega)
                have X4 : XC J_122 (pA4 T (pNx g) (J 3 z_32) dp) := (by unfold pA4; rw [if_pos (by omega)]; exact x_122)
                refine tz_cV (pc := 147) (c_made hl n _ _ _ _ _ (by omega) (by omega) (by omega) (by omega) m_110 (q_122).1.2.1 (q_122).1.2.2.1 (by rw [x1]; omega) (ltA_of (by omega) (by omega) (by omega))) vl_X5_189 dX5_readCompound_147 o_6 rfl rfl (Nat.le_of_ble_eq_true rfl) ⟨(show 2 + 1 ≤ d9 + 2 by omega), (show 8 + (11 + 11) + 40 * (2) ≤ 40 * (d9 + 2) by omega)⟩ rfl rfl (Nat.le_of_ble_eq_true rfl) (Nat.le_of_ble_eq_true rfl) (fun r9 J_147 hq9 => ?_)
                obtain ⟨z_147, rfl, hz_147, p_147⟩ := hq9
                obtain ⟨m_147, y_147, h_147⟩ := GR.made p_147 (by omega)
                have q_147 := RT.made q_122 y_147
                have x_147 := XC.made (x := (pA1 T (pNx g) (J 3 z_32) dp).2) (y := (pA2 T (pNx g) (J 3 z_32) dp).2) (w := (pA3 T (pNx g) (J 3 z_32) dp).2) X4 (by omega) (q_122).1.2.1 (q_122).1.2.2.1 (by rw [x1]; omega) (fun k => ⟨fun u => by omega, fun u => by omega, fun _ => b_110 (pA_0 hF k).1⟩) ⟨fun u => by omega, fun u => by omega, fun u => by omega⟩ p_147
                refine tz_cV (pc := 150) (w_held hl n _ _ (by omega) _ x_147.1 x_147.2.2) vl_X5_180 dX5_readCompound_150 o_163 rfl rfl (Nat.le_of_ble_eq_true rfl) ⟨(show 1 + 1 ≤ d9 + 2 by omega), (show 8 + (2 + 11) + 40 * (1) ≤ 40 * (d9 + 2) by omega)⟩ rfl rfl (Nat.le_of_ble_eq_true rfl) (Nat.le_of_ble_eq_true rfl) (fun r9 J_150 hq9 => ?_)
                obtain ⟨z_150, rfl, hz_150, g_150, d_150, u_150, x_150, o_150⟩ := hq9
                have q_150 := RT.rn q_147 g_150 (d_150 (q_147).2.1)
                refine tz_goto (pc := 153) (tgt := 157) dX5_readCompound_153 (by decide) ?_
                exact tz_iret (pc := 157) (z := z_150) dX5_readCompound_157 rfl (Nat.le_of_ble_eq_true rfl) (Nat.le_of_ble_eq_true rfl) ⟨Nat.le_refl _, Nat.le_add_right _ _⟩ ⟨_, rfl, (by omega), (by rw [(pK_4 (T := T) (d := dp) hX hS h9 h8 (by omega) (by omega) hb.1.1 hnm).2 (by omega)]; exact ⟨m_147, q_150, fun k => by have := u_150 k; omega, x_150, fun k => by have a := x_147.2.1 k; rcases (show z_147 < 0 ∨ 0 ≤ z_147 by omega) with b | b; (have := x_147.2.2 b; omega); exact (o_150 b).trans a⟩)⟩
          · refine tz_iconst (pc := 102) dX5_readCompound_102 ?_
            refine tz_goto (pc := 103) (tgt := 113) dX5_readCompound_103 (by decide) ?_
            refine tz_istore (pc := 113) (L2 := [_, _, _, _, _, _, _]) dX5_readCompound_113 (by decide) rfl ?_
            refine tz_iload_n (pc := 115) dX5_readCompound_115 rfl rfl ?_
            refine tz_if_le (pc := 116) (tgt := 125) dX5_readCompound_116 (by decide) (by omega) (fun h_116 => ?_) (fun h_116 => ?_)
            · refine tz_aload_n (pc := 125) dX5_readCompound_125 rfl rfl ?_
              refine tz_fI (pc := 126) (kz := 8) (v := (J_48 163 8)) dX5_readCompound_126 fl_X5_24 i_163_8 rfl rfl (fun r_126 => ?_)
              refine tz_if_ne (pc := 129) (tgt := 156) dX5_readCompound_129 (by decide) (by omega) (fun h_129 => ?_) (fun h_129 => ?_)
              · refine tz_iconst (pc := 156) dX5_readCompound_156 ?_
                exact tz_iret (pc := 157) (z := (-1)) dX5_readCompound_157 rfl (Nat.le_of_ble_eq_true rfl) (Nat.le_of_ble_eq_true rfl) ⟨Nat.le_refl _, Nat.le_add_right _ _⟩ ⟨_, rfl, (by decide), (by have X4 : XC J_48 (pA4 T (pNx g) (J 3 z_32) dp) := (by unfold pA4 pA3 pA2 pA1; rw [if_neg (by omega), if_neg (by omega), if_neg (by omega), if_neg (by omega)]; exact x_48); rw [(pK_4 (T := T) (d := dp) hX hS h9 h8 (by omega) (by omega) hb.1.1 hnm).2 (by omega), pMx_f (XC.no X4 (by omega))]; exact ⟨m, q_48, fun k => by omega, X4, fun k => absurd k (XC.no X4 (by omega))⟩)⟩
              · refine tz_aload_n (pc := 132) dX5_readCompound_132 rfl rfl ?_
                refine tz_aload_n (pc := 133) dX5_readCompound_133 rfl rfl ?_
                refine tz_fR (pc := 134) dX5_readCompound_134 fl_X5_38 r_163_1 ?_
                refine tz_fR (pc := 137) dX5_readCompound_137 fl_X5_42 r_5_0 ?_
                refine tz_iload_n (pc := 140) dX5_readCompound_140 rfl rfl ?_
                refine tz_iload (pc := 141) dX5_readCompound_141 rfl ?_
                refine tz_iload (pc := 143) dX5_readCompound_143 rfl ?_
                refine tz_iload (pc := 145) dX5_readCompound_145 rfl ?_
                have x1 := (q_48).1.2.2.2.2 1 rfl
                have x3 := (q_48).1.2.2.2.2 3 rfl
                have t_147 := (q_48).1.2.1.told
                have ra : arh (J_48 3) z_32 = J 3 z_32 := by rw [x3]; exact if_neg (by omega)
                have X4 : XC J_48 (pA4 T (pNx g) (J 3 z_32) dp) := (by unfold pA4 pA3 pA2 pA1; rw [if_neg (by omega), if_neg (by omega), if_neg (by omega), if_neg (by omega)]; exact x_48)
                refine tz_cV (pc := 147) (c_made hl n _ _ _ _ _ (by omega) (by omega) (by omega) (by omega) m (q_48).1.2.1 (q_48).1.2.2.1 (by rw [x1]; omega) (ltA_of (by omega) (by omega) (by omega))) vl_X5_189 dX5_readCompound_147 o_6 rfl rfl (Nat.le_of_ble_eq_true rfl) ⟨(show 2 + 1 ≤ d9 + 2 by omega), (show 8 + (11 + 11) + 40 * (2) ≤ 40 * (d9 + 2) by omega)⟩ rfl rfl (Nat.le_of_ble_eq_true rfl) (Nat.le_of_ble_eq_true rfl) (fun r9 J_147 hq9 => ?_)
                obtain ⟨z_147, rfl, hz_147, p_147⟩ := hq9
                obtain ⟨m_147, y_147, h_147⟩ := GR.made p_147 (by omega)
                have q_147 := RT.made q_48 y_147
                have x_147 := XC.made (x := (pA1 T (pNx g) (J 3 z_32) dp).2) (y := (pA2 T (pNx g) (J 3 z_32) dp).2) (w := (pA3 T (pNx g) (J 3 z_32) dp).2) X4 (by omega) (q_48).1.2.1 (q_48).1.2.2.1 (by rw [x1]; omega) (fun k => ⟨fun u => by omega, fun u => by omega, fun u => by omega⟩) ⟨fun u => by omega, fun u => by omega, fun u => by omega⟩ p_147
                refine tz_cV (pc := 150) (w_held hl n _ _ (by omega) _ x_147.1 x_147.2.2) vl_X5_180 dX5_readCompound_150 o_163 rfl rfl (Nat.le_of_ble_eq_true rfl) ⟨(show 1 + 1 ≤ d9 + 2 by omega), (show 8 + (2 + 11) + 40 * (1) ≤ 40 * (d9 + 2) by omega)⟩ rfl rfl (Nat.le_of_ble_eq_true rfl) (Nat.le_of_ble_eq_true rfl) (fun r9 J_150 hq9 => ?_)
                obtain ⟨z_150, rfl, hz_150, g_150, d_150, u_150, x_150, o_150⟩ := hq9
                have q_150 := RT.rn q_147 g_150 (d_150 (q_147).2.1)
                refine tz_goto (pc := 153) (tgt := 157) dX5_readCompound_153 (by decide) ?_
                exact tz_iret (pc := 157) (z := z_150) dX5_readCompound_157 rfl (Nat.le_of_ble_eq_true rfl) (Nat.le_of_ble_eq_true rfl) ⟨Nat.le_refl _, Nat.le_add_right _ _⟩ ⟨_, rfl, (by omega), (by rw [(pK_4 (T := T) (d := dp) hX hS h9 h8 (by omega) (by omega) hb.1.1 hnm).2 (by omega)]; exact ⟨m_147, q_150, fun k => by have := u_150 k; omega, x_150, fun k => by have a := x_147.2.1 k; rcases (show z_147 < 0 ∨ 0 ≤ z_147 by omega) with b | b; (have := x_147.2.2 b; omega); exact (o_150 b).trans a⟩)⟩
            · refine tz_aload_n (pc := 119) dX5_readCompound_119 rfl rfl ?_
              refine tz_bipush (pc := 120) dX5_readCompound_120 (by decide) ?_
              have b_122 := (q_48).2.1
              obtain ⟨⟨⟨b1_122, b2_122⟩, b3_122, b4_122⟩, b5_122⟩ := id b_122
              refine tz_cV (pc := 122) (w_pass hl n _ _ (by omega) (pA3 T (pNx g) (J 3 z_32) dp).1 b_122 (False.elim (by omega)) (SI.a3 hT (SI.nx hS))) vl_X5_116 dX5_readCompound_122 o_163 rfl rfl (Nat.le_of_ble_eq_true rfl) ⟨(show 2 + 1 ≤ d9 + 2 by omega), (show 8 + (2 + 11) + 40 * (2) ≤ 40 * (d9 + 2) by omega)⟩ rfl rfl (Nat.le_of_ble_eq_true rfl) (Nat.le_of_ble_eq_true rfl) (fun r9 J_122 hq9 => ?_)
              obtain ⟨rfl, g_122, d_122, x_122⟩ := hq9
              have q_122 := RT.rn q_48 g_122 d_122
              have f_122 := g_122.2.2
              refine tz_aload_n (pc := 125) dX5_readCompound_125 rfl rfl ?_
              refine tz_fI (pc := 126) (kz := 8) (v := (J_122 163 8)) dX5_readCompound_126 fl_X5_24 i_163_8 rfl rfl (fun r_126 => ?_)
              refine tz_if_ne (pc := 129) (tgt := 156) dX5_readCompound_129 (by decide) (by omega) (fun h_129 => ?_) (fun h_129 => ?_)
              · refine tz_iconst (pc := 156) dX5_readCompound_156 ?_
                exact tz_iret (pc := 157) (z := (-1)) dX5_readCompound_157 rfl (Nat.le_of_ble_eq_true rfl) (Nat.le_of_ble_eq_true rfl) ⟨Nat.le_refl _, Nat.le_add_right _ _⟩ ⟨_, rfl, (by decide), (by have X4 : XC J_122 (pA4 T (pNx g) (J 3 z_32) dp) := (by unfold pA4; rw [if_pos (by omega)]; exact x_122); rw [(pK_4 (T := T) (d := dp) hX hS h9 h8 (by omega) (by omega) hb.1.1 hnm).2 (by omega), pMx_f (XC.no X4 (by omega))]; exact ⟨m, q_122, fun k => by omega, X4, fun k => absurd k (XC.no X4 (by omega))⟩)⟩
              · refine tz_aload_n (pc := 132) dX5_readCompound_132 rfl rfl ?_
                refine tz_aload_n (pc := 133) dX5_readCompound_133 rfl rfl ?_
                refine tz_fR (pc := 134) dX5_readCompound_134 fl_X5_38 r_163_1 ?_
                refine tz_fR (pc := 137) dX5_readCompound_137 fl_X5_42 r_5_0 ?_
                refine tz_iload_n (pc := 140) dX5_readCompound_140 rfl rfl ?_
                refine tz_iload (pc := 141) dX5_readCompound_141 rfl ?_
                refine tz_iload (pc := 143) dX5_readCompound_143 rfl ?_
                refine tz_iload (pc := 145) dX5_readCompound_145 rfl ?_
                have x1 := (q_122).1.2.2.2.2 1 rfl
                have x3 := (q_122).1.2.2.2.2 3 rfl
                have t_147 := (q_122).1.2.1.told
                have ra : arh (J_122 3) z_32 = J 3 z_32 := by rw [x3]; exact if_neg (by omega)
                have X4 : XC J_122 (pA4 T (pNx g) (J 3 z_32) dp) := (by unfold pA4; rw [if_pos (by omega)]; exact x_122)
                refine tz_cV (pc := 147) (c_made hl n _ _ _ _ _ (by omega) (by omega) (by omega) (by omega) m (q_122).1.2.1 (q_122).1.2.2.1 (by rw [x1]; omega) (ltA_of (by omega) (by omega) (by omega))) vl_X5_189 dX5_readCompound_147 o_6 rfl rfl (Nat.le_of_ble_eq_true rfl) ⟨(show 2 + 1 ≤ d9 + 2 by omega), (show 8 + (11 + 11) + 40 * (2) ≤ 40 * (d9 + 2) by omega)⟩ rfl rfl (Nat.le_of_ble_eq_true rfl) (Nat.le_of_ble_eq_true rfl) (fun r9 J_147 hq9 => ?_)
                obtain ⟨z_147, rfl, hz_147, p_147⟩ := hq9
                obtain ⟨m_147, y_147, h_147⟩ := GR.made p_147 (by omega)
                have q_147 := RT.made q_122 y_147
                have x_147 := XC.made (x := (pA1 T (pNx g) (J 3 z_32) dp).2) (y := (pA2 T (pNx g) (J 3 z_32) dp).2) (w := (pA3 T (pNx g) (J 3 z_32) dp).2) X4 (by omega) (q_122).1.2.1 (q_122).1.2.2.1 (by rw [x1]; omega) (fun k => ⟨fun u => by omega, fun u => by omega, fun u => by omega⟩) ⟨fun u => by omega, fun u => by omega, fun u => by omega⟩ p_147
                refine tz_cV (pc := 150) (w_held hl n _ _ (by omega) _ x_147.1 x_147.2.2) vl_X5_180 dX5_readCompound_150 o_163 rfl rfl (Nat.le_of_ble_eq_true rfl) ⟨(show 1 + 1 ≤ d9 + 2 by omega), (show 8 + (2 + 11) + 40 * (1) ≤ 40 * (d9 + 2) by omega)⟩ rfl rfl (Nat.le_of_ble_eq_true rfl) (Nat.le_of_ble_eq_true rfl) (fun r9 J_150 hq9 => ?_)
                obtain ⟨z_150, rfl, hz_150, g_150, d_150, u_150, x_150, o_150⟩ := hq9
                have q_150 := RT.rn q_147 g_150 (d_150 (q_147).2.1)
                refine tz_goto (pc := 153) (tgt := 157) dX5_readCompound_153 (by decide) ?_
                exact tz_iret (pc := 157) (z := z_150) dX5_readCompound_157 rfl (Nat.le_of_ble_eq_true rfl) (Nat.le_of_ble_eq_true rfl) ⟨Nat.le_refl _, Nat.le_add_right _ _⟩ ⟨_, rfl, (by omega), (by rw [(pK_4 (T := T) (d := dp) hX hS h9 h8 (by omega) (by omega) hb.1.1 hnm).2 (by omega)]; exact ⟨m_147, q_150, fun k => by have := u_150 k; omega, x_150, fun k => by have a := x_147.2.1 k; rcases (show z_147 < 0 ∨ 0 ≤ z_147 by omega) with b | b; (have := x_147.2.2 b; omega); exact (o_150 b).trans a⟩)⟩
    · refine tz_aload_n (pc := 41) dX5_readCompound_41 rfl rfl ?_
      refine tz_iconst (pc := 42) dX5_readCompound_42 ?_
      refine tz_cV (pc := 43) (w_fail hl n _ _ (by decide) g (by decide) hX) vl_X5_97 dX5_readCompound_43 o_163 rfl rfl (Nat.le_of_ble_eq_true rfl) ⟨(show 0 + 1 ≤ d9 + 2 by omega), (show 8 + (2 + 11) + 40 * (0) ≤ 40 * (d9 + 2) by omega)⟩ rfl rfl (Nat.le_of_ble_eq_true rfl) (Nat.le_of_ble_eq_true rfl) (fun r9 J_43 hq9 => ?_)
      obtain ⟨z_43, rfl, hz_43, g_43, d_43, e_43, v_43, x_43⟩ := hq9
      have q_43 := RT.rn g0 g_43 (d_43 (g0).2.1)
      exact tz_iret (pc := 46) (z := z_43) dX5_readCompound_46 rfl (Nat.le_of_ble_eq_true rfl) (Nat.le_of_ble_eq_true rfl) ⟨Nat.le_refl _, Nat.le_add_right _ _⟩ ⟨_, rfl, (by omega), ⟨m, q_43, fun k => absurd k v_43, by rw [(pK_4 (T := T) (d := dp) hX hS h9 h8 (by omega) (by omega) hb.1.1 hnm).1 (by omega)]; exact x_43, fun k => by rw [(pK_4 (T := T) (d := dp) hX hS h9 h8 (by omega) (by omega) hb.1.1 hnm).1 (by omega)] at k; exact absurd k (pFx_n (by decide))⟩⟩
  · refine tz_aload_n (pc := 13) dX5_readCompound_13 rfl rfl ?_
    refine tz_iconst (pc := 14) dX5_readCompound_14 ?_
    refine tz_cV (pc := 15) (w_fail hl n _ _ (by decide) g (by decide) hX) vl_X5_97 dX5_readCompound_15 o_163 rfl rfl (Nat.le_of_ble_eq_true rfl) ⟨(show 0 + 1 ≤ d9 + 2 by omega), (show 8 + (2 + 11) + 40 * (0) ≤ 40 * (d9 + 2) by omega)⟩ rfl rfl (Nat.le_of_ble_eq_true rfl) (Nat.le_of_ble_eq_true rfl) (fun r9 J_15 hq9 => ?_)
    obtain ⟨z_15, rfl, hz_15, g_15, d_15, e_15, v_15, x_15⟩ := hq9
    have q_15 := RT.rn g0 g_15 (d_15 (g0).2.1)
    exact tz_iret (pc := 18) (z := z_15) dX5_readCompound_18 rfl (Nat.le_of_ble_eq_true rfl) (Nat.le_of_ble_eq_true rfl) ⟨Nat.le_refl _, Nat.le_add_right _ _⟩ ⟨_, rfl, (by omega), ⟨m, q_15, fun k => absurd k v_15, by rw [pK_2 hX h9 h8 (by omega)]; exact x_15, fun k => by rw [pK_2 hX h9 h8 (by omega)] at k; exact absurd k (pFx_n (by decide))⟩⟩

end
section
/-! ===== the class follows the reading: readTerm ===== -/
theorem XC.nz {J g : zJ} (h : XC J g) (hN : ¬ g 0 4 = 99) (h0 : J 163 8 = 0) : g 0 4 = 0 ∧ g 0 3 = J 163 5 := by
  rcases h.k h0 with p | ⟨q, e3, _⟩
  · exact absurd p hN
  · exact ⟨q, e3⟩
theorem pT_1 {k : Nat} {g : zJ} {d : Int} (h : g 0 4 = 0) (h3 : ¬ g 0 3 = 63 ∧ ¬ g 0 3 = 2) : pT (k + 1) g d = (pFx g 1, 0) := by
  unfold pFx
  rw [pT_s, if_pos h, if_neg h3.1, if_neg h3.2, if_pos h]
theorem pT_2 {k : Nat} {g : zJ} {d : Int} (h : g 0 4 = 0) (h3 : g 0 3 = 63 ∨ g 0 3 = 2) (hd : ¬ d ≤ 6) : pT (k + 1) g d = (pFx g 2, 0) := by
  unfold pFx
  rw [pT_s, if_pos h, if_pos h]
  rcases h3 with q | q
  · rw [if_pos q, if_neg hd]
  · rw [if_neg (by omega), if_pos q, if_neg (fun p => hd p.1)]
theorem pT_v {k : Nat} {g : zJ} {d : Int} (h : g 0 4 = 0) (h3 : g 0 3 = 63) (hd : d ≤ 6) : pT (k + 1) g d = pV g := by rw [pT_s, if_pos h, if_pos h3, if_pos hd]
set_option maxHeartbeats 4000000 in
set_option maxRecDepth 100000 in
theorem w_readTerm1 {l : Launch} {G : tb_G} (hl : l.stackTraces = false) (n : Nat) (J : zJ) (dp : Int) (hr_dp : -2147483648 ≤ dp ∧ dp < 2147483648) (k9 d9 : Nat) (hd9 : 9 ≤ d9) (H : dp ≤ 6 → ∀ (J : zJ) (m : Int) (g : zJ) (C : CT J m) (hm : J 6 12 = m) (hD : RD2 J) (hX : XC J g) (hS : SI g), tz_Ok l G M_X5_readTerm d9 0 0 [.ref 163, zi (dp + 1)] n J (zqi (fun z J' => ∃ m', RT J' J m m' ∧ (J' 163 8 = 0 → 0 ≤ z ∧ z < m') ∧ XC J' (pT k9 g (dp + 1)).1 ∧ VQ z (pT k9 g (dp + 1)))) zN) (m : Int) (g : zJ) (C : CT J m) (hm : J 6 12 = m) (hD : RD2 J) (hX : XC J g) (hS : SI g) (hN : ¬ g 0 4 = 99) : tz_Ok l G M_X5_readTerm (d9 + 3) 0 0 [.ref 163, zi dp] n J (zqi (fun z J' => ∃ m', RT J' J m m' ∧ (J' 163 8 = 0 → 0 ≤ z ∧ z < m') ∧ XC J' (pT (k9 + 1) g dp).1 ∧ VQ z (pT (k9 + 1) g dp))) zN := by
  refine tz_Ok.of hl (by decide +kernel) rfl (tb_c1 rfl) (Nat.le_of_ble_eq_true rfl) ?_
  show tz_At l G M_X5_readTerm (tb_rm (d9 + 3) 0 0) none (tb_ZM G 0 0 (zQ n 0 (zqi (fun z J' => ∃ m', RT J' J m m' ∧ (J' 163 8 = 0 → 0 ≤ z ∧ z < m') ∧ XC J' (pT (k9 + 1) g dp).1 ∧ VQ z (pT (k9 + 1) g dp)))) (zX n 0 zN)) 0 0 n J 0 [some (.ref 163), some (zi dp)] []
  have g0 : RT J J m m := RT.rf C hm hD
  obtain ⟨⟨⟨hD1, hD2⟩, hD3, hD4⟩, hD5⟩ := id hD
  refine tz_aload_n (pc := 0) dX5_readTerm_0 rfl rfl ?_
  refine tz_fI (pc := 1) (kz := 8) (v := (J 163 8)) dX5_readTerm_1 fl_X5_24 i_163_8 rfl rfl (fun r_1 => ?_)
  refine tz_if_eq (pc := 4) (tgt := 9) dX5_readTerm_4 (by decide) (by omega) (fun h_4 => ?_) (fun h_4 => ?_)
  · refine tz_aload_n (pc := 9) dX5_readTerm_9 rfl rfl ?_
    refine tz_fI (pc := 10) (kz := 5) (v := (J 163 5)) dX5_readTerm_10 fl_X5_15 i_163_5 rfl rfl (fun r_10 => ?_)
    refine tz_bipush (pc := 13) dX5_readTerm_13 (by decide) ?_
    refine tz_icmp_eq (pc := 15) (tgt := 32) dX5_readTerm_15 (by decide) (by omega) (by decide) (fun h_15 => ?_) (fun h_15 => ?_)
    · refine tz_iload_n (pc := 32) dX5_readTerm_32 rfl rfl ?_
      refine tz_bipush (pc := 33) dX5_readTerm_33 (by decide) ?_
      refine tz_icmp_le (pc := 35) (tgt := 44) dX5_readTerm_35 (by decide) (by omega) (by decide) (fun h_35 => ?_) (fun h_35 => ?_)
      · refine tz_aload_n (pc := 44) dX5_readTerm_44 rfl rfl ?_
        refine tz_fI (pc := 45) (kz := 5) (v := (J 163 5)) dX5_readTerm_45 fl_X5_15 i_163_5 rfl rfl (fun r_45 => ?_)
        refine tz_bipush (pc := 48) dX5_readTerm_48 (by decide) ?_
        refine tz_icmp_ne (pc := 50) (tgt := 60) dX5_readTerm_50 (by decide) (by omega) (by decide) (fun h_50 => ?_) (fun h_50 => ?_)
        · refine tz_aload_n (pc := 60) dX5_readTerm_60 rfl rfl ?_
          refine tz_iload_n (pc := 61) dX5_readTerm_61 rfl rfl ?_
          refine tz_cV (pc := 62) (w_readComp hl n _ _ (by omega) (pT k9) (SI.t k9) (fun g d q => pT_f q) d9 hd9 (H (by omega)) m g C hm hD hX hS (hX.nz hN (by omega)).1 (by omega) (by omega)) vl_X5_174 dX5_readTerm_62 o_163 rfl rfl (Nat.le_of_ble_eq_true rfl) ⟨(show (d9 + 2) + 1 ≤ d9 + 3 by omega), (show 8 + (7 + 11) + 40 * ((d9 + 2)) ≤ 40 * (d9 + 3) by omega)⟩ rfl rfl (Nat.le_of_ble_eq_true rfl) (Nat.le_of_ble_eq_true rfl) (fun r9 J_62 hq9 => ?_)
          obtain ⟨z_62, rfl, hz_62, m_62, q_62, u_62, x_62, y_62⟩ := hq9
          exact tz_iret (pc := 65) (z := z_62) dX5_readTerm_65 rfl (Nat.le_of_ble_eq_true rfl) (Nat.le_of_ble_eq_true rfl) ⟨Nat.le_refl _, Nat.le_add_right _ _⟩ ⟨_, rfl, (by omega), (by rw [pT_k (hX.nz hN (by omega)).1 (by rw [(hX.nz hN (by omega)).2]; omega) (by omega)]; exact ⟨m_62, q_62, u_62, x_62, y_62⟩)⟩
        · refine tz_aload_n (pc := 53) dX5_readTerm_53 rfl rfl ?_
          refine tz_cV (pc := 54) (w_readVar hl n _ m g C hm hD hX hS (hX.nz hN (by omega)).1) vl_X5_171 dX5_readTerm_54 o_163 rfl rfl (Nat.le_of_ble_eq_true rfl) ⟨(show 4 + 1 ≤ d9 + 3 by omega), (show 8 + (2 + 11) + 40 * (4) ≤ 40 * (d9 + 3) by omega)⟩ rfl rfl (Nat.le_of_ble_eq_true rfl) (Nat.le_of_ble_eq_true rfl) (fun r9 J_54 hq9 => ?_)
          obtain ⟨z_54, rfl, hz_54, m_54, q_54, u_54, x_54, y_54⟩ := hq9
          refine tz_goto (pc := 57) (tgt := 65) dX5_readTerm_57 (by decide) ?_
          exact tz_iret (pc := 65) (z := z_54) dX5_readTerm_65 rfl (Nat.le_of_ble_eq_true rfl) (Nat.le_of_ble_eq_true rfl) ⟨Nat.le_refl _, Nat.le_add_right _ _⟩ ⟨_, rfl, (by omega), (by rw [pT_v (hX.nz hN (by omega)).1 (by rw [(hX.nz hN (by omega)).2]; omega) (by omega)]; exact ⟨m_54, q_54, u_54, x_54, y_54⟩)⟩
      · refine tz_aload_n (pc := 38) dX5_readTerm_38 rfl rfl ?_
        refine tz_iconst (pc := 39) dX5_readTerm_39 ?_
        refine tz_cV (pc := 40) (w_fail hl n _ _ (by decide) g (by decide) hX) vl_X5_97 dX5_readTerm_40 o_163 rfl rfl (Nat.le_of_ble_eq_true rfl) ⟨(show 0 + 1 ≤ d9 + 3 by omega), (show 8 + (2 + 11) + 40 * (0) ≤ 40 * (d9 + 3) by omega)⟩ rfl rfl (Nat.le_of_ble_eq_true rfl) (Nat.le_of_ble_eq_true rfl) (fun r9 J_40 hq9 => ?_)
        obtain ⟨z_40, rfl, hz_40, g_40, d_40, e_40, v_40, x_40⟩ := hq9
        have q_40 := RT.rn g0 g_40 (d_40 (g0).2.1)
        exact tz_iret (pc := 43) (z := z_40) dX5_readTerm_43 rfl (Nat.le_of_ble_eq_true rfl) (Nat.le_of_ble_eq_true rfl) ⟨Nat.le_refl _, Nat.le_add_right _ _⟩ ⟨_, rfl, (by omega), ⟨m, q_40, fun k => absurd k v_40, by rw [pT_2 (hX.nz hN (by omega)).1 (by rw [(hX.nz hN (by omega)).2]; omega) (by omega)]; exact x_40, fun k => by rw [pT_2 (hX.nz hN (by omega)).1 (by rw [(hX.nz hN (by omega)).2]; omega) (by omega)] at k; exact absurd k (pFx_n (by decide))⟩⟩
    · refine tz_aload_n (pc := 18) dX5_readTerm_18 rfl rfl ?_
      refine tz_fI (pc := 19) (kz := 5) (v := (J 163 5)) dX5_readTerm_19 fl_X5_15 i_163_5 rfl rfl (fun r_19 => ?_)
      refine tz_iconst (pc := 22) dX5_readTerm_22 ?_
      refine tz_icmp_eq (pc := 23) (tgt := 32) dX5_readTerm_23 (by decide) (by omega) (by decide) (fun h_23 => ?_) (fun h_23 => ?_)
      · refine tz_iload_n (pc := 32) dX5_readTerm_32 rfl rfl ?_
        refine tz_bipush (pc := 33) dX5_readTerm_33 (by decide) ?_
        refine tz_icmp_le (pc := 35) (tgt := 44) dX5_readTerm_35 (by decide) (by omega) (by decide) (fun h_35 => ?_) (fun h_35 => ?_)
        · refine tz_aload_n (pc := 44) dX5_readTerm_44 rfl rfl ?_
          refine tz_fI (pc := 45) (kz := 5) (v := (J 163 5)) dX5_readTerm_45 fl_X5_15 i_163_5 rfl rfl (fun r_45 => ?_)
          refine tz_bipush (pc := 48) dX5_readTerm_48 (by decide) ?_
          refine tz_icmp_ne (pc := 50) (tgt := 60) dX5_readTerm_50 (by decide) (by omega) (by decide) (fun h_50 => ?_) (fun h_50 => ?_)
          · refine tz_aload_n (pc := 60) dX5_readTerm_60 rfl rfl ?_
            refine tz_iload_n (pc := 61) dX5_readTerm_61 rfl rfl ?_
            refine tz_cV (pc := 62) (w_readComp hl n _ _ (by omega) (pT k9) (SI.t k9) (fun g d q => pT_f q) d9 hd9 (H (by omega)) m g C hm hD hX hS (hX.nz hN (by omega)).1 (by omega) (by omega)) vl_X5_174 dX5_readTerm_62 o_163 rfl rfl (Nat.le_of_ble_eq_true rfl) ⟨(show (d9 + 2) + 1 ≤ d9 + 3 by omega), (show 8 + (7 + 11) + 40 * ((d9 + 2)) ≤ 40 * (d9 + 3) by omega)⟩ rfl rfl (Nat.le_of_ble_eq_true rfl) (Nat.le_of_ble_eq_true rfl) (fun r9 J_62 hq9 => ?_)
            obtain ⟨z_62, rfl, hz_62, m_62, q_62, u_62, x_62, y_62⟩ := hq9
            exact tz_iret (pc := 65) (z := z_62) dX5_readTerm_65 rfl (Nat.le_of_ble_eq_true rfl) (Nat.le_of_ble_eq_true rfl) ⟨Nat.le_refl _, Nat.le_add_right _ _⟩ ⟨_, rfl, (by omega), (by rw [pT_k (hX.nz hN (by omega)).1 (by rw [(hX.nz hN (by omega)).2]; omega) (by omega)]; exact ⟨m_62, q_62, u_62, x_62, y_62⟩)⟩
          · refine tz_aload_n (pc := 53) dX5_readTerm_53 rfl rfl ?_
            refine tz_cV (pc := 54) (w_readVar hl n _ m g C hm hD hX hS (hX.nz hN (by omega)).1) vl_X5_171 dX5_readTerm_54 o_163 rfl rfl (Nat.le_of_ble_eq_true rfl) ⟨(show 4 + 1 ≤ d9 + 3 by omega), (show 8 + (2 + 11) + 40 * (4) ≤ 40 * (d9 + 3) by omega)⟩ rfl rfl (Nat.le_of_ble_eq_true rfl) (Nat.le_of_ble_eq_true rfl) (fun r9 J_54 hq9 => ?_)
            obtain ⟨z_54, rfl, hz_54, m_54, q_54, u_54, x_54, y_54⟩ := hq9
            refine tz_goto (pc := 57) (tgt := 65) dX5_readTerm_57 (by decide) ?_
            exact tz_iret (pc := 65) (z := z_54) dX5_readTerm_65 rfl (Nat.le_of_ble_eq_true rfl) (Nat.le_of_ble_eq_true rfl) ⟨Nat.le_refl _, Nat.le_add_right _ _⟩ ⟨_, rfl, (by omega), (by rw [pT_v (hX.nz hN (by omega)).1 (by rw [(hX.nz hN (by omega)).2]; omega) (by omega)]; exact ⟨m_54, q_54, u_54, x_54, y_54⟩)⟩
        · refine tz_aload_n (pc := 38) dX5_readTerm_38 rfl rfl ?_
          refine tz_iconst (pc := 39) dX5_readTerm_39 ?_
          refine tz_cV (pc := 40) (w_fail hl n _ _ (by decide) g (by decide) hX) vl_X5_97 dX5_readTerm_40 o_163 rfl rfl (Nat.le_of_ble_eq_true rfl) ⟨(show 0 + 1 ≤ d9 + 3 by omega), (show 8 + (2 + 11) + 40 * (0) ≤ 40 * (d9 + 3) by omega)⟩ rfl rfl (Nat.le_of_ble_eq_true rfl) (Nat.le_of_ble_eq_true rfl) (fun r9 J_40 hq9 => ?_)
          obtain ⟨z_40, rfl, hz_40, g_40, d_40, e_40, v_40, x_40⟩ := hq9
          have q_40 := RT.rn g0 g_40 (d_40 (g0).2.1)
          exact tz_iret (pc := 43) (z := z_40) dX5_readTerm_43 rfl (Nat.le_of_ble_eq_true rfl) (Nat.le_of_ble_eq_true rfl) ⟨Nat.le_refl _, Nat.le_add_right _ _⟩ ⟨_, rfl, (by omega), ⟨m, q_40, fun k => absurd k v_40, by rw [pT_2 (hX.nz hN (by omega)).1 (by rw [(hX.nz hN (by omega)).2]; omega) (by omega)]; exact x_40, fun k => by rw [pT_2 (hX.nz hN (by omega)).1 (by rw [(hX.nz hN (by omega)).2]; omega) (by omega)] at k; exact absurd k (pFx_n (by decide))⟩⟩
      · refine tz_aload_n (pc := 26) dX5_readTerm_26 rfl rfl ?_
        refine tz_iconst (pc := 27) dX5_readTerm_27 ?_
        refine tz_cV (pc := 28) (w_fail hl n _ _ (by decide) g (by decide) hX) vl_X5_97 dX5_readTerm_28 o_163 rfl rfl (Nat.le_of_ble_eq_true rfl) ⟨(show 0 + 1 ≤ d9 + 3 by omega), (show 8 + (2 + 11) + 40 * (0) ≤ 40 * (d9 + 3) by omega)⟩ rfl rfl (Nat.le_of_ble_eq_true rfl) (Nat.le_of_ble_eq_true rfl) (fun r9 J_28 hq9 => ?_)
        obtain ⟨z_28, rfl, hz_28, g_28, d_28, e_28, v_28, x_28⟩ := hq9
        have q_28 := RT.rn g0 g_28 (d_28 (g0).2.1)
        exact tz_iret (pc := 31) (z := z_28) dX5_readTerm_31 rfl (Nat.le_of_ble_eq_true rfl) (Nat.le_of_ble_eq_true rfl) ⟨Nat.le_refl _, Nat.le_add_right _ _⟩ ⟨_, rfl, (by omega), ⟨m, q_28, fun k => absurd k v_28, by rw [pT_1 (hX.nz hN (by omega)).1 (by rw [(hX.nz hN (by omega)).2]; omega)]; exact x_28, fun k => by rw [pT_1 (hX.nz hN (by omega)).1 (by rw [(hX.nz hN (by omega)).2]; omega)] at k; exact absurd k (pFx_n (by decide))⟩⟩
  · refine tz_iconst (pc := 7) dX5_readTerm_7 ?_
    exact tz_iret (pc := 8) (z := (-1)) dX5_readTerm_8 rfl (Nat.le_of_ble_eq_true rfl) (Nat.le_of_ble_eq_true rfl) ⟨Nat.le_refl _, Nat.le_add_right _ _⟩ ⟨_, rfl, (by decide), ⟨m, g0, fun q => by omega, by rw [pT_f (hX.no (by omega))]; exact hX, fun q => by rw [pT_f (hX.no (by omega))] at q; exact absurd q (hX.no (by omega))⟩⟩

theorem w_readTermR {l : Launch} {G : tb_G} (hl : l.stackTraces = false) (n : Nat) : ∀ (r9 : Nat) (J : zJ) (dp : Int) (hr_dp : -2147483648 ≤ dp ∧ dp < 2147483648) (m : Int) (g : zJ) (C : CT J m) (hm : J 6 12 = m) (hD : RD2 J) (hX : XC J g) (hS : SI g), ((7 - dp).toNat) < r9 → tz_Ok l G M_X5_readTerm (10 + 3 * r9) 0 0 [.ref 163, zi dp] n J (zqi (fun z J' => ∃ m', RT J' J m m' ∧ (J' 163 8 = 0 → 0 ≤ z ∧ z < m') ∧ XC J' (pT r9 g dp).1 ∧ VQ z (pT r9 g dp))) zN
  | 0, J, dp, _, m, g, _, _, _, _, _, h => absurd h (Nat.not_lt_zero _)
  | r9 + 1, J, dp, hr, m, g, C, hm, hD, hX, hS, h => by
    by_cases q : g 0 4 = 99
    · exact (c_readTermR hl n (r9 + 1) J dp hr m C hm hD h).mono (fun r J' _ ⟨z, a, b, m', c, d⟩ => ⟨z, a, b, m', c, d, by rw [pT_f (by omega)]; exact Or.inl q, fun k => by rw [pT_f (by omega)] at k; exact absurd k (by show ¬ g 0 4 = 0; omega)⟩) (fun _ _ _ h => h)
    · exact w_readTerm1 hl n J dp hr r9 (10 + 3 * r9) (by omega) (fun u J m g a b c d e => w_readTermR hl n r9 J (dp + 1) (by omega) m g a b c d e (by omega)) m g C hm hD hX hS q
theorem w_readTerm {l : Launch} {G : tb_G} (hl : l.stackTraces = false) (n : Nat) (J : zJ) (m : Int) (g : zJ) (C : CT J m) (hm : J 6 12 = m) (hD : RD2 J) (hX : XC J g) (hS : SI g) : tz_Ok l G M_X5_readTerm 34 0 0 [.ref 163, zi 1] n J (zqi (fun z J' => ∃ m', RT J' J m m' ∧ (J' 163 8 = 0 → 0 ≤ z ∧ z < m') ∧ XC J' (pT 8 g 1).1 ∧ VQ z (pT 8 g 1))) zN := w_readTermR hl n 8 J 1 (by decide) m g C hm hD hX hS (by decide)
end
section
/-! ===== the class follows the reading: clauses ===== -/
/-- what a clause leaves; nothing is tried afterwards, if it was so before -/
def RQ6 (J' J : zJ) (m m' : Int) : Prop := (CT J' m' ∧ J' 6 12 = m' ∧ LI (J' 19) m' ∧ RD2 J') ∧ (zOf (zbut [1, 2, 3, 4, 6, 7, 8, 9, 10, 11, 12, 13, 14, 15, 16, 17, 19, 156, 157, 163]) J' J ∧ J' 156 3 = J 156 3)
theorem RQ6.q {J' J : zJ} {m m' : Int} (h : RQ6 J' J m m') : RQ J' J m m' := ⟨h.1, h.2.1⟩
theorem RQ6.rf {J : zJ} {m : Int} (C : CT J m) (hm : J 6 12 = m) (hL : LI (J 19) m) (hD : RD2 J) : RQ6 J J m m := ⟨⟨C, hm, hL, hD⟩, zOf.rf, rfl⟩
theorem RQ6.rt {J2 J1 J : zJ} {m m1 m2 : Int} (g : RQ6 J1 J m m1) (h : RT J2 J1 m1 m2) : RQ6 J2 J m m2 := ⟨(g.q.rt h).1, (g.q.rt h).2, (congrFun (h.1.2.2.2.2 156 rfl) 3).trans g.2.2⟩
theorem RQ6.rn {J2 J1 J : zJ} {m m1 : Int} (g : RQ6 J1 J m m1) (h : RN J2 J1) (hD : RD2 J2) : RQ6 J2 J m m1 := ⟨(g.q.rn h hD).1, (g.q.rn h hD).2, (congrFun (h.1 156 rfl) 3).trans g.2.2⟩
theorem RQ6.or {J2 J1 J : zJ} {m m1 : Int} (g : RQ6 J1 J m m1) (h : zOf (zbut [156, 157]) J2 J1) (h3 : J2 156 3 = J1 156 3) : RQ6 J2 J m m1 := ⟨(g.q.or h).1, (g.q.or h).2, h3.trans g.2.2⟩
theorem RQ6.led {J2 J1 J : zJ} {m m1 : Int} (g : RQ6 J1 J m m1) (h : zOf (zbut [19]) J2 J1) (hL : LI (J2 19) m1) : RQ6 J2 J m m1 := ⟨(g.q.led h hL).1, (g.q.led h hL).2, (congrFun (h 156 rfl) 3).trans g.2.2⟩
theorem RQ6.tr {J3 J2 J1 : zJ} {m1 m2 m3 : Int} (g : RQ6 J2 J1 m1 m2) (h : RQ6 J3 J2 m2 m3) : RQ6 J3 J1 m1 m3 := ⟨h.1, h.2.1.tr g.2.1, h.2.2.trans g.2.2⟩
theorem pP_n {g : zJ} {c : Int} (h : g 0 4 = 0) (h3 : g 0 3 = c) : pP g c = pN g := by unfold pP; rw [if_pos h, if_pos h3]
theorem pP_e {g : zJ} {c : Int} (h : g 0 4 = 0) (h3 : ¬ g 0 3 = c) : pP g c = pF g 1 := by unfold pP; rw [if_pos h, if_neg h3]
/-- a fault at the sign: what was added before it doesn't matter -/
theorem XC.addf {J S S' : zJ} (h : XC J (pP S 59)) (h0 : ¬ J 163 8 = 0) (e0 : S' 0 = S 0) : XC J (pP (if S 0 4 = 0 then S' else S) 59) := by
  by_cases q : S 0 4 = 0
  · rw [if_pos q]
    have q' : S' 0 4 = 0 := by rw [e0]; exact q
    by_cases p : S 0 3 = 59
    · rw [pP_n q p] at h
      exact absurd q (h.no h0)
    · rw [pP_e q p] at h
      rw [pP_e q' (by rw [e0]; exact p)]
      rcases h with k | ⟨k1, k2, k3⟩
      · exact absurd k (by show ¬ (1 : Int) = 99; decide)
      · refine Or.inr ⟨k1, fun u => ?_, fun u => absurd u (by show ¬ (1 : Int) = 0; decide)⟩
        show J 163 9 = S' 0 1
        rw [e0]
        exact k2 (by show ¬ (1 : Int) = 0; decide)
  · rw [if_neg q]
    exact h
theorem XC.addz {J'' J S S' : zJ} (h : XC J (pP S 59)) (h0 : J 163 8 = 0) (e0 : S' 0 = S 0) (e1 : S' 1 = S 1) (f : ∀ k, ¬ k = 10 → J'' 163 k = J 163 k) (f2 : J'' 162 = J 162) (ha : S 0 4 = 0 → J 163 10 = S 164 45 → ET J S → J'' 163 10 = S' 164 45 ∧ ET J'' S') : XC J'' (pP (if S 0 4 = 0 then S' else S) 59) := by
  by_cases q : S 0 4 = 0
  · rw [if_pos q]
    have q' : S' 0 4 = 0 := by rw [e0]; exact q
    by_cases p : S 0 3 = 59
    · rw [pP_n q p] at h
      rw [pP_n q' (by rw [e0]; exact p)]
      rcases h with k | ⟨k1, k2, k3⟩
      · have k' : S 0 4 = 99 := k
        omega
      · obtain ⟨⟨a1, a2, a3⟩, b1, b2, b3, b4⟩ := k3 q
        rw [pN_c (by decide)] at b2 b3
        obtain ⟨r1, r2⟩ := ha q b3 (b4.g (fun c hc => (pN_c hc).symm))
        have n0 : ∀ k, pN S' 0 k = pN S 0 k := fun k => by rw [pN0, pN0, e0, e1]
        refine Or.inr ⟨?_, fun u => absurd q' u, fun _ => ⟨⟨?_, ?_, ?_⟩, ?_, ?_, ?_, r2.g (fun c hc => pN_c hc)⟩⟩
        · rw [f 8 (by decide), n0]; exact k1
        · rw [f 6 (by decide), n0]; exact a1
        · rw [f 5 (by decide), n0]; exact a2
        · rw [f 7 (by decide), n0]; exact a3
        · rw [f 4 (by decide), n0]; exact b1
        · rw [f2, pN_c (by decide), e1]; exact b2
        · rw [pN_c (by decide)]; exact r1
    · rw [pP_e q p] at h
      rcases h with k | ⟨k1, k2, k3⟩
      · exact absurd k (by show ¬ (1 : Int) = 99; decide)
      · exact absurd (k1.symm.trans h0) (by show ¬ (1 : Int) = 0; decide)
  · rw [if_neg q, pP_f q]
    rw [pP_f q] at h
    rcases h.bad h0 with k | ⟨k, _⟩
    · exact Or.inl k
    · exact absurd k q
theorem ET.room {J S : zJ} {x : Int} (E : ET J S) (h4 : J 19 4 ≤ 8) (h5 : J 19 5 ≤ 12) : ET (zup (zup (zup J 19 1 x) 19 6 0) 163 10 1) (zup (zup S 165 165 x) 164 45 1) := by
  obtain ⟨E1, E2, ⟨E4, E5⟩, ⟨E6, E7⟩, E8⟩ := E
  have e : ∀ k, zup (zup (zup J 19 1 x) 19 6 0) 163 10 1 19 k = if k = 6 then 0 else if k = 1 then x else J 19 k := fun _ => rfl
  have e' : ∀ k, zup (zup S 165 165 x) 164 45 1 165 k = if k = 165 then x else S 165 k := fun _ => rfl
  refine ⟨E1, E2, ⟨E4, fun i p q => ?_⟩, ⟨E6, fun i p q => ?_⟩, rfl, ⟨by rw [e, e', if_neg (by decide), if_neg (by decide), if_neg (by decide)]; exact E8.2.1.1, by rw [e, e', if_neg (by decide), if_neg (by decide), if_neg (by decide)]; exact E8.2.1.2.1, by rw [e, if_pos rfl]⟩, fun v a b => by rw [e, e', if_neg (by omega), if_neg (by omega), if_neg (by omega)]; exact E8.2.2 v a b⟩
  · have q' : i < S 165 135 := q
    rw [e, e, e', e', if_neg (by omega), if_neg (by omega), if_neg (by omega), if_neg (by omega), if_neg (by omega), if_neg (by omega)]
    exact E5 i p q'
  · have q' : i < S 165 152 := q
    rw [e, e', if_neg (by omega), if_neg (by omega), if_neg (by omega)]
    exact E7 i p q'
theorem pRo_1 {g : zJ} {z : Int} (h : g 164 45 = 0) (nx9 : pNx g = pN g) (v : VQ z (pU (pNx g) 0 9)) : pRo g = if (pU (pNx g) 0 9).1 0 4 = 0 then zup (zup (pU (pNx g) 0 9).1 165 165 z) 164 45 1 else (pU (pNx g) 0 9).1 := by
  unfold pRo pO1
  rw [if_pos h, ← nx9]
  split
  · next q => rw [v q]
  · rfl
theorem pRo_2 {g : zJ} (h : ¬ g 164 45 = 0) (h9 : g 0 4 = 0) : pP (pRo g) 59 = pFx g 4 := by
  unfold pRo pFx
  rw [if_neg h, if_pos h9, pP_f (by show ¬ (4 : Int) = 0; decide)]
theorem XC.e {J g : zJ} (h : XC J g) (h9 : g 0 4 = 0) : EC J g := ((h.resolve_left (by omega)).2.2 h9).2
set_option maxHeartbeats 4000000 in
set_option maxRecDepth 100000 in
theorem w_readLone {l : Launch} {G : tb_G} (hl : l.stackTraces = false) (n : Nat) (J : zJ)   (m : Int) (g : zJ) (hnb : n ≤ tb_sc) (C : CT J m) (hm : J 6 12 = m) (hL : LI (J 19) m) (hD : RD2 J) (hX : XC J g) (hS : SI g) (h9 : g 0 4 = 0) : tz_Ok l G M_X5_readLoneTerm 35 0 0 [.ref 163] n J (zqv (fun J' => ∃ m', RQ6 J' J m m' ∧ XC J' (pP ((pR1 g).1) 59))) zN := by
  refine tz_Ok.of hl (by decide +kernel) rfl (tb_c1 rfl) (Nat.le_of_ble_eq_true rfl) ?_
  show tz_At l G M_X5_readLoneTerm (tb_rm 35 0 0) none (tb_ZM G 0 0 (zQ n 0 (zqv (fun J' => ∃ m', RQ6 J' J m m' ∧ XC J' (pP ((pR1 g).1) 59)))) (zX n 0 zN)) 0 0 n J 0 [some (.ref 163)] []
  have g0 : RQ6 J J m m := RQ6.rf C hm hL hD
  have h8 := hX.z h9
  have nx9 : pNx g = pN g := by unfold pNx; rw [if_pos h9]
  refine tz_aload_n (pc := 0) dX5_readLoneTerm_0 rfl rfl ?_
  have b_1 := (g0).1.2.2.2
  obtain ⟨⟨⟨b1_1, b2_1⟩, b3_1, b4_1⟩, b5_1⟩ := id b_1
  have t_1 := (g0).1.1.told
  refine tz_cV (pc := 1) (w_next hl n _ g b_1 hX (by omega)) vl_X5_65 dX5_readLoneTerm_1 o_163 rfl rfl (Nat.le_of_ble_eq_true rfl) ⟨(Nat.le_of_ble_eq_true rfl), (Nat.le_of_ble_eq_true rfl)⟩ rfl rfl (Nat.le_of_ble_eq_true rfl) (Nat.le_of_ble_eq_true rfl) (fun r9 J_1 hq9 => ?_)
  obtain ⟨rfl, g_1, d_1, v_1, x_1⟩ := hq9
  have q_1 := RQ6.rn g0 g_1 d_1
  have f_1 := g_1.2.2
  refine tz_aload_n (pc := 4) dX5_readLoneTerm_4 rfl rfl ?_
  refine tz_iconst (pc := 5) dX5_readLoneTerm_5 ?_
  refine tz_cV (pc := 6) (w_readTerm hl n _ m (pNx g) (q_1).1.1 (q_1).1.2.1 (q_1).1.2.2.2 x_1 (SI.nx hS)) vl_X5_113 dX5_readLoneTerm_6 o_163 rfl rfl (Nat.le_of_ble_eq_true rfl) ⟨(Nat.le_of_ble_eq_true rfl), (Nat.le_of_ble_eq_true rfl)⟩ rfl rfl (Nat.le_of_ble_eq_true rfl) (Nat.le_of_ble_eq_true rfl) (fun r9 J_6 hq9 => ?_)
  obtain ⟨z_6, rfl, hz_6, m_6, g_6, u_6, x_6, y_6⟩ := hq9
  have q_6 := RQ6.rt q_1 g_6
  have f_6 := g_6.2.2
  have l_6 := g_6.1.1
  refine tz_pop (pc := 9) dX5_readLoneTerm_9 rfl ?_
  refine tz_aload_n (pc := 10) dX5_readLoneTerm_10 rfl rfl ?_
  refine tz_bipush (pc := 11) dX5_readLoneTerm_11 (by decide) ?_
  have b_13 := (q_6).1.2.2.2
  obtain ⟨⟨⟨b1_13, b2_13⟩, b3_13, b4_13⟩, b5_13⟩ := id b_13
  have t_13 := (q_6).1.1.told
  refine tz_cV (pc := 13) (w_pass hl n _ _ (by decide) (pT 8 (pNx g) 1).1 b_13 x_6 (SI.t 8 _ 1 (SI.nx hS))) vl_X5_116 dX5_readLoneTerm_13 o_163 rfl rfl (Nat.le_of_ble_eq_true rfl) ⟨(Nat.le_of_ble_eq_true rfl), (Nat.le_of_ble_eq_true rfl)⟩ rfl rfl (Nat.le_of_ble_eq_true rfl) (Nat.le_of_ble_eq_true rfl) (fun r9 J_13 hq9 => ?_)
  obtain ⟨rfl, g_13, d_13, x_13⟩ := hq9
  have q_13 := RQ6.rn q_6 g_13 d_13
  have f_13 := g_13.2.2
  exact tz_vret (pc := 16) dX5_readLoneTerm_16 rfl (Nat.le_of_ble_eq_true rfl) (Nat.le_of_ble_eq_true rfl) ⟨Nat.le_refl _, Nat.le_add_right _ _⟩ ⟨rfl, ⟨m_6, q_13, by unfold pR1; rw [← nx9]; exact x_13⟩⟩

set_option maxHeartbeats 4000000 in
set_option maxRecDepth 100000 in
theorem w_readRoom {l : Launch} {G : tb_G} (hl : l.stackTraces = false) (n : Nat) (J : zJ)   (m : Int) (g : zJ) (hnb : n ≤ tb_sc) (C : CT J m) (hm : J 6 12 = m) (hL : LI (J 19) m) (hD : RD2 J) (hX : XC J g) (hS : SI g) (h9 : g 0 4 = 0) : tz_Ok l G M_X5_readRoom 3 0 0 [.ref 163] n J (zqv (fun J' => ∃ m', RQ6 J' J m m' ∧ XC J' (pP (pRo g) 59))) zN := by
  refine tz_Ok.of hl (by decide +kernel) rfl (tb_c1 rfl) (Nat.le_of_ble_eq_true rfl) ?_
  show tz_At l G M_X5_readRoom (tb_rm 3 0 0) none (tb_ZM G 0 0 (zQ n 0 (zqv (fun J' => ∃ m', RQ6 J' J m m' ∧ XC J' (pP (pRo g) 59)))) (zX n 0 zN)) 0 0 n J 0 [some (.ref 163), none] []
  have g0 : RQ6 J J m m := RQ6.rf C hm hL hD
  have h8 := hX.z h9
  have nx9 : pNx g = pN g := by unfold pNx; rw [if_pos h9]
  refine tz_aload_n (pc := 0) dX5_readRoom_0 rfl rfl ?_
  refine tz_fI (pc := 1) (kz := 10) (v := (J 163 10)) dX5_readRoom_1 fl_X5_30 i_163_10 rfl rfl (fun r_1 => ?_)
  refine tz_if_eq (pc := 4) (tgt := 14) dX5_readRoom_4 (by decide) (by omega) (fun h_4 => ?_) (fun h_4 => ?_)
  · refine tz_aload_n (pc := 14) dX5_readRoom_14 rfl rfl ?_
    have b_15 := (g0).1.2.2.2
    obtain ⟨⟨⟨b1_15, b2_15⟩, b3_15, b4_15⟩, b5_15⟩ := id b_15
    have t_15 := (g0).1.1.told
    refine tz_cV (pc := 15) (w_next hl n _ g b_15 hX (by omega)) vl_X5_65 dX5_readRoom_15 o_163 rfl rfl (Nat.le_of_ble_eq_true rfl) ⟨(Nat.le_of_ble_eq_true rfl), (Nat.le_of_ble_eq_true rfl)⟩ rfl rfl (Nat.le_of_ble_eq_true rfl) (Nat.le_of_ble_eq_true rfl) (fun r9 J_15 hq9 => ?_)
    obtain ⟨rfl, g_15, d_15, v_15, x_15⟩ := hq9
    have q_15 := RQ6.rn g0 g_15 d_15
    have f_15 := g_15.2.2
    refine tz_aload_n (pc := 18) dX5_readRoom_18 rfl rfl ?_
    refine tz_iconst (pc := 19) dX5_readRoom_19 ?_
    refine tz_bipush (pc := 20) dX5_readRoom_20 (by decide) ?_
    have b_22 := (q_15).1.2.2.2
    obtain ⟨⟨⟨b1_22, b2_22⟩, b3_22, b4_22⟩, b5_22⟩ := id b_22
    have t_22 := (q_15).1.1.told
    refine tz_cV (pc := 22) (w_readNum hl n _ _ _ (by decide) (by decide) (pNx g) b_22 x_15 (SI.nx hS) (Or.inl rfl) (by decide)) vl_X5_128 dX5_readRoom_22 o_163 rfl rfl (Nat.le_of_ble_eq_true rfl) ⟨(Nat.le_of_ble_eq_true rfl), (Nat.le_of_ble_eq_true rfl)⟩ rfl rfl (Nat.le_of_ble_eq_true rfl) (Nat.le_of_ble_eq_true rfl) (fun r9 J_22 hq9 => ?_)
    obtain ⟨z_22, rfl, hz_22, g_22, d_22, u_22, x_22, y_22⟩ := hq9
    have q_22 := RQ6.rn q_15 g_22 d_22
    have f_22 := g_22.2.2
    refine tz_istore_n (pc := 25) (L2 := [_, _]) dX5_readRoom_25 rfl (by decide) rfl ?_
    refine tz_aload_n (pc := 26) dX5_readRoom_26 rfl rfl ?_
    refine tz_bipush (pc := 27) dX5_readRoom_27 (by decide) ?_
    have b_29 := (q_22).1.2.2.2
    obtain ⟨⟨⟨b1_29, b2_29⟩, b3_29, b4_29⟩, b5_29⟩ := id b_29
    have t_29 := (q_22).1.1.told
    refine tz_cV (pc := 29) (w_pass hl n _ _ (by decide) (pU (pNx g) 0 9).1 b_29 x_22 (SI.u (SI.nx hS))) vl_X5_116 dX5_readRoom_29 o_163 rfl rfl (Nat.le_of_ble_eq_true rfl) ⟨(Nat.le_of_ble_eq_true rfl), (Nat.le_of_ble_eq_true rfl)⟩ rfl rfl (Nat.le_of_ble_eq_true rfl) (Nat.le_of_ble_eq_true rfl) (fun r9 J_29 hq9 => ?_)
    obtain ⟨rfl, g_29, d_29, x_29⟩ := hq9
    have q_29 := RQ6.rn q_22 g_29 d_29
    have f_29 := g_29.2.2
    refine tz_aload_n (pc := 32) dX5_readRoom_32 rfl rfl ?_
    refine tz_fI (pc := 33) (kz := 8) (v := (J_29 163 8)) dX5_readRoom_33 fl_X5_24 i_163_8 rfl rfl (fun r_33 => ?_)
    refine tz_if_ne (pc := 36) (tgt := 55) dX5_readRoom_36 (by decide) (by omega) (fun h_36 => ?_) (fun h_36 => ?_)
    · exact tz_vret (pc := 55) dX5_readRoom_55 rfl (Nat.le_of_ble_eq_true rfl) (Nat.le_of_ble_eq_true rfl) ⟨Nat.le_refl _, Nat.le_add_right _ _⟩ ⟨rfl, ⟨m, q_29, by rw [pRo_1 (by have := (hX.e h9).2.2.1; omega) nx9 y_22]; exact XC.addf x_29 (by omega) rfl⟩⟩
    · refine tz_aload_n (pc := 39) dX5_readRoom_39 rfl rfl ?_
      refine tz_fR (pc := 40) dX5_readRoom_40 fl_X5_38 r_163_1 ?_
      refine tz_fR (pc := 43) dX5_readRoom_43 fl_X5_138 r_5_1 ?_
      refine tz_iload_n (pc := 46) dX5_readRoom_46 rfl rfl ?_
      have w_47 := (q_29).1.2.2.1.1
      refine tz_cV (pc := 47) (c_tellRoom hl n _ _ (by omega)) vl_X5_168 dX5_readRoom_47 o_18 rfl rfl (Nat.le_of_ble_eq_true rfl) ⟨(Nat.le_of_ble_eq_true rfl), (Nat.le_of_ble_eq_true rfl)⟩ rfl rfl (Nat.le_of_ble_eq_true rfl) (Nat.le_of_ble_eq_true rfl) (fun r9 J_47 hq9 => ?_)
      obtain ⟨rfl, j_47⟩ := hq9
      have k_47 : zOf (zbut [19]) J_47 J_29 := by rw [← j_47]; exact zOf.up rfl (zOf.up rfl zOf.rf)
      have q_47 := RQ6.led q_29 k_47 (by rw [← j_47]; exact (q_29).1.2.2.1.room (by omega))
      refine tz_aload_n (pc := 50) dX5_readRoom_50 rfl rfl ?_
      refine tz_iconst (pc := 51) dX5_readRoom_51 ?_
      refine tz_pZ (pc := 52) (kz := 10) dX5_readRoom_52 fl_X5_30 i_163_10 rfl rfl (Or.inr rfl) ?_
      exact tz_vret (pc := 55) dX5_readRoom_55 rfl (Nat.le_of_ble_eq_true rfl) (Nat.le_of_ble_eq_true rfl) ⟨Nat.le_refl _, Nat.le_add_right _ _⟩ ⟨rfl, ⟨m, (q_47).rn ⟨zOf.up rfl zOf.rf, rfl, id⟩ (q_47).1.2.2.2, by rw [pRo_1 (by have := (hX.e h9).2.2.1; omega) nx9 y_22, ← j_47]; exact XC.addz x_29 (by omega) rfl rfl (fun k hk => zup_ne hk) rfl (fun _ _ E => ⟨rfl, E.room w_47.2.1.2 w_47.2.2.1.2⟩)⟩⟩
  · refine tz_aload_n (pc := 7) dX5_readRoom_7 rfl rfl ?_
    refine tz_iconst (pc := 8) dX5_readRoom_8 ?_
    refine tz_cV (pc := 9) (w_fail hl n _ _ (by decide) g (by decide) hX) vl_X5_97 dX5_readRoom_9 o_163 rfl rfl (Nat.le_of_ble_eq_true rfl) ⟨(Nat.le_of_ble_eq_true rfl), (Nat.le_of_ble_eq_true rfl)⟩ rfl rfl (Nat.le_of_ble_eq_true rfl) (Nat.le_of_ble_eq_true rfl) (fun r9 J_9 hq9 => ?_)
    obtain ⟨z_9, rfl, hz_9, g_9, d_9, e_9, v_9, x_9⟩ := hq9
    have q_9 := RQ6.rn g0 g_9 (d_9 (g0).1.2.2.2)
    refine tz_pop (pc := 12) dX5_readRoom_12 rfl ?_
    exact tz_vret (pc := 13) dX5_readRoom_13 rfl (Nat.le_of_ble_eq_true rfl) (Nat.le_of_ble_eq_true rfl) ⟨Nat.le_refl _, Nat.le_add_right _ _⟩ ⟨rfl, ⟨m, q_9, by rw [pRo_2 (by have := (hX.e h9).2.2.1; omega) h9]; exact x_9⟩⟩

end
