/-! ===== solved of the reference, exact ===== -/
def WKR (J' : zJ) (z : Int) (F : zJ × Int) : Prop := (J' 164 21 = 0 → (tb0 J', z) = F) ∧ (¬ J' 164 21 = 0 → ¬ F.1 164 21 = 0)
theorem ms_vu {J : zJ} {s m a b : Int} (hM : MS J 0 0 0 s m) (ha : 0 ≤ a ∧ a < m) (hb : 0 ≤ b ∧ b < m) (h : J 166 (0 + a) < 0) (e : J 166 (0 + a) = J 166 (0 + b)) : a = b := by
  refine hM.2.2.2.2.2.2.2.2 a b ha.1 ha.2 hb.1 hb.2 ⟨e, fun i i0 iA => ?_⟩
  unfold arh at iA
  rw [if_pos (by show J 166 (0 + b) < 0; omega)] at iA
  omega
theorem tm_fv {J : zJ} {s m t v : Int} (hM : MS J 0 0 0 s m) (ht : 0 ≤ t ∧ t < m) (hv : 0 ≤ v) (e : J 166 (0 + t) = -1 - v) : ofi (tb0 J) (-1 - v) 0 0 0 = t ∧ (J 164 21 = 0 → tmO (tb0 J) (-1 - v) 0 0 0 = (tb0 J, t)) := by
  have hT := hM.told
  have hm : tb0 J 165 0 = m := hM.2.2.2.2.1
  have ar : oar (tb0 J) (-1 - v) = 0 := by unfold oar arh; rw [if_pos (by omega)]
  have q : ofi (tb0 J) (-1 - v) 0 0 0 = t := by
    unfold ofi
    rw [hm]
    refine fnB_eq ht.1 (by omega) (fun j a c => dcB_t (fun k => ?_)) (Or.inr (dcB_f (fun k => k ?_)))
    · have h6 := k.1
      rw [tb0_6, if_pos (by omega)] at h6
      have := ms_vu hM ht ⟨a, by omega⟩ (by omega) (e.trans h6.symm)
      omega
    · refine ⟨by rw [tb0_6, if_pos (by omega)]; exact e, fun y => ?_, fun y => ?_, fun y => ?_⟩ <;> omega
  refine ⟨q, fun f => ?_⟩
  unfold tmO
  rw [if_pos (show tb0 J 164 21 = 0 from f), q, hm, if_pos ht.2]
theorem gr_cu {ρ : Int → Int} {J Jd J0 J1 J2 J' : zJ} {s m t u z0 z1 z2 z : Int} {k : Nat} (hM : MS J 0 0 0 s m) (ht : 0 ≤ u ∧ u < m) (h : J 164 21 = 0) (e : zup J 164 21 0 = Jd) (hk : ¬ k = 0) (hv : ¬ J 166 (0 + u) < 0) (er : ρ t = u) (a0 : (0 < mar J 0 0 u ∧ (tb0 J0, z0) = grO ρ (k - 1) (tb0 Jd) (Jd 167 (3 * (0 + u) + 0))) ∨ (¬ 0 < mar J 0 0 u ∧ J0 = Jd ∧ z0 = 0)) (a1 : (1 < mar J 0 0 u ∧ (tb0 J1, z1) = grO ρ (k - 1) (tb0 J0) (J0 167 (3 * (0 + u) + 1))) ∨ (¬ 1 < mar J 0 0 u ∧ J1 = J0 ∧ z1 = 0)) (a2 : (2 < mar J 0 0 u ∧ (tb0 J2, z2) = grO ρ (k - 1) (tb0 J1) (J1 167 (3 * (0 + u) + 2))) ∨ (¬ 2 < mar J 0 0 u ∧ J2 = J1 ∧ z2 = 0)) (p : (tb0 J', z) = tmO (tb0 J2) (J 166 (0 + u)) z0 z1 z2) : (tb0 J', z) = grO ρ k (tb0 J) t := by
  have hT := hM.told
  have ed := tb0_2z e h
  obtain ⟨k, rfl⟩ : ∃ k', k = k' + 1 := ⟨k - 1, by omega⟩
  rw [show k + 1 - 1 = k from rfl] at a0 a1 a2
  rw [grO_s, if_pos (show tb0 J 164 21 = 0 from h), er, (hM.oa ht).1, if_neg hv]
  have w : ∀ (Q : zJ) (i : Int), 0 ≤ i → i < 3 → tb0 Q 167 (3 * (0 + u) + i) = Q 167 (3 * (0 + u) + i) := fun Q i a b => by rw [tb0_7, if_pos (by omega)]
  refine gm_end (A := mar J 0 0 u) (G0 := tb0 J0) (G1 := tb0 J1) (G2 := tb0 J2) (z0 := z0) (z1 := z1) (z2 := z2) ?_ ?_ ?_ ?_ p
  · have := (hM.oa ht).2
    rw [(hM.oa ht).1] at this
    exact this
  · rcases a0 with ⟨a, b⟩ | ⟨a, b, c⟩
    · refine Or.inl ⟨a, ?_⟩
      (try dsimp only)
      rw [← ed, w Jd 0 (by decide) (by decide)]
      exact b
    · exact Or.inr ⟨a, by rw [b, ed], c⟩
  · rcases a1 with ⟨a, b⟩ | ⟨a, b, c⟩
    · refine Or.inl ⟨a, ?_⟩
      (try dsimp only)
      rw [w J0 1 (by decide) (by decide)]
      exact b
    · exact Or.inr ⟨a, by rw [b], c⟩
  · rcases a2 with ⟨a, b⟩ | ⟨a, b, c⟩
    · refine Or.inl ⟨a, ?_⟩
      (try dsimp only)
      rw [w J1 2 (by decide) (by decide)]
      exact b
    · exact Or.inr ⟨a, by rw [b], c⟩
/-- an argument's stage, exact as long as there is room -/
def WST (ρ : Int → Int) (k : Nat) (u A i : Int) (J1 J0 : zJ) (z : Int) : Prop := (i < A ∧ WKR J1 z (grO ρ k (tb0 J0) (J0 167 (3 * (0 + u) + i))) ∧ (J1 164 21 = 0 → J0 164 21 = 0)) ∨ (¬ i < A ∧ J1 = J0 ∧ z = 0)
theorem WST.x {ρ : Int → Int} {k : Nat} {u A i z : Int} {J1 J0 : zJ} (h : WST ρ k u A i J1 J0 z) (f : J1 164 21 = 0) : J0 164 21 = 0 ∧ ((i < A ∧ (tb0 J1, z) = grO ρ k (tb0 J0) (J0 167 (3 * (0 + u) + i))) ∨ (¬ i < A ∧ J1 = J0 ∧ z = 0)) := by
  rcases h with ⟨a, b, c⟩ | ⟨a, b, c⟩
  · exact ⟨c f, Or.inl ⟨a, b.1 f⟩⟩
  · exact ⟨by rw [← b]; exact f, Or.inr ⟨a, b, c⟩⟩
theorem WST.g {ρ : Int → Int} {k : Nat} {u A i z : Int} {J1 J0 : zJ} (hu : 0 ≤ u ∧ u < 400) (hi : 0 ≤ i ∧ i < 3) (h : WST ρ k u A i J1 J0 z) (f0 : J0 164 21 = 0) : (J1 164 21 = 0 → gA (fun H i => grO ρ k H (H 167 (3 * (0 + u) + i))) (tb0 J0) A i = (tb0 J1, z)) ∧ (¬ J1 164 21 = 0 → ¬ (gA (fun H i => grO ρ k H (H 167 (3 * (0 + u) + i))) (tb0 J0) A i).1 164 21 = 0) := by
  have w : tb0 J0 167 (3 * (0 + u) + i) = J0 167 (3 * (0 + u) + i) := by rw [tb0_7, if_pos (by omega)]
  unfold gA
  rcases h with ⟨a, b, c⟩ | ⟨a, b, c⟩
  · rw [if_pos a]
    (try dsimp only)
    rw [w]
    exact ⟨fun f => (b.1 f).symm, b.2⟩
  · rw [if_neg a, b, c]
    exact ⟨fun _ => rfl, fun n => absurd f0 n⟩
theorem gr_cw {ρ : Int → Int} {J Jd J0 J1 J2 J' : zJ} {s m t u z0 z1 z2 z : Int} {k : Nat} (hM : MS J 0 0 0 s m) (ht : 0 ≤ u ∧ u < m) (h : J 164 21 = 0) (e : zup J 164 21 0 = Jd) (hk : ¬ k = 0) (hv : ¬ J 166 (0 + u) < 0) (er : ρ t = u) (a0 : WST ρ (k - 1) u (mar J 0 0 u) 0 J0 Jd z0) (a1 : WST ρ (k - 1) u (mar J 0 0 u) 1 J1 J0 z1) (a2 : WST ρ (k - 1) u (mar J 0 0 u) 2 J2 J1 z2) (p : (tb0 J', z) = tmO (tb0 J2) (J 166 (0 + u)) z0 z1 z2) : WKR J' z (grO ρ k (tb0 J) t) := by
  have hT := hM.told
  by_cases f2 : J2 164 21 = 0
  · obtain ⟨f1, b2⟩ := a2.x f2
    obtain ⟨f0, b1⟩ := a1.x f1
    obtain ⟨_, b0⟩ := a0.x f0
    have q := gr_cu hM ht h e hk hv er b0 b1 b2 p
    exact ⟨fun _ => q, fun n => by rw [← q]; exact n⟩
  · have fd : Jd 164 21 = 0 := by rw [← e]; exact zup_at
    have ed := tb0_2z e h
    have q : (tb0 J', z) = (tb0 J2, 0) := by rw [p, tmO_f (show ¬ tb0 J2 164 21 = 0 from f2)]
    have q1 : ¬ J' 164 21 = 0 := by
      have : tb0 J' 164 21 = tb0 J2 164 21 := by rw [(Prod.mk.inj q).1]
      exact fun y => f2 (this.symm.trans y)
    refine ⟨fun y => absurd y q1, fun _ => ?_⟩
    obtain ⟨k, rfl⟩ : ∃ k', k = k' + 1 := ⟨k - 1, by omega⟩
    rw [show k + 1 - 1 = k from rfl] at a0 a1 a2
    rw [grO_s, if_pos (show tb0 J 164 21 = 0 from h), er, (hM.oa ht).1, if_neg hv]
    have eA : oar (tb0 J) (J 166 (0 + u)) = mar J 0 0 u := by
      have := (hM.oa ht).2
      rw [(hM.oa ht).1] at this
      exact this
    refine gR_f ?_
    rw [eA]
    have hT9 : ∀ S i, ¬ S 164 21 = 0 → ¬ ((fun (H : zJ) (i : Int) => grO ρ k H (H 167 (3 * (0 + u) + i))) S i).1 164 21 = 0 := fun S i h => grO_f h
    obtain ⟨x0, y0⟩ := a0.g (by omega) (by decide) fd
    rw [ed] at x0 y0
    by_cases f0 : J0 164 21 = 0
    · have s1 : gst (fun H i => grO ρ k H (H 167 (3 * (0 + u) + i))) (tb0 J) (mar J 0 0 u) 1 = (tb0 J0, z0) := x0 f0
      obtain ⟨x1, y1⟩ := a1.g (by omega) (by decide) f0
      by_cases f1 : J1 164 21 = 0
      · have s2 : gst (fun H i => grO ρ k H (H 167 (3 * (0 + u) + i))) (tb0 J) (mar J 0 0 u) 2 = (tb0 J1, z1) := by rw [gst_s, s1]; exact x1 f1
        obtain ⟨x2, y2⟩ := a2.g (by omega) (by decide) f1
        rw [gst_s, s2]
        exact y2 f2
      · refine gst_f hT9 (i := 2) ?_ 1
        rw [gst_s, s1]
        exact y1 f1
    · exact gst_f hT9 (i := 1) (y0 f0) 2
/-- what classes are, as the reference has them -/
def mRHO (J : zJ) (m0 : Int) (ρ : Int → Int) : Prop := ∀ t, VN 400 m0 t → VN 400 m0 (ρ t) ∧ (J 178 (tp (J 177) t) = -1 → J 166 (0 + ρ t) = -1 - J 179 (tp (J 177) t)) ∧ (¬ J 178 (tp (J 177) t) = -1 → ρ t = J 178 (tp (J 177) t) ∧ 0 ≤ J 166 (0 + ρ t))
theorem mRHO.mg {rp : Int → Bool} {J' J : zJ} {s m m' m0 : Int} {ρ : Int → Int} (h : mRHO J m0 ρ) (hm : m0 ≤ m) (g : MG [] [] rp J' J 0 0 0 s m m') : mRHO J' m0 ρ := fun t ht => by
  have e7 : J' 177 = J 177 := g.2.2.1.2.2.2 177 rfl
  have e8 : J' 178 = J 178 := g.2.2.1.2.2.2 178 rfl
  have e9 : J' 179 = J 179 := g.2.2.1.2.2.2 179 rfl
  obtain ⟨a, b, c⟩ := h t ht
  rw [e7, e8, e9, (g.2.1 _ a.1.1 (by have := a.1; have := a.2; omega)).1.1]
  exact ⟨a, b, c⟩
set_option maxHeartbeats 4000000 in
set_option maxRecDepth 100000 in
theorem x_solvedR {l : Launch} {G : tb_G} (hl : l.stackTraces = false) (n : Nat) : ∀ (r9 : Nat) (J : zJ) (x : Int) (y : Int) (hr_x : -2147483648 ≤ x ∧ x < 2147483648) (hr_y : -2147483648 ≤ y ∧ y < 2147483648) (s m m0 : Int) (ρ : Int → Int) (hM : MS J 0 0 0 s m) (hs : J 164 9 = s) (hU : UF J 400 m0) (hm : m0 ≤ m) (hx : 0 ≤ x ∧ x < m0) (hy : 0 ≤ y ∧ y ≤ 7) (hρ : mRHO J m0 ρ), ((7 - y).toNat) < r9 → tz_Ok l G M_X12_solved (5 + 1 * r9) 0 0 [.ref 164, zi x, zi y] n J (zqi (fun z J' => ∃ m', MG [] [] (fun _ => false) J' J 0 0 0 s m m' ∧ (J' 164 21 = 0 → 0 ≤ z ∧ z < m') ∧ WKR J' z (grO ρ (7 - y).toNat (tb0 J) x))) zN := by
  intro r9
  induction r9 with
  | zero => intro J x y hr_x hr_y s m m0 ρ hM hs hU hm hx hy hρ hm9; exact absurd hm9 (Nat.not_lt_zero _)
  | succ r9 ih =>
    intro J x y hr_x hr_y s m m0 ρ hM hs hU hm hx hy hρ hm9
    refine tz_Ok.of hl (by decide +kernel) rfl (tb_c1 rfl) (Nat.le_of_ble_eq_true rfl) ?_
    show tz_At l G M_X12_solved (tb_rm (5 + 1 * (r9 + 1)) 0 0) none (tb_ZM G 0 0 (zQ n 0 (zqi (fun z J' => ∃ m', MG [] [] (fun _ => false) J' J 0 0 0 s m m' ∧ (J' 164 21 = 0 → 0 ≤ z ∧ z < m') ∧ WKR J' z (grO ρ (7 - y).toNat (tb0 J) x)))) (zX n 0 zN)) 0 0 n J 0 [some (.ref 164), some (zi x), some (zi y), none, none, none, none, none, none] []
    have hT := hM.told
    have hxv : VN 400 m0 x := ⟨by omega, by omega⟩
    have g0 : MG [] [] (fun _ => false) J J 0 0 0 s m m := MG.rf hM
    refine tz_aload_n (pc := 0) dX12_solved_0 rfl rfl ?_
    refine tz_iload_n (pc := 1) dX12_solved_1 rfl rfl ?_
    refine tz_cV (pc := 2) (x_top hl n _ _ (by omega) 400 m0 hU hxv) vl_X12_164 dX12_solved_2 o_164 rfl rfl (Nat.le_of_ble_eq_true rfl) ⟨(show 0 + 1 ≤ 5 + 1 * (r9 + 1) by omega), (show 8 + (3 + 11) + 40 * (0) ≤ 40 * (5 + 1 * (r9 + 1)) by omega)⟩ rfl rfl (Nat.le_of_ble_eq_true rfl) (Nat.le_of_ble_eq_true rfl) (fun r9 J_2 hq9 => ?_)
    obtain ⟨z_2, rfl, hz_2, rfl, v_2, b_2, t_2⟩ := hq9
    have a_2 := v_2.1
    have c_2 := v_2.2
    refine tz_istore_n (pc := 5) (L2 := [_, _, _, _, _, _, _, _, _]) dX12_solved_5 rfl (by decide) rfl ?_
    have ua := (hU.at a_2).2
    have va := c_2
    refine tz_aload_n (pc := 6) dX12_solved_6 rfl rfl ?_
    refine tz_iload_n (pc := 7) dX12_solved_7 rfl rfl ?_
    refine tz_cV (pc := 8) (o_deep hl n _ _ (by omega)) vl_X12_155 dX12_solved_8 o_164 rfl rfl (Nat.le_of_ble_eq_true rfl) ⟨(show 0 + 1 ≤ 5 + 1 * (r9 + 1) by omega), (show 8 + (2 + 11) + 40 * (0) ≤ 40 * (5 + 1 * (r9 + 1)) by omega)⟩ rfl rfl (Nat.le_of_ble_eq_true rfl) (Nat.le_of_ble_eq_true rfl) (fun r9 J_8 hq9 => ?_)
    obtain ⟨z_8, rfl, hz_8, d1, d2⟩ := hq9
    have dd_8 : zOf (zbut [164]) J_8 J ∧ ∀ k, ¬ k = 21 → J_8 164 k = J 164 k := by rw [← d1]; exact ⟨zOf.up rfl zOf.rf, fun k hk => zup_ne hk⟩
    have z21_8 : J_8 164 21 = z_8 := by rw [← d1]; exact zup_at
    have q_8 := MG.deep hM dd_8 (by omega)
    have l_8 := q_8.1.2
    rcases d2 with ⟨rfl, d2⟩ | ⟨rfl, d2⟩
    · refine tz_if_eqT (pc := 11) (tgt := 16) (by decide) dX12_solved_11 (by decide) (by decide) ?_
      refine tz_aload_n (pc := 16) dX12_solved_16 rfl rfl ?_
      refine tz_fR (pc := 17) dX12_solved_17 fl_X12_53 r_164_26 ?_
      refine tz_iload_n (pc := 20) dX12_solved_20 rfl rfl ?_
      refine tz_aL (pc := 21) (z := z_2) (v := (J 178 z_2)) dX12_solved_21 a_178 rfl (by omega) (Eq.trans (congrFun (show J_8 178 = J 178 by rw [← d1]; exact zup_nc (by decide)) z_2) rfl) (fun r_21 => ?_)
      refine tz_iconst (pc := 22) dX12_solved_22 ?_
      refine tz_icmp_ne (pc := 23) (tgt := 37) dX12_solved_23 (by decide) (by omega) (by decide) (fun h_23 => ?_) (fun h_23 => ?_)
      · refine tz_aload_n (pc := 37) dX12_solved_37 rfl rfl ?_
        refine tz_fR (pc := 38) dX12_solved_38 fl_X12_53 r_164_26 ?_
        refine tz_iload_n (pc := 41) dX12_solved_41 rfl rfl ?_
        refine tz_aL (pc := 42) (z := z_2) (v := (J 178 z_2)) dX12_solved_42 a_178 rfl (by omega) (Eq.trans (congrFun (show J_8 178 = J 178 by rw [← d1]; exact zup_nc (by decide)) z_2) rfl) (fun r_42 => ?_)
        have rr9 := (hρ x hxv).2.2 (by rw [t_2]; omega)
        rw [t_2] at rr9
        generalize hu9 : J 178 z_2 = u
        rw [hu9] at rr9
        have er9 := rr9.1
        have hn9 := rr9.2
        rw [er9] at hn9
        have hu : 0 ≤ u ∧ u < m := by omega
        have ha := hM.ar hu
        refine tz_istore (pc := 43) (L2 := [_, _, _, _, _, _, _, _, _]) dX12_solved_43 (by decide) rfl ?_
        refine tz_aload_n (pc := 45) dX12_solved_45 rfl rfl ?_
        refine tz_iload (pc := 46) dX12_solved_46 rfl ?_
        have l_48 := (q_8).1.2
        have tt_48 := (q_8).1.1.told
        refine tz_cV (pc := 48) (m_arity hl n _ _ (by omega) 0 0 0 s m (q_8).1.1 (by omega)) vl_X12_111 dX12_solved_48 o_164 rfl rfl (Nat.le_of_ble_eq_true rfl) ⟨(show 2 + 1 ≤ 5 + 1 * (r9 + 1) by omega), (show 8 + (2 + 11) + 40 * (2) ≤ 40 * (5 + 1 * (r9 + 1)) by omega)⟩ rfl rfl (Nat.le_of_ble_eq_true rfl) (Nat.le_of_ble_eq_true rfl) (fun r9 J_48 hq9 => ?_)
        obtain ⟨z_48, rfl, hz_48, rfl, hv_48⟩ := hq9
        have he_48 : mar J_8 0 0 u = mar J 0 0 u := (q_8).ar hu ((q_8).2.2.1.2.2.2 170 rfl)
        rw [he_48] at hv_48
        obtain rfl : mar J 0 0 u = z_48 := hv_48
        refine tz_istore (pc := 51) (L2 := [_, _, _, _, _, _, _, _, _]) dX12_solved_51 (by decide) rfl ?_
        refine tz_iload (pc := 53) dX12_solved_53 rfl ?_
        refine tz_if_le (pc := 55) (tgt := 75) dX12_solved_55 (by decide) (by omega) (fun h_55 => ?_) (fun h_55 => ?_)
        · refine tz_iconst (pc := 75) dX12_solved_75 ?_
          refine tz_istore (pc := 76) (L2 := [_, _, _, _, _, _, _, _, _]) dX12_solved_76 (by decide) rfl ?_
          refine tz_iload (pc := 78) dX12_solved_78 rfl ?_
          refine tz_iconst (pc := 80) dX12_solved_80 ?_
          refine tz_icmp_le (pc := 81) (tgt := 101) dX12_solved_81 (by decide) (by omega) (by decide) (fun h_81 => ?_) (fun h_81 => ?_)
          · refine tz_iconst (pc := 101) dX12_solved_101 ?_
            refine tz_istore (pc := 102) (L2 := [_, _, _, _, _, _, _, _, _]) dX12_solved_102 (by decide) rfl ?_
            refine tz_iload (pc := 104) dX12_solved_104 rfl ?_
            refine tz_iconst (pc := 106) dX12_solved_106 ?_
            refine tz_icmp_le (pc := 107) (tgt := 127) dX12_solved_107 (by decide) (by omega) (by decide) (fun h_107 => ?_) (fun h_107 => ?_)
            · refine tz_iconst (pc := 127) dX12_solved_127 ?_
              refine tz_istore (pc := 128) (L2 := [_, _, _, _, _, _, _, _, _]) dX12_solved_128 (by decide) rfl ?_
              refine tz_aload_n (pc := 130) dX12_solved_130 rfl rfl ?_
              refine tz_iload (pc := 131) dX12_solved_131 rfl ?_
              refine tz_iload (pc := 133) dX12_solved_133 rfl ?_
              refine tz_iload (pc := 135) dX12_solved_135 rfl ?_
              refine tz_iload (pc := 137) dX12_solved_137 rfl ?_
              have l0_139 := (q_8).1.2
              have t0_139 := (q_8).1.1.told
              refine tz_cV (pc := 139) (o_remade hl n _ _ _ _ _ (by omega) (by omega) (by omega) (by omega) s m (q_8).1.1 (((q_8).2.2.1.2.2.1 9 rfl).trans hs) (by omega) (fun q9 => by have e9 := (q_8).ar hu ((q_8).2.2.1.2.2.2 170 rfl); rw [e9]; omega)) vl_X12_152 dX12_solved_139 o_164 rfl rfl (Nat.le_of_ble_eq_true rfl) ⟨(show 3 + 1 ≤ 5 + 1 * (r9 + 1) by omega), (show 8 + (5 + 11) + 40 * (3) ≤ 40 * (5 + 1 * (r9 + 1)) by omega)⟩ rfl rfl (Nat.le_of_ble_eq_true rfl) (Nat.le_of_ble_eq_true rfl) (fun r9 J_139 hq9 => ?_)
              obtain ⟨z_139, rfl, hz_139, m_139, g_139, h_139, x_139⟩ := hq9
              have q_139 := MG.tr q_8 g_139
              have f_139 := g_139.2.2.2
              have l_139 := g_139.1.2
              exact tz_iret (pc := 142) (z := z_139) dX12_solved_142 rfl (Nat.le_of_ble_eq_true rfl) (Nat.le_of_ble_eq_true rfl) ⟨Nat.le_refl _, Nat.le_add_right _ _⟩ ⟨_, rfl, (by omega), ⟨m_139, q_139, h_139, gr_cw hM hu (by omega) d1 (by omega) (by omega) er9 (Or.inr ⟨by omega, rfl, rfl⟩) (Or.inr ⟨by omega, rfl, rfl⟩) (Or.inr ⟨by omega, rfl, rfl⟩) (by have e7 := x_139; rw [show J_8 166 (0 + u) = J 166 (0 + u) from ((q_8).2.1 u hu.1 hu.2).1.1] at e7; exact e7)⟩⟩
            · refine tz_aload_n (pc := 110) dX12_solved_110 rfl rfl ?_
              refine tz_aload_n (pc := 111) dX12_solved_111 rfl rfl ?_
              refine tz_iload (pc := 112) dX12_solved_112 rfl ?_
              refine tz_iconst (pc := 114) dX12_solved_114 ?_
              have l_115 := (q_8).1.2
              have tt_115 := (q_8).1.1.told
              refine tz_cV (pc := 115) (m_arg hl n _ _ _ (by omega) (by decide) 0 0 0 s m (q_8).1.1 (by omega) (by omega)) vl_X12_88 dX12_solved_115 o_164 rfl rfl (Nat.le_of_ble_eq_true rfl) ⟨(show 0 + 1 ≤ 5 + 1 * (r9 + 1) by omega), (show 8 + (3 + 11) + 40 * (0) ≤ 40 * (5 + 1 * (r9 + 1)) by omega)⟩ rfl rfl (Nat.le_of_ble_eq_true rfl) (Nat.le_of_ble_eq_true rfl) (fun r9 J_115 hq9 => ?_)
              obtain ⟨z_115, rfl, hz_115, rfl, hv_115⟩ := hq9
              have he_115 : J_8 167 (3 * (0 + u) + 2) = J 167 (3 * (0 + u) + 2) := ((q_8).2.1 u hu.1 hu.2).2 2 (by omega) (by omega)
              rw [he_115] at hv_115
              obtain rfl : J 167 (3 * (0 + u) + 2) = z_115 := hv_115
              refine tz_iload_n (pc := 118) dX12_solved_118 rfl rfl ?_
              refine tz_iconst (pc := 119) dX12_solved_119 ?_
              refine tz_iadd (pc := 120) (v := y + 1) dX12_solved_120 rfl ?_
              have l0_121 := (q_8).1.2
              have t0_121 := (q_8).1.1.told
              have a_121 := hM.arg (t := u) (i := 2) hu (by omega)
              refine tz_cV (pc := 121) (ih _ _ _ (by omega) (by omega) s m m0 ρ (q_8).1.1 (((q_8).2.2.1.2.2.1 9 rfl).trans hs) (hU.mg (q_8) ⟨rfl, rfl, rfl⟩) (by omega) (by omega) (by omega) (hρ.mg hm (q_8)) (by omega)) vl_X12_183 dX12_solved_121 o_164 rfl rfl (Nat.le_of_ble_eq_true rfl) ⟨(show (5 + 1 * r9) + 1 ≤ 5 + 1 * (r9 + 1) by omega), (show 8 + (9 + 11) + 40 * ((5 + 1 * r9)) ≤ 40 * (5 + 1 * (r9 + 1)) by omega)⟩ rfl rfl (Nat.le_of_ble_eq_true rfl) (Nat.le_of_ble_eq_true rfl) (fun r9 J_121 hq9 => ?_)
              obtain ⟨z_121, rfl, hz_121, m_121, g_121, h_121, x_121⟩ := hq9
              have q_121 := MG.tr q_8 g_121
              have f_121 := g_121.2.2.2
              have l_121 := g_121.1.2
              have w_121 : J_8 167 (3 * (0 + u) + 2) = J 167 (3 * (0 + u) + 2) := ((q_8).2.1 u hu.1 hu.2).2 2 (by decide) (by decide)
              rw [show (7 - (y + 1)).toNat = (7 - y).toNat - 1 from by omega, ← w_121] at x_121
              refine tz_goto (pc := 124) (tgt := 128) dX12_solved_124 (by decide) ?_
              refine tz_istore (pc := 128) (L2 := [_, _, _, _, _, _, _, _, _]) dX12_solved_128 (by decide) rfl ?_
              refine tz_aload_n (pc := 130) dX12_solved_130 rfl rfl ?_
              refine tz_iload (pc := 131) dX12_solved_131 rfl ?_
              refine tz_iload (pc := 133) dX12_solved_133 rfl ?_
              refine tz_iload (pc := 135) dX12_solved_135 rfl ?_
              refine tz_iload (pc := 137) dX12_solved_137 rfl ?_
              have l0_139 := (q_121).1.2
              have t0_139 := (q_121).1.1.told
              refine tz_cV (pc := 139) (o_remade hl n _ _ _ _ _ (by omega) (by omega) (by omega) (by omega) s m_121 (q_121).1.1 (((q_121).2.2.1.2.2.1 9 rfl).trans hs) (by omega) (fun q9 => by have e9 := (q_121).ar hu ((q_121).2.2.1.2.2.2 170 rfl); rw [e9]; omega)) vl_X12_152 dX12_solved_139 o_164 rfl rfl (Nat.le_of_ble_eq_true rfl) ⟨(show 3 + 1 ≤ 5 + 1 * (r9 + 1) by omega), (show 8 + (5 + 11) + 40 * (3) ≤ 40 * (5 + 1 * (r9 + 1)) by omega)⟩ rfl rfl (Nat.le_of_ble_eq_true rfl) (Nat.le_of_ble_eq_true rfl) (fun r9 J_139 hq9 => ?_)
              obtain ⟨z_139, rfl, hz_139, m_139, g_139, h_139, x_139⟩ := hq9
              have q_139 := MG.tr q_121 g_139
              have f_139 := g_139.2.2.2
              have l_139 := g_139.1.2
              exact tz_iret (pc := 142) (z := z_139) dX12_solved_142 rfl (Nat.le_of_ble_eq_true rfl) (Nat.le_of_ble_eq_true rfl) ⟨Nat.le_refl _, Nat.le_add_right _ _⟩ ⟨_, rfl, (by omega), ⟨m_139, q_139, h_139, gr_cw hM hu (by omega) d1 (by omega) (by omega) er9 (Or.inr ⟨by omega, rfl, rfl⟩) (Or.inr ⟨by omega, rfl, rfl⟩) (Or.inl ⟨by omega, x_121, g_121.2.2.2⟩) (by have e7 := x_139; rw [show J_121 166 (0 + u) = J 166 (0 + u) from ((q_121).2.1 u hu.1 hu.2).1.1] at e7; exact e7)⟩⟩
          · refine tz_aload_n (pc := 84) dX12_solved_84 rfl rfl ?_
            refine tz_aload_n (pc := 85) dX12_solved_85 rfl rfl ?_
            refine tz_iload (pc := 86) dX12_solved_86 rfl ?_
            refine tz_iconst (pc := 88) dX12_solved_88 ?_
            have l_89 := (q_8).1.2
            have tt_89 := (q_8).1.1.told
            refine tz_cV (pc := 89) (m_arg hl n _ _ _ (by omega) (by decide) 0 0 0 s m (q_8).1.1 (by omega) (by omega)) vl_X12_88 dX12_solved_89 o_164 rfl rfl (Nat.le_of_ble_eq_true rfl) ⟨(show 0 + 1 ≤ 5 + 1 * (r9 + 1) by omega), (show 8 + (3 + 11) + 40 * (0) ≤ 40 * (5 + 1 * (r9 + 1)) by omega)⟩ rfl rfl (Nat.le_of_ble_eq_true rfl) (Nat.le_of_ble_eq_true rfl) (fun r9 J_89 hq9 => ?_)
            obtain ⟨z_89, rfl, hz_89, rfl, hv_89⟩ := hq9
            have he_89 : J_8 167 (3 * (0 + u) + 1) = J 167 (3 * (0 + u) + 1) := ((q_8).2.1 u hu.1 hu.2).2 1 (by omega) (by omega)
            rw [he_89] at hv_89
            obtain rfl : J 167 (3 * (0 + u) + 1) = z_89 := hv_89
            refine tz_iload_n (pc := 92) dX12_solved_92 rfl rfl ?_
            refine tz_iconst (pc := 93) dX12_solved_93 ?_
            refine tz_iadd (pc := 94) (v := y + 1) dX12_solved_94 rfl ?_
            have l0_95 := (q_8).1.2
            have t0_95 := (q_8).1.1.told
            have a_95 := hM.arg (t := u) (i := 1) hu (by omega)
            refine tz_cV (pc := 95) (ih _ _ _ (by omega) (by omega) s m m0 ρ (q_8).1.1 (((q_8).2.2.1.2.2.1 9 rfl).trans hs) (hU.mg (q_8) ⟨rfl, rfl, rfl⟩) (by omega) (by omega) (by omega) (hρ.mg hm (q_8)) (by omega)) vl_X12_183 dX12_solved_95 o_164 rfl rfl (Nat.le_of_ble_eq_true rfl) ⟨(show (5 + 1 * r9) + 1 ≤ 5 + 1 * (r9 + 1) by omega), (show 8 + (9 + 11) + 40 * ((5 + 1 * r9)) ≤ 40 * (5 + 1 * (r9 + 1)) by omega)⟩ rfl rfl (Nat.le_of_ble_eq_true rfl) (Nat.le_of_ble_eq_true rfl) (fun r9 J_95 hq9 => ?_)
            obtain ⟨z_95, rfl, hz_95, m_95, g_95, h_95, x_95⟩ := hq9
            have q_95 := MG.tr q_8 g_95
            have f_95 := g_95.2.2.2
            have l_95 := g_95.1.2
            have w_95 : J_8 167 (3 * (0 + u) + 1) = J 167 (3 * (0 + u) + 1) := ((q_8).2.1 u hu.1 hu.2).2 1 (by decide) (by decide)
            rw [show (7 - (y + 1)).toNat = (7 - y).toNat - 1 from by omega, ← w_95] at x_95
            refine tz_goto (pc := 98) (tgt := 102) dX12_solved_98 (by decide) ?_
            refine tz_istore (pc := 102) (L2 := [_, _, _, _, _, _, _, _, _]) dX12_solved_102 (by decide) rfl ?_
            refine tz_iload (pc := 104) dX12_solved_104 rfl ?_
            refine tz_iconst (pc := 106) dX12_solved_106 ?_
            refine tz_icmp_le (pc := 107) (tgt := 127) dX12_solved_107 (by decide) (by omega) (by decide) (fun h_107 => ?_) (fun h_107 => ?_)
            · refine tz_iconst (pc := 127) dX12_solved_127 ?_
              refine tz_istore (pc := 128) (L2 := [_, _, _, _, _, _, _, _, _]) dX12_solved_128 (by decide) rfl ?_
              refine tz_aload_n (pc := 130) dX12_solved_130 rfl rfl ?_
              refine tz_iload (pc := 131) dX12_solved_131 rfl ?_
              refine tz_iload (pc := 133) dX12_solved_133 rfl ?_
              refine tz_iload (pc := 135) dX12_solved_135 rfl ?_
              refine tz_iload (pc := 137) dX12_solved_137 rfl ?_
              have l0_139 := (q_95).1.2
              have t0_139 := (q_95).1.1.told
              refine tz_cV (pc := 139) (o_remade hl n _ _ _ _ _ (by omega) (by omega) (by omega) (by omega) s m_95 (q_95).1.1 (((q_95).2.2.1.2.2.1 9 rfl).trans hs) (by omega) (fun q9 => by have e9 := (q_95).ar hu ((q_95).2.2.1.2.2.2 170 rfl); rw [e9]; omega)) vl_X12_152 dX12_solved_139 o_164 rfl rfl (Nat.le_of_ble_eq_true rfl) ⟨(show 3 + 1 ≤ 5 + 1 * (r9 + 1) by omega), (show 8 + (5 + 11) + 40 * (3) ≤ 40 * (5 + 1 * (r9 + 1)) by omega)⟩ rfl rfl (Nat.le_of_ble_eq_true rfl) (Nat.le_of_ble_eq_true rfl) (fun r9 J_139 hq9 => ?_)
              obtain ⟨z_139, rfl, hz_139, m_139, g_139, h_139, x_139⟩ := hq9
              have q_139 := MG.tr q_95 g_139
              have f_139 := g_139.2.2.2
              have l_139 := g_139.1.2
              exact tz_iret (pc := 142) (z := z_139) dX12_solved_142 rfl (Nat.le_of_ble_eq_true rfl) (Nat.le_of_ble_eq_true rfl) ⟨Nat.le_refl _, Nat.le_add_right _ _⟩ ⟨_, rfl, (by omega), ⟨m_139, q_139, h_139, gr_cw hM hu (by omega) d1 (by omega) (by omega) er9 (Or.inr ⟨by omega, rfl, rfl⟩) (Or.inl ⟨by omega, x_95, g_95.2.2.2⟩) (Or.inr ⟨by omega, rfl, rfl⟩) (by have e7 := x_139; rw [show J_95 166 (0 + u) = J 166 (0 + u) from ((q_95).2.1 u hu.1 hu.2).1.1] at e7; exact e7)⟩⟩
            · refine tz_aload_n (pc := 110) dX12_solved_110 rfl rfl ?_
              refine tz_aload_n (pc := 111) dX12_solved_111 rfl rfl ?_
              refine tz_iload (pc := 112) dX12_solved_112 rfl ?_
              refine tz_iconst (pc := 114) dX12_solved_114 ?_
              have l_115 := (q_95).1.2
              have tt_115 := (q_95).1.1.told
              refine tz_cV (pc := 115) (m_arg hl n _ _ _ (by omega) (by decide) 0 0 0 s m_95 (q_95).1.1 (by omega) (by omega)) vl_X12_88 dX12_solved_115 o_164 rfl rfl (Nat.le_of_ble_eq_true rfl) ⟨(show 0 + 1 ≤ 5 + 1 * (r9 + 1) by omega), (show 8 + (3 + 11) + 40 * (0) ≤ 40 * (5 + 1 * (r9 + 1)) by omega)⟩ rfl rfl (Nat.le_of_ble_eq_true rfl) (Nat.le_of_ble_eq_true rfl) (fun r9 J_115 hq9 => ?_)
              obtain ⟨z_115, rfl, hz_115, rfl, hv_115⟩ := hq9
              have he_115 : J_95 167 (3 * (0 + u) + 2) = J 167 (3 * (0 + u) + 2) := ((q_95).2.1 u hu.1 hu.2).2 2 (by omega) (by omega)
              rw [he_115] at hv_115
              obtain rfl : J 167 (3 * (0 + u) + 2) = z_115 := hv_115
              refine tz_iload_n (pc := 118) dX12_solved_118 rfl rfl ?_
              refine tz_iconst (pc := 119) dX12_solved_119 ?_
              refine tz_iadd (pc := 120) (v := y + 1) dX12_solved_120 rfl ?_
              have l0_121 := (q_95).1.2
              have t0_121 := (q_95).1.1.told
              have a_121 := hM.arg (t := u) (i := 2) hu (by omega)
              refine tz_cV (pc := 121) (ih _ _ _ (by omega) (by omega) s m_95 m0 ρ (q_95).1.1 (((q_95).2.2.1.2.2.1 9 rfl).trans hs) (hU.mg (q_95) ⟨rfl, rfl, rfl⟩) (by omega) (by omega) (by omega) (hρ.mg hm (q_95)) (by omega)) vl_X12_183 dX12_solved_121 o_164 rfl rfl (Nat.le_of_ble_eq_true rfl) ⟨(show (5 + 1 * r9) + 1 ≤ 5 + 1 * (r9 + 1) by omega), (show 8 + (9 + 11) + 40 * ((5 + 1 * r9)) ≤ 40 * (5 + 1 * (r9 + 1)) by omega)⟩ rfl rfl (Nat.le_of_ble_eq_true rfl) (Nat.le_of_ble_eq_true rfl) (fun r9 J_121 hq9 => ?_)
              obtain ⟨z_121, rfl, hz_121, m_121, g_121, h_121, x_121⟩ := hq9
              have q_121 := MG.tr q_95 g_121
              have f_121 := g_121.2.2.2
              have l_121 := g_121.1.2
              have w_121 : J_95 167 (3 * (0 + u) + 2) = J 167 (3 * (0 + u) + 2) := ((q_95).2.1 u hu.1 hu.2).2 2 (by decide) (by decide)
              rw [show (7 - (y + 1)).toNat = (7 - y).toNat - 1 from by omega, ← w_121] at x_121
              refine tz_goto (pc := 124) (tgt := 128) dX12_solved_124 (by decide) ?_
              refine tz_istore (pc := 128) (L2 := [_, _, _, _, _, _, _, _, _]) dX12_solved_128 (by decide) rfl ?_
              refine tz_aload_n (pc := 130) dX12_solved_130 rfl rfl ?_
              refine tz_iload (pc := 131) dX12_solved_131 rfl ?_
              refine tz_iload (pc := 133) dX12_solved_133 rfl ?_
              refine tz_iload (pc := 135) dX12_solved_135 rfl ?_
              refine tz_iload (pc := 137) dX12_solved_137 rfl ?_
              have l0_139 := (q_121).1.2
              have t0_139 := (q_121).1.1.told
              refine tz_cV (pc := 139) (o_remade hl n _ _ _ _ _ (by omega) (by omega) (by omega) (by omega) s m_121 (q_121).1.1 (((q_121).2.2.1.2.2.1 9 rfl).trans hs) (by omega) (fun q9 => by have e9 := (q_121).ar hu ((q_121).2.2.1.2.2.2 170 rfl); rw [e9]; omega)) vl_X12_152 dX12_solved_139 o_164 rfl rfl (Nat.le_of_ble_eq_true rfl) ⟨(show 3 + 1 ≤ 5 + 1 * (r9 + 1) by omega), (show 8 + (5 + 11) + 40 * (3) ≤ 40 * (5 + 1 * (r9 + 1)) by omega)⟩ rfl rfl (Nat.le_of_ble_eq_true rfl) (Nat.le_of_ble_eq_true rfl) (fun r9 J_139 hq9 => ?_)
              obtain ⟨z_139, rfl, hz_139, m_139, g_139, h_139, x_139⟩ := hq9
              have q_139 := MG.tr q_121 g_139
              have f_139 := g_139.2.2.2
              have l_139 := g_139.1.2
              exact tz_iret (pc := 142) (z := z_139) dX12_solved_142 rfl (Nat.le_of_ble_eq_true rfl) (Nat.le_of_ble_eq_true rfl) ⟨Nat.le_refl _, Nat.le_add_right _ _⟩ ⟨_, rfl, (by omega), ⟨m_139, q_139, h_139, gr_cw hM hu (by omega) d1 (by omega) (by omega) er9 (Or.inr ⟨by omega, rfl, rfl⟩) (Or.inl ⟨by omega, x_95, g_95.2.2.2⟩) (Or.inl ⟨by omega, x_121, g_121.2.2.2⟩) (by have e7 := x_139; rw [show J_121 166 (0 + u) = J 166 (0 + u) from ((q_121).2.1 u hu.1 hu.2).1.1] at e7; exact e7)⟩⟩
        · refine tz_aload_n (pc := 58) dX12_solved_58 rfl rfl ?_
          refine tz_aload_n (pc := 59) dX12_solved_59 rfl rfl ?_
          refine tz_iload (pc := 60) dX12_solved_60 rfl ?_
          refine tz_iconst (pc := 62) dX12_solved_62 ?_
          have l_63 := (q_8).1.2
          have tt_63 := (q_8).1.1.told
          refine tz_cV (pc := 63) (m_arg hl n _ _ _ (by omega) (by decide) 0 0 0 s m (q_8).1.1 (by omega) (by omega)) vl_X12_88 dX12_solved_63 o_164 rfl rfl (Nat.le_of_ble_eq_true rfl) ⟨(show 0 + 1 ≤ 5 + 1 * (r9 + 1) by omega), (show 8 + (3 + 11) + 40 * (0) ≤ 40 * (5 + 1 * (r9 + 1)) by omega)⟩ rfl rfl (Nat.le_of_ble_eq_true rfl) (Nat.le_of_ble_eq_true rfl) (fun r9 J_63 hq9 => ?_)
          obtain ⟨z_63, rfl, hz_63, rfl, hv_63⟩ := hq9
          have he_63 : J_8 167 (3 * (0 + u) + 0) = J 167 (3 * (0 + u) + 0) := ((q_8).2.1 u hu.1 hu.2).2 0 (by omega) (by omega)
          rw [he_63] at hv_63
          obtain rfl : J 167 (3 * (0 + u) + 0) = z_63 := hv_63
          refine tz_iload_n (pc := 66) dX12_solved_66 rfl rfl ?_
          refine tz_iconst (pc := 67) dX12_solved_67 ?_
          refine tz_iadd (pc := 68) (v := y + 1) dX12_solved_68 rfl ?_
          have l0_69 := (q_8).1.2
          have t0_69 := (q_8).1.1.told
          have a_69 := hM.arg (t := u) (i := 0) hu (by omega)
          refine tz_cV (pc := 69) (ih _ _ _ (by omega) (by omega) s m m0 ρ (q_8).1.1 (((q_8).2.2.1.2.2.1 9 rfl).trans hs) (hU.mg (q_8) ⟨rfl, rfl, rfl⟩) (by omega) (by omega) (by omega) (hρ.mg hm (q_8)) (by omega)) vl_X12_183 dX12_solved_69 o_164 rfl rfl (Nat.le_of_ble_eq_true rfl) ⟨(show (5 + 1 * r9) + 1 ≤ 5 + 1 * (r9 + 1) by omega), (show 8 + (9 + 11) + 40 * ((5 + 1 * r9)) ≤ 40 * (5 + 1 * (r9 + 1)) by omega)⟩ rfl rfl (Nat.le_of_ble_eq_true rfl) (Nat.le_of_ble_eq_true rfl) (fun r9 J_69 hq9 => ?_)
          obtain ⟨z_69, rfl, hz_69, m_69, g_69, h_69, x_69⟩ := hq9
          have q_69 := MG.tr q_8 g_69
          have f_69 := g_69.2.2.2
          have l_69 := g_69.1.2
          have w_69 : J_8 167 (3 * (0 + u) + 0) = J 167 (3 * (0 + u) + 0) := ((q_8).2.1 u hu.1 hu.2).2 0 (by decide) (by decide)
          rw [show (7 - (y + 1)).toNat = (7 - y).toNat - 1 from by omega, ← w_69] at x_69
          refine tz_goto (pc := 72) (tgt := 76) dX12_solved_72 (by decide) ?_
          refine tz_istore (pc := 76) (L2 := [_, _, _, _, _, _, _, _, _]) dX12_solved_76 (by decide) rfl ?_
          refine tz_iload (pc := 78) dX12_solved_78 rfl ?_
          refine tz_iconst (pc := 80) dX12_solved_80 ?_
          refine tz_icmp_le (pc := 81) (tgt := 101) dX12_solved_81 (by decide) (by omega) (by decide) (fun h_81 => ?_) (fun h_81 => ?_)
          · refine tz_iconst (pc := 101) dX12_solved_101 ?_
            refine tz_istore (pc := 102) (L2 := [_, _, _, _, _, _, _, _, _]) dX12_solved_102 (by decide) rfl ?_
            refine tz_iload (pc := 104) dX12_solved_104 rfl ?_
            refine tz_iconst (pc := 106) dX12_solved_106 ?_
            refine tz_icmp_le (pc := 107) (tgt := 127) dX12_solved_107 (by decide) (by omega) (by decide) (fun h_107 => ?_) (fun h_107 => ?_)
            · refine tz_iconst (pc := 127) dX12_solved_127 ?_
              refine tz_istore (pc := 128) (L2 := [_, _, _, _, _, _, _, _, _]) dX12_solved_128 (by decide) rfl ?_
              refine tz_aload_n (pc := 130) dX12_solved_130 rfl rfl ?_
              refine tz_iload (pc := 131) dX12_solved_131 rfl ?_
              refine tz_iload (pc := 133) dX12_solved_133 rfl ?_
              refine tz_iload (pc := 135) dX12_solved_135 rfl ?_
              refine tz_iload (pc := 137) dX12_solved_137 rfl ?_
              have l0_139 := (q_69).1.2
              have t0_139 := (q_69).1.1.told
              refine tz_cV (pc := 139) (o_remade hl n _ _ _ _ _ (by omega) (by omega) (by omega) (by omega) s m_69 (q_69).1.1 (((q_69).2.2.1.2.2.1 9 rfl).trans hs) (by omega) (fun q9 => by have e9 := (q_69).ar hu ((q_69).2.2.1.2.2.2 170 rfl); rw [e9]; omega)) vl_X12_152 dX12_solved_139 o_164 rfl rfl (Nat.le_of_ble_eq_true rfl) ⟨(show 3 + 1 ≤ 5 + 1 * (r9 + 1) by omega), (show 8 + (5 + 11) + 40 * (3) ≤ 40 * (5 + 1 * (r9 + 1)) by omega)⟩ rfl rfl (Nat.le_of_ble_eq_true rfl) (Nat.le_of_ble_eq_true rfl) (fun r9 J_139 hq9 => ?_)
              obtain ⟨z_139, rfl, hz_139, m_139, g_139, h_139, x_139⟩ := hq9
              have q_139 := MG.tr q_69 g_139
              have f_139 := g_139.2.2.2
              have l_139 := g_139.1.2
              exact tz_iret (pc := 142) (z := z_139) dX12_solved_142 rfl (Nat.le_of_ble_eq_true rfl) (Nat.le_of_ble_eq_true rfl) ⟨Nat.le_refl _, Nat.le_add_right _ _⟩ ⟨_, rfl, (by omega), ⟨m_139, q_139, h_139, gr_cw hM hu (by omega) d1 (by omega) (by omega) er9 (Or.inl ⟨by omega, x_69, g_69.2.2.2⟩) (Or.inr ⟨by omega, rfl, rfl⟩) (Or.inr ⟨by omega, rfl, rfl⟩) (by have e7 := x_139; rw [show J_69 166 (0 + u) = J 166 (0 + u) from ((q_69).2.1 u hu.1 hu.2).1.1] at e7; exact e7)⟩⟩
            · refine tz_aload_n (pc := 110) dX12_solved_110 rfl rfl ?_
              refine tz_aload_n (pc := 111) dX12_solved_111 rfl rfl ?_
              refine tz_iload (pc := 112) dX12_solved_112 rfl ?_
              refine tz_iconst (pc := 114) dX12_solved_114 ?_
              have l_115 := (q_69).1.2
              have tt_115 := (q_69).1.1.told
              refine tz_cV (pc := 115) (m_arg hl n _ _ _ (by omega) (by decide) 0 0 0 s m_69 (q_69).1.1 (by omega) (by omega)) vl_X12_88 dX12_solved_115 o_164 rfl rfl (Nat.le_of_ble_eq_true rfl) ⟨(show 0 + 1 ≤ 5 + 1 * (r9 + 1) by omega), (show 8 + (3 + 11) + 40 * (0) ≤ 40 * (5 + 1 * (r9 + 1)) by omega)⟩ rfl rfl (Nat.le_of_ble_eq_true rfl) (Nat.le_of_ble_eq_true rfl) (fun r9 J_115 hq9 => ?_)
              obtain ⟨z_115, rfl, hz_115, rfl, hv_115⟩ := hq9
              have he_115 : J_69 167 (3 * (0 + u) + 2) = J 167 (3 * (0 + u) + 2) := ((q_69).2.1 u hu.1 hu.2).2 2 (by omega) (by omega)
              rw [he_115] at hv_115
              obtain rfl : J 167 (3 * (0 + u) + 2) = z_115 := hv_115
              refine tz_iload_n (pc := 118) dX12_solved_118 rfl rfl ?_
              refine tz_iconst (pc := 119) dX12_solved_119 ?_
              refine tz_iadd (pc := 120) (v := y + 1) dX12_solved_120 rfl ?_
              have l0_121 := (q_69).1.2
              have t0_121 := (q_69).1.1.told
              have a_121 := hM.arg (t := u) (i := 2) hu (by omega)
              refine tz_cV (pc := 121) (ih _ _ _ (by omega) (by omega) s m_69 m0 ρ (q_69).1.1 (((q_69).2.2.1.2.2.1 9 rfl).trans hs) (hU.mg (q_69) ⟨rfl, rfl, rfl⟩) (by omega) (by omega) (by omega) (hρ.mg hm (q_69)) (by omega)) vl_X12_183 dX12_solved_121 o_164 rfl rfl (Nat.le_of_ble_eq_true rfl) ⟨(show (5 + 1 * r9) + 1 ≤ 5 + 1 * (r9 + 1) by omega), (show 8 + (9 + 11) + 40 * ((5 + 1 * r9)) ≤ 40 * (5 + 1 * (r9 + 1)) by omega)⟩ rfl rfl (Nat.le_of_ble_eq_true rfl) (Nat.le_of_ble_eq_true rfl) (fun r9 J_121 hq9 => ?_)
              obtain ⟨z_121, rfl, hz_121, m_121, g_121, h_121, x_121⟩ := hq9
              have q_121 := MG.tr q_69 g_121
              have f_121 := g_121.2.2.2
              have l_121 := g_121.1.2
              have w_121 : J_69 167 (3 * (0 + u) + 2) = J 167 (3 * (0 + u) + 2) := ((q_69).2.1 u hu.1 hu.2).2 2 (by decide) (by decide)
              rw [show (7 - (y + 1)).toNat = (7 - y).toNat - 1 from by omega, ← w_121] at x_121
              refine tz_goto (pc := 124) (tgt := 128) dX12_solved_124 (by decide) ?_
              refine tz_istore (pc := 128) (L2 := [_, _, _, _, _, _, _, _, _]) dX12_solved_128 (by decide) rfl ?_
              refine tz_aload_n (pc := 130) dX12_solved_130 rfl rfl ?_
              refine tz_iload (pc := 131) dX12_solved_131 rfl ?_
              refine tz_iload (pc := 133) dX12_solved_133 rfl ?_
              refine tz_iload (pc := 135) dX12_solved_135 rfl ?_
              refine tz_iload (pc := 137) dX12_solved_137 rfl ?_
              have l0_139 := (q_121).1.2
              have t0_139 := (q_121).1.1.told
              refine tz_cV (pc := 139) (o_remade hl n _ _ _ _ _ (by omega) (by omega) (by omega) (by omega) s m_121 (q_121).1.1 (((q_121).2.2.1.2.2.1 9 rfl).trans hs) (by omega) (fun q9 => by have e9 := (q_121).ar hu ((q_121).2.2.1.2.2.2 170 rfl); rw [e9]; omega)) vl_X12_152 dX12_solved_139 o_164 rfl rfl (Nat.le_of_ble_eq_true rfl) ⟨(show 3 + 1 ≤ 5 + 1 * (r9 + 1) by omega), (show 8 + (5 + 11) + 40 * (3) ≤ 40 * (5 + 1 * (r9 + 1)) by omega)⟩ rfl rfl (Nat.le_of_ble_eq_true rfl) (Nat.le_of_ble_eq_true rfl) (fun r9 J_139 hq9 => ?_)
              obtain ⟨z_139, rfl, hz_139, m_139, g_139, h_139, x_139⟩ := hq9
              have q_139 := MG.tr q_121 g_139
              have f_139 := g_139.2.2.2
              have l_139 := g_139.1.2
              exact tz_iret (pc := 142) (z := z_139) dX12_solved_142 rfl (Nat.le_of_ble_eq_true rfl) (Nat.le_of_ble_eq_true rfl) ⟨Nat.le_refl _, Nat.le_add_right _ _⟩ ⟨_, rfl, (by omega), ⟨m_139, q_139, h_139, gr_cw hM hu (by omega) d1 (by omega) (by omega) er9 (Or.inl ⟨by omega, x_69, g_69.2.2.2⟩) (Or.inr ⟨by omega, rfl, rfl⟩) (Or.inl ⟨by omega, x_121, g_121.2.2.2⟩) (by have e7 := x_139; rw [show J_121 166 (0 + u) = J 166 (0 + u) from ((q_121).2.1 u hu.1 hu.2).1.1] at e7; exact e7)⟩⟩
          · refine tz_aload_n (pc := 84) dX12_solved_84 rfl rfl ?_
            refine tz_aload_n (pc := 85) dX12_solved_85 rfl rfl ?_
            refine tz_iload (pc := 86) dX12_solved_86 rfl ?_
            refine tz_iconst (pc := 88) dX12_solved_88 ?_
            have l_89 := (q_69).1.2
            have tt_89 := (q_69).1.1.told
            refine tz_cV (pc := 89) (m_arg hl n _ _ _ (by omega) (by decide) 0 0 0 s m_69 (q_69).1.1 (by omega) (by omega)) vl_X12_88 dX12_solved_89 o_164 rfl rfl (Nat.le_of_ble_eq_true rfl) ⟨(show 0 + 1 ≤ 5 + 1 * (r9 + 1) by omega), (show 8 + (3 + 11) + 40 * (0) ≤ 40 * (5 + 1 * (r9 + 1)) by omega)⟩ rfl rfl (Nat.le_of_ble_eq_true rfl) (Nat.le_of_ble_eq_true rfl) (fun r9 J_89 hq9 => ?_)
            obtain ⟨z_89, rfl, hz_89, rfl, hv_89⟩ := hq9
            have he_89 : J_69 167 (3 * (0 + u) + 1) = J 167 (3 * (0 + u) + 1) := ((q_69).2.1 u hu.1 hu.2).2 1 (by omega) (by omega)
            rw [he_89] at hv_89
            obtain rfl : J 167 (3 * (0 + u) + 1) = z_89 := hv_89
            refine tz_iload_n (pc := 92) dX12_solved_92 rfl rfl ?_
            refine tz_iconst (pc := 93) dX12_solved_93 ?_
            refine tz_iadd (pc := 94) (v := y + 1) dX12_solved_94 rfl ?_
            have l0_95 := (q_69).1.2
            have t0_95 := (q_69).1.1.told
            have a_95 := hM.arg (t := u) (i := 1) hu (by omega)
            refine tz_cV (pc := 95) (ih _ _ _ (by omega) (by omega) s m_69 m0 ρ (q_69).1.1 (((q_69).2.2.1.2.2.1 9 rfl).trans hs) (hU.mg (q_69) ⟨rfl, rfl, rfl⟩) (by omega) (by omega) (by omega) (hρ.mg hm (q_69)) (by omega)) vl_X12_183 dX12_solved_95 o_164 rfl rfl (Nat.le_of_ble_eq_true rfl) ⟨(show (5 + 1 * r9) + 1 ≤ 5 + 1 * (r9 + 1) by omega), (show 8 + (9 + 11) + 40 * ((5 + 1 * r9)) ≤ 40 * (5 + 1 * (r9 + 1)) by omega)⟩ rfl rfl (Nat.le_of_ble_eq_true rfl) (Nat.le_of_ble_eq_true rfl) (fun r9 J_95 hq9 => ?_)
            obtain ⟨z_95, rfl, hz_95, m_95, g_95, h_95, x_95⟩ := hq9
            have q_95 := MG.tr q_69 g_95
            have f_95 := g_95.2.2.2
            have l_95 := g_95.1.2
            have w_95 : J_69 167 (3 * (0 + u) + 1) = J 167 (3 * (0 + u) + 1) := ((q_69).2.1 u hu.1 hu.2).2 1 (by decide) (by decide)
            rw [show (7 - (y + 1)).toNat = (7 - y).toNat - 1 from by omega, ← w_95] at x_95
            refine tz_goto (pc := 98) (tgt := 102) dX12_solved_98 (by decide) ?_
            refine tz_istore (pc := 102) (L2 := [_, _, _, _, _, _, _, _, _]) dX12_solved_102 (by decide) rfl ?_
            refine tz_iload (pc := 104) dX12_solved_104 rfl ?_
            refine tz_iconst (pc := 106) dX12_solved_106 ?_
            refine tz_icmp_le (pc := 107) (tgt := 127) dX12_solved_107 (by decide) (by omega) (by decide) (fun h_107 => ?_) (fun h_107 => ?_)
            · refine tz_iconst (pc := 127) dX12_solved_127 ?_
              refine tz_istore (pc := 128) (L2 := [_, _, _, _, _, _, _, _, _]) dX12_solved_128 (by decide) rfl ?_
              refine tz_aload_n (pc := 130) dX12_solved_130 rfl rfl ?_
              refine tz_iload (pc := 131) dX12_solved_131 rfl ?_
              refine tz_iload (pc := 133) dX12_solved_133 rfl ?_
              refine tz_iload (pc := 135) dX12_solved_135 rfl ?_
              refine tz_iload (pc := 137) dX12_solved_137 rfl ?_
              have l0_139 := (q_95).1.2
              have t0_139 := (q_95).1.1.told
              refine tz_cV (pc := 139) (o_remade hl n _ _ _ _ _ (by omega) (by omega) (by omega) (by omega) s m_95 (q_95).1.1 (((q_95).2.2.1.2.2.1 9 rfl).trans hs) (by omega) (fun q9 => by have e9 := (q_95).ar hu ((q_95).2.2.1.2.2.2 170 rfl); rw [e9]; omega)) vl_X12_152 dX12_solved_139 o_164 rfl rfl (Nat.le_of_ble_eq_true rfl) ⟨(show 3 + 1 ≤ 5 + 1 * (r9 + 1) by omega), (show 8 + (5 + 11) + 40 * (3) ≤ 40 * (5 + 1 * (r9 + 1)) by omega)⟩ rfl rfl (Nat.le_of_ble_eq_true rfl) (Nat.le_of_ble_eq_true rfl) (fun r9 J_139 hq9 => ?_)
              obtain ⟨z_139, rfl, hz_139, m_139, g_139, h_139, x_139⟩ := hq9
              have q_139 := MG.tr q_95 g_139
              have f_139 := g_139.2.2.2
              have l_139 := g_139.1.2
              exact tz_iret (pc := 142) (z := z_139) dX12_solved_142 rfl (Nat.le_of_ble_eq_true rfl) (Nat.le_of_ble_eq_true rfl) ⟨Nat.le_refl _, Nat.le_add_right _ _⟩ ⟨_, rfl, (by omega), ⟨m_139, q_139, h_139, gr_cw hM hu (by omega) d1 (by omega) (by omega) er9 (Or.inl ⟨by omega, x_69, g_69.2.2.2⟩) (Or.inl ⟨by omega, x_95, g_95.2.2.2⟩) (Or.inr ⟨by omega, rfl, rfl⟩) (by have e7 := x_139; rw [show J_95 166 (0 + u) = J 166 (0 + u) from ((q_95).2.1 u hu.1 hu.2).1.1] at e7; exact e7)⟩⟩
            · refine tz_aload_n (pc := 110) dX12_solved_110 rfl rfl ?_
              refine tz_aload_n (pc := 111) dX12_solved_111 rfl rfl ?_
              refine tz_iload (pc := 112) dX12_solved_112 rfl ?_
              refine tz_iconst (pc := 114) dX12_solved_114 ?_
              have l_115 := (q_95).1.2
              have tt_115 := (q_95).1.1.told
              refine tz_cV (pc := 115) (m_arg hl n _ _ _ (by omega) (by decide) 0 0 0 s m_95 (q_95).1.1 (by omega) (by omega)) vl_X12_88 dX12_solved_115 o_164 rfl rfl (Nat.le_of_ble_eq_true rfl) ⟨(show 0 + 1 ≤ 5 + 1 * (r9 + 1) by omega), (show 8 + (3 + 11) + 40 * (0) ≤ 40 * (5 + 1 * (r9 + 1)) by omega)⟩ rfl rfl (Nat.le_of_ble_eq_true rfl) (Nat.le_of_ble_eq_true rfl) (fun r9 J_115 hq9 => ?_)
              obtain ⟨z_115, rfl, hz_115, rfl, hv_115⟩ := hq9
              have he_115 : J_95 167 (3 * (0 + u) + 2) = J 167 (3 * (0 + u) + 2) := ((q_95).2.1 u hu.1 hu.2).2 2 (by omega) (by omega)
              rw [he_115] at hv_115
              obtain rfl : J 167 (3 * (0 + u) + 2) = z_115 := hv_115
              refine tz_iload_n (pc := 118) dX12_solved_118 rfl rfl ?_
              refine tz_iconst (pc := 119) dX12_solved_119 ?_
              refine tz_iadd (pc := 120) (v := y + 1) dX12_solved_120 rfl ?_
              have l0_121 := (q_95).1.2
              have t0_121 := (q_95).1.1.told
              have a_121 := hM.arg (t := u) (i := 2) hu (by omega)
              refine tz_cV (pc := 121) (ih _ _ _ (by omega) (by omega) s m_95 m0 ρ (q_95).1.1 (((q_95).2.2.1.2.2.1 9 rfl).trans hs) (hU.mg (q_95) ⟨rfl, rfl, rfl⟩) (by omega) (by omega) (by omega) (hρ.mg hm (q_95)) (by omega)) vl_X12_183 dX12_solved_121 o_164 rfl rfl (Nat.le_of_ble_eq_true rfl) ⟨(show (5 + 1 * r9) + 1 ≤ 5 + 1 * (r9 + 1) by omega), (show 8 + (9 + 11) + 40 * ((5 + 1 * r9)) ≤ 40 * (5 + 1 * (r9 + 1)) by omega)⟩ rfl rfl (Nat.le_of_ble_eq_true rfl) (Nat.le_of_ble_eq_true rfl) (fun r9 J_121 hq9 => ?_)
              obtain ⟨z_121, rfl, hz_121, m_121, g_121, h_121, x_121⟩ := hq9
              have q_121 := MG.tr q_95 g_121
              have f_121 := g_121.2.2.2
              have l_121 := g_121.1.2
              have w_121 : J_95 167 (3 * (0 + u) + 2) = J 167 (3 * (0 + u) + 2) := ((q_95).2.1 u hu.1 hu.2).2 2 (by decide) (by decide)
              rw [show (7 - (y + 1)).toNat = (7 - y).toNat - 1 from by omega, ← w_121] at x_121
              refine tz_goto (pc := 124) (tgt := 128) dX12_solved_124 (by decide) ?_
              refine tz_istore (pc := 128) (L2 := [_, _, _, _, _, _, _, _, _]) dX12_solved_128 (by decide) rfl ?_
              refine tz_aload_n (pc := 130) dX12_solved_130 rfl rfl ?_
              refine tz_iload (pc := 131) dX12_solved_131 rfl ?_
              refine tz_iload (pc := 133) dX12_solved_133 rfl ?_
              refine tz_iload (pc := 135) dX12_solved_135 rfl ?_
              refine tz_iload (pc := 137) dX12_solved_137 rfl ?_
              have l0_139 := (q_121).1.2
              have t0_139 := (q_121).1.1.told
              refine tz_cV (pc := 139) (o_remade hl n _ _ _ _ _ (by omega) (by omega) (by omega) (by omega) s m_121 (q_121).1.1 (((q_121).2.2.1.2.2.1 9 rfl).trans hs) (by omega) (fun q9 => by have e9 := (q_121).ar hu ((q_121).2.2.1.2.2.2 170 rfl); rw [e9]; omega)) vl_X12_152 dX12_solved_139 o_164 rfl rfl (Nat.le_of_ble_eq_true rfl) ⟨(show 3 + 1 ≤ 5 + 1 * (r9 + 1) by omega), (show 8 + (5 + 11) + 40 * (3) ≤ 40 * (5 + 1 * (r9 + 1)) by omega)⟩ rfl rfl (Nat.le_of_ble_eq_true rfl) (Nat.le_of_ble_eq_true rfl) (fun r9 J_139 hq9 => ?_)
              obtain ⟨z_139, rfl, hz_139, m_139, g_139, h_139, x_139⟩ := hq9
              have q_139 := MG.tr q_121 g_139
              have f_139 := g_139.2.2.2
              have l_139 := g_139.1.2
              exact tz_iret (pc := 142) (z := z_139) dX12_solved_142 rfl (Nat.le_of_ble_eq_true rfl) (Nat.le_of_ble_eq_true rfl) ⟨Nat.le_refl _, Nat.le_add_right _ _⟩ ⟨_, rfl, (by omega), ⟨m_139, q_139, h_139, gr_cw hM hu (by omega) d1 (by omega) (by omega) er9 (Or.inl ⟨by omega, x_69, g_69.2.2.2⟩) (Or.inl ⟨by omega, x_95, g_95.2.2.2⟩) (Or.inl ⟨by omega, x_121, g_121.2.2.2⟩) (by have e7 := x_139; rw [show J_121 166 (0 + u) = J 166 (0 + u) from ((q_121).2.1 u hu.1 hu.2).1.1] at e7; exact e7)⟩⟩
      · have rv9 := And.intro (hρ x hxv).1 ((hρ x hxv).2.1 (by rw [t_2]; omega))
        rw [t_2] at rv9
        refine tz_aload_n (pc := 26) dX12_solved_26 rfl rfl ?_
        refine tz_aload_n (pc := 27) dX12_solved_27 rfl rfl ?_
        refine tz_fR (pc := 28) dX12_solved_28 fl_X12_56 r_164_27 ?_
        refine tz_iload_n (pc := 31) dX12_solved_31 rfl rfl ?_
        refine tz_aL (pc := 32) (z := z_2) (v := (J 179 z_2)) dX12_solved_32 a_179 rfl (by omega) (Eq.trans (congrFun (show J_8 179 = J 179 by rw [← d1]; exact zup_nc (by decide)) z_2) rfl) (fun r_32 => ?_)
        have l0_33 := (q_8).1.2
        have t0_33 := (q_8).1.1.told
        refine tz_cV (pc := 33) (o_varTerm hl n _ _ (by omega) s m (q_8).1.1 (((q_8).2.2.1.2.2.1 9 rfl).trans hs) (by omega)) vl_X12_180 dX12_solved_33 o_164 rfl rfl (Nat.le_of_ble_eq_true rfl) ⟨(show 3 + 1 ≤ 5 + 1 * (r9 + 1) by omega), (show 8 + (2 + 11) + 40 * (3) ≤ 40 * (5 + 1 * (r9 + 1)) by omega)⟩ rfl rfl (Nat.le_of_ble_eq_true rfl) (Nat.le_of_ble_eq_true rfl) (fun r9 J_33 hq9 => ?_)
        obtain ⟨z_33, rfl, hz_33, x_33, m_33, g_33, h_33⟩ := hq9
        have q_33 := MG.tr q_8 g_33
        have f_33 := g_33.2.2.2
        have l_33 := g_33.1.2
        exact tz_iret (pc := 36) (z := z_33) dX12_solved_36 rfl (Nat.le_of_ble_eq_true rfl) (Nat.le_of_ble_eq_true rfl) ⟨Nat.le_refl _, Nat.le_add_right _ _⟩ ⟨_, rfl, (by omega), ⟨m_33, q_33, h_33, (by have f8 : J 164 21 = 0 := (by omega); have w9 : (tb0 J_33, z_33) = (tb0 J_8, ρ x) := (by rw [← (tm_fv q_8.1.1 (t := ρ x) (v := J 179 z_2) (by have := rv9.1.1; have := rv9.1.2; omega) (by omega) (by rw [(q_8.2.1 _ rv9.1.1.1 (by have := rv9.1.1; have := rv9.1.2; omega)).1.1]; exact rv9.2)).2 z21_8]; exact Prod.ext x_33.1 x_33.2); have s9 : grO ρ (7 - y).toNat (tb0 J) x = (tb0 J_8, ρ x) := (by rw [show (7 - y).toNat = (6 - y).toNat + 1 from by omega, grO_s, if_pos (show tb0 J 164 21 = 0 from f8), (hM.oa (t := ρ x) (by have := rv9.1.1; have := rv9.1.2; omega)).1, if_pos (by omega), tb0_2z d1 f8]); rw [s9]; exact ⟨fun _ => w9, fun n9 => by have q7 : tb0 J_33 = tb0 J_8 := (Prod.mk.inj w9).1; have q6 : J_33 164 21 = J_8 164 21 := congrFun (congrFun q7 164) 21; omega⟩)⟩⟩
    · refine tz_if_eqF (pc := 11) (tgt := 16) (by decide) dX12_solved_11 (by decide) (by decide) ?_
      refine tz_iconst (pc := 14) dX12_solved_14 ?_
      exact tz_iret (pc := 15) (z := 0) dX12_solved_15 rfl (Nat.le_of_ble_eq_true rfl) (Nat.le_of_ble_eq_true rfl) ⟨Nat.le_refl _, Nat.le_add_right _ _⟩ ⟨_, rfl, (by decide), ⟨m, q_8, fun q9 => by omega, fun q9 => by omega, fun _ => (Decidable.em (J 164 21 = 0)).elim (fun f9 => by rw [show (7 - y).toNat = 0 from by omega]; exact grO_0f) (fun f9 => grO_f (show ¬ tb0 J 164 21 = 0 from f9))⟩⟩

theorem x_solved {l : Launch} {G : tb_G} (hl : l.stackTraces = false) (n : Nat) (J : zJ) (x y : Int) (hr_x : -2147483648 ≤ x ∧ x < 2147483648) (hr_y : -2147483648 ≤ y ∧ y < 2147483648) (s m m0 : Int) (ρ : Int → Int) (hM : MS J 0 0 0 s m) (hs : J 164 9 = s) (hU : UF J 400 m0) (hm : m0 ≤ m) (hx : 0 ≤ x ∧ x < m0) (hy : 0 ≤ y ∧ y ≤ 7) (hρ : mRHO J m0 ρ) : tz_Ok l G M_X12_solved 13 0 0 [.ref 164, zi x, zi y] n J (zqi (fun z J' => ∃ m', MG [] [] (fun _ => false) J' J 0 0 0 s m m' ∧ (J' 164 21 = 0 → 0 ≤ z ∧ z < m') ∧ WKR J' z (grO ρ (7 - y).toNat (tb0 J) x))) zN := x_solvedR hl n 8 J x y hr_x hr_y s m m0 ρ hM hs hU hm hx hy hρ (by omega)
