set_option maxHeartbeats 4000000 in
set_option maxRecDepth 100000 in
theorem m_canBe {l : Launch} {G : tb_G} (hl : l.stackTraces = false) (n : Nat) (J : zJ) (x : Int) (y : Int) (hr_x : -2147483648 ≤ x ∧ x < 2147483648) (hr_y : -2147483648 ≤ y ∧ y < 2147483648) (b r d s m : Int) (hM : MS J b r d s m) (hx : 0 ≤ x ∧ x < m) (hy : 0 ≤ y ∧ y < m) : tz_Ok l G M_X12_canBeAlike 808 0 0 [.ref 164, zi x, zi y] n J (zqi (fun z J' => (z = 0 ∨ z = 1) ∧ zOf (zbut [164, 177, 178, 179, 180]) J' J ∧ ∀ k, ¬ k = 30 → J' 164 k = J 164 k)) zN := by
  refine tz_Ok.of hl (by decide +kernel) rfl (tb_c1 rfl) (Nat.le_of_ble_eq_true rfl) ?_
  show tz_At l G M_X12_canBeAlike (tb_rm 808 0 0) none (tb_ZM G 0 0 (zQ n 0 (zqi (fun z J' => (z = 0 ∨ z = 1) ∧ zOf (zbut [164, 177, 178, 179, 180]) J' J ∧ ∀ k, ¬ k = 30 → J' 164 k = J 164 k))) (zX n 0 zN)) 0 0 n J 0 [some (.ref 164), some (zi x), some (zi y)] []
  obtain ⟨hM1, hM2, hM3, hM4, hM5, hM6⟩ := id hM
  have hT := hM.told
  refine tz_aload_n (pc := 0) dX12_canBeAlike_0 rfl rfl ?_
  refine tz_iload_n (pc := 1) dX12_canBeAlike_1 rfl rfl ?_
  refine tz_sipush (pc := 2) dX12_canBeAlike_2 (by decide) ?_
  refine tz_iload_n (pc := 5) dX12_canBeAlike_5 rfl rfl ?_
  refine tz_iadd (pc := 6) (v := 400 + y) dX12_canBeAlike_6 rfl ?_
  refine tz_cV (pc := 7) (m_unifies hl n _ _ _ (by omega) (by omega) b r d s m 800 hM (Or.inr rfl) (by omega) (by omega)) vl_X12_189 dX12_canBeAlike_7 o_164 rfl rfl (Nat.le_of_ble_eq_true rfl) ⟨(Nat.le_of_ble_eq_true rfl), (Nat.le_of_ble_eq_true rfl)⟩ rfl rfl (Nat.le_of_ble_eq_true rfl) (Nat.le_of_ble_eq_true rfl) (fun r9 J_7 hq9 => ?_)
  obtain ⟨z_7, rfl, hz_7, -, -, g1, g2⟩ := hq9
  refine tz_iconst (pc := 10) dX12_canBeAlike_10 ?_
  refine tz_icmp_ne (pc := 11) (tgt := 18) dX12_canBeAlike_11 (by decide) (by omega) (by decide) (fun h_11 => ?_) (fun h_11 => ?_)
  · refine tz_iconst (pc := 18) dX12_canBeAlike_18 ?_
    exact tz_zret (pc := 19) (z := 0) dX12_canBeAlike_19 rfl (Or.inl rfl) (Nat.le_of_ble_eq_true rfl) (Nat.le_of_ble_eq_true rfl) ⟨Nat.le_refl _, Nat.le_add_right _ _⟩ ⟨_, rfl, (by decide), ⟨by omega, g1, g2⟩⟩
  · refine tz_iconst (pc := 14) dX12_canBeAlike_14 ?_
    refine tz_goto (pc := 15) (tgt := 19) dX12_canBeAlike_15 (by decide) ?_
    exact tz_zret (pc := 19) (z := 1) dX12_canBeAlike_19 rfl (Or.inr rfl) (Nat.le_of_ble_eq_true rfl) (Nat.le_of_ble_eq_true rfl) ⟨Nat.le_refl _, Nat.le_add_right _ _⟩ ⟨_, rfl, (by decide), ⟨by omega, g1, g2⟩⟩

theorem MG.deep {J1 J : zJ} {b r d s m : Int} (h : MS J b r d s m) (f : zOf (zbut [164]) J1 J ∧ ∀ k, ¬ k = 21 → J1 164 k = J 164 k) (hz : J1 164 21 = 0 → J 164 21 = 0) : MG [] [] (fun _ => false) J1 J b r d s m m :=
  ⟨⟨h.of ⟨f.2 _ (by decide), f.2 _ (by decide), f.2 _ (by decide)⟩ (by rw [f.1 165 rfl]) (f.1 166 rfl) (f.1 167 rfl) (f.1 168 rfl) (f.1 170 rfl), Int.le_refl _⟩, fun t _ _ => ⟨⟨by rw [f.1 166 rfl], by rw [f.1 168 rfl]⟩, fun i _ _ => by rw [f.1 167 rfl]⟩, ⟨⟨fun k _ => ⟨by rw [f.1 166 rfl], by rw [f.1 168 rfl]⟩, fun k _ => by rw [f.1 167 rfl]⟩, fun k _ _ => by rw [f.1 165 rfl], fun k hk => f.2 k (fun e => by subst e; simp at hk), f.1.mono (zbut_sub (fun c hc => by simp at hc ⊢; omega))⟩, hz⟩
theorem UF.mg {X : List Nat} {F : List Int} {rp : Int → Bool} {J' J : zJ} {b r d s m m' c m0 : Int} (h : UF J c m0) (g : MG X F rp J' J b r d s m m') (hX : X.contains 177 = false ∧ X.contains 178 = false ∧ X.contains 179 = false) : UF J' c m0 := by
  have fx : ∀ c, ¬ c = 164 → ¬ c = 165 → ¬ c = 166 → ¬ c = 167 → ¬ c = 168 → X.contains c = false → J' c = J c := fun c a1 a2 a3 a4 a5 a6 => g.2.2.1.2.2.2 c (by
    simp only [zbut, List.contains_cons, Bool.or_eq_true, Bool.not_eq_true', Bool.or_eq_false_iff, beq_eq_false_iff_ne]
    exact ⟨a1, a2, a3, a4, a5, a6⟩)
  exact h.of (fx 177 (by decide) (by decide) (by decide) (by decide) (by decide) hX.1) (fx 178 (by decide) (by decide) (by decide) (by decide) (by decide) hX.2.1) (fx 179 (by decide) (by decide) (by decide) (by decide) (by decide) hX.2.2)
def rB : Int → Bool := fun k => decide (1 ≤ k ∧ k ≤ 8)
theorem MG.rb {X : List Nat} {F : List Int} {J' J : zJ} {b r d s m m' k v : Int} (g : MG X F rB J' J b r d s m m') (hk : 1 ≤ k ∧ k ≤ 8) : MG X F rB (zup J' 165 k v) J b r d s m m' := by
  have hr := g.1.1.1
  unfold mode at hr
  have e5 : ∀ q, ¬ q = k → zup J' 165 k v 165 q = J' 165 q := fun q hq => zup_ne hq
  refine ⟨⟨g.1.1.of ⟨rfl, rfl, rfl⟩ (e5 r (by omega)) rfl rfl rfl rfl, g.1.2⟩, g.2.1, ⟨g.2.2.1.1, fun q a c => ?_, g.2.2.1.2.2.1, fun c hc => ?_⟩, g.2.2.2⟩
  · rw [e5 q (fun e => by subst e; unfold rB at c; exact of_decide_eq_false c hk)]
    exact g.2.2.1.2.1 q a c
  · rw [← g.2.2.1.2.2.2 c hc]
    refine zup_nc (fun e => ?_)
    subst e
    simp [zbut] at hc
theorem MG.tr9 {J3 J2 J1 J : zJ} {b r d s m m1 m2 : Int} (g1 : MG [] [] rB J1 J b r d s m m1) (g2 : MG [] [] rB J2 J b r d s m m1) (g : MG [] [] (fun _ => false) J3 J2 b r d s m1 m2) : MG [] [] rB J3 J b r d s m m2 := g2.tr (g.mono (fun _ h => h) (fun _ h => h) (fun _ _ => rfl))
theorem bs_s1 {J1 : zJ} {k m1 : Int} (h : J1 164 21 = 0 → ∀ v, 1 ≤ v → v < 1 + k → 0 ≤ J1 165 v ∧ J1 165 v ≤ m1) (hk : 0 ≤ k) (hm : 0 ≤ m1) : zup J1 165 (1 + k) 0 164 21 = 0 → ∀ v, 1 ≤ v → v < 1 + (k + 1) → 0 ≤ zup J1 165 (1 + k) 0 165 v ∧ zup J1 165 (1 + k) 0 165 v ≤ m1 := fun q v a c => by
  have q1 : J1 164 21 = 0 := q
  have e : zup J1 165 (1 + k) 0 165 v = if v = 1 + k then 0 else J1 165 v := rfl
  rw [e]
  split
  · omega
  · exact h q1 v a (by omega)
theorem bs_s2 {J3 J1 : zJ} {b r d s k m1 m2 z : Int} (h : J1 164 21 = 0 → ∀ v, 1 ≤ v → v < 1 + k → 0 ≤ J1 165 v ∧ J1 165 v ≤ m1) (g : MG [] [] (fun _ => false) J3 (zup J1 165 (1 + k) 0) b r d s m1 m2) (hz : J3 164 21 = 0 → 0 ≤ z ∧ z < m2) (hk : 0 ≤ k ∧ k < 8) : zup J3 165 (1 + k) (zw (1 + z)) 164 21 = 0 → ∀ v, 1 ≤ v → v < 1 + (k + 1) → 0 ≤ zup J3 165 (1 + k) (zw (1 + z)) 165 v ∧ zup J3 165 (1 + k) (zw (1 + z)) 165 v ≤ m2 := fun q v a c => by
  have q3 : J3 164 21 = 0 := q
  have q1 : J1 164 21 = 0 := g.2.2.2 q3
  have hm := g.1.2
  have ht := g.1.1.told
  have hr := g.1.1.1
  unfold mode at hr
  have e : zup J3 165 (1 + k) (zw (1 + z)) 165 v = if v = 1 + k then zw (1 + z) else J3 165 v := rfl
  rw [e]
  have z1 := hz q3
  split
  · rw [zw_eq (by omega)]
    omega
  · next hv =>
    have e1 : J3 165 v = J1 165 v := by
      by_cases er : v = r
      · omega
      · rw [g.2.2.1.2.1 v er rfl]
        exact zup_ne hv
    rw [e1]
    have := h q1 v a (by omega)
    omega
