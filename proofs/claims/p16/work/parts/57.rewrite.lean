def FR (J : zJ) (m : Int) : Prop := (0 ≤ J 158 7 ∧ J 158 7 ≤ 612) ∧ ∀ f, 0 ≤ f → f < J 158 7 → (0 ≤ J 159 f ∧ J 159 f < m) ∧ (0 ≤ J 160 f ∧ J 160 f ≤ 4) ∧ ∀ i, 0 ≤ i → i < J 160 f → i < J 8 (J 159 f) → J 161 (f * 3 + i) < m
def WR (J' J : zJ) (m m' : Int) : Prop := GX [19, 140, 158, 159, 160, 161] J' J m m' ∧ LI (J' 19) m' ∧ FR J' m'
theorem WR.rf {J : zJ} {m : Int} (C : CT J m) (hm : J 6 12 = m) (hL : LI (J 19) m) (hF : FR J m) : WR J J m m := ⟨GX.rf C hm, hL, hF⟩
theorem WR.tr {J3 J2 J1 : zJ} {m1 m2 m3 : Int} (g : WR J2 J1 m1 m2) (h : WR J3 J2 m2 m3) : WR J3 J1 m1 m3 := ⟨g.1.tr h.1, h.2⟩
theorem FR.of {J' J : zJ} {m m' : Int} (h : FR J m) (hm : m ≤ m') (e8 : ∀ t, 0 ≤ t → t < m → J' 8 t = J 8 t) (e5 : J' 158 7 = J 158 7) (e9 : J' 159 = J 159) (e0 : J' 160 = J 160) (e1 : J' 161 = J 161) : FR J' m' := by
  unfold FR
  rw [e5, e9, e0, e1]
  refine ⟨h.1, fun f a b => ?_⟩
  obtain ⟨h1, h2, h3⟩ := h.2 f a b
  refine ⟨by omega, h2, fun i p q r => ?_⟩
  rw [e8 _ h1.1 h1.2] at r
  have := h3 i p q r
  omega
theorem WR.made {J2 J1 J : zJ} {m m1 m2 : Int} (g : WR J1 J m m1) (h : GR J2 J1 m1 m2) : WR J2 J m m2 := ⟨g.1.tr h.x, by rw [h.2.2.2.2 19 rfl]; exact g.2.1.mono h.1, g.2.2.of h.1 (fun t a b => (h.2.2.2.1.1 t a b).2.1) (congrFun (h.2.2.2.2 158 rfl) 7) (h.2.2.2.2 159 rfl) (h.2.2.2.2 160 rfl) (h.2.2.2.2 161 rfl)⟩
/-- the ledger or the matcher's row alone -/
theorem WR.led {J2 J1 J : zJ} {m m1 : Int} (g : WR J1 J m m1) (f : zOf (zbut [19, 140]) J2 J1) (hL : LI (J2 19) m1) : WR J2 J m m1 := ⟨g.1.off rfl (f.mono (fun c hc => by simp [zbut] at hc ⊢; omega)), hL, g.2.2.of (Int.le_refl _) (fun t _ _ => congrFun (f 8 rfl) t) (congrFun (f 158 rfl) 7) (f 159 rfl) (f 160 rfl) (f 161 rfl)⟩
theorem WR.push {J1 J : zJ} {m m1 t : Int} (g : WR J1 J m m1) (ht : 0 ≤ t ∧ t < m1) (h9 : J1 158 7 < 612) : WR (zup (zup (zup J1 159 (J1 158 7) t) 160 (J1 158 7) 0) 158 7 (J1 158 7 + 1)) J m m1 := by
  refine ⟨g.1.off rfl (zOf.up rfl (zOf.up rfl (zOf.up rfl zOf.rf))), g.2.1, ?_⟩
  have e5 : zup (zup (zup J1 159 (J1 158 7) t) 160 (J1 158 7) 0) 158 7 (J1 158 7 + 1) 158 7 = J1 158 7 + 1 := zup_at
  have e9 : ∀ f, zup (zup (zup J1 159 (J1 158 7) t) 160 (J1 158 7) 0) 158 7 (J1 158 7 + 1) 159 f = if f = J1 158 7 then t else J1 159 f := fun f => rfl
  have e0 : ∀ f, zup (zup (zup J1 159 (J1 158 7) t) 160 (J1 158 7) 0) 158 7 (J1 158 7 + 1) 160 f = if f = J1 158 7 then 0 else J1 160 f := fun f => rfl
  have e1 : zup (zup (zup J1 159 (J1 158 7) t) 160 (J1 158 7) 0) 158 7 (J1 158 7 + 1) 161 = J1 161 := rfl
  have e8 : zup (zup (zup J1 159 (J1 158 7) t) 160 (J1 158 7) 0) 158 7 (J1 158 7 + 1) 8 = J1 8 := rfl
  have h0 := g.2.2.1
  unfold FR
  rw [e5, e1, e8]
  refine ⟨by omega, fun f a b => ?_⟩
  rw [e9, e0]
  by_cases e : f = J1 158 7
  · rw [if_pos e, if_pos e]
    exact ⟨ht, by omega, fun i p q => by omega⟩
  · rw [if_neg e, if_neg e]
    exact g.2.2.2 f a (by omega)
theorem FR.pop {J : zJ} {m f : Int} (h : FR J m) (hf : 0 ≤ f ∧ f < J 158 7) : FR (zup J 158 7 f) m := by
  have e5 : zup J 158 7 f 158 7 = f := zup_at
  have h0 := h.1
  unfold FR
  rw [e5]
  exact ⟨by omega, fun k a b => h.2 k a (by omega)⟩
theorem FR.part {J : zJ} {m f s v : Int} (h : FR J m) (hf : 0 ≤ f ∧ f < J 158 7) (hs : J 160 f = s) (h3 : s < 3) (hv : v < m) : FR (zup (zup J 161 (f * 3 + s) v) 160 f (s + 1)) m := by
  have e0 : ∀ k, zup (zup J 161 (f * 3 + s) v) 160 f (s + 1) 160 k = if k = f then s + 1 else J 160 k := fun k => rfl
  have e1 : ∀ k, zup (zup J 161 (f * 3 + s) v) 160 f (s + 1) 161 k = if k = f * 3 + s then v else J 161 k := fun k => rfl
  unfold FR
  refine ⟨h.1, fun k a b => ?_⟩
  rw [e0]
  obtain ⟨h1, h2, h4⟩ := h.2 k a b
  have e9 : zup (zup J 161 (f * 3 + s) v) 160 f (s + 1) 159 k = J 159 k := rfl
  have e8 : zup (zup J 161 (f * 3 + s) v) 160 f (s + 1) 8 = J 8 := rfl
  rw [e9, e8]
  by_cases e : k = f
  · rw [if_pos e]
    subst e
    refine ⟨h1, by omega, fun i p q r => ?_⟩
    rw [e1]
    split
    · exact hv
    · exact h4 i p (by omega) r
  · rw [if_neg e]
    refine ⟨h1, h2, fun i p q r => ?_⟩
    rw [e1]
    split
    · exact hv
    · exact h4 i p q r
theorem FR.step {J : zJ} {m f x : Int} (h : FR J m) (hf : 0 ≤ f ∧ f < J 158 7) (hs : J 8 (J 159 f) ≤ J 160 f) : FR (zup (zup J 158 8 x) 160 f 4) m := by
  have e0 : ∀ k, zup (zup J 158 8 x) 160 f 4 160 k = if k = f then 4 else J 160 k := fun k => rfl
  unfold FR
  refine ⟨h.1, fun k a b => ?_⟩
  obtain ⟨h1, h2, h4⟩ := h.2 k a b
  rw [e0]
  refine ⟨h1, by split <;> omega, fun i p q r => ?_⟩
  by_cases e : k = f
  · subst e
    exact h4 i p (Int.lt_of_lt_of_le r hs) r
  · rw [if_neg e] at q
    exact h4 i p q r
theorem zof_aM {J : zJ} {t a : Int} : zOf (zbut [19]) (zaM J t a) J := by
  unfold zaM
  split
  · exact zOf.up rfl (zOf.up rfl (zOf.up rfl zOf.rf))
  · exact zOf.rf
theorem zof_dM {J : zJ} {w : Int} : zOf (zbut [19]) (zdM J w) J := zOf.up rfl (fun c hc => by
  have : ¬ c = 19 := fun e => by rw [e] at hc; cases hc
  simp [zdm, this])
theorem zof_rM {J : zJ} {t a : Int} : zOf (zbut [19]) (zrM J t a) J := by
  unfold zrM
  split
  · exact zOf.rf
  · split
    · exact zof_aM.tr zof_dM
    · exact zof_aM
theorem WR.rec {J1 J J2 : zJ} {m m1 t z : Int} (g : WR J1 J m m1) (ht : 0 ≤ t ∧ t < m1) (h : (z = -1 ∧ J1 = J2 ∧ ∀ i, 0 ≤ i → i < J1 19 6 → ¬ J1 19 (43 + i) = t) ∨ ∃ i, (0 ≤ i ∧ i < J1 19 6 ∧ J1 19 (43 + i) = t) ∧ (∀ q, 0 ≤ q → q < i → ¬ J1 19 (43 + q) = t) ∧ J1 19 (52 + i) = z ∧ zaM (zdM (zup J1 19 2 (zw (J1 19 2 + 1))) i) t z = J2) : WR J2 J m m1 ∧ -1 ≤ z ∧ z < m1 := by
  rcases h with ⟨hz, rfl, -⟩ | ⟨i, h1, -, h3, rfl⟩
  · exact ⟨g, by omega⟩
  · have hz := (g.2.1.2.2.2.2 i h1.1 h1.2.1).2
    rw [h3] at hz
    refine ⟨g.led ((zof_aM.tr (zof_dM.tr (zOf.up rfl zOf.rf))).mono (fun c hc => by simp [zbut] at hc ⊢; omega)) ?_, by omega⟩
    exact (g.2.1.hits.dM (w := i) ⟨h1.1, h1.2.1⟩).aM ht hz
theorem gOK.r {J : zJ} {m : Int} (h : gOK (J 140) m) : rOK J 140 0 m := fun v a b => by rw [Int.zero_add]; exact h v a b
set_option maxHeartbeats 4000000 in
set_option maxRecDepth 100000 in
theorem c_opened {l : Launch} {G : tb_G} (hl : l.stackTraces = false) (n : Nat) (J : zJ) (t : Int) (hr_t : -2147483648 ≤ t ∧ t < 2147483648) (m : Int) (C : CT J m) (hm : J 6 12 = m) (hL : LI (J 19) m) (hF : FR J m) (ht : t = -3 ∨ (0 ≤ t ∧ t < m)) : tz_Ok l G M_X6_opened 2 0 0 [.ref 158, zi t] n J (zqi (fun z J' => WR J' J m m ∧ -3 ≤ z ∧ z < m)) zN := by
  refine tz_Ok.of hl (by decide +kernel) rfl (tb_c1 rfl) (Nat.le_of_ble_eq_true rfl) ?_
  show tz_At l G M_X6_opened (tb_rm 2 0 0) none (tb_ZM G 0 0 (zQ n 0 (zqi (fun z J' => WR J' J m m ∧ -3 ≤ z ∧ z < m))) (zX n 0 zN)) 0 0 n J 0 [some (.ref 158), some (zi t), none] []
  have hb := C.told
  have h7 := hF.1
  have h6 := hL.1.2.2.2
  refine tz_iload_n (pc := 0) dX6_opened_0 rfl rfl ?_
  refine tz_if_lt (pc := 1) (tgt := 15) dX6_opened_1 (by decide) (by omega) (fun h_1 => ?_) (fun h_1 => ?_)
  · refine tz_iload_n (pc := 15) dX6_opened_15 rfl rfl ?_
    exact tz_iret (pc := 16) (z := t) dX6_opened_16 rfl (Nat.le_of_ble_eq_true rfl) (Nat.le_of_ble_eq_true rfl) ⟨Nat.le_refl _, Nat.le_add_right _ _⟩ ⟨_, rfl, (by omega), ⟨(WR.rf C hm hL hF), by omega⟩⟩
  · refine tz_aload_n (pc := 4) dX6_opened_4 rfl rfl ?_
    refine tz_fR (pc := 5) dX6_opened_5 fl_X6_38 r_158_1 ?_
    refine tz_iload_n (pc := 8) dX6_opened_8 rfl rfl ?_
    refine tz_cV (pc := 9) (c_isVar hl n _ _ (by omega) (by omega)) vl_X6_59 dX6_opened_9 o_6 rfl rfl (Nat.le_of_ble_eq_true rfl) ⟨(Nat.le_of_ble_eq_true rfl), (Nat.le_of_ble_eq_true rfl)⟩ rfl rfl (Nat.le_of_ble_eq_true rfl) (Nat.le_of_ble_eq_true rfl) (fun r9 J_9 hq9 => ?_)
    obtain ⟨z_9, rfl, hz_9, rfl, rfl⟩ := hq9
    by_cases hw_12 : J 7 t < 0
    · rw [show (if J 7 t < 0 then 1 else 0 : Int) = 1 from if_pos hw_12]
      refine tz_if_eqF (pc := 12) (tgt := 17) (by decide) dX6_opened_12 (by decide) (by decide) ?_
      refine tz_iload_n (pc := 15) dX6_opened_15 rfl rfl ?_
      exact tz_iret (pc := 16) (z := t) dX6_opened_16 rfl (Nat.le_of_ble_eq_true rfl) (Nat.le_of_ble_eq_true rfl) ⟨Nat.le_refl _, Nat.le_add_right _ _⟩ ⟨_, rfl, (by omega), ⟨(WR.rf C hm hL hF), by omega⟩⟩
    · rw [show (if J 7 t < 0 then 1 else 0 : Int) = 0 from if_neg hw_12]
      refine tz_if_eqT (pc := 12) (tgt := 17) (by decide) dX6_opened_12 (by decide) (by decide) ?_
      refine tz_aload_n (pc := 17) dX6_opened_17 rfl rfl ?_
      refine tz_fR (pc := 18) dX6_opened_18 fl_X6_28 r_158_0 ?_
      refine tz_fR (pc := 21) dX6_opened_21 fl_X6_65 r_5_1 ?_
      refine tz_iload_n (pc := 24) dX6_opened_24 rfl rfl ?_
      refine tz_cV (pc := 25) (c_recalled hl n _ _ (by omega) (by omega)) vl_X6_69 dX6_opened_25 o_18 rfl rfl (Nat.le_of_ble_eq_true rfl) ⟨(Nat.le_of_ble_eq_true rfl), (Nat.le_of_ble_eq_true rfl)⟩ rfl rfl (Nat.le_of_ble_eq_true rfl) (Nat.le_of_ble_eq_true rfl) (fun r9 J_25 hq9 => ?_)
      obtain ⟨z_25, rfl, hz_25, p_25⟩ := hq9
      obtain ⟨g9, h9⟩ := WR.rec (WR.rf C hm hL hF) (by omega) p_25
      have hF9 := g9.2.2.1
      refine tz_istore_n (pc := 28) (L2 := [_, _, _]) dX6_opened_28 rfl (by decide) rfl ?_
      refine tz_iload_n (pc := 29) dX6_opened_29 rfl rfl ?_
      refine tz_iconst (pc := 30) dX6_opened_30 ?_
      refine tz_icmp_eq (pc := 31) (tgt := 36) dX6_opened_31 (by decide) (by omega) (by decide) (fun h_31 => ?_) (fun h_31 => ?_)
      · refine tz_aload_n (pc := 36) dX6_opened_36 rfl rfl ?_
        refine tz_fI (pc := 37) (kz := 7) (v := (J_25 158 7)) dX6_opened_37 fl_X6_21 i_158_7 rfl rfl (fun r_37 => ?_)
        refine tz_sipush (pc := 40) dX6_opened_40 (by decide) ?_
        refine tz_icmp_lt (pc := 43) (tgt := 49) dX6_opened_43 (by decide) (by omega) (by decide) (fun h_43 => ?_) (fun h_43 => ?_)
        · refine tz_aload_n (pc := 49) dX6_opened_49 rfl rfl ?_
          refine tz_fR (pc := 50) dX6_opened_50 fl_X6_11 r_158_4 ?_
          refine tz_aload_n (pc := 53) dX6_opened_53 rfl rfl ?_
          refine tz_fI (pc := 54) (kz := 7) (v := (J_25 158 7)) dX6_opened_54 fl_X6_21 i_158_7 rfl rfl (fun r_54 => ?_)
          refine tz_iload_n (pc := 57) dX6_opened_57 rfl rfl ?_
          refine tz_aS (pc := 58) (z := (J_25 158 7)) dX6_opened_58 a_159 rfl (by omega) (by omega) ?_
          refine tz_aload_n (pc := 59) dX6_opened_59 rfl rfl ?_
          refine tz_fR (pc := 60) dX6_opened_60 fl_X6_15 r_158_5 ?_
          refine tz_aload_n (pc := 63) dX6_opened_63 rfl rfl ?_
          refine tz_fI (pc := 64) (kz := 7) (v := (J_25 158 7)) dX6_opened_64 fl_X6_21 i_158_7 rfl rfl (fun r_64 => ?_)
          refine tz_iconst (pc := 67) dX6_opened_67 ?_
          refine tz_aS (pc := 68) (z := (J_25 158 7)) dX6_opened_68 a_160 rfl (by omega) (by decide) ?_
          refine tz_aload_n (pc := 69) dX6_opened_69 rfl rfl ?_
          refine tz_dup (pc := 70) dX6_opened_70 rfl ?_
          refine tz_fI (pc := 71) (kz := 7) (v := (J_25 158 7)) dX6_opened_71 fl_X6_21 i_158_7 rfl rfl (fun r_71 => ?_)
          refine tz_iconst (pc := 74) dX6_opened_74 ?_
          refine tz_iadd (pc := 75) (v := (J_25 158 7) + 1) dX6_opened_75 rfl ?_
          refine tz_pI (pc := 76) (kz := 7) dX6_opened_76 fl_X6_21 i_158_7 rfl rfl (by omega) ?_
          refine tz_iconst (pc := 79) dX6_opened_79 ?_
          exact tz_iret (pc := 80) (z := (-1)) dX6_opened_80 rfl (Nat.le_of_ble_eq_true rfl) (Nat.le_of_ble_eq_true rfl) ⟨Nat.le_refl _, Nat.le_add_right _ _⟩ ⟨_, rfl, (by decide), ⟨g9.push (by omega) (by omega), by omega⟩⟩
        · refine tz_bipush (pc := 46) dX6_opened_46 (by decide) ?_
          exact tz_iret (pc := 48) (z := (-2)) dX6_opened_48 rfl (Nat.le_of_ble_eq_true rfl) (Nat.le_of_ble_eq_true rfl) ⟨Nat.le_refl _, Nat.le_add_right _ _⟩ ⟨_, rfl, (by decide), ⟨g9, by omega⟩⟩
      · refine tz_iload_n (pc := 34) dX6_opened_34 rfl rfl ?_
        exact tz_iret (pc := 35) (z := z_25) dX6_opened_35 rfl (Nat.le_of_ble_eq_true rfl) (Nat.le_of_ble_eq_true rfl) ⟨Nat.le_refl _, Nat.le_add_right _ _⟩ ⟨_, rfl, (by omega), ⟨g9, by omega⟩⟩

set_option maxHeartbeats 4000000 in
set_option maxRecDepth 100000 in
theorem c_closedWith {l : Launch} {G : tb_G} (hl : l.stackTraces = false) (n : Nat) (J : zJ) (v : Int) (f : Int) (hr_v : -2147483648 ≤ v ∧ v < 2147483648) (hr_f : -2147483648 ≤ f ∧ f < 2147483648) (m : Int) (C : CT J m) (hm : J 6 12 = m) (hL : LI (J 19) m) (hF : FR J m) (hf : 0 ≤ f ∧ f < J 158 7) (hv : 0 ≤ v ∧ v < m) : tz_Ok l G M_X6_closedWith 2 0 0 [.ref 158, zi v, zi f] n J (zqi (fun z J' => WR J' J m m ∧ z = v)) zN := by
  refine tz_Ok.of hl (by decide +kernel) rfl (tb_c1 rfl) (Nat.le_of_ble_eq_true rfl) ?_
  show tz_At l G M_X6_closedWith (tb_rm 2 0 0) none (tb_ZM G 0 0 (zQ n 0 (zqi (fun z J' => WR J' J m m ∧ z = v))) (zX n 0 zN)) 0 0 n J 0 [some (.ref 158), some (zi v), some (zi f)] []
  have h7 := hF.1
  have ha := (hF.2 f hf.1 hf.2).1
  have h6 := hL.1
  refine tz_aload_n (pc := 0) dX6_closedWith_0 rfl rfl ?_
  refine tz_fR (pc := 1) dX6_closedWith_1 fl_X6_28 r_158_0 ?_
  refine tz_fR (pc := 4) dX6_closedWith_4 fl_X6_65 r_5_1 ?_
  refine tz_aload_n (pc := 7) dX6_closedWith_7 rfl rfl ?_
  refine tz_fR (pc := 8) dX6_closedWith_8 fl_X6_11 r_158_4 ?_
  refine tz_iload_n (pc := 11) dX6_closedWith_11 rfl rfl ?_
  refine tz_aL (pc := 12) (z := f) (v := (J 159 f)) dX6_closedWith_12 a_159 rfl (by omega) rfl (fun r_12 => ?_)
  refine tz_iload_n (pc := 13) dX6_closedWith_13 rfl rfl ?_
  refine tz_cV (pc := 14) (c_remember hl n _ _ _ (by omega) (by omega) (by omega) (by omega)) vl_X6_114 dX6_closedWith_14 o_18 rfl rfl (Nat.le_of_ble_eq_true rfl) ⟨(Nat.le_of_ble_eq_true rfl), (Nat.le_of_ble_eq_true rfl)⟩ rfl rfl (Nat.le_of_ble_eq_true rfl) (Nat.le_of_ble_eq_true rfl) (fun r9 J9 hq9 => ?_)
  obtain ⟨rfl, rfl⟩ := hq9
  refine tz_aload_n (pc := 17) dX6_closedWith_17 rfl rfl ?_
  refine tz_iload_n (pc := 18) dX6_closedWith_18 rfl rfl ?_
  refine tz_pI (pc := 19) (kz := 7) dX6_closedWith_19 fl_X6_21 i_158_7 rfl rfl (by omega) ?_
  refine tz_iload_n (pc := 22) dX6_closedWith_22 rfl rfl ?_
  exact tz_iret (pc := 23) (z := v) dX6_closedWith_23 rfl (Nat.le_of_ble_eq_true rfl) (Nat.le_of_ble_eq_true rfl) ⟨Nat.le_refl _, Nat.le_add_right _ _⟩ ⟨_, rfl, (by omega), ⟨⟨((GX.rf C hm).off rfl (zof_rM.mono (fun c hc => by simp [zbut] at hc ⊢; omega))).off rfl (zOf.up rfl zOf.rf), hL.rM ha hv, (hF.of (Int.le_refl _) (fun t _ _ => congrFun (zof_rM 8 rfl) t) (congrFun (zof_rM 158 rfl) 7) (zof_rM 159 rfl) (zof_rM 160 rfl) (zof_rM 161 rfl)).pop (by rw [congrFun (zof_rM 158 rfl) 7]; exact hf)⟩, rfl⟩⟩

set_option maxHeartbeats 4000000 in
set_option maxRecDepth 100000 in
theorem c_handed {l : Launch} {G : tb_G} (hl : l.stackTraces = false) (n : Nat) (J : zJ) (v : Int) (f : Int) (hr_v : -2147483648 ≤ v ∧ v < 2147483648) (hr_f : -2147483648 ≤ f ∧ f < 2147483648) (m : Int) (C : CT J m) (hm : J 6 12 = m) (hL : LI (J 19) m) (hF : FR J m) (hf : 0 ≤ f ∧ f < J 158 7) (hv : 0 ≤ v ∧ v < m) : tz_Ok l G M_X6_handed 3 0 0 [.ref 158, zi v, zi f] n J (zqi (fun z J' => WR J' J m m ∧ (z = -1 ∨ z = v))) zN := by
  refine tz_Ok.of hl (by decide +kernel) rfl (tb_c1 rfl) (Nat.le_of_ble_eq_true rfl) ?_
  show tz_At l G M_X6_handed (tb_rm 3 0 0) none (tb_ZM G 0 0 (zQ n 0 (zqi (fun z J' => WR J' J m m ∧ (z = -1 ∨ z = v)))) (zX n 0 zN)) 0 0 n J 0 [some (.ref 158), some (zi v), some (zi f), none] []
  have h7 := hF.1
  have ha := hF.2 f hf.1 hf.2
  have ha2 := ha.2.1
  refine tz_aload_n (pc := 0) dX6_handed_0 rfl rfl ?_
  refine tz_fR (pc := 1) dX6_handed_1 fl_X6_15 r_158_5 ?_
  refine tz_iload_n (pc := 4) dX6_handed_4 rfl rfl ?_
  refine tz_aL (pc := 5) (z := f) (v := (J 160 f)) dX6_handed_5 a_160 rfl (by omega) rfl (fun r_5 => ?_)
  refine tz_istore_n (pc := 6) (L2 := [_, _, _, _]) dX6_handed_6 rfl (by decide) rfl ?_
  refine tz_iload_n (pc := 7) dX6_handed_7 rfl rfl ?_
  refine tz_iconst (pc := 8) dX6_handed_8 ?_
  refine tz_icmp_lt (pc := 9) (tgt := 19) dX6_handed_9 (by decide) (by omega) (by decide) (fun h_9 => ?_) (fun h_9 => ?_)
  · refine tz_aload_n (pc := 19) dX6_handed_19 rfl rfl ?_
    refine tz_fR (pc := 20) dX6_handed_20 fl_X6_18 r_158_6 ?_
    refine tz_iload_n (pc := 23) dX6_handed_23 rfl rfl ?_
    refine tz_iconst (pc := 24) dX6_handed_24 ?_
    refine tz_imul (pc := 25) (v := f * 3) dX6_handed_25 rfl ?_
    refine tz_iload_n (pc := 26) dX6_handed_26 rfl rfl ?_
    refine tz_iadd (pc := 27) (v := (f * 3) + (J 160 f)) dX6_handed_27 rfl ?_
    refine tz_iload_n (pc := 28) dX6_handed_28 rfl rfl ?_
    refine tz_aS (pc := 29) (z := ((f * 3) + (J 160 f))) dX6_handed_29 a_161 rfl (by omega) (by omega) ?_
    refine tz_aload_n (pc := 30) dX6_handed_30 rfl rfl ?_
    refine tz_fR (pc := 31) dX6_handed_31 fl_X6_15 r_158_5 ?_
    refine tz_iload_n (pc := 34) dX6_handed_34 rfl rfl ?_
    refine tz_iload_n (pc := 35) dX6_handed_35 rfl rfl ?_
    refine tz_iconst (pc := 36) dX6_handed_36 ?_
    refine tz_iadd (pc := 37) (v := (J 160 f) + 1) dX6_handed_37 rfl ?_
    refine tz_aS (pc := 38) (z := f) dX6_handed_38 a_160 rfl (by omega) (by omega) ?_
    refine tz_iconst (pc := 39) dX6_handed_39 ?_
    exact tz_iret (pc := 40) (z := (-1)) dX6_handed_40 rfl (Nat.le_of_ble_eq_true rfl) (Nat.le_of_ble_eq_true rfl) ⟨Nat.le_refl _, Nat.le_add_right _ _⟩ ⟨_, rfl, (by decide), (by first | exact ⟨g1, Or.inr h1⟩ | exact ⟨⟨(GX.rf C hm).off rfl (zOf.up rfl (zOf.up rfl zOf.rf)), hL, hF.part hf rfl (by omega) hv.2⟩, Or.inl rfl⟩)⟩
  · refine tz_aload_n (pc := 12) dX6_handed_12 rfl rfl ?_
    refine tz_iload_n (pc := 13) dX6_handed_13 rfl rfl ?_
    refine tz_iload_n (pc := 14) dX6_handed_14 rfl rfl ?_
    refine tz_cV (pc := 15) (c_closedWith hl n _ _ _ (by omega) (by omega) m C hm hL hF hf hv) vl_X6_93 dX6_handed_15 o_158 rfl rfl (Nat.le_of_ble_eq_true rfl) ⟨(Nat.le_of_ble_eq_true rfl), (Nat.le_of_ble_eq_true rfl)⟩ rfl rfl (Nat.le_of_ble_eq_true rfl) (Nat.le_of_ble_eq_true rfl) (fun r9 J_15 hq9 => ?_)
    obtain ⟨z_15, rfl, hz_15, g1, h1⟩ := hq9
    exact tz_iret (pc := 18) (z := z_15) dX6_handed_18 rfl (Nat.le_of_ble_eq_true rfl) (Nat.le_of_ble_eq_true rfl) ⟨Nat.le_refl _, Nat.le_add_right _ _⟩ ⟨_, rfl, (by omega), (by first | exact ⟨g1, Or.inr h1⟩ | exact ⟨⟨(GX.rf C hm).off rfl (zOf.up rfl (zOf.up rfl zOf.rf)), hL, hF.part hf rfl (by omega) hv.2⟩, Or.inl rfl⟩)⟩

set_option maxHeartbeats 4000000 in
set_option maxRecDepth 100000 in
theorem c_countStep {l : Launch} {G : tb_G} (hl : l.stackTraces = false) (n : Nat) (J : zJ) (f : Int) (hr_f : -2147483648 ≤ f ∧ f < 2147483648) (m : Int) (C : CT J m) (hm : J 6 12 = m) (hL : LI (J 19) m) (hF : FR J m) (hf : 0 ≤ f ∧ f < J 158 7) (hs : J 8 (J 159 f) ≤ J 160 f) (h8 : 0 < J 158 8) : tz_Ok l G M_X6_countStep 0 0 0 [.ref 158, zi f] n J (zqv (fun J' => WR J' J m m ∧ zOf (zbut [19, 158, 160]) J' J ∧ (∀ k, ¬ k = 3 → J' 19 k = J 19 k))) zN := by
  refine tz_Ok.of hl (by decide +kernel) rfl (tb_c1 rfl) (Nat.le_of_ble_eq_true rfl) ?_
  show tz_At l G M_X6_countStep (tb_rm 0 0 0) none (tb_ZM G 0 0 (zQ n 0 (zqv (fun J' => WR J' J m m ∧ zOf (zbut [19, 158, 160]) J' J ∧ (∀ k, ¬ k = 3 → J' 19 k = J 19 k)))) (zX n 0 zN)) 0 0 n J 0 [some (.ref 158), some (zi f)] []
  have h7 := hF.1
  have r8 := h8
  refine tz_aload_n (pc := 0) dX6_countStep_0 rfl rfl ?_
  refine tz_dup (pc := 1) dX6_countStep_1 rfl ?_
  refine tz_fI (pc := 2) (kz := 8) (v := (J 158 8)) dX6_countStep_2 fl_X6_25 i_158_8 rfl rfl (fun r_2 => ?_)
  refine tz_iconst (pc := 5) dX6_countStep_5 ?_
  refine tz_isub (pc := 6) (v := (J 158 8) - 1) dX6_countStep_6 rfl ?_
  refine tz_pI (pc := 7) (kz := 8) dX6_countStep_7 fl_X6_25 i_158_8 rfl rfl (by omega) ?_
  refine tz_aload_n (pc := 10) dX6_countStep_10 rfl rfl ?_
  refine tz_fR (pc := 11) dX6_countStep_11 fl_X6_28 r_158_0 ?_
  refine tz_fR (pc := 14) dX6_countStep_14 fl_X6_65 r_5_1 ?_
  refine tz_fR (pc := 17) dX6_countStep_17 fl_X6_100 r_18_0 ?_
  refine tz_iconst (pc := 20) dX6_countStep_20 ?_
  refine tz_dup2 (pc := 21) dX6_countStep_21 rfl rfl ?_
  refine tz_aL (pc := 22) (z := 3) (v := (J 19 3)) dX6_countStep_22 a_19 rfl (by decide) rfl (fun r_22 => ?_)
  refine tz_iconst (pc := 23) dX6_countStep_23 ?_
  refine tz_iadd (pc := 24) (v := (J 19 3) + 1) dX6_countStep_24 rfl ?_
  refine tz_tw ?_
  have rw_25 := zw_rg ((J 19 3) + 1)
  refine tz_aS (pc := 25) (z := 3) dX6_countStep_25 a_19 rfl (by decide) (zw_rg _) ?_
  refine tz_aload_n (pc := 26) dX6_countStep_26 rfl rfl ?_
  refine tz_fR (pc := 27) dX6_countStep_27 fl_X6_15 r_158_5 ?_
  refine tz_iload_n (pc := 30) dX6_countStep_30 rfl rfl ?_
  refine tz_iconst (pc := 31) dX6_countStep_31 ?_
  refine tz_aS (pc := 32) (z := f) dX6_countStep_32 a_160 rfl (by omega) (by decide) ?_
  exact tz_vret (pc := 33) dX6_countStep_33 rfl (Nat.le_of_ble_eq_true rfl) (Nat.le_of_ble_eq_true rfl) ⟨Nat.le_refl _, Nat.le_add_right _ _⟩ ⟨rfl, ⟨⟨((GX.rf C hm).off rfl (zOf.up rfl (zOf.up rfl (zOf.up rfl zOf.rf)))), hL.steps (J := zup J 158 8 (J 158 8 - 1)), (hF.step (x := J 158 8 - 1) hf hs).of (Int.le_refl _) (fun _ _ _ => rfl) rfl rfl rfl rfl⟩, zOf.up rfl (zOf.up rfl (zOf.up rfl zOf.rf)), fun k hk => show zup (zup J 158 8 (J 158 8 - 1)) 19 3 (zw (J 19 3 + 1)) 19 k = J 19 k from zup_ne hk⟩⟩

set_option maxHeartbeats 4000000 in
set_option maxRecDepth 100000 in
theorem c_wentOn {l : Launch} {G : tb_G} (hl : l.stackTraces = false) (n : Nat) (J : zJ) (f : Int) (hr_f : -2147483648 ≤ f ∧ f < 2147483648) (m : Int) (C : CT J m) (hm : J 6 12 = m) (hL : LI (J 19) m) (hF : FR J m) (hf : 0 ≤ f ∧ f < J 158 7) : tz_Ok l G M_X6_wentOn 10 0 0 [.ref 158, zi f] n J (zqi (fun z J' => ∃ m', WR J' J m m' ∧ -3 ≤ z ∧ z < m')) zN := by
  refine tz_Ok.of hl (by decide +kernel) rfl (tb_c1 rfl) (Nat.le_of_ble_eq_true rfl) ?_
  show tz_At l G M_X6_wentOn (tb_rm 10 0 0) none (tb_ZM G 0 0 (zQ n 0 (zqi (fun z J' => ∃ m', WR J' J m m' ∧ -3 ≤ z ∧ z < m'))) (zX n 0 zN)) 0 0 n J 0 [some (.ref 158), some (zi f), none, none, none, none] []
  have hb := C.told
  have h7 := hF.1
  have ha := hF.2 f hf.1 hf.2
  have ha1 := ha.1
  have ha2 := ha.2.1
  have hr := C.ar ha.1.1 ha.1.2
  refine tz_aload_n (pc := 0) dX6_wentOn_0 rfl rfl ?_
  refine tz_fR (pc := 1) dX6_wentOn_1 fl_X6_11 r_158_4 ?_
  refine tz_iload_n (pc := 4) dX6_wentOn_4 rfl rfl ?_
  refine tz_aL (pc := 5) (z := f) (v := (J 159 f)) dX6_wentOn_5 a_159 rfl (by omega) rfl (fun r_5 => ?_)
  refine tz_istore_n (pc := 6) (L2 := [_, _, _, _, _, _]) dX6_wentOn_6 rfl (by decide) rfl ?_
  refine tz_aload_n (pc := 7) dX6_wentOn_7 rfl rfl ?_
  refine tz_fR (pc := 8) dX6_wentOn_8 fl_X6_15 r_158_5 ?_
  refine tz_iload_n (pc := 11) dX6_wentOn_11 rfl rfl ?_
  refine tz_aL (pc := 12) (z := f) (v := (J 160 f)) dX6_wentOn_12 a_160 rfl (by omega) rfl (fun r_12 => ?_)
  refine tz_aload_n (pc := 13) dX6_wentOn_13 rfl rfl ?_
  refine tz_fR (pc := 14) dX6_wentOn_14 fl_X6_38 r_158_1 ?_
  refine tz_fR (pc := 17) dX6_wentOn_17 fl_X6_74 r_6_2 ?_
  refine tz_iload_n (pc := 20) dX6_wentOn_20 rfl rfl ?_
  refine tz_aL (pc := 21) (z := (J 159 f)) (v := (J 8 (J 159 f))) dX6_wentOn_21 a_8 rfl (by omega) rfl (fun r_21 => ?_)
  refine tz_icmp_ge (pc := 22) (tgt := 44) dX6_wentOn_22 (by decide) (by omega) (by omega) (fun h_22 => ?_) (fun h_22 => ?_)
  · refine tz_iload_n (pc := 44) dX6_wentOn_44 rfl rfl ?_
    refine tz_iconst (pc := 45) dX6_wentOn_45 ?_
    refine tz_imul (pc := 46) (v := f * 3) dX6_wentOn_46 rfl ?_
    refine tz_istore_n (pc := 47) (L2 := [_, _, _, _, _, _]) dX6_wentOn_47 rfl (by decide) rfl ?_
    refine tz_aload_n (pc := 48) dX6_wentOn_48 rfl rfl ?_
    refine tz_fR (pc := 49) dX6_wentOn_49 fl_X6_38 r_158_1 ?_
    refine tz_aload_n (pc := 52) dX6_wentOn_52 rfl rfl ?_
    refine tz_fR (pc := 53) dX6_wentOn_53 fl_X6_38 r_158_1 ?_
    refine tz_fR (pc := 56) dX6_wentOn_56 fl_X6_80 r_6_1 ?_
    refine tz_iload_n (pc := 59) dX6_wentOn_59 rfl rfl ?_
    refine tz_aL (pc := 60) (z := (J 159 f)) (v := (J 7 (J 159 f))) dX6_wentOn_60 a_7 rfl (by omega) rfl (fun r_60 => ?_)
    refine tz_aload_n (pc := 61) dX6_wentOn_61 rfl rfl ?_
    refine tz_fR (pc := 62) dX6_wentOn_62 fl_X6_18 r_158_6 ?_
    refine tz_iload_n (pc := 65) dX6_wentOn_65 rfl rfl ?_
    refine tz_aL (pc := 66) (z := (f * 3)) (v := (J 161 (f * 3))) dX6_wentOn_66 a_161 rfl (by omega) rfl (fun r_66 => ?_)
    refine tz_aload_n (pc := 67) dX6_wentOn_67 rfl rfl ?_
    refine tz_fR (pc := 68) dX6_wentOn_68 fl_X6_18 r_158_6 ?_
    refine tz_iload_n (pc := 71) dX6_wentOn_71 rfl rfl ?_
    refine tz_iconst (pc := 72) dX6_wentOn_72 ?_
    refine tz_iadd (pc := 73) (v := (f * 3) + 1) dX6_wentOn_73 rfl ?_
    refine tz_aL (pc := 74) (z := ((f * 3) + 1)) (v := (J 161 ((f * 3) + 1))) dX6_wentOn_74 a_161 rfl (by omega) rfl (fun r_74 => ?_)
    refine tz_aload_n (pc := 75) dX6_wentOn_75 rfl rfl ?_
    refine tz_fR (pc := 76) dX6_wentOn_76 fl_X6_18 r_158_6 ?_
    refine tz_iload_n (pc := 79) dX6_wentOn_79 rfl rfl ?_
    refine tz_iconst (pc := 80) dX6_wentOn_80 ?_
    refine tz_iadd (pc := 81) (v := (f * 3) + 2) dX6_wentOn_81 rfl ?_
    refine tz_aL (pc := 82) (z := ((f * 3) + 2)) (v := (J 161 ((f * 3) + 2))) dX6_wentOn_82 a_161 rfl (by omega) rfl (fun r_82 => ?_)
    have hA : J 8 (J 159 f) = arh (J 3) (J 7 (J 159 f)) := (C.2.1 _ ha.1.1 ha.1.2).1.1
    have p0 := ha.2.2 0
    have p1 := ha.2.2 1
    have p2 := ha.2.2 2
    rw [Int.add_zero] at p0
    refine tz_cV (pc := 83) (c_made hl n _ _ _ _ _ (by omega) (by omega) (by omega) (by omega) m C hm (by omega) ⟨by omega, by omega, by omega⟩) vl_X6_83 dX6_wentOn_83 o_6 rfl rfl (Nat.le_of_ble_eq_true rfl) ⟨(Nat.le_of_ble_eq_true rfl), (Nat.le_of_ble_eq_true rfl)⟩ rfl rfl (Nat.le_of_ble_eq_true rfl) (Nat.le_of_ble_eq_true rfl) (fun r9 J_83 hq9 => ?_)
    obtain ⟨z_83, rfl, hz_83, p_83⟩ := hq9
    obtain ⟨m9, g9, h9⟩ := GR.made p_83 (by omega)
    have q9 := WR.made (WR.rf C hm hL hF) g9
    have b9 := g9.1
    have t9 := q9.1.2.1.told
    refine tz_istore (pc := 86) (L2 := [_, _, _, _, _, _]) dX6_wentOn_86 (by decide) rfl ?_
    refine tz_iload (pc := 88) dX6_wentOn_88 rfl ?_
    refine tz_if_ge (pc := 90) (tgt := 96) dX6_wentOn_90 (by decide) (by omega) (fun h_90 => ?_) (fun h_90 => ?_)
    · refine tz_aload_n (pc := 96) dX6_wentOn_96 rfl rfl ?_
      refine tz_fR (pc := 97) dX6_wentOn_97 fl_X6_28 r_158_0 ?_
      refine tz_fR (pc := 100) dX6_wentOn_100 fl_X6_65 r_5_1 ?_
      refine tz_aload_n (pc := 103) dX6_wentOn_103 rfl rfl ?_
      refine tz_fR (pc := 104) dX6_wentOn_104 fl_X6_39 r_158_2 ?_
      refine tz_iload (pc := 107) dX6_wentOn_107 rfl ?_
      refine tz_cS (pc := 109) (c_firstRule hl n _ _ (by omega) m9 q9.1.2.1 q9.2.1 (by omega)) sl_X6_87 dX6_wentOn_109 rfl rfl (Nat.le_of_ble_eq_true rfl) ⟨(Nat.le_of_ble_eq_true rfl), (Nat.le_of_ble_eq_true rfl)⟩ rfl rfl (Nat.le_of_ble_eq_true rfl) (Nat.le_of_ble_eq_true rfl) (fun r9 J_109 hq9 => ?_)
      obtain ⟨z_109, rfl, hz_109, a_1, a_2⟩ := hq9
      have q8 := q9.led (a_1.mono (fun c hc => by simp [zbut] at hc ⊢; omega)) (by rw [a_1 19 rfl]; exact q9.2.1)
      have x158 : J_109 158 = J 158 := (a_1 158 rfl).trans (g9.2.2.2.2 158 rfl)
      have x159 : J_109 159 = J 159 := (a_1 159 rfl).trans (g9.2.2.2.2 159 rfl)
      have x160 : J_109 160 = J 160 := (a_1 160 rfl).trans (g9.2.2.2.2 160 rfl)
      have x8 : J_109 8 (J 159 f) = J 8 (J 159 f) := (congrFun (a_1 8 rfl) _).trans (g9.2.2.2.1.1 _ ha.1.1 ha.1.2).2.1
      refine tz_istore (pc := 112) (L2 := [_, _, _, _, _, _]) dX6_wentOn_112 (by decide) rfl ?_
      refine tz_iload (pc := 114) dX6_wentOn_114 rfl ?_
      refine tz_iconst (pc := 116) dX6_wentOn_116 ?_
      refine tz_icmp_ne (pc := 117) (tgt := 128) dX6_wentOn_117 (by decide) (by omega) (by decide) (fun h_117 => ?_) (fun h_117 => ?_)
      · refine tz_aload_n (pc := 128) dX6_wentOn_128 rfl rfl ?_
        refine tz_fI (pc := 129) (kz := 8) (v := (J 158 8)) dX6_wentOn_129 fl_X6_25 i_158_8 rfl (Eq.trans (congrFun (a_1 158 rfl) 8) (Eq.trans (congrFun (g9.2.2.2.2 158 rfl) 8) rfl)) (fun r_129 => ?_)
        refine tz_if_gt (pc := 132) (tgt := 138) dX6_wentOn_132 (by decide) (by omega) (fun h_132 => ?_) (fun h_132 => ?_)
        · refine tz_aload_n (pc := 138) dX6_wentOn_138 rfl rfl ?_
          refine tz_iload_n (pc := 139) dX6_wentOn_139 rfl rfl ?_
          refine tz_cV (pc := 140) (c_countStep hl n _ _ (by omega) m9 q8.1.2.1 q8.1.2.2.1 q8.2.1 q8.2.2 (by rw [x158]; exact hf) (by rw [x159, x160, x8]; omega) (by rw [x158]; omega)) vl_X6_96 dX6_wentOn_140 o_158 rfl rfl (Nat.le_of_ble_eq_true rfl) ⟨(Nat.le_of_ble_eq_true rfl), (Nat.le_of_ble_eq_true rfl)⟩ rfl rfl (Nat.le_of_ble_eq_true rfl) (Nat.le_of_ble_eq_true rfl) (fun r9 J_140 hq9 => ?_)
          obtain ⟨rfl, g_140, f_140, k_140⟩ := hq9
          have q7 := q8.tr g_140
          have r7 := a_2.resolve_left (by omega)
          have s7 := (q9.2.1.2.2.1 z_109 r7.1.1 r7.1.2).2
          have e19 := g9.2.2.2.2 19 rfl
          rw [e19] at s7 r7
          have h4 := hL.1.2.1
          refine tz_aload_n (pc := 143) dX6_wentOn_143 rfl rfl ?_
          refine tz_aload_n (pc := 144) dX6_wentOn_144 rfl rfl ?_
          refine tz_fR (pc := 145) dX6_wentOn_145 fl_X6_43 r_158_3 ?_
          refine tz_aload_n (pc := 148) dX6_wentOn_148 rfl rfl ?_
          refine tz_fR (pc := 149) dX6_wentOn_149 fl_X6_28 r_158_0 ?_
          refine tz_fR (pc := 152) dX6_wentOn_152 fl_X6_65 r_5_1 ?_
          refine tz_fR (pc := 155) dX6_wentOn_155 fl_X6_100 r_18_0 ?_
          refine tz_bipush (pc := 158) dX6_wentOn_158 (by decide) ?_
          refine tz_iload (pc := 160) dX6_wentOn_160 rfl ?_
          refine tz_iadd (pc := 162) (v := 23 + z_109) dX6_wentOn_162 rfl ?_
          refine tz_aL (pc := 163) (z := (23 + z_109)) (v := (J 19 (23 + z_109))) dX6_wentOn_163 a_19 rfl (by omega) (Eq.trans (k_140 (23 + z_109) (by omega)) (Eq.trans (congrFun (a_1 19 rfl) (23 + z_109)) (Eq.trans (congrFun (g9.2.2.2.2 19 rfl) (23 + z_109)) rfl))) (fun r_163 => ?_)
          refine tz_aload_n (pc := 164) dX6_wentOn_164 rfl rfl ?_
          refine tz_fR (pc := 165) dX6_wentOn_165 fl_X6_39 r_158_2 ?_
          refine tz_fR (pc := 168) dX6_wentOn_168 fl_X6_103 r_139_1 ?_
          refine tz_iconst (pc := 171) dX6_wentOn_171 ?_
          refine tz_cV (pc := 172) (c_applied140 hl n _ _ (by omega) m9 q7.1.2.1 q7.1.2.2.1 (by omega) (gOK.r (by rw [f_140 140 rfl]; exact r7.2))) vl_X6_108 dX6_wentOn_172 o_141 rfl rfl (Nat.le_of_ble_eq_true rfl) ⟨(Nat.le_of_ble_eq_true rfl), (Nat.le_of_ble_eq_true rfl)⟩ rfl rfl (Nat.le_of_ble_eq_true rfl) (Nat.le_of_ble_eq_true rfl) (fun r9 J_172 hq9 => ?_)
          obtain ⟨z_172, rfl, hz_172, m7, g7, h7x⟩ := hq9
          have q6 := q7.made g7
          have b7 := g7.1
          have t7 := q6.1.2.1.told
          refine tz_cV (pc := 175) (c_opened hl n _ _ (by omega) m7 q6.1.2.1 q6.1.2.2.1 q6.2.1 q6.2.2 (by omega)) vl_X6_47 dX6_wentOn_175 o_158 rfl rfl (Nat.le_of_ble_eq_true rfl) ⟨(Nat.le_of_ble_eq_true rfl), (Nat.le_of_ble_eq_true rfl)⟩ rfl rfl (Nat.le_of_ble_eq_true rfl) (Nat.le_of_ble_eq_true rfl) (fun r9 J_175 hq9 => ?_)
          obtain ⟨z_175, rfl, hz_175, g_175, h_175⟩ := hq9
          exact tz_iret (pc := 178) (z := z_175) dX6_wentOn_178 rfl (Nat.le_of_ble_eq_true rfl) (Nat.le_of_ble_eq_true rfl) ⟨Nat.le_refl _, Nat.le_add_right _ _⟩ ⟨_, rfl, (by omega), ⟨m7, q6.tr g_175, h_175⟩⟩
        · refine tz_bipush (pc := 135) dX6_wentOn_135 (by decide) ?_
          exact tz_iret (pc := 137) (z := (-2)) dX6_wentOn_137 rfl (Nat.le_of_ble_eq_true rfl) (Nat.le_of_ble_eq_true rfl) ⟨Nat.le_refl _, Nat.le_add_right _ _⟩ ⟨_, rfl, (by decide), ⟨m9, q8, by have := b9; omega⟩⟩
      · refine tz_aload_n (pc := 120) dX6_wentOn_120 rfl rfl ?_
        refine tz_iload (pc := 121) dX6_wentOn_121 rfl ?_
        refine tz_iload_n (pc := 123) dX6_wentOn_123 rfl rfl ?_
        refine tz_cV (pc := 124) (c_closedWith hl n _ _ _ (by omega) (by omega) m9 q8.1.2.1 q8.1.2.2.1 q8.2.1 q8.2.2 (by rw [x158]; exact hf) (by omega)) vl_X6_93 dX6_wentOn_124 o_158 rfl rfl (Nat.le_of_ble_eq_true rfl) ⟨(Nat.le_of_ble_eq_true rfl), (Nat.le_of_ble_eq_true rfl)⟩ rfl rfl (Nat.le_of_ble_eq_true rfl) (Nat.le_of_ble_eq_true rfl) (fun r9 J_124 hq9 => ?_)
        obtain ⟨z_124, rfl, hz_124, g_124, h_124⟩ := hq9
        exact tz_iret (pc := 127) (z := z_124) dX6_wentOn_127 rfl (Nat.le_of_ble_eq_true rfl) (Nat.le_of_ble_eq_true rfl) ⟨Nat.le_refl _, Nat.le_add_right _ _⟩ ⟨_, rfl, (by omega), ⟨m9, q8.tr g_124, by have := q8.1.1; omega⟩⟩
    · refine tz_iload (pc := 93) dX6_wentOn_93 rfl ?_
      exact tz_iret (pc := 95) (z := z_83) dX6_wentOn_95 rfl (Nat.le_of_ble_eq_true rfl) (Nat.le_of_ble_eq_true rfl) ⟨Nat.le_refl _, Nat.le_add_right _ _⟩ ⟨_, rfl, (by omega), ⟨m9, q9, by omega⟩⟩
  · refine tz_aload_n (pc := 25) dX6_wentOn_25 rfl rfl ?_
    refine tz_aload_n (pc := 26) dX6_wentOn_26 rfl rfl ?_
    refine tz_fR (pc := 27) dX6_wentOn_27 fl_X6_38 r_158_1 ?_
    refine tz_iload_n (pc := 30) dX6_wentOn_30 rfl rfl ?_
    refine tz_aload_n (pc := 31) dX6_wentOn_31 rfl rfl ?_
    refine tz_fR (pc := 32) dX6_wentOn_32 fl_X6_15 r_158_5 ?_
    refine tz_iload_n (pc := 35) dX6_wentOn_35 rfl rfl ?_
    refine tz_aL (pc := 36) (z := f) (v := (J 160 f)) dX6_wentOn_36 a_160 rfl (by omega) rfl (fun r_36 => ?_)
    have hg := C.arg ha.1.1 ha.1.2 ha.2.1.1 (by omega)
    refine tz_cV (pc := 37) (c_arg hl n _ _ _ (by omega) (by omega) (by omega)) vl_X6_77 dX6_wentOn_37 o_6 rfl rfl (Nat.le_of_ble_eq_true rfl) ⟨(Nat.le_of_ble_eq_true rfl), (Nat.le_of_ble_eq_true rfl)⟩ rfl rfl (Nat.le_of_ble_eq_true rfl) (Nat.le_of_ble_eq_true rfl) (fun r9 J_37 hq9 => ?_)
    obtain ⟨z_37, rfl, hz_37, rfl, rfl⟩ := hq9
    refine tz_cV (pc := 40) (c_opened hl n _ _ (by omega) m C hm hL hF (by omega)) vl_X6_47 dX6_wentOn_40 o_158 rfl rfl (Nat.le_of_ble_eq_true rfl) ⟨(Nat.le_of_ble_eq_true rfl), (Nat.le_of_ble_eq_true rfl)⟩ rfl rfl (Nat.le_of_ble_eq_true rfl) (Nat.le_of_ble_eq_true rfl) (fun r9 J_40 hq9 => ?_)
    obtain ⟨z_40, rfl, hz_40, g_40, h_40⟩ := hq9
    exact tz_iret (pc := 43) (z := z_40) dX6_wentOn_43 rfl (Nat.le_of_ble_eq_true rfl) (Nat.le_of_ble_eq_true rfl) ⟨Nat.le_refl _, Nat.le_add_right _ _⟩ ⟨_, rfl, (by omega), ⟨m, g_40, h_40⟩⟩

set_option maxHeartbeats 4000000 in
set_option maxRecDepth 100000 in
theorem c_normalOf {l : Launch} {G : tb_G} (hl : l.stackTraces = false) (n : Nat) (J : zJ) (t : Int) (hr_t : -2147483648 ≤ t ∧ t < 2147483648) (m : Int) (C : CT J m) (hm : J 6 12 = m) (hL : LI (J 19) m) (ht : 0 ≤ t ∧ t < m) : tz_Ok l G M_X6_normalOf 11 0 0 [.ref 158, zi t] n J (zqi (fun z J' => ∃ m', GX [19, 140, 158, 159, 160, 161] J' J m m' ∧ LI (J' 19) m' ∧ (z = -3 ∨ z = -2 ∨ (0 ≤ z ∧ z < m')))) zN := by
  refine tz_Ok.of hl (by decide +kernel) rfl (tb_c1 rfl) (Nat.le_of_ble_eq_true rfl) ?_
  show tz_At l G M_X6_normalOf (tb_rm 11 0 0) none (tb_ZM G 0 0 (zQ n 0 (zqi (fun z J' => ∃ m', GX [19, 140, 158, 159, 160, 161] J' J m m' ∧ LI (J' 19) m' ∧ (z = -3 ∨ z = -2 ∨ (0 ≤ z ∧ z < m'))))) (zX n 0 zN)) 0 0 n J 0 [some (.ref 158), some (zi t), none, none] []
  have hb := C.told
  refine tz_aload_n (pc := 0) dX6_normalOf_0 rfl rfl ?_
  refine tz_iconst (pc := 1) dX6_normalOf_1 ?_
  refine tz_pI (pc := 2) (kz := 7) dX6_normalOf_2 fl_X6_21 i_158_7 rfl rfl (by decide) ?_
  refine tz_aload_n (pc := 5) dX6_normalOf_5 rfl rfl ?_
  refine tz_iload_n (pc := 6) dX6_normalOf_6 rfl rfl ?_
  have g0 : WR (zup J 158 7 0) J m m := ⟨(GX.rf C hm).off rfl (zOf.up rfl zOf.rf), hL, ⟨⟨Int.le_refl 0, (by decide : (0 : Int) ≤ 612)⟩, fun f a b => absurd b (by show ¬ f < 0; omega)⟩⟩
  refine tz_cV (pc := 7) (c_opened hl n _ _ (by omega) m g0.1.2.1 g0.1.2.2.1 g0.2.1 g0.2.2 (by omega)) vl_X6_47 dX6_normalOf_7 o_158 rfl rfl (Nat.le_of_ble_eq_true rfl) ⟨(Nat.le_of_ble_eq_true rfl), (Nat.le_of_ble_eq_true rfl)⟩ rfl rfl (Nat.le_of_ble_eq_true rfl) (Nat.le_of_ble_eq_true rfl) (fun r9 J_7 hq9 => ?_)
  obtain ⟨z_7, rfl, hz_7, g1, h1⟩ := hq9
  refine tz_istore_n (pc := 10) (L2 := [_, _, _, _]) dX6_normalOf_10 rfl (by decide) rfl ?_
  refine tz_iconst (pc := 11) dX6_normalOf_11 ?_
  refine tz_istore_n (pc := 12) (L2 := [_, _, _, _]) dX6_normalOf_12 rfl (by decide) rfl ?_
  have loop13 : ∀ (f9 : Nat) (v : Int) (k : Int) (J1 : zJ) (m1 : Int), ((1000000 - k).toNat) < f9 → ((-3 ≤ v ∧ v < m1) ∧ (0 ≤ k ∧ k ≤ 1000000)) → (WR J1 J m m1) → tz_At l G M_X6_normalOf (tb_rm 11 0 0) none (tb_ZM G 0 0 (zQ n 0 (zqi (fun z J' => ∃ m', GX [19, 140, 158, 159, 160, 161] J' J m m' ∧ LI (J' 19) m' ∧ (z = -3 ∨ z = -2 ∨ (0 ≤ z ∧ z < m'))))) (zX n 0 zN)) 0 0 n J1 13 [some (.ref 158), some (zi t), some (zi v), some (zi k)] [] := by
    intro f9
    induction f9 with
    | zero => intro v k J1 m1 hm9; exact absurd hm9 (Nat.not_lt_zero _)
    | succ f9 ih13 =>
      intro v k J1 m1 hm13 hv g2
      have h7 := g2.2.2.1
      have t1 := g2.1.2.1.told
      refine tz_iload_n (pc := 13) dX6_normalOf_13 rfl rfl ?_
      refine tz_ldc (pc := 14) (z := 1000000) dX6_normalOf_14 ct_X6_51 (by decide) ?_
      refine tz_icmp_ge (pc := 16) (tgt := 67) dX6_normalOf_16 (by decide) (by omega) (by decide) (fun h_16 => ?_) (fun h_16 => ?_)
      · refine tz_iload_n (pc := 67) dX6_normalOf_67 rfl rfl ?_
        refine tz_iconst (pc := 68) dX6_normalOf_68 ?_
        refine tz_icmp_ne (pc := 69) (tgt := 77) dX6_normalOf_69 (by decide) (by omega) (by decide) (fun h_69 => ?_) (fun h_69 => ?_)
        · refine tz_iload_n (pc := 77) dX6_normalOf_77 rfl rfl ?_
          exact tz_iret (pc := 78) (z := v) dX6_normalOf_78 rfl (Nat.le_of_ble_eq_true rfl) (Nat.le_of_ble_eq_true rfl) ⟨Nat.le_refl _, Nat.le_add_right _ _⟩ ⟨_, rfl, (by omega), ⟨m1, g2.1, g2.2.1, by omega⟩⟩
        · refine tz_bipush (pc := 72) dX6_normalOf_72 (by decide) ?_
          refine tz_goto (pc := 74) (tgt := 78) dX6_normalOf_74 (by decide) ?_
          exact tz_iret (pc := 78) (z := (-2)) dX6_normalOf_78 rfl (Nat.le_of_ble_eq_true rfl) (Nat.le_of_ble_eq_true rfl) ⟨Nat.le_refl _, Nat.le_add_right _ _⟩ ⟨_, rfl, (by decide), ⟨m1, g2.1, g2.2.1, by omega⟩⟩
      · refine tz_aload_n (pc := 19) dX6_normalOf_19 rfl rfl ?_
        refine tz_fI (pc := 20) (kz := 7) (v := (J1 158 7)) dX6_normalOf_20 fl_X6_21 i_158_7 rfl rfl (fun r_20 => ?_)
        refine tz_if_le (pc := 23) (tgt := 67) dX6_normalOf_23 (by decide) (by omega) (fun h_23 => ?_) (fun h_23 => ?_)
        · refine tz_iload_n (pc := 67) dX6_normalOf_67 rfl rfl ?_
          refine tz_iconst (pc := 68) dX6_normalOf_68 ?_
          refine tz_icmp_ne (pc := 69) (tgt := 77) dX6_normalOf_69 (by decide) (by omega) (by decide) (fun h_69 => ?_) (fun h_69 => ?_)
          · refine tz_iload_n (pc := 77) dX6_normalOf_77 rfl rfl ?_
            exact tz_iret (pc := 78) (z := v) dX6_normalOf_78 rfl (Nat.le_of_ble_eq_true rfl) (Nat.le_of_ble_eq_true rfl) ⟨Nat.le_refl _, Nat.le_add_right _ _⟩ ⟨_, rfl, (by omega), ⟨m1, g2.1, g2.2.1, by omega⟩⟩
          · refine tz_bipush (pc := 72) dX6_normalOf_72 (by decide) ?_
            refine tz_goto (pc := 74) (tgt := 78) dX6_normalOf_74 (by decide) ?_
            exact tz_iret (pc := 78) (z := (-2)) dX6_normalOf_78 rfl (Nat.le_of_ble_eq_true rfl) (Nat.le_of_ble_eq_true rfl) ⟨Nat.le_refl _, Nat.le_add_right _ _⟩ ⟨_, rfl, (by decide), ⟨m1, g2.1, g2.2.1, by omega⟩⟩
        · refine tz_iload_n (pc := 26) dX6_normalOf_26 rfl rfl ?_
          refine tz_iconst (pc := 27) dX6_normalOf_27 ?_
          refine tz_icmp_lt (pc := 28) (tgt := 67) dX6_normalOf_28 (by decide) (by omega) (by decide) (fun h_28 => ?_) (fun h_28 => ?_)
          · refine tz_iload_n (pc := 67) dX6_normalOf_67 rfl rfl ?_
            refine tz_iconst (pc := 68) dX6_normalOf_68 ?_
            refine tz_icmp_ne (pc := 69) (tgt := 77) dX6_normalOf_69 (by decide) (by omega) (by decide) (fun h_69 => ?_) (fun h_69 => ?_)
            · refine tz_iload_n (pc := 77) dX6_normalOf_77 rfl rfl ?_
              exact tz_iret (pc := 78) (z := v) dX6_normalOf_78 rfl (Nat.le_of_ble_eq_true rfl) (Nat.le_of_ble_eq_true rfl) ⟨Nat.le_refl _, Nat.le_add_right _ _⟩ ⟨_, rfl, (by omega), ⟨m1, g2.1, g2.2.1, by omega⟩⟩
            · refine tz_bipush (pc := 72) dX6_normalOf_72 (by decide) ?_
              refine tz_goto (pc := 74) (tgt := 78) dX6_normalOf_74 (by decide) ?_
              exact tz_iret (pc := 78) (z := (-2)) dX6_normalOf_78 rfl (Nat.le_of_ble_eq_true rfl) (Nat.le_of_ble_eq_true rfl) ⟨Nat.le_refl _, Nat.le_add_right _ _⟩ ⟨_, rfl, (by decide), ⟨m1, g2.1, g2.2.1, by omega⟩⟩
          · refine tz_iload_n (pc := 31) dX6_normalOf_31 rfl rfl ?_
            refine tz_iconst (pc := 32) dX6_normalOf_32 ?_
            refine tz_icmp_ne (pc := 33) (tgt := 49) dX6_normalOf_33 (by decide) (by omega) (by decide) (fun h_33 => ?_) (fun h_33 => ?_)
            · refine tz_aload_n (pc := 49) dX6_normalOf_49 rfl rfl ?_
              refine tz_iload_n (pc := 50) dX6_normalOf_50 rfl rfl ?_
              refine tz_aload_n (pc := 51) dX6_normalOf_51 rfl rfl ?_
              refine tz_fI (pc := 52) (kz := 7) (v := (J1 158 7)) dX6_normalOf_52 fl_X6_21 i_158_7 rfl rfl (fun r_52 => ?_)
              refine tz_iconst (pc := 55) dX6_normalOf_55 ?_
              refine tz_isub (pc := 56) (v := (J1 158 7) - 1) dX6_normalOf_56 rfl ?_
              refine tz_cV (pc := 57) (c_handed hl n _ _ _ (by omega) (by omega) m1 g2.1.2.1 g2.1.2.2.1 g2.2.1 g2.2.2 (by omega) (by omega)) vl_X6_55 dX6_normalOf_57 o_158 rfl rfl (Nat.le_of_ble_eq_true rfl) ⟨(Nat.le_of_ble_eq_true rfl), (Nat.le_of_ble_eq_true rfl)⟩ rfl rfl (Nat.le_of_ble_eq_true rfl) (Nat.le_of_ble_eq_true rfl) (fun r9 J_57 hq9 => ?_)
              obtain ⟨z_57, rfl, hz_57, g4, h4⟩ := hq9
              refine tz_istore_n (pc := 60) (L2 := [_, _, _, _]) dX6_normalOf_60 rfl (by decide) rfl ?_
              refine tz_iinc (pc := 61) (z := k + 1) (L2 := [_, _, _, _]) dX6_normalOf_61 rfl (by omega) rfl ?_
              refine tz_goto (pc := 64) (tgt := 13) dX6_normalOf_64 (by decide) ?_
              exact ih13 _ (k + 1) _ m1 (by omega) (by omega) (g2.tr g4)
            · refine tz_aload_n (pc := 36) dX6_normalOf_36 rfl rfl ?_
              refine tz_aload_n (pc := 37) dX6_normalOf_37 rfl rfl ?_
              refine tz_fI (pc := 38) (kz := 7) (v := (J1 158 7)) dX6_normalOf_38 fl_X6_21 i_158_7 rfl rfl (fun r_38 => ?_)
              refine tz_iconst (pc := 41) dX6_normalOf_41 ?_
              refine tz_isub (pc := 42) (v := (J1 158 7) - 1) dX6_normalOf_42 rfl ?_
              refine tz_cV (pc := 43) (c_wentOn hl n _ _ (by omega) m1 g2.1.2.1 g2.1.2.2.1 g2.2.1 g2.2.2 (by omega)) vl_X6_52 dX6_normalOf_43 o_158 rfl rfl (Nat.le_of_ble_eq_true rfl) ⟨(Nat.le_of_ble_eq_true rfl), (Nat.le_of_ble_eq_true rfl)⟩ rfl rfl (Nat.le_of_ble_eq_true rfl) (Nat.le_of_ble_eq_true rfl) (fun r9 J_43 hq9 => ?_)
              obtain ⟨z_43, rfl, hz_43, m3, g3, h3⟩ := hq9
              refine tz_goto (pc := 46) (tgt := 60) dX6_normalOf_46 (by decide) ?_
              refine tz_istore_n (pc := 60) (L2 := [_, _, _, _]) dX6_normalOf_60 rfl (by decide) rfl ?_
              refine tz_iinc (pc := 61) (z := k + 1) (L2 := [_, _, _, _]) dX6_normalOf_61 rfl (by omega) rfl ?_
              refine tz_goto (pc := 64) (tgt := 13) dX6_normalOf_64 (by decide) ?_
              exact ih13 _ (k + 1) _ m3 (by omega) (by omega) (g2.tr g3)
  exact loop13 _ _ 0 _ m (Nat.lt_succ_self _) (by omega) (g0.tr g1)

