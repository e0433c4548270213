/-! ===== doesMatch of the reference, exact ===== -/
def mmt (J : zJ) (b d : Int) : (Int → Int) → Int → Int → Bool × (Int → Int) := mtO (fun t => J 166 (b + t)) (mar J b d) (mag J b) 6
theorem mmt_of {J1 J : zJ} {b d : Int} (f : zOf (zbut [174]) J1 J) : mmt J1 b d = mmt J b d := by
  unfold mmt mar mag
  rw [f 166 rfl, f 170 rfl, f 167 rfl]
def MAM (r : Bool × (Int → Int)) (z : Int) (J' : zJ) : Prop := ((r.1 = true ∧ z = 1) ∨ (r.1 = false ∧ z = 0)) ∧ J' 174 = r.2
theorem mmt_v {J : zJ} {b d p t v : Int} (hv : J 166 (b + p) < 0) (ev : v = -1 - J 166 (b + p)) : (J 174 v = -1 → MAM (mmt J b d (J 174) p t) 1 (zup J 174 v t)) ∧ (¬ J 174 v = -1 → J 174 v = t → MAM (mmt J b d (J 174) p t) 1 J) ∧ (¬ J 174 v = -1 → ¬ J 174 v = t → MAM (mmt J b d (J 174) p t) 0 J) := by
  unfold mmt
  rw [mtO_s, if_pos hv, ← ev]
  refine ⟨fun e => ?_, fun e f => ?_, fun e f => ?_⟩
  · rw [if_pos e]
    exact ⟨Or.inl ⟨rfl, rfl⟩, rfl⟩
  · rw [if_neg e]
    exact ⟨Or.inl ⟨decide_eq_true f, rfl⟩, rfl⟩
  · rw [if_neg e]
    exact ⟨Or.inr ⟨decide_eq_false f, rfl⟩, rfl⟩
theorem mmt_n {J : zJ} {b d p t : Int} (hv : ¬ J 166 (b + p) < 0) (hn : ¬ J 166 (b + p) = J 166 (b + t)) : MAM (mmt J b d (J 174) p t) 0 J := by
  unfold mmt
  rw [mtO_s, if_neg hv, if_neg hn]
  exact ⟨Or.inr ⟨rfl, rfl⟩, rfl⟩
def mmF (J : zJ) (b d p t i : Int) : Bool × (Int → Int) := mtF (fun σ i => mmt J b d σ (mag J b p i) (mag J b t i)) i.toNat (J 174)
theorem mmF_0 {J : zJ} {b d p t : Int} : mmF J b d p t 0 = (true, J 174) := rfl
theorem mmF_s {J : zJ} {b d p t i : Int} {τ : Int → Int} (hi : 0 ≤ i) (h : mmF J b d p t i = (true, τ)) : mmF J b d p t (i + 1) = mmt J b d τ (mag J b p i) (mag J b t i) := by
  unfold mmF at *
  rw [show (i + 1).toNat = i.toNat + 1 from by omega, mtF_s, h, if_pos rfl]
  dsimp only
  rw [Int.toNat_of_nonneg hi]
theorem mmF_f {J : zJ} {b d p t i n : Int} (hi : 0 ≤ i ∧ i ≤ n) (h : (mmF J b d p t i).1 = false) : mmF J b d p t n = mmF J b d p t i := by
  unfold mmF at *
  rw [show n.toNat = i.toNat + (n.toNat - i.toNat) from by omega]
  exact mtF_f h _
theorem mmt_F {J : zJ} {b r d s m p t : Int} (hM : MS J b r d s m) (hp : 0 ≤ p ∧ p < m) (hv : ¬ J 166 (b + p) < 0) (hn : J 166 (b + p) = J 166 (b + t)) : mmt J b d (J 174) p t = mmF J b d p t (mar J b d p) := by
  show mtO _ _ _ (5 + 1) _ _ _ = _
  rw [mtO_s, if_neg hv, if_pos hn]
  refine mtF_eq _ (fun i σ q => ?_) _
  obtain ⟨t1, t2, t3⟩ := hM.td p hp.1 hp.2
  have i1 := t3 i (by omega) (by omega)
  dsimp only at i1 t2
  exact mtO_st hM.td 5 6 σ _ _ ⟨i1.1.1, by omega⟩ (by omega) (by omega)
theorem MAM.e {J J1 : zJ} {b r d s m p t i : Int} (hM : MS J b r d s m) (hp : 0 ≤ p ∧ p < m) (hv : ¬ J 166 (b + p) < 0) (hn : J 166 (b + p) = J 166 (b + t)) (hi : i = mar J b d p) (x : mmF J b d p t i = (true, J1 174)) : MAM (mmt J b d (J 174) p t) 1 J1 := by
  rw [mmt_F hM hp hv hn, ← hi, x]
  exact ⟨Or.inl ⟨rfl, rfl⟩, rfl⟩
theorem MAM.f {J J1 J2 : zJ} {b r d s m p t i z : Int} (hM : MS J b r d s m) (hp : 0 ≤ p ∧ p < m) (hv : ¬ J 166 (b + p) < 0) (hn : J 166 (b + p) = J 166 (b + t)) (hi : 0 ≤ i ∧ i < mar J b d p) (x : mmF J b d p t i = (true, J1 174)) (a : MAM (mmt J b d (J1 174) (mag J b p i) (mag J b t i)) z J2) (hz : z = 0) : MAM (mmt J b d (J 174) p t) 0 J2 := by
  have s := mmF_s hi.1 x
  have h1 : (mmt J b d (J1 174) (mag J b p i) (mag J b t i)).1 = false := by
    rcases a.1 with q | q
    · omega
    · exact q.1
  rw [mmt_F hM hp hv hn, mmF_f (i := i + 1) (by omega) (by rw [s]; exact h1), s]
  exact ⟨Or.inr ⟨h1, rfl⟩, a.2⟩
theorem mmF_n {J J1 J2 : zJ} {b d p t i z : Int} (hi : 0 ≤ i) (x : mmF J b d p t i = (true, J1 174)) (a : MAM (mmt J b d (J1 174) (mag J b p i) (mag J b t i)) z J2) (hz : ¬ z = 0) : mmF J b d p t (i + 1) = (true, J2 174) := by
  rw [mmF_s hi x]
  rcases a.1 with q | q
  · exact Prod.ext q.1 a.2.symm
  · exact absurd q.2 hz
set_option maxHeartbeats 4000000 in
set_option maxRecDepth 100000 in
theorem x_matchR {l : Launch} {G : tb_G} (hl : l.stackTraces = false) (n : Nat) : ∀ (r9 : Nat) (J : zJ) (u : Int) (t : Int) (hr_u : -2147483648 ≤ u ∧ u < 2147483648) (hr_t : -2147483648 ≤ t ∧ t < 2147483648) (b r d s m : Int) (hM : MS J b r d s m) (hs : 0 ≤ u ∧ u < m) (ht : 0 ≤ t ∧ t < m) (hg0 : gOK (J 174) m), ((J 168 (b + u)).toNat) < r9 → tz_Ok l G M_X12_matches (3 + 1 * r9) 0 0 [.ref 164, zi u, zi t] n J (zqi (fun z J' => MAM (mmt J b d (J 174) u t) z J' ∧ zOf (zbut [174]) J' J ∧ gOK (J' 174) m)) zN := by
  intro r9
  induction r9 with
  | zero => intro J u t hr_u hr_t b r d s m hM hs ht hg0 hm9; exact absurd hm9 (Nat.not_lt_zero _)
  | succ r9 ih =>
    intro J u t hr_u hr_t b r d s m hM hs ht hg0 hm9
    refine tz_Ok.of hl (by decide +kernel) rfl (tb_c1 rfl) (Nat.le_of_ble_eq_true rfl) ?_
    show tz_At l G M_X12_matches (tb_rm (3 + 1 * (r9 + 1)) 0 0) none (tb_ZM G 0 0 (zQ n 0 (zqi (fun z J' => MAM (mmt J b d (J 174) u t) z J' ∧ zOf (zbut [174]) J' J ∧ gOK (J' 174) m))) (zX n 0 zN)) 0 0 n J 0 [some (.ref 164), some (zi u), some (zi t), none] []
    obtain ⟨hM1, hM2, hM3, hM4, hM5, hM6⟩ := id hM
    have hT := hM.told
    have ha := hM.ar hs
    have hb := hM.ar ht
    refine tz_aload_n (pc := 0) dX12_matches_0 rfl rfl ?_
    refine tz_iload_n (pc := 1) dX12_matches_1 rfl rfl ?_
    refine tz_cV (pc := 2) (m_isVar hl n _ _ (by omega) b r d s m hM (by omega)) vl_X12_78 dX12_matches_2 o_164 rfl rfl (Nat.le_of_ble_eq_true rfl) ⟨(show 1 + 1 ≤ 3 + 1 * (r9 + 1) by omega), (show 8 + (2 + 11) + 40 * (1) ≤ 40 * (3 + 1 * (r9 + 1)) by omega)⟩ rfl rfl (Nat.le_of_ble_eq_true rfl) (Nat.le_of_ble_eq_true rfl) (fun r9 J_2 hq9 => ?_)
    obtain ⟨z_2, rfl, hz_2, rfl, rfl⟩ := hq9
    by_cases hw_5 : J 166 (b + u) < 0
    · rw [show (if J 166 (b + u) < 0 then 1 else 0 : Int) = 1 from if_pos hw_5]
      refine tz_if_eqF (pc := 5) (tgt := 47) (by decide) dX12_matches_5 (by decide) (by decide) ?_
      refine tz_aload_n (pc := 8) dX12_matches_8 rfl rfl ?_
      refine tz_iload_n (pc := 9) dX12_matches_9 rfl rfl ?_
      refine tz_cV (pc := 10) (m_varOf hl n _ _ (by omega) b r d s m hM (by omega)) vl_X12_123 dX12_matches_10 o_164 rfl rfl (Nat.le_of_ble_eq_true rfl) ⟨(show 1 + 1 ≤ 3 + 1 * (r9 + 1) by omega), (show 8 + (2 + 11) + 40 * (1) ≤ 40 * (3 + 1 * (r9 + 1)) by omega)⟩ rfl rfl (Nat.le_of_ble_eq_true rfl) (Nat.le_of_ble_eq_true rfl) (fun r9 J_10 hq9 => ?_)
      obtain ⟨z_10, rfl, hz_10, rfl, rfl⟩ := hq9
      refine tz_istore_n (pc := 13) (L2 := [_, _, _, _]) dX12_matches_13 rfl (by decide) rfl ?_
      refine tz_aload_n (pc := 14) dX12_matches_14 rfl rfl ?_
      refine tz_fR (pc := 15) dX12_matches_15 fl_X12_41 r_164_22 ?_
      refine tz_iload_n (pc := 18) dX12_matches_18 rfl rfl ?_
      refine tz_aL (pc := 19) (z := (-1 - J 166 (b + u))) (v := (J 174 (-1 - J 166 (b + u)))) dX12_matches_19 a_174 rfl (by omega) rfl (fun r_19 => ?_)
      refine tz_iconst (pc := 20) dX12_matches_20 ?_
      refine tz_icmp_ne (pc := 21) (tgt := 31) dX12_matches_21 (by decide) (by omega) (by decide) (fun h_21 => ?_) (fun h_21 => ?_)
      · refine tz_aload_n (pc := 31) dX12_matches_31 rfl rfl ?_
        refine tz_fR (pc := 32) dX12_matches_32 fl_X12_41 r_164_22 ?_
        refine tz_iload_n (pc := 35) dX12_matches_35 rfl rfl ?_
        refine tz_aL (pc := 36) (z := (-1 - J 166 (b + u))) (v := (J 174 (-1 - J 166 (b + u)))) dX12_matches_36 a_174 rfl (by omega) rfl (fun r_36 => ?_)
        refine tz_iload_n (pc := 37) dX12_matches_37 rfl rfl ?_
        refine tz_icmp_ne (pc := 38) (tgt := 45) dX12_matches_38 (by decide) (by omega) (by omega) (fun h_38 => ?_) (fun h_38 => ?_)
        · refine tz_iconst (pc := 45) dX12_matches_45 ?_
          exact tz_zret (pc := 46) (z := 0) dX12_matches_46 rfl (Or.inl rfl) (Nat.le_of_ble_eq_true rfl) (Nat.le_of_ble_eq_true rfl) ⟨Nat.le_refl _, Nat.le_add_right _ _⟩ ⟨_, rfl, (by decide), (by first | exact ⟨(mmt_v (by omega) rfl).2.1 (by omega) (by omega), zOf.rf, hg0⟩ | exact ⟨(mmt_v (by omega) rfl).2.2 (by omega) (by omega), zOf.rf, hg0⟩ | exact ⟨mmt_n (by omega) (by omega), zOf.rf, hg0⟩)⟩
        · refine tz_iconst (pc := 41) dX12_matches_41 ?_
          refine tz_goto (pc := 42) (tgt := 46) dX12_matches_42 (by decide) ?_
          exact tz_zret (pc := 46) (z := 1) dX12_matches_46 rfl (Or.inr rfl) (Nat.le_of_ble_eq_true rfl) (Nat.le_of_ble_eq_true rfl) ⟨Nat.le_refl _, Nat.le_add_right _ _⟩ ⟨_, rfl, (by decide), (by first | exact ⟨(mmt_v (by omega) rfl).2.1 (by omega) (by omega), zOf.rf, hg0⟩ | exact ⟨(mmt_v (by omega) rfl).2.2 (by omega) (by omega), zOf.rf, hg0⟩ | exact ⟨mmt_n (by omega) (by omega), zOf.rf, hg0⟩)⟩
      · refine tz_aload_n (pc := 24) dX12_matches_24 rfl rfl ?_
        refine tz_fR (pc := 25) dX12_matches_25 fl_X12_41 r_164_22 ?_
        refine tz_iload_n (pc := 28) dX12_matches_28 rfl rfl ?_
        refine tz_iload_n (pc := 29) dX12_matches_29 rfl rfl ?_
        refine tz_aS (pc := 30) (z := (-1 - J 166 (b + u))) dX12_matches_30 a_174 rfl (by omega) (by omega) ?_
        refine tz_aload_n (pc := 31) dX12_matches_31 rfl rfl ?_
        refine tz_fR (pc := 32) dX12_matches_32 fl_X12_41 r_164_22 ?_
        refine tz_iload_n (pc := 35) dX12_matches_35 rfl rfl ?_
        refine tz_aL (pc := 36) (z := (-1 - J 166 (b + u))) (v := t) dX12_matches_36 a_174 rfl (by omega) (by simp [zup]) (fun r_36 => ?_)
        refine tz_iload_n (pc := 37) dX12_matches_37 rfl rfl ?_
        refine tz_icmp_ne (pc := 38) (tgt := 45) dX12_matches_38 (by decide) (by omega) (by omega) (fun h_38 => ?_) (fun h_38 => ?_)
        · refine tz_iconst (pc := 45) dX12_matches_45 ?_
          exact tz_zret (pc := 46) (z := 0) dX12_matches_46 rfl (Or.inl rfl) (Nat.le_of_ble_eq_true rfl) (Nat.le_of_ble_eq_true rfl) ⟨Nat.le_refl _, Nat.le_add_right _ _⟩ ⟨_, rfl, (by decide), (by first | exact ⟨(mmt_v (by omega) rfl).1 (by omega), zOf.up rfl zOf.rf, gok_up hg0 ht⟩ | (exfalso; omega))⟩
        · refine tz_iconst (pc := 41) dX12_matches_41 ?_
          refine tz_goto (pc := 42) (tgt := 46) dX12_matches_42 (by decide) ?_
          exact tz_zret (pc := 46) (z := 1) dX12_matches_46 rfl (Or.inr rfl) (Nat.le_of_ble_eq_true rfl) (Nat.le_of_ble_eq_true rfl) ⟨Nat.le_refl _, Nat.le_add_right _ _⟩ ⟨_, rfl, (by decide), (by first | exact ⟨(mmt_v (by omega) rfl).1 (by omega), zOf.up rfl zOf.rf, gok_up hg0 ht⟩ | (exfalso; omega))⟩
    · rw [show (if J 166 (b + u) < 0 then 1 else 0 : Int) = 0 from if_neg hw_5]
      refine tz_if_eqT (pc := 5) (tgt := 47) (by decide) dX12_matches_5 (by decide) (by decide) ?_
      refine tz_aload_n (pc := 47) dX12_matches_47 rfl rfl ?_
      refine tz_iload_n (pc := 48) dX12_matches_48 rfl rfl ?_
      refine tz_cV (pc := 49) (m_head hl n _ _ (by omega) b r d s m hM (by omega)) vl_X12_74 dX12_matches_49 o_164 rfl rfl (Nat.le_of_ble_eq_true rfl) ⟨(show 0 + 1 ≤ 3 + 1 * (r9 + 1) by omega), (show 8 + (2 + 11) + 40 * (0) ≤ 40 * (3 + 1 * (r9 + 1)) by omega)⟩ rfl rfl (Nat.le_of_ble_eq_true rfl) (Nat.le_of_ble_eq_true rfl) (fun r9 J_49 hq9 => ?_)
      obtain ⟨z_49, rfl, hz_49, rfl, rfl⟩ := hq9
      refine tz_aload_n (pc := 52) dX12_matches_52 rfl rfl ?_
      refine tz_iload_n (pc := 53) dX12_matches_53 rfl rfl ?_
      refine tz_cV (pc := 54) (m_head hl n _ _ (by omega) b r d s m hM (by omega)) vl_X12_74 dX12_matches_54 o_164 rfl rfl (Nat.le_of_ble_eq_true rfl) ⟨(show 0 + 1 ≤ 3 + 1 * (r9 + 1) by omega), (show 8 + (2 + 11) + 40 * (0) ≤ 40 * (3 + 1 * (r9 + 1)) by omega)⟩ rfl rfl (Nat.le_of_ble_eq_true rfl) (Nat.le_of_ble_eq_true rfl) (fun r9 J_54 hq9 => ?_)
      obtain ⟨z_54, rfl, hz_54, rfl, rfl⟩ := hq9
      refine tz_icmp_eq (pc := 57) (tgt := 62) dX12_matches_57 (by decide) (by omega) (by omega) (fun h_57 => ?_) (fun h_57 => ?_)
      · refine tz_iconst (pc := 62) dX12_matches_62 ?_
        refine tz_istore_n (pc := 63) (L2 := [_, _, _, _]) dX12_matches_63 rfl (by decide) rfl ?_
        have loop64 : ∀ (f9 : Nat) (i : Int) (J1 : zJ), ((3 - i).toNat) < f9 → (0 ≤ i ∧ i ≤ mar J b d u) → (zOf (zbut [174]) J1 J) → (gOK (J1 174) m) → (mmF J b d u t i = (true, J1 174)) → tz_At l G M_X12_matches (tb_rm (3 + 1 * (r9 + 1)) 0 0) none (tb_ZM G 0 0 (zQ n 0 (zqi (fun z J' => MAM (mmt J b d (J 174) u t) z J' ∧ zOf (zbut [174]) J' J ∧ gOK (J' 174) m))) (zX n 0 zN)) 0 0 n J1 64 [some (.ref 164), some (zi u), some (zi t), some (zi i)] [] := by
          intro f9
          induction f9 with
          | zero => intro i J1 hm9; exact absurd hm9 (Nat.not_lt_zero _)
          | succ f9 ih64 =>
            intro i J1 hm64 hi f1 g1 x1
            have he := MS.hd8 (J := J) (b := b) (d := d) (t := u) (u := t) (by omega)
            refine tz_iload_n (pc := 64) dX12_matches_64 rfl rfl ?_
            refine tz_aload_n (pc := 65) dX12_matches_65 rfl rfl ?_
            refine tz_iload_n (pc := 66) dX12_matches_66 rfl rfl ?_
            refine tz_cV (pc := 67) (m_arity hl n _ _ (by omega) b r d s m (hM.c1 f1 (by decide)) (by omega)) vl_X12_111 dX12_matches_67 o_164 rfl rfl (Nat.le_of_ble_eq_true rfl) ⟨(show 2 + 1 ≤ 3 + 1 * (r9 + 1) by omega), (show 8 + (2 + 11) + 40 * (2) ≤ 40 * (3 + 1 * (r9 + 1)) by omega)⟩ rfl rfl (Nat.le_of_ble_eq_true rfl) (Nat.le_of_ble_eq_true rfl) (fun r9 J_67 hq9 => ?_)
            obtain ⟨z_67, rfl, hz_67, rfl, hv_67⟩ := hq9
            have he_67 : mar J1 b d u = mar J b d u := by unfold mar; rw [f1 166 rfl, f1 170 rfl]
            rw [he_67] at hv_67
            obtain rfl : mar J b d u = z_67 := hv_67
            refine tz_icmp_ge (pc := 70) (tgt := 100) dX12_matches_70 (by decide) (by omega) (by omega) (fun h_70 => ?_) (fun h_70 => ?_)
            · refine tz_iconst (pc := 100) dX12_matches_100 ?_
              exact tz_zret (pc := 101) (z := 1) dX12_matches_101 rfl (Or.inr rfl) (Nat.le_of_ble_eq_true rfl) (Nat.le_of_ble_eq_true rfl) ⟨Nat.le_refl _, Nat.le_add_right _ _⟩ ⟨_, rfl, (by decide), ⟨MAM.e hM hs (by omega) (by omega) (by omega) x1, f1, g1⟩⟩
            · refine tz_aload_n (pc := 73) dX12_matches_73 rfl rfl ?_
              refine tz_aload_n (pc := 74) dX12_matches_74 rfl rfl ?_
              refine tz_iload_n (pc := 75) dX12_matches_75 rfl rfl ?_
              refine tz_iload_n (pc := 76) dX12_matches_76 rfl rfl ?_
              refine tz_cV (pc := 77) (m_arg hl n _ _ _ (by omega) (by omega) b r d s m (hM.c1 f1 (by decide)) (by omega) (by omega)) vl_X12_88 dX12_matches_77 o_164 rfl rfl (Nat.le_of_ble_eq_true rfl) ⟨(show 0 + 1 ≤ 3 + 1 * (r9 + 1) by omega), (show 8 + (3 + 11) + 40 * (0) ≤ 40 * (3 + 1 * (r9 + 1)) by omega)⟩ rfl rfl (Nat.le_of_ble_eq_true rfl) (Nat.le_of_ble_eq_true rfl) (fun r9 J_77 hq9 => ?_)
              obtain ⟨z_77, rfl, hz_77, rfl, hv_77⟩ := hq9
              have he_77 : J1 167 (3 * (b + u) + i) = J 167 (3 * (b + u) + i) := by rw [f1 167 rfl]
              rw [he_77] at hv_77
              obtain rfl : J 167 (3 * (b + u) + i) = z_77 := hv_77
              refine tz_aload_n (pc := 80) dX12_matches_80 rfl rfl ?_
              refine tz_iload_n (pc := 81) dX12_matches_81 rfl rfl ?_
              refine tz_iload_n (pc := 82) dX12_matches_82 rfl rfl ?_
              refine tz_cV (pc := 83) (m_arg hl n _ _ _ (by omega) (by omega) b r d s m (hM.c1 f1 (by decide)) (by omega) (by omega)) vl_X12_88 dX12_matches_83 o_164 rfl rfl (Nat.le_of_ble_eq_true rfl) ⟨(show 0 + 1 ≤ 3 + 1 * (r9 + 1) by omega), (show 8 + (3 + 11) + 40 * (0) ≤ 40 * (3 + 1 * (r9 + 1)) by omega)⟩ rfl rfl (Nat.le_of_ble_eq_true rfl) (Nat.le_of_ble_eq_true rfl) (fun r9 J_83 hq9 => ?_)
              obtain ⟨z_83, rfl, hz_83, rfl, hv_83⟩ := hq9
              have he_83 : J1 167 (3 * (b + t) + i) = J 167 (3 * (b + t) + i) := by rw [f1 167 rfl]
              rw [he_83] at hv_83
              obtain rfl : J 167 (3 * (b + t) + i) = z_83 := hv_83
              have hg := hM.arg (t := u) (i := i) hs (by omega)
              have hg2 := hM.arg (t := t) (i := i) ht (by omega)
              have e168 := f1 168 rfl
              refine tz_cV (pc := 86) (ih _ _ _ (by omega) (by omega) b r d s m (hM.c1 f1 (by decide)) (by omega) (by omega) g1 (by rw [e168]; omega)) vl_X12_145 dX12_matches_86 o_164 rfl rfl (Nat.le_of_ble_eq_true rfl) ⟨(show (3 + 1 * r9) + 1 ≤ 3 + 1 * (r9 + 1) by omega), (show 8 + (4 + 11) + 40 * ((3 + 1 * r9)) ≤ 40 * (3 + 1 * (r9 + 1)) by omega)⟩ rfl rfl (Nat.le_of_ble_eq_true rfl) (Nat.le_of_ble_eq_true rfl) (fun r9 J2 hq9 => ?_)
              obtain ⟨zm, rfl, hz_86, a9, f2, g2⟩ := hq9
              have a2 : MAM (mmt J b d (J1 174) (mag J b u i) (mag J b t i)) zm J2 := by
                have q9 := a9
                rw [mmt_of f1] at q9
                exact q9
              have zz : zm = 0 ∨ zm = 1 := a2.1.elim (fun q => Or.inr q.2) (fun q => Or.inl q.2)
              refine tz_if_ne (pc := 89) (tgt := 94) dX12_matches_89 (by decide) (by omega) (fun h_89 => ?_) (fun h_89 => ?_)
              · refine tz_iinc (pc := 94) (z := i + 1) (L2 := [_, _, _, _]) dX12_matches_94 rfl (by omega) rfl ?_
                refine tz_goto (pc := 97) (tgt := 64) dX12_matches_97 (by decide) ?_
                exact ih64 (i + 1) _ (by omega) (by omega) (f2.tr f1) g2 (mmF_n (by omega) x1 a2 (by omega))
              · refine tz_iconst (pc := 92) dX12_matches_92 ?_
                exact tz_zret (pc := 93) (z := 0) dX12_matches_93 rfl (Or.inl rfl) (Nat.le_of_ble_eq_true rfl) (Nat.le_of_ble_eq_true rfl) ⟨Nat.le_refl _, Nat.le_add_right _ _⟩ ⟨_, rfl, (by decide), ⟨MAM.f hM hs (by omega) (by omega) (by omega) x1 a2 (by omega), f2.tr f1, g2⟩⟩
        exact loop64 _ 0 _ (Nat.lt_succ_self _) (by omega) zOf.rf hg0 mmF_0
      · refine tz_iconst (pc := 60) dX12_matches_60 ?_
        exact tz_zret (pc := 61) (z := 0) dX12_matches_61 rfl (Or.inl rfl) (Nat.le_of_ble_eq_true rfl) (Nat.le_of_ble_eq_true rfl) ⟨Nat.le_refl _, Nat.le_add_right _ _⟩ ⟨_, rfl, (by decide), (by first | exact ⟨(mmt_v (by omega) rfl).2.1 (by omega) (by omega), zOf.rf, hg0⟩ | exact ⟨(mmt_v (by omega) rfl).2.2 (by omega) (by omega), zOf.rf, hg0⟩ | exact ⟨mmt_n (by omega) (by omega), zOf.rf, hg0⟩)⟩

theorem x_match {l : Launch} {G : tb_G} (hl : l.stackTraces = false) (n : Nat) (J : zJ) (u t : Int) (hr_u : -2147483648 ≤ u ∧ u < 2147483648) (hr_t : -2147483648 ≤ t ∧ t < 2147483648) (b r d s m : Int) (hM : MS J b r d s m) (hs : 0 ≤ u ∧ u < m) (ht : 0 ≤ t ∧ t < m) (hg0 : gOK (J 174) m) : tz_Ok l G M_X12_matches 10 0 0 [.ref 164, zi u, zi t] n J (zqi (fun z J' => MAM (mmt J b d (J 174) u t) z J' ∧ zOf (zbut [174]) J' J ∧ gOK (J' 174) m)) zN := x_matchR hl n 7 J u t hr_u hr_t b r d s m hM hs ht hg0 (by have := (hM.ar hs).2.2.1; omega)
set_option maxHeartbeats 4000000 in
set_option maxRecDepth 100000 in
theorem x_doesMatch {l : Launch} {G : tb_G} (hl : l.stackTraces = false) (n : Nat) (J : zJ) (u : Int) (t : Int) (hr_u : -2147483648 ≤ u ∧ u < 2147483648) (hr_t : -2147483648 ≤ t ∧ t < 2147483648) (b r d s m : Int) (hM : MS J b r d s m) (hs : 0 ≤ u ∧ u < m) (ht : 0 ≤ t ∧ t < m) : tz_Ok l G M_X12_doesMatch 11 0 0 [.ref 164, zi u, zi t] n J (zqi (fun z J' => (∃ σ, (∀ k, 0 ≤ k → k < 8 → σ k = -1) ∧ MAM (mmt J b d σ u t) z J') ∧ zOf (zbut [174]) J' J ∧ gOK (J' 174) m)) zN := by
  refine tz_Ok.of hl (by decide +kernel) rfl (tb_c1 rfl) (Nat.le_of_ble_eq_true rfl) ?_
  show tz_At l G M_X12_doesMatch (tb_rm 11 0 0) none (tb_ZM G 0 0 (zQ n 0 (zqi (fun z J' => (∃ σ, (∀ k, 0 ≤ k → k < 8 → σ k = -1) ∧ MAM (mmt J b d σ u t) z J') ∧ zOf (zbut [174]) J' J ∧ gOK (J' 174) m))) (zX n 0 zN)) 0 0 n J 0 [some (.ref 164), some (zi u), some (zi t), none] []
  obtain ⟨hM1, hM2, hM3, hM4, hM5, hM6⟩ := id hM
  have hT := hM.told
  refine tz_iconst (pc := 0) dX12_doesMatch_0 ?_
  refine tz_istore_n (pc := 1) (L2 := [_, _, _, _]) dX12_doesMatch_1 rfl (by decide) rfl ?_
  have loop2 : ∀ (f9 : Nat) (v : Int) (J1 : zJ), ((8 - v).toNat) < f9 → (0 ≤ v ∧ v ≤ 8) → (zOf (zbut [174]) J1 J) → (∀ q, 0 ≤ q → q < v → J1 174 q = -1) → tz_At l G M_X12_doesMatch (tb_rm 11 0 0) none (tb_ZM G 0 0 (zQ n 0 (zqi (fun z J' => (∃ σ, (∀ k, 0 ≤ k → k < 8 → σ k = -1) ∧ MAM (mmt J b d σ u t) z J') ∧ zOf (zbut [174]) J' J ∧ gOK (J' 174) m))) (zX n 0 zN)) 0 0 n J1 2 [some (.ref 164), some (zi u), some (zi t), some (zi v)] [] := by
    intro f9
    induction f9 with
    | zero => intro v J1 hm9; exact absurd hm9 (Nat.not_lt_zero _)
    | succ f9 ih2 =>
      intro v J1 hm2 hv f1 g1
      refine tz_iload_n (pc := 2) dX12_doesMatch_2 rfl rfl ?_
      refine tz_bipush (pc := 3) dX12_doesMatch_3 (by decide) ?_
      refine tz_icmp_ge (pc := 5) (tgt := 21) dX12_doesMatch_5 (by decide) (by omega) (by decide) (fun h_5 => ?_) (fun h_5 => ?_)
      · refine tz_aload_n (pc := 21) dX12_doesMatch_21 rfl rfl ?_
        refine tz_iload_n (pc := 22) dX12_doesMatch_22 rfl rfl ?_
        refine tz_iload_n (pc := 23) dX12_doesMatch_23 rfl rfl ?_
        refine tz_cV (pc := 24) (x_match hl n _ _ _ (by omega) (by omega) b r d s m (hM.c1 f1 (by decide)) hs ht (fun q x y => by rw [g1 q x (by omega)]; omega)) vl_X12_145 dX12_doesMatch_24 o_164 rfl rfl (Nat.le_of_ble_eq_true rfl) ⟨(Nat.le_of_ble_eq_true rfl), (Nat.le_of_ble_eq_true rfl)⟩ rfl rfl (Nat.le_of_ble_eq_true rfl) (Nat.le_of_ble_eq_true rfl) (fun r9 J2 hq9 => ?_)
        obtain ⟨zm, rfl, hz_24, a9, f2, g2⟩ := hq9
        have zz : zm = 0 ∨ zm = 1 := a9.1.elim (fun q => Or.inr q.2) (fun q => Or.inl q.2)
        exact tz_zret (pc := 27) (z := zm) dX12_doesMatch_27 rfl (by omega) (Nat.le_of_ble_eq_true rfl) (Nat.le_of_ble_eq_true rfl) ⟨Nat.le_refl _, Nat.le_add_right _ _⟩ ⟨_, rfl, (by omega), ⟨⟨J1 174, fun k a c => g1 k a (by omega), by rw [mmt_of f1] at a9; exact a9⟩, f2.tr f1, g2⟩⟩
      · refine tz_aload_n (pc := 8) dX12_doesMatch_8 rfl rfl ?_
        refine tz_fR (pc := 9) dX12_doesMatch_9 fl_X12_41 r_164_22 ?_
        refine tz_iload_n (pc := 12) dX12_doesMatch_12 rfl rfl ?_
        refine tz_iconst (pc := 13) dX12_doesMatch_13 ?_
        refine tz_aS (pc := 14) (z := v) dX12_doesMatch_14 a_174 rfl (by omega) (by decide) ?_
        refine tz_iinc (pc := 15) (z := v + 1) (L2 := [_, _, _, _]) dX12_doesMatch_15 rfl (by omega) rfl ?_
        refine tz_goto (pc := 18) (tgt := 2) dX12_doesMatch_18 (by decide) ?_
        exact ih2 (v + 1) _ (by omega) (by omega) (zOf.up rfl f1) (fun q x y => (Decidable.em (q = v)).elim (fun e => by rw [e, zup_at]) (fun e => by rw [zup_ne e]; exact g1 q x (by omega)))
  exact loop2 _ 0 _ (Nat.lt_succ_self _) (by omega) zOf.rf (fun q x y => by omega)

