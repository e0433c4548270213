section
/-! ===== normalOf of the class: the loop ===== -/
/-- where the machine stops, if it does within a million turns -/
noncomputable def nFN (S : zJ) (σ t : Int) : NCf := nIT 1000000 (nOP S σ [] t)
theorem ncg_e9 {m z k σ t : Int} {J S : zJ} (h : NCG m J z (nIT k.toNat (nOP S σ [] t))) (hk : 0 ≤ k ∧ k ≤ 1000000) (he : J 158 7 ≤ 0 ∨ k = 1000000 ∨ z < -1) (f1 : (nFN S σ t).2.1 = []) : NCG m J z (nFN S σ t) ∧ ¬ z = -1 := by
  unfold nFN at f1 ⊢
  exact ncg_end h hk he f1
set_option maxHeartbeats 4000000 in
set_option maxRecDepth 100000 in
theorem x_cnormal {l : Launch} {G : tb_G} (hl : l.stackTraces = false) (n : Nat) (J : zJ) (t : Int) (hr_t : -2147483648 ≤ t ∧ t < 2147483648) (m : Int) (S : zJ) (σ : Int) (C : CT J m) (hm : J 6 12 = m) (hL : LI (J 19) m) (ht : 0 ≤ t ∧ t < m) (E : A0 J S) (W : RW (J 19) (S 165)) (h21 : S 164 21 = 0) (hr9 : S 165 40 ≤ S 165 39) (hσ : J 158 8 = 100 - σ ∧ 0 ≤ σ ∧ σ ≤ 100) : tz_Ok l G M_X6_normalOf 11 0 0 [.ref 158, zi t] n J (zqi (fun z J' => ∃ m', GX [19, 140, 158, 159, 160, 161] J' J m m' ∧ LI (J' 19) m' ∧ (z = -3 ∨ z = -2 ∨ (0 ≤ z ∧ z < m')) ∧ ((nFN S σ t).2.1 = [] → NCG m' J' z (nFN S σ t)))) zN := by
  refine tz_Ok.of hl (by decide +kernel) rfl (tb_c1 rfl) (Nat.le_of_ble_eq_true rfl) ?_
  show tz_At l G M_X6_normalOf (tb_rm 11 0 0) none (tb_ZM G 0 0 (zQ n 0 (zqi (fun z J' => ∃ m', GX [19, 140, 158, 159, 160, 161] J' J m m' ∧ LI (J' 19) m' ∧ (z = -3 ∨ z = -2 ∨ (0 ≤ z ∧ z < m')) ∧ ((nFN S σ t).2.1 = [] → NCG m' J' z (nFN S σ t))))) (zX n 0 zN)) 0 0 n J 0 [some (.ref 158), some (zi t), none, none] []
  have hb := C.told
  have d12 := C.nums ht.1 ht.2
  refine tz_aload_n (pc := 0) dX6_normalOf_0 rfl rfl ?_
  refine tz_iconst (pc := 1) dX6_normalOf_1 ?_
  refine tz_pI (pc := 2) (kz := 7) dX6_normalOf_2 fl_X6_21 i_158_7 rfl rfl (by decide) ?_
  refine tz_aload_n (pc := 5) dX6_normalOf_5 rfl rfl ?_
  refine tz_iload_n (pc := 6) dX6_normalOf_6 rfl rfl ?_
  have g0 : WR (zup J 158 7 0) J m m := ⟨(GX.rf C hm).off rfl (zOf.up rfl zOf.rf), hL, ⟨⟨Int.le_refl 0, (by decide : (0 : Int) ≤ 612)⟩, fun f a b => absurd b (by show ¬ f < 0; omega)⟩⟩
  have N0 : NSH m (zup J 158 7 0) S σ [] := ⟨⟨E.f (fun c hc => by rcases hc with h | h | h | h | h | h | h | h | h <;> (rw [h]; rfl)), W, h21, hr9⟩, hσ, zup_at, trivial⟩
  refine tz_cV (pc := 7) (x_opened hl n _ _ (by omega) m S σ [] g0.1.2.1 g0.1.2.2.1 g0.2.1 g0.2.2 (by omega) (by rw [N0.2.2.1]; exact (by decide : (0 : Int) < 612))) vl_X6_47 dX6_normalOf_7 o_158 rfl rfl (Nat.le_of_ble_eq_true rfl) ⟨(Nat.le_of_ble_eq_true rfl), (Nat.le_of_ble_eq_true rfl)⟩ rfl rfl (Nat.le_of_ble_eq_true rfl) (Nat.le_of_ble_eq_true rfl) (fun r9 J_7 hq9 => ?_)
  obtain ⟨z_7, rfl, hz_7, g1, h1, x1, y1⟩ := hq9
  have c1 := x1 ht.1 N0 (by show (0 : Int) + J 12 t ≤ _; omega)
  refine tz_istore_n (pc := 10) (L2 := [_, _, _, _]) dX6_normalOf_10 rfl (by decide) rfl ?_
  refine tz_iconst (pc := 11) dX6_normalOf_11 ?_
  refine tz_istore_n (pc := 12) (L2 := [_, _, _, _]) dX6_normalOf_12 rfl (by decide) rfl ?_
  have loop13 : ∀ (f9 : Nat) (v : Int) (k : Int) (J1 : zJ) (m1 : Int), ((1000000 - k).toNat) < f9 → ((-3 ≤ v ∧ v < m1) ∧ (0 ≤ k ∧ k ≤ 1000000)) → (WR J1 J m m1) → (NCG m1 J1 v (nIT k.toNat (nOP S σ [] t))) → tz_At l G M_X6_normalOf (tb_rm 11 0 0) none (tb_ZM G 0 0 (zQ n 0 (zqi (fun z J' => ∃ m', GX [19, 140, 158, 159, 160, 161] J' J m m' ∧ LI (J' 19) m' ∧ (z = -3 ∨ z = -2 ∨ (0 ≤ z ∧ z < m')) ∧ ((nFN S σ t).2.1 = [] → NCG m' J' z (nFN S σ t))))) (zX n 0 zN)) 0 0 n J1 13 [some (.ref 158), some (zi t), some (zi v), some (zi k)] [] := by
    intro f9
    induction f9 with
    | zero => intro v k J1 m1 hm9; exact absurd hm9 (Nat.not_lt_zero _)
    | succ f9 ih13 =>
      intro v k J1 m1 hm13 hv g2 hN9
      have h7 := g2.2.2.1
      have t1 := g2.1.2.1.told
      refine tz_iload_n (pc := 13) dX6_normalOf_13 rfl rfl ?_
      refine tz_ldc (pc := 14) (z := 1000000) dX6_normalOf_14 ct_X6_51 (by decide) ?_
      refine tz_icmp_ge (pc := 16) (tgt := 67) dX6_normalOf_16 (by decide) (by omega) (by decide) (fun h_16 => ?_) (fun h_16 => ?_)
      · refine tz_iload_n (pc := 67) dX6_normalOf_67 rfl rfl ?_
        refine tz_iconst (pc := 68) dX6_normalOf_68 ?_
        refine tz_icmp_ne (pc := 69) (tgt := 77) dX6_normalOf_69 (by decide) (by omega) (by decide) (fun h_69 => ?_) (fun h_69 => ?_)
        · refine tz_iload_n (pc := 77) dX6_normalOf_77 rfl rfl ?_
          exact tz_iret (pc := 78) (z := v) dX6_normalOf_78 rfl (Nat.le_of_ble_eq_true rfl) (Nat.le_of_ble_eq_true rfl) ⟨Nat.le_refl _, Nat.le_add_right _ _⟩ ⟨_, rfl, (by omega), (by first | exact ⟨m1, g2.1, g2.2.1, by omega, fun q => absurd (by omega) (ncg_e9 hN9 hv.2 (by omega) q).2⟩ | exact ⟨m1, g2.1, g2.2.1, by omega, fun q => (ncg_e9 hN9 hv.2 (by omega) q).1⟩)⟩
        · refine tz_bipush (pc := 72) dX6_normalOf_72 (by decide) ?_
          refine tz_goto (pc := 74) (tgt := 78) dX6_normalOf_74 (by decide) ?_
          exact tz_iret (pc := 78) (z := (-2)) dX6_normalOf_78 rfl (Nat.le_of_ble_eq_true rfl) (Nat.le_of_ble_eq_true rfl) ⟨Nat.le_refl _, Nat.le_add_right _ _⟩ ⟨_, rfl, (by decide), (by first | exact ⟨m1, g2.1, g2.2.1, by omega, fun q => absurd (by omega) (ncg_e9 hN9 hv.2 (by omega) q).2⟩ | exact ⟨m1, g2.1, g2.2.1, by omega, fun q => (ncg_e9 hN9 hv.2 (by omega) q).1⟩)⟩
      · refine tz_aload_n (pc := 19) dX6_normalOf_19 rfl rfl ?_
        refine tz_fI (pc := 20) (kz := 7) (v := (J1 158 7)) dX6_normalOf_20 fl_X6_21 i_158_7 rfl rfl (fun r_20 => ?_)
        refine tz_if_le (pc := 23) (tgt := 67) dX6_normalOf_23 (by decide) (by omega) (fun h_23 => ?_) (fun h_23 => ?_)
        · refine tz_iload_n (pc := 67) dX6_normalOf_67 rfl rfl ?_
          refine tz_iconst (pc := 68) dX6_normalOf_68 ?_
          refine tz_icmp_ne (pc := 69) (tgt := 77) dX6_normalOf_69 (by decide) (by omega) (by decide) (fun h_69 => ?_) (fun h_69 => ?_)
          · refine tz_iload_n (pc := 77) dX6_normalOf_77 rfl rfl ?_
            exact tz_iret (pc := 78) (z := v) dX6_normalOf_78 rfl (Nat.le_of_ble_eq_true rfl) (Nat.le_of_ble_eq_true rfl) ⟨Nat.le_refl _, Nat.le_add_right _ _⟩ ⟨_, rfl, (by omega), (by first | exact ⟨m1, g2.1, g2.2.1, by omega, fun q => absurd (by omega) (ncg_e9 hN9 hv.2 (by omega) q).2⟩ | exact ⟨m1, g2.1, g2.2.1, by omega, fun q => (ncg_e9 hN9 hv.2 (by omega) q).1⟩)⟩
          · refine tz_bipush (pc := 72) dX6_normalOf_72 (by decide) ?_
            refine tz_goto (pc := 74) (tgt := 78) dX6_normalOf_74 (by decide) ?_
            exact tz_iret (pc := 78) (z := (-2)) dX6_normalOf_78 rfl (Nat.le_of_ble_eq_true rfl) (Nat.le_of_ble_eq_true rfl) ⟨Nat.le_refl _, Nat.le_add_right _ _⟩ ⟨_, rfl, (by decide), (by first | exact ⟨m1, g2.1, g2.2.1, by omega, fun q => absurd (by omega) (ncg_e9 hN9 hv.2 (by omega) q).2⟩ | exact ⟨m1, g2.1, g2.2.1, by omega, fun q => (ncg_e9 hN9 hv.2 (by omega) q).1⟩)⟩
        · refine tz_iload_n (pc := 26) dX6_normalOf_26 rfl rfl ?_
          refine tz_iconst (pc := 27) dX6_normalOf_27 ?_
          refine tz_icmp_lt (pc := 28) (tgt := 67) dX6_normalOf_28 (by decide) (by omega) (by decide) (fun h_28 => ?_) (fun h_28 => ?_)
          · refine tz_iload_n (pc := 67) dX6_normalOf_67 rfl rfl ?_
            refine tz_iconst (pc := 68) dX6_normalOf_68 ?_
            refine tz_icmp_ne (pc := 69) (tgt := 77) dX6_normalOf_69 (by decide) (by omega) (by decide) (fun h_69 => ?_) (fun h_69 => ?_)
            · refine tz_iload_n (pc := 77) dX6_normalOf_77 rfl rfl ?_
              exact tz_iret (pc := 78) (z := v) dX6_normalOf_78 rfl (Nat.le_of_ble_eq_true rfl) (Nat.le_of_ble_eq_true rfl) ⟨Nat.le_refl _, Nat.le_add_right _ _⟩ ⟨_, rfl, (by omega), (by first | exact ⟨m1, g2.1, g2.2.1, by omega, fun q => absurd (by omega) (ncg_e9 hN9 hv.2 (by omega) q).2⟩ | exact ⟨m1, g2.1, g2.2.1, by omega, fun q => (ncg_e9 hN9 hv.2 (by omega) q).1⟩)⟩
            · refine tz_bipush (pc := 72) dX6_normalOf_72 (by decide) ?_
              refine tz_goto (pc := 74) (tgt := 78) dX6_normalOf_74 (by decide) ?_
              exact tz_iret (pc := 78) (z := (-2)) dX6_normalOf_78 rfl (Nat.le_of_ble_eq_true rfl) (Nat.le_of_ble_eq_true rfl) ⟨Nat.le_refl _, Nat.le_add_right _ _⟩ ⟨_, rfl, (by decide), (by first | exact ⟨m1, g2.1, g2.2.1, by omega, fun q => absurd (by omega) (ncg_e9 hN9 hv.2 (by omega) q).2⟩ | exact ⟨m1, g2.1, g2.2.1, by omega, fun q => (ncg_e9 hN9 hv.2 (by omega) q).1⟩)⟩
          · refine tz_iload_n (pc := 31) dX6_normalOf_31 rfl rfl ?_
            refine tz_iconst (pc := 32) dX6_normalOf_32 ?_
            refine tz_icmp_ne (pc := 33) (tgt := 49) dX6_normalOf_33 (by decide) (by omega) (by decide) (fun h_33 => ?_) (fun h_33 => ?_)
            · refine tz_aload_n (pc := 49) dX6_normalOf_49 rfl rfl ?_
              refine tz_iload_n (pc := 50) dX6_normalOf_50 rfl rfl ?_
              refine tz_aload_n (pc := 51) dX6_normalOf_51 rfl rfl ?_
              refine tz_fI (pc := 52) (kz := 7) (v := (J1 158 7)) dX6_normalOf_52 fl_X6_21 i_158_7 rfl rfl (fun r_52 => ?_)
              refine tz_iconst (pc := 55) dX6_normalOf_55 ?_
              refine tz_isub (pc := 56) (v := (J1 158 7) - 1) dX6_normalOf_56 rfl ?_
              obtain ⟨S5, σ5, F5, K5, e5, N5⟩ := ncg_ha hN9 (by omega) (by omega)
              have l5 := N5.2.2.1
              rw [nfk_l] at l5
              refine tz_cV (pc := 57) (x_handed hl n _ _ _ (by omega) (by omega) m1 S5 σ5 F5 K5 g2.1.2.1 g2.1.2.2.1 g2.2.1 g2.2.2 (by omega) (by omega) (by omega) N5) vl_X6_55 dX6_normalOf_57 o_158 rfl rfl (Nat.le_of_ble_eq_true rfl) ⟨(Nat.le_of_ble_eq_true rfl), (Nat.le_of_ble_eq_true rfl)⟩ rfl rfl (Nat.le_of_ble_eq_true rfl) (Nat.le_of_ble_eq_true rfl) (fun r9 J_57 hq9 => ?_)
              obtain ⟨z_57, rfl, hz_57, g4, h4, x4⟩ := hq9
              refine tz_istore_n (pc := 60) (L2 := [_, _, _, _]) dX6_normalOf_60 rfl (by decide) rfl ?_
              refine tz_iinc (pc := 61) (z := k + 1) (L2 := [_, _, _, _]) dX6_normalOf_61 rfl (by omega) rfl ?_
              refine tz_goto (pc := 64) (tgt := 13) dX6_normalOf_64 (by decide) ?_
              exact ih13 _ (k + 1) _ m1 (by omega) (by omega) (g2.tr g4) (by rw [show (k + 1).toNat = k.toNat + 1 by omega, nIT_s2, e5]; exact x4)
            · refine tz_aload_n (pc := 36) dX6_normalOf_36 rfl rfl ?_
              refine tz_aload_n (pc := 37) dX6_normalOf_37 rfl rfl ?_
              refine tz_fI (pc := 38) (kz := 7) (v := (J1 158 7)) dX6_normalOf_38 fl_X6_21 i_158_7 rfl rfl (fun r_38 => ?_)
              refine tz_iconst (pc := 41) dX6_normalOf_41 ?_
              refine tz_isub (pc := 42) (v := (J1 158 7) - 1) dX6_normalOf_42 rfl ?_
              obtain ⟨S5, σ5, F5, K5, e5, s5, N5⟩ := ncg_go hN9 (by omega)
              have l5 := N5.2.2.1
              rw [nfk_l] at l5
              refine tz_cV (pc := 43) (x_wentOn hl n _ _ (by omega) m1 S5 σ5 F5 K5 g2.1.2.1 g2.1.2.2.1 g2.2.1 g2.2.2 (by omega) (by omega) N5 s5) vl_X6_52 dX6_normalOf_43 o_158 rfl rfl (Nat.le_of_ble_eq_true rfl) ⟨(Nat.le_of_ble_eq_true rfl), (Nat.le_of_ble_eq_true rfl)⟩ rfl rfl (Nat.le_of_ble_eq_true rfl) (Nat.le_of_ble_eq_true rfl) (fun r9 J_43 hq9 => ?_)
              obtain ⟨z_43, rfl, hz_43, m3, g3, h3, x3⟩ := hq9
              refine tz_goto (pc := 46) (tgt := 60) dX6_normalOf_46 (by decide) ?_
              refine tz_istore_n (pc := 60) (L2 := [_, _, _, _]) dX6_normalOf_60 rfl (by decide) rfl ?_
              refine tz_iinc (pc := 61) (z := k + 1) (L2 := [_, _, _, _]) dX6_normalOf_61 rfl (by omega) rfl ?_
              refine tz_goto (pc := 64) (tgt := 13) dX6_normalOf_64 (by decide) ?_
              exact ih13 _ (k + 1) _ m3 (by omega) (by omega) (g2.tr g3) (by rw [show (k + 1).toNat = k.toNat + 1 by omega, nIT_s2, e5]; exact x3)
  exact loop13 _ _ 0 _ m (Nat.lt_succ_self _) (by omega) (g0.tr g1) c1

end
section
/-! ===== normal of the class, exact ===== -/
theorem act_fail {X : List Nat} {J Jb Jo J' G : zJ} {n m m1 t z : Int} {R : Int → Int → Int} (c : CAL J G n R) (hI : CI J m) (hj : zcp (zup J 19 0 (J 6 12)) 19 61 0 0 61 = Jb) (g1 : GX X Jo Jb m m1) (hX : (X.all fun c => decide (c = 19 ∨ 140 ≤ c)) = true) (ht : t < 0) (s : t = z ∧ ((0 ≤ t ∧ zOf fkp J' Jo ∧ KX J' Jo) ∨ (t < 0 ∧ zOf (zbut [6, 16, 19, 62]) J' Jo ∧ J' 19 = zcp Jo 61 19 0 0 61 19 ∧ J' 6 12 = Jo 61 0))) : t = z ∧ CAL J' G n R := by
  obtain ⟨s0, s⟩ := s
  refine ⟨s0, ?_⟩
  have s' := s.resolve_left (fun q => by have := q.1; omega)
  have e := act_end (F := (zup G 164 21 1, 0)) (t := -3) (z := -3) c hI hj g1 hX (Or.inl ⟨rfl, by show ¬ (1 : Int) = 0; decide⟩) ⟨rfl, Or.inr ⟨by decide, s'.2⟩⟩
  rcases e with ⟨_, _, e⟩ | ⟨q, _⟩
  · exact e
  · exact absurd q (by show ¬ (1 : Int) = 0; decide)
/-- normal's end, by where the machine stops -/
def NRE (S : zJ) (n : Int) (R : Int → Int → Int) (c : NCf) (J' : zJ) (z : Int) : Prop := (0 ≤ c.2.2 ∧ z = c.2.2 ∧ CAL J' c.1.1 (psn n) (psh n R (S 165))) ∨ (c.2.2 = -3 ∧ z = -3 ∧ CAL J' S n R) ∨ (c.2.2 = -4 ∧ z = -2 ∧ CAL J' S n R)
theorem nrm_end {X : List Nat} {J Jb Jo J' G : zJ} {n m m1 t z : Int} {R : Int → Int → Int} (c : CAL J G n R) (hI : CI J m) (hj : zcp (zup J 19 0 (J 6 12)) 19 61 0 0 61 = Jb) (g1 : GX X Jo Jb m m1) (hX : (X.all fun c => decide (c = 19 ∨ 140 ≤ c)) = true) {cf : NCf} (q : cf.2.1 = [] → NCG m1 Jo t cf) (s : t = z ∧ ((0 ≤ t ∧ zOf fkp J' Jo ∧ KX J' Jo) ∨ (t < 0 ∧ zOf (zbut [6, 16, 19, 62]) J' Jo ∧ J' 19 = zcp Jo 61 19 0 0 61 19 ∧ J' 6 12 = Jo 61 0))) : cf.2.1 = [] → NRE G n R cf J' z := fun f => by
  rcases q f with ⟨a, b, N⟩ | ⟨_, a | a⟩
  · rcases a with ⟨_, F, K, e, _⟩ | a
    · rw [f] at e; cases e
    · have w := act_end (F := (cf.1.1, cf.2.2)) c hI hj g1 hX (Or.inr ⟨by omega, N.1.2.2.1, N.1.1, b, N.1.2.1⟩) s
      rcases w with ⟨w1, _⟩ | ⟨_, w2, w3⟩
      · exact absurd N.1.2.2.1 w1
      · exact Or.inl ⟨a, w2, w3⟩
  · obtain ⟨e, w⟩ := act_fail c hI hj g1 hX (by omega) s
    exact Or.inr (Or.inl ⟨a.1, by omega, w⟩)
  · obtain ⟨e, w⟩ := act_fail c hI hj g1 hX (by omega) s
    exact Or.inr (Or.inr ⟨a.1, by omega, w⟩)
set_option maxHeartbeats 4000000 in
set_option maxRecDepth 100000 in
theorem v_normal {l : Launch} {G : tb_G} (hl : l.stackTraces = false) (n : Nat) (J : zJ) (t : Int) (hr_t : -2147483648 ≤ t ∧ t < 2147483648) (m : Int) (S : zJ) (pn : Int) (RR : Int → Int → Int) (hI : CI J m) (h9 : J 145 10 < 1000000000) (cc : CAL J S pn RR) (h21 : S 164 21 = 0) (hr9 : S 165 40 ≤ S 165 39) : tz_Ok l G M_X11_normal 12 0 0 [.ref 0, zi t] n J (zqi (fun z J' => CQ J' J ∧ (((0 ≤ t ∧ t < J 6 12) ∧ ((nFN S 0 t).2.1 = [] → NRE S pn RR (nFN S 0 t) J' z)) ∨ (¬ (0 ≤ t ∧ t < J 6 12) ∧ z = -1 ∧ CAL J' S pn RR)))) zN := by
  refine tz_Ok.of hl (by decide +kernel) rfl (tb_c1 rfl) (Nat.le_of_ble_eq_true rfl) ?_
  show tz_At l G M_X11_normal (tb_rm 12 0 0) none (tb_ZM G 0 0 (zQ n 0 (zqi (fun z J' => CQ J' J ∧ (((0 ≤ t ∧ t < J 6 12) ∧ ((nFN S 0 t).2.1 = [] → NRE S pn RR (nFN S 0 t) J' z)) ∨ (¬ (0 ≤ t ∧ t < J 6 12) ∧ z = -1 ∧ CAL J' S pn RR))))) (zX n 0 zN)) 0 0 n J 0 [some (.ref 0), some (zi t)] []
  have hC := hI.1.1.1
  have hm := hI.1.1.2.1
  have hL := hI.1.1.2.2
  have hb := hC.told
  have wb := cc.2.1.b hL
  refine tz_aload_n (pc := 0) dX11_normal_0 rfl rfl ?_
  refine tz_fR (pc := 1) dX11_normal_1 fl_X11_29 r_0_1 ?_
  refine tz_fR (pc := 4) dX11_normal_4 fl_X11_49 r_5_0 ?_
  refine tz_iload_n (pc := 7) dX11_normal_7 rfl rfl ?_
  refine tz_cV (pc := 8) (c_has hl n _ _ (by omega)) vl_X11_304 dX11_normal_8 o_6 rfl rfl (Nat.le_of_ble_eq_true rfl) ⟨(Nat.le_of_ble_eq_true rfl), (Nat.le_of_ble_eq_true rfl)⟩ rfl rfl (Nat.le_of_ble_eq_true rfl) (Nat.le_of_ble_eq_true rfl) (fun r9 J_8 hq9 => ?_)
  obtain ⟨z_8, rfl, hz_8, rfl, rfl⟩ := hq9
  by_cases hw_11 : 0 ≤ t ∧ t < J 6 12
  · rw [show (if 0 ≤ t ∧ t < J 6 12 then 1 else 0 : Int) = 1 from if_pos hw_11]
    refine tz_if_neT (pc := 11) (tgt := 21) (by decide) dX11_normal_11 (by decide) (by decide) ?_
    refine tz_aload_n (pc := 21) dX11_normal_21 rfl rfl ?_
    refine tz_fR (pc := 22) dX11_normal_22 fl_X11_29 r_0_1 ?_
    refine tz_cV (pc := 25) (c_begin hl n _) vl_X11_287 dX11_normal_25 o_5 rfl rfl (Nat.le_of_ble_eq_true rfl) ⟨(Nat.le_of_ble_eq_true rfl), (Nat.le_of_ble_eq_true rfl)⟩ rfl rfl (Nat.le_of_ble_eq_true rfl) (Nat.le_of_ble_eq_true rfl) (fun r9 Jb hq9 => ?_)
    obtain ⟨rfl, hj⟩ := hq9
    have hb9 : zOf (zbut [19, 61]) Jb J := by rw [← hj]; exact zOf.cp rfl (zOf.up rfl zOf.rf)
    have hb19 : ∀ k, ¬ k = 0 → Jb 19 k = J 19 k := fun k hk => by rw [← hj, zcp_nc (by decide), zup_ne hk]
    have a0 : AC Jb m m := by rw [← hj]; exact hI.begin
    have hb6 := a0.1.1.2.1
    obtain ⟨cb, kb, lb⟩ := cc.begin hI hj
    refine tz_aload_n (pc := 28) dX11_normal_28 rfl rfl ?_
    refine tz_fR (pc := 29) dX11_normal_29 fl_X11_90 r_0_10 ?_
    refine tz_cV (pc := 32) (c_allow hl n _) vl_X11_344 dX11_normal_32 o_158 rfl rfl (Nat.le_of_ble_eq_true rfl) ⟨(Nat.le_of_ble_eq_true rfl), (Nat.le_of_ble_eq_true rfl)⟩ rfl rfl (Nat.le_of_ble_eq_true rfl) (Nat.le_of_ble_eq_true rfl) (fun r9 Jc hq9 => ?_)
    obtain ⟨rfl, hj2⟩ := hq9
    have hc9 : zOf (zbut [158]) Jc Jb := by rw [← hj2]; exact zOf.up rfl zOf.rf
    have a2 : AC Jc m m := a0.gx0 (X := [158]) ((GX.rf a0.1.1.1 hb6).off rfl hc9) rfl
    refine tz_aload_n (pc := 35) dX11_normal_35 rfl rfl ?_
    refine tz_aload_n (pc := 36) dX11_normal_36 rfl rfl ?_
    refine tz_fR (pc := 37) dX11_normal_37 fl_X11_90 r_0_10 ?_
    refine tz_iload_n (pc := 40) dX11_normal_40 rfl rfl ?_
    have e9 : Jc 158 8 = 100 := by rw [← hj2]; exact zup_at
    refine tz_cV (pc := 41) (x_cnormal hl n _ _ (by omega) m S 0 a2.1.1.1 a2.1.1.2.1 a2.1.1.2.2 (by omega) (cb.1.f (fun c hc => hc9 c (by simp [zbut]; omega))) (by rw [hc9 19 rfl]; exact cb.2.1) h21 hr9 (by omega)) vl_X11_347 dX11_normal_41 o_158 rfl rfl (Nat.le_of_ble_eq_true rfl) ⟨(Nat.le_of_ble_eq_true rfl), (Nat.le_of_ble_eq_true rfl)⟩ rfl rfl (Nat.le_of_ble_eq_true rfl) (Nat.le_of_ble_eq_true rfl) (fun r9 J_41 hq9 => ?_)
    obtain ⟨z_41, rfl, hz_41, m1, g1, l1, h1, x1⟩ := hq9
    have a1 := a2.gx g1 rfl l1 (a2.1.2.1.of (g1.2.2.2.2 145 rfl) (g1.2.2.2.2 146 rfl))
    have gg : zOf (zbut [6, 7, 8, 9, 10, 11, 12, 13, 14, 15, 16, 17, 19, 140, 158, 159, 160, 161]) J_41 Jb := g1.2.2.2.2.tr (hc9.mono (zbut_sub (fun c hc => by simp at hc ⊢; omega)))
    have gx : GX [19, 140, 158, 159, 160, 161] J_41 Jb m m1 := GX.tr ((GX.rf a0.1.1.1 hb6).off rfl (hc9.mono (zbut_sub (fun c hc => by simp at hc ⊢; omega)))) g1
    refine tz_cV (pc := 44) (x_settled hl n _ _ (by omega) m m1 a1) vl_X11_293 dX11_normal_44 o_0 rfl rfl (Nat.le_of_ble_eq_true rfl) ⟨(Nat.le_of_ble_eq_true rfl), (Nat.le_of_ble_eq_true rfl)⟩ rfl rfl (Nat.le_of_ble_eq_true rfl) (Nat.le_of_ble_eq_true rfl) (fun r9 J_44 hq9 => ?_)
    obtain ⟨z_44, rfl, hz_44, s9, s8⟩ := hq9
    exact tz_iret (pc := 47) (z := z_44) dX11_normal_47 rfl (Nat.le_of_ble_eq_true rfl) (Nat.le_of_ble_eq_true rfl) ⟨Nat.le_refl _, Nat.le_add_right _ _⟩ ⟨_, rfl, (by omega), ⟨(s9.cq (by rw [gg 145 rfl, hb9 145 rfl]; omega) ((gg 0 rfl).trans (hb9 0 rfl)) ((gg.mono (fun c hc => by have := of_decide_eq_true hc; simp [zbut]; omega)).tr (hb9.mono (fun c hc => by have := of_decide_eq_true hc; simp [zbut]; omega)))), Or.inl ⟨by omega, nrm_end cc hI hj gx rfl x1 s8⟩⟩⟩
  · rw [show (if 0 ≤ t ∧ t < J 6 12 then 1 else 0 : Int) = 0 from if_neg hw_11]
    refine tz_if_neF (pc := 11) (tgt := 21) (by decide) dX11_normal_11 (by decide) (by decide) ?_
    refine tz_aload_n (pc := 14) dX11_normal_14 rfl rfl ?_
    refine tz_iconst (pc := 15) dX11_normal_15 ?_
    refine tz_iconst (pc := 16) dX11_normal_16 ?_
    refine tz_cV (pc := 17) (c_refused hl n _ _ _ (by decide) (by omega) (by decide)) vl_X11_284 dX11_normal_17 o_0 rfl rfl (Nat.le_of_ble_eq_true rfl) ⟨(Nat.le_of_ble_eq_true rfl), (Nat.le_of_ble_eq_true rfl)⟩ rfl rfl (Nat.le_of_ble_eq_true rfl) (Nat.le_of_ble_eq_true rfl) (fun r9 J_17 hq9 => ?_)
    obtain ⟨z_17, rfl, hz_17, f9, rfl⟩ := hq9
    exact tz_iret (pc := 20) (z := (-1)) dX11_normal_20 rfl (Nat.le_of_ble_eq_true rfl) (Nat.le_of_ble_eq_true rfl) ⟨Nat.le_refl _, Nat.le_add_right _ _⟩ ⟨_, rfl, (by decide), ⟨(SQ.cq ⟨⟨m, hI.st f9⟩, f9 145 rfl, f9 0 rfl, (f9.mono (fun c hc => by have := of_decide_eq_true hc; simp [zbut]; omega))⟩ (by omega) rfl zOf.rf), Or.inr ⟨by omega, rfl, cc.st hI f9⟩⟩⟩

end
section
/-! ===== normal of the reference, exact ===== -/
theorem MOP.np {Jo Jb : zJ} {s m m' : Int} (g : NP Jo Jb 0 0 0 s m m') : MOP Jo Jb m := by
  obtain ⟨_, ⟨g1, g2, ⟨f1, f2, f3, f4⟩, g4⟩, _⟩ := g
  have r : ∀ k : Int, 63 ≤ k → rM k = false := fun k h => by simp [rM]; omega
  refine ⟨⟨fun k a => f2 k (by omega) (r k (by omega)), fun k a b => f1.1 k (by omega), fun k a b => f1.2 k (by omega), f3 12 (by decide), f3 13 (by decide)⟩, fun k a => f2 k (by omega) (r k a), ⟨f3 9 (by decide), f3 10 (by decide), f3 11 (by decide)⟩, fun t a b => ?_, fun k a b => ?_, fun k _ _ => ⟨by rw [f4 169 rfl], by rw [f4 170 rfl], by rw [f4 171 rfl]⟩⟩
  · have := (g2 t a b).1
    rw [Int.zero_add] at this
    exact this
  · have := (g2 (k / 3) (by omega) (by omega)).2 (k % 3) (by omega) (by omega)
    rw [show 3 * (0 + k / 3) + k % 3 = k from by omega] at this
    exact this
/-- the machine stops where the reference tells it -/
theorem noc_fn {B σ t z : Int} {S J' : zJ} (h : NOC B S σ t J' z) (hB : B ≤ 2912) (hσ : 0 ≤ σ) (h4 : J' 164 34 ≤ 101) : (NGO J' ∧ 0 ≤ z ∧ nFN S σ t = ((tb0 J', J' 164 34), [], z)) ∨ ∃ Q v, NSV J' v ∧ nFN S σ t = (Q, [], v) := by
  have k : ∀ n : Nat, n ≤ 1000000 → ∀ Q v, nIT n (nOP S σ [] t) = (Q, [], v) → nFN S σ t = (Q, [], v) := fun n hn Q v e => by
    unfold nFN
    rw [show 1000000 = n + (1000000 - n) by omega, nIT_add, e, nIT_e]
  rcases h with ⟨g, z0, n, p, q⟩ | ⟨n, Q, v, g, p, q⟩
  · exact Or.inl ⟨g, z0, k n (by omega) _ _ (q [])⟩
  · exact Or.inr ⟨Q, v, g, k n (by omega) _ _ (q [])⟩
def MRE (S : zJ) (n : Int) (R : Int → Int → Int) (c : NCf) (J' : zJ) (z : Int) : Prop := c.2.1 = [] ∧ ((0 ≤ c.2.2 ∧ z = c.2.2 ∧ (MBT J' c.1.1 ∧ c.1.1 165 0 ≤ 400) ∧ MUr J' (psn n) (psh n R (S 165))) ∨ (c.2.2 = -3 ∧ z = -3 ∧ MBT J' S ∧ MUr J' n R) ∨ (c.2.2 = -4 ∧ z = -2 ∧ MBT J' S ∧ MUr J' n R))
theorem nrq_end {Jb Jo J' S : zJ} {n m a z t : Int} {R : Int → Int → Int} (hb : tb0 Jb = S) (hS : S 165 0 = m) (hm : m ≤ 400) (hA : ∀ q, 0 ≤ q → q < 63 → Jb 165 (63 + q) = S 165 q) (u : MUr Jb n R) (hn : 0 ≤ n ∧ n ≤ 40) (h11 : 0 ≤ Jb 164 11 ∧ Jb 164 11 < 40) (p : MOP Jo Jb m) (hm' : Jo 165 0 ≤ 400) (h4 : Jo 164 34 ≤ 100) (e : (NGO Jo ∧ 0 ≤ a ∧ nFN S 0 t = ((tb0 Jo, Jo 164 34), [], a)) ∨ ∃ Q v, NSV Jo v ∧ nFN S 0 t = (Q, [], v)) (k : (¬ Jo 164 21 = 0 ∧ -3 = z ∧ zOf (zbut [172]) J' (zmv Jo 165 63 0 63)) ∨ (Jo 164 21 = 0 ∧ a = z ∧ ((¬ Jo 164 10 = 40 ∧ zkL Jo = J') ∨ (Jo 164 10 = 40 ∧ zkF Jo = J')))) : MRE S n R (nFN S 0 t) J' z ∧ MFI J' Jb := by
  have w := mact_end (F := (tb0 Jo, a)) hb hS hm hA u hn h11 p rfl hm' (fun _ => rfl) k
  refine ⟨?_, w.2⟩
  rcases e with ⟨g, a0, e⟩ | ⟨Q, v, g, e⟩
  · rw [e]
    rcases w.1 with ⟨q, _⟩ | ⟨_, q1, q2, q3⟩
    · exact absurd g.1 q
    · exact ⟨rfl, Or.inl ⟨a0, q1, ⟨q2, hm'⟩, q3⟩⟩
  · rw [e]
    rcases g with ⟨v1, g1, _⟩ | ⟨_, _, g1⟩
    · rcases w.1 with ⟨_, q1, q2, q3⟩ | ⟨q, _⟩
      · exact ⟨rfl, Or.inr (Or.inl ⟨v1, q1, q2, q3⟩)⟩
      · exact absurd q g1
    · omega
theorem nrq_fail {Jb Jo J' S : zJ} {n m a z t : Int} {R : Int → Int → Int} (hb : tb0 Jb = S) (hS : S 165 0 = m) (hm : m ≤ 400) (hA : ∀ q, 0 ≤ q → q < 63 → Jb 165 (63 + q) = S 165 q) (u : MUr Jb n R) (hn : 0 ≤ n ∧ n ≤ 40) (h11 : 0 ≤ Jb 164 11 ∧ Jb 164 11 < 40) (p : MOP Jo Jb m) (h4 : 100 < Jo 164 34) (e : (NGO Jo ∧ 0 ≤ a ∧ nFN S 0 t = ((tb0 Jo, Jo 164 34), [], a)) ∨ ∃ Q v, NSV Jo v ∧ nFN S 0 t = (Q, [], v)) (hz : -2 = z) (k3 : zOf (zbut [172]) J' (zmv Jo 165 63 0 63)) : MRE S n R (nFN S 0 t) J' z ∧ MFI J' Jb := by
  obtain ⟨w1, w2⟩ := mact_fail hb hS hm hA u hn h11 p k3
  refine ⟨?_, w2⟩
  rcases e with ⟨g, _⟩ | ⟨Q, v, g, e⟩
  · have := g.2; omega
  · rw [e]
    rcases g with ⟨_, _, g1⟩ | ⟨v1, _, _⟩
    · omega
    · exact ⟨rfl, Or.inr (Or.inr ⟨v1, hz.symm, w1⟩)⟩
theorem AEN {S J' Jb J : zJ} {n z t : Int} {R : Int → Int → Int} {P : Prop} (q : MQr J' J) (b : MFI Jb J) (e : MRE S n R (nFN S 0 t) J' z ∧ MFI J' Jb) (p : P) : MQr J' J ∧ MFI J' J ∧ ((P ∧ MRE S n R (nFN S 0 t) J' z) ∨ (¬ P ∧ z = -1 ∧ MBT J' S ∧ MUr J' n R)) := ⟨q, b.tr e.2, Or.inl ⟨p, e.1⟩⟩
set_option maxHeartbeats 4000000 in
set_option maxRecDepth 100000 in
theorem v_qnormal {l : Launch} {G : tb_G} (hl : l.stackTraces = false) (n : Nat) (J : zJ) (x : Int) (hr_x : -2147483648 ≤ x ∧ x < 2147483648) (m : Int) (pn : Int) (RR : Int → Int → Int) (hI : MI J m) (u9 : MUr J pn RR) : tz_Ok l G M_X12_normal 731 0 0 [.ref 164, zi x] n J (zqi (fun z J' => MQr J' J ∧ MFI J' J ∧ (((0 ≤ x ∧ x < J 165 0) ∧ MRE (tbz J) pn RR (nFN (tbz J) 0 x) J' z) ∨ (¬ (0 ≤ x ∧ x < J 165 0) ∧ z = -1 ∧ MBT J' (tbz J) ∧ MUr J' pn RR)))) zN := by
  refine tz_Ok.of hl (by decide +kernel) rfl (tb_c1 rfl) (Nat.le_of_ble_eq_true rfl) ?_
  show tz_At l G M_X12_normal (tb_rm 731 0 0) none (tb_ZM G 0 0 (zQ n 0 (zqi (fun z J' => MQr J' J ∧ MFI J' J ∧ (((0 ≤ x ∧ x < J 165 0) ∧ MRE (tbz J) pn RR (nFN (tbz J) 0 x) J' z) ∨ (¬ (0 ≤ x ∧ x < J 165 0) ∧ z = -1 ∧ MBT J' (tbz J) ∧ MUr J' pn RR))))) (zX n 0 zN)) 0 0 n J 0 [some (.ref 164), some (zi x), none] []
  have hT := hI.told
  have hW := hI.row
  have hM := hI.1
  have hL := hI.2.1
  refine tz_aload_n (pc := 0) dX12_normal_0 rfl rfl ?_
  refine tz_iconst (pc := 1) dX12_normal_1 ?_
  refine tz_pI (pc := 2) (kz := 8) dX12_normal_2 fl_X12_68 i_164_8 rfl rfl (by decide) ?_
  refine tz_aload_n (pc := 5) dX12_normal_5 rfl rfl ?_
  refine tz_iload_n (pc := 6) dX12_normal_6 rfl rfl ?_
  refine tz_cV (pc := 7) (m_isTerm hl n _ _ (by omega) (by rw [(show ((zup J 164 8 0) : zJ) 165 0 = (J 165 0) from rfl)]; omega)) vl_X12_376 dX12_normal_7 o_164 rfl rfl (Nat.le_of_ble_eq_true rfl) ⟨(Nat.le_of_ble_eq_true rfl), (Nat.le_of_ble_eq_true rfl)⟩ rfl rfl (Nat.le_of_ble_eq_true rfl) (Nat.le_of_ble_eq_true rfl) (fun r9 J_7 hq9 => ?_)
  obtain ⟨z_7, rfl, hz_7, rfl, ht_7⟩ := hq9
  rw [(show ((zup J 164 8 0) : zJ) 165 0 = (J 165 0) from rfl)] at ht_7
  refine tz_if_ne (pc := 10) (tgt := 20) dX12_normal_10 (by decide) (by omega) (fun h_10 => ?_) (fun h_10 => ?_)
  · refine tz_aload_n (pc := 20) dX12_normal_20 rfl rfl ?_
    refine tz_cV (pc := 21) (m_begins hl n _) vl_X12_400 dX12_normal_21 o_164 rfl rfl (Nat.le_of_ble_eq_true rfl) ⟨(Nat.le_of_ble_eq_true rfl), (Nat.le_of_ble_eq_true rfl)⟩ rfl rfl (Nat.le_of_ble_eq_true rfl) (Nat.le_of_ble_eq_true rfl) (fun r9 J_21 hq9 => ?_)
    obtain ⟨rfl, hj_21⟩ := hq9
    have a_21 : AM J_21 J m m := by rw [← hj_21]; exact AM.begin (hI.z (MZ.up (k := 8) MZ.rf (by decide))) ⟨MZ.lo (MZ.up (k := 8) MZ.rf (by decide)), SC.z (MZ.up (k := 8) MZ.rf (by decide))⟩
    have br_21 : ∀ k, (k < 63 ∨ 126 ≤ k) → J_21 165 k = ((zup J 164 8 0) : zJ) 165 k := fun k hk => by rw [← hj_21]; exact zbg_r hk
    have bl_21 : ∀ k, ¬ k = 34 → ¬ k = 33 → ¬ k = 21 → J_21 164 k = ((zup J 164 8 0) : zJ) 164 k := fun k u v w => by rw [← hj_21]; exact zbg_f u v w
    have bo_21 : zOf (zbut [164, 165]) J_21 (zup J 164 8 0) := by rw [← hj_21]; exact zbg_of
    have b3_21 : J_21 164 21 = 0 ∧ J_21 164 33 = 0 ∧ J_21 164 34 = 0 := by rw [← hj_21]; exact ⟨rfl, rfl, rfl⟩
    have s9_21 : J_21 164 9 = J 164 9 := (bl_21 9 (by decide) (by decide) (by decide)).trans ((MZ.up (k := 8) MZ.rf (by decide)).2 9 (by decide) (by decide))
    obtain ⟨⟨bt_21, bs_21, bm_21, ba_21⟩, bu_21, bn_21, bf_21, bi_21⟩ := mbeg hI (MZ.up (k := 8) MZ.rf (by decide)) hj_21 u9
    refine tz_aload_n (pc := 24) dX12_normal_24 rfl rfl ?_
    refine tz_iload_n (pc := 25) dX12_normal_25 rfl rfl ?_
    refine tz_cV (pc := 26) (x_normal hl n _ _ (by omega) (J_21 164 9) m (AM.nz a_21 b3_21.1 (by omega)) rfl (by omega)) vl_X12_221 dX12_normal_26 o_164 rfl rfl (Nat.le_of_ble_eq_true rfl) ⟨(Nat.le_of_ble_eq_true rfl), (Nat.le_of_ble_eq_true rfl)⟩ rfl rfl (Nat.le_of_ble_eq_true rfl) (Nat.le_of_ble_eq_true rfl) (fun r9 J_26 hq9 => ?_)
    obtain ⟨z_26, rfl, hz_26, m_26, n_26, h_26, x_26, y_26⟩ := hq9
    have a_26 := AM.norm a_21 n_26 rfl
    have lm_26 := n_26.2.1.1.2
    have st_26 := n_26.1.2.2.2
    have d9 := ((a_21).1.1.ar (t := x) (by omega)).2.2.1
    have e_26 := noc_fn (x_26 ⟨b3_21.1, by omega⟩) (nWT_le (by omega)) (by omega) st_26.2
    rw [bt_21, b3_21.2.2] at e_26
    refine tz_istore_n (pc := 29) (L2 := [_, _, _]) dX12_normal_29 rfl (by decide) rfl ?_
    refine tz_aload_n (pc := 30) dX12_normal_30 rfl rfl ?_
    refine tz_fI (pc := 31) (kz := 34) (v := (J_26 164 34)) dX12_normal_31 fl_X12_208 i_164_34 rfl rfl (fun r_31 => ?_)
    refine tz_bipush (pc := 34) dX12_normal_34 (by decide) ?_
    refine tz_icmp_le (pc := 36) (tgt := 49) dX12_normal_36 (by decide) (by omega) (by decide) (fun h_36 => ?_) (fun h_36 => ?_)
    · refine tz_aload_n (pc := 49) dX12_normal_49 rfl rfl ?_
      refine tz_iload_n (pc := 50) dX12_normal_50 rfl rfl ?_
      refine tz_cV (pc := 51) (m_keeps hl n _ _ (by omega) (a_26).2.2.2.1.1.1 (a_26).2.2.2.1.1.2) vl_X12_403 dX12_normal_51 o_164 rfl rfl (Nat.le_of_ble_eq_true rfl) ⟨(Nat.le_of_ble_eq_true rfl), (Nat.le_of_ble_eq_true rfl)⟩ rfl rfl (Nat.le_of_ble_eq_true rfl) (Nat.le_of_ble_eq_true rfl) (fun r9 J_51 hq9 => ?_)
      obtain ⟨z_51, rfl, hz_51, k_51⟩ := hq9
      exact tz_iret (pc := 54) (z := z_51) dX12_normal_54 rfl (Nat.le_of_ble_eq_true rfl) (Nat.le_of_ble_eq_true rfl) ⟨Nat.le_refl _, Nat.le_add_right _ _⟩ ⟨_, rfl, (by omega), (AEN (AM.keep a_26 k_51) bi_21 (nrq_end bt_21 bs_21 bm_21 ba_21 bu_21 bn_21 bf_21 (MOP.np n_26) (by have t9 := n_26.1.1.told; have s9 := n_26.1.1.2.2.2.2.1; omega) (by omega) e_26 k_51) (by omega))⟩
    · refine tz_aload_n (pc := 39) dX12_normal_39 rfl rfl ?_
      refine tz_iconst (pc := 40) dX12_normal_40 ?_
      refine tz_bipush (pc := 41) dX12_normal_41 (by decide) ?_
      refine tz_cV (pc := 43) (m_fails hl n _ _ _ (by decide) (by decide) (by decide)) vl_X12_394 dX12_normal_43 o_164 rfl rfl (Nat.le_of_ble_eq_true rfl) ⟨(Nat.le_of_ble_eq_true rfl), (Nat.le_of_ble_eq_true rfl)⟩ rfl rfl (Nat.le_of_ble_eq_true rfl) (Nat.le_of_ble_eq_true rfl) (fun r9 J_43 hq9 => ?_)
      obtain ⟨z_43, rfl, hz_43, e_43, f_43⟩ := hq9
      refine tz_goto (pc := 46) (tgt := 54) dX12_normal_46 (by decide) ?_
      exact tz_iret (pc := 54) (z := z_43) dX12_normal_54 rfl (Nat.le_of_ble_eq_true rfl) (Nat.le_of_ble_eq_true rfl) ⟨Nat.le_refl _, Nat.le_add_right _ _⟩ ⟨_, rfl, (by omega), (AEN (AM.fail a_26 f_43) bi_21 (nrq_fail bt_21 bs_21 bm_21 ba_21 bu_21 bn_21 bf_21 (MOP.np n_26) (by omega) e_26 e_43 f_43) (by omega))⟩
  · refine tz_aload_n (pc := 13) dX12_normal_13 rfl rfl ?_
    refine tz_iconst (pc := 14) dX12_normal_14 ?_
    refine tz_iconst (pc := 15) dX12_normal_15 ?_
    refine tz_cV (pc := 16) (m_refuses hl n _ _ _ (by decide) (by decide) (by decide)) vl_X12_391 dX12_normal_16 o_164 rfl rfl (Nat.le_of_ble_eq_true rfl) ⟨(Nat.le_of_ble_eq_true rfl), (Nat.le_of_ble_eq_true rfl)⟩ rfl rfl (Nat.le_of_ble_eq_true rfl) (Nat.le_of_ble_eq_true rfl) (fun r9 J_16 hq9 => ?_)
    obtain ⟨z_16, rfl, hz_16, rfl, f_16⟩ := hq9
    have y_16 : MZ J_16 J := MZ.tr (MZ.up (k := 8) MZ.rf (by decide)) (MZ.c f_16 (by decide))
    exact tz_iret (pc := 19) (z := (-1)) dX12_normal_19 rfl (Nat.le_of_ble_eq_true rfl) (Nat.le_of_ble_eq_true rfl) ⟨Nat.le_refl _, Nat.le_add_right _ _⟩ ⟨_, rfl, (by decide), ⟨MQr.z hI y_16, MFI.z y_16, Or.inr ⟨by omega, rfl, MBT.z hI y_16, u9.z y_16⟩⟩⟩

end
section
/-! ===== years of the reference: all is as before ===== -/
theorem MOP.rf {J : zJ} {m : Int} : MOP J J m := ⟨⟨fun _ _ => rfl, fun _ _ _ => ⟨rfl, rfl⟩, fun _ _ _ => rfl, rfl, rfl⟩, fun _ _ => rfl, ⟨rfl, rfl, rfl⟩, fun _ _ _ => ⟨rfl, rfl⟩, fun _ _ _ => rfl, fun _ _ _ => ⟨rfl, rfl, rfl⟩⟩
theorem MOP.tr {J2 J1 J : zJ} {m m1 : Int} (g : MOP J1 J m) (h : MOP J2 J1 m1) (l : m ≤ m1) : MOP J2 J m := by
  obtain ⟨a, b, ⟨c1, c2, c3⟩, d, e, f⟩ := g
  obtain ⟨a', b', ⟨c1', c2', c3'⟩, d', e', f'⟩ := h
  exact ⟨a.tr a', fun k q => (b' k q).trans (b k q), ⟨c1'.trans c1, c2'.trans c2, c3'.trans c3⟩, fun t p q => ⟨(d' t p (by omega)).1.trans (d t p q).1, (d' t p (by omega)).2.trans (d t p q).2⟩, fun k p q => (e' k p (by omega)).trans (e k p q), fun k p q => ⟨(f' k p q).1.trans (f k p q).1, (f' k p q).2.1.trans (f k p q).2.1, (f' k p q).2.2.trans (f k p q).2.2⟩⟩
theorem MOP.mgd {Jo Jb : zJ} {s m m' : Int} (g : MG [] [46] (fun _ => false) Jo Jb 0 0 0 s m m') : MOP Jo Jb m := by
  obtain ⟨g1, g2, ⟨f1, f2, f3, f4⟩, g4⟩ := g
  refine ⟨⟨fun k a => f2 k (by omega) rfl, fun k a b => f1.1 k (by omega), fun k a b => f1.2 k (by omega), f3 12 (by decide), f3 13 (by decide)⟩, fun k a => f2 k (by omega) rfl, ⟨f3 9 (by decide), f3 10 (by decide), f3 11 (by decide)⟩, fun t a b => ?_, fun k a b => ?_, fun k _ _ => ⟨by rw [f4 169 rfl], by rw [f4 170 rfl], by rw [f4 171 rfl]⟩⟩
  · have := (g2 t a b).1
    rw [Int.zero_add] at this
    exact this
  · have := (g2 (k / 3) (by omega) (by omega)).2 (k % 3) (by omega) (by omega)
    rw [show 3 * (0 + k / 3) + k % 3 = k from by omega] at this
    exact this
theorem MOP.i46 {J : zJ} {m v : Int} : MOP (zup J 164 46 v) J m := ⟨⟨fun _ _ => rfl, fun _ _ _ => ⟨rfl, rfl⟩, fun _ _ _ => rfl, rfl, rfl⟩, fun _ _ => rfl, ⟨rfl, rfl, rfl⟩, fun _ _ _ => ⟨rfl, rfl⟩, fun _ _ _ => rfl, fun _ _ _ => ⟨rfl, rfl, rfl⟩⟩
end
section
/-! ===== the image, on both sides ===== -/
def MBI (J S : zJ) : Prop := (∀ k, 0 ≤ k → k < 63 → J 165 (2709 + k) = S 165 k) ∧ (∀ t, 0 ≤ t → t < S 165 0 → J 166 (400 + t) = S 166 t ∧ J 168 (400 + t) = S 168 t) ∧ (∀ k, 0 ≤ k → k < 3 * S 165 0 → J 167 (1200 + k) = S 167 k)
def MUi (J : zJ) (n : Int) (R : Int → Int → Int) : Prop := J 164 12 = n ∧ ∀ k, 0 ≤ k → k < n → ∀ q, 0 ≤ q → q < 63 → J 165 (2772 + 63 * ((J 164 13 + k) % 40) + q) = R k q
theorem MBI.fi {J' J G : zJ} (h : MBI J G) (f : MFI J' J) (b : 0 ≤ G 165 0 ∧ G 165 0 ≤ 400) : MBI J' G := ⟨fun k a c => by rw [f.1 _ (by omega)]; exact h.1 k a c, fun t a c => by rw [(f.2.1 _ (by omega) (by omega)).1, (f.2.1 _ (by omega) (by omega)).2]; exact h.2.1 t a c, fun k a c => by rw [f.2.2.1 _ (by omega) (by omega)]; exact h.2.2 k a c⟩
theorem MUi.fi {J' J : zJ} {n : Int} {R : Int → Int → Int} (u : MUi J n R) (f : MFI J' J) : MUi J' n R := ⟨f.2.2.2.1.trans u.1, fun k a b q c d => by rw [f.2.2.2.2, f.1 _ (by omega)]; exact u.2 k a b q c d⟩
def A1k (J G : zJ) : Prop := J 64 12 = G 165 0 ∧ (∀ t, 0 ≤ t → t < G 165 0 → J 65 t = G 166 (0 + t) ∧ J 70 t = G 168 (0 + t)) ∧ (∀ t i, 0 ≤ t → t < G 165 0 → 0 ≤ i → i < J 66 t → J 67 (t * 3 + i) = G 167 (3 * (0 + t) + i))
def CUk (J : zJ) (n : Int) (R : Int → Int → Int) : Prop := J 63 6 = n ∧ ∀ k, 0 ≤ k → k < n → KW (J (zV ((J 63 5 + k) % 40))) (R k)
/-- the class's image shows the state G with the kept rows R -/
def CALk (J G : zJ) (n : Int) (R : Int → Int → Int) : Prop := A1k J G ∧ RW (J 77) (G 165) ∧ CUk J n R
theorem CALk.of {J' J G : zJ} {n : Int} {R : Int → Int → Int} (h : CALk J G n R) (f : ∀ c, 63 ≤ c → c ≤ 120 → J' c = J c) : CALk J' G n R := by
  obtain ⟨h1, h2, h3, h4⟩ := h
  refine ⟨?_, by rw [f 77 (by decide) (by decide)]; exact h2, ?_⟩
  · unfold A1k
    rw [f 64 (by decide) (by decide), f 65 (by decide) (by decide), f 66 (by decide) (by decide), f 67 (by decide) (by decide), f 70 (by decide) (by decide)]
    exact h1
  · unfold CUk
    rw [f 63 (by decide) (by decide)]
    refine ⟨h3, fun k a b => ?_⟩
    rw [f _ (by unfold zV; omega) (by unfold zV; omega)]
    exact h4 k a b
theorem CAL.fr {J' J S : zJ} {n m : Int} {R : Int → Int → Int} (c : CAL J S n R) (hI : CI J m) (f : ∀ q, 0 < q → q < 63 → J' q = J q) : CAL J' S n R := ⟨c.1.f (fun q hq => f q (by omega) (by omega)), by rw [f 19 (by decide) (by decide)]; exact c.2.1, c.2.2.of (by have := hI.2.1; have := c.2.2.1; omega) (f 5 (by decide) (by decide)) (fun i a b => f _ (by unfold zU; omega) (by unfold zU; omega))⟩
theorem calk_mk {J' J S : zJ} {n m : Int} {R : Int → Int → Int} (c : CAL J S n R) (hI : CI J m) (e1 : J' 64 12 = J 6 12) (e2 : ∀ t, 0 ≤ t → t < J 6 12 → J' 65 t = J 7 t ∧ J' 66 t = J 8 t ∧ J' 70 t = J 12 t) (e3 : ∀ k, 0 ≤ k → k < J 6 12 * 3 → J' 67 k = J 9 k) (e4 : ∀ k, 0 ≤ k → k < 61 → J' 77 k = J 19 k) (e5 : J' 63 5 = J 5 5 ∧ J' 63 6 = J 5 6) (e6 : ∀ q, 0 ≤ q → q < J 5 6 → ∀ x, 0 ≤ x → x < 61 → J' (zV ((J 5 5 + q) % 40)) x = J (zU ((J 5 5 + q) % 40)) x) : CALk J' S n R := by
  have hm := c.1.2.1
  have m2 := hI.1.1.2.1
  have u1 := c.2.2.1
  refine ⟨⟨e1.trans hm, fun t a b => ?_, fun t i a b x y => ?_⟩, c.2.1.of hI.1.1.2.2 (fun k a b => e4 k (by omega) b), e5.2.trans u1, fun k a b => ?_⟩
  · have q := e2 t a (by omega)
    rw [q.1, q.2.2]
    exact c.1.2.2.1 t a b
  · have q := e2 t a (by omega)
    rw [q.2.1] at y
    have ar := (hI.1.1.1.ar a (by omega)).1
    rw [e3 _ (by omega) (by omega)]
    exact c.1.2.2.2 t i a b x y
  · rw [e5.1]
    exact (c.2.2.2 k a b).cp (hI.2.2 k a (by omega)).1.1 (e6 k a (by omega))
/-- the tables of G with the symbols of S -/
def gsy (S G : zJ) : zJ := fun c => if c = 165 ∨ c = 166 ∨ c = 167 ∨ c = 168 then G c else S c
theorem cal_rs {J' J S G : zJ} {n ni mk : Int} {R Ri : Int → Int → Int} (c : CAL J S n R) (ck : CALk J G ni Ri) (hK : KI J mk) (f : ∀ c, c < 5 → J' c = J c) (e1 : J' 6 12 = J 64 12) (e2 : ∀ t, 0 ≤ t → t < J 64 12 → J' 7 t = J 65 t ∧ J' 8 t = J 66 t ∧ J' 12 t = J 70 t) (e3 : ∀ k, 0 ≤ k → k < J 64 12 * 3 → J' 9 k = J 67 k) (e4 : ∀ k, 0 ≤ k → k < 61 → J' 19 k = J 77 k) (e5 : J' 5 5 = J 63 5 ∧ J' 5 6 = J 63 6) (e6 : ∀ q, 0 ≤ q → q < J 63 6 → ∀ x, 0 ≤ x → x < 61 → J' (zU ((J 63 5 + q) % 40)) x = J (zV ((J 63 5 + q) % 40)) x) : CAL J' (gsy S G) ni Ri := by
  have hm := ck.1.1
  have m2 := hK.1.2
  have u1 := ck.2.2.1
  refine ⟨⟨?_, e1.trans hm, fun t a b => ?_, fun t i a b x y => ?_⟩, ck.2.1.of hK.2.1 (fun k a b => e4 k (by omega) b), e5.2.trans u1, fun k a b => ?_⟩
  · rw [f 1 (by decide), f 2 (by decide), f 3 (by decide), f 4 (by decide)]
    exact c.1.1
  · have b' : t < G 165 0 := b
    have q := e2 t a (by omega)
    rw [q.1, q.2.2]
    exact ck.1.2.1 t a b
  · have b' : t < G 165 0 := b
    have q := e2 t a (by omega)
    rw [q.2.1] at y
    have ar : 0 ≤ J 66 t ∧ J 66 t ≤ 3 := (hK.1.1.ar a (by omega)).1
    rw [e3 _ (by omega) (by omega)]
    exact ck.1.2.2 t i a b x y
  · rw [e5.1]
    exact (ck.2.2.2 k a b).cp (hK.2.2.2 k a (by omega)).1.1 (e6 k a (by omega))
end
section
/-! ===== image, restore of the class, exact ===== -/
set_option maxHeartbeats 4000000 in
set_option maxRecDepth 100000 in
theorem y_takeK {l : Launch} {G : tb_G} (hl : l.stackTraces = false) (n : Nat) (J : zJ)   (m : Int) (hI : CI J m) : tz_Ok l G M_X0_takeFrom 2 0 0 [.ref 63, .ref 5] n J (zqv (fun J' => KI J' m ∧ zOf fkk J' J ∧ J' 64 12 = J 6 12 ∧ (∀ t, 0 ≤ t → t < J 6 12 → J' 65 t = J 7 t ∧ J' 66 t = J 8 t ∧ J' 70 t = J 12 t) ∧ (∀ k, 0 ≤ k → k < J 6 12 * 3 → J' 67 k = J 9 k) ∧ (∀ k, 0 ≤ k → k < 61 → J' 77 k = J 19 k) ∧ (J' 63 5 = J 5 5 ∧ J' 63 6 = J 5 6) ∧ ∀ q, 0 ≤ q → q < J 5 6 → ∀ x, 0 ≤ x → x < 61 → J' (zV ((J 5 5 + q) % 40)) x = J (zU ((J 5 5 + q) % 40)) x)) zN := by
  refine tz_Ok.of hl (by decide +kernel) rfl (tb_c1 rfl) (Nat.le_of_ble_eq_true rfl) ?_
  show tz_At l G M_X0_takeFrom (tb_rm 2 0 0) none (tb_ZM G 0 0 (zQ n 0 (zqv (fun J' => KI J' m ∧ zOf fkk J' J ∧ J' 64 12 = J 6 12 ∧ (∀ t, 0 ≤ t → t < J 6 12 → J' 65 t = J 7 t ∧ J' 66 t = J 8 t ∧ J' 70 t = J 12 t) ∧ (∀ k, 0 ≤ k → k < J 6 12 * 3 → J' 67 k = J 9 k) ∧ (∀ k, 0 ≤ k → k < 61 → J' 77 k = J 19 k) ∧ (J' 63 5 = J 5 5 ∧ J' 63 6 = J 5 6) ∧ ∀ q, 0 ≤ q → q < J 5 6 → ∀ x, 0 ≤ x → x < 61 → J' (zV ((J 5 5 + q) % 40)) x = J (zU ((J 5 5 + q) % 40)) x))) (zX n 0 zN)) 0 0 n J 0 [some (.ref 63), some (.ref 5), none, none] []
  have hC := hI.1.1.1
  have hm := hI.1.1.2.1
  have hL := hI.1.1.2.2
  have hb := hC.told
  have hr := hI.2.1
  refine tz_aload_n (pc := 0) dX0_takeFrom_0 rfl rfl ?_
  refine tz_fR (pc := 1) dX0_takeFrom_1 fl_X0_32 r_63_0 ?_
  refine tz_aload_n (pc := 4) dX0_takeFrom_4 rfl rfl ?_
  refine tz_fR (pc := 5) dX0_takeFrom_5 fl_X0_32 r_5_0 ?_
  refine tz_cV (pc := 8) (c_teTake64_6 hl n _ (by omega)) vl_X0_62 dX0_takeFrom_8 o_64 rfl rfl (Nat.le_of_ble_eq_true rfl) ⟨(Nat.le_of_ble_eq_true rfl), (Nat.le_of_ble_eq_true rfl)⟩ rfl rfl (Nat.le_of_ble_eq_true rfl) (Nat.le_of_ble_eq_true rfl) (fun r9 J1 hq9 => ?_)
  obtain ⟨rfl, hj1⟩ := hq9
  have t1 : TQ 64 6 J1 J := by rw [← hj1]; exact te_64_6
  refine tz_aload_n (pc := 11) dX0_takeFrom_11 rfl rfl ?_
  refine tz_fR (pc := 12) dX0_takeFrom_12 fl_X0_36 r_63_1 ?_
  refine tz_aload_n (pc := 15) dX0_takeFrom_15 rfl rfl ?_
  refine tz_fR (pc := 16) dX0_takeFrom_16 fl_X0_36 r_5_1 ?_
  refine tz_cV (pc := 19) (c_leTake76_18 hl n _) vl_X0_66 dX0_takeFrom_19 o_76 rfl rfl (Nat.le_of_ble_eq_true rfl) ⟨(Nat.le_of_ble_eq_true rfl), (Nat.le_of_ble_eq_true rfl)⟩ rfl rfl (Nat.le_of_ble_eq_true rfl) (Nat.le_of_ble_eq_true rfl) (fun r9 J2 hq9 => ?_)
  obtain ⟨rfl, hj2⟩ := hq9
  have l2 : zOf (zbut [77]) J2 J1 := by rw [← hj2]; exact zOf.cp rfl zOf.rf
  have e77 : ∀ k, 0 ≤ k → k < 61 → J2 77 k = J 19 k := fun k a b => by rw [← hj2, zcp_in (by omega), ← congrFun (t1.2.2.2.2 19 rfl) k]; congr 1; omega
  have s5 : J2 5 = J 5 := (l2 5 rfl).trans (t1.2.2.2.2 5 rfl)
  refine tz_aload_n (pc := 22) dX0_takeFrom_22 rfl rfl ?_
  refine tz_aload_n (pc := 23) dX0_takeFrom_23 rfl rfl ?_
  refine tz_fI (pc := 24) (kz := 5) (v := (J2 5 5)) dX0_takeFrom_24 fl_X0_25 i_5_5 rfl rfl (fun r_24 => ?_)
  refine tz_pI (pc := 27) (kz := 5) dX0_takeFrom_27 fl_X0_25 i_63_5 rfl rfl (by omega) ?_
  refine tz_aload_n (pc := 30) dX0_takeFrom_30 rfl rfl ?_
  refine tz_aload_n (pc := 31) dX0_takeFrom_31 rfl rfl ?_
  refine tz_fI (pc := 32) (kz := 6) (v := (J2 5 6)) dX0_takeFrom_32 fl_X0_29 i_5_6 rfl rfl (fun r_32 => ?_)
  refine tz_pI (pc := 35) (kz := 6) dX0_takeFrom_35 fl_X0_29 i_63_6 rfl rfl (by omega) ?_
  refine tz_iconst (pc := 38) dX0_takeFrom_38 ?_
  refine tz_istore_n (pc := 39) (L2 := [_, _, _, _]) dX0_takeFrom_39 rfl (by decide) rfl ?_
  have loop40 : ∀ (f9 : Nat) (k : Int) (d3 : Option Value) (J3 : zJ), ((40 - k).toNat) < f9 → (0 ≤ k ∧ k ≤ J 5 6) → (zOf frV J3 (zup (zup J2 63 5 (J2 5 5)) 63 6 (J2 5 6))) → (∀ q, 0 ≤ q → q < k → ∀ x, 0 ≤ x → x < 61 → J3 (zV ((J 5 5 + q) % 40)) x = J (zU ((J 5 5 + q) % 40)) x) → tz_At l G M_X0_takeFrom (tb_rm 2 0 0) none (tb_ZM G 0 0 (zQ n 0 (zqv (fun J' => KI J' m ∧ zOf fkk J' J ∧ J' 64 12 = J 6 12 ∧ (∀ t, 0 ≤ t → t < J 6 12 → J' 65 t = J 7 t ∧ J' 66 t = J 8 t ∧ J' 70 t = J 12 t) ∧ (∀ k, 0 ≤ k → k < J 6 12 * 3 → J' 67 k = J 9 k) ∧ (∀ k, 0 ≤ k → k < 61 → J' 77 k = J 19 k) ∧ (J' 63 5 = J 5 5 ∧ J' 63 6 = J 5 6) ∧ ∀ q, 0 ≤ q → q < J 5 6 → ∀ x, 0 ≤ x → x < 61 → J' (zV ((J 5 5 + q) % 40)) x = J (zU ((J 5 5 + q) % 40)) x))) (zX n 0 zN)) 0 0 n J3 40 [some (.ref 63), some (.ref 5), some (zi k), d3] [] := by
    intro f9
    induction f9 with
    | zero => intro k d3 J3 hm9; exact absurd hm9 (Nat.not_lt_zero _)
    | succ f9 ih40 =>
      intro k d3 J3 hm40 hk f3 h3
      have e5 : J3 63 5 = J 5 5 := (congrFun (f3 63 rfl) 5).trans (by rw [zup_ne (by decide), zup_at, s5])
      have e6 : J3 63 6 = J 5 6 := (congrFun (f3 63 rfl) 6).trans (by rw [zup_at, s5])
      have hr3 : ∀ i, 0 ≤ i → i < 40 → J3 (zU i) = J (zU i) := fun i a b => (f3 _ (decide_eq_true (by unfold zU; omega))).trans (by rw [zup_nc (by unfold zU; omega), zup_nc (by unfold zU; omega), l2 _ (by simp [zbut, zU]; omega), t1.2.2.2.2 _ (decide_eq_true (by unfold zU; omega))])
      refine tz_iload_n (pc := 40) dX0_takeFrom_40 rfl rfl ?_
      refine tz_aload_n (pc := 41) dX0_takeFrom_41 rfl rfl ?_
      refine tz_fI (pc := 42) (kz := 6) (v := (J3 63 6)) dX0_takeFrom_42 fl_X0_29 i_63_6 rfl rfl (fun r_42 => ?_)
      refine tz_icmp_ge (pc := 45) (tgt := 83) dX0_takeFrom_45 (by decide) (by omega) (by omega) (fun h_45 => ?_) (fun h_45 => ?_)
      · refine tz_aload_n (pc := 83) dX0_takeFrom_83 rfl rfl ?_
        refine tz_fR (pc := 84) dX0_takeFrom_84 fl_X0_22 r_5_4 ?_
        refine tz_iconst (pc := 87) dX0_takeFrom_87 ?_
        refine tz_aload_n (pc := 88) dX0_takeFrom_88 rfl rfl ?_
        refine tz_fR (pc := 89) dX0_takeFrom_89 fl_X0_22 r_63_4 ?_
        refine tz_iconst (pc := 92) dX0_takeFrom_92 ?_
        refine tz_aload_n (pc := 93) dX0_takeFrom_93 rfl rfl ?_
        refine tz_fR (pc := 94) dX0_takeFrom_94 fl_X0_22 r_63_4 ?_
        refine tz_aN (pc := 97) (lz := 4) dX0_takeFrom_97 a_120 rfl ?_
        refine tz_cp (pc := 98) (sp := 0) (dp := 0) (ln := 4) dX0_takeFrom_98 ml_X0_48 a_62 a_120 rfl rfl (by decide) (Nat.le_of_ble_eq_true rfl) (by decide +kernel) ?_
        have ec : ∀ c, c < 79 → ¬ c = 63 → ¬ c = 77 → zcp J3 62 120 0 0 4 c = J1 c := fun c a b e => by rw [zcp_nc (by omega), f3 c (decide_eq_true (by omega)), zup_nc b, zup_nc b, l2 c (by simp [zbut]; omega)]
        exact tz_vret (pc := 101) dX0_takeFrom_101 rfl (Nat.le_of_ble_eq_true rfl) (Nat.le_of_ble_eq_true rfl) ⟨Nat.le_refl _, Nat.le_add_right _ _⟩ ⟨rfl, (by
                    have w9 : KI (zcp J3 62 120 0 0 4) m ∧ zOf fkk (zcp J3 62 120 0 0 4) J := ⟨⟨⟨kv_of (TQ.kt t1 hC hm) (fun c hc => ec c (by omega) (by omega) (by omega)), by rw [ec 64 (by decide) (by decide) (by decide), t1.1]; exact hm⟩, hL.c61 (fun k a b => by rw [zcp_nc (by decide), f3 77 rfl, zup_nc (by decide), zup_nc (by decide)]; exact e77 k a b), RG.cp hI.2 ((congrFun (zcp_nc (by decide)) 5).trans e5) ((congrFun (zcp_nc (by decide)) 6).trans e6) (fun q a b x y z => by rw [zcp_nc (by unfold zV; omega)]; exact h3 q a (by omega) x y z)⟩, fun c hc => by have hc9 := of_decide_eq_true hc; rw [zcp_nc (by omega), f3 c (decide_eq_true (by omega)), zup_nc (by omega), zup_nc (by omega), l2 c (by simp [zbut]; omega), t1.2.2.2.2 c (decide_eq_true (by omega))]⟩
                    exact ⟨w9.1, w9.2, by rw [ec 64 (by decide) (by decide) (by decide)]; exact t1.1, fun t a b => ⟨by rw [ec 65 (by decide) (by decide) (by decide)]; exact (t1.2.1 t a b).1, by rw [ec 66 (by decide) (by decide) (by decide)]; exact (t1.2.1 t a b).2.1, by rw [ec 70 (by decide) (by decide) (by decide)]; exact (t1.2.1 t a b).2.2.2.2.1⟩, fun k a b => by rw [ec 67 (by decide) (by decide) (by decide)]; exact t1.2.2.1 k a b, fun k a b => by rw [zcp_nc (by decide), f3 77 rfl, zup_nc (by decide), zup_nc (by decide)]; exact e77 k a b, ⟨(congrFun (zcp_nc (by decide)) 5).trans e5, (congrFun (zcp_nc (by decide)) 6).trans e6⟩, fun q a b x y z => by rw [zcp_nc (by unfold zV; omega)]; exact h3 q a (by omega) x y z⟩)⟩
      · refine tz_aload_n (pc := 48) dX0_takeFrom_48 rfl rfl ?_
        refine tz_fI (pc := 49) (kz := 5) (v := (J3 63 5)) dX0_takeFrom_49 fl_X0_25 i_63_5 rfl rfl (fun r_49 => ?_)
        refine tz_iload_n (pc := 52) dX0_takeFrom_52 rfl rfl ?_
        refine tz_iadd (pc := 53) (v := (J3 63 5) + k) dX0_takeFrom_53 rfl ?_
        refine tz_bipush (pc := 54) dX0_takeFrom_54 (by decide) ?_
        refine tz_irem (pc := 56) (a := ((J3 63 5) + k)) (b := 40) (v := (((J3 63 5) + k) % 40)) dX0_takeFrom_56 (by omega) (by omega) rfl ?_
        refine tz_istore_n (pc := 57) (L2 := [_, _, _, _]) dX0_takeFrom_57 rfl (by decide) rfl ?_
        refine tz_aload_n (pc := 58) dX0_takeFrom_58 rfl rfl ?_
        refine tz_fR (pc := 59) dX0_takeFrom_59 fl_X0_13 r_5_2 ?_
        refine tz_iload_n (pc := 62) dX0_takeFrom_62 rfl rfl ?_
        refine tz_aR (pc := 63) (z := (((J3 63 5) + k) % 40)) (r := zU ((J3 63 5 + k) % 40)) dX0_takeFrom_63 (zU_b (by omega)) rfl (by omega) ?_
        refine tz_iconst (pc := 64) dX0_takeFrom_64 ?_
        refine tz_aload_n (pc := 65) dX0_takeFrom_65 rfl rfl ?_
        refine tz_fR (pc := 66) dX0_takeFrom_66 fl_X0_13 r_63_2 ?_
        refine tz_iload_n (pc := 69) dX0_takeFrom_69 rfl rfl ?_
        refine tz_aR (pc := 70) (z := (((J3 63 5) + k) % 40)) (r := zV ((J3 63 5 + k) % 40)) dX0_takeFrom_70 (zV_b (by omega)) rfl (by omega) ?_
        refine tz_iconst (pc := 71) dX0_takeFrom_71 ?_
        refine tz_bipush (pc := 72) dX0_takeFrom_72 (by decide) ?_
        refine tz_cp (pc := 74) (sp := 0) (dp := 0) (ln := 61) dX0_takeFrom_74 ml_X0_48 (zU_a (by omega)) (zV_a (by omega)) rfl rfl (by decide) (Nat.le_of_ble_eq_true rfl) (by decide +kernel) ?_
        refine tz_iinc (pc := 77) (z := k + 1) (L2 := [_, _, _, _]) dX0_takeFrom_77 rfl (by omega) rfl ?_
        refine tz_goto (pc := 80) (tgt := 40) dX0_takeFrom_80 (by decide) ?_
        exact ih40 (k + 1) _ _ (by omega) (by omega) (zOf.cp (decide_eq_false (by unfold zV; omega)) f3) (rowcp_c_takeK e5 (by omega) hk hr3 h3)
  exact loop40 _ 0 none _ (Nat.lt_succ_self _) (by omega) zOf.rf (fun q a b => by omega)

set_option maxHeartbeats 4000000 in
set_option maxRecDepth 100000 in
theorem y_takeC {l : Launch} {G : tb_G} (hl : l.stackTraces = false) (n : Nat) (J : zJ)   (m : Int) (hK : KI J m) (hR : RU J) (hP : KP J) : tz_Ok l G M_X0_takeFrom 2 0 0 [.ref 5, .ref 63] n J (zqv (fun J' => CI J' m ∧ zOf (fun c => decide (c < 5 ∨ 62 < c)) J' J ∧ J' 6 12 = J 64 12 ∧ (∀ t, 0 ≤ t → t < J 64 12 → J' 7 t = J 65 t ∧ J' 8 t = J 66 t ∧ J' 12 t = J 70 t) ∧ (∀ k, 0 ≤ k → k < J 64 12 * 3 → J' 9 k = J 67 k) ∧ (∀ k, 0 ≤ k → k < 61 → J' 19 k = J 77 k) ∧ (J' 5 5 = J 63 5 ∧ J' 5 6 = J 63 6) ∧ ∀ q, 0 ≤ q → q < J 63 6 → ∀ x, 0 ≤ x → x < 61 → J' (zU ((J 63 5 + q) % 40)) x = J (zV ((J 63 5 + q) % 40)) x)) zN := by
  refine tz_Ok.of hl (by decide +kernel) rfl (tb_c1 rfl) (Nat.le_of_ble_eq_true rfl) ?_
  show tz_At l G M_X0_takeFrom (tb_rm 2 0 0) none (tb_ZM G 0 0 (zQ n 0 (zqv (fun J' => CI J' m ∧ zOf (fun c => decide (c < 5 ∨ 62 < c)) J' J ∧ J' 6 12 = J 64 12 ∧ (∀ t, 0 ≤ t → t < J 64 12 → J' 7 t = J 65 t ∧ J' 8 t = J 66 t ∧ J' 12 t = J 70 t) ∧ (∀ k, 0 ≤ k → k < J 64 12 * 3 → J' 9 k = J 67 k) ∧ (∀ k, 0 ≤ k → k < 61 → J' 19 k = J 77 k) ∧ (J' 5 5 = J 63 5 ∧ J' 5 6 = J 63 6) ∧ ∀ q, 0 ≤ q → q < J 63 6 → ∀ x, 0 ≤ x → x < 61 → J' (zU ((J 63 5 + q) % 40)) x = J (zV ((J 63 5 + q) % 40)) x))) (zX n 0 zN)) 0 0 n J 0 [some (.ref 5), some (.ref 63), none, none] []
  have hb := hK.1.1.told
  have hm := hK.1.2
  have hr := hK.2.2.1
  refine tz_aload_n (pc := 0) dX0_takeFrom_0 rfl rfl ?_
  refine tz_fR (pc := 1) dX0_takeFrom_1 fl_X0_32 r_5_0 ?_
  refine tz_aload_n (pc := 4) dX0_takeFrom_4 rfl rfl ?_
  refine tz_fR (pc := 5) dX0_takeFrom_5 fl_X0_32 r_63_0 ?_
  refine tz_cV (pc := 8) (c_teTake6_64 hl n _ (by omega)) vl_X0_62 dX0_takeFrom_8 o_6 rfl rfl (Nat.le_of_ble_eq_true rfl) ⟨(Nat.le_of_ble_eq_true rfl), (Nat.le_of_ble_eq_true rfl)⟩ rfl rfl (Nat.le_of_ble_eq_true rfl) (Nat.le_of_ble_eq_true rfl) (fun r9 J1 hq9 => ?_)
  obtain ⟨rfl, hj1⟩ := hq9
  have t1 : TQ 6 64 J1 J := by rw [← hj1]; exact te_6_64
  refine tz_aload_n (pc := 11) dX0_takeFrom_11 rfl rfl ?_
  refine tz_fR (pc := 12) dX0_takeFrom_12 fl_X0_36 r_5_1 ?_
  refine tz_aload_n (pc := 15) dX0_takeFrom_15 rfl rfl ?_
  refine tz_fR (pc := 16) dX0_takeFrom_16 fl_X0_36 r_63_1 ?_
  refine tz_cV (pc := 19) (c_leTake18_76 hl n _) vl_X0_66 dX0_takeFrom_19 o_18 rfl rfl (Nat.le_of_ble_eq_true rfl) ⟨(Nat.le_of_ble_eq_true rfl), (Nat.le_of_ble_eq_true rfl)⟩ rfl rfl (Nat.le_of_ble_eq_true rfl) (Nat.le_of_ble_eq_true rfl) (fun r9 J2 hq9 => ?_)
  obtain ⟨rfl, hj2⟩ := hq9
  have l2 : zOf (zbut [19]) J2 J1 := by rw [← hj2]; exact zOf.cp rfl zOf.rf
  have e77 : ∀ k, 0 ≤ k → k < 61 → J2 19 k = J 77 k := fun k a b => by rw [← hj2, zcp_in (by omega), ← congrFun (t1.2.2.2.2 77 rfl) k]; congr 1; omega
  have s5 : J2 63 = J 63 := (l2 63 rfl).trans (t1.2.2.2.2 63 rfl)
  refine tz_aload_n (pc := 22) dX0_takeFrom_22 rfl rfl ?_
  refine tz_aload_n (pc := 23) dX0_takeFrom_23 rfl rfl ?_
  refine tz_fI (pc := 24) (kz := 5) (v := (J2 63 5)) dX0_takeFrom_24 fl_X0_25 i_63_5 rfl rfl (fun r_24 => ?_)
  refine tz_pI (pc := 27) (kz := 5) dX0_takeFrom_27 fl_X0_25 i_5_5 rfl rfl (by omega) ?_
  refine tz_aload_n (pc := 30) dX0_takeFrom_30 rfl rfl ?_
  refine tz_aload_n (pc := 31) dX0_takeFrom_31 rfl rfl ?_
  refine tz_fI (pc := 32) (kz := 6) (v := (J2 63 6)) dX0_takeFrom_32 fl_X0_29 i_63_6 rfl rfl (fun r_32 => ?_)
  refine tz_pI (pc := 35) (kz := 6) dX0_takeFrom_35 fl_X0_29 i_5_6 rfl rfl (by omega) ?_
  refine tz_iconst (pc := 38) dX0_takeFrom_38 ?_
  refine tz_istore_n (pc := 39) (L2 := [_, _, _, _]) dX0_takeFrom_39 rfl (by decide) rfl ?_
  have loop40 : ∀ (f9 : Nat) (k : Int) (d3 : Option Value) (J3 : zJ), ((40 - k).toNat) < f9 → (0 ≤ k ∧ k ≤ J 63 6) → (zOf frU J3 (zup (zup J2 5 5 (J2 63 5)) 5 6 (J2 63 6))) → (∀ q, 0 ≤ q → q < k → ∀ x, 0 ≤ x → x < 61 → J3 (zU ((J 63 5 + q) % 40)) x = J (zV ((J 63 5 + q) % 40)) x) → tz_At l G M_X0_takeFrom (tb_rm 2 0 0) none (tb_ZM G 0 0 (zQ n 0 (zqv (fun J' => CI J' m ∧ zOf (fun c => decide (c < 5 ∨ 62 < c)) J' J ∧ J' 6 12 = J 64 12 ∧ (∀ t, 0 ≤ t → t < J 64 12 → J' 7 t = J 65 t ∧ J' 8 t = J 66 t ∧ J' 12 t = J 70 t) ∧ (∀ k, 0 ≤ k → k < J 64 12 * 3 → J' 9 k = J 67 k) ∧ (∀ k, 0 ≤ k → k < 61 → J' 19 k = J 77 k) ∧ (J' 5 5 = J 63 5 ∧ J' 5 6 = J 63 6) ∧ ∀ q, 0 ≤ q → q < J 63 6 → ∀ x, 0 ≤ x → x < 61 → J' (zU ((J 63 5 + q) % 40)) x = J (zV ((J 63 5 + q) % 40)) x))) (zX n 0 zN)) 0 0 n J3 40 [some (.ref 5), some (.ref 63), some (zi k), d3] [] := by
    intro f9
    induction f9 with
    | zero => intro k d3 J3 hm9; exact absurd hm9 (Nat.not_lt_zero _)
    | succ f9 ih40 =>
      intro k d3 J3 hm40 hk f3 h3
      have e5 : J3 5 5 = J 63 5 := (congrFun (f3 5 rfl) 5).trans (by rw [zup_ne (by decide), zup_at, s5])
      have e6 : J3 5 6 = J 63 6 := (congrFun (f3 5 rfl) 6).trans (by rw [zup_at, s5])
      have hr3 : ∀ i, 0 ≤ i → i < 40 → J3 (zV i) = J (zV i) := fun i a b => (f3 _ (decide_eq_true (by unfold zV; omega))).trans (by rw [zup_nc (by unfold zV; omega), zup_nc (by unfold zV; omega), l2 _ (by simp [zbut, zV]; omega), t1.2.2.2.2 _ (decide_eq_true (by unfold zV; omega))])
      refine tz_iload_n (pc := 40) dX0_takeFrom_40 rfl rfl ?_
      refine tz_aload_n (pc := 41) dX0_takeFrom_41 rfl rfl ?_
      refine tz_fI (pc := 42) (kz := 6) (v := (J3 5 6)) dX0_takeFrom_42 fl_X0_29 i_5_6 rfl rfl (fun r_42 => ?_)
      refine tz_icmp_ge (pc := 45) (tgt := 83) dX0_takeFrom_45 (by decide) (by omega) (by omega) (fun h_45 => ?_) (fun h_45 => ?_)
      · refine tz_aload_n (pc := 83) dX0_takeFrom_83 rfl rfl ?_
        refine tz_fR (pc := 84) dX0_takeFrom_84 fl_X0_22 r_63_4 ?_
        refine tz_iconst (pc := 87) dX0_takeFrom_87 ?_
        refine tz_aload_n (pc := 88) dX0_takeFrom_88 rfl rfl ?_
        refine tz_fR (pc := 89) dX0_takeFrom_89 fl_X0_22 r_5_4 ?_
        refine tz_iconst (pc := 92) dX0_takeFrom_92 ?_
        refine tz_aload_n (pc := 93) dX0_takeFrom_93 rfl rfl ?_
        refine tz_fR (pc := 94) dX0_takeFrom_94 fl_X0_22 r_5_4 ?_
        refine tz_aN (pc := 97) (lz := 4) dX0_takeFrom_97 a_62 rfl ?_
        refine tz_cp (pc := 98) (sp := 0) (dp := 0) (ln := 4) dX0_takeFrom_98 ml_X0_48 a_120 a_62 rfl rfl (by decide) (Nat.le_of_ble_eq_true rfl) (by decide +kernel) ?_
        have ec : ∀ c, (c < 21 ∨ 60 < c) → ¬ c = 5 → ¬ c = 19 → ¬ c = 62 → zcp J3 120 62 0 0 4 c = J1 c := fun c h9 a b e => by rw [zcp_nc e, f3 c (decide_eq_true h9), zup_nc a, zup_nc a, l2 c (by simp [zbut]; omega)]
        have ed : ∀ c, (c < 5 ∨ 60 < c) → ¬ c = 62 → zcp J3 120 62 0 0 4 c = J c := fun c h9 e => by rw [ec c (by omega) (by omega) (by omega) e, t1.2.2.2.2 c (decide_eq_true (by omega))]
        exact tz_vret (pc := 101) dX0_takeFrom_101 rfl (Nat.le_of_ble_eq_true rfl) (Nat.le_of_ble_eq_true rfl) ⟨Nat.le_refl _, Nat.le_add_right _ _⟩ ⟨rfl, (by
                    have w9 : CI (zcp J3 120 62 0 0 4) m ∧ zOf (fun c => decide (c < 5 ∨ 62 < c)) (zcp J3 120 62 0 0 4) J := ⟨⟨⟨⟨(TQ.ck t1 hK.1.1 hK.1.2).of (fun c hc => ec c (by omega) (by omega) (by omega) (by omega)), by rw [ec 6 (by decide) (by decide) (by decide) (by decide), t1.1]; exact hK.1.2, hK.2.1.c61 (fun k a b => by rw [zcp_nc (by decide), f3 19 rfl, zup_nc (by decide), zup_nc (by decide)]; exact e77 k a b)⟩, hR.of (ed 145 (by decide) (by decide)) (ed 146 (by decide) (by decide)), hP.of (fun c hc => ed c (by omega) (by omega))⟩, RG.cp hK.2.2 ((congrFun (zcp_nc (by decide)) 5).trans e5) ((congrFun (zcp_nc (by decide)) 6).trans e6) (fun q a b x y z => by rw [zcp_nc (by unfold zU; omega)]; exact h3 q a (by omega) x y z)⟩, fun c hc => by have hc9 := of_decide_eq_true hc; exact ed c (by omega) (by omega)⟩
                    exact ⟨w9.1, w9.2, by rw [ec 6 (by omega) (by decide) (by decide) (by decide)]; exact t1.1, fun t a b => ⟨by rw [ec 7 (by omega) (by decide) (by decide) (by decide)]; exact (t1.2.1 t a b).1, by rw [ec 8 (by omega) (by decide) (by decide) (by decide)]; exact (t1.2.1 t a b).2.1, by rw [ec 12 (by omega) (by decide) (by decide) (by decide)]; exact (t1.2.1 t a b).2.2.2.2.1⟩, fun k a b => by rw [ec 9 (by omega) (by decide) (by decide) (by decide)]; exact t1.2.2.1 k a b, fun k a b => by rw [zcp_nc (by decide), f3 19 rfl, zup_nc (by decide), zup_nc (by decide)]; exact e77 k a b, ⟨(congrFun (zcp_nc (by decide)) 5).trans e5, (congrFun (zcp_nc (by decide)) 6).trans e6⟩, fun q a b x y z => by rw [zcp_nc (by unfold zU; omega)]; exact h3 q a (by omega) x y z⟩)⟩
      · refine tz_aload_n (pc := 48) dX0_takeFrom_48 rfl rfl ?_
        refine tz_fI (pc := 49) (kz := 5) (v := (J3 5 5)) dX0_takeFrom_49 fl_X0_25 i_5_5 rfl rfl (fun r_49 => ?_)
        refine tz_iload_n (pc := 52) dX0_takeFrom_52 rfl rfl ?_
        refine tz_iadd (pc := 53) (v := (J3 5 5) + k) dX0_takeFrom_53 rfl ?_
        refine tz_bipush (pc := 54) dX0_takeFrom_54 (by decide) ?_
        refine tz_irem (pc := 56) (a := ((J3 5 5) + k)) (b := 40) (v := (((J3 5 5) + k) % 40)) dX0_takeFrom_56 (by omega) (by omega) rfl ?_
        refine tz_istore_n (pc := 57) (L2 := [_, _, _, _]) dX0_takeFrom_57 rfl (by decide) rfl ?_
        refine tz_aload_n (pc := 58) dX0_takeFrom_58 rfl rfl ?_
        refine tz_fR (pc := 59) dX0_takeFrom_59 fl_X0_13 r_63_2 ?_
        refine tz_iload_n (pc := 62) dX0_takeFrom_62 rfl rfl ?_
        refine tz_aR (pc := 63) (z := (((J3 5 5) + k) % 40)) (r := zV ((J3 5 5 + k) % 40)) dX0_takeFrom_63 (zV_b (by omega)) rfl (by omega) ?_
        refine tz_iconst (pc := 64) dX0_takeFrom_64 ?_
        refine tz_aload_n (pc := 65) dX0_takeFrom_65 rfl rfl ?_
        refine tz_fR (pc := 66) dX0_takeFrom_66 fl_X0_13 r_5_2 ?_
        refine tz_iload_n (pc := 69) dX0_takeFrom_69 rfl rfl ?_
        refine tz_aR (pc := 70) (z := (((J3 5 5) + k) % 40)) (r := zU ((J3 5 5 + k) % 40)) dX0_takeFrom_70 (zU_b (by omega)) rfl (by omega) ?_
        refine tz_iconst (pc := 71) dX0_takeFrom_71 ?_
        refine tz_bipush (pc := 72) dX0_takeFrom_72 (by decide) ?_
        refine tz_cp (pc := 74) (sp := 0) (dp := 0) (ln := 61) dX0_takeFrom_74 ml_X0_48 (zV_a (by omega)) (zU_a (by omega)) rfl rfl (by decide) (Nat.le_of_ble_eq_true rfl) (by decide +kernel) ?_
        refine tz_iinc (pc := 77) (z := k + 1) (L2 := [_, _, _, _]) dX0_takeFrom_77 rfl (by omega) rfl ?_
        refine tz_goto (pc := 80) (tgt := 40) dX0_takeFrom_80 (by decide) ?_
        exact ih40 (k + 1) _ _ (by omega) (by omega) (zOf.cp (decide_eq_false (by unfold zU; omega)) f3) (rowcp_c_takeC e5 (by omega) hk hr3 h3)
  exact loop40 _ 0 none _ (Nat.lt_succ_self _) (by omega) zOf.rf (fun q a b => by omega)

set_option maxHeartbeats 4000000 in
set_option maxRecDepth 100000 in
theorem v_image {l : Launch} {G : tb_G} (hl : l.stackTraces = false) (n : Nat) (J : zJ)   (m : Int) (S : zJ) (pn : Int) (RR : Int → Int → Int) (hI : CI J m) (h9 : J 145 10 < 1000000000) (cc : CAL J S pn RR) (h21 : S 164 21 = 0) : tz_Ok l G M_X11_image 3 0 0 [.ref 0] n J (zqv (fun J' => ((∃ m', CI J' m') ∧ J' 145 10 ≤ J 145 10 + 24000 ∧ (J' 0 13 = J 0 13 ∧ J' 0 14 = J 0 14 ∧ J' 0 15 = 1) ∧ zOf foi J' J) ∧ CAL J' S pn RR ∧ CALk J' S pn RR)) zN := by
  refine tz_Ok.of hl (by decide +kernel) rfl (tb_c1 rfl) (Nat.le_of_ble_eq_true rfl) ?_
  show tz_At l G M_X11_image (tb_rm 3 0 0) none (tb_ZM G 0 0 (zQ n 0 (zqv (fun J' => ((∃ m', CI J' m') ∧ J' 145 10 ≤ J 145 10 + 24000 ∧ (J' 0 13 = J 0 13 ∧ J' 0 14 = J 0 14 ∧ J' 0 15 = 1) ∧ zOf foi J' J) ∧ CAL J' S pn RR ∧ CALk J' S pn RR))) (zX n 0 zN)) 0 0 n J 0 [some (.ref 0)] []
  have hC := hI.1.1.1
  have hm := hI.1.1.2.1
  have hL := hI.1.1.2.2
  have hb := hC.told
  have wb := cc.2.1.b hL
  refine tz_aload_n (pc := 0) dX11_image_0 rfl rfl ?_
  refine tz_fR (pc := 1) dX11_image_1 fl_X11_33 r_0_2 ?_
  refine tz_aload_n (pc := 4) dX11_image_4 rfl rfl ?_
  refine tz_fR (pc := 5) dX11_image_5 fl_X11_29 r_0_1 ?_
  refine tz_cV (pc := 8) (y_takeK hl n _ m hI) vl_X11_394 dX11_image_8 o_63 rfl rfl (Nat.le_of_ble_eq_true rfl) ⟨(Nat.le_of_ble_eq_true rfl), (Nat.le_of_ble_eq_true rfl)⟩ rfl rfl (Nat.le_of_ble_eq_true rfl) (Nat.le_of_ble_eq_true rfl) (fun r9 J1 hq9 => ?_)
  obtain ⟨rfl, k1, k2, k3, k4, k5, k6, k7, k8⟩ := hq9
  refine tz_aload_n (pc := 11) dX11_image_11 rfl rfl ?_
  refine tz_iconst (pc := 12) dX11_image_12 ?_
  refine tz_pZ (pc := 13) (kz := 15) dX11_image_13 fl_X11_114 i_0_15 rfl rfl (Or.inr rfl) ?_
  exact tz_vret (pc := 16) dX11_image_16 rfl (Nat.le_of_ble_eq_true rfl) (Nat.le_of_ble_eq_true rfl) ⟨Nat.le_refl _, Nat.le_add_right _ _⟩ ⟨rfl, ⟨⟨⟨m, ⟨⟨⟨hC.of (fun c hc => (zup_nc (by omega)).trans (k2 c (decide_eq_true (by omega)))), (congrFun (k2 6 rfl) 12).trans hm, by show LI (J1 19) m; rw [k2 19 rfl]; exact hL⟩, hI.1.2.1.of (k2 145 rfl) (k2 146 rfl), ⟨by show (0 ≤ J1 0 13 ∧ J1 0 13 ≤ 700) ∧ J1 156 3 = -1; rw [k2 0 rfl, k2 156 rfl]; exact hI.1.2.2.1, Or.inr ⟨zup_at, m, k1.of (fun c hc => zup_nc (by omega))⟩⟩⟩, hI.2.of (Int.le_refl _) (congrFun (k2 5 rfl) 5) (congrFun (k2 5 rfl) 6) (fun i a b => (zup_nc (by unfold zU; omega)).trans (k2 _ (decide_eq_true (by unfold zU; omega))))⟩⟩, by show J1 145 10 ≤ _; rw [k2 145 rfl]; omega, ⟨congrFun (k2 0 rfl) 13, congrFun (k2 0 rfl) 14, zup_at⟩, zOf.up rfl (k2.mono (fun c hc => by have := of_decide_eq_true hc; exact decide_eq_true (by omega)))⟩, cc.fr hI (fun q a b => (zup_nc (by omega)).trans (k2 q (decide_eq_true (by omega)))), (calk_mk cc hI k3 k4 k5 k6 k7 k8).of (fun c a b => zup_nc (by omega))⟩⟩

set_option maxHeartbeats 4000000 in
set_option maxRecDepth 100000 in
theorem v_restore {l : Launch} {G : tb_G} (hl : l.stackTraces = false) (n : Nat) (J : zJ)   (m : Int) (S : zJ) (pn : Int) (RR : Int → Int → Int) (Gi : zJ) (ni : Int) (Ri : Int → Int → Int) (hI : CI J m) (h9 : J 145 10 < 1000000000) (cc : CAL J S pn RR) (h21 : S 164 21 = 0) (ck : ¬ J 0 15 = 0 → CALk J Gi ni Ri) : tz_Ok l G M_X11_restore 3 0 0 [.ref 0] n J (zqi (fun z J' => (CQ J' J ∧ z = if J 0 15 = 0 then 0 else 1) ∧ (J 0 15 = 0 → CAL J' S pn RR) ∧ (¬ J 0 15 = 0 → CAL J' (gsy S Gi) ni Ri))) zN := by
  refine tz_Ok.of hl (by decide +kernel) rfl (tb_c1 rfl) (Nat.le_of_ble_eq_true rfl) ?_
  show tz_At l G M_X11_restore (tb_rm 3 0 0) none (tb_ZM G 0 0 (zQ n 0 (zqi (fun z J' => (CQ J' J ∧ z = if J 0 15 = 0 then 0 else 1) ∧ (J 0 15 = 0 → CAL J' S pn RR) ∧ (¬ J 0 15 = 0 → CAL J' (gsy S Gi) ni Ri)))) (zX n 0 zN)) 0 0 n J 0 [some (.ref 0)] []
  have hC := hI.1.1.1
  have hm := hI.1.1.2.1
  have hL := hI.1.1.2.2
  have hb := hC.told
  have wb := cc.2.1.b hL
  have hk2 := hI.1.2.2.2
  refine tz_aload_n (pc := 0) dX11_restore_0 rfl rfl ?_
  refine tz_fI (pc := 1) (kz := 15) (v := (J 0 15)) dX11_restore_1 fl_X11_114 i_0_15 rfl rfl (fun r_1 => ?_)
  refine tz_if_ne (pc := 4) (tgt := 9) dX11_restore_4 (by decide) (by omega) (fun h_4 => ?_) (fun h_4 => ?_)
  · have hk3 := (hk2.resolve_left (by omega)).2
    obtain ⟨mk, hK⟩ := hk3
    refine tz_aload_n (pc := 9) dX11_restore_9 rfl rfl ?_
    refine tz_fR (pc := 10) dX11_restore_10 fl_X11_29 r_0_1 ?_
    refine tz_aload_n (pc := 13) dX11_restore_13 rfl rfl ?_
    refine tz_fR (pc := 14) dX11_restore_14 fl_X11_33 r_0_2 ?_
    refine tz_cV (pc := 17) (y_takeC hl n _ mk hK hI.1.2.1 hI.1.2.2) vl_X11_394 dX11_restore_17 o_5 rfl rfl (Nat.le_of_ble_eq_true rfl) ⟨(Nat.le_of_ble_eq_true rfl), (Nat.le_of_ble_eq_true rfl)⟩ rfl rfl (Nat.le_of_ble_eq_true rfl) (Nat.le_of_ble_eq_true rfl) (fun r9 J1 hq9 => ?_)
    obtain ⟨rfl, k1, k2, k3, k4, k5, k6, k7, k8⟩ := hq9
    refine tz_iconst (pc := 20) dX11_restore_20 ?_
    exact tz_zret (pc := 21) (z := 1) dX11_restore_21 rfl (Or.inr rfl) (Nat.le_of_ble_eq_true rfl) (Nat.le_of_ble_eq_true rfl) ⟨Nat.le_refl _, Nat.le_add_right _ _⟩ ⟨_, rfl, (by decide), (by first | exact ⟨⟨⟨⟨mk, k1⟩, by rw [k2 145 rfl]; omega, k2 0 rfl, k2.mono (fun c hc => by have := of_decide_eq_true hc; exact decide_eq_true (by omega))⟩, by rw [if_neg (by omega)]⟩, fun q => absurd q (by omega), fun q => cal_rs cc (ck q) hK (fun c a => k2 c (decide_eq_true (by omega))) k3 k4 k5 k6 k7 k8⟩ | exact ⟨⟨CQ.rf hI, by rw [if_pos (by omega)]⟩, fun _ => cc, fun q => absurd q (by omega)⟩)⟩
  · refine tz_iconst (pc := 7) dX11_restore_7 ?_
    exact tz_zret (pc := 8) (z := 0) dX11_restore_8 rfl (Or.inl rfl) (Nat.le_of_ble_eq_true rfl) (Nat.le_of_ble_eq_true rfl) ⟨Nat.le_refl _, Nat.le_add_right _ _⟩ ⟨_, rfl, (by decide), (by first | exact ⟨⟨⟨⟨mk, k1⟩, by rw [k2 145 rfl]; omega, k2 0 rfl, k2.mono (fun c hc => by have := of_decide_eq_true hc; exact decide_eq_true (by omega))⟩, by rw [if_neg (by omega)]⟩, fun q => absurd q (by omega), fun q => cal_rs cc (ck q) hK (fun c a => k2 c (decide_eq_true (by omega))) k3 k4 k5 k6 k7 k8⟩ | exact ⟨⟨CQ.rf hI, by rw [if_pos (by omega)]⟩, fun _ => cc, fun q => absurd q (by omega)⟩)⟩

end
section
/-! ===== image, restore of the reference, exact ===== -/
theorem MI.imx {J1 J_10 J : zJ} {m pn : Int} {RR : Int → Int → Int} (h : MI J m) (u : MUr J pn RR) (v : MVD 0 400 J_10 (zup J 164 8 0)) (f : zOf (zbut [172]) J1 (zup (zup (zmv (zmv J_10 165 0 2709 63) 165 189 2772 2520) 164 12 (J 164 10)) 164 13 (J 164 11))) : (MBT (zup J1 164 14 1) (tbz J) ∧ MUr (zup J1 164 14 1) pn RR) ∧ (MBI (zup J1 164 14 1) (tbz J) ∧ MUi (zup J1 164 14 1) pn RR) := by
  have hT := h.told
  obtain ⟨v1, v6, v8, v7⟩ := v
  have g : zOf (zbut [164, 165, 166, 167, 168, 172]) (zup J1 164 14 1) J := zOf.up rfl ((f.mono (zbut_sub (fun c hc => by simp at hc ⊢; omega))).tr (zOf.up rfl (zOf.up rfl (zOf.mv rfl (zOf.mv rfl ((v1.mono (zbut_sub (fun c hc => by simp at hc ⊢; omega))).tr (zOf.up rfl zOf.rf)))))))
  have w6 : (zup J1 164 14 1) 166 = fcy (J 166) 0 400 400 := (f 166 rfl).trans v6
  have w8 : (zup J1 164 14 1) 168 = fcy (J 168) 0 400 400 := (f 168 rfl).trans v8
  have w7 : (zup J1 164 14 1) 167 = fcy (J 167) (3 * 0) (3 * 400) 1200 := (f 167 rfl).trans v7
  have e4 : ∀ k, (zup J1 164 14 1) 164 k = if k = 14 then 1 else if k = 13 then J 164 11 else if k = 12 then J 164 10 else if k = 8 then 0 else J 164 k := fun k => by
    show (if k = 14 then 1 else J1 164 k) = _
    rw [f 164 rfl]
    show (if k = 14 then 1 else if k = 13 then J 164 11 else if k = 12 then J 164 10 else J_10 164 k) = _
    rw [v1 164 rfl]
    rfl
  have e5 : ∀ k, (zup J1 164 14 1) 165 k = if 2772 ≤ k ∧ k < 2772 + 2520 then (if 2709 ≤ 189 + (k - 2772) ∧ 189 + (k - 2772) < 2709 + 63 then J 165 (0 + (189 + (k - 2772) - 2709)) else J 165 (189 + (k - 2772))) else (if 2709 ≤ k ∧ k < 2709 + 63 then J 165 (0 + (k - 2709)) else J 165 k) := fun k => by
    show J1 165 k = _
    rw [f 165 rfl, show J 165 = J_10 165 from (v1 165 rfl).symm]
    rfl
  generalize zup J1 164 14 1 = J9 at *
  have l5 : ∀ k, k < 2709 → J9 165 k = J 165 k := fun k a => by rw [e5, if_neg (by omega), if_neg (by omega)]
  have i5 : ∀ k, 0 ≤ k → k < 63 → J9 165 (2709 + k) = J 165 k := fun k a b => by
    rw [e5, if_neg (by omega), if_pos (by omega)]
    congr 1
    omega
  have k5 : ∀ k, 0 ≤ k → k < 2520 → J9 165 (2772 + k) = J 165 (189 + k) := fun k a b => by
    rw [e5, if_pos (by omega), if_neg (by omega)]
    congr 1
    omega
  have z : ∀ k, 0 ≤ k → k < 63 → tbz J 165 k = J 165 k := fun k a b => by
    show (if 0 ≤ k ∧ k < 63 then J 165 k else 0) = _
    rw [if_pos ⟨a, b⟩]
  have m0 : tbz J 165 0 = m := (z 0 (by decide) (by decide)).trans h.1.2.2.2.2.1
  have z6 : ∀ t, 0 ≤ t → t < 400 → tbz J 166 t = J 166 t ∧ tbz J 168 t = J 168 t := fun t a b => ⟨if_pos ⟨a, b⟩, if_pos ⟨a, b⟩⟩
  have z7 : ∀ k, 0 ≤ k → k < 1200 → tbz J 167 k = J 167 k := fun k a b => if_pos ⟨a, b⟩
  refine ⟨⟨⟨⟨?_, fun k a b => ⟨?_, ?_, ?_⟩⟩, fun k a b => ?_, fun t a b => ⟨?_, ?_⟩, fun k a b => ?_⟩, ?_, fun k a b q c d => ?_⟩, ⟨fun k a b => ?_, fun t a b => ⟨?_, ?_⟩, fun k a b => ?_⟩, ?_, fun k a b q c d => ?_⟩
  · rw [e4, if_neg (by decide), if_neg (by decide), if_neg (by decide), if_neg (by decide)]; rfl
  · rw [g 169 rfl]; exact (show tbz J 169 k = J 169 k from if_pos ⟨a, b⟩).symm
  · rw [g 170 rfl]; exact (show tbz J 170 k = J 170 k from if_pos ⟨a, b⟩).symm
  · rw [g 171 rfl]; exact (show tbz J 171 k = J 171 k from if_pos ⟨a, b⟩).symm
  · rw [l5 k (by omega), z k a b]
  · rw [w6, fcy_no (by omega), (z6 t a (by omega)).1]
  · rw [w8, fcy_no (by omega), (z6 t a (by omega)).2]
  · rw [w7, fcy_no (by omega), z7 k a (by omega)]
  · rw [e4, if_neg (by decide), if_neg (by decide), if_neg (by decide), if_neg (by decide)]; exact u.1
  · rw [show J9 164 11 = J 164 11 by rw [e4, if_neg (by decide), if_neg (by decide), if_neg (by decide), if_neg (by decide)], l5 _ (by omega)]
    exact u.2 k a b q c d
  · rw [i5 k a b, z k a b]
  · rw [w6, show 400 + t = 400 + t from rfl, fcy_in (by omega), Int.zero_add, (z6 t a (by omega)).1]
  · rw [w8, fcy_in (by omega), Int.zero_add, (z6 t a (by omega)).2]
  · rw [w7, show (1200 : Int) + k = 3 * 400 + k from rfl, fcy_in (by omega), show 3 * 0 + k = k by omega, z7 k a (by omega)]
  · rw [e4, if_neg (by decide), if_neg (by decide), if_pos rfl]; exact u.1
  · rw [e4 13, if_neg (by decide), if_pos rfl, show 2772 + 63 * ((J 164 11 + k) % 40) + q = 2772 + (63 * ((J 164 11 + k) % 40) + q) by omega, k5 _ (by omega) (by omega)]
    have := u.2 k a b q c d
    rw [show 189 + 63 * ((J 164 11 + k) % 40) + q = 189 + (63 * ((J 164 11 + k) % 40) + q) by omega] at this
    exact this
theorem MI.rsx {J1 J_19 J G : zJ} {m ni : Int} {Ri : Int → Int → Int} (h : MI J m) (v : MVD 400 0 J_19 (zup J 164 8 0)) (f : zOf (zbut [172]) J1 (zup (zup (zmv (zmv J_19 165 2709 0 63) 165 2772 189 2520) 164 10 (J 164 12)) 164 11 (J 164 13))) (b : MBI J G) (u : MUi J ni Ri) (gr : 0 ≤ G 165 0 ∧ G 165 0 ≤ 400) : (MBT J1 (gsy (tbz J) G) ∧ MUr J1 ni Ri) ∧ MFI J1 J := by
  have hT := h.told
  obtain ⟨v1, v6, v8, v7⟩ := v
  have g : zOf (zbut [164, 165, 166, 167, 168, 172]) J1 J := (f.mono (zbut_sub (fun c hc => by simp at hc ⊢; omega))).tr (zOf.up rfl (zOf.up rfl (zOf.mv rfl (zOf.mv rfl ((v1.mono (zbut_sub (fun c hc => by simp at hc ⊢; omega))).tr (zOf.up rfl zOf.rf))))))
  have w6 : J1 166 = fcy (J 166) 400 0 400 := (f 166 rfl).trans v6
  have w8 : J1 168 = fcy (J 168) 400 0 400 := (f 168 rfl).trans v8
  have w7 : J1 167 = fcy (J 167) (3 * 400) (3 * 0) 1200 := (f 167 rfl).trans v7
  have e4 : ∀ k, J1 164 k = if k = 11 then J 164 13 else if k = 10 then J 164 12 else if k = 8 then 0 else J 164 k := fun k => by
    rw [f 164 rfl]
    show (if k = 11 then J 164 13 else if k = 10 then J 164 12 else J_19 164 k) = _
    rw [v1 164 rfl]
    rfl
  have e5 : ∀ k, J1 165 k = if 189 ≤ k ∧ k < 189 + 2520 then (if 0 ≤ 2772 + (k - 189) ∧ 2772 + (k - 189) < 0 + 63 then J 165 (2709 + (2772 + (k - 189) - 0)) else J 165 (2772 + (k - 189))) else (if 0 ≤ k ∧ k < 0 + 63 then J 165 (2709 + (k - 0)) else J 165 k) := fun k => by
    rw [f 165 rfl, show J 165 = J_19 165 from (v1 165 rfl).symm]
    rfl
  have d4 : ∀ k, ¬ k = 11 → ¬ k = 10 → ¬ k = 8 → J1 164 k = J 164 k := fun k a b c => by rw [e4, if_neg a, if_neg b, if_neg c]
  have l5 : ∀ k, 0 ≤ k → k < 63 → J1 165 k = J 165 (2709 + k) := fun k a b => by
    rw [e5, if_neg (by omega), if_pos (by omega)]
    congr 1
    omega
  have i5 : ∀ k, 2709 ≤ k → J1 165 k = J 165 k := fun k a => by rw [e5, if_neg (by omega), if_neg (by omega)]
  have k5 : ∀ k, 0 ≤ k → k < 2520 → J1 165 (189 + k) = J 165 (2772 + k) := fun k a b => by
    rw [e5, if_pos (by omega), if_neg (by omega)]
    congr 1
    omega
  have i6 : ∀ (F : Int → Int) t, 0 ≤ t → t < 400 → fcy F 400 0 400 t = F (400 + t) := fun F t a c => by
    rw [fcy_at, if_pos (by omega)]
    congr 1
    omega
  have i7 : ∀ (F : Int → Int) t, 0 ≤ t → t < 1200 → fcy F (3 * 400) (3 * 0) 1200 t = F (1200 + t) := fun F t a c => by
    rw [fcy_at, if_pos (by omega)]
    congr 1
    omega
  refine ⟨⟨⟨⟨?_, fun k a c => ⟨?_, ?_, ?_⟩⟩, fun k a c => ?_, fun t a c => ⟨?_, ?_⟩, fun k a c => ?_⟩, ?_, fun k a c q x y => ?_⟩, ⟨fun k a => i5 k a, fun k a c => ⟨by rw [w6, fcy_no (by omega)], by rw [w8, fcy_no (by omega)]⟩, fun k a c => by rw [w7, fcy_no (by omega)], d4 12 (by decide) (by decide) (by decide), d4 13 (by decide) (by decide) (by decide)⟩⟩
  · exact d4 9 (by decide) (by decide) (by decide)
  · rw [g 169 rfl]; exact (show tbz J 169 k = J 169 k from if_pos ⟨a, c⟩).symm
  · rw [g 170 rfl]; exact (show tbz J 170 k = J 170 k from if_pos ⟨a, c⟩).symm
  · rw [g 171 rfl]; exact (show tbz J 171 k = J 171 k from if_pos ⟨a, c⟩).symm
  · rw [l5 k a c]; exact b.1 k a c
  · have c' : t < G 165 0 := c
    rw [w6, i6 _ t a (by omega)]; exact (b.2.1 t a c).1
  · have c' : t < G 165 0 := c
    rw [w8, i6 _ t a (by omega)]; exact (b.2.1 t a c).2
  · have c' : k < 3 * G 165 0 := c
    rw [w7, i7 _ k a (by omega)]; exact b.2.2 k a c
  · rw [e4, if_neg (by decide), if_pos rfl]; exact u.1
  · rw [e4 11, if_pos rfl, show 189 + 63 * ((J 164 13 + k) % 40) + q = 189 + (63 * ((J 164 13 + k) % 40) + q) by omega, k5 _ (by omega) (by omega)]
    have := u.2 k a c q x y
    rw [show 2772 + 63 * ((J 164 13 + k) % 40) + q = 2772 + (63 * ((J 164 13 + k) % 40) + q) by omega] at this
    exact this
set_option maxHeartbeats 4000000 in
set_option maxRecDepth 100000 in
theorem v_qimage {l : Launch} {G : tb_G} (hl : l.stackTraces = false) (n : Nat) (J : zJ)   (m : Int) (pn : Int) (RR : Int → Int → Int) (hI : MI J m) (u9 : MUr J pn RR) : tz_Ok l G M_X12_image 1 0 0 [.ref 164] n J (zqv (fun J' => MQi J' J ∧ (MBT J' (tbz J) ∧ MUr J' pn RR) ∧ (MBI J' (tbz J) ∧ MUi J' pn RR))) zN := by
  refine tz_Ok.of hl (by decide +kernel) rfl (tb_c1 rfl) (Nat.le_of_ble_eq_true rfl) ?_
  show tz_At l G M_X12_image (tb_rm 1 0 0) none (tb_ZM G 0 0 (zQ n 0 (zqv (fun J' => MQi J' J ∧ (MBT J' (tbz J) ∧ MUr J' pn RR) ∧ (MBI J' (tbz J) ∧ MUi J' pn RR)))) (zX n 0 zN)) 0 0 n J 0 [some (.ref 164), none] []
  have hT := hI.told
  have hW := hI.row
  have hM := hI.1
  have hL := hI.2.1
  refine tz_aload_n (pc := 0) dX12_image_0 rfl rfl ?_
  refine tz_iconst (pc := 1) dX12_image_1 ?_
  refine tz_pI (pc := 2) (kz := 8) dX12_image_2 fl_X12_68 i_164_8 rfl rfl (by decide) ?_
  refine tz_aload_n (pc := 5) dX12_image_5 rfl rfl ?_
  refine tz_iconst (pc := 6) dX12_image_6 ?_
  refine tz_sipush (pc := 7) dX12_image_7 (by decide) ?_
  refine tz_cV (pc := 10) (m_moves hl n _ _ _ (by decide) (by decide) (by decide) (by decide)) vl_X12_340 dX12_image_10 o_164 rfl rfl (Nat.le_of_ble_eq_true rfl) ⟨(Nat.le_of_ble_eq_true rfl), (Nat.le_of_ble_eq_true rfl)⟩ rfl rfl (Nat.le_of_ble_eq_true rfl) (Nat.le_of_ble_eq_true rfl) (fun r9 J_10 hq9 => ?_)
  obtain ⟨rfl, v_10⟩ := hq9
  refine tz_aload_n (pc := 13) dX12_image_13 rfl rfl ?_
  refine tz_iconst (pc := 14) dX12_image_14 ?_
  refine tz_sipush (pc := 15) dX12_image_15 (by decide) ?_
  refine tz_bipush (pc := 18) dX12_image_18 (by decide) ?_
  refine tz_cV (pc := 20) (zm_copies hl n _ _ _ _ (by decide) (by decide) (by decide) (by omega) (by omega)) vl_X12_343 dX12_image_20 o_164 rfl rfl (Nat.le_of_ble_eq_true rfl) ⟨(Nat.le_of_ble_eq_true rfl), (Nat.le_of_ble_eq_true rfl)⟩ rfl rfl (Nat.le_of_ble_eq_true rfl) (Nat.le_of_ble_eq_true rfl) (fun r9 J_20 hq9 => ?_)
  obtain ⟨rfl, rfl⟩ := hq9
  refine tz_aload_n (pc := 23) dX12_image_23 rfl rfl ?_
  refine tz_sipush (pc := 24) dX12_image_24 (by decide) ?_
  refine tz_sipush (pc := 27) dX12_image_27 (by decide) ?_
  refine tz_sipush (pc := 30) dX12_image_30 (by decide) ?_
  refine tz_cV (pc := 33) (zm_copies hl n _ _ _ _ (by decide) (by decide) (by decide) (by omega) (by omega)) vl_X12_343 dX12_image_33 o_164 rfl rfl (Nat.le_of_ble_eq_true rfl) ⟨(Nat.le_of_ble_eq_true rfl), (Nat.le_of_ble_eq_true rfl)⟩ rfl rfl (Nat.le_of_ble_eq_true rfl) (Nat.le_of_ble_eq_true rfl) (fun r9 J_33 hq9 => ?_)
  obtain ⟨rfl, rfl⟩ := hq9
  refine tz_aload_n (pc := 36) dX12_image_36 rfl rfl ?_
  refine tz_aload_n (pc := 37) dX12_image_37 rfl rfl ?_
  refine tz_fI (pc := 38) (kz := 10) (v := (J 164 10)) dX12_image_38 fl_X12_356 i_164_10 rfl (Eq.trans (congrFun (v_10.1 164 rfl) 10) rfl) (fun r_38 => ?_)
  refine tz_pI (pc := 41) (kz := 12) dX12_image_41 fl_X12_433 i_164_12 rfl rfl (by omega) ?_
  refine tz_aload_n (pc := 44) dX12_image_44 rfl rfl ?_
  refine tz_aload_n (pc := 45) dX12_image_45 rfl rfl ?_
  refine tz_fI (pc := 46) (kz := 11) (v := (J 164 11)) dX12_image_46 fl_X12_353 i_164_11 rfl (Eq.trans (congrFun (v_10.1 164 rfl) 11) rfl) (fun r_46 => ?_)
  refine tz_pI (pc := 49) (kz := 13) dX12_image_49 fl_X12_436 i_164_13 rfl rfl (by omega) ?_
  refine tz_iconst (pc := 52) dX12_image_52 ?_
  refine tz_istore_n (pc := 53) (L2 := [_, _]) dX12_image_53 rfl (by decide) rfl ?_
  have loop54 : ∀ (f9 : Nat) (k : Int) (J1 : zJ), ((4 - k).toNat) < f9 → (0 ≤ k ∧ k ≤ 4) → (zOf (zbut [172]) J1 (zup (zup (zmv (zmv J_10 165 0 2709 63) 165 189 2772 2520) 164 12 (J 164 10)) 164 13 (J 164 11))) → tz_At l G M_X12_image (tb_rm 1 0 0) none (tb_ZM G 0 0 (zQ n 0 (zqv (fun J' => MQi J' J ∧ (MBT J' (tbz J) ∧ MUr J' pn RR) ∧ (MBI J' (tbz J) ∧ MUi J' pn RR)))) (zX n 0 zN)) 0 0 n J1 54 [some (.ref 164), some (zi k)] [] := by
    intro f9
    induction f9 with
    | zero => intro k J1 hm9; exact absurd hm9 (Nat.not_lt_zero _)
    | succ f9 ih54 =>
      intro k J1 hm54 hk f1
      refine tz_iload_n (pc := 54) dX12_image_54 rfl rfl ?_
      refine tz_iconst (pc := 55) dX12_image_55 ?_
      refine tz_icmp_ge (pc := 56) (tgt := 79) dX12_image_56 (by decide) (by omega) (by decide) (fun h_56 => ?_) (fun h_56 => ?_)
      · refine tz_aload_n (pc := 79) dX12_image_79 rfl rfl ?_
        refine tz_iconst (pc := 80) dX12_image_80 ?_
        refine tz_pI (pc := 81) (kz := 14) dX12_image_81 fl_X12_350 i_164_14 rfl rfl (by decide) ?_
        exact tz_vret (pc := 84) dX12_image_84 rfl (Nat.le_of_ble_eq_true rfl) (Nat.le_of_ble_eq_true rfl) ⟨Nat.le_refl _, Nat.le_add_right _ _⟩ ⟨rfl, ⟨MI.image hI v_10 f1, MI.imx hI u9 v_10 f1⟩⟩
      · refine tz_aload_n (pc := 59) dX12_image_59 rfl rfl ?_
        refine tz_fR (pc := 60) dX12_image_60 fl_X12_31 r_164_7 ?_
        refine tz_iconst (pc := 63) dX12_image_63 ?_
        refine tz_iload_n (pc := 64) dX12_image_64 rfl rfl ?_
        refine tz_iadd (pc := 65) (v := 4 + k) dX12_image_65 rfl ?_
        refine tz_aload_n (pc := 66) dX12_image_66 rfl rfl ?_
        refine tz_fR (pc := 67) dX12_image_67 fl_X12_31 r_164_7 ?_
        refine tz_iload_n (pc := 70) dX12_image_70 rfl rfl ?_
        refine tz_aL (pc := 71) (z := k) (v := (J1 172 k)) dX12_image_71 a_172 rfl (by omega) rfl (fun r_71 => ?_)
        refine tz_aS (pc := 72) (z := (4 + k)) dX12_image_72 a_172 rfl (by omega) (by omega) ?_
        refine tz_iinc (pc := 73) (z := k + 1) (L2 := [_, _]) dX12_image_73 rfl (by omega) rfl ?_
        refine tz_goto (pc := 76) (tgt := 54) dX12_image_76 (by decide) ?_
        exact ih54 (k + 1) _ (by omega) (by omega) (zOf.up rfl f1)
  exact loop54 _ 0 _ (Nat.lt_succ_self _) (by omega) zOf.rf

set_option maxHeartbeats 4000000 in
set_option maxRecDepth 100000 in
theorem v_qrestore {l : Launch} {G : tb_G} (hl : l.stackTraces = false) (n : Nat) (J : zJ)   (m : Int) (pn : Int) (RR : Int → Int → Int) (Gi : zJ) (ni : Int) (Ri : Int → Int → Int) (hI : MI J m) (u9 : MUr J pn RR) (bi : ¬ J 164 14 = 0 → (MBI J Gi ∧ MUi J ni Ri) ∧ 0 ≤ Gi 165 0 ∧ Gi 165 0 ≤ 400) : tz_Ok l G M_X12_restore 1 0 0 [.ref 164] n J (zqi (fun z J' => (MQr J' J ∧ z = if J 164 14 = 0 then 0 else 1) ∧ MFI J' J ∧ (J 164 14 = 0 → MBT J' (tbz J) ∧ MUr J' pn RR) ∧ (¬ J 164 14 = 0 → MBT J' (gsy (tbz J) Gi) ∧ MUr J' ni Ri))) zN := by
  refine tz_Ok.of hl (by decide +kernel) rfl (tb_c1 rfl) (Nat.le_of_ble_eq_true rfl) ?_
  show tz_At l G M_X12_restore (tb_rm 1 0 0) none (tb_ZM G 0 0 (zQ n 0 (zqi (fun z J' => (MQr J' J ∧ z = if J 164 14 = 0 then 0 else 1) ∧ MFI J' J ∧ (J 164 14 = 0 → MBT J' (tbz J) ∧ MUr J' pn RR) ∧ (¬ J 164 14 = 0 → MBT J' (gsy (tbz J) Gi) ∧ MUr J' ni Ri)))) (zX n 0 zN)) 0 0 n J 0 [some (.ref 164), none] []
  have hT := hI.told
  have hW := hI.row
  have hM := hI.1
  have hL := hI.2.1
  refine tz_aload_n (pc := 0) dX12_restore_0 rfl rfl ?_
  refine tz_iconst (pc := 1) dX12_restore_1 ?_
  refine tz_pI (pc := 2) (kz := 8) dX12_restore_2 fl_X12_68 i_164_8 rfl rfl (by decide) ?_
  refine tz_aload_n (pc := 5) dX12_restore_5 rfl rfl ?_
  refine tz_fI (pc := 6) (kz := 14) (v := (J 164 14)) dX12_restore_6 fl_X12_350 i_164_14 rfl rfl (fun r_6 => ?_)
  refine tz_if_ne (pc := 9) (tgt := 14) dX12_restore_9 (by decide) (by omega) (fun h_9 => ?_) (fun h_9 => ?_)
  · refine tz_aload_n (pc := 14) dX12_restore_14 rfl rfl ?_
    refine tz_sipush (pc := 15) dX12_restore_15 (by decide) ?_
    refine tz_iconst (pc := 18) dX12_restore_18 ?_
    refine tz_cV (pc := 19) (m_moves hl n _ _ _ (by decide) (by decide) (by decide) (by decide)) vl_X12_340 dX12_restore_19 o_164 rfl rfl (Nat.le_of_ble_eq_true rfl) ⟨(Nat.le_of_ble_eq_true rfl), (Nat.le_of_ble_eq_true rfl)⟩ rfl rfl (Nat.le_of_ble_eq_true rfl) (Nat.le_of_ble_eq_true rfl) (fun r9 J_19 hq9 => ?_)
    obtain ⟨rfl, v_19⟩ := hq9
    refine tz_aload_n (pc := 22) dX12_restore_22 rfl rfl ?_
    refine tz_sipush (pc := 23) dX12_restore_23 (by decide) ?_
    refine tz_iconst (pc := 26) dX12_restore_26 ?_
    refine tz_bipush (pc := 27) dX12_restore_27 (by decide) ?_
    refine tz_cV (pc := 29) (zm_copies hl n _ _ _ _ (by decide) (by decide) (by decide) (by omega) (by omega)) vl_X12_343 dX12_restore_29 o_164 rfl rfl (Nat.le_of_ble_eq_true rfl) ⟨(Nat.le_of_ble_eq_true rfl), (Nat.le_of_ble_eq_true rfl)⟩ rfl rfl (Nat.le_of_ble_eq_true rfl) (Nat.le_of_ble_eq_true rfl) (fun r9 J_29 hq9 => ?_)
    obtain ⟨rfl, rfl⟩ := hq9
    refine tz_aload_n (pc := 32) dX12_restore_32 rfl rfl ?_
    refine tz_sipush (pc := 33) dX12_restore_33 (by decide) ?_
    refine tz_sipush (pc := 36) dX12_restore_36 (by decide) ?_
    refine tz_sipush (pc := 39) dX12_restore_39 (by decide) ?_
    refine tz_cV (pc := 42) (zm_copies hl n _ _ _ _ (by decide) (by decide) (by decide) (by omega) (by omega)) vl_X12_343 dX12_restore_42 o_164 rfl rfl (Nat.le_of_ble_eq_true rfl) ⟨(Nat.le_of_ble_eq_true rfl), (Nat.le_of_ble_eq_true rfl)⟩ rfl rfl (Nat.le_of_ble_eq_true rfl) (Nat.le_of_ble_eq_true rfl) (fun r9 J_42 hq9 => ?_)
    obtain ⟨rfl, rfl⟩ := hq9
    refine tz_aload_n (pc := 45) dX12_restore_45 rfl rfl ?_
    refine tz_aload_n (pc := 46) dX12_restore_46 rfl rfl ?_
    refine tz_fI (pc := 47) (kz := 12) (v := (J 164 12)) dX12_restore_47 fl_X12_433 i_164_12 rfl (Eq.trans (congrFun (v_19.1 164 rfl) 12) rfl) (fun r_47 => ?_)
    refine tz_pI (pc := 50) (kz := 10) dX12_restore_50 fl_X12_356 i_164_10 rfl rfl (by omega) ?_
    refine tz_aload_n (pc := 53) dX12_restore_53 rfl rfl ?_
    refine tz_aload_n (pc := 54) dX12_restore_54 rfl rfl ?_
    refine tz_fI (pc := 55) (kz := 13) (v := (J 164 13)) dX12_restore_55 fl_X12_436 i_164_13 rfl (Eq.trans (congrFun (v_19.1 164 rfl) 13) rfl) (fun r_55 => ?_)
    refine tz_pI (pc := 58) (kz := 11) dX12_restore_58 fl_X12_353 i_164_11 rfl rfl (by omega) ?_
    refine tz_iconst (pc := 61) dX12_restore_61 ?_
    refine tz_istore_n (pc := 62) (L2 := [_, _]) dX12_restore_62 rfl (by decide) rfl ?_
    have loop63 : ∀ (f9 : Nat) (k : Int) (J1 : zJ), ((4 - k).toNat) < f9 → (0 ≤ k ∧ k ≤ 4) → (zOf (zbut [172]) J1 (zup (zup (zmv (zmv J_19 165 2709 0 63) 165 2772 189 2520) 164 10 (J 164 12)) 164 11 (J 164 13))) → tz_At l G M_X12_restore (tb_rm 1 0 0) none (tb_ZM G 0 0 (zQ n 0 (zqi (fun z J' => (MQr J' J ∧ z = if J 164 14 = 0 then 0 else 1) ∧ MFI J' J ∧ (J 164 14 = 0 → MBT J' (tbz J) ∧ MUr J' pn RR) ∧ (¬ J 164 14 = 0 → MBT J' (gsy (tbz J) Gi) ∧ MUr J' ni Ri)))) (zX n 0 zN)) 0 0 n J1 63 [some (.ref 164), some (zi k)] [] := by
      intro f9
      induction f9 with
      | zero => intro k J1 hm9; exact absurd hm9 (Nat.not_lt_zero _)
      | succ f9 ih63 =>
        intro k J1 hm63 hk f1
        refine tz_iload_n (pc := 63) dX12_restore_63 rfl rfl ?_
        refine tz_iconst (pc := 64) dX12_restore_64 ?_
        refine tz_icmp_ge (pc := 65) (tgt := 88) dX12_restore_65 (by decide) (by omega) (by decide) (fun h_65 => ?_) (fun h_65 => ?_)
        · refine tz_iconst (pc := 88) dX12_restore_88 ?_
          exact tz_zret (pc := 89) (z := 1) dX12_restore_89 rfl (Or.inr rfl) (Nat.le_of_ble_eq_true rfl) (Nat.le_of_ble_eq_true rfl) ⟨Nat.le_refl _, Nat.le_add_right _ _⟩ ⟨_, rfl, (by decide), (by obtain ⟨x1, x2⟩ := bi (by omega); have y1 := MI.rsx hI v_19 f1 x1.1 x1.2 x2; exact ⟨⟨MI.restore hI (by omega) v_19 f1, by rw [if_neg (by omega)]⟩, y1.2, fun q => absurd q (by omega), fun _ => y1.1⟩)⟩
        · refine tz_aload_n (pc := 68) dX12_restore_68 rfl rfl ?_
          refine tz_fR (pc := 69) dX12_restore_69 fl_X12_31 r_164_7 ?_
          refine tz_iload_n (pc := 72) dX12_restore_72 rfl rfl ?_
          refine tz_aload_n (pc := 73) dX12_restore_73 rfl rfl ?_
          refine tz_fR (pc := 74) dX12_restore_74 fl_X12_31 r_164_7 ?_
          refine tz_iconst (pc := 77) dX12_restore_77 ?_
          refine tz_iload_n (pc := 78) dX12_restore_78 rfl rfl ?_
          refine tz_iadd (pc := 79) (v := 4 + k) dX12_restore_79 rfl ?_
          refine tz_aL (pc := 80) (z := (4 + k)) (v := (J1 172 (4 + k))) dX12_restore_80 a_172 rfl (by omega) rfl (fun r_80 => ?_)
          refine tz_aS (pc := 81) (z := k) dX12_restore_81 a_172 rfl (by omega) (by omega) ?_
          refine tz_iinc (pc := 82) (z := k + 1) (L2 := [_, _]) dX12_restore_82 rfl (by omega) rfl ?_
          refine tz_goto (pc := 85) (tgt := 63) dX12_restore_85 (by decide) ?_
          exact ih63 (k + 1) _ (by omega) (by omega) (zOf.up rfl f1)
    exact loop63 _ 0 _ (Nat.lt_succ_self _) (by omega) zOf.rf
  · refine tz_iconst (pc := 12) dX12_restore_12 ?_
    exact tz_zret (pc := 13) (z := 0) dX12_restore_13 rfl (Or.inl rfl) (Nat.le_of_ble_eq_true rfl) (Nat.le_of_ble_eq_true rfl) ⟨Nat.le_refl _, Nat.le_add_right _ _⟩ ⟨_, rfl, (by decide), ⟨⟨MQr.z hI (MZ.up (k := 8) MZ.rf (by decide)), by rw [if_pos (by omega)]⟩, MFI.z (MZ.up (k := 8) MZ.rf (by decide)), fun _ => ⟨MBT.z hI (MZ.up (k := 8) MZ.rf (by decide)), u9.z (MZ.up (k := 8) MZ.rf (by decide))⟩, fun q => absurd q (by omega)⟩⟩

end
section
/-! ===== bank of the class, in the frame of states ===== -/
/-- the state that a reading tells -/
def BS (r : zJ) : zJ := fun c k => if c = 164 then (if k = 9 then r 164 44 else 0) else if c = 165 then (if 0 ≤ k ∧ k < 63 then r 165 (126 + k) else 0) else if c = 166 ∨ c = 168 then (if 0 ≤ k ∧ k < 400 then r c (800 + k) else 0) else if c = 167 then (if 0 ≤ k ∧ k < 1200 then r 167 (2400 + k) else 0) else if c = 169 ∨ c = 170 ∨ c = 171 then (if 0 ≤ k ∧ k < 10 then r c (10 + k) else 0) else 0
theorem BS_5 {r : zJ} {k : Int} (h : 0 ≤ k ∧ k < 63) : BS r 165 k = r 165 (126 + k) := if_pos h
theorem BS_6 {r : zJ} {k : Int} (h : 0 ≤ k ∧ k < 400) : BS r 166 k = r 166 (800 + k) ∧ BS r 168 k = r 168 (800 + k) := ⟨if_pos h, if_pos h⟩
theorem BS_7 {r : zJ} {k : Int} (h : 0 ≤ k ∧ k < 1200) : BS r 167 k = r 167 (2400 + k) := if_pos h
theorem BS_9 {r : zJ} {k : Int} (h : 0 ≤ k ∧ k < 10) : BS r 169 k = r 169 (10 + k) ∧ BS r 170 k = r 170 (10 + k) ∧ BS r 171 k = r 171 (10 + k) := ⟨if_pos h, if_pos h, if_pos h⟩
theorem ET.f {J' J g : zJ} (h : ET J g) (f : ∀ c, 0 < c → c < 20 → ¬ c = 5 → J' c = J c) : ET J' g := by
  unfold ET
  rw [f 1 (by decide) (by decide) (by decide), f 2 (by decide) (by decide) (by decide), f 3 (by decide) (by decide) (by decide), f 4 (by decide) (by decide) (by decide), f 6 (by decide) (by decide) (by decide), f 7 (by decide) (by decide) (by decide), f 8 (by decide) (by decide) (by decide), f 12 (by decide) (by decide) (by decide), f 9 (by decide) (by decide) (by decide), f 19 (by decide) (by decide) (by decide)]
  exact h
/-- the class's tables are those of the state that was told -/
theorem et_cal {J r : zJ} {m n : Int} {RR : Int → Int → Int} (E : ET J r) (C : CT J m) (hm : J 6 12 = m) (hs : 0 ≤ r 164 44 ∧ r 164 44 ≤ 10) (h6 : r 165 166 = 0) (hL : LI (J 19) m) (h56 : J 5 6 = 0) (hn : n = 0) : CAL J (BS r) n RR := by
  obtain ⟨⟨a1, a2⟩, ⟨b1, b2, b3⟩, ⟨c1, c2⟩, ⟨d1, d2⟩, e1, ⟨e2, e3, e4⟩, e5⟩ := E
  have T := C.told
  have l4 := hL.1.2.1
  have l5 := hL.1.2.2.1
  refine ⟨⟨⟨a1, fun k a b => ?_⟩, ?_, fun t a b => ?_, fun t i a b x y => ?_⟩, ⟨⟨?_, ?_, ?_⟩, ⟨?_, fun i p q => ?_⟩, ⟨?_, fun i p q => ?_⟩, ⟨?_, fun i p q => ?_⟩, fun v p q => ?_⟩, by rw [hn]; exact h56, fun k a b => by omega⟩
  · have b' : k < r 164 44 := b
    rw [Int.zero_add, (BS_9 (by omega)).1, (BS_9 (by omega)).2.1, (BS_9 (by omega)).2.2]
    exact a2 k a b
  · rw [BS_5 (by decide)]; exact b1
  · rw [BS_5 (by decide)] at b
    have b' : t < r 165 126 := b
    rw [Int.zero_add, (BS_6 (by omega)).1, (BS_6 (by omega)).2]
    exact b2 t a b
  · rw [BS_5 (by decide)] at b
    have b' : t < r 165 126 := b
    have ar := (C.ar a (by omega)).1
    rw [BS_7 (by omega), show 2400 + (3 * (0 + t) + i) = 3 * (800 + t) + i by omega]
    exact b3 t i a b x y
  · rw [BS_5 (by decide)]; exact e1
  · rw [BS_5 (by decide)]; exact e2
  · rw [BS_5 (by decide)]; exact e3
  · rw [BS_5 (by decide)]; exact c1
  · rw [BS_5 (by decide)] at q
    have q' : i < r 165 135 := q
    rw [BS_5 (by omega), BS_5 (by omega), show 126 + (10 + 2 * i) = 136 + 2 * i by omega, show 126 + (10 + 2 * i + 1) = 137 + 2 * i by omega]
    exact c2 i p q
  · rw [BS_5 (by decide)]; exact d1
  · rw [BS_5 (by decide)] at q
    have q' : i < r 165 152 := q
    rw [BS_5 (by omega), show 126 + (27 + i) = 153 + i by omega]
    exact d2 i p q
  · rw [BS_5 (by decide)]
    exact e4.trans h6.symm
  · rw [BS_5 (by decide)] at q
    have q' : i < r 165 166 := q
    omega
  · rw [BS_5 (by omega), show 126 + (1 + v) = 127 + v by omega]
    exact e5 v p q
/-- what was set aside is back: all is as before -/
theorem cal_bk {J' J1 J S : zJ} {n m : Int} {RR : Int → Int → Int} (c : CAL J S n RR) (hI : CI J m) (b : BK J1 J) (e : ∀ q, 0 < q → q < 20 → ¬ q = 5 → J' q = J1 q) (f : ∀ c, c = 5 ∨ (20 ≤ c ∧ c ≤ 120 ∧ ¬ c = 62) → J' c = J c) : CAL J' S n RR := by
  obtain ⟨⟨b1, b2⟩, ⟨b3, b4, _⟩, b6⟩ := b
  obtain ⟨⟨⟨E0, E1⟩, e6, E2, E3⟩, W, U⟩ := c
  have T := hI.1.1.1.told
  have ts := hI.1.1.1.1.1.1
  have hn := hI.2.1
  have nn := U.1
  have hm := hI.1.1.2.1
  refine ⟨⟨⟨?_, fun k a b => ?_⟩, ?_, fun t a b => ?_, fun t i a b x y => ?_⟩, W.of hI.1.1.2.2 (fun k a b => ?_), U.of (by omega) (f 5 (by omega)) (fun i a b => f _ (by unfold zU; omega))⟩
  · rw [e 1 (by decide) (by decide) (by decide), b1]; exact E0
  · have w := b2 k a (by omega)
    rw [e 2 (by decide) (by decide) (by decide), e 3 (by decide) (by decide) (by decide), e 4 (by decide) (by decide) (by decide), w.1, w.2.1, w.2.2]
    exact E1 k a b
  · rw [e 6 (by decide) (by decide) (by decide), b3]; exact e6
  · have w := b4.1 t a (by omega)
    rw [e 7 (by decide) (by decide) (by decide), e 12 (by decide) (by decide) (by decide), w.1, w.2.2.2.2.1]
    exact E2 t a b
  · have w := b4.1 t a (by omega)
    rw [e 8 (by decide) (by decide) (by decide), w.2.1] at y
    have ar := (hI.1.1.1.ar a (by omega)).1
    rw [e 9 (by decide) (by decide) (by decide), b4.2 (t * 3 + i) (by omega) (by omega)]
    exact E3 t i a b x y
  · rw [e 19 (by decide) (by decide) (by decide)]; exact b6 k (by omega) b
set_option maxHeartbeats 4000000 in
set_option maxRecDepth 100000 in
theorem v_bankC {l : Launch} {G : tb_G} (hl : l.stackTraces = false) (n : Nat) (J : zJ) (x : Int) (hr_x : -2147483648 ≤ x ∧ x < 2147483648) (m : Int) (S : zJ) (pn : Int) (RR : Int → Int → Int) (hnb : n ≤ tb_sc) (hI : CI J m) (h9 : J 145 10 < 1000000000) (cc : CAL J S pn RR) (h21 : S 164 21 = 0) (hT : J 162 = J 173) : tz_Ok l G M_X11_bank 37 1 6 [.ref 0, zi x] n J (zqi (fun z J' => ((∃ m', CI J' m') ∧ J' 145 10 ≤ J 145 10 + 24000 ∧ (J' 0 13 = 0 ∧ 0 ≤ x ∧ x ≤ J 0 13) ∧ zOf foi J' J ∧ (z = (pAl 703 (pN (pG J x))) 0 4 ∧ (¬ (pAl 703 (pN (pG J x))) 0 4 = 0 → J' 0 14 = (pAl 703 (pN (pG J x))) 0 5 ∧ J' 0 15 = J 0 15) ∧ ((pAl 703 (pN (pG J x))) 0 4 = 0 → J' 0 14 = -1 ∧ J' 0 15 = 0))) ∧ (¬ (pAl 703 (pN (pG J x))) 0 4 = 0 → CAL J' S pn RR ∧ zOf fou J' J) ∧ ((pAl 703 (pN (pG J x))) 0 4 = 0 → ET J' (pAl 703 (pN (pG J x))) ∧ J' 5 6 = 0))) (fun E J' => E = "java/lang/IllegalArgumentException" ∧ J = J' ∧ ¬ (0 ≤ x ∧ x ≤ J 0 13)) := by
  refine tz_Ok.of hl (by decide +kernel) rfl (tb_c1 rfl) (Nat.le_of_ble_eq_true rfl) ?_
  show tz_At l G M_X11_bank (tb_rm 37 1 6) none (tb_ZM G 1 6 (zQ n 1 (zqi (fun z J' => ((∃ m', CI J' m') ∧ J' 145 10 ≤ J 145 10 + 24000 ∧ (J' 0 13 = 0 ∧ 0 ≤ x ∧ x ≤ J 0 13) ∧ zOf foi J' J ∧ (z = (pAl 703 (pN (pG J x))) 0 4 ∧ (¬ (pAl 703 (pN (pG J x))) 0 4 = 0 → J' 0 14 = (pAl 703 (pN (pG J x))) 0 5 ∧ J' 0 15 = J 0 15) ∧ ((pAl 703 (pN (pG J x))) 0 4 = 0 → J' 0 14 = -1 ∧ J' 0 15 = 0))) ∧ (¬ (pAl 703 (pN (pG J x))) 0 4 = 0 → CAL J' S pn RR ∧ zOf fou J' J) ∧ ((pAl 703 (pN (pG J x))) 0 4 = 0 → ET J' (pAl 703 (pN (pG J x))) ∧ J' 5 6 = 0)))) (zX n 1 (fun E J' => E = "java/lang/IllegalArgumentException" ∧ J = J' ∧ ¬ (0 ≤ x ∧ x ≤ J 0 13)))) 0 0 n J 0 [some (.ref 0), some (zi x), none] []
  have hC := hI.1.1.1
  have hm := hI.1.1.2.1
  have hL := hI.1.1.2.2
  have hb := hC.told
  have wb := cc.2.1.b hL
  have htp := hI.1.2.2.1
  refine tz_iload_n (pc := 0) dX11_bank_0 rfl rfl ?_
  refine tz_if_lt (pc := 1) (tgt := 12) dX11_bank_1 (by decide) (by omega) (fun h_1 => ?_) (fun h_1 => ?_)
  · exact tz_throw (pc := 12) (text := "the tape has not so many bytes") th_X11_122_126 (by decide +kernel) rfl dX11_bank_12 dX11_bank_15 dX11_bank_16 dX11_bank_18 dX11_bank_21 (Nat.le_of_ble_eq_true rfl) (Nat.le_of_ble_eq_true rfl) (Nat.le_of_ble_eq_true rfl) (Nat.le_of_ble_eq_true rfl) (Nat.le_of_ble_eq_true rfl) (Nat.le_of_ble_eq_true rfl) ⟨Nat.le_refl _, Nat.le_add_right _ _⟩ ⟨rfl, rfl, by omega⟩
  · refine tz_iload_n (pc := 4) dX11_bank_4 rfl rfl ?_
    refine tz_aload_n (pc := 5) dX11_bank_5 rfl rfl ?_
    refine tz_fI (pc := 6) (kz := 13) (v := (J 0 13)) dX11_bank_6 fl_X11_107 i_0_13 rfl rfl (fun r_6 => ?_)
    refine tz_icmp_le (pc := 9) (tgt := 22) dX11_bank_9 (by decide) (by omega) (by omega) (fun h_9 => ?_) (fun h_9 => ?_)
    · refine tz_aload_n (pc := 22) dX11_bank_22 rfl rfl ?_
      refine tz_iconst (pc := 23) dX11_bank_23 ?_
      refine tz_pI (pc := 24) (kz := 13) dX11_bank_24 fl_X11_107 i_0_13 rfl rfl (by decide) ?_
      refine tz_aload_n (pc := 27) dX11_bank_27 rfl rfl ?_
      refine tz_cV (pc := 28) (c_setAside hl n _ (by rw [zup_nc (by decide), hm]; exact hb.2)) vl_X11_129 dX11_bank_28 o_0 rfl rfl (Nat.le_of_ble_eq_true rfl) ⟨(Nat.le_of_ble_eq_true rfl), (Nat.le_of_ble_eq_true rfl)⟩ rfl rfl (Nat.le_of_ble_eq_true rfl) (Nat.le_of_ble_eq_true rfl) (fun r9 J1 hq9 => ?_)
      obtain ⟨rfl, p1, p2⟩ := hq9
      have p3 : SV J1 J := p1
      refine tz_aload_n (pc := 31) dX11_bank_31 rfl rfl ?_
      refine tz_cV (pc := 32) (x_startAnew hl n _) vl_X11_132 dX11_bank_32 o_0 rfl rfl (Nat.le_of_ble_eq_true rfl) ⟨(Nat.le_of_ble_eq_true rfl), (Nat.le_of_ble_eq_true rfl)⟩ rfl rfl (Nat.le_of_ble_eq_true rfl) (Nat.le_of_ble_eq_true rfl) (fun r9 J2 hq9 => ?_)
      obtain ⟨rfl, ⟨n1, nE⟩, n2⟩ := hq9
      have p4 : SV J2 J := p3.of (fun c hc => n2 c (by simp [zbut]; omega))
      have n3 : J2 156 3 = -1 := by rw [n2 156 rfl, p2 156 rfl]; exact hI.1.2.2.1.2
      have hz7 : zmn x 700 = x := by unfold zmn; rw [if_neg (by omega)]
      refine tz_aload_n (pc := 35) dX11_bank_35 rfl rfl ?_
      refine tz_fR (pc := 36) dX11_bank_36 fl_X11_103 r_0_11 ?_
      refine tz_iload_n (pc := 39) dX11_bank_39 rfl rfl ?_
      refine tz_cV (pc := 40) (w_readBank hl n _ _ (by omega) 0 (pG J x) hnb n1.1 n1.2.1 n1.2.2 (by omega) n3 ⟨hz7.symm, rfl, rfl, rfl⟩ (by rw [n2 162 rfl, p2 162 rfl]; exact hT) nE.et (GB.g0 (by omega))) vl_X11_135 dX11_bank_40 o_163 rfl rfl (Nat.le_of_ble_eq_true rfl) ⟨(Nat.le_of_ble_eq_true rfl), (Nat.le_of_ble_eq_true rfl)⟩ rfl rfl (Nat.le_of_ble_eq_true rfl) (Nat.le_of_ble_eq_true rfl) (fun r9 J3 hq9 => ?_)
      obtain ⟨zf, rfl, hz_40, m3, r1, rz, rR⟩ := hq9
      have p5 : SV J3 J := p4.of (fun c hc => r1.2.1 c (by simp [zbut]; omega))
      refine tz_istore_n (pc := 43) (L2 := [_, _, _]) dX11_bank_43 rfl (by decide) rfl ?_
      refine tz_iload_n (pc := 44) dX11_bank_44 rfl rfl ?_
      refine tz_if_eq (pc := 45) (tgt := 78) dX11_bank_45 (by decide) (by omega) (fun h_45 => ?_) (fun h_45 => ?_)
      · refine tz_aload_n (pc := 78) dX11_bank_78 rfl rfl ?_
        refine tz_fR (pc := 79) dX11_bank_79 fl_X11_29 r_0_1 ?_
        refine tz_cV (pc := 82) (c_forget hl n _) vl_X11_148 dX11_bank_82 o_5 rfl rfl (Nat.le_of_ble_eq_true rfl) ⟨(Nat.le_of_ble_eq_true rfl), (Nat.le_of_ble_eq_true rfl)⟩ rfl rfl (Nat.le_of_ble_eq_true rfl) (Nat.le_of_ble_eq_true rfl) (fun r9 J_82 hq9 => ?_)
        obtain ⟨rfl, rfl⟩ := hq9
        refine tz_aload_n (pc := 85) dX11_bank_85 rfl rfl ?_
        refine tz_iconst (pc := 86) dX11_bank_86 ?_
        refine tz_pZ (pc := 87) (kz := 15) dX11_bank_87 fl_X11_114 i_0_15 rfl rfl (Or.inl rfl) ?_
        refine tz_aload_n (pc := 90) dX11_bank_90 rfl rfl ?_
        refine tz_iconst (pc := 91) dX11_bank_91 ?_
        refine tz_pI (pc := 92) (kz := 14) dX11_bank_92 fl_X11_111 i_0_14 rfl rfl (by decide) ?_
        refine tz_iconst (pc := 95) dX11_bank_95 ?_
        have ff : ∀ c, (c = 145 ∨ c = 146 ∨ c = 162 ∨ 164 ≤ c) → J3 c = J c := fun c hc => by rw [r1.2.1 c (by simp [zbut]; omega), n2 c (by simp [zbut]; omega), p2 c (decide_eq_true (by omega)), zup_nc (by omega)]
        have e0 : ∀ k, J3 0 k = zup J 0 13 0 0 k := fun k => by rw [r1.2.1 0 rfl, n2 0 rfl, p2 0 rfl]
        have h4 : (pAl 703 (pN (pG J x))) 0 4 = 0 := by rw [← rR.1, rz]; omega
        exact tz_iret (pc := 96) (z := 0) dX11_bank_96 rfl (Nat.le_of_ble_eq_true rfl) (Nat.le_of_ble_eq_true rfl) ⟨Nat.le_refl _, Nat.le_add_right _ _⟩ ⟨_, rfl, (by decide), ⟨⟨⟨m3, CI.new (J2 := J) hI (r1.1.1.of (fun c hc => by rw [zup_nc (by omega), zup_nc (by omega), zup_nc (by omega), zup_nc (by omega)])) r1.1.2.1 r1.1.2.2.1 (hI.1.2.1.of (by rw [zup_nc (by decide), zup_nc (by decide), zup_nc (by decide), zup_nc (by decide)]; exact ff 145 (by omega)) (by rw [zup_nc (by decide), zup_nc (by decide), zup_nc (by decide), zup_nc (by decide)]; exact ff 146 (by omega))) (by rw [zup_nc (by decide), zup_nc (by decide), zup_nc (by decide), zup_nc (by decide), r1.2.2]; exact n3) (by rw [zup_ne (by decide), zup_ne (by decide), zup_nc (by decide), zup_nc (by decide), e0, zup_at]) (by rw [zup_ne (by decide), zup_at]) rfl rfl⟩, by rw [zup_nc (by decide), zup_nc (by decide), zup_nc (by decide), zup_nc (by decide), ff 145 (by omega)]; omega, ⟨by rw [zup_ne (by decide), zup_ne (by decide), zup_nc (by decide), zup_nc (by decide), e0, zup_at], by omega⟩, fun c hc => by have hc9 := of_decide_eq_true hc; rw [zup_nc (by omega), zup_nc (by omega), zup_nc (by omega), zup_nc (by omega)]; exact ff c (by omega), h4.symm, fun q => absurd h4 q, fun _ => ⟨zup_at, by rw [zup_ne (by decide), zup_at]⟩⟩, fun q => absurd h4 q, fun _ => ⟨((rR.2.2 h4).2.2.2.2).f (fun c a b d => by rw [zup_nc (by omega), zup_nc (by omega), zup_nc d, zup_nc d]), by rw [zup_nc (by decide), zup_nc (by decide), zup_ne (by decide), zup_at] ; try rfl⟩⟩⟩
      · refine tz_aload_n (pc := 48) dX11_bank_48 rfl rfl ?_
        refine tz_cV (pc := 49) (c_takeBack0 hl n _ J p5 (by rw [hm]; exact hb.2)) vl_X11_139 dX11_bank_49 o_0 rfl rfl (Nat.le_of_ble_eq_true rfl) ⟨(Nat.le_of_ble_eq_true rfl), (Nat.le_of_ble_eq_true rfl)⟩ rfl rfl (Nat.le_of_ble_eq_true rfl) (Nat.le_of_ble_eq_true rfl) (fun r9 J4 hq9 => ?_)
        obtain ⟨rfl, b1, b2⟩ := hq9
        refine tz_aload_n (pc := 52) dX11_bank_52 rfl rfl ?_
        refine tz_fR (pc := 53) dX11_bank_53 fl_X11_29 r_0_1 ?_
        refine tz_fR (pc := 56) dX11_bank_56 fl_X11_142 r_5_4 ?_
        refine tz_iconst (pc := 59) dX11_bank_59 ?_
        refine tz_dup2 (pc := 60) dX11_bank_60 rfl rfl ?_
        refine tz_aL (pc := 61) (z := 0) (v := (J4 62 0)) dX11_bank_61 a_62 rfl (by decide) rfl (fun r_61 => ?_)
        refine tz_iconst (pc := 62) dX11_bank_62 ?_
        refine tz_iadd (pc := 63) (v := (J4 62 0) + 1) dX11_bank_63 rfl ?_
        refine tz_tw ?_
        have rw_64 := zw_rg ((J4 62 0) + 1)
        refine tz_aS (pc := 64) (z := 0) dX11_bank_64 a_62 rfl (by decide) (zw_rg _) ?_
        refine tz_aload_n (pc := 65) dX11_bank_65 rfl rfl ?_
        refine tz_aload_n (pc := 66) dX11_bank_66 rfl rfl ?_
        refine tz_fR (pc := 67) dX11_bank_67 fl_X11_103 r_0_11 ?_
        refine tz_cV (pc := 70) (x_fplace hl n _) vl_X11_145 dX11_bank_70 o_163 rfl rfl (Nat.le_of_ble_eq_true rfl) ⟨(Nat.le_of_ble_eq_true rfl), (Nat.le_of_ble_eq_true rfl)⟩ rfl rfl (Nat.le_of_ble_eq_true rfl) (Nat.le_of_ble_eq_true rfl) (fun r9 J_70 hq9 => ?_)
        obtain ⟨z_70, rfl, hz_70, rfl, rfl⟩ := hq9
        refine tz_pI (pc := 73) (kz := 14) dX11_bank_73 fl_X11_111 i_0_14 rfl rfl (by omega) ?_
        refine tz_iload_n (pc := 76) dX11_bank_76 rfl rfl ?_
        have ff : ∀ c, (c = 5 ∨ (20 ≤ c ∧ c ≤ 120 ∧ ¬ c = 62) ∨ c = 145 ∨ c = 146 ∨ c = 162 ∨ 164 ≤ c) → zup (zup J4 62 0 (zw (J4 62 0 + 1))) 0 14 (zup J4 62 0 (zw (J4 62 0 + 1)) 163 9) c = J c := fun c hc => by rw [zup_nc (by omega), zup_nc (by omega), b2 c (by simp [zbut]; omega), r1.2.1 c (by simp [zbut]; omega), n2 c (by simp [zbut]; omega), p2 c (decide_eq_true (by omega)), zup_nc (by omega)]
        have e0 : ∀ k, J4 0 k = zup J 0 13 0 0 k := fun k => by rw [b2 0 rfl, r1.2.1 0 rfl, n2 0 rfl, p2 0 rfl]
        have h4 : ¬ (pAl 703 (pN (pG J x))) 0 4 = 0 := by rw [← rR.1, rz]; omega
        exact tz_iret (pc := 77) (z := zf) dX11_bank_77 rfl (Nat.le_of_ble_eq_true rfl) (Nat.le_of_ble_eq_true rfl) ⟨Nat.le_refl _, Nat.le_add_right _ _⟩ ⟨_, rfl, (by omega), ⟨⟨⟨m, hI.bk (J' := zup (zup J4 62 0 (zw (J4 62 0 + 1))) 0 14 (zup J4 62 0 (zw (J4 62 0 + 1)) 163 9)) b1 (by rw [zup_ne (by decide), zup_nc (by decide), e0, zup_at]; decide) (by rw [zup_nc (by decide), zup_nc (by decide), b2 156 rfl, r1.2.2]; exact n3) (by rw [zup_ne (by decide), zup_nc (by decide), e0, zup_ne (by decide)]) (fun c hc => ff c (by omega))⟩, by rw [ff 145 (by omega)]; omega, ⟨by rw [zup_ne (by decide), zup_nc (by decide), e0, zup_at], by omega⟩, fun c hc => ff c (by have := of_decide_eq_true hc; omega), rz.symm.trans rR.1, fun q => ⟨by rw [zup_at, zup_nc (by decide), b2 163 rfl]; exact rR.2.1 q, by rw [zup_ne (by decide), zup_nc (by decide), e0, zup_ne (by decide)]⟩, fun q => absurd q h4⟩, fun _ => ⟨cal_bk (J' := (zup (zup J4 62 0 (zw (J4 62 0 + 1))) 0 14 (zup J4 62 0 (zw (J4 62 0 + 1)) 163 9) : zJ)) cc hI b1 (fun q a b _ => (zup_nc (by omega)).trans (zup_nc (by omega))) (fun c hc => ff c (by omega)), fun c hc => ff c (by have := of_decide_eq_true hc; omega)⟩, fun q => absurd q h4⟩⟩
    · exact tz_throw (pc := 12) (text := "the tape has not so many bytes") th_X11_122_126 (by decide +kernel) rfl dX11_bank_12 dX11_bank_15 dX11_bank_16 dX11_bank_18 dX11_bank_21 (Nat.le_of_ble_eq_true rfl) (Nat.le_of_ble_eq_true rfl) (Nat.le_of_ble_eq_true rfl) (Nat.le_of_ble_eq_true rfl) (Nat.le_of_ble_eq_true rfl) (Nat.le_of_ble_eq_true rfl) ⟨Nat.le_refl _, Nat.le_add_right _ _⟩ ⟨rfl, rfl, by omega⟩

end
section
/-! ===== bank of the reference, in the frame of states ===== -/
theorem MBT.x {J' J S : zJ} (h : MBT J S) (f : zOf (zbut [172]) J' J) : MBT J' S := by
  unfold MBT
  rw [f 164 rfl, f 165 rfl, f 166 rfl, f 167 rfl, f 168 rfl, f 169 rfl, f 170 rfl, f 171 rfl]
  exact h
theorem MUr.x {J' J : zJ} {n : Int} {R : Int → Int → Int} (h : MUr J n R) (f : zOf (zbut [172]) J' J) : MUr J' n R := by
  unfold MUr
  rw [f 164 rfl, f 165 rfl]
  exact h
theorem MFI.x {J' J : zJ} (f : zOf (zbut [172]) J' J) : MFI J' J := ⟨fun k _ => by rw [f 165 rfl], fun k _ _ => ⟨by rw [f 166 rfl], by rw [f 168 rfl]⟩, fun k _ _ => by rw [f 167 rfl], by rw [f 164 rfl], by rw [f 164 rfl]⟩
theorem MBT.rd {J2 J : zJ} {m n : Int} {R : Int → Int → Int} (h : MI J m) (g : RDf J2 (zup (zup J 164 8 0) 164 19 0)) (u : MUr J n R) : (MBT J2 (tbz J) ∧ MUr J2 n R) ∧ MFI J2 J := by
  obtain ⟨g1, g5, g6, g7, g9, g4⟩ := g
  have T := h.told
  have e4 : ∀ k, 9 ≤ k → k ≤ 18 → J2 164 k = J 164 k := fun k a b => by
    rw [g4 k (by simp [clF]; omega), zup_ne (by omega), zup_ne (by omega)]
  have e5 : ∀ k, (k < 126 ∨ 189 ≤ k) → J2 165 k = J 165 k := fun k q => g5 k q
  have m0 : tbz J 165 0 = m := T.2.2.1
  refine ⟨⟨⟨⟨?_, fun k a b => ⟨?_, ?_, ?_⟩⟩, fun k a b => ?_, fun t a b => ⟨?_, ?_⟩, fun k a b => ?_⟩, u.of (e4 10 (by decide) (by decide)) (e4 11 (by decide) (by decide)) (fun k a => e5 k (by omega))⟩, fun k a => e5 k (by omega), fun k a b => ⟨(g6 k b).1, (g6 k b).2⟩, fun k a b => g7 k b, e4 12 (by decide) (by decide), e4 13 (by decide) (by decide)⟩
  · exact e4 9 (by decide) (by decide)
  · exact (g9 k b).1.trans (show tbz J 169 k = J 169 k from if_pos ⟨a, b⟩).symm
  · exact (g9 k b).2.1.trans (show tbz J 170 k = J 170 k from if_pos ⟨a, b⟩).symm
  · exact (g9 k b).2.2.trans (show tbz J 171 k = J 171 k from if_pos ⟨a, b⟩).symm
  · exact (e5 k (by omega)).trans (show tbz J 165 k = J 165 k from if_pos ⟨a, b⟩).symm
  · exact (g6 t (by omega)).1.trans (show tbz J 166 t = J 166 t from if_pos ⟨a, by omega⟩).symm
  · exact (g6 t (by omega)).2.trans (show tbz J 168 t = J 168 t from if_pos ⟨a, by omega⟩).symm
  · exact (g7 k (by omega)).trans (show tbz J 167 k = J 167 k from if_pos ⟨a, by omega⟩).symm
theorem MI.bankX {J1 J_69 J2 r : zJ} {s m : Int} (E : EM J2 r) (t : TB J2 s m) (v : MVD 800 0 J_69 J2) (f : zOf (zbut [169, 170, 171]) J1 (zup (zmv J_69 165 126 0 63) 164 9 (J2 164 44))) (e : ∀ q, 0 ≤ q → q < 10 → J1 169 q = J2 169 (10 + q) ∧ J1 170 q = J2 170 (10 + q) ∧ J1 171 q = J2 171 (10 + q)) : (MBT (zup (zup (zup J1 164 14 0) 164 11 0) 164 10 0) (BS r) ∧ (zup (zup (zup J1 164 14 0) 164 11 0) 164 10 0) 164 10 = 0) ∧ r 165 166 = 0 ∧ (0 ≤ r 165 126 ∧ r 165 126 ≤ 400) ∧ (0 ≤ r 164 44 ∧ r 164 44 ≤ 10) := by
  obtain ⟨t1, t2, t3, t4, t5⟩ := t
  obtain ⟨_, _, ⟨x44, _⟩, x5, x6, x7, x9⟩ := E
  obtain ⟨v1, v6, v8, v7⟩ := v
  have m1 := t1.2.1
  have s1 := t1.1.1
  have r0 : r 165 126 = m := (x5 126 (by decide) (by decide)).symm.trans t2
  have e4 : ∀ k, (zup (zup (zup J1 164 14 0) 164 11 0) 164 10 0) 164 k = if k = 10 then 0 else if k = 11 then 0 else if k = 14 then 0 else if k = 9 then J2 164 44 else J2 164 k := fun k => by
    show (if k = 10 then 0 else if k = 11 then 0 else if k = 14 then 0 else J1 164 k) = _
    rw [f 164 rfl]
    show (if k = 10 then 0 else if k = 11 then 0 else if k = 14 then 0 else if k = 9 then J2 164 44 else J_69 164 k) = _
    rw [v1 164 rfl]
  have e5 : ∀ k, (zup (zup (zup J1 164 14 0) 164 11 0) 164 10 0) 165 k = if 0 ≤ k ∧ k < 0 + 63 then J2 165 (126 + (k - 0)) else J2 165 k := fun k => by
    show J1 165 k = _
    rw [f 165 rfl, show J2 165 = J_69 165 from (v1 165 rfl).symm]
    rfl
  have w6 : (zup (zup (zup J1 164 14 0) 164 11 0) 164 10 0) 166 = fcy (J2 166) 800 0 400 := (f 166 rfl).trans v6
  have w8 : (zup (zup (zup J1 164 14 0) 164 11 0) 164 10 0) 168 = fcy (J2 168) 800 0 400 := (f 168 rfl).trans v8
  have w7 : (zup (zup (zup J1 164 14 0) 164 11 0) 164 10 0) 167 = fcy (J2 167) (3 * 800) (3 * 0) 1200 := (f 167 rfl).trans v7
  have w9 : ∀ q, 0 ≤ q → q < 10 → (zup (zup (zup J1 164 14 0) 164 11 0) 164 10 0) 169 q = J2 169 (10 + q) ∧ (zup (zup (zup J1 164 14 0) 164 11 0) 164 10 0) 170 q = J2 170 (10 + q) ∧ (zup (zup (zup J1 164 14 0) 164 11 0) 164 10 0) 171 q = J2 171 (10 + q) := e
  generalize zup (zup (zup J1 164 14 0) 164 11 0) 164 10 0 = J9 at *
  have i6 : ∀ (F : Int → Int) t, 0 ≤ t → t < 400 → fcy F 800 0 400 t = F (800 + t) := fun F t a c => by
    rw [fcy_at, if_pos (by omega)]
    congr 1
    omega
  have i7 : ∀ (F : Int → Int) t, 0 ≤ t → t < 1200 → fcy F (3 * 800) (3 * 0) 1200 t = F (2400 + t) := fun F t a c => by
    rw [fcy_at, if_pos (by omega)]
    congr 1
    omega
  have b0 : BS r 165 0 = m := (BS_5 (by decide)).trans r0
  refine ⟨⟨⟨⟨?_, fun k a b => ?_⟩, fun k a b => ?_, fun t a b => ?_, fun k a b => ?_⟩, ?_⟩, (x5 166 (by decide) (by decide)).symm.trans t5, by omega, by rw [← x44, t3]; exact s1⟩
  · rw [e4, if_neg (by decide), if_neg (by decide), if_neg (by decide), if_pos rfl]; exact x44
  · obtain ⟨q1, q2, q3⟩ := w9 k a b
    obtain ⟨p1, p2, p3⟩ := x9 (10 + k) (by omega) (by omega)
    rw [q1, q2, q3, (BS_9 ⟨a, b⟩).1, (BS_9 ⟨a, b⟩).2.1, (BS_9 ⟨a, b⟩).2.2]
    exact ⟨p1, p2, p3⟩
  · rw [e5, if_pos (by omega), BS_5 ⟨a, b⟩, show 126 + (k - 0) = 126 + k by omega]
    exact x5 _ (by omega) (by omega)
  · rw [w6, w8, i6 _ t a (by omega), i6 _ t a (by omega), (BS_6 (by omega)).1, (BS_6 (by omega)).2]
    exact x6 _ (by omega) (by omega)
  · rw [w7, i7 _ k a (by omega), BS_7 (by omega)]
    exact x7 _ (by omega) (by omega)
  · rw [e4, if_pos rfl]
set_option maxHeartbeats 4000000 in
set_option maxRecDepth 100000 in
theorem v_qbankC {l : Launch} {G : tb_G} (hl : l.stackTraces = false) (n : Nat) (J : zJ) (x : Int) (hr_x : -2147483648 ≤ x ∧ x < 2147483648) (m : Int) (pn : Int) (RR : Int → Int → Int) (hI : MI J m) (u9 : MUr J pn RR) : tz_Ok l G M_X12_bank 24 0 0 [.ref 164, zi x] n J (zqi (fun z J' => ((∃ m, MI J' m) ∧ (∀ c, c < 164 ∨ c = 173 → J' c = J c) ∧ J' 183 = J 183 ∧ ((0 ≤ x ∧ x ≤ J 164 19 ∧ J' 164 19 = 0 ∧ J' 164 8 = 0 ∧ z = (pAl 703 (pN (pG J x))) 0 4 ∧ (¬ (pAl 703 (pN (pG J x))) 0 4 = 0 → J' 164 20 = (pAl 703 (pN (pG J x))) 0 5 ∧ J' 164 14 = J 164 14) ∧ ((pAl 703 (pN (pG J x))) 0 4 = 0 → J' 164 20 = -1 ∧ J' 164 14 = 0)) ∨ (¬ (0 ≤ x ∧ x ≤ J 164 19) ∧ J' 164 19 = J 164 19 ∧ J' 164 8 = 1 ∧ J' 164 20 = J 164 20 ∧ J' 164 14 = J 164 14))) ∧ ((¬ (0 ≤ x ∧ x ≤ J 164 19) ∨ ¬ (pAl 703 (pN (pG J x))) 0 4 = 0) → (MBT J' (tbz J) ∧ MUr J' pn RR) ∧ MFI J' J) ∧ ((0 ≤ x ∧ x ≤ J 164 19) → (pAl 703 (pN (pG J x))) 0 4 = 0 → (MBT J' (BS (pAl 703 (pN (pG J x)))) ∧ J' 164 10 = 0) ∧ (pAl 703 (pN (pG J x))) 165 166 = 0 ∧ (0 ≤ (pAl 703 (pN (pG J x))) 165 126 ∧ (pAl 703 (pN (pG J x))) 165 126 ≤ 400) ∧ (0 ≤ (pAl 703 (pN (pG J x))) 164 44 ∧ (pAl 703 (pN (pG J x))) 164 44 ≤ 10)))) zN := by
  refine tz_Ok.of hl (by decide +kernel) rfl (tb_c1 rfl) (Nat.le_of_ble_eq_true rfl) ?_
  show tz_At l G M_X12_bank (tb_rm 24 0 0) none (tb_ZM G 0 0 (zQ n 0 (zqi (fun z J' => ((∃ m, MI J' m) ∧ (∀ c, c < 164 ∨ c = 173 → J' c = J c) ∧ J' 183 = J 183 ∧ ((0 ≤ x ∧ x ≤ J 164 19 ∧ J' 164 19 = 0 ∧ J' 164 8 = 0 ∧ z = (pAl 703 (pN (pG J x))) 0 4 ∧ (¬ (pAl 703 (pN (pG J x))) 0 4 = 0 → J' 164 20 = (pAl 703 (pN (pG J x))) 0 5 ∧ J' 164 14 = J 164 14) ∧ ((pAl 703 (pN (pG J x))) 0 4 = 0 → J' 164 20 = -1 ∧ J' 164 14 = 0)) ∨ (¬ (0 ≤ x ∧ x ≤ J 164 19) ∧ J' 164 19 = J 164 19 ∧ J' 164 8 = 1 ∧ J' 164 20 = J 164 20 ∧ J' 164 14 = J 164 14))) ∧ ((¬ (0 ≤ x ∧ x ≤ J 164 19) ∨ ¬ (pAl 703 (pN (pG J x))) 0 4 = 0) → (MBT J' (tbz J) ∧ MUr J' pn RR) ∧ MFI J' J) ∧ ((0 ≤ x ∧ x ≤ J 164 19) → (pAl 703 (pN (pG J x))) 0 4 = 0 → (MBT J' (BS (pAl 703 (pN (pG J x)))) ∧ J' 164 10 = 0) ∧ (pAl 703 (pN (pG J x))) 165 166 = 0 ∧ (0 ≤ (pAl 703 (pN (pG J x))) 165 126 ∧ (pAl 703 (pN (pG J x))) 165 126 ≤ 400) ∧ (0 ≤ (pAl 703 (pN (pG J x))) 164 44 ∧ (pAl 703 (pN (pG J x))) 164 44 ≤ 10))))) (zX n 0 zN)) 0 0 n J 0 [some (.ref 164), some (zi x), none] []
  have hT := hI.told
  have hW := hI.row
  have hM := hI.1
  have hL := hI.2.1
  refine tz_aload_n (pc := 0) dX12_bank_0 rfl rfl ?_
  refine tz_iconst (pc := 1) dX12_bank_1 ?_
  refine tz_pI (pc := 2) (kz := 8) dX12_bank_2 fl_X12_68 i_164_8 rfl rfl (by decide) ?_
  refine tz_aload_n (pc := 5) dX12_bank_5 rfl rfl ?_
  refine tz_iload_n (pc := 6) dX12_bank_6 rfl rfl ?_
  refine tz_if_lt (pc := 7) (tgt := 22) dX12_bank_7 (by decide) (by omega) (fun h_7 => ?_) (fun h_7 => ?_)
  · refine tz_iconst (pc := 22) dX12_bank_22 ?_
    refine tz_iconst (pc := 23) dX12_bank_23 ?_
    refine tz_cV (pc := 24) (x_right0 hl n _ rfl) vl_X12_334 dX12_bank_24 o_164 rfl rfl (Nat.le_of_ble_eq_true rfl) ⟨(Nat.le_of_ble_eq_true rfl), (Nat.le_of_ble_eq_true rfl)⟩ rfl rfl (Nat.le_of_ble_eq_true rfl) (Nat.le_of_ble_eq_true rfl) (fun r9 J_24 hq9 => ?_)
    obtain ⟨z_24, rfl, hz_24, rfl, rfl⟩ := hq9
    refine tz_if_neF (pc := 27) (tgt := 32) (by decide) dX12_bank_27 (by decide) (by decide) ?_
    refine tz_iconst (pc := 30) dX12_bank_30 ?_
    exact tz_iret (pc := 31) (z := 0) dX12_bank_31 rfl (Nat.le_of_ble_eq_true rfl) (Nat.le_of_ble_eq_true rfl) ⟨Nat.le_refl _, Nat.le_add_right _ _⟩ ⟨_, rfl, (by decide), ⟨⟨⟨m, hI.z (MZ.up (k := 8) (MZ.up (k := 8) MZ.rf (by decide)) (by decide))⟩, MZ.lo (MZ.up (k := 8) (MZ.up (k := 8) MZ.rf (by decide)) (by decide)), rfl, Or.inr ⟨by omega, rfl, rfl, rfl, rfl⟩⟩, fun _ => ⟨⟨MBT.z hI (MZ.up (k := 8) (MZ.up (k := 8) MZ.rf (by decide)) (by decide)), u9.z (MZ.up (k := 8) (MZ.up (k := 8) MZ.rf (by decide)) (by decide))⟩, MFI.z (MZ.up (k := 8) (MZ.up (k := 8) MZ.rf (by decide)) (by decide))⟩, fun q _ => absurd q (by omega)⟩⟩
  · refine tz_iload_n (pc := 10) dX12_bank_10 rfl rfl ?_
    refine tz_aload_n (pc := 11) dX12_bank_11 rfl rfl ?_
    refine tz_fI (pc := 12) (kz := 19) (v := (J 164 19)) dX12_bank_12 fl_X12_328 i_164_19 rfl rfl (fun r_12 => ?_)
    refine tz_icmp_gt (pc := 15) (tgt := 22) dX12_bank_15 (by decide) (by omega) (by omega) (fun h_15 => ?_) (fun h_15 => ?_)
    · refine tz_iconst (pc := 22) dX12_bank_22 ?_
      refine tz_iconst (pc := 23) dX12_bank_23 ?_
      refine tz_cV (pc := 24) (x_right0 hl n _ rfl) vl_X12_334 dX12_bank_24 o_164 rfl rfl (Nat.le_of_ble_eq_true rfl) ⟨(Nat.le_of_ble_eq_true rfl), (Nat.le_of_ble_eq_true rfl)⟩ rfl rfl (Nat.le_of_ble_eq_true rfl) (Nat.le_of_ble_eq_true rfl) (fun r9 J_24 hq9 => ?_)
      obtain ⟨z_24, rfl, hz_24, rfl, rfl⟩ := hq9
      refine tz_if_neF (pc := 27) (tgt := 32) (by decide) dX12_bank_27 (by decide) (by decide) ?_
      refine tz_iconst (pc := 30) dX12_bank_30 ?_
      exact tz_iret (pc := 31) (z := 0) dX12_bank_31 rfl (Nat.le_of_ble_eq_true rfl) (Nat.le_of_ble_eq_true rfl) ⟨Nat.le_refl _, Nat.le_add_right _ _⟩ ⟨_, rfl, (by decide), ⟨⟨⟨m, hI.z (MZ.up (k := 8) (MZ.up (k := 8) MZ.rf (by decide)) (by decide))⟩, MZ.lo (MZ.up (k := 8) (MZ.up (k := 8) MZ.rf (by decide)) (by decide)), rfl, Or.inr ⟨by omega, rfl, rfl, rfl, rfl⟩⟩, fun _ => ⟨⟨MBT.z hI (MZ.up (k := 8) (MZ.up (k := 8) MZ.rf (by decide)) (by decide)), u9.z (MZ.up (k := 8) (MZ.up (k := 8) MZ.rf (by decide)) (by decide))⟩, MFI.z (MZ.up (k := 8) (MZ.up (k := 8) MZ.rf (by decide)) (by decide))⟩, fun q _ => absurd q (by omega)⟩⟩
    · refine tz_iconst (pc := 18) dX12_bank_18 ?_
      refine tz_goto (pc := 19) (tgt := 23) dX12_bank_19 (by decide) ?_
      refine tz_iconst (pc := 23) dX12_bank_23 ?_
      refine tz_cV (pc := 24) (x_right1 hl n _ rfl) vl_X12_334 dX12_bank_24 o_164 rfl rfl (Nat.le_of_ble_eq_true rfl) ⟨(Nat.le_of_ble_eq_true rfl), (Nat.le_of_ble_eq_true rfl)⟩ rfl rfl (Nat.le_of_ble_eq_true rfl) (Nat.le_of_ble_eq_true rfl) (fun r9 J_24 hq9 => ?_)
      obtain ⟨z_24, rfl, hz_24, rfl, rfl⟩ := hq9
      refine tz_if_neT (pc := 27) (tgt := 32) (by decide) dX12_bank_27 (by decide) (by decide) ?_
      refine tz_aload_n (pc := 32) dX12_bank_32 rfl rfl ?_
      refine tz_iconst (pc := 33) dX12_bank_33 ?_
      refine tz_pI (pc := 34) (kz := 19) dX12_bank_34 fl_X12_328 i_164_19 rfl rfl (by decide) ?_
      refine tz_aload_n (pc := 37) dX12_bank_37 rfl rfl ?_
      refine tz_iload_n (pc := 38) dX12_bank_38 rfl rfl ?_
      refine tz_cV (pc := 39) (y_readsAll hl n _ _ (by omega) (by omega) ⟨(show (zup (zup J 164 8 0) 164 19 0) 164 15 = 0 from hT.2.2.2.1.1), (show (zup (zup J 164 8 0) 164 19 0) 164 16 = 0 from hT.2.2.2.1.2.1), (show (zup (zup J 164 8 0) 164 19 0) 164 17 = 0 from hT.2.2.2.1.2.2)⟩) vl_X12_337 dX12_bank_39 o_164 rfl rfl (Nat.le_of_ble_eq_true rfl) ⟨(Nat.le_of_ble_eq_true rfl), (Nat.le_of_ble_eq_true rfl)⟩ rfl rfl (Nat.le_of_ble_eq_true rfl) (Nat.le_of_ble_eq_true rfl) (fun r9 J_39 hq9 => ?_)
      obtain ⟨rfl, ⟨r_39, s9, m9, t9⟩, k_39⟩ := hq9
      have i_39 := MI.rd hI (MZ.up (k := 8) MZ.rf (by decide)) r_39
      rw [show pG (zup (zup J 164 8 0) 164 19 0) x = pG J x from pG_e (fun c hc _ => by rw [zup_nc (by omega), zup_nc (by omega)])] at k_39
      have v_39 := k_39.n (by omega)
      have g8 : J_39 164 8 = 0 := (r_39.2.2.2.2.2 8 (by decide)).trans rfl
      have g14 : J_39 164 14 = J 164 14 := (r_39.2.2.2.2.2 14 (by decide)).trans rfl
      refine tz_aload_n (pc := 42) dX12_bank_42 rfl rfl ?_
      refine tz_fI (pc := 43) (kz := 43) (v := (J_39 164 43)) dX12_bank_43 fl_X12_273 i_164_43 rfl rfl (fun r_43 => ?_)
      refine tz_if_eq (pc := 46) (tgt := 64) dX12_bank_46 (by decide) (by omega) (fun h_46 => ?_) (fun h_46 => ?_)
      · refine tz_aload_n (pc := 64) dX12_bank_64 rfl rfl ?_
        refine tz_sipush (pc := 65) dX12_bank_65 (by decide) ?_
        refine tz_iconst (pc := 68) dX12_bank_68 ?_
        refine tz_cV (pc := 69) (m_moves hl n _ _ _ (by decide) (by decide) (by decide) (by decide)) vl_X12_340 dX12_bank_69 o_164 rfl rfl (Nat.le_of_ble_eq_true rfl) ⟨(Nat.le_of_ble_eq_true rfl), (Nat.le_of_ble_eq_true rfl)⟩ rfl rfl (Nat.le_of_ble_eq_true rfl) (Nat.le_of_ble_eq_true rfl) (fun r9 J_69 hq9 => ?_)
        obtain ⟨rfl, v_69⟩ := hq9
        refine tz_aload_n (pc := 72) dX12_bank_72 rfl rfl ?_
        refine tz_bipush (pc := 73) dX12_bank_73 (by decide) ?_
        refine tz_iconst (pc := 75) dX12_bank_75 ?_
        refine tz_bipush (pc := 76) dX12_bank_76 (by decide) ?_
        refine tz_cV (pc := 78) (zm_copies hl n _ _ _ _ (by decide) (by decide) (by decide) (by omega) (by omega)) vl_X12_343 dX12_bank_78 o_164 rfl rfl (Nat.le_of_ble_eq_true rfl) ⟨(Nat.le_of_ble_eq_true rfl), (Nat.le_of_ble_eq_true rfl)⟩ rfl rfl (Nat.le_of_ble_eq_true rfl) (Nat.le_of_ble_eq_true rfl) (fun r9 J_78 hq9 => ?_)
        obtain ⟨rfl, rfl⟩ := hq9
        refine tz_aload_n (pc := 81) dX12_bank_81 rfl rfl ?_
        refine tz_aload_n (pc := 82) dX12_bank_82 rfl rfl ?_
        refine tz_fI (pc := 83) (kz := 44) (v := (J_39 164 44)) dX12_bank_83 fl_X12_287 i_164_44 rfl (Eq.trans (congrFun (v_69.1 164 rfl) 44) rfl) (fun r_83 => ?_)
        refine tz_pI (pc := 86) (kz := 9) dX12_bank_86 fl_X12_347 i_164_9 rfl rfl (by omega) ?_
        refine tz_iconst (pc := 89) dX12_bank_89 ?_
        refine tz_istore_n (pc := 90) (L2 := [_, _, _]) dX12_bank_90 rfl (by decide) rfl ?_
        have loop91 : ∀ (f9 : Nat) (k : Int) (J1 : zJ), ((10 - k).toNat) < f9 → (0 ≤ k ∧ k ≤ 10) → (zOf (zbut [169, 170, 171]) J1 (zup (zmv J_69 165 126 0 63) 164 9 (J_39 164 44))) → (∀ q, 0 ≤ q → q < k → J1 169 q = J_39 169 (10 + q) ∧ J1 170 q = J_39 170 (10 + q) ∧ J1 171 q = J_39 171 (10 + q)) → (∀ q, 10 ≤ q → J1 169 q = J_39 169 q ∧ J1 170 q = J_39 170 q ∧ J1 171 q = J_39 171 q) → tz_At l G M_X12_bank (tb_rm 24 0 0) none (tb_ZM G 0 0 (zQ n 0 (zqi (fun z J' => ((∃ m, MI J' m) ∧ (∀ c, c < 164 ∨ c = 173 → J' c = J c) ∧ J' 183 = J 183 ∧ ((0 ≤ x ∧ x ≤ J 164 19 ∧ J' 164 19 = 0 ∧ J' 164 8 = 0 ∧ z = (pAl 703 (pN (pG J x))) 0 4 ∧ (¬ (pAl 703 (pN (pG J x))) 0 4 = 0 → J' 164 20 = (pAl 703 (pN (pG J x))) 0 5 ∧ J' 164 14 = J 164 14) ∧ ((pAl 703 (pN (pG J x))) 0 4 = 0 → J' 164 20 = -1 ∧ J' 164 14 = 0)) ∨ (¬ (0 ≤ x ∧ x ≤ J 164 19) ∧ J' 164 19 = J 164 19 ∧ J' 164 8 = 1 ∧ J' 164 20 = J 164 20 ∧ J' 164 14 = J 164 14))) ∧ ((¬ (0 ≤ x ∧ x ≤ J 164 19) ∨ ¬ (pAl 703 (pN (pG J x))) 0 4 = 0) → (MBT J' (tbz J) ∧ MUr J' pn RR) ∧ MFI J' J) ∧ ((0 ≤ x ∧ x ≤ J 164 19) → (pAl 703 (pN (pG J x))) 0 4 = 0 → (MBT J' (BS (pAl 703 (pN (pG J x)))) ∧ J' 164 10 = 0) ∧ (pAl 703 (pN (pG J x))) 165 166 = 0 ∧ (0 ≤ (pAl 703 (pN (pG J x))) 165 126 ∧ (pAl 703 (pN (pG J x))) 165 126 ≤ 400) ∧ (0 ≤ (pAl 703 (pN (pG J x))) 164 44 ∧ (pAl 703 (pN (pG J x))) 164 44 ≤ 10))))) (zX n 0 zN)) 0 0 n J1 91 [some (.ref 164), some (zi x), some (zi k)] [] := by
          intro f9
          induction f9 with
          | zero => intro k J1 hm9; exact absurd hm9 (Nat.not_lt_zero _)
          | succ f9 ih91 =>
            intro k J1 hm91 hk f1 e1 e2
            refine tz_iload_n (pc := 91) dX12_bank_91 rfl rfl ?_
            refine tz_bipush (pc := 92) dX12_bank_92 (by decide) ?_
            refine tz_icmp_ge (pc := 94) (tgt := 148) dX12_bank_94 (by decide) (by omega) (by decide) (fun h_94 => ?_) (fun h_94 => ?_)
            · have f3 : zOf (zbut [164, 165, 166, 167, 168, 169, 170, 171]) (zup (zup (zup J1 164 14 0) 164 11 0) 164 10 0) J_39 := zOf.up rfl (zOf.up rfl (zOf.up rfl ((f1.mono (zbut_sub (fun c hc => by simp at hc ⊢; omega))).tr (zOf.up rfl (zOf.mv rfl (v_69.1.mono (zbut_sub (fun c hc => by simp at hc ⊢; omega))))))))
              have LOB : ∀ c, c < 164 ∨ c = 173 → (zup (zup (zup J1 164 14 0) 164 11 0) 164 10 0) c = J c := fun c hc => (f3 c (zbut_lo (by decide) hc)).trans (i_39.2.1 c hc)
              have LO9 : (zup (zup (zup J1 164 14 0) 164 11 0) 164 10 0) 164 19 = 0 := by show J1 164 19 = 0; rw [f1 164 rfl]; show J_69 164 19 = 0; rw [v_69.1 164 rfl]; exact i_39.2.2
              have LO8 : (zup (zup (zup J1 164 14 0) 164 11 0) 164 10 0) 164 8 = 0 := by show J1 164 8 = 0; rw [f1 164 rfl]; show J_69 164 8 = 0; rw [v_69.1 164 rfl]; exact g8
              have LO20 : (pAl 703 (pN (pG J x))) 0 4 = 0 → (zup (zup (zup J1 164 14 0) 164 11 0) 164 10 0) 164 20 = -1 := fun q => by show J1 164 20 = -1; rw [f1 164 rfl]; show J_69 164 20 = -1; rw [v_69.1 164 rfl]; exact (v_39.2.2 q).1.2.2.1.2.2.2
              refine tz_aload_n (pc := 148) dX12_bank_148 rfl rfl ?_
              refine tz_aload_n (pc := 149) dX12_bank_149 rfl rfl ?_
              refine tz_aload_n (pc := 150) dX12_bank_150 rfl rfl ?_
              refine tz_iconst (pc := 151) dX12_bank_151 ?_
              refine tz_dup_x1 (pc := 152) dX12_bank_152 rfl rfl ?_
              refine tz_pI (pc := 153) (kz := 14) dX12_bank_153 fl_X12_350 i_164_14 rfl rfl (by decide) ?_
              refine tz_dup_x1 (pc := 156) dX12_bank_156 rfl rfl ?_
              refine tz_pI (pc := 157) (kz := 11) dX12_bank_157 fl_X12_353 i_164_11 rfl rfl (by decide) ?_
              refine tz_pI (pc := 160) (kz := 10) dX12_bank_160 fl_X12_356 i_164_10 rfl rfl (by decide) ?_
              refine tz_iconst (pc := 163) dX12_bank_163 ?_
              exact tz_iret (pc := 164) (z := 0) dX12_bank_164 rfl (Nat.le_of_ble_eq_true rfl) (Nat.le_of_ble_eq_true rfl) ⟨Nat.le_refl _, Nat.le_add_right _ _⟩ ⟨_, rfl, (by decide), ⟨⟨⟨m9, MI.bank i_39.1 i_39.2.2 t9 v_69 f1 (fun q a b => (e1 q a (by omega)).2.1)⟩, fun c hc => LOB c hc, (f3 183 rfl).trans ((r_39.1 183 rfl).trans rfl), Or.inl ⟨by omega, by omega, LO9, LO8, by omega, fun q => absurd q (by omega), fun q => ⟨LO20 q, rfl⟩⟩⟩, fun q => absurd q (by rw [← v_39.1]; omega), fun _ q => MI.bankX (v_39.2.2 q).1 t9 v_69 f1 (fun q a b => e1 q a (by omega))⟩⟩
            · refine tz_aload_n (pc := 97) dX12_bank_97 rfl rfl ?_
              refine tz_fR (pc := 98) dX12_bank_98 fl_X12_22 r_164_4 ?_
              refine tz_iload_n (pc := 101) dX12_bank_101 rfl rfl ?_
              refine tz_aload_n (pc := 102) dX12_bank_102 rfl rfl ?_
              refine tz_fR (pc := 103) dX12_bank_103 fl_X12_22 r_164_4 ?_
              refine tz_bipush (pc := 106) dX12_bank_106 (by decide) ?_
              refine tz_iload_n (pc := 108) dX12_bank_108 rfl rfl ?_
              refine tz_iadd (pc := 109) (v := 10 + k) dX12_bank_109 rfl ?_
              refine tz_aL (pc := 110) (z := (10 + k)) (v := (J1 169 (10 + k))) dX12_bank_110 a_169 rfl (by omega) rfl (fun r_110 => ?_)
              refine tz_aS (pc := 111) (z := k) dX12_bank_111 a_169 rfl (by omega) (by omega) ?_
              refine tz_aload_n (pc := 112) dX12_bank_112 rfl rfl ?_
              refine tz_fR (pc := 113) dX12_bank_113 fl_X12_25 r_164_5 ?_
              refine tz_iload_n (pc := 116) dX12_bank_116 rfl rfl ?_
              refine tz_aload_n (pc := 117) dX12_bank_117 rfl rfl ?_
              refine tz_fR (pc := 118) dX12_bank_118 fl_X12_25 r_164_5 ?_
              refine tz_bipush (pc := 121) dX12_bank_121 (by decide) ?_
              refine tz_iload_n (pc := 123) dX12_bank_123 rfl rfl ?_
              refine tz_iadd (pc := 124) (v := 10 + k) dX12_bank_124 rfl ?_
              refine tz_aL (pc := 125) (z := (10 + k)) (v := (J1 170 (10 + k))) dX12_bank_125 a_170 rfl (by omega) rfl (fun r_125 => ?_)
              refine tz_aS (pc := 126) (z := k) dX12_bank_126 a_170 rfl (by omega) (by omega) ?_
              refine tz_aload_n (pc := 127) dX12_bank_127 rfl rfl ?_
              refine tz_fR (pc := 128) dX12_bank_128 fl_X12_28 r_164_6 ?_
              refine tz_iload_n (pc := 131) dX12_bank_131 rfl rfl ?_
              refine tz_aload_n (pc := 132) dX12_bank_132 rfl rfl ?_
              refine tz_fR (pc := 133) dX12_bank_133 fl_X12_28 r_164_6 ?_
              refine tz_bipush (pc := 136) dX12_bank_136 (by decide) ?_
              refine tz_iload_n (pc := 138) dX12_bank_138 rfl rfl ?_
              refine tz_iadd (pc := 139) (v := 10 + k) dX12_bank_139 rfl ?_
              refine tz_aL (pc := 140) (z := (10 + k)) (v := (J1 171 (10 + k))) dX12_bank_140 a_171 rfl (by omega) rfl (fun r_140 => ?_)
              refine tz_aS (pc := 141) (z := k) dX12_bank_141 a_171 rfl (by omega) (by omega) ?_
              refine tz_iinc (pc := 142) (z := k + 1) (L2 := [_, _, _]) dX12_bank_142 rfl (by omega) rfl ?_
              refine tz_goto (pc := 145) (tgt := 91) dX12_bank_145 (by decide) ?_
              exact ih91 (k + 1) _ (by omega) (by omega) (zOf.up rfl (zOf.up rfl (zOf.up rfl f1))) (fun q a b => (Decidable.em (q = k)).elim (fun e => by rw [e]; show (if k = k then J1 169 (10 + k) else J1 169 k) = _ ∧ (if k = k then J1 170 (10 + k) else J1 170 k) = _ ∧ (if k = k then J1 171 (10 + k) else J1 171 k) = _; rw [if_pos rfl, if_pos rfl, if_pos rfl]; exact e2 _ (by omega)) (fun e => by show (if q = k then J1 169 (10 + k) else J1 169 q) = _ ∧ (if q = k then J1 170 (10 + k) else J1 170 q) = _ ∧ (if q = k then J1 171 (10 + k) else J1 171 q) = _; rw [if_neg e, if_neg e, if_neg e]; exact e1 q a (by omega))) (fun q a => by show (if q = k then J1 169 (10 + k) else J1 169 q) = _ ∧ (if q = k then J1 170 (10 + k) else J1 170 q) = _ ∧ (if q = k then J1 171 (10 + k) else J1 171 q) = _; rw [if_neg (by omega), if_neg (by omega), if_neg (by omega)]; exact e2 q a)
        exact loop91 _ 0 _ (Nat.lt_succ_self _) (by omega) zOf.rf (fun q a b => by omega) (fun q a => ⟨congrFun (v_69.1 169 rfl) q, congrFun (v_69.1 170 rfl) q, congrFun (v_69.1 171 rfl) q⟩)
      · refine tz_aload_n (pc := 49) dX12_bank_49 rfl rfl ?_
        refine tz_fR (pc := 50) dX12_bank_50 fl_X12_31 r_164_7 ?_
        refine tz_iconst (pc := 53) dX12_bank_53 ?_
        refine tz_dup2 (pc := 54) dX12_bank_54 rfl rfl ?_
        refine tz_aL (pc := 55) (z := 0) (v := (J_39 172 0)) dX12_bank_55 a_172 rfl (by decide) rfl (fun r_55 => ?_)
        refine tz_iconst (pc := 56) dX12_bank_56 ?_
        refine tz_iadd (pc := 57) (v := (J_39 172 0) + 1) dX12_bank_57 rfl ?_
        refine tz_tw ?_
        have rw_58 := zw_rg ((J_39 172 0) + 1)
        refine tz_aS (pc := 58) (z := 0) dX12_bank_58 a_172 rfl (by decide) (zw_rg _) ?_
        refine tz_aload_n (pc := 59) dX12_bank_59 rfl rfl ?_
        refine tz_fI (pc := 60) (kz := 43) (v := (J_39 164 43)) dX12_bank_60 fl_X12_273 i_164_43 rfl rfl (fun r_60 => ?_)
        exact tz_iret (pc := 63) (z := (J_39 164 43)) dX12_bank_63 rfl (Nat.le_of_ble_eq_true rfl) (Nat.le_of_ble_eq_true rfl) ⟨Nat.le_refl _, Nat.le_add_right _ _⟩ ⟨_, rfl, (by omega), (by have y9 := MBT.rd hI r_39 u9; have z9 : zOf (zbut [172]) ((zup J_39 172 0 (zw ((J_39 172 0) + 1)))) J_39 := zOf.up rfl zOf.rf; exact ⟨⟨⟨m, i_39.1.z (MZ.c (zOf.up rfl zOf.rf : zOf (zbut [172]) _ _) (by decide))⟩, fun c hc => (zup_nc (by omega)).trans (i_39.2.1 c hc), (r_39.1 183 rfl).trans rfl, Or.inl ⟨by omega, by omega, i_39.2.2, g8, v_39.1, fun q => ⟨v_39.2.1 q, g14⟩, fun q => absurd q (by omega)⟩⟩, fun _ => ⟨⟨y9.1.1.x z9, y9.1.2.x z9⟩, y9.2.tr (MFI.x z9)⟩, fun _ q => absurd q (by rw [← v_39.1]; omega)⟩)⟩

end
section
/-! ===== both sides behind a call ===== -/
def BO (J1 J2 : zJ) : Prop := ∃ S n R, CAL J1 S n R ∧ MBT J2 S ∧ MUr J2 n R
theorem CAL.mbt {J S : zJ} {n m : Int} {R : Int → Int → Int} (c : CAL J S n R) (hI : CI J m) (b : MBT J S) : CAL J (tbz J) n R := by
  obtain ⟨⟨⟨E0, E1⟩, e6, E2, E3⟩, W, U⟩ := c
  obtain ⟨⟨b9, bs⟩, b5, b6, b7⟩ := b
  have T := hI.1.1.1.told
  have ts := hI.1.1.1.told
  have hm := hI.1.1.2.1
  have z5 : ∀ k, 0 ≤ k → k < 63 → tbz J 165 k = S 165 k := fun k a c => (show tbz J 165 k = J 165 k from if_pos ⟨a, c⟩).trans (b5 k a c)
  have z0 := z5 0 (by decide) (by decide)
  refine ⟨⟨⟨E0.trans b9.symm, fun k a c => ?_⟩, e6.trans z0.symm, fun t a c => ?_, fun t i a c x y => ?_⟩, W.to hI.1.1.2.2 (fun k a c => z5 k (by omega) c), U⟩
  · have c' : k < J 164 9 := c
    have q := bs k a (by omega)
    obtain ⟨p1, p2, p3⟩ := E1 k a (by omega)
    rw [Int.zero_add] at p1 p2 p3 ⊢
    rw [show tbz J 169 k = J 169 k from if_pos ⟨a, by omega⟩, show tbz J 170 k = J 170 k from if_pos ⟨a, by omega⟩, show tbz J 171 k = J 171 k from if_pos ⟨a, by omega⟩, q.1, q.2.1, q.2.2]
    exact ⟨p1, p2, p3⟩
  · rw [z0] at c
    have q := b6 t a c
    obtain ⟨p1, p2⟩ := E2 t a c
    rw [Int.zero_add] at p1 p2 ⊢
    rw [show tbz J 166 t = J 166 t from if_pos ⟨a, by omega⟩, show tbz J 168 t = J 168 t from if_pos ⟨a, by omega⟩, q.1, q.2]
    exact ⟨p1, p2⟩
  · rw [z0] at c
    have ar := (hI.1.1.1.ar a (by omega)).1
    rw [show tbz J 167 (3 * (0 + t) + i) = J 167 (3 * (0 + t) + i) from if_pos ⟨by omega, by omega⟩, b7 _ (by omega) (by omega)]
    exact E3 t i a c x y
theorem tbz_hi {J1 J : zJ} (f : ∀ c, 164 ≤ c → c < 183 → J1 c = J c) : tbz J1 = tbz J := by
  have e : tb0 J1 = tb0 J := tb0_of (by rw [f 164 (by decide) (by decide)]) (by rw [f 164 (by decide) (by decide)]) (fun k _ _ => by rw [f 165 (by decide) (by decide)]) (fun k _ _ => ⟨by rw [f 166 (by decide) (by decide)], by rw [f 168 (by decide) (by decide)]⟩) (fun k _ _ => by rw [f 167 (by decide) (by decide)]) (fun k _ _ => ⟨by rw [f 169 (by decide) (by decide)], by rw [f 170 (by decide) (by decide)], by rw [f 171 (by decide) (by decide)]⟩)
  show zup (tb0 J1) 164 21 0 = zup (tb0 J) 164 21 0
  rw [e]
theorem al_eq {J : zJ} {n m : Int} {R : Int → Int → Int} (c : CAL J (tbz J) n R) (hI : CI J m) : J 1 3 = J 164 9 ∧ J 6 12 = J 165 0 ∧ J 19 1 = J 165 39 ∧ J 19 4 = J 165 9 ∧ J 19 5 = J 165 26 ∧ J 19 6 = J 165 40 ∧ (∀ v, 0 ≤ v → v < 8 → J 19 (7 + v) + 1 = J 165 (1 + v)) ∧ (∀ k, 0 ≤ k → k < J 164 9 → J 3 k = J 170 k) ∧ m = J 165 0 := by
  obtain ⟨⟨⟨E0, E1⟩, e6, E2, E3⟩, ⟨⟨w1, w2, w3⟩, ⟨w4, _⟩, ⟨w5, _⟩, ⟨w6, _⟩, wv⟩, U⟩ := c
  have ts := hI.1.1.1.told
  have hm := hI.1.1.2.1
  have E0' : J 1 3 = J 164 9 := E0
  have e6' : J 6 12 = J 165 0 := e6
  refine ⟨E0', e6', w1, w4, w5, w6, fun v a b => ?_, fun k a b => ?_, hm.symm.trans e6'⟩
  · rw [wv v a b]
    exact if_pos ⟨by omega, by omega⟩
  · have q := (E1 k a b).2.1
    rw [Int.zero_add] at q
    rw [q]
    exact if_pos ⟨a, by omega⟩
theorem ed_bo {S J1 J2 : zJ} {F : zJ × Int} {n z1 z2 : Int} {R : Int → Int → Int} (x : ED S n R F J1 z1) (y : MED S n R F J2 z2) : z1 = z2 ∧ BO J1 J2 := by
  rcases x with ⟨x1, x2, x3⟩ | ⟨x1, x2, x3⟩ <;> rcases y with ⟨y1, y2, y3, y4⟩ | ⟨y1, y2, y3, y4⟩
  · exact ⟨x2.trans y2.symm, S, n, R, x3, y3, y4⟩
  · exact absurd y1 x1
  · exact absurd x1 y1
  · exact ⟨x2.trans y2.symm, F.1, _, _, x3, y3, y4⟩
theorem bo2 {P Q : Prop} (pq : P ↔ Q) {S J1 J2 : zJ} {F F' : zJ × Int} {n z1 z2 a : Int} {R : Int → Int → Int} (eF : P → F = F') (x : (P ∧ ED S n R F J1 z1) ∨ (¬ P ∧ z1 = a ∧ CAL J1 S n R)) (y : (Q ∧ MED S n R F' J2 z2) ∨ (¬ Q ∧ z2 = a ∧ MBT J2 S ∧ MUr J2 n R)) : z1 = z2 ∧ BO J1 J2 := by
  rcases x with ⟨x1, x2⟩ | ⟨x1, x2, x3⟩ <;> rcases y with ⟨y1, y2⟩ | ⟨y1, y2, y3, y4⟩
  · rw [eF x1] at x2
    exact ed_bo x2 y2
  · exact absurd (pq.1 x1) y1
  · exact absurd (pq.2 y1) x1
  · exact ⟨x2.trans y2.symm, S, n, R, x3, y3, y4⟩
theorem ey_cm {J J1 : zJ} {n m t : Int} {R : Int → Int → Int} (c : CAL J (tbz J) n R) (hI : CI J m) (e : J1 165 = J 165) : eyC J t = eyM J1 t := by
  have w5 := c.2.1.2.2.1
  have l5 := hI.1.1.2.2.1.2.2.1
  have e5 : J 19 5 = J 165 26 := w5.1
  unfold eyC eyM
  rw [e, e5]
  refine fnB_cg (fun k a b => ?_)
  have b' : k < tbz J 165 26 := b
  rw [w5.2 k a b', show tbz J 165 (27 + k) = J 165 (27 + k) from if_pos ⟨by omega, by omega⟩]
/-- rules are rules on both sides -/
theorem cru_ma {J : zJ} {m u t : Int} (E : A0 J (tbz J)) (C : CT J m) (hm : J 6 12 = m) (hu : 0 ≤ u ∧ u < m) (ht : 0 ≤ t ∧ t < m) : mru J 0 0 u t ↔ cru J u t := by
  have T := C.told
  have ts := C.1.1.1
  obtain ⟨⟨e1, e0'⟩, ⟨e6', E2', E3'⟩⟩ := E
  have e1' : J 1 3 = J 164 9 := e1
  have e6 : J 6 12 = J 165 0 := e6'
  have e0 : ∀ k, 0 ≤ k → k < J 164 9 → J 2 k = J 169 (0 + k) ∧ J 3 k = J 170 (0 + k) ∧ J 4 k = J 171 (0 + k) := fun k a b => by
    have q := e0' k a b
    rw [show tbz J 169 (0 + k) = J 169 (0 + k) from if_pos ⟨by omega, by omega⟩, show tbz J 170 (0 + k) = J 170 (0 + k) from if_pos ⟨by omega, by omega⟩, show tbz J 171 (0 + k) = J 171 (0 + k) from if_pos ⟨by omega, by omega⟩] at q
    exact q
  have h6 : ∀ t, 0 ≤ t → t < m → J 166 (0 + t) = J 7 t := fun t a c => by
    have q := (E2' t a (show t < J 165 0 by omega)).1
    rw [show tbz J 166 (0 + t) = J 166 (0 + t) from if_pos ⟨by omega, by omega⟩] at q
    exact q.symm
  have E3 : ∀ t i, 0 ≤ t → t < m → 0 ≤ i → i < J 8 t → J 9 (t * 3 + i) = J 167 (3 * (0 + t) + i) := fun t i a c x y => by
    have ar := (C.ar a c).1
    have q := E3' t i a (show t < J 165 0 by omega) x y
    rw [show tbz J 167 (3 * (0 + t) + i) = J 167 (3 * (0 + t) + i) from if_pos ⟨by omega, by omega⟩] at q
    exact q
  have ha : ∀ t, 0 ≤ t → t < m → mar J 0 0 t = J 8 t := fun t a c => by
    have h7 := (C.ar a c).2.2
    unfold mar
    rw [h6 t a c, (C.2.1 t a c).1.1]
    exact arh_cg (fun q => ((e0 _ q (by omega)).2.1).symm)
  have hg : ∀ t, 0 ≤ t → t < m → ∀ i, 0 ≤ i → i < J 8 t → mag J 0 t i = cag J t i := fun t a c i x y => (E3 t i a c x y).symm
  have hgw : ∀ t, 0 ≤ t → t < m → mgw J 0 0 t = cgw J t := fun t a c => by
    have h7 := (C.ar a c).2.2
    unfold mgw cgw
    rw [h6 t a c]
    split
    · rfl
    · exact ((e0 _ (by omega) (by omega)).2.2).symm
  have hgc : ∀ v t, 0 ≤ t → t < m → mgc J 0 v t = cgc J v t := fun v t a c => by
    unfold mgc cgc
    rw [h6 t a c]
  have hw : ∀ t, 0 ≤ t → t < m → mwt J 0 0 t = cwt J t := fun t a c => sV_cg C.td hgw ha hg 6 t ⟨a, c⟩
  have hc : ∀ v t, 0 ≤ v → v < 8 → 0 ≤ t → t < m → mcn J 0 0 v t = ccn J v t := fun v t _ _ a c => sV_cg C.td (hgc v) ha hg 6 t ⟨a, c⟩
  have td' : TD m (mar J 0 0) (mag J 0) (J 12) := fun t x y => by
    obtain ⟨a, b, c⟩ := C.td t x y
    refine ⟨by rw [ha t x y]; exact a, b, fun i p q => ?_⟩
    rw [ha t x y] at q
    rw [hg t x y i p q]
    exact c i p q
  have hz : ∀ t, 0 ≤ t → t < m → msz J 0 0 t = J 10 t := fun t a c => by
    have h12 := (C.td t a c).2.1
    rw [C.sz ⟨a, c⟩]
    exact (tsz_sS td' 6 t ⟨a, c⟩ (by omega)).trans (sV_cg C.td (fun _ _ _ => rfl) ha hg 6 t ⟨a, c⟩)
  have hx : ∀ s t, 0 ≤ s → s < m → 0 ≤ t → t < m → J 7 s = J 7 t → J 8 s = J 8 t := fun s t a b c d e => by rw [(C.2.1 s a b).1.1, (C.2.1 t c d).1.1, e]
  have hgt := gtP_cg (cn := ccn J) (cn' := mcn J 0 0) (wt := cwt J) (wt' := mwt J 0 0) (hd := J 7) (hd' := fun t => J 166 (0 + t)) C.td hc hw h6 ha hg hx 6 u t hu ht
  unfold mru mgt cru cgt
  rw [h6 u hu.1 hu.2, hz u hu.1 hu.2, hz t ht.1 ht.2]
  exact ⟨fun ⟨a, b, c⟩ => ⟨a, hgt.1 b, c⟩, fun ⟨a, b, c⟩ => ⟨a, hgt.2 b, c⟩⟩
theorem mru_hi {J1 J : zJ} {u t : Int} (f : ∀ c, 164 ≤ c → c < 183 → J1 c = J c) : mru J1 0 0 u t = mru J 0 0 u t := by
  unfold mru mgt msz mwt mcn mgw mgc mag mar
  rw [f 166 (by decide) (by decide), f 167 (by decide) (by decide), f 170 (by decide) (by decide), f 171 (by decide) (by decide)]
theorem b_variable {J J1 J2 : zJ} {n m m2 z1 z2 a : Int} {R : Int → Int → Int} (c0 : CAL J (tbz J) n R) (hI : CI J m) (f : ∀ q, 164 ≤ q → q < 183 → J1 q = J q) (x : (((0 ≤ a ∧ a < 8) ∧ ED (tbz J) n R (tmO (tbz J) (-1 - a) 0 0 0) J1 z1) ∨ (¬ (0 ≤ a ∧ a < 8) ∧ z1 = -1 ∧ CAL J1 (tbz J) n R))) (y : (((0 ≤ a ∧ a < 8) ∧ MED (tbz J1) n R (tmO (tbz J1) (-1 - a) 0 0 0) J2 z2) ∨ (¬ (0 ≤ a ∧ a < 8) ∧ z2 = -1 ∧ MBT J2 (tbz J1) ∧ MUr J2 n R))) : z1 = z2 ∧ BO J1 J2 := by
  obtain ⟨E13, E6, E39, E9, E26, E40, Eb, Ea, Em⟩ := al_eq c0 hI
  rw [tbz_hi f] at y
  exact bo2 Iff.rfl (fun _ => rfl) x y
theorem b_make {J J1 J2 : zJ} {n m m2 z1 z2 a b c d : Int} {R : Int → Int → Int} (c0 : CAL J (tbz J) n R) (hI : CI J m) (f : ∀ q, 164 ≤ q → q < 183 → J1 q = J q) (x : ((((0 ≤ a ∧ a < J 1 3) ∧ (0 < J 3 a → 0 ≤ b ∧ b < J 6 12) ∧ (1 < J 3 a → 0 ≤ c ∧ c < J 6 12) ∧ (2 < J 3 a → 0 ≤ d ∧ d < J 6 12)) ∧ ED (tbz J) n R (tmO (tbz J) a b c d) J1 z1) ∨ (¬ ((0 ≤ a ∧ a < J 1 3) ∧ (0 < J 3 a → 0 ≤ b ∧ b < J 6 12) ∧ (1 < J 3 a → 0 ≤ c ∧ c < J 6 12) ∧ (2 < J 3 a → 0 ≤ d ∧ d < J 6 12)) ∧ z1 = -1 ∧ CAL J1 (tbz J) n R))) (y : ((((0 ≤ a ∧ a < J1 164 9) ∧ (0 < J1 170 a → 0 ≤ b ∧ b < J1 165 0) ∧ (1 < J1 170 a → 0 ≤ c ∧ c < J1 165 0) ∧ (2 < J1 170 a → 0 ≤ d ∧ d < J1 165 0)) ∧ MED (tbz J1) n R (tmO (tbz J1) a b c d) J2 z2) ∨ (¬ ((0 ≤ a ∧ a < J1 164 9) ∧ (0 < J1 170 a → 0 ≤ b ∧ b < J1 165 0) ∧ (1 < J1 170 a → 0 ≤ c ∧ c < J1 165 0) ∧ (2 < J1 170 a → 0 ≤ d ∧ d < J1 165 0)) ∧ z2 = -1 ∧ MBT J2 (tbz J1) ∧ MUr J2 n R))) : z1 = z2 ∧ BO J1 J2 := by
  obtain ⟨E13, E6, E39, E9, E26, E40, Eb, Ea, Em⟩ := al_eq c0 hI
  rw [tbz_hi f] at y
  rw [f 164 (by decide) (by decide), f 170 (by decide) (by decide), f 165 (by decide) (by decide)] at y
  refine bo2 ?_ (fun _ => rfl) x y
  rw [E13, E6]
  refine ⟨fun ⟨q, q0, q1, q2⟩ => ?_, fun ⟨q, q0, q1, q2⟩ => ?_⟩
  · have e := Ea a q.1 q.2
    exact ⟨q, fun w => q0 (by omega), fun w => q1 (by omega), fun w => q2 (by omega)⟩
  · have e := Ea a q.1 q.2
    exact ⟨q, fun w => q0 (by omega), fun w => q1 (by omega), fun w => q2 (by omega)⟩
theorem b_bind {J J1 J2 : zJ} {n m m2 z1 z2 a b : Int} {R : Int → Int → Int} (c0 : CAL J (tbz J) n R) (hI : CI J m) (f : ∀ q, 164 ≤ q → q < 183 → J1 q = J q) (x : ((((0 ≤ a ∧ a < 8) ∧ (b = -1 ∨ (0 ≤ b ∧ b < J 6 12)) ∧ ¬ J 19 (7 + a) = b) ∧ ED (tbz J) n R ((zbd (tbz J) a b, J 19 (7 + a))) J1 z1) ∨ (¬ ((0 ≤ a ∧ a < 8) ∧ (b = -1 ∨ (0 ≤ b ∧ b < J 6 12)) ∧ ¬ J 19 (7 + a) = b) ∧ z1 = -2 ∧ CAL J1 (tbz J) n R))) (y : ((((0 ≤ a ∧ a < 8) ∧ (b = -1 ∨ (0 ≤ b ∧ b < J1 165 0)) ∧ ¬ J1 165 (1 + a) = b + 1) ∧ MED (tbz J1) n R ((zbd (tbz J1) a b, J1 165 (1 + a) - 1)) J2 z2) ∨ (¬ ((0 ≤ a ∧ a < 8) ∧ (b = -1 ∨ (0 ≤ b ∧ b < J1 165 0)) ∧ ¬ J1 165 (1 + a) = b + 1) ∧ z2 = -2 ∧ MBT J2 (tbz J1) ∧ MUr J2 n R))) : z1 = z2 ∧ BO J1 J2 := by
  obtain ⟨E13, E6, E39, E9, E26, E40, Eb, Ea, Em⟩ := al_eq c0 hI
  rw [tbz_hi f] at y
  rw [f 165 (by decide) (by decide)] at y
  refine bo2 ?_ (fun q => ?_) x y
  · rw [E6]
    refine ⟨fun ⟨q, q0, q1⟩ => ?_, fun ⟨q, q0, q1⟩ => ?_⟩
    · have e := Eb a q.1 q.2
      exact ⟨q, q0, by omega⟩
    · have e := Eb a q.1 q.2
      exact ⟨q, q0, by omega⟩
  · have e := Eb a q.1.1 q.1.2
    exact Prod.ext rfl (show J 19 (7 + a) = J 165 (1 + a) - 1 by omega)
theorem b_room {J J1 J2 : zJ} {n m m2 z1 z2 a : Int} {R : Int → Int → Int} (c0 : CAL J (tbz J) n R) (hI : CI J m) (f : ∀ q, 164 ≤ q → q < 183 → J1 q = J q) (x : (((0 ≤ a ∧ a ≤ 9) ∧ ED (tbz J) n R ((zrm (tbz J) a, J 19 1)) J1 z1) ∨ (¬ (0 ≤ a ∧ a ≤ 9) ∧ z1 = -1 ∧ CAL J1 (tbz J) n R))) (y : (((0 ≤ a ∧ a ≤ 9) ∧ MED (tbz J1) n R ((zrm (tbz J1) a, J1 165 39)) J2 z2) ∨ (¬ (0 ≤ a ∧ a ≤ 9) ∧ z2 = -1 ∧ MBT J2 (tbz J1) ∧ MUr J2 n R))) : z1 = z2 ∧ BO J1 J2 := by
  obtain ⟨E13, E6, E39, E9, E26, E40, Eb, Ea, Em⟩ := al_eq c0 hI
  rw [tbz_hi f] at y
  rw [f 165 (by decide) (by decide)] at y
  exact bo2 Iff.rfl (fun _ => by rw [E39]) x y
theorem b_enter {J J1 J2 : zJ} {n m m2 z1 z2 a : Int} {R : Int → Int → Int} (c0 : CAL J (tbz J) n R) (hI : CI J m) (f : ∀ q, 164 ≤ q → q < 183 → J1 q = J q) (x : ((((0 ≤ a ∧ a < J 6 12) ∧ J 19 5 < 12 ∧ eyC J a = J 19 5) ∧ ED (tbz J) n R ((zen (tbz J) 0 a, J 19 5 + 1)) J1 z1) ∨ (¬ ((0 ≤ a ∧ a < J 6 12) ∧ J 19 5 < 12 ∧ eyC J a = J 19 5) ∧ z1 = -1 ∧ CAL J1 (tbz J) n R))) (y : ((((0 ≤ a ∧ a < J1 165 0) ∧ J1 165 26 < 12 ∧ eyM J1 a = J1 165 26) ∧ MED (tbz J1) n R ((zen (tbz J1) 0 a, J1 165 26 + 1)) J2 z2) ∨ (¬ ((0 ≤ a ∧ a < J1 165 0) ∧ J1 165 26 < 12 ∧ eyM J1 a = J1 165 26) ∧ z2 = -1 ∧ MBT J2 (tbz J1) ∧ MUr J2 n R))) : z1 = z2 ∧ BO J1 J2 := by
  obtain ⟨E13, E6, E39, E9, E26, E40, Eb, Ea, Em⟩ := al_eq c0 hI
  rw [tbz_hi f] at y
  rw [← ey_cm (t := a) c0 hI (f 165 (by decide) (by decide)), f 165 (by decide) (by decide)] at y
  refine bo2 ?_ (fun _ => by rw [E26]) x y
  rw [E6, E26]
theorem b_leave {J J1 J2 : zJ} {n m m2 z1 z2 a : Int} {R : Int → Int → Int} (c0 : CAL J (tbz J) n R) (hI : CI J m) (f : ∀ q, 164 ≤ q → q < 183 → J1 q = J q) (x : ((((0 ≤ a ∧ a < J 6 12) ∧ eyC J a < J 19 5) ∧ ED (tbz J) n R ((zlv (tbz J) (eyC J a), J 19 5 - 1)) J1 z1) ∨ (¬ ((0 ≤ a ∧ a < J 6 12) ∧ eyC J a < J 19 5) ∧ z1 = -1 ∧ CAL J1 (tbz J) n R))) (y : ((((0 ≤ a ∧ a < J1 165 0) ∧ eyM J1 a < J1 165 26) ∧ MED (tbz J1) n R ((zlv (tbz J1) (eyM J1 a), J1 165 26 - 1)) J2 z2) ∨ (¬ ((0 ≤ a ∧ a < J1 165 0) ∧ eyM J1 a < J1 165 26) ∧ z2 = -1 ∧ MBT J2 (tbz J1) ∧ MUr J2 n R))) : z1 = z2 ∧ BO J1 J2 := by
  obtain ⟨E13, E6, E39, E9, E26, E40, Eb, Ea, Em⟩ := al_eq c0 hI
  rw [tbz_hi f] at y
  rw [← ey_cm (t := a) c0 hI (f 165 (by decide) (by decide)), f 165 (by decide) (by decide)] at y
  refine bo2 ?_ (fun _ => by rw [E26]) x y
  rw [E6, E26]
theorem b_rules {J J1 J2 : zJ} {n m m2 z1 z2 a b : Int} {R : Int → Int → Int} (c0 : CAL J (tbz J) n R) (hI : CI J m) (f : ∀ q, 164 ≤ q → q < 183 → J1 q = J q) (x : (((J 19 4 < 8 ∧ ((0 ≤ a ∧ a < J 6 12) ∧ (0 ≤ b ∧ b < J 6 12)) ∧ cru J a b) ∧ ED (tbz J) n R ((zru (tbz J) a b, J 19 4 + 1)) J1 z1) ∨ (¬ (J 19 4 < 8 ∧ ((0 ≤ a ∧ a < J 6 12) ∧ (0 ≤ b ∧ b < J 6 12)) ∧ cru J a b) ∧ z1 = -1 ∧ CAL J1 (tbz J) n R))) (y : (((((0 ≤ a ∧ a < J1 165 0) ∧ (0 ≤ b ∧ b < J1 165 0)) ∧ J1 165 9 < 8 ∧ mru J1 0 0 a b) ∧ MED (tbz J1) n R ((zru (tbz J1) a b, J1 165 9 + 1)) J2 z2) ∨ (¬ (((0 ≤ a ∧ a < J1 165 0) ∧ (0 ≤ b ∧ b < J1 165 0)) ∧ J1 165 9 < 8 ∧ mru J1 0 0 a b) ∧ z2 = -1 ∧ MBT J2 (tbz J1) ∧ MUr J2 n R))) : z1 = z2 ∧ BO J1 J2 := by
  obtain ⟨E13, E6, E39, E9, E26, E40, Eb, Ea, Em⟩ := al_eq c0 hI
  rw [tbz_hi f] at y
  rw [mru_hi f, f 165 (by decide) (by decide)] at y
  refine bo2 ?_ (fun _ => by rw [E9]) x y
  have hC := hI.1.1.1
  have hm := hI.1.1.2.1
  rw [E6, E9]
  refine ⟨fun ⟨q, q0, q1⟩ => ⟨q0, q, (cru_ma c0.1 hC hm (by omega) (by omega)).2 q1⟩, fun ⟨q0, q, q1⟩ => ⟨q, q0, (cru_ma c0.1 hC hm (by omega) (by omega)).1 q1⟩⟩
theorem b_apply {J J1 J2 : zJ} {n m m2 z1 z2 a : Int} {R : Int → Int → Int} (c0 : CAL J (tbz J) n R) (hI : CI J m) (f : ∀ q, 164 ≤ q → q < 183 → J1 q = J q) (x : (((0 ≤ a ∧ a < J 6 12) ∧ ED (tbz J) n R (apO (bO (tbz J)) 6 (tbz J) a) J1 z1) ∨ (¬ (0 ≤ a ∧ a < J 6 12) ∧ z1 = -1 ∧ CAL J1 (tbz J) n R))) (y : (((0 ≤ a ∧ a < J1 165 0) ∧ MED (tbz J1) n R (apO (bO (tbz J1)) 6 (tbz J1) a) J2 z2) ∨ (¬ (0 ≤ a ∧ a < J1 165 0) ∧ z2 = -1 ∧ MBT J2 (tbz J1) ∧ MUr J2 n R))) : z1 = z2 ∧ BO J1 J2 := by
  obtain ⟨E13, E6, E39, E9, E26, E40, Eb, Ea, Em⟩ := al_eq c0 hI
  rw [tbz_hi f] at y
  rw [f 165 (by decide) (by decide)] at y
  exact bo2 (by rw [E6]) (fun _ => rfl) x y
theorem b_draw {J J1 J2 : zJ} {n m m2 z1 z2 a b : Int} {R : Int → Int → Int} (c0 : CAL J (tbz J) n R) (hI : CI J m) (f : ∀ q, 164 ≤ q → q < 183 → J1 q = J q) (x : (((1 ≤ b ∧ b ≤ 4) ∧ ED (tbz J) n R (drO b.toNat (tbz J) a).1 J1 z1) ∨ (¬ (1 ≤ b ∧ b ≤ 4) ∧ z1 = -1 ∧ CAL J1 (tbz J) n R))) (y : (((1 ≤ b ∧ b ≤ 4) ∧ MED (tbz J1) n R (drO b.toNat (tbz J1) a).1 J2 z2) ∨ (¬ (1 ≤ b ∧ b ≤ 4) ∧ z2 = -1 ∧ MBT J2 (tbz J1) ∧ MUr J2 n R))) : z1 = z2 ∧ BO J1 J2 := by
  obtain ⟨E13, E6, E39, E9, E26, E40, Eb, Ea, Em⟩ := al_eq c0 hI
  rw [tbz_hi f] at y
  exact bo2 Iff.rfl (fun _ => rfl) x y
theorem b_put {J J1 J2 : zJ} {n m m2 z1 z2 a b c : Int} {R : Int → Int → Int} (c0 : CAL J (tbz J) n R) (hI : CI J m) (f : ∀ q, 164 ≤ q → q < 183 → J1 q = J q) (x : ((((0 ≤ a ∧ a < J 6 12) ∧ (0 ≤ c ∧ c < J 6 12) ∧ 0 ≤ b ∧ b < msz (tbz J) 0 0 a) ∧ ED (tbz J) n R (puO c 6 (tbz J) a b) J1 z1) ∨ (¬ ((0 ≤ a ∧ a < J 6 12) ∧ (0 ≤ c ∧ c < J 6 12) ∧ 0 ≤ b ∧ b < msz (tbz J) 0 0 a) ∧ z1 = -1 ∧ CAL J1 (tbz J) n R))) (y : ((((0 ≤ a ∧ a < J1 165 0) ∧ (0 ≤ c ∧ c < J1 165 0) ∧ 0 ≤ b ∧ b < msz (tbz J1) 0 0 a) ∧ MED (tbz J1) n R (puO c 6 (tbz J1) a b) J2 z2) ∨ (¬ ((0 ≤ a ∧ a < J1 165 0) ∧ (0 ≤ c ∧ c < J1 165 0) ∧ 0 ≤ b ∧ b < msz (tbz J1) 0 0 a) ∧ z2 = -1 ∧ MBT J2 (tbz J1) ∧ MUr J2 n R))) : z1 = z2 ∧ BO J1 J2 := by
  obtain ⟨E13, E6, E39, E9, E26, E40, Eb, Ea, Em⟩ := al_eq c0 hI
  rw [tbz_hi f] at y
  rw [f 165 (by decide) (by decide)] at y
  exact bo2 (by rw [E6]) (fun _ => rfl) x y
theorem b_undo {J J1 J2 : zJ} {n m m2 z1 z2 : Int} {R : Int → Int → Int} (c0 : CAL J (tbz J) n R) (hI : CI J m) (f : ∀ q, 164 ≤ q → q < 183 → J1 q = J q) (x : ((n = 0 ∧ z1 = -1 ∧ CAL J1 (tbz J) n R) ∨ (0 < n ∧ z1 = n - 1 ∧ CAL J1 (zun (tbz J) (R (n - 1))) (n - 1) R))) (y : ((n = 0 ∧ z2 = -1 ∧ MBT J2 (tbz J1) ∧ MUr J2 n R) ∨ (0 < n ∧ z2 = n - 1 ∧ MBT J2 (zun (tbz J1) (R (n - 1))) ∧ MUr J2 (n - 1) R))) : z1 = z2 ∧ BO J1 J2 := by
  obtain ⟨E13, E6, E39, E9, E26, E40, Eb, Ea, Em⟩ := al_eq c0 hI
  rw [tbz_hi f] at y
  rcases x with ⟨x1, x2, x3⟩ | ⟨x1, x2, x3⟩ <;> rcases y with ⟨y1, y2, y3, y4⟩ | ⟨y1, y2, y3, y4⟩
  · exact ⟨x2.trans y2.symm, _, _, _, x3, y3, y4⟩
  · omega
  · omega
  · exact ⟨x2.trans y2.symm, _, _, _, x3, y3, y4⟩
theorem b_match {J J1 J2 : zJ} {n m m2 z1 z2 a b : Int} {R : Int → Int → Int} (c0 : CAL J (tbz J) n R) (hI : CI J m) (f : ∀ q, 164 ≤ q → q < 183 → J1 q = J q) (x : ((((0 ≤ a ∧ a < J 6 12) ∧ (0 ≤ b ∧ b < J 6 12)) ∧ (omt (tbz J) a b).1 = true ∧ ED (tbz J) n R (zmt (tbz J) (omt (tbz J) a b).2, 1) J1 z1) ∨ (((0 ≤ a ∧ a < J 6 12) ∧ (0 ≤ b ∧ b < J 6 12)) ∧ (omt (tbz J) a b).1 = false ∧ z1 = 0 ∧ CAL J1 (tbz J) n R) ∨ (¬ ((0 ≤ a ∧ a < J 6 12) ∧ (0 ≤ b ∧ b < J 6 12)) ∧ z1 = -1 ∧ CAL J1 (tbz J) n R))) (y : ((((0 ≤ a ∧ a < J1 165 0) ∧ (0 ≤ b ∧ b < J1 165 0)) ∧ (omt (tbz J1) a b).1 = true ∧ MED (tbz J1) n R (zmt (tbz J1) (omt (tbz J1) a b).2, 1) J2 z2) ∨ (((0 ≤ a ∧ a < J1 165 0) ∧ (0 ≤ b ∧ b < J1 165 0)) ∧ (omt (tbz J1) a b).1 = false ∧ z2 = 0 ∧ MBT J2 (tbz J1) ∧ MUr J2 n R) ∨ (¬ ((0 ≤ a ∧ a < J1 165 0) ∧ (0 ≤ b ∧ b < J1 165 0)) ∧ z2 = -1 ∧ MBT J2 (tbz J1) ∧ MUr J2 n R))) : z1 = z2 ∧ BO J1 J2 := by
  obtain ⟨E13, E6, E39, E9, E26, E40, Eb, Ea, Em⟩ := al_eq c0 hI
  rw [tbz_hi f] at y
  rw [f 165 (by decide) (by decide)] at y
  rw [E6] at x
  rcases x with ⟨x0, x1, x2⟩ | ⟨x0, x1, x2, x3⟩ | ⟨x0, x2, x3⟩ <;> rcases y with ⟨y0, y1, y2⟩ | ⟨y0, y1, y2, y3, y4⟩ | ⟨y0, y2, y3, y4⟩
  · exact ed_bo x2 y2
  · rw [x1] at y1; cases y1
  · exact absurd x0 y0
  · rw [x1] at y1; cases y1
  · exact ⟨x2.trans y2.symm, _, _, _, x3, y3, y4⟩
  · exact absurd x0 y0
  · exact absurd y0 x0
  · exact absurd y0 x0
  · exact ⟨x2.trans y2.symm, _, _, _, x3, y3, y4⟩
theorem b_close {J J1 J2 : zJ} {n m m2 z1 z2 a : Int} {R : Int → Int → Int} (c0 : CAL J (tbz J) n R) (hI : CI J m) (f : ∀ q, 164 ≤ q → q < 183 → J1 q = J q) (x : (((0 ≤ a ∧ a < J 6 12) ∧ NRb (tbz J) (bO (tbz J)) a ∧ ED (tbz J) n R (cloF (tbz J) a) J1 z1) ∨ ((0 ≤ a ∧ a < J 6 12) ∧ ¬ NRb (tbz J) (bO (tbz J)) a ∧ z1 = -2 ∧ CAL J1 (tbz J) n R) ∨ (¬ (0 ≤ a ∧ a < J 6 12) ∧ z1 = -1 ∧ CAL J1 (tbz J) n R))) (y : (((0 ≤ a ∧ a < J1 165 0) ∧ NRb (tbz J1) (bO (tbz J1)) a ∧ MED (tbz J1) n R (cloF (tbz J1) a) J2 z2) ∨ ((0 ≤ a ∧ a < J1 165 0) ∧ ¬ NRb (tbz J1) (bO (tbz J1)) a ∧ z2 = -2 ∧ MBT J2 (tbz J1) ∧ MUr J2 n R) ∨ (¬ (0 ≤ a ∧ a < J1 165 0) ∧ z2 = -1 ∧ MBT J2 (tbz J1) ∧ MUr J2 n R))) : z1 = z2 ∧ BO J1 J2 := by
  obtain ⟨E13, E6, E39, E9, E26, E40, Eb, Ea, Em⟩ := al_eq c0 hI
  rw [tbz_hi f] at y
  rw [f 165 (by decide) (by decide)] at y
  rw [E6] at x
  rcases x with ⟨x0, x1, x2⟩ | ⟨x0, x1, x2, x3⟩ | ⟨x0, x2, x3⟩ <;> rcases y with ⟨y0, y1, y2⟩ | ⟨y0, y1, y2, y3, y4⟩ | ⟨y0, y2, y3, y4⟩
  · exact ed_bo x2 y2
  · exact absurd x1 y1
  · exact absurd x0 y0
  · exact absurd y1 x1
  · exact ⟨x2.trans y2.symm, _, _, _, x3, y3, y4⟩
  · exact absurd x0 y0
  · exact absurd y0 x0
  · exact absurd y0 x0
  · exact ⟨x2.trans y2.symm, _, _, _, x3, y3, y4⟩
end
section
/-! ===== both sides: common ===== -/
theorem b_common {J J1 J2 : zJ} {n m m2 z1 z2 a b : Int} {R : Int → Int → Int} (c0 : CAL J (tbz J) n R) (hI : CI J m) (f : ∀ q, 164 ≤ q → q < 183 → J1 q = J q) (x : ((((0 ≤ a ∧ a < J 6 12) ∧ (0 ≤ b ∧ b < J 6 12)) ∧ (cpO 6 (tbz J) [] a b).2 = true ∧ ED (tbz J) n R (coO (cpO 6 (tbz J) [] a b).1 6 (tbz J) a b) J1 z1) ∨ (((0 ≤ a ∧ a < J 6 12) ∧ (0 ≤ b ∧ b < J 6 12)) ∧ (cpO 6 (tbz J) [] a b).2 = false ∧ z1 = -2 ∧ CAL J1 (tbz J) n R) ∨ (¬ ((0 ≤ a ∧ a < J 6 12) ∧ (0 ≤ b ∧ b < J 6 12)) ∧ z1 = -1 ∧ CAL J1 (tbz J) n R))) (y : ((((0 ≤ a ∧ a < J1 165 0) ∧ (0 ≤ b ∧ b < J1 165 0)) ∧ MCO (tbz J1) n R a b J2 z2) ∨ (¬ ((0 ≤ a ∧ a < J1 165 0) ∧ (0 ≤ b ∧ b < J1 165 0)) ∧ z2 = -1 ∧ MBT J2 (tbz J1) ∧ MUr J2 n R))) : BO J1 J2 := by
  obtain ⟨E13, E6, E39, E9, E26, E40, Eb, Ea, Em⟩ := al_eq c0 hI
  rw [tbz_hi f] at y
  rw [f 165 (by decide) (by decide)] at y
  rw [E6] at x
  rcases x with ⟨x0, x1, x2⟩ | ⟨x0, x1, x2, x3⟩ | ⟨x0, x2, x3⟩ <;> rcases y with ⟨y0, ⟨y1, y2⟩ | ⟨y1, y2, y3, y4⟩⟩ | ⟨y0, y2, y3, y4⟩
  · exact (ed_bo x2 y2).2
  · rw [x1] at y1; cases y1
  · exact absurd x0 y0
  · rw [x1] at y1; cases y1
  · exact ⟨_, _, _, x3, y3, y4⟩
  · exact absurd x0 y0
  · exact absurd y0 x0
  · exact absurd y0 x0
  · exact ⟨_, _, _, x3, y3, y4⟩
end
section
/-! ===== both sides: unify ===== -/
theorem b_unify {J J1 J2 : zJ} {n m m2 z1 z2 a b : Int} {R : Int → Int → Int} (c0 : CAL J (tbz J) n R) (hI : CI J m) (f : ∀ q, 164 ≤ q → q < 183 → J1 q = J q) {s0 : Int} (hM : MS J 0 0 0 s0 m2) (x : ((((0 ≤ a ∧ a < J 6 12) ∧ (0 ≤ b ∧ b < J 6 12)) ∧ UEX (tbz J) m a b ∧ NRQ (tbz J) m a b ∧ ∃ ρ bs, GSOL (tbz J) m a b ρ ∧ (∀ v, 0 ≤ v → v < 8 → (bt bs v ↔ Occ (tbz J) 0 0 a v ∨ Occ (tbz J) 0 0 b v)) ∧ ED (tbz J) n R (bnO ρ bs (tbz J) 8, 1) J1 z1) ∨ (((0 ≤ a ∧ a < J 6 12) ∧ (0 ≤ b ∧ b < J 6 12)) ∧ ¬ UEX (tbz J) m a b ∧ z1 = 0 ∧ CAL J1 (tbz J) n R) ∨ (((0 ≤ a ∧ a < J 6 12) ∧ (0 ≤ b ∧ b < J 6 12)) ∧ UEX (tbz J) m a b ∧ ¬ NRQ (tbz J) m a b ∧ z1 = 2 ∧ CAL J1 (tbz J) n R) ∨ (¬ ((0 ≤ a ∧ a < J 6 12) ∧ (0 ≤ b ∧ b < J 6 12)) ∧ z1 = -1 ∧ CAL J1 (tbz J) n R))) (y : ((((0 ≤ a ∧ a < J1 165 0) ∧ (0 ≤ b ∧ b < J1 165 0)) ∧ UEX (tbz J1) m2 a b ∧ NRQ (tbz J1) m2 a b ∧ ∃ ρ bs, GSOL (tbz J1) m2 a b ρ ∧ (∀ v, 0 ≤ v → v < 8 → (bt bs v ↔ Occ (tbz J1) 0 0 a v ∨ Occ (tbz J1) 0 0 b v)) ∧ MED (tbz J1) n R (bnO ρ bs (tbz J1) 8, 1) J2 z2) ∨ (((0 ≤ a ∧ a < J1 165 0) ∧ (0 ≤ b ∧ b < J1 165 0)) ∧ ¬ UEX (tbz J1) m2 a b ∧ z2 = 0 ∧ MBT J2 (tbz J1) ∧ MUr J2 n R) ∨ (((0 ≤ a ∧ a < J1 165 0) ∧ (0 ≤ b ∧ b < J1 165 0)) ∧ UEX (tbz J1) m2 a b ∧ ¬ NRQ (tbz J1) m2 a b ∧ z2 = 2 ∧ MBT J2 (tbz J1) ∧ MUr J2 n R) ∨ (¬ ((0 ≤ a ∧ a < J1 165 0) ∧ (0 ≤ b ∧ b < J1 165 0)) ∧ z2 = -1 ∧ MBT J2 (tbz J1) ∧ MUr J2 n R))) : z1 = z2 ∧ BO J1 J2 := by
  obtain ⟨E13, E6, E39, E9, E26, E40, Eb, Ea, Em⟩ := al_eq c0 hI
  rw [tbz_hi f] at y
  rw [f 165 (by decide) (by decide)] at y
  rw [E6] at x
  have hm2 : m2 = m := by rw [Em]; exact hM.2.2.2.2.1.symm
  subst hm2
  rcases x with ⟨x0, xu, xn, ρ1, b1, g1, h1, x2⟩ | ⟨x0, xu, x2, x3⟩ | ⟨x0, xu, xn, x2, x3⟩ | ⟨x0, x2, x3⟩ <;> rcases y with ⟨y0, yu, yn, ρ2, b2, g2, h2, y2⟩ | ⟨y0, yu, y2, y3, y4⟩ | ⟨y0, yu, yn, y2, y3, y4⟩ | ⟨y0, y2, y3, y4⟩
  · have s9 := (sol_eq g1 g2 xu (by have t := hM.told; omega) hM.2.2.2.2.1 (tbz_V hM) (tbz_u hM) (fun v p q => (h1 v p q).trans (h2 v p q).symm) (tbz_n hM (by omega) (by omega) h1) 8 (by decide)).1
    rw [s9] at x2
    exact ed_bo x2 y2
  · exact absurd xu yu
  · exact absurd xn yn
  · exact absurd x0 y0
  · exact absurd yu xu
  · exact ⟨x2.trans y2.symm, _, _, _, x3, y3, y4⟩
  · exact absurd yu xu
  · exact absurd x0 y0
  · exact absurd yn xn
  · exact absurd xu yu
  · exact ⟨x2.trans y2.symm, _, _, _, x3, y3, y4⟩
  · exact absurd x0 y0
  · exact absurd y0 x0
  · exact absurd y0 x0
  · exact absurd y0 x0
  · exact ⟨x2.trans y2.symm, _, _, _, x3, y3, y4⟩
end
section
/-! ===== both sides: normal ===== -/
theorem b_normal {J J1 J2 : zJ} {n m m2 z1 z2 a : Int} {R : Int → Int → Int} (c0 : CAL J (tbz J) n R) (hI : CI J m) (f : ∀ q, 164 ≤ q → q < 183 → J1 q = J q) (x : (((0 ≤ a ∧ a < J 6 12) ∧ ((nFN (tbz J) 0 a).2.1 = [] → NRE (tbz J) n R (nFN (tbz J) 0 a) J1 z1)) ∨ (¬ (0 ≤ a ∧ a < J 6 12) ∧ z1 = -1 ∧ CAL J1 (tbz J) n R))) (y : (((0 ≤ a ∧ a < J1 165 0) ∧ MRE (tbz J1) n R (nFN (tbz J1) 0 a) J2 z2) ∨ (¬ (0 ≤ a ∧ a < J1 165 0) ∧ z2 = -1 ∧ MBT J2 (tbz J1) ∧ MUr J2 n R))) : z1 = z2 ∧ BO J1 J2 := by
  obtain ⟨E13, E6, E39, E9, E26, E40, Eb, Ea, Em⟩ := al_eq c0 hI
  rw [tbz_hi f] at y
  generalize nFN (tbz J) 0 a = c at x y
  rw [f 165 (by decide) (by decide)] at y
  rw [E6] at x
  rcases x with ⟨x0, x1⟩ | ⟨x0, x2, x3⟩ <;> rcases y with ⟨y0, yf, y1⟩ | ⟨y0, y2, y3, y4⟩
  · rcases x1 yf with ⟨p1, p2, p3⟩ | ⟨p1, p2, p3⟩ | ⟨p1, p2, p3⟩ <;> rcases y1 with ⟨q1, q2, ⟨q3, _⟩, q4⟩ | ⟨q1, q2, q3, q4⟩ | ⟨q1, q2, q3, q4⟩
    · exact ⟨p2.trans q2.symm, _, _, _, p3, q3, q4⟩
    · omega
    · omega
    · omega
    · exact ⟨p2.trans q2.symm, _, _, _, p3, q3, q4⟩
    · omega
    · omega
    · omega
    · exact ⟨p2.trans q2.symm, _, _, _, p3, q3, q4⟩
  · exact absurd x0 y0
  · exact absurd y0 x0
  · exact ⟨x2.trans y2.symm, _, _, _, x3, y3, y4⟩
end
section
/-! THE CLAIM OUT OF ONE WALK OF THE LAW'S BODY. Your part is whole_start (and what it stands on); all else here is the same for every law, but numbers. -/
def R_law : String := "TermBankLaw"
def lw_P (b : Addr) (xs : List Int32) (args : Array Value) (s : State) : Prop := args = #[.ref b] ∧ s.IntsAt b xs ∧ xs.length ≤ 3072 ∧ (Jvm.Cond.and given_1 narrow_1).before args s = true
def lw_Q (_ : Array Value) (s : State) (o : Outcome) (t : State) : Prop := o = .returned (some (.int 1)) ∧ Framed s o t [] 601024 7293034
def lw_Z (below : List Frame) (a : Array Value) (s : State) : State → Prop := fun t => ∃ o, t.status = .running ∧ Ended t below o ∧ lw_Q a s o t
/-- the law's own end, with 1 on the stack, nothing written that was there before, its room as the claim has it -/
theorem lw_ret {p : Program} {l : Launch} {e : Env} {s : State} {m : MethodId} {below : List Frame} {meth : Method} {c : Code} {b : Nat} (hx : p.tables.exec = Jvm.exec) (hb : c.code = code) (hr : meth.sig.returnType = ret) (hlocks : meth.locks = false) {pc : Nat} {H : Heap} {ls : Array Slot} (hdg : decode code pc = .ok (.ireturn, 1)) : W p l e room_1 s m #[Value.ref b] below meth c H [] 601024 7293034 (lw_Z below #[Value.ref b] s) (F0 m pc ls [.int 1]) := by
  intro T hT X
  obtain ⟨fs, hret, hrun, hended, hW, hframe⟩ := X.leave (v := some (.int 1)) (hlocks := hlocks) (fun h => by rw [hr] at h; cases h)
  have hmeth' : T.vm.method? m = some meth := X.method'
  refine ⟨T.setFrames fs, ?_, .returned (some (.int 1)), hrun, hended, rfl, ⟨_, rfl⟩, hW, hframe⟩
  jvm_step X.here [X.here.top, hx, hb, hdg, hmeth', hr, ret, narrow_b1]
  (try refine ⟨rfl, ?_⟩); (try refine ⟨rfl, ?_⟩)
  first | (intro acts; rw [hret _ acts rfl rfl rfl]) | rw [hret _ _ rfl rfl rfl]
  exact Steps.refl _
/-- what holds at the law's entry: the machine, the code, the tables' words (any of lw_tbl by 'hts w (by decide +kernel)'), the script of L ints xs at the cell b, what the Statement gives of the start (any of its parts by flat_of_before) -/
def lw_At (p : Program) (s : State) (m : MethodId) (meth : Method) (c : Code) (b L : Nat) (xs : Nat → Int32) : Prop :=
  p.tables.exec = Jvm.exec ∧ c.code = code ∧ meth.sig.returnType = ret ∧ c.maxLocals = 7 ∧ s.vm.findClass R_law = some m.cls ∧ (∀ w ∈ lw_tbl, w.before #[Value.ref b] s = true) ∧ va_X b L xs s s.heap ∧ b < s.heap.size ∧ meth.locks = false ∧ meth.name = x.name ∧ (∀ z ∈ c.exceptionTable.toList, False) ∧ (Jvm.Cond.and given_1 narrow_1).before #[Value.ref b] s = true
/-! ===== from the law's entry into the world by numbers ===== -/
def M_L_law : tb_Mt := (x, code, 7, ret, [])
def tb_cond (K : tb_CT) : Prop := (∃ b, K.2.1 = #[Value.ref b]) ∧ ∀ q, K.2.2.2.1 q → K.1.heap.size ≤ q
def tb_LZ : tb_CT → State → Prop := fun K t => tb_cond K → lw_Z K.2.2.1 K.2.1 K.1 t
theorem tb_lret {l : Launch} {G : tb_G} {xt : Option (Nat × (Nat → Int32))} {k1 k2 n : Nat} {sh : Nat → tb_Sh} {I : tb_I} {pc : Nat} {L : List (Option Value)} (hd : decode code pc = .ok (.ireturn, 1)) (h1 : k1 ≤ 601024) (h2 : k2 ≤ 7293034) : tb_At l G M_L_law room_1 xt tb_LZ k1 k2 n sh I pc L [.int 1] := by
  intro ok p e s m args below meth c A adr0 n0 bx C H locs adr ls ha hP hD hS hl
  by_cases hc : tb_cond (s, args, below, A, adr0, n0)
  · obtain ⟨⟨b, hb⟩, hA⟩ := id hc
    have hb' : args = #[Value.ref b] := hb
    subst hb'
    have h9 : W p l e room_1 s m #[Value.ref b] below meth c H locs k1 k2 (lw_Z below #[Value.ref b] s) (F0 m pc ls [.int 1]) :=
      W.widen h1 h2 (va_forget (fun q hq => hA _ (hS.2.2 q hq)) (lw_ret C.1 C.2.1 C.2.2.2.1 C.2.2.2.2.1 hd))
    intro T hT X
    obtain ⟨t, a1, b1⟩ := h9 T hT X
    exact ⟨t, a1, fun _ => b1⟩
  · intro T hT X
    exact ⟨_, Steps.refl _, fun h => absurd h hc⟩
theorem tb_strs_in : ∀ q ∈ tb_strs, Cond.stringRef q.1 q.2.1 q.2.2 ∈ lw_tbl := by decide +kernel
theorem tb_casts_in : ∀ q ∈ tb_casts, Cond.castable q.1 q.2 ∈ lw_tbl := by decide +kernel
theorem tb_nocs_in : ∀ q ∈ tb_nocs, Cond.not (.castable q.1 q.2) ∈ flatC (Jvm.Cond.and given_1 narrow_1) := by decide +kernel
theorem tb_decls_in : ∀ q ∈ tb_decls, Cond.declares q ∈ lw_tbl := by decide +kernel
theorem tb_nest_in : Cond.methodLinkNest "TermBank" 9 yX8_init "TermBank" ∈ lw_tbl := by decide +kernel
theorem tb_over_in : Cond.arrayOver (.array .int) ∈ lw_tbl := by decide +kernel
theorem tb_lays1 : Cond.laysStatic Bundle.tN "UNASSIGNED_STACK" Bundle.steD ∈ lw_tbl := by decide +kernel
theorem tb_lays2 : Cond.laysStatic Bundle.tN "SUPPRESSED_SENTINEL" Bundle.listD ∈ lw_tbl := by decide +kernel
theorem tb_iniT : Cond.initialized Bundle.tN ∈ lw_tbl := by decide +kernel
theorem tb_ref1 : Cond.isRef (.static Bundle.tN "UNASSIGNED_STACK" Bundle.steD) ∈ flatC (Jvm.Cond.and given_1 narrow_1) := by decide +kernel
theorem tb_ref2 : Cond.isRef (.static Bundle.tN "SUPPRESSED_SENTINEL" Bundle.listD) ∈ flatC (Jvm.Cond.and given_1 narrow_1) := by decide +kernel
theorem tb_str_of {own tx : String} {k : Nat} {args : Array Value} {s : State} (h : (Cond.stringRef own k tx).before args s = true) : ∃ sa, vk_R own k tx sa s := by
  have h0 : (Cond.stringRef own k tx).holds args s none s [] = true := h
  cases hcur : s.vm.findClass own with
  | none => simp [Cond.holds, Cond.value, hcur] at h0
  | some cur =>
    obtain ⟨k9, cf, i, a, -, -, -, -, -, h6⟩ := Cond.stringRef_spec hcur h0
    exact ⟨a, h, h6⟩
theorem tb_arr_of {ty : FieldType} {args : Array Value} {s : State} (h : (Cond.arrayClass ty).before args s = true) : ∃ c : ClassId, ArrOfT s c ty ∧ s.vm.findClass ("[" ++ ty.toString) = some c := by
  obtain ⟨c, k, comp, h1, h2, h3⟩ := Cond.arrayClass_spec (show (Cond.arrayClass ty).holds args s none s [] = true from h)
  exact ⟨c, fun n z => ⟨fun k h => (by cases h), k, h2, comp, h3⟩, h1⟩
theorem tb_sx1 : ∀ q ∈ tb_rs, Cond.stringRef "TermBank$Reader" q.1 q.2.1 ∈ lw_tbl := by decide +kernel
theorem tb_sx2 : ∀ q ∈ tb_rs, Cond.exactly (.string "TermBank$Reader" q.1) "java/lang/String" ∈ flatC (Jvm.Cond.and given_1 narrow_1) := by decide +kernel
theorem tb_sx3 : ∀ q ∈ tb_rs, Cond.eq (.field (.string "TermBank$Reader" q.1) "java/lang/String" "coder" "B") (.int 0) ∈ flatC (Jvm.Cond.and given_1 narrow_1) := by decide +kernel
theorem tb_sx4 : ∀ q ∈ tb_rs, Cond.arrayOf (.field (.string "TermBank$Reader" q.1) "java/lang/String" "value" "[B") .byte ∈ flatC (Jvm.Cond.and given_1 narrow_1) := by decide +kernel
theorem tb_sx5 : ∀ q ∈ tb_rs, Cond.eq (.length (.field (.string "TermBank$Reader" q.1) "java/lang/String" "value" "[B")) (.int (Int32.ofNat q.2.2.length)) ∈ flatC (Jvm.Cond.and given_1 narrow_1) := by decide +kernel
theorem tb_sx6 : ∀ q ∈ tb_rs, ∀ j ∈ List.range q.2.2.length, Cond.eq (.elem (.field (.string "TermBank$Reader" q.1) "java/lang/String" "value" "[B") (.int (Int32.ofNat j))) (.int (q.2.2.getD j 0)) ∈ flatC (Jvm.Cond.and given_1 narrow_1) := by decide +kernel
theorem tb_sx7 : (∀ q ∈ tb_rs, q.2.2.length < 2 ^ 31) := by decide +kernel
theorem tb_sy1 : Cond.laysStatic "java/lang/String" "COMPACT_STRINGS" "Z" ∈ lw_tbl := by decide +kernel
theorem tb_sy2 : Cond.initialized "java/lang/String" ∈ lw_tbl := by decide +kernel
theorem tb_sy3 : Cond.eq (.static "java/lang/String" "COMPACT_STRINGS" "Z") (.int 1) ∈ flatC (Jvm.Cond.and given_1 narrow_1) := by decide +kernel
theorem tb_sz1 : Cond.laysStatic "TermBankModel" "KNOWN" "[B" ∈ lw_tbl := by decide +kernel
theorem tb_sz2 : Cond.initialized "TermBankModel" ∈ lw_tbl := by decide +kernel
theorem tb_sz3 : Cond.arrayOf (.static "TermBankModel" "KNOWN" "[B") .byte ∈ flatC (Jvm.Cond.and given_1 narrow_1) := by decide +kernel
theorem tb_sz4 : Cond.eq (.length (.static "TermBankModel" "KNOWN" "[B")) (.int (Int32.ofNat 31)) ∈ flatC (Jvm.Cond.and given_1 narrow_1) := by decide +kernel
theorem tb_sz5 : ∀ j ∈ List.range 31, Cond.eq (.elem (.static "TermBankModel" "KNOWN" "[B") (.int (Int32.ofNat j))) (.int (tb_kn.getD j 0)) ∈ flatC (Jvm.Cond.and given_1 narrow_1) := by decide +kernel
theorem tb_sw1 : Cond.laysStatic "jdk/internal/util/Preconditions" "SIOOBE_FORMATTER" "Ljava/util/function/BiFunction;" ∈ lw_tbl := by decide +kernel
theorem tb_sw2 : Cond.initialized "jdk/internal/util/Preconditions" ∈ lw_tbl := by decide +kernel
theorem tb_sw3 : Cond.isRef (.static "jdk/internal/util/Preconditions" "SIOOBE_FORMATTER" "Ljava/util/function/BiFunction;") ∈ flatC (Jvm.Cond.and given_1 narrow_1) := by decide +kernel
theorem tb_SX0 {s : State} {b : Nat} {A : Nat → Prop} (hts : ∀ w ∈ lw_tbl, w.before #[Value.ref b] s = true) (hs : ∀ w ∈ flatC (Jvm.Cond.and given_1 narrow_1), w.before #[Value.ref b] s = true) (hA : ∀ a : Nat, a < s.heap.size → ¬ A a) : tb_SX A s s.heap := by
  refine ⟨fun q hq => ?_, va_Zof (hts _ tb_sy1) (hts _ tb_sy2) (va_eqt (hs _ tb_sy3)) hA, ?_⟩
  · obtain ⟨adK, adV, h1, h2⟩ := vk_Sof (args := #[Value.ref b]) (s := s) (N := 1) (tm := fun _ => .string "TermBank$Reader" q.1) (len := [q.2.2.length]) (byt := [q.2.2]) (A := A) (fun i hi => by obtain rfl : i = 0 := (by omega); exact tb_sx7 q hq) (fun i _ => hs _ (tb_sx2 q hq)) (fun i _ => hs _ (tb_sx3 q hq)) (fun i _ => hs _ (tb_sx4 q hq)) (fun i hi => by
      obtain rfl : i = 0 := by omega
      exact hs _ (tb_sx5 q hq)) (fun i hi j hj => by
      obtain rfl : i = 0 := by omega
      exact hs _ (tb_sx6 q hq j (List.mem_range.mpr hj))) (fun i j hi hj h => absurd (show i = j by omega) h) hA
    have e1 : vk_S 1 [q.2.2.length] [q.2.2] (fun _ => adK 0) (fun _ => adV 0) A s s.heap := ⟨fun i hi => by
      obtain rfl : i = 0 := by omega
      exact h1.1 0 (by decide), fun i j hi hj _ => by omega⟩
    exact ⟨adK 0, adV 0, vk_R.of (hts _ (tb_sx1 q hq)) (h2 0 (by decide)), e1⟩
  · obtain ⟨t, h1, h2⟩ := va_Tof (args := #[Value.ref b]) (s := s) (tm := .static "TermBankModel" "KNOWN" "[B") (ty := .byte) (N := 31) (f := fun j => .int (tb_kn.getD j 0)) (A := A) (by decide) (hs _ tb_sz3) (va_eqt (hs _ tb_sz4)) (fun j hj => va_eqt (hs _ (tb_sz5 j (List.mem_range.mpr hj)))) hA
    exact ⟨t, va_Zof (hts _ tb_sz1) (hts _ tb_sz2) h1 hA, h2, va_Zqof (hts _ tb_sw1) (hts _ tb_sw2) (hs _ tb_sw3) hA⟩
theorem tb_EX0 {s : State} {b : Nat} {A : Nat → Prop} (hts : ∀ w ∈ lw_tbl, w.before #[Value.ref b] s = true) (hgv : (Jvm.Cond.and given_1 narrow_1).before #[Value.ref b] s = true) (hA : ∀ a : Nat, a < s.heap.size → ¬ A a) : tb_EX A s s.heap := by
  have hs := flat_of_before _ hgv
  exact ⟨vx_Zqof (hts _ tb_lays1) (hts _ tb_iniT) (hs _ tb_ref1) hA, vx_Zqof (hts _ tb_lays2) (hts _ tb_iniT) (hs _ tb_ref2) hA, fun q hq => tb_str_of (hts _ (tb_strs_in q hq)), fun q hq => va_Nw.of rfl (hts _ (tb_casts_in q hq)), fun q hq => va_Nc.of (hs _ (tb_nocs_in q hq)), fun q hq => va_Nw.of rfl (hts _ (tb_decls_in q hq)), va_Nw.of rfl (hts _ tb_nest_in), va_AOA.of (hts _ tb_over_in), tb_SX0 hts hs hA⟩
theorem tb_inst0 : Cond.instantiable RX0 7 ∈ lw_tbl := by decide +kernel
theorem tb_inst1 : Cond.instantiable RX1 1 ∈ lw_tbl := by decide +kernel
theorem tb_inst2 : Cond.instantiable RX2 6 ∈ lw_tbl := by decide +kernel
theorem tb_inst3 : Cond.instantiable RX3 2 ∈ lw_tbl := by decide +kernel
theorem tb_inst4 : Cond.instantiable RX4 5 ∈ lw_tbl := by decide +kernel
theorem tb_inst5 : Cond.instantiable RX5 11 ∈ lw_tbl := by decide +kernel
theorem tb_inst6 : Cond.instantiable RX6 9 ∈ lw_tbl := by decide +kernel
theorem tb_inst7 : Cond.instantiable RX7 5 ∈ lw_tbl := by decide +kernel
theorem tb_inst8 : Cond.instantiable RX8 4 ∈ lw_tbl := by decide +kernel
theorem tb_inst9 : Cond.instantiable RX9 13 ∈ lw_tbl := by decide +kernel
theorem tb_inst10 : Cond.instantiable RX10 12 ∈ lw_tbl := by decide +kernel
theorem tb_inst11 : Cond.instantiable RX11 16 ∈ lw_tbl := by decide +kernel
theorem tb_inst12 : Cond.instantiable RX12 47 ∈ lw_tbl := by decide +kernel
theorem tb_K0 {s : State} {b : Nat} (hts : ∀ w ∈ lw_tbl, w.before #[Value.ref b] s = true) : ∃ G : tb_G, tb_K G s := by
  have htw : ∀ w ∈ tb_W, w.before #[Value.ref b] s = true := fun w hw => hts w (tb_W_in hw)
  obtain ⟨c0, s0, hK0⟩ := u_known (C := RX0) (T := TX0) (N := 7) (n := 7) htw cl_0.2.1 (hts _ tb_inst0)
  obtain ⟨c1, s1, hK1⟩ := u_known (C := RX1) (T := TX1) (N := 1) (n := 1) htw cl_1.2.1 (hts _ tb_inst1)
  obtain ⟨c2, s2, hK2⟩ := u_known (C := RX2) (T := TX2) (N := 6) (n := 6) htw cl_2.2.1 (hts _ tb_inst2)
  obtain ⟨c3, s3, hK3⟩ := u_known (C := RX3) (T := TX3) (N := 2) (n := 2) htw cl_3.2.1 (hts _ tb_inst3)
  obtain ⟨c4, s4, hK4⟩ := u_known (C := RX4) (T := TX4) (N := 5) (n := 5) htw cl_4.2.1 (hts _ tb_inst4)
  obtain ⟨c5, s5, hK5⟩ := u_known (C := RX5) (T := TX5) (N := 11) (n := 11) htw cl_5.2.1 (hts _ tb_inst5)
  obtain ⟨c6, s6, hK6⟩ := u_known (C := RX6) (T := TX6) (N := 9) (n := 9) htw cl_6.2.1 (hts _ tb_inst6)
  obtain ⟨c7, s7, hK7⟩ := u_known (C := RX7) (T := TX7) (N := 5) (n := 5) htw cl_7.2.1 (hts _ tb_inst7)
  obtain ⟨c8, s8, hK8⟩ := u_known (C := RX8) (T := TX8) (N := 4) (n := 4) htw cl_8.2.1 (hts _ tb_inst8)
  obtain ⟨c9, s9, hK9⟩ := u_known (C := RX9) (T := TX9) (N := 13) (n := 13) htw cl_9.2.1 (hts _ tb_inst9)
  obtain ⟨c10, s10, hK10⟩ := u_known (C := RX10) (T := TX10) (N := 12) (n := 12) htw cl_10.2.1 (hts _ tb_inst10)
  obtain ⟨c11, s11, hK11⟩ := u_known (C := RX11) (T := TX11) (N := 16) (n := 16) htw cl_11.2.1 (hts _ tb_inst11)
  obtain ⟨c12, s12, hK12⟩ := u_known (C := RX12) (T := TX12) (N := 47) (n := 47) htw cl_12.2.1 (hts _ tb_inst12)
  obtain ⟨cI, hI1, hI2⟩ := tb_arr_of (ty := .int) (htw _ wk_arr_int)
  obtain ⟨cJ, hJ1, hJ2⟩ := tb_arr_of (ty := .long) (htw _ wk_arr_long)
  obtain ⟨comp, cc9, k9, h1, h2, h3, h4, h5⟩ := tb_AOA_spec (va_AOA.of (hts _ tb_over_in))
  refine ⟨((fun k => if k = 0 then c0 else if k = 1 then c1 else if k = 2 then c2 else if k = 3 then c3 else if k = 4 then c4 else if k = 5 then c5 else if k = 6 then c6 else if k = 7 then c7 else if k = 8 then c8 else if k = 9 then c9 else if k = 10 then c10 else if k = 11 then c11 else c12, fun k => if k = 0 then s0 else if k = 1 then s1 else if k = 2 then s2 else if k = 3 then s3 else if k = 4 then s4 else if k = 5 then s5 else if k = 6 then s6 else if k = 7 then s7 else if k = 8 then s8 else if k = 9 then s9 else if k = 10 then s10 else if k = 11 then s11 else s12), cI, cc9, cJ), ?_, ?_⟩
  · intro k q hq
    match k, hq with
    | 0, hq => cases hq; exact hK0
    | 1, hq => cases hq; exact hK1
    | 2, hq => cases hq; exact hK2
    | 3, hq => cases hq; exact hK3
    | 4, hq => cases hq; exact hK4
    | 5, hq => cases hq; exact hK5
    | 6, hq => cases hq; exact hK6
    | 7, hq => cases hq; exact hK7
    | 8, hq => cases hq; exact hK8
    | 9, hq => cases hq; exact hK9
    | 10, hq => cases hq; exact hK10
    | 11, hq => cases hq; exact hK11
    | 12, hq => cases hq; exact hK12
    | k + 13, hq => simp [vwCl] at hq
  · intro k q hq
    match k, hq with
    | 0, hq => cases hq; exact ⟨hI1, hI2⟩
    | 1, hq => cases hq; exact ⟨fun n z => ⟨fun k h => (by cases h), k9, h3, comp, h4⟩, h5⟩
    | 2, hq => cases hq; exact ⟨hJ1, hJ2⟩
    | k + 3, hq => simp at hq
theorem tb_stack0 (l : Launch) (hflags : l.flags = flags0) : l.stackTraces = false := by
  unfold Launch.stackTraces
  rw [hflags]
  decide +kernel
theorem tb_start {p : Program} {e : Env} {s : State} {m : MethodId} {below : List Frame} {meth : Method} {c : Code} (l : Launch) (hst : l.stackTraces = false) {b L : Nat} {xs : Nat → Int32} (C0 : lw_At p s m meth c b L xs)
    (h : ∀ G : tb_G, tb_At l G M_L_law room_1 (some (L, xs)) tb_LZ 0 0 0 (fun _ => (100, 3, [])) (fun _ _ => 0) 0 [some (.ref tb_sc), none, none, none, none, none, none] []) : W p l e room_1 s m #[Value.ref b] below meth c s.heap [] 0 0 (lw_Z below #[Value.ref b] s) (entryFrame m ([Value.ref b] : List Value).toArray 7) := by
  obtain ⟨hx, hb, hr, hml, hown, hts, hX, hbl, hlocks, hnm, htb, hgv⟩ := id C0
  obtain ⟨G, hK⟩ := tb_K0 hts
  have hE : tb_EX (fun q : Nat => s.heap.size ≤ q) s s.heap := tb_EX0 hts hgv (fun a ha => Nat.not_le.mpr ha)
  have htab : c.exceptionTable.toList = [] := by
    cases e9 : c.exceptionTable.toList with
    | nil => rfl
    | cons z zs => exact (htb z (by rw [e9]; exact List.mem_cons_self)).elim
  have hcl : tb_cl 0 (fun _ => ((100, 3, []) : tb_Sh)) := fun k hk => absurd hk (Nat.not_lt_zero k)
  have hso : tb_so 0 [Value.ref tb_sc] := fun v hv => by
    rw [List.mem_singleton] at hv
    subst hv
    exact Or.inr rfl
  have h9 := h G ⟨hcl, tb_lo0 (as := [Value.ref tb_sc]) (nL := 7) (tb_c1 rfl) hso, fun _ h9 => nomatch h9⟩ p e s m #[Value.ref b] below meth c (fun q : Nat => s.heap.size ≤ q) (fun _ => b) 0 b
    ⟨hx, hb, hml, hr, hlocks, hown, hnm, htab, fun w hw => hts w (tb_W_in hw), fun _ h => h, hK, hE, hst, hX, Nat.not_le.mpr hbl, hbl⟩
    s.heap [] (fun _ => b) _ ⟨fun _ _ => rfl, rfl, Nat.le_refl _, rfl⟩ (fun k q hq => by simp [tb_ws] at hq) ⟨fun i j p q h => by simp [tb_ws] at h, fun k q h => by simp [tb_ws] at h⟩ va_S.rf (tb_entry (as := [Value.ref tb_sc]) (adr := fun _ => b) (nL := 7) (tb_c1 rfl) (Nat.le_of_ble_eq_true rfl))
  rw [lg_entry_eq]
  intro T hT X
  obtain ⟨t, a1, b1⟩ := h9 T hT X
  exact ⟨t, a1, b1 ⟨⟨b, rfl⟩, fun _ h => h⟩⟩
end
section
/-! ===== longs, the script, handlers, over whole numbers ===== -/
def zl (z : Int) : Value := .long (Int32.ofInt z).toInt64
theorem zl_cmp {a b : Int} (ha : -2147483648 ≤ a ∧ a < 2147483648) (hb : -2147483648 ≤ b ∧ b < 2147483648) : lg_cmp (Int32.ofInt a).toInt64 (Int32.ofInt b).toInt64 = Int32.ofInt (if b < a then 1 else if a = b then 0 else -1) := by
  unfold lg_cmp
  have h1 : ((Int32.ofInt a).toInt64 > (Int32.ofInt b).toInt64) ↔ b < a := by
    show (Int32.ofInt b).toInt64 < (Int32.ofInt a).toInt64 ↔ b < a
    rw [Int64.lt_iff_toInt_lt, Int32.toInt_toInt64, Int32.toInt_toInt64, zt ha, zt hb]
  have h2 : ((Int32.ofInt a).toInt64 = (Int32.ofInt b).toInt64) ↔ a = b := by
    rw [← Int64.toInt_inj, Int32.toInt_toInt64, Int32.toInt_toInt64, zt ha, zt hb]
  by_cases e1 : b < a
  · rw [if_pos (h1.mpr e1), if_pos e1]
    decide
  · rw [if_neg (fun h => e1 (h1.mp h)), if_neg e1]
    by_cases e2 : a = b
    · rw [if_pos (h2.mpr e2), if_pos e2]
      decide
    · rw [if_neg (fun h => e2 (h2.mp h)), if_neg e2]
      decide
def tb_cL (sh : Nat → tb_Sh) (c len : Nat) : Bool := (c != tb_sc) && ((sh c).1 == 102) && ((sh c).2.1 == len) && decide (len ≤ 100000)
theorem l_183 : tb_cL tb_shT 183 1 = true := by decide +kernel
def tz_Okw (l : Launch) (G : tb_G) (y : tb_Mt) (d mc ms : Nat) (as : List Value) (n : Nat) (J : zJ) (Q : Option Value → zJ → Prop) (X : String → zJ → Prop) : Prop := zok n J → tb_Okw l G y (tb_wh y) d mc ms as n tb_shT (zI J) (zQ n mc Q) (zX n mc X)
theorem tz_Okw.of {l : Launch} {G : tb_G} {y : tb_Mt} {d mc ms : Nat} {as : List Value} {n : Nat} {J : zJ} {Q : Option Value → zJ → Prop} {X : String → zJ → Prop} (hl : l.stackTraces = false) (hy : plainName y.1.cls = true) (hc : ∀ v ∈ as, v.category = 1) (hn : as.length ≤ y.2.2.1)
    (h : tz_At l G y (tb_rm d mc ms) none (tb_ZM G mc ms (zQ n mc Q) (zX n mc X)) 0 0 n J 0 (tb_L0 as y.2.2.1) []) : tz_Okw l G y d mc ms as n J Q X := fun ok => tb_Okw.of hl hy hc hn (h ok)
section TZL
variable {l : Launch} {G : tb_G} {y : tb_Mt} {R : Room} {xt : Option (Nat × (Nat → Int32))} {Z : tb_CT → State → Prop} {k1 k2 n : Nat} {J : zJ} {pc : Nat} {L : List (Option Value)} {S : List Value}
theorem tz_i2l {a : Int} (hd : decode y.2.1 pc = .ok (.i2l, 1)) (k : tz_At l G y R xt Z k1 k2 n J (pc + 1) L (zl a :: S)) : tz_At l G y R xt Z k1 k2 n J pc L (zi a :: S) := fun ok => tb_i2l hd (k ok)
theorem tz_lcmp {a b v : Int} (hd : decode y.2.1 pc = .ok (.lcmp, 1)) (ha : (-2147483648 ≤ a ∧ a < 2147483648)) (hb : (-2147483648 ≤ b ∧ b < 2147483648)) (hv : (if b < a then 1 else if a = b then 0 else -1) = v) (k : tz_At l G y R xt Z k1 k2 n J (pc + 1) L (zi v :: S)) : tz_At l G y R xt Z k1 k2 n J pc L (zl b :: zl a :: S) := fun ok => tb_lcmp hd (by rw [zl_cmp ha hb, hv]; exact k ok)
theorem tz_lald {len c9 : Nat} {lz z v : Int} (hd : decode y.2.1 pc = .ok (.laload, 1)) (h : tb_cL tb_shT c9 len = true) (hl : ((len : Nat) : Int) = lz) (hz : 0 ≤ z ∧ z < lz) (hv : J c9 z = v) (kk : (-2147483648 ≤ v ∧ v < 2147483648) → tz_At l G y R xt Z k1 k2 n J (pc + 1) L (zl v :: S)) : tz_At l G y R xt Z k1 k2 n J pc L (zi z :: .ref c9 :: S) := fun ok => by
  simp only [tb_cL, Bool.and_eq_true, bne_iff_ne, ne_eq, beq_iff_eq, decide_eq_true_eq] at h
  refine tb_lald (j := z.toNat) hd (tb_sh3 h.1.1.2 h.1.2) h.1.1.1 (zn hz.1) (by omega) (Nat.le_trans h.2 (by decide)) ?_
  have e : zI J c9 z.toNat = Int32.ofInt v := by
    show Int32.ofInt (J c9 (z.toNat : Int)) = _
    rw [Int.toNat_of_nonneg hz.1, hv]
  rw [e]
  exact kk (hv ▸ ok.2 c9 z) ok
theorem tz_last {len c9 : Nat} {lz z v : Int} (hd : decode y.2.1 pc = .ok (.lastore, 1)) (h : tb_cL tb_shT c9 len = true) (hl : ((len : Nat) : Int) = lz) (hz : 0 ≤ z ∧ z < lz) (hr : (-2147483648 ≤ v ∧ v < 2147483648)) (kk : tz_At l G y R xt Z k1 k2 n (zup J c9 z v) (pc + 1) L S) : tz_At l G y R xt Z k1 k2 n J pc L (zl v :: zi z :: .ref c9 :: S) := fun ok => by
  simp only [tb_cL, Bool.and_eq_true, bne_iff_ne, ne_eq, beq_iff_eq, decide_eq_true_eq] at h
  refine tb_last (j := z.toNat) hd (tb_sh3 h.1.1.2 h.1.2) h.1.1.1 (zn hz.1) (by omega) (Nat.le_trans h.2 (by decide)) ?_
  rw [zI_up hz.1]
  exact kk (ok.up hr)
theorem tz_sld {Lx : Nat} {xs : Nat → Int32} {z : Int} (hx : xt = some (Lx, xs)) (hd : decode y.2.1 pc = .ok (.iaload, 1)) (hz : 0 ≤ z ∧ z < Lx) (hb : Lx ≤ 2147483647) (kk : (-2147483648 ≤ (xs z.toNat).toInt ∧ (xs z.toNat).toInt < 2147483648) → tz_At l G y R xt Z k1 k2 n J (pc + 1) L (zi (xs z.toNat).toInt :: S)) : tz_At l G y R xt Z k1 k2 n J pc L (zi z :: .ref tb_sc :: S) := fun ok => tb_sld (j := z.toNat) hx hd (zn hz.1) (by omega) hb (by rw [← zi_toInt]; exact kk (z_rg _) ok)
theorem tz_slen {Lx : Nat} {xs : Nat → Int32} (hx : xt = some (Lx, xs)) (hd : decode y.2.1 pc = .ok (.arraylength, 1)) (kk : tz_At l G y R xt Z k1 k2 n J (pc + 1) L (zi (Lx : Int) :: S)) : tz_At l G y R xt Z k1 k2 n J pc L (.ref tb_sc :: S) := fun ok => tb_slen hx hd (by rw [z_len rfl]; exact kk ok)
theorem tz_cH {idx nA d mc ms m1 m2 : Nat} {y' : tb_Mt} {as St : List Value} {Q' : Option Value → zJ → Prop} (hM : tz_Okw l G y' d mc ms as n J Q' zN) (hl1 : Cond.methodLink y.1.cls idx y'.1 ∈ tb_W) (hl2 : Cond.static y'.1 ∈ tb_W) (hl3 : Cond.codeWith y'.1 y'.2.1 y'.2.2.1 y'.2.2.2.1 y'.2.2.2.2 ∈ tb_W) (hl4 : Cond.initialized y'.1.cls ∈ tb_W) (hl5 : y'.1.cls ≠ "java/lang/invoke/MethodHandle" ∧ y'.1.cls ≠ "java/lang/invoke/VarHandle" ∧ (parseMethodDescriptor y'.1.desc).map (fun d => d.parameters.length) = some nA) (hd : decode y.2.1 pc = .ok (.invokestatic idx, 3)) (hna : as.length = nA) (hst : St = as.reverse ++ S)
    (hcat : (S.map fun v => v.category).sum ≤ 8) (hR : d + 1 ≤ R.frames ∧ 8 + (y'.2.2.1 + 11) + 40 * d ≤ R.locals) (h1 : k1 + mc = m1) (h2 : k2 + ms = m2) (hce : m1 ≤ R.cells) (hsl : m2 ≤ R.slots)
    (kk : ∀ (r : Option Value) (n' : Nat) (J' : zJ), n ≤ n' → n' ≤ n + mc → Q' r J' → tz_At l G y R xt Z m1 m2 n' J' (pc + 3) L (r.toList ++ S)) : tz_At l G y R xt Z k1 k2 n J pc L St := fun ok => by
  refine tb_callH (hM ok) hl1 hl2 hl3 hl4 hl5 hd hna hst hcat hR h1 h2 hce hsl ?_ ?_
  · rintro r n' sh' I' ⟨J', rfl, rfl, ok', hn1, hn2, hq⟩
    exact kk r n' J' hn1 hn2 hq ok'
  · rintro E n' sh' I' ⟨J', -, -, -, -, -, hx⟩
    exact hx.elim
theorem tb_catchA {sh : Nat → tb_Sh} {I : tb_I} {E name : String} {i : Nat} (pre : List ExceptionTableEntry) (x : ExceptionTableEntry) (suf : List ExceptionTableEntry) (hsplit : tableOf y.2.2.2.2 = pre ++ x :: suf) (hpass : ∀ z ∈ pre, covers z pc = false ∨ (z.catchType ≠ 0 ∧ ∃ nm : String, Cond.classLink y.1.cls z.catchType nm ∈ tb_W ∧ (E, nm) ∈ tb_nocs)) (hx : covers x pc = true) (h0 : x.catchType ≠ 0)
    (hlink : Cond.classLink y.1.cls x.catchType name ∈ tb_W) (hcast : (E, name) ∈ tb_casts) (hd : decode y.2.1 x.handlerPc = .ok (.astore i, 2)) (hi : i < y.2.2.1)
    (kk : tb_At l G y R xt Z k1 k2 n sh I (x.handlerPc + 2) (L.set i none) []) : tb_Ax l G y R xt Z k1 k2 n sh I pc L S E := by
  intro ok p e s m args below meth c A adr0 n0 bx C H locs adr ls ha hP hD hS hl
  intro ce q9 hce hcv hcl
  have hts := C.2.2.2.2.2.2.2.2.1
  have hE := C.2.2.2.2.2.2.2.2.2.2.2.1
  refine vx_catch C.2.2.2.2.2.1 pre x suf (by rw [C.2.2.2.2.2.2.2.1]; exact hsplit) (fun z hz => ?_) hx h0 (hts _ hlink) (va_Nw.use rfl (hE.2.2.2.1 _ hcast)) hce hcv hcl ?_
  · rcases hpass z hz with h | ⟨h1, nm, h2, h3⟩
    · exact Or.inl h
    · exact Or.inr ⟨h1, nm, hts _ h2, hE.2.2.2.2.1 _ h3⟩
  · refine lv_astore C.1 C.2.1 hd hl.has hi rfl (fun ls' h' => ?_)
    refine kk ⟨ok.1, fun v hv => ?_, fun v hv => nomatch hv⟩ p e s m args below meth c A adr0 n0 bx C H locs adr ls' ha hP hD hS ?_
    · rcases List.mem_or_eq_of_mem_set hv with h | h
      · exact ok.2.1 v h
      · cases h
    · refine ⟨h'.1, h'.2.1, by rw [List.length_set]; exact hl.2.2.1, fun j w hj => ?_⟩
      by_cases hij : j = i
      · subst hij
        rw [List.getElem?_set_self (by rw [hl.2.2.1]; exact hi)] at hj
        cases hj
      · rw [List.getElem?_set_ne (Ne.symm hij)] at hj
        refine h'.2.2 (j, tb_rn adr w) (List.mem_cons_of_mem _ (List.mem_filter.mpr ⟨?_, ?_⟩))
        · exact List.mem_filterMap.mpr ⟨(some w, j), List.mem_zipIdx_iff_getElem?.mpr hj, rfl⟩
        · have : w.category = 1 := (ok.2.1 w (List.mem_of_getElem? hj)).2
          simp [hij, tb_cat, this]
theorem tz_catch {E name : String} {i : Nat} {q : Fin 4} (pre : List ExceptionTableEntry) (x : ExceptionTableEntry) (suf : List ExceptionTableEntry) (hsplit : tableOf y.2.2.2.2 = pre ++ x :: suf) (hpass : ∀ z ∈ pre, covers z pc = false ∨ (z.catchType ≠ 0 ∧ ∃ nm : String, Cond.classLink y.1.cls z.catchType nm ∈ tb_W ∧ (E, nm) ∈ tb_nocs)) (hx : covers x pc = true) (h0 : x.catchType ≠ 0)
    (hlink : Cond.classLink y.1.cls x.catchType name ∈ tb_W) (hcast : (E, name) ∈ tb_casts) (hd : decode y.2.1 x.handlerPc = .ok (.astore_n q, 1)) (hq : (q : Nat) = i) (hi : i < y.2.2.1)
    (kk : tz_At l G y R xt Z k1 k2 n J (x.handlerPc + 1) (L.set i none) []) : tz_Ax l G y R xt Z k1 k2 n J pc L S E := fun ok => tb_catch pre x suf hsplit hpass hx h0 hlink hcast hd hq hi (kk ok)
theorem tz_catchA {E name : String} {i : Nat} (pre : List ExceptionTableEntry) (x : ExceptionTableEntry) (suf : List ExceptionTableEntry) (hsplit : tableOf y.2.2.2.2 = pre ++ x :: suf) (hpass : ∀ z ∈ pre, covers z pc = false ∨ (z.catchType ≠ 0 ∧ ∃ nm : String, Cond.classLink y.1.cls z.catchType nm ∈ tb_W ∧ (E, nm) ∈ tb_nocs)) (hx : covers x pc = true) (h0 : x.catchType ≠ 0)
    (hlink : Cond.classLink y.1.cls x.catchType name ∈ tb_W) (hcast : (E, name) ∈ tb_casts) (hd : decode y.2.1 x.handlerPc = .ok (.astore i, 2)) (hi : i < y.2.2.1)
    (kk : tz_At l G y R xt Z k1 k2 n J (x.handlerPc + 2) (L.set i none) []) : tz_Ax l G y R xt Z k1 k2 n J pc L S E := fun ok => tb_catchA pre x suf hsplit hpass hx h0 hlink hcast hd hi (kk ok)
end TZL
theorem tz_lret {l : Launch} {G : tb_G} {xt : Option (Nat × (Nat → Int32))} {k1 k2 n : Nat} {J : zJ} {pc : Nat} {L : List (Option Value)} (hd : decode code pc = .ok (.ireturn, 1)) (h1 : k1 ≤ 601024) (h2 : k2 ≤ 7293034) : tz_At l G M_L_law room_1 xt tb_LZ k1 k2 n J pc L [zi 1] := fun _ => tb_lret hd h1 h2
end
