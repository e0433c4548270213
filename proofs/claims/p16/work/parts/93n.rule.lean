/-! ===== sizes, rules ===== -/
def one1 : Int → Int := fun _ => 1
theorem tps_sps {f : Int → Int} {ag : Int → Int → Int} {t : Int} : ∀ n : Nat, tps f ag t n = 1 + sps f ag t n
  | 0 => rfl
  | n + 1 => by
    show tps f ag t n + _ = 1 + (sps f ag t n + _)
    rw [tps_sps n]
    omega
theorem tsz_sS {m : Int} {ar dp : Int → Int} {ag : Int → Int → Int} (h : TD m ar ag dp) : ∀ (k : Nat) (t : Int), (0 ≤ t ∧ t < m) → dp t ≤ k → tsz ar ag k t = sS one1 ar ag k t
  | 0, t, ht, h1 => by have := (h t ht.1 ht.2).2.1; omega
  | k + 1, t, ht, h1 => by
    obtain ⟨a, b, c⟩ := h t ht.1 ht.2
    show tps (tsz ar ag k) ag t (ar t).toNat = 1 + sps (sS one1 ar ag k) ag t (ar t).toNat
    rw [tps_sps]
    congr 1
    refine sps_cg _ (fun i hi => ?_)
    have hb := c (i : Int) (by omega) (by omega)
    exact tsz_sS h k _ ⟨hb.1.1, by omega⟩ (by omega)
def csz (J : zJ) : Int → Int := sV one1 (J 8) (cag J)
theorem csz_s {J : zJ} {m : Int} (h : CT J m) : ∀ (k : Nat) (t : Int), (0 ≤ t ∧ t < m) → J 12 t ≤ k → J 10 t = csz J t
  | 0, t, ht, h1 => by have := (h.nums ht.1 ht.2).2.2; omega
  | k + 1, t, ht, h1 => by
    have ha := (h.ar ht.1 ht.2).1
    have e := ((h.2.1 t ht.1 ht.2).1).2.1.1
    have hs : ∀ i, 0 ≤ i → i < J 8 t → J 10 (J 9 (t * 3 + i)) = csz J (J 9 (t * 3 + i)) := fun i x y => by
      have hb := h.arg ht.1 ht.2 x y
      exact csz_s h k _ ⟨hb.1.1, by omega⟩ (by omega)
    have hU : csz J t = 1 + sps (csz J) (cag J) t (J 8 t).toNat := sV_un h.td ht
    rw [hU, e]
    unfold zs3
    have hc : J 8 t = 0 ∨ J 8 t = 1 ∨ J 8 t = 2 ∨ J 8 t = 3 := by omega
    have s0 := hs 0
    have s1 := hs 1
    have s2 := hs 2
    rcases hc with hc | hc | hc | hc <;> rw [hc] at s0 s1 s2 ⊢
    · rfl
    · rw [if_pos (by decide), if_neg (by decide), if_neg (by decide), s0 (by decide) (by decide)]
      show 1 + (_ + 0 + 0) = 1 + (0 + csz J (J 9 (t * 3 + (0 : Nat))))
      show 1 + (csz J (J 9 (t * 3 + 0)) + 0 + 0) = 1 + (0 + csz J (J 9 (t * 3 + 0)))
      omega
    · rw [if_pos (by decide), if_pos (by decide), if_neg (by decide), s0 (by decide) (by decide), s1 (by decide) (by decide)]
      show 1 + (csz J (J 9 (t * 3 + 0)) + csz J (J 9 (t * 3 + 1)) + 0) = 1 + (0 + csz J (J 9 (t * 3 + 0)) + csz J (J 9 (t * 3 + 1)))
      omega
    · rw [if_pos (by decide), if_pos (by decide), if_pos (by decide), s0 (by decide) (by decide), s1 (by decide) (by decide), s2 (by decide) (by decide)]
      show 1 + (csz J (J 9 (t * 3 + 0)) + csz J (J 9 (t * 3 + 1)) + csz J (J 9 (t * 3 + 2))) = 1 + (0 + csz J (J 9 (t * 3 + 0)) + csz J (J 9 (t * 3 + 1)) + csz J (J 9 (t * 3 + 2)))
      omega
theorem CT.sz {J : zJ} {m t : Int} (h : CT J m) (ht : 0 ≤ t ∧ t < m) : J 10 t = csz J t := csz_s h 6 t ht (by have := (h.nums ht.1 ht.2).2.2; omega)
def cru (J : zJ) (x y : Int) : Prop := 0 ≤ J 7 x ∧ cgt J 6 x y ∧ J 10 x ≤ 12 ∧ J 10 y ≤ 12
set_option maxHeartbeats 4000000 in
set_option maxRecDepth 100000 in
theorem x_isRule9 {l : Launch} {G : tb_G} (hl : l.stackTraces = false) (n : Nat) (J : zJ) (x : Int) (y : Int) (hr_x : -2147483648 ≤ x ∧ x < 2147483648) (hr_y : -2147483648 ≤ y ∧ y < 2147483648) (m : Int) (C : CT J m) (hm : J 6 12 = m) (hx : 0 ≤ x ∧ x < m) (hy : 0 ≤ y ∧ y < m) (h3 : J 156 3 = -1) : tz_Ok l G M_X7_isRule 13 0 0 [.ref 155, zi x, zi y] n J (zqi (fun z J' => ((z = 1 ∧ cru J x y) ∨ (z = 0 ∧ ¬ cru J x y)) ∧ (zOf (zbut [156, 157]) J' J ∧ ∀ k, ¬ k = 2 → J' 156 k = J 156 k))) zN := by
  refine tz_Ok.of hl (by decide +kernel) rfl (tb_c1 rfl) (Nat.le_of_ble_eq_true rfl) ?_
  show tz_At l G M_X7_isRule (tb_rm 13 0 0) none (tb_ZM G 0 0 (zQ n 0 (zqi (fun z J' => ((z = 1 ∧ cru J x y) ∨ (z = 0 ∧ ¬ cru J x y)) ∧ (zOf (zbut [156, 157]) J' J ∧ ∀ k, ¬ k = 2 → J' 156 k = J 156 k)))) (zX n 0 zN)) 0 0 n J 0 [some (.ref 155), some (zi x), some (zi y)] []
  have hb := C.told
  have hnx := (C.nums hx.1 hx.2).1
  have hny := (C.nums hy.1 hy.2).1
  refine tz_aload_n (pc := 0) dX7_isRule_0 rfl rfl ?_
  refine tz_fR (pc := 1) dX7_isRule_1 fl_X7_21 r_155_1 ?_
  refine tz_iload_n (pc := 4) dX7_isRule_4 rfl rfl ?_
  refine tz_cV (pc := 5) (c_has hl n _ _ (by omega)) vl_X7_40 dX7_isRule_5 o_6 rfl rfl (Nat.le_of_ble_eq_true rfl) ⟨(Nat.le_of_ble_eq_true rfl), (Nat.le_of_ble_eq_true rfl)⟩ rfl rfl (Nat.le_of_ble_eq_true rfl) (Nat.le_of_ble_eq_true rfl) (fun r9 J_5 hq9 => ?_)
  obtain ⟨z_5, rfl, hz_5, rfl, rfl⟩ := hq9
  by_cases hw_8 : 0 ≤ x ∧ x < J 6 12
  · rw [show (if 0 ≤ x ∧ x < J 6 12 then 1 else 0 : Int) = 1 from if_pos hw_8]
    refine tz_if_eqF (pc := 8) (tgt := 77) (by decide) dX7_isRule_8 (by decide) (by decide) ?_
    refine tz_aload_n (pc := 11) dX7_isRule_11 rfl rfl ?_
    refine tz_fR (pc := 12) dX7_isRule_12 fl_X7_21 r_155_1 ?_
    refine tz_iload_n (pc := 15) dX7_isRule_15 rfl rfl ?_
    refine tz_cV (pc := 16) (c_has hl n _ _ (by omega)) vl_X7_40 dX7_isRule_16 o_6 rfl rfl (Nat.le_of_ble_eq_true rfl) ⟨(Nat.le_of_ble_eq_true rfl), (Nat.le_of_ble_eq_true rfl)⟩ rfl rfl (Nat.le_of_ble_eq_true rfl) (Nat.le_of_ble_eq_true rfl) (fun r9 J_16 hq9 => ?_)
    obtain ⟨z_16, rfl, hz_16, rfl, rfl⟩ := hq9
    by_cases hw_19 : 0 ≤ y ∧ y < J 6 12
    · rw [show (if 0 ≤ y ∧ y < J 6 12 then 1 else 0 : Int) = 1 from if_pos hw_19]
      refine tz_if_eqF (pc := 19) (tgt := 77) (by decide) dX7_isRule_19 (by decide) (by decide) ?_
      refine tz_aload_n (pc := 22) dX7_isRule_22 rfl rfl ?_
      refine tz_fR (pc := 23) dX7_isRule_23 fl_X7_21 r_155_1 ?_
      refine tz_iload_n (pc := 26) dX7_isRule_26 rfl rfl ?_
      refine tz_cV (pc := 27) (c_isVar hl n _ _ (by omega) (by omega)) vl_X7_46 dX7_isRule_27 o_6 rfl rfl (Nat.le_of_ble_eq_true rfl) ⟨(Nat.le_of_ble_eq_true rfl), (Nat.le_of_ble_eq_true rfl)⟩ rfl rfl (Nat.le_of_ble_eq_true rfl) (Nat.le_of_ble_eq_true rfl) (fun r9 J_27 hq9 => ?_)
      obtain ⟨z_27, rfl, hz_27, rfl, rfl⟩ := hq9
      by_cases hw_30 : J 7 x < 0
      · rw [show (if J 7 x < 0 then 1 else 0 : Int) = 1 from if_pos hw_30]
        refine tz_if_neT (pc := 30) (tgt := 77) (by decide) dX7_isRule_30 (by decide) (by decide) ?_
        refine tz_iconst (pc := 77) dX7_isRule_77 ?_
        exact tz_zret (pc := 78) (z := 0) dX7_isRule_78 rfl (Or.inl rfl) (Nat.le_of_ble_eq_true rfl) (Nat.le_of_ble_eq_true rfl) ⟨Nat.le_refl _, Nat.le_add_right _ _⟩ ⟨_, rfl, (by decide), ⟨Or.inr ⟨rfl, fun e => by obtain ⟨e1, e2, e3, e4⟩ := e; first | omega | (rcases h1 with q | q; omega; exact q.2 e2)⟩, ⟨zOf.rf, fun _ _ => rfl⟩⟩⟩
      · rw [show (if J 7 x < 0 then 1 else 0 : Int) = 0 from if_neg hw_30]
        refine tz_if_neF (pc := 30) (tgt := 77) (by decide) dX7_isRule_30 (by decide) (by decide) ?_
        refine tz_aload_n (pc := 33) dX7_isRule_33 rfl rfl ?_
        refine tz_fR (pc := 34) dX7_isRule_34 fl_X7_21 r_155_1 ?_
        refine tz_fR (pc := 37) dX7_isRule_37 fl_X7_49 r_6_4 ?_
        refine tz_iload_n (pc := 40) dX7_isRule_40 rfl rfl ?_
        refine tz_aL (pc := 41) (z := x) (v := (J 10 x)) dX7_isRule_41 a_10 rfl (by omega) rfl (fun r_41 => ?_)
        refine tz_bipush (pc := 42) dX7_isRule_42 (by decide) ?_
        refine tz_icmp_gt (pc := 44) (tgt := 77) dX7_isRule_44 (by decide) (by omega) (by decide) (fun h_44 => ?_) (fun h_44 => ?_)
        · refine tz_iconst (pc := 77) dX7_isRule_77 ?_
          exact tz_zret (pc := 78) (z := 0) dX7_isRule_78 rfl (Or.inl rfl) (Nat.le_of_ble_eq_true rfl) (Nat.le_of_ble_eq_true rfl) ⟨Nat.le_refl _, Nat.le_add_right _ _⟩ ⟨_, rfl, (by decide), ⟨Or.inr ⟨rfl, fun e => by obtain ⟨e1, e2, e3, e4⟩ := e; first | omega | (rcases h1 with q | q; omega; exact q.2 e2)⟩, ⟨zOf.rf, fun _ _ => rfl⟩⟩⟩
        · refine tz_aload_n (pc := 47) dX7_isRule_47 rfl rfl ?_
          refine tz_fR (pc := 48) dX7_isRule_48 fl_X7_21 r_155_1 ?_
          refine tz_fR (pc := 51) dX7_isRule_51 fl_X7_49 r_6_4 ?_
          refine tz_iload_n (pc := 54) dX7_isRule_54 rfl rfl ?_
          refine tz_aL (pc := 55) (z := y) (v := (J 10 y)) dX7_isRule_55 a_10 rfl (by omega) rfl (fun r_55 => ?_)
          refine tz_bipush (pc := 56) dX7_isRule_56 (by decide) ?_
          refine tz_icmp_gt (pc := 58) (tgt := 77) dX7_isRule_58 (by decide) (by omega) (by decide) (fun h_58 => ?_) (fun h_58 => ?_)
          · refine tz_iconst (pc := 77) dX7_isRule_77 ?_
            exact tz_zret (pc := 78) (z := 0) dX7_isRule_78 rfl (Or.inl rfl) (Nat.le_of_ble_eq_true rfl) (Nat.le_of_ble_eq_true rfl) ⟨Nat.le_refl _, Nat.le_add_right _ _⟩ ⟨_, rfl, (by decide), ⟨Or.inr ⟨rfl, fun e => by obtain ⟨e1, e2, e3, e4⟩ := e; first | omega | (rcases h1 with q | q; omega; exact q.2 e2)⟩, ⟨zOf.rf, fun _ _ => rfl⟩⟩⟩
          · refine tz_aload_n (pc := 61) dX7_isRule_61 rfl rfl ?_
            refine tz_fR (pc := 62) dX7_isRule_62 fl_X7_30 r_155_4 ?_
            refine tz_iload_n (pc := 65) dX7_isRule_65 rfl rfl ?_
            refine tz_iload_n (pc := 66) dX7_isRule_66 rfl rfl ?_
            refine tz_cV (pc := 67) (x_greater9 hl n _ _ _ (by omega) (by omega) m C hx hy h3) vl_X7_34 dX7_isRule_67 o_156 rfl rfl (Nat.le_of_ble_eq_true rfl) ⟨(Nat.le_of_ble_eq_true rfl), (Nat.le_of_ble_eq_true rfl)⟩ rfl rfl (Nat.le_of_ble_eq_true rfl) (Nat.le_of_ble_eq_true rfl) (fun r9 J_67 hq9 => ?_)
            obtain ⟨z_67, rfl, hz_67, h1, f1⟩ := hq9
            refine tz_if_eq (pc := 70) (tgt := 77) dX7_isRule_70 (by decide) (by omega) (fun h_70 => ?_) (fun h_70 => ?_)
            · refine tz_iconst (pc := 77) dX7_isRule_77 ?_
              exact tz_zret (pc := 78) (z := 0) dX7_isRule_78 rfl (Or.inl rfl) (Nat.le_of_ble_eq_true rfl) (Nat.le_of_ble_eq_true rfl) ⟨Nat.le_refl _, Nat.le_add_right _ _⟩ ⟨_, rfl, (by decide), ⟨Or.inr ⟨rfl, fun e => by obtain ⟨e1, e2, e3, e4⟩ := e; first | omega | (rcases h1 with q | q; omega; exact q.2 e2)⟩, f1⟩⟩
            · refine tz_iconst (pc := 73) dX7_isRule_73 ?_
              refine tz_goto (pc := 74) (tgt := 78) dX7_isRule_74 (by decide) ?_
              exact tz_zret (pc := 78) (z := 1) dX7_isRule_78 rfl (Or.inr rfl) (Nat.le_of_ble_eq_true rfl) (Nat.le_of_ble_eq_true rfl) ⟨Nat.le_refl _, Nat.le_add_right _ _⟩ ⟨_, rfl, (by decide), ⟨Or.inl ⟨rfl, by omega, by rcases h1 with q | q; exact q.2; omega, by omega, by omega⟩, f1⟩⟩
    · rw [show (if 0 ≤ y ∧ y < J 6 12 then 1 else 0 : Int) = 0 from if_neg hw_19]
      refine tz_if_eqT (pc := 19) (tgt := 77) (by decide) dX7_isRule_19 (by decide) (by decide) ?_
      refine tz_iconst (pc := 77) dX7_isRule_77 ?_
      exact tz_zret (pc := 78) (z := 0) dX7_isRule_78 rfl (Or.inl rfl) (Nat.le_of_ble_eq_true rfl) (Nat.le_of_ble_eq_true rfl) ⟨Nat.le_refl _, Nat.le_add_right _ _⟩ ⟨_, rfl, (by decide), ⟨Or.inr ⟨rfl, fun e => by obtain ⟨e1, e2, e3, e4⟩ := e; first | omega | (rcases h1 with q | q; omega; exact q.2 e2)⟩, ⟨zOf.rf, fun _ _ => rfl⟩⟩⟩
  · rw [show (if 0 ≤ x ∧ x < J 6 12 then 1 else 0 : Int) = 0 from if_neg hw_8]
    refine tz_if_eqT (pc := 8) (tgt := 77) (by decide) dX7_isRule_8 (by decide) (by decide) ?_
    refine tz_iconst (pc := 77) dX7_isRule_77 ?_
    exact tz_zret (pc := 78) (z := 0) dX7_isRule_78 rfl (Or.inl rfl) (Nat.le_of_ble_eq_true rfl) (Nat.le_of_ble_eq_true rfl) ⟨Nat.le_refl _, Nat.le_add_right _ _⟩ ⟨_, rfl, (by decide), ⟨Or.inr ⟨rfl, fun e => by obtain ⟨e1, e2, e3, e4⟩ := e; first | omega | (rcases h1 with q | q; omega; exact q.2 e2)⟩, ⟨zOf.rf, fun _ _ => rfl⟩⟩⟩

