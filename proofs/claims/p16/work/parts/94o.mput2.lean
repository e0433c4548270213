theorem WP.row {n k : Nat} {J2 J1 : zJ} {b r d s m1 m2 : Int} (g : MG (List.range' (n + 1) k) [] (fun _ => false) J2 J1 b r d s m1 m2) (hn : 184 ≤ n := by omega) : J2 n = J1 n := g.2.2.1.2.2.2 n (by
    simp only [zbut, Bool.not_eq_true', List.contains_eq_mem, decide_eq_false_iff_not, List.mem_cons, List.mem_range'_1]
    omega)
set_option maxHeartbeats 4000000 in
set_option maxRecDepth 100000 in
theorem o_withPutR {l : Launch} {G : tb_G} (hl : l.stackTraces = false) : ∀ (r9 : Nat) (n : Nat) (J : zJ) (t : Int) (p : Int) (o : Int) (hr_t : -2147483648 ≤ t ∧ t < 2147483648) (hr_p : -2147483648 ≤ p ∧ p < 2147483648) (hr_o : -2147483648 ≤ o ∧ o < 2147483648) (s m : Int) (hM : MS J 0 0 0 s m) (hs : J 164 9 = s) (ht : 0 ≤ t ∧ t < m) (ho : 0 ≤ o ∧ o < m) (hp : 0 ≤ p) (hpz : p < msz J 0 0 t) (hn0 : 184 ≤ n) (hns : n + r9 < tb_sc), ((J 168 (0 + t)).toNat) < r9 → tz_Ok l G M_X12_withPut (14 + 1 * r9) r9 (3 * r9) [.ref 164, zi t, zi p, zi o] n J (zqi (fun z J' => ∃ m', MG (List.range' n r9) [] (fun _ => false) J' J 0 0 0 s m m' ∧ (J' 164 21 = 0 → 0 ≤ z ∧ z < m') ∧ ∀ k : Nat, J 168 (0 + t) ≤ k → (tb0 J', z) = puO o k (tb0 J) t p)) zN := by
  intro r9
  induction r9 with
  | zero => intro n J t p o hr_t hr_p hr_o s m hM hs ht ho hp hpz hn0 hns hm9; exact absurd hm9 (Nat.not_lt_zero _)
  | succ r9 ih =>
    intro n J t p o hr_t hr_p hr_o s m hM hs ht ho hp hpz hn0 hns hm9
    refine tz_Ok.of hl (by decide +kernel) rfl (tb_c1 rfl) (Nat.le_of_ble_eq_true rfl) ?_
    show tz_At l G M_X12_withPut (tb_rm (14 + 1 * (r9 + 1)) (r9 + 1) (3 * (r9 + 1))) none (tb_ZM G (r9 + 1) (3 * (r9 + 1)) (zQ n (r9 + 1) (zqi (fun z J' => ∃ m', MG (List.range' n (r9 + 1)) [] (fun _ => false) J' J 0 0 0 s m m' ∧ (J' 164 21 = 0 → 0 ≤ z ∧ z < m') ∧ ∀ k : Nat, J 168 (0 + t) ≤ k → (tb0 J', z) = puO o k (tb0 J) t p))) (zX n (r9 + 1) zN)) 0 0 n J 0 [some (.ref 164), some (zi t), some (zi p), some (zi o), none, none, none, none] []
    have hT := hM.told
    have ha := hM.ar ht
    refine tz_iload_n (pc := 0) dX12_withPut_0 rfl rfl ?_
    refine tz_if_ne (pc := 1) (tgt := 6) dX12_withPut_1 (by decide) (by omega) (fun h_1 => ?_) (fun h_1 => ?_)
    · refine tz_iload_n (pc := 6) dX12_withPut_6 rfl rfl ?_
      refine tz_iconst (pc := 7) dX12_withPut_7 ?_
      refine tz_isub (pc := 8) (v := p - 1) dX12_withPut_8 rfl ?_
      refine tz_istore (pc := 9) (L2 := [_, _, _, _, _, _, _, _]) dX12_withPut_9 (by decide) rfl ?_
      refine tz_aload_n (pc := 11) dX12_withPut_11 rfl rfl ?_
      refine tz_iload_n (pc := 12) dX12_withPut_12 rfl rfl ?_
      refine tz_cVN (pc := 13) (m_parts hl n _ _ (by omega) 0 0 0 s m hM ht hn0 (by omega)) vl_X12_415 dX12_withPut_13 o_164 rfl rfl (Nat.le_of_ble_eq_true rfl) ⟨(show 3 + 1 ≤ 14 + 1 * (r9 + 1) by omega), (show 8 + (4 + 11) + 40 * (3) ≤ 40 * (14 + 1 * (r9 + 1)) by omega)⟩ rfl rfl (show 0 + 1 ≤ r9 + 1 by omega) (show 0 + 3 ≤ 3 * (r9 + 1) by omega) (fun r9 J_13 hq9 => ?_)
      obtain ⟨rfl, pa⟩ := hq9
      refine tz_astore (pc := 16) (L2 := [_, _, _, _, _, _, _, _]) dX12_withPut_16 (by decide) rfl ?_
      refine tz_iconst (pc := 18) dX12_withPut_18 ?_
      refine tz_istore (pc := 19) (L2 := [_, _, _, _, _, _, _, _]) dX12_withPut_19 (by decide) rfl ?_
      have loop21 : ∀ (f9 : Nat) (q : Int) (i : Int) (d7 : Option Value) (k1 : Nat) (k2 : Nat) (n1 : Nat) (J1 : zJ) (m1 : Int), ((3 - i).toNat) < f9 → (-2000 * i ≤ q ∧ q < 2147483648) → (0 ≤ i ∧ i ≤ mar J 0 0 t) → ((0 ≤ q → k1 = 0 + 1 ∧ k2 = 0 + 3) ∧ k1 ≤ r9 + 1 ∧ k2 ≤ 3 * (r9 + 1)) → (n + 1 ≤ n1 ∧ n1 ≤ n + k1) → (WP n (r9 + 1) J1 J 0 0 0 s m m1 t) → (WQP o n J1 J t p q i) → tz_At l G M_X12_withPut (tb_rm (14 + 1 * (r9 + 1)) (r9 + 1) (3 * (r9 + 1))) none (tb_ZM G (r9 + 1) (3 * (r9 + 1)) (zQ n (r9 + 1) (zqi (fun z J' => ∃ m', MG (List.range' n (r9 + 1)) [] (fun _ => false) J' J 0 0 0 s m m' ∧ (J' 164 21 = 0 → 0 ≤ z ∧ z < m') ∧ ∀ k : Nat, J 168 (0 + t) ≤ k → (tb0 J', z) = puO o k (tb0 J) t p))) (zX n (r9 + 1) zN)) k1 k2 n1 J1 21 [some (.ref 164), some (zi t), some (zi p), some (zi o), some (zi q), some (.ref n), some (zi i), d7] [] := by
        intro f9
        induction f9 with
        | zero => intro q i d7 k1 k2 n1 J1 m1 hm9; exact absurd hm9 (Nat.not_lt_zero _)
        | succ f9 ih21 =>
          intro q i d7 k1 k2 n1 J1 m1 hm21 hq hi hk hn g1 w1
          have l1 := g1.1.1.2
          have tt1 := g1.1.1.1.told
          refine tz_iload (pc := 21) dX12_withPut_21 rfl ?_
          refine tz_aload_n (pc := 23) dX12_withPut_23 rfl rfl ?_
          refine tz_iload_n (pc := 24) dX12_withPut_24 rfl rfl ?_
          refine tz_cV (pc := 25) (m_arity hl n1 _ _ (by omega) 0 0 0 s m1 g1.1.1.1 (by omega)) vl_X12_111 dX12_withPut_25 o_164 rfl rfl (Nat.le_of_ble_eq_true rfl) ⟨(show 2 + 1 ≤ 14 + 1 * (r9 + 1) by omega), (show 8 + (2 + 11) + 40 * (2) ≤ 40 * (14 + 1 * (r9 + 1)) by omega)⟩ rfl rfl (show k1 ≤ r9 + 1 by omega) (show k2 ≤ 3 * (r9 + 1) by omega) (fun r9 J_25 hq9 => ?_)
          obtain ⟨z_25, rfl, hz_25, rfl, hv_25⟩ := hq9
          rw [g1.ar hn0 ht] at hv_25
          obtain rfl : mar J 0 0 t = z_25 := hv_25
          refine tz_icmp_ge (pc := 28) (tgt := 88) dX12_withPut_28 (by decide) (by omega) (by omega) (fun h_28 => ?_) (fun h_28 => ?_)
          · refine tz_aload_n (pc := 88) dX12_withPut_88 rfl rfl ?_
            refine tz_iload_n (pc := 89) dX12_withPut_89 rfl rfl ?_
            refine tz_aload (pc := 90) dX12_withPut_90 rfl ?_
            refine tz_iconst (pc := 92) dX12_withPut_92 ?_
            refine tz_aL (pc := 93) (z := 0) (v := (J1 n 0)) dX12_withPut_93 (cA_new hn0 (by omega)) rfl (by decide) rfl (fun r_93 => ?_)
            refine tz_aload (pc := 94) dX12_withPut_94 rfl ?_
            refine tz_iconst (pc := 96) dX12_withPut_96 ?_
            refine tz_aL (pc := 97) (z := 1) (v := (J1 n 1)) dX12_withPut_97 (cA_new hn0 (by omega)) rfl (by decide) rfl (fun r_97 => ?_)
            refine tz_aload (pc := 98) dX12_withPut_98 rfl ?_
            refine tz_iconst (pc := 100) dX12_withPut_100 ?_
            refine tz_aL (pc := 101) (z := 2) (v := (J1 n 2)) dX12_withPut_101 (cA_new hn0 (by omega)) rfl (by decide) rfl (fun r_101 => ?_)
            refine tz_cV (pc := 102) (o_remade hl n1 _ _ _ _ _ (by omega) (by omega) (by omega) (by omega) s m1 g1.1.1.1 ((g1.1.2.2.1.2.2.1 9 rfl).trans hs) (by omega) (fun q9 => by have e0 := g1.2 q9 0; have e1 := g1.2 q9 1; have e2 := g1.2 q9 2; rw [g1.ar hn0 ht]; omega)) vl_X12_152 dX12_withPut_102 o_164 rfl rfl (Nat.le_of_ble_eq_true rfl) ⟨(show 3 + 1 ≤ 14 + 1 * (r9 + 1) by omega), (show 8 + (5 + 11) + 40 * (3) ≤ 40 * (14 + 1 * (r9 + 1)) by omega)⟩ rfl rfl (show k1 ≤ r9 + 1 by omega) (show k2 ≤ 3 * (r9 + 1) by omega) (fun r9 J_102 hq9 => ?_)
            obtain ⟨z_102, rfl, hz_102, m3, g3, h3, x3⟩ := hq9
            exact tz_iret (pc := 105) (z := z_102) dX12_withPut_105 rfl (by omega) (by omega) ⟨by omega, by omega⟩ ⟨_, rfl, (by omega), ⟨m3, g1.1.tr (g3.mono (fun _ q => by simp at q) (fun _ q => q) (fun _ q => q)), h3, fun k hk => WQP.end (show WQP o n J1 J t p q (mar J 0 0 t) from (show i = mar J 0 0 t by omega) ▸ w1) hM ht (by omega) (g1.1.2.1 t ht.1 ht.2).1.1 (fun k => congrFun (g1.1.2.2.1.2.2.2 170 (zbr (by omega) (by decide))) k) x3 k hk⟩⟩
          · refine tz_aload_n (pc := 31) dX12_withPut_31 rfl rfl ?_
            refine tz_aload_n (pc := 32) dX12_withPut_32 rfl rfl ?_
            refine tz_iload_n (pc := 33) dX12_withPut_33 rfl rfl ?_
            refine tz_iload (pc := 34) dX12_withPut_34 rfl ?_
            refine tz_cV (pc := 36) (m_arg hl n1 _ _ _ (by omega) (by omega) 0 0 0 s m1 g1.1.1.1 (by omega) (by omega)) vl_X12_88 dX12_withPut_36 o_164 rfl rfl (Nat.le_of_ble_eq_true rfl) ⟨(show 0 + 1 ≤ 14 + 1 * (r9 + 1) by omega), (show 8 + (3 + 11) + 40 * (0) ≤ 40 * (14 + 1 * (r9 + 1)) by omega)⟩ rfl rfl (show k1 ≤ r9 + 1 by omega) (show k2 ≤ 3 * (r9 + 1) by omega) (fun r9 J_36 hq9 => ?_)
            obtain ⟨z_36, rfl, hz_36, rfl, hv_36⟩ := hq9
            rw [(g1.1.2.1 t ht.1 ht.2).2 i (by omega) (by omega)] at hv_36
            obtain rfl : J 167 (3 * (0 + t) + i) = z_36 := hv_36
            have hg_36 := hM.arg ht (i := i) (by omega)
            have hs9 := g1.1.1.1.sz (t := J 167 (3 * (0 + t) + i)) (by omega)
            refine tz_cV (pc := 39) (m_size hl n1 _ _ (by omega) 0 0 0 s m1 g1.1.1.1 (by omega)) vl_X12_114 dX12_withPut_39 o_164 rfl rfl (Nat.le_of_ble_eq_true rfl) ⟨(show 10 + 1 ≤ 14 + 1 * (r9 + 1) by omega), (show 8 + (4 + 11) + 40 * (10) ≤ 40 * (14 + 1 * (r9 + 1)) by omega)⟩ rfl rfl (show k1 ≤ r9 + 1 by omega) (show k2 ≤ 3 * (r9 + 1) by omega) (fun r9 J_39 hq9 => ?_)
            obtain ⟨z_39, rfl, hz_39, rfl, rfl⟩ := hq9
            refine tz_istore (pc := 42) (L2 := [_, _, _, _, _, _, _, _]) dX12_withPut_42 (by decide) rfl ?_
            refine tz_iload (pc := 44) dX12_withPut_44 rfl ?_
            refine tz_if_lt (pc := 46) (tgt := 75) dX12_withPut_46 (by decide) (by omega) (fun h_46 => ?_) (fun h_46 => ?_)
            · refine tz_iload (pc := 75) dX12_withPut_75 rfl ?_
              refine tz_iload (pc := 77) dX12_withPut_77 rfl ?_
              refine tz_isub (pc := 79) (v := q - (msz J1 0 0 (J 167 (3 * (0 + t) + i)))) dX12_withPut_79 rfl ?_
              refine tz_istore (pc := 80) (L2 := [_, _, _, _, _, _, _, _]) dX12_withPut_80 (by decide) rfl ?_
              refine tz_iinc (pc := 82) (z := i + 1) (L2 := [_, _, _, _, _, _, _, _]) dX12_withPut_82 rfl (by omega) rfl ?_
              refine tz_goto (pc := 85) (tgt := 21) dX12_withPut_85 (by decide) ?_
              exact ih21 (q - (msz J1 0 0 (J 167 (3 * (0 + t) + i)))) (i + 1) _ k1 k2 n1 J1 m1 (by omega) (by omega) (by omega) (by omega) (by omega) g1 (w1.no hM g1.1.1.1 l1 ht (by omega) rfl (by omega) (by omega))
            · refine tz_iload (pc := 49) dX12_withPut_49 rfl ?_
              refine tz_iload (pc := 51) dX12_withPut_51 rfl ?_
              refine tz_icmp_ge (pc := 53) (tgt := 75) dX12_withPut_53 (by decide) (by omega) (by omega) (fun h_53 => ?_) (fun h_53 => ?_)
              · refine tz_iload (pc := 75) dX12_withPut_75 rfl ?_
                refine tz_iload (pc := 77) dX12_withPut_77 rfl ?_
                refine tz_isub (pc := 79) (v := q - (msz J1 0 0 (J 167 (3 * (0 + t) + i)))) dX12_withPut_79 rfl ?_
                refine tz_istore (pc := 80) (L2 := [_, _, _, _, _, _, _, _]) dX12_withPut_80 (by decide) rfl ?_
                refine tz_iinc (pc := 82) (z := i + 1) (L2 := [_, _, _, _, _, _, _, _]) dX12_withPut_82 rfl (by omega) rfl ?_
                refine tz_goto (pc := 85) (tgt := 21) dX12_withPut_85 (by decide) ?_
                exact ih21 (q - (msz J1 0 0 (J 167 (3 * (0 + t) + i)))) (i + 1) _ k1 k2 n1 J1 m1 (by omega) (by omega) (by omega) (by omega) (by omega) g1 (w1.no hM g1.1.1.1 l1 ht (by omega) rfl (by omega) (by omega))
              · refine tz_aload (pc := 56) dX12_withPut_56 rfl ?_
                refine tz_iload (pc := 58) dX12_withPut_58 rfl ?_
                refine tz_aload_n (pc := 60) dX12_withPut_60 rfl rfl ?_
                refine tz_aload_n (pc := 61) dX12_withPut_61 rfl rfl ?_
                refine tz_iload_n (pc := 62) dX12_withPut_62 rfl rfl ?_
                refine tz_iload (pc := 63) dX12_withPut_63 rfl ?_
                refine tz_cV (pc := 65) (m_arg hl n1 _ _ _ (by omega) (by omega) 0 0 0 s m1 g1.1.1.1 (by omega) (by omega)) vl_X12_88 dX12_withPut_65 o_164 rfl rfl (Nat.le_of_ble_eq_true rfl) ⟨(show 0 + 1 ≤ 14 + 1 * (r9 + 1) by omega), (show 8 + (3 + 11) + 40 * (0) ≤ 40 * (14 + 1 * (r9 + 1)) by omega)⟩ rfl rfl (show k1 ≤ r9 + 1 by omega) (show k2 ≤ 3 * (r9 + 1) by omega) (fun r9 J_65 hq9 => ?_)
                obtain ⟨z_65, rfl, hz_65, rfl, hv_65⟩ := hq9
                rw [(g1.1.2.1 t ht.1 ht.2).2 i (by omega) (by omega)] at hv_65
                obtain rfl : J 167 (3 * (0 + t) + i) = z_65 := hv_65
                have hg_65 := hM.arg ht (i := i) (by omega)
                refine tz_iload (pc := 68) dX12_withPut_68 rfl ?_
                refine tz_iload_n (pc := 70) dX12_withPut_70 rfl rfl ?_
                obtain ⟨hk9, hk8⟩ := hk.1 (by omega)
                have hn9 : n1 = n + 1 := by omega
                have d9 := (g1.1.2.1 (J 167 (3 * (0 + t) + i)) (by omega) (by omega)).1.2
                refine tz_cVX (pc := 71) (ih n1 _ _ _ _ (by omega) (by omega) (by omega) s m1 g1.1.1.1 ((g1.1.2.2.1.2.2.1 9 rfl).trans hs) (by omega) (by omega) (by omega) (by omega) (by omega) (by omega) (by rw [d9]; omega)) vl_X12_419 dX12_withPut_71 o_164 rfl rfl (Nat.le_of_ble_eq_true rfl) ⟨(show (14 + 1 * r9) + 1 ≤ 14 + 1 * (r9 + 1) by omega), (show 8 + (8 + 11) + 40 * ((14 + 1 * r9)) ≤ 40 * (14 + 1 * (r9 + 1)) by omega)⟩ rfl rfl (show k1 + r9 ≤ r9 + 1 by omega) (show k2 + (3 * r9) ≤ 3 * (r9 + 1) by omega) (fun r8 n_71 J_71 hn1_71 hn2_71 hq9 => ?_) (fun E9 n_71 J_71 hn1_71 hn2_71 hx9 => hx9.elim)
                obtain ⟨z_71, rfl, hz_71, m2, g2, h2, x2⟩ := hq9
                rw [hn9] at g2
                have g3 := g1.st (i := i) g2 h2 hn0
                have en9 := WP.row g2
                have w3 := w1.st hM g1.1.1.1 l1 ht (by omega) rfl (by omega) hn0 en9 (fun k hk => x2 k (by rw [d9]; exact hk))
                refine tz_aS (pc := 74) (z := i) dX12_withPut_74 (cA_new hn0 (by omega)) rfl (by omega) (by omega) ?_
                refine tz_iload (pc := 75) dX12_withPut_75 rfl ?_
                refine tz_iload (pc := 77) dX12_withPut_77 rfl ?_
                refine tz_isub (pc := 79) (v := q - (msz J1 0 0 (J 167 (3 * (0 + t) + i)))) dX12_withPut_79 rfl ?_
                refine tz_istore (pc := 80) (L2 := [_, _, _, _, _, _, _, _]) dX12_withPut_80 (by decide) rfl ?_
                refine tz_iinc (pc := 82) (z := i + 1) (L2 := [_, _, _, _, _, _, _, _]) dX12_withPut_82 rfl (by omega) rfl ?_
                refine tz_goto (pc := 85) (tgt := 21) dX12_withPut_85 (by decide) ?_
                exact ih21 (q - (msz J1 0 0 (J 167 (3 * (0 + t) + i)))) (i + 1) _ _ _ n_71 _ m2 (by omega) (by omega) (by omega) (by omega) (by omega) g3 w3
      exact loop21 _ _ 0 none _ _ _ _ m (Nat.lt_succ_self _) (by omega) (by omega) ⟨fun _ => ⟨rfl, rfl⟩, by omega, by omega⟩ ⟨by omega, by omega⟩ (WP.in hM ht pa hn0) (WQP.in pa hn0 (by omega))
    · refine tz_iload_n (pc := 4) dX12_withPut_4 rfl rfl ?_
      exact tz_iret (pc := 5) (z := o) dX12_withPut_5 rfl (Nat.le_of_ble_eq_true rfl) (Nat.le_of_ble_eq_true rfl) ⟨Nat.le_refl _, Nat.le_add_right _ _⟩ ⟨_, rfl, (by omega), ⟨m, MG.rf hM, fun _ => by omega, fun k hk => by obtain ⟨k9, rfl⟩ : ∃ k9, k = k9 + 1 := ⟨k - 1, by omega⟩; rw [puO_s, if_pos (by omega)]⟩⟩
theorem o_withPut {l : Launch} {G : tb_G} (hl : l.stackTraces = false) (n : Nat) (J : zJ) (t : Int) (p : Int) (o : Int) (hr_t : -2147483648 ≤ t ∧ t < 2147483648) (hr_p : -2147483648 ≤ p ∧ p < 2147483648) (hr_o : -2147483648 ≤ o ∧ o < 2147483648) (s m : Int) (hM : MS J 0 0 0 s m) (hs : J 164 9 = s) (ht : 0 ≤ t ∧ t < m) (ho : 0 ≤ o ∧ o < m) (hp : 0 ≤ p) (hpz : p < msz J 0 0 t) (hn0 : 184 ≤ n) (hns : n + 7 < tb_sc) : tz_Ok l G M_X12_withPut 21 7 21 [.ref 164, zi t, zi p, zi o] n J (zqi (fun z J' => ∃ m', MG (List.range' n 7) [] (fun _ => false) J' J 0 0 0 s m m' ∧ (J' 164 21 = 0 → 0 ≤ z ∧ z < m') ∧ ∀ k : Nat, J 168 (0 + t) ≤ k → (tb0 J', z) = puO o k (tb0 J) t p)) zN := o_withPutR hl 7 n J t p o hr_t hr_p hr_o s m hM hs ht ho hp hpz hn0 hns (by have := (hM.ar ht).2.2.1; omega)
