set_option maxHeartbeats 4000000 in
set_option maxRecDepth 100000 in
theorem c_listAll {l : Launch} {G : tb_G} (hl : l.stackTraces = false) (n : Nat) (J : zJ) (x : Int) (hr_x : -2147483648 ≤ x ∧ x < 2147483648) (b m : Int) (C : CT J m) (hU : UI J b m) (hx : nd b m x) (ax : J 146 x = J 145 10) : tz_Ok l G M_X10_listAll 3 0 0 [.ref 145, zi x] n J (zqi (fun z J' => UW J' J b m ∧ zOf (zbut [146, 147, 148, 149, 150, 153, 154]) J' J)) zN := by
  refine tz_Ok.of hl (by decide +kernel) rfl (tb_c1 rfl) (Nat.le_of_ble_eq_true rfl) ?_
  show tz_At l G M_X10_listAll (tb_rm 3 0 0) none (tb_ZM G 0 0 (zQ n 0 (zqi (fun z J' => UW J' J b m ∧ zOf (zbut [146, 147, 148, 149, 150, 153, 154]) J' J))) (zX n 0 zN)) 0 0 n J 0 [some (.ref 145), some (zi x), none, none, none, none, none] []
  have hb := C.told
  have hm := hb.2
  have hx2 := hx.rg hm
  have hL0 : lsI J J b m 0 := ⟨by decide, fun k a c => by omega⟩
  refine tz_iconst (pc := 0) dX10_listAll_0 ?_
  refine tz_istore_n (pc := 1) (L2 := [_, _, _, _, _, _, _]) dX10_listAll_1 rfl (by decide) rfl ?_
  refine tz_aload_n (pc := 2) dX10_listAll_2 rfl rfl ?_
  refine tz_fR (pc := 3) dX10_listAll_3 fl_X10_33 r_145_8 ?_
  refine tz_iconst (pc := 6) dX10_listAll_6 ?_
  refine tz_iload_n (pc := 7) dX10_listAll_7 rfl rfl ?_
  refine tz_aS (pc := 8) (z := 0) dX10_listAll_8 a_153 rfl (by decide) (by omega) ?_
  refine tz_aload_n (pc := 9) dX10_listAll_9 rfl rfl ?_
  refine tz_fR (pc := 10) dX10_listAll_10 fl_X10_36 r_145_9 ?_
  refine tz_iload_n (pc := 13) dX10_listAll_13 rfl rfl ?_
  refine tz_iconst (pc := 14) dX10_listAll_14 ?_
  refine tz_aS (pc := 15) (z := x) dX10_listAll_15 a_154 rfl (by omega) (by decide) ?_
  refine tz_iconst (pc := 16) dX10_listAll_16 ?_
  refine tz_istore_n (pc := 17) (L2 := [_, _, _, _, _, _, _]) dX10_listAll_17 rfl (by decide) rfl ?_
  have loop18 : ∀ (f9 : Nat) (g : Int) (k : Int) (d4 : Option Value) (d5 : Option Value) (d6 : Option Value) (J1 : zJ), ((800 - k).toNat) < f9 → (0 ≤ k ∧ k ≤ 800) → (UW J1 J b m) → (lsI J1 J b m g) → (zOf (zbut [146, 147, 148, 149, 150, 153, 154]) J1 J) → tz_At l G M_X10_listAll (tb_rm 3 0 0) none (tb_ZM G 0 0 (zQ n 0 (zqi (fun z J' => UW J' J b m ∧ zOf (zbut [146, 147, 148, 149, 150, 153, 154]) J' J))) (zX n 0 zN)) 0 0 n J1 18 [some (.ref 145), some (zi x), some (zi g), some (zi k), d4, d5, d6] [] := by
    intro f9
    induction f9 with
    | zero => intro g k d4 d5 d6 J1 hm9; exact absurd hm9 (Nat.not_lt_zero _)
    | succ f9 ih18 =>
      intro g k d4 d5 d6 J1 hm18 hk u1 l1 f1
      have lr := l1.1
      refine tz_iload_n (pc := 18) dX10_listAll_18 rfl rfl ?_
      refine tz_iload_n (pc := 19) dX10_listAll_19 rfl rfl ?_
      refine tz_icmp_ge (pc := 20) (tgt := 145) dX10_listAll_20 (by decide) (by omega) (by omega) (fun h_20 => ?_) (fun h_20 => ?_)
      · refine tz_iload_n (pc := 145) dX10_listAll_145 rfl rfl ?_
        exact tz_iret (pc := 146) (z := g) dX10_listAll_146 rfl (Nat.le_of_ble_eq_true rfl) (Nat.le_of_ble_eq_true rfl) ⟨Nat.le_refl _, Nat.le_add_right _ _⟩ ⟨_, rfl, (by omega), ⟨u1, f1⟩⟩
      · refine tz_iload_n (pc := 23) dX10_listAll_23 rfl rfl ?_
        refine tz_sipush (pc := 24) dX10_listAll_24 (by decide) ?_
        refine tz_icmp_ge (pc := 27) (tgt := 145) dX10_listAll_27 (by decide) (by omega) (by decide) (fun h_27 => ?_) (fun h_27 => ?_)
        · refine tz_iload_n (pc := 145) dX10_listAll_145 rfl rfl ?_
          exact tz_iret (pc := 146) (z := g) dX10_listAll_146 rfl (Nat.le_of_ble_eq_true rfl) (Nat.le_of_ble_eq_true rfl) ⟨Nat.le_refl _, Nat.le_add_right _ _⟩ ⟨_, rfl, (by omega), ⟨u1, f1⟩⟩
        · refine tz_aload_n (pc := 30) dX10_listAll_30 rfl rfl ?_
          refine tz_fR (pc := 31) dX10_listAll_31 fl_X10_18 r_145_3 ?_
          refine tz_aload_n (pc := 34) dX10_listAll_34 rfl rfl ?_
          refine tz_fR (pc := 35) dX10_listAll_35 fl_X10_33 r_145_8 ?_
          refine tz_iload_n (pc := 38) dX10_listAll_38 rfl rfl ?_
          refine tz_aL (pc := 39) (z := k) (v := (J1 153 k)) dX10_listAll_39 a_153 rfl (by omega) rfl (fun r_39 => ?_)
          have q0 := l1.2 k (by omega) (by omega)
          have q0r := q0.1.rg hm
          have q1 := (u1.at hm q0.1 q0.2).2.2.1
          refine tz_aL (pc := 40) (z := (J1 153 k)) (v := (J1 148 (J1 153 k))) dX10_listAll_40 a_148 rfl (by omega) rfl (fun r_40 => ?_)
          refine tz_istore (pc := 41) (L2 := [_, _, _, _, _, _, _]) dX10_listAll_41 (by decide) rfl ?_
          refine tz_iconst (pc := 43) dX10_listAll_43 ?_
          refine tz_istore (pc := 44) (L2 := [_, _, _, _, _, _, _]) dX10_listAll_44 (by decide) rfl ?_
          have loop46 : ∀ (f9 : Nat) (g2 : Int) (i : Int) (e6 : Option Value) (J2 : zJ), ((3 - i).toNat) < f9 → (0 ≤ i ∧ i ≤ 3) → (UW J2 J b m) → (lsI J2 J b m g2) → (zOf (zbut [146, 147, 148, 149, 150, 153, 154]) J2 J) → tz_At l G M_X10_listAll (tb_rm 3 0 0) none (tb_ZM G 0 0 (zQ n 0 (zqi (fun z J' => UW J' J b m ∧ zOf (zbut [146, 147, 148, 149, 150, 153, 154]) J' J))) (zX n 0 zN)) 0 0 n J2 46 [some (.ref 145), some (zi x), some (zi g2), some (zi k), some (zi (J1 148 (J1 153 k))), some (zi i), e6] [] := by
            intro f9
            induction f9 with
            | zero => intro g2 i e6 J2 hm9; exact absurd hm9 (Nat.not_lt_zero _)
            | succ f9 ih46 =>
              intro g2 i e6 J2 hm46 hi u2 l2 f2
              have l2r := l2.1
              have e8 := f2 8 rfl
              refine tz_iload (pc := 46) dX10_listAll_46 rfl ?_
              refine tz_iconst (pc := 48) dX10_listAll_48 ?_
              refine tz_icmp_eq (pc := 49) (tgt := 139) dX10_listAll_49 (by decide) (by omega) (by decide) (fun h_49 => ?_) (fun h_49 => ?_)
              · refine tz_iinc (pc := 139) (z := k + 1) (L2 := [_, _, _, _, _, _, _]) dX10_listAll_139 rfl (by omega) rfl ?_
                refine tz_goto (pc := 142) (tgt := 18) dX10_listAll_142 (by decide) ?_
                exact ih18 _ (k + 1) _ _ _ _ (by omega) (by omega) u2 l2 f2
              · have hn0 := q1.resolve_left (by omega)
                have hnr := hn0.rg hm
                have hnt := hn0.ix hm
                have ha8 := C.ar hnt.1 hnt.2
                refine tz_iload (pc := 52) dX10_listAll_52 rfl ?_
                refine tz_aload_n (pc := 54) dX10_listAll_54 rfl rfl ?_
                refine tz_fR (pc := 55) dX10_listAll_55 fl_X10_46 r_145_0 ?_
                refine tz_fR (pc := 58) dX10_listAll_58 fl_X10_90 r_6_2 ?_
                refine tz_aload_n (pc := 61) dX10_listAll_61 rfl rfl ?_
                refine tz_iload (pc := 62) dX10_listAll_62 rfl ?_
                refine tz_cV (pc := 64) (c_uTerm hl n _ _ (by omega) (by omega)) vl_X10_68 dX10_listAll_64 o_145 rfl rfl (Nat.le_of_ble_eq_true rfl) ⟨(Nat.le_of_ble_eq_true rfl), (Nat.le_of_ble_eq_true rfl)⟩ rfl rfl (Nat.le_of_ble_eq_true rfl) (Nat.le_of_ble_eq_true rfl) (fun r9 J_64 hq9 => ?_)
                obtain ⟨z_64, rfl, hz_64, rfl, rfl⟩ := hq9
                refine tz_aL (pc := 67) (z := (tm (J1 148 (J1 153 k)))) (v := (J 8 (tm (J1 148 (J1 153 k))))) dX10_listAll_67 a_8 rfl (by omega) (Eq.trans (congrFun (f2 8 rfl) (tm (J1 148 (J1 153 k)))) rfl) (fun r_67 => ?_)
                refine tz_icmp_ge (pc := 68) (tgt := 139) dX10_listAll_68 (by decide) (by omega) (by omega) (fun h_68 => ?_) (fun h_68 => ?_)
                · refine tz_iinc (pc := 139) (z := k + 1) (L2 := [_, _, _, _, _, _, _]) dX10_listAll_139 rfl (by omega) rfl ?_
                  refine tz_goto (pc := 142) (tgt := 18) dX10_listAll_142 (by decide) ?_
                  exact ih18 _ (k + 1) _ _ _ _ (by omega) (by omega) u2 l2 f2
                · refine tz_aload_n (pc := 71) dX10_listAll_71 rfl rfl ?_
                  refine tz_aload_n (pc := 72) dX10_listAll_72 rfl rfl ?_
                  refine tz_iload (pc := 73) dX10_listAll_73 rfl ?_
                  refine tz_iload (pc := 75) dX10_listAll_75 rfl ?_
                  refine tz_cV (pc := 77) (c_part hl n _ _ _ (by omega) (by omega) b m (C.of (fun c hc => f2 c (by simp [zbut]; omega))) hn0 (by rw [f2 8 rfl]; omega)) vl_X10_93 dX10_listAll_77 o_145 rfl rfl (Nat.le_of_ble_eq_true rfl) ⟨(Nat.le_of_ble_eq_true rfl), (Nat.le_of_ble_eq_true rfl)⟩ rfl rfl (Nat.le_of_ble_eq_true rfl) (Nat.le_of_ble_eq_true rfl) (fun r9 J_77 hq9 => ?_)
                  obtain ⟨zp, rfl, hz_77, rfl, hn9⟩ := hq9
                  refine tz_cV (pc := 80) (c_top hl n _ _ (by omega) b m hm hn9 u2.1) vl_X10_54 dX10_listAll_80 o_145 rfl rfl (Nat.le_of_ble_eq_true rfl) ⟨(Nat.le_of_ble_eq_true rfl), (Nat.le_of_ble_eq_true rfl)⟩ rfl rfl (Nat.le_of_ble_eq_true rfl) (Nat.le_of_ble_eq_true rfl) (fun r9 J3 hq9 => ?_)
                  obtain ⟨zt, rfl, hz_80, t1, t2, t3⟩ := hq9
                  have tr := t2.1.rg hm
                  have l3 := l2.of (t3 153 rfl) (fun x q => by have := t1.2.2 x; rw [u2.2.1] at this; exact this q)
                  have a3 := t2.2
                  rw [u2.2.1] at a3
                  refine tz_istore (pc := 83) (L2 := [_, _, _, _, _, _, _]) dX10_listAll_83 (by decide) rfl ?_
                  refine tz_aload_n (pc := 85) dX10_listAll_85 rfl rfl ?_
                  refine tz_fR (pc := 86) dX10_listAll_86 fl_X10_36 r_145_9 ?_
                  refine tz_iload (pc := 89) dX10_listAll_89 rfl ?_
                  refine tz_aL (pc := 91) (z := zt) (v := (J3 154 zt)) dX10_listAll_91 a_154 rfl (by omega) rfl (fun r_91 => ?_)
                  refine tz_iconst (pc := 92) dX10_listAll_92 ?_
                  refine tz_icmp_ne (pc := 93) (tgt := 122) dX10_listAll_93 (by decide) (by omega) (by decide) (fun h_93 => ?_) (fun h_93 => ?_)
                  · refine tz_aload_n (pc := 122) dX10_listAll_122 rfl rfl ?_
                    refine tz_fR (pc := 123) dX10_listAll_123 fl_X10_36 r_145_9 ?_
                    refine tz_iload (pc := 126) dX10_listAll_126 rfl ?_
                    refine tz_dup2 (pc := 128) dX10_listAll_128 rfl rfl ?_
                    refine tz_aL (pc := 129) (z := zt) (v := (J3 154 zt)) dX10_listAll_129 a_154 rfl (by omega) rfl (fun r_129 => ?_)
                    refine tz_iconst (pc := 130) dX10_listAll_130 ?_
                    refine tz_iadd (pc := 131) (v := (J3 154 zt) + 1) dX10_listAll_131 rfl ?_
                    refine tz_tw ?_
                    have rw_132 := zw_rg ((J3 154 zt) + 1)
                    refine tz_aS (pc := 132) (z := zt) dX10_listAll_132 a_154 rfl (by omega) (zw_rg _) ?_
                    refine tz_iinc (pc := 133) (z := i + 1) (L2 := [_, _, _, _, _, _, _]) dX10_listAll_133 rfl (by omega) rfl ?_
                    refine tz_goto (pc := 136) (tgt := 46) dX10_listAll_136 (by decide) ?_
                    exact ih46 (g2) (i + 1) _ _ (by omega) (by omega) ((t1.tr u2).of (Int.le_refl _) rfl (fun c hc => by rcases (show c = 146 ∨ c = 147 ∨ c = 148 ∨ c = 149 ∨ c = 150 by omega) with rfl | rfl | rfl | rfl | rfl <;> rfl)) (lsI.of l3 rfl (fun _ q => q)) (zOf.up rfl ((t3.mono (fun c hc => by simp [zbut] at hc ⊢; omega)).tr f2))
                  · refine tz_iload_n (pc := 96) dX10_listAll_96 rfl rfl ?_
                    refine tz_sipush (pc := 97) dX10_listAll_97 (by decide) ?_
                    refine tz_icmp_ge (pc := 100) (tgt := 122) dX10_listAll_100 (by decide) (by omega) (by decide) (fun h_100 => ?_) (fun h_100 => ?_)
                    · refine tz_aload_n (pc := 122) dX10_listAll_122 rfl rfl ?_
                      refine tz_fR (pc := 123) dX10_listAll_123 fl_X10_36 r_145_9 ?_
                      refine tz_iload (pc := 126) dX10_listAll_126 rfl ?_
                      refine tz_dup2 (pc := 128) dX10_listAll_128 rfl rfl ?_
                      refine tz_aL (pc := 129) (z := zt) (v := (J3 154 zt)) dX10_listAll_129 a_154 rfl (by omega) rfl (fun r_129 => ?_)
                      refine tz_iconst (pc := 130) dX10_listAll_130 ?_
                      refine tz_iadd (pc := 131) (v := (J3 154 zt) + 1) dX10_listAll_131 rfl ?_
                      refine tz_tw ?_
                      have rw_132 := zw_rg ((J3 154 zt) + 1)
                      refine tz_aS (pc := 132) (z := zt) dX10_listAll_132 a_154 rfl (by omega) (zw_rg _) ?_
                      refine tz_iinc (pc := 133) (z := i + 1) (L2 := [_, _, _, _, _, _, _]) dX10_listAll_133 rfl (by omega) rfl ?_
                      refine tz_goto (pc := 136) (tgt := 46) dX10_listAll_136 (by decide) ?_
                      exact ih46 (g2) (i + 1) _ _ (by omega) (by omega) ((t1.tr u2).of (Int.le_refl _) rfl (fun c hc => by rcases (show c = 146 ∨ c = 147 ∨ c = 148 ∨ c = 149 ∨ c = 150 by omega) with rfl | rfl | rfl | rfl | rfl <;> rfl)) (lsI.of l3 rfl (fun _ q => q)) (zOf.up rfl ((t3.mono (fun c hc => by simp [zbut] at hc ⊢; omega)).tr f2))
                    · refine tz_aload_n (pc := 103) dX10_listAll_103 rfl rfl ?_
                      refine tz_fR (pc := 104) dX10_listAll_104 fl_X10_36 r_145_9 ?_
                      refine tz_iload (pc := 107) dX10_listAll_107 rfl ?_
                      refine tz_iconst (pc := 109) dX10_listAll_109 ?_
                      refine tz_aS (pc := 110) (z := zt) dX10_listAll_110 a_154 rfl (by omega) (by decide) ?_
                      refine tz_aload_n (pc := 111) dX10_listAll_111 rfl rfl ?_
                      refine tz_fR (pc := 112) dX10_listAll_112 fl_X10_33 r_145_8 ?_
                      refine tz_iload_n (pc := 115) dX10_listAll_115 rfl rfl ?_
                      refine tz_iload (pc := 116) dX10_listAll_116 rfl ?_
                      refine tz_aS (pc := 118) (z := g2) dX10_listAll_118 a_153 rfl (by omega) (by omega) ?_
                      refine tz_iinc (pc := 119) (z := g2 + 1) (L2 := [_, _, _, _, _, _, _]) dX10_listAll_119 rfl (by omega) rfl ?_
                      refine tz_aload_n (pc := 122) dX10_listAll_122 rfl rfl ?_
                      refine tz_fR (pc := 123) dX10_listAll_123 fl_X10_36 r_145_9 ?_
                      refine tz_iload (pc := 126) dX10_listAll_126 rfl ?_
                      refine tz_dup2 (pc := 128) dX10_listAll_128 rfl rfl ?_
                      refine tz_aL (pc := 129) (z := zt) (v := 0) dX10_listAll_129 a_154 rfl (by omega) (by simp [zup]) (fun _ => ?_)
                      refine tz_iconst (pc := 130) dX10_listAll_130 ?_
                      refine tz_iadd (pc := 131) (v := 1) dX10_listAll_131 (by decide) ?_
                      refine tz_aS (pc := 132) (z := zt) dX10_listAll_132 a_154 rfl (by omega) (by decide) ?_
                      refine tz_iinc (pc := 133) (z := i + 1) (L2 := [_, _, _, _, _, _, _]) dX10_listAll_133 rfl (by omega) rfl ?_
                      refine tz_goto (pc := 136) (tgt := 46) dX10_listAll_136 (by decide) ?_
                      exact ih46 (g2 + 1) (i + 1) _ _ (by omega) (by omega) ((t1.tr u2).of (Int.le_refl _) rfl (fun c hc => by rcases (show c = 146 ∨ c = 147 ∨ c = 148 ∨ c = 149 ∨ c = 150 by omega) with rfl | rfl | rfl | rfl | rfl <;> rfl)) (lsI.of (lsI.push (lsI.of l3 rfl (fun _ q => q)) (by omega) t2.1 a3) rfl (fun _ q => q)) (zOf.up rfl (zOf.up rfl (zOf.up rfl ((t3.mono (fun c hc => by simp [zbut] at hc ⊢; omega)).tr f2))))
          exact loop46 _ _ 0 _ _ (Nat.lt_succ_self _) (by omega) u1 l1 f1
  exact loop18 _ 1 0 _ _ _ _ (Nat.lt_succ_self _) (by omega) ((UW.rf hU).of (Int.le_refl _) rfl (fun c hc => by rcases (show c = 146 ∨ c = 147 ∨ c = 148 ∨ c = 149 ∨ c = 150 by omega) with rfl | rfl | rfl | rfl | rfl <;> rfl)) (lsI.of (lsI.push hL0 (by decide) hx ax) rfl (fun _ q => q)) (zOf.up rfl (zOf.up rfl zOf.rf))

set_option maxHeartbeats 4000000 in
set_option maxRecDepth 100000 in
theorem c_taken {l : Launch} {G : tb_G} (hl : l.stackTraces = false) (n : Nat) (J : zJ) (x : Int) (hr_x : -2147483648 ≤ x ∧ x < 2147483648) (b m : Int) (C : CT J m) (hU : UI J b m) (hx : nd b m x) (ax : J 146 x = J 145 10) : tz_Ok l G M_X10_takenAway 3 0 0 [.ref 145, zi x] n J (zqi (fun z J' => UW J' J b m ∧ zOf (zbut [146, 147, 148, 149, 150, 153, 154]) J' J)) zN := by
  refine tz_Ok.of hl (by decide +kernel) rfl (tb_c1 rfl) (Nat.le_of_ble_eq_true rfl) ?_
  show tz_At l G M_X10_takenAway (tb_rm 3 0 0) none (tb_ZM G 0 0 (zQ n 0 (zqi (fun z J' => UW J' J b m ∧ zOf (zbut [146, 147, 148, 149, 150, 153, 154]) J' J))) (zX n 0 zN)) 0 0 n J 0 [some (.ref 145), some (zi x), none, none, none, none, none] []
  have hb := C.told
  have hm := hb.2
  have hx2 := hx.rg hm
  have hL0 : lsI J J b m 0 := ⟨by decide, fun k a c => by omega⟩
  refine tz_iconst (pc := 0) dX10_takenAway_0 ?_
  refine tz_istore_n (pc := 1) (L2 := [_, _, _, _, _, _, _]) dX10_takenAway_1 rfl (by decide) rfl ?_
  refine tz_aload_n (pc := 2) dX10_takenAway_2 rfl rfl ?_
  refine tz_fR (pc := 3) dX10_takenAway_3 fl_X10_36 r_145_9 ?_
  refine tz_iload_n (pc := 6) dX10_takenAway_6 rfl rfl ?_
  refine tz_aL (pc := 7) (z := x) (v := (J 154 x)) dX10_takenAway_7 a_154 rfl (by omega) rfl (fun r_7 => ?_)
  refine tz_if_ne (pc := 8) (tgt := 21) dX10_takenAway_8 (by decide) (by omega) (fun h_8 => ?_) (fun h_8 => ?_)
  · refine tz_iconst (pc := 21) dX10_takenAway_21 ?_
    refine tz_istore_n (pc := 22) (L2 := [_, _, _, _, _, _, _]) dX10_takenAway_22 rfl (by decide) rfl ?_
    have loop23 : ∀ (f9 : Nat) (g : Int) (k : Int) (d4 : Option Value) (d5 : Option Value) (d6 : Option Value) (J1 : zJ), ((800 - k).toNat) < f9 → (0 ≤ k ∧ k ≤ 800) → (UW J1 J b m) → (lsI J1 J b m g) → (zOf (zbut [146, 147, 148, 149, 150, 153, 154]) J1 J) → tz_At l G M_X10_takenAway (tb_rm 3 0 0) none (tb_ZM G 0 0 (zQ n 0 (zqi (fun z J' => UW J' J b m ∧ zOf (zbut [146, 147, 148, 149, 150, 153, 154]) J' J))) (zX n 0 zN)) 0 0 n J1 23 [some (.ref 145), some (zi x), some (zi g), some (zi k), d4, d5, d6] [] := by
      intro f9
      induction f9 with
      | zero => intro g k d4 d5 d6 J1 hm9; exact absurd hm9 (Nat.not_lt_zero _)
      | succ f9 ih23 =>
        intro g k d4 d5 d6 J1 hm23 hk u1 l1 f1
        have lr := l1.1
        refine tz_iload_n (pc := 23) dX10_takenAway_23 rfl rfl ?_
        refine tz_iload_n (pc := 24) dX10_takenAway_24 rfl rfl ?_
        refine tz_icmp_ge (pc := 25) (tgt := 141) dX10_takenAway_25 (by decide) (by omega) (by omega) (fun h_25 => ?_) (fun h_25 => ?_)
        · refine tz_iload_n (pc := 141) dX10_takenAway_141 rfl rfl ?_
          exact tz_iret (pc := 142) (z := g) dX10_takenAway_142 rfl (Nat.le_of_ble_eq_true rfl) (Nat.le_of_ble_eq_true rfl) ⟨Nat.le_refl _, Nat.le_add_right _ _⟩ ⟨_, rfl, (by omega), ⟨u1, f1⟩⟩
        · refine tz_iload_n (pc := 28) dX10_takenAway_28 rfl rfl ?_
          refine tz_sipush (pc := 29) dX10_takenAway_29 (by decide) ?_
          refine tz_icmp_ge (pc := 32) (tgt := 141) dX10_takenAway_32 (by decide) (by omega) (by decide) (fun h_32 => ?_) (fun h_32 => ?_)
          · refine tz_iload_n (pc := 141) dX10_takenAway_141 rfl rfl ?_
            exact tz_iret (pc := 142) (z := g) dX10_takenAway_142 rfl (Nat.le_of_ble_eq_true rfl) (Nat.le_of_ble_eq_true rfl) ⟨Nat.le_refl _, Nat.le_add_right _ _⟩ ⟨_, rfl, (by omega), ⟨u1, f1⟩⟩
          · refine tz_aload_n (pc := 35) dX10_takenAway_35 rfl rfl ?_
            refine tz_fR (pc := 36) dX10_takenAway_36 fl_X10_18 r_145_3 ?_
            refine tz_aload_n (pc := 39) dX10_takenAway_39 rfl rfl ?_
            refine tz_fR (pc := 40) dX10_takenAway_40 fl_X10_33 r_145_8 ?_
            refine tz_iload_n (pc := 43) dX10_takenAway_43 rfl rfl ?_
            refine tz_aL (pc := 44) (z := k) (v := (J1 153 k)) dX10_takenAway_44 a_153 rfl (by omega) rfl (fun r_44 => ?_)
            have q0 := l1.2 k (by omega) (by omega)
            have q0r := q0.1.rg hm
            have q1 := (u1.at hm q0.1 q0.2).2.2.1
            refine tz_aL (pc := 45) (z := (J1 153 k)) (v := (J1 148 (J1 153 k))) dX10_takenAway_45 a_148 rfl (by omega) rfl (fun r_45 => ?_)
            refine tz_istore (pc := 46) (L2 := [_, _, _, _, _, _, _]) dX10_takenAway_46 (by decide) rfl ?_
            refine tz_iconst (pc := 48) dX10_takenAway_48 ?_
            refine tz_istore (pc := 49) (L2 := [_, _, _, _, _, _, _]) dX10_takenAway_49 (by decide) rfl ?_
            have loop51 : ∀ (f9 : Nat) (g2 : Int) (i : Int) (e6 : Option Value) (J2 : zJ), ((3 - i).toNat) < f9 → (0 ≤ i ∧ i ≤ 3) → (UW J2 J b m) → (lsI J2 J b m g2) → (zOf (zbut [146, 147, 148, 149, 150, 153, 154]) J2 J) → tz_At l G M_X10_takenAway (tb_rm 3 0 0) none (tb_ZM G 0 0 (zQ n 0 (zqi (fun z J' => UW J' J b m ∧ zOf (zbut [146, 147, 148, 149, 150, 153, 154]) J' J))) (zX n 0 zN)) 0 0 n J2 51 [some (.ref 145), some (zi x), some (zi g2), some (zi k), some (zi (J1 148 (J1 153 k))), some (zi i), e6] [] := by
              intro f9
              induction f9 with
              | zero => intro g2 i e6 J2 hm9; exact absurd hm9 (Nat.not_lt_zero _)
              | succ f9 ih51 =>
                intro g2 i e6 J2 hm51 hi u2 l2 f2
                have l2r := l2.1
                have e8 := f2 8 rfl
                refine tz_iload (pc := 51) dX10_takenAway_51 rfl ?_
                refine tz_iconst (pc := 53) dX10_takenAway_53 ?_
                refine tz_icmp_eq (pc := 54) (tgt := 135) dX10_takenAway_54 (by decide) (by omega) (by decide) (fun h_54 => ?_) (fun h_54 => ?_)
                · refine tz_iinc (pc := 135) (z := k + 1) (L2 := [_, _, _, _, _, _, _]) dX10_takenAway_135 rfl (by omega) rfl ?_
                  refine tz_goto (pc := 138) (tgt := 23) dX10_takenAway_138 (by decide) ?_
                  exact ih23 _ (k + 1) _ _ _ _ (by omega) (by omega) u2 l2 f2
                · have hn0 := q1.resolve_left (by omega)
                  have hnr := hn0.rg hm
                  have hnt := hn0.ix hm
                  have ha8 := C.ar hnt.1 hnt.2
                  refine tz_iload (pc := 57) dX10_takenAway_57 rfl ?_
                  refine tz_aload_n (pc := 59) dX10_takenAway_59 rfl rfl ?_
                  refine tz_fR (pc := 60) dX10_takenAway_60 fl_X10_46 r_145_0 ?_
                  refine tz_fR (pc := 63) dX10_takenAway_63 fl_X10_90 r_6_2 ?_
                  refine tz_aload_n (pc := 66) dX10_takenAway_66 rfl rfl ?_
                  refine tz_iload (pc := 67) dX10_takenAway_67 rfl ?_
                  refine tz_cV (pc := 69) (c_uTerm hl n _ _ (by omega) (by omega)) vl_X10_68 dX10_takenAway_69 o_145 rfl rfl (Nat.le_of_ble_eq_true rfl) ⟨(Nat.le_of_ble_eq_true rfl), (Nat.le_of_ble_eq_true rfl)⟩ rfl rfl (Nat.le_of_ble_eq_true rfl) (Nat.le_of_ble_eq_true rfl) (fun r9 J_69 hq9 => ?_)
                  obtain ⟨z_69, rfl, hz_69, rfl, rfl⟩ := hq9
                  refine tz_aL (pc := 72) (z := (tm (J1 148 (J1 153 k)))) (v := (J 8 (tm (J1 148 (J1 153 k))))) dX10_takenAway_72 a_8 rfl (by omega) (Eq.trans (congrFun (f2 8 rfl) (tm (J1 148 (J1 153 k)))) rfl) (fun r_72 => ?_)
                  refine tz_icmp_ge (pc := 73) (tgt := 135) dX10_takenAway_73 (by decide) (by omega) (by omega) (fun h_73 => ?_) (fun h_73 => ?_)
                  · refine tz_iinc (pc := 135) (z := k + 1) (L2 := [_, _, _, _, _, _, _]) dX10_takenAway_135 rfl (by omega) rfl ?_
                    refine tz_goto (pc := 138) (tgt := 23) dX10_takenAway_138 (by decide) ?_
                    exact ih23 _ (k + 1) _ _ _ _ (by omega) (by omega) u2 l2 f2
                  · refine tz_aload_n (pc := 76) dX10_takenAway_76 rfl rfl ?_
                    refine tz_aload_n (pc := 77) dX10_takenAway_77 rfl rfl ?_
                    refine tz_iload (pc := 78) dX10_takenAway_78 rfl ?_
                    refine tz_iload (pc := 80) dX10_takenAway_80 rfl ?_
                    refine tz_cV (pc := 82) (c_part hl n _ _ _ (by omega) (by omega) b m (C.of (fun c hc => f2 c (by simp [zbut]; omega))) hn0 (by rw [f2 8 rfl]; omega)) vl_X10_93 dX10_takenAway_82 o_145 rfl rfl (Nat.le_of_ble_eq_true rfl) ⟨(Nat.le_of_ble_eq_true rfl), (Nat.le_of_ble_eq_true rfl)⟩ rfl rfl (Nat.le_of_ble_eq_true rfl) (Nat.le_of_ble_eq_true rfl) (fun r9 J_82 hq9 => ?_)
                    obtain ⟨zp, rfl, hz_82, rfl, hn9⟩ := hq9
                    refine tz_cV (pc := 85) (c_top hl n _ _ (by omega) b m hm hn9 u2.1) vl_X10_54 dX10_takenAway_85 o_145 rfl rfl (Nat.le_of_ble_eq_true rfl) ⟨(Nat.le_of_ble_eq_true rfl), (Nat.le_of_ble_eq_true rfl)⟩ rfl rfl (Nat.le_of_ble_eq_true rfl) (Nat.le_of_ble_eq_true rfl) (fun r9 J3 hq9 => ?_)
                    obtain ⟨zt, rfl, hz_85, t1, t2, t3⟩ := hq9
                    have tr := t2.1.rg hm
                    have l3 := l2.of (t3 153 rfl) (fun x q => by have := t1.2.2 x; rw [u2.2.1] at this; exact this q)
                    have a3 := t2.2
                    rw [u2.2.1] at a3
                    refine tz_istore (pc := 88) (L2 := [_, _, _, _, _, _, _]) dX10_takenAway_88 (by decide) rfl ?_
                    refine tz_aload_n (pc := 90) dX10_takenAway_90 rfl rfl ?_
                    refine tz_fR (pc := 91) dX10_takenAway_91 fl_X10_36 r_145_9 ?_
                    refine tz_iload (pc := 94) dX10_takenAway_94 rfl ?_
                    refine tz_dup2 (pc := 96) dX10_takenAway_96 rfl rfl ?_
                    refine tz_aL (pc := 97) (z := zt) (v := (J3 154 zt)) dX10_takenAway_97 a_154 rfl (by omega) rfl (fun r_97 => ?_)
                    refine tz_iconst (pc := 98) dX10_takenAway_98 ?_
                    refine tz_isub (pc := 99) (v := (J3 154 zt) - 1) dX10_takenAway_99 rfl ?_
                    refine tz_tw ?_
                    have rw_100 := zw_rg ((J3 154 zt) - 1)
                    refine tz_aS (pc := 100) (z := zt) dX10_takenAway_100 a_154 rfl (by omega) (zw_rg _) ?_
                    refine tz_aload_n (pc := 101) dX10_takenAway_101 rfl rfl ?_
                    refine tz_fR (pc := 102) dX10_takenAway_102 fl_X10_36 r_145_9 ?_
                    refine tz_iload (pc := 105) dX10_takenAway_105 rfl ?_
                    refine tz_aL (pc := 107) (z := zt) (v := (zw ((J3 154 zt) - 1))) dX10_takenAway_107 a_154 rfl (by omega) (by simp [zup]) (fun r_107 => ?_)
                    refine tz_if_ne (pc := 108) (tgt := 129) dX10_takenAway_108 (by decide) (zw_rg _) (fun h_108 => ?_) (fun h_108 => ?_)
                    · refine tz_iinc (pc := 129) (z := i + 1) (L2 := [_, _, _, _, _, _, _]) dX10_takenAway_129 rfl (by omega) rfl ?_
                      refine tz_goto (pc := 132) (tgt := 51) dX10_takenAway_132 (by decide) ?_
                      exact ih51 (g2) (i + 1) _ _ (by omega) (by omega) ((t1.tr u2).of (Int.le_refl _) rfl (fun c hc => by rcases (show c = 146 ∨ c = 147 ∨ c = 148 ∨ c = 149 ∨ c = 150 by omega) with rfl | rfl | rfl | rfl | rfl <;> rfl)) (lsI.of l3 rfl (fun _ q => q)) (zOf.up rfl ((t3.mono (fun c hc => by simp [zbut] at hc ⊢; omega)).tr f2))
                    · refine tz_iload_n (pc := 111) dX10_takenAway_111 rfl rfl ?_
                      refine tz_sipush (pc := 112) dX10_takenAway_112 (by decide) ?_
                      refine tz_icmp_ge (pc := 115) (tgt := 129) dX10_takenAway_115 (by decide) (by omega) (by decide) (fun h_115 => ?_) (fun h_115 => ?_)
                      · refine tz_iinc (pc := 129) (z := i + 1) (L2 := [_, _, _, _, _, _, _]) dX10_takenAway_129 rfl (by omega) rfl ?_
                        refine tz_goto (pc := 132) (tgt := 51) dX10_takenAway_132 (by decide) ?_
                        exact ih51 (g2) (i + 1) _ _ (by omega) (by omega) ((t1.tr u2).of (Int.le_refl _) rfl (fun c hc => by rcases (show c = 146 ∨ c = 147 ∨ c = 148 ∨ c = 149 ∨ c = 150 by omega) with rfl | rfl | rfl | rfl | rfl <;> rfl)) (lsI.of l3 rfl (fun _ q => q)) (zOf.up rfl ((t3.mono (fun c hc => by simp [zbut] at hc ⊢; omega)).tr f2))
                      · refine tz_aload_n (pc := 118) dX10_takenAway_118 rfl rfl ?_
                        refine tz_fR (pc := 119) dX10_takenAway_119 fl_X10_33 r_145_8 ?_
                        refine tz_iload_n (pc := 122) dX10_takenAway_122 rfl rfl ?_
                        refine tz_iload (pc := 123) dX10_takenAway_123 rfl ?_
                        refine tz_aS (pc := 125) (z := g2) dX10_takenAway_125 a_153 rfl (by omega) (by omega) ?_
                        refine tz_iinc (pc := 126) (z := g2 + 1) (L2 := [_, _, _, _, _, _, _]) dX10_takenAway_126 rfl (by omega) rfl ?_
                        refine tz_iinc (pc := 129) (z := i + 1) (L2 := [_, _, _, _, _, _, _]) dX10_takenAway_129 rfl (by omega) rfl ?_
                        refine tz_goto (pc := 132) (tgt := 51) dX10_takenAway_132 (by decide) ?_
                        exact ih51 (g2 + 1) (i + 1) _ _ (by omega) (by omega) ((t1.tr u2).of (Int.le_refl _) rfl (fun c hc => by rcases (show c = 146 ∨ c = 147 ∨ c = 148 ∨ c = 149 ∨ c = 150 by omega) with rfl | rfl | rfl | rfl | rfl <;> rfl)) (lsI.push (lsI.of l3 rfl (fun _ q => q)) (by omega) t2.1 a3) (zOf.up rfl (zOf.up rfl ((t3.mono (fun c hc => by simp [zbut] at hc ⊢; omega)).tr f2)))
            exact loop51 _ _ 0 _ _ (Nat.lt_succ_self _) (by omega) u1 l1 f1
    exact loop23 _ 0 0 _ _ _ _ (Nat.lt_succ_self _) (by omega) (UW.rf hU) hL0 zOf.rf
  · refine tz_aload_n (pc := 11) dX10_takenAway_11 rfl rfl ?_
    refine tz_fR (pc := 12) dX10_takenAway_12 fl_X10_33 r_145_8 ?_
    refine tz_iload_n (pc := 15) dX10_takenAway_15 rfl rfl ?_
    refine tz_iload_n (pc := 16) dX10_takenAway_16 rfl rfl ?_
    refine tz_aS (pc := 17) (z := 0) dX10_takenAway_17 a_153 rfl (by decide) (by omega) ?_
    refine tz_iinc (pc := 18) (z := 1) (L2 := [_, _, _, _, _, _, _]) dX10_takenAway_18 rfl (by decide) rfl ?_
    refine tz_iconst (pc := 21) dX10_takenAway_21 ?_
    refine tz_istore_n (pc := 22) (L2 := [_, _, _, _, _, _, _]) dX10_takenAway_22 rfl (by decide) rfl ?_
    have loop23 : ∀ (f9 : Nat) (g : Int) (k : Int) (d4 : Option Value) (d5 : Option Value) (d6 : Option Value) (J1 : zJ), ((800 - k).toNat) < f9 → (0 ≤ k ∧ k ≤ 800) → (UW J1 J b m) → (lsI J1 J b m g) → (zOf (zbut [146, 147, 148, 149, 150, 153, 154]) J1 J) → tz_At l G M_X10_takenAway (tb_rm 3 0 0) none (tb_ZM G 0 0 (zQ n 0 (zqi (fun z J' => UW J' J b m ∧ zOf (zbut [146, 147, 148, 149, 150, 153, 154]) J' J))) (zX n 0 zN)) 0 0 n J1 23 [some (.ref 145), some (zi x), some (zi g), some (zi k), d4, d5, d6] [] := by
      intro f9
      induction f9 with
      | zero => intro g k d4 d5 d6 J1 hm9; exact absurd hm9 (Nat.not_lt_zero _)
      | succ f9 ih23 =>
        intro g k d4 d5 d6 J1 hm23 hk u1 l1 f1
        have lr := l1.1
        refine tz_iload_n (pc := 23) dX10_takenAway_23 rfl rfl ?_
        refine tz_iload_n (pc := 24) dX10_takenAway_24 rfl rfl ?_
        refine tz_icmp_ge (pc := 25) (tgt := 141) dX10_takenAway_25 (by decide) (by omega) (by omega) (fun h_25 => ?_) (fun h_25 => ?_)
        · refine tz_iload_n (pc := 141) dX10_takenAway_141 rfl rfl ?_
          exact tz_iret (pc := 142) (z := g) dX10_takenAway_142 rfl (Nat.le_of_ble_eq_true rfl) (Nat.le_of_ble_eq_true rfl) ⟨Nat.le_refl _, Nat.le_add_right _ _⟩ ⟨_, rfl, (by omega), ⟨u1, f1⟩⟩
        · refine tz_iload_n (pc := 28) dX10_takenAway_28 rfl rfl ?_
          refine tz_sipush (pc := 29) dX10_takenAway_29 (by decide) ?_
          refine tz_icmp_ge (pc := 32) (tgt := 141) dX10_takenAway_32 (by decide) (by omega) (by decide) (fun h_32 => ?_) (fun h_32 => ?_)
          · refine tz_iload_n (pc := 141) dX10_takenAway_141 rfl rfl ?_
            exact tz_iret (pc := 142) (z := g) dX10_takenAway_142 rfl (Nat.le_of_ble_eq_true rfl) (Nat.le_of_ble_eq_true rfl) ⟨Nat.le_refl _, Nat.le_add_right _ _⟩ ⟨_, rfl, (by omega), ⟨u1, f1⟩⟩
          · refine tz_aload_n (pc := 35) dX10_takenAway_35 rfl rfl ?_
            refine tz_fR (pc := 36) dX10_takenAway_36 fl_X10_18 r_145_3 ?_
            refine tz_aload_n (pc := 39) dX10_takenAway_39 rfl rfl ?_
            refine tz_fR (pc := 40) dX10_takenAway_40 fl_X10_33 r_145_8 ?_
            refine tz_iload_n (pc := 43) dX10_takenAway_43 rfl rfl ?_
            refine tz_aL (pc := 44) (z := k) (v := (J1 153 k)) dX10_takenAway_44 a_153 rfl (by omega) rfl (fun r_44 => ?_)
            have q0 := l1.2 k (by omega) (by omega)
            have q0r := q0.1.rg hm
            have q1 := (u1.at hm q0.1 q0.2).2.2.1
            refine tz_aL (pc := 45) (z := (J1 153 k)) (v := (J1 148 (J1 153 k))) dX10_takenAway_45 a_148 rfl (by omega) rfl (fun r_45 => ?_)
            refine tz_istore (pc := 46) (L2 := [_, _, _, _, _, _, _]) dX10_takenAway_46 (by decide) rfl ?_
            refine tz_iconst (pc := 48) dX10_takenAway_48 ?_
            refine tz_istore (pc := 49) (L2 := [_, _, _, _, _, _, _]) dX10_takenAway_49 (by decide) rfl ?_
            have loop51 : ∀ (f9 : Nat) (g2 : Int) (i : Int) (e6 : Option Value) (J2 : zJ), ((3 - i).toNat) < f9 → (0 ≤ i ∧ i ≤ 3) → (UW J2 J b m) → (lsI J2 J b m g2) → (zOf (zbut [146, 147, 148, 149, 150, 153, 154]) J2 J) → tz_At l G M_X10_takenAway (tb_rm 3 0 0) none (tb_ZM G 0 0 (zQ n 0 (zqi (fun z J' => UW J' J b m ∧ zOf (zbut [146, 147, 148, 149, 150, 153, 154]) J' J))) (zX n 0 zN)) 0 0 n J2 51 [some (.ref 145), some (zi x), some (zi g2), some (zi k), some (zi (J1 148 (J1 153 k))), some (zi i), e6] [] := by
              intro f9
              induction f9 with
              | zero => intro g2 i e6 J2 hm9; exact absurd hm9 (Nat.not_lt_zero _)
              | succ f9 ih51 =>
                intro g2 i e6 J2 hm51 hi u2 l2 f2
                have l2r := l2.1
                have e8 := f2 8 rfl
                refine tz_iload (pc := 51) dX10_takenAway_51 rfl ?_
                refine tz_iconst (pc := 53) dX10_takenAway_53 ?_
                refine tz_icmp_eq (pc := 54) (tgt := 135) dX10_takenAway_54 (by decide) (by omega) (by decide) (fun h_54 => ?_) (fun h_54 => ?_)
                · refine tz_iinc (pc := 135) (z := k + 1) (L2 := [_, _, _, _, _, _, _]) dX10_takenAway_135 rfl (by omega) rfl ?_
                  refine tz_goto (pc := 138) (tgt := 23) dX10_takenAway_138 (by decide) ?_
                  exact ih23 _ (k + 1) _ _ _ _ (by omega) (by omega) u2 l2 f2
                · have hn0 := q1.resolve_left (by omega)
                  have hnr := hn0.rg hm
                  have hnt := hn0.ix hm
                  have ha8 := C.ar hnt.1 hnt.2
                  refine tz_iload (pc := 57) dX10_takenAway_57 rfl ?_
                  refine tz_aload_n (pc := 59) dX10_takenAway_59 rfl rfl ?_
                  refine tz_fR (pc := 60) dX10_takenAway_60 fl_X10_46 r_145_0 ?_
                  refine tz_fR (pc := 63) dX10_takenAway_63 fl_X10_90 r_6_2 ?_
                  refine tz_aload_n (pc := 66) dX10_takenAway_66 rfl rfl ?_
                  refine tz_iload (pc := 67) dX10_takenAway_67 rfl ?_
                  refine tz_cV (pc := 69) (c_uTerm hl n _ _ (by omega) (by omega)) vl_X10_68 dX10_takenAway_69 o_145 rfl rfl (Nat.le_of_ble_eq_true rfl) ⟨(Nat.le_of_ble_eq_true rfl), (Nat.le_of_ble_eq_true rfl)⟩ rfl rfl (Nat.le_of_ble_eq_true rfl) (Nat.le_of_ble_eq_true rfl) (fun r9 J_69 hq9 => ?_)
                  obtain ⟨z_69, rfl, hz_69, rfl, rfl⟩ := hq9
                  refine tz_aL (pc := 72) (z := (tm (J1 148 (J1 153 k)))) (v := (J 8 (tm (J1 148 (J1 153 k))))) dX10_takenAway_72 a_8 rfl (by omega) (Eq.trans (congrFun (f2 8 rfl) (tm (J1 148 (J1 153 k)))) rfl) (fun r_72 => ?_)
                  refine tz_icmp_ge (pc := 73) (tgt := 135) dX10_takenAway_73 (by decide) (by omega) (by omega) (fun h_73 => ?_) (fun h_73 => ?_)
                  · refine tz_iinc (pc := 135) (z := k + 1) (L2 := [_, _, _, _, _, _, _]) dX10_takenAway_135 rfl (by omega) rfl ?_
                    refine tz_goto (pc := 138) (tgt := 23) dX10_takenAway_138 (by decide) ?_
                    exact ih23 _ (k + 1) _ _ _ _ (by omega) (by omega) u2 l2 f2
                  · refine tz_aload_n (pc := 76) dX10_takenAway_76 rfl rfl ?_
                    refine tz_aload_n (pc := 77) dX10_takenAway_77 rfl rfl ?_
                    refine tz_iload (pc := 78) dX10_takenAway_78 rfl ?_
                    refine tz_iload (pc := 80) dX10_takenAway_80 rfl ?_
                    refine tz_cV (pc := 82) (c_part hl n _ _ _ (by omega) (by omega) b m (C.of (fun c hc => f2 c (by simp [zbut]; omega))) hn0 (by rw [f2 8 rfl]; omega)) vl_X10_93 dX10_takenAway_82 o_145 rfl rfl (Nat.le_of_ble_eq_true rfl) ⟨(Nat.le_of_ble_eq_true rfl), (Nat.le_of_ble_eq_true rfl)⟩ rfl rfl (Nat.le_of_ble_eq_true rfl) (Nat.le_of_ble_eq_true rfl) (fun r9 J_82 hq9 => ?_)
                    obtain ⟨zp, rfl, hz_82, rfl, hn9⟩ := hq9
                    refine tz_cV (pc := 85) (c_top hl n _ _ (by omega) b m hm hn9 u2.1) vl_X10_54 dX10_takenAway_85 o_145 rfl rfl (Nat.le_of_ble_eq_true rfl) ⟨(Nat.le_of_ble_eq_true rfl), (Nat.le_of_ble_eq_true rfl)⟩ rfl rfl (Nat.le_of_ble_eq_true rfl) (Nat.le_of_ble_eq_true rfl) (fun r9 J3 hq9 => ?_)
                    obtain ⟨zt, rfl, hz_85, t1, t2, t3⟩ := hq9
                    have tr := t2.1.rg hm
                    have l3 := l2.of (t3 153 rfl) (fun x q => by have := t1.2.2 x; rw [u2.2.1] at this; exact this q)
                    have a3 := t2.2
                    rw [u2.2.1] at a3
                    refine tz_istore (pc := 88) (L2 := [_, _, _, _, _, _, _]) dX10_takenAway_88 (by decide) rfl ?_
                    refine tz_aload_n (pc := 90) dX10_takenAway_90 rfl rfl ?_
                    refine tz_fR (pc := 91) dX10_takenAway_91 fl_X10_36 r_145_9 ?_
                    refine tz_iload (pc := 94) dX10_takenAway_94 rfl ?_
                    refine tz_dup2 (pc := 96) dX10_takenAway_96 rfl rfl ?_
                    refine tz_aL (pc := 97) (z := zt) (v := (J3 154 zt)) dX10_takenAway_97 a_154 rfl (by omega) rfl (fun r_97 => ?_)
                    refine tz_iconst (pc := 98) dX10_takenAway_98 ?_
                    refine tz_isub (pc := 99) (v := (J3 154 zt) - 1) dX10_takenAway_99 rfl ?_
                    refine tz_tw ?_
                    have rw_100 := zw_rg ((J3 154 zt) - 1)
                    refine tz_aS (pc := 100) (z := zt) dX10_takenAway_100 a_154 rfl (by omega) (zw_rg _) ?_
                    refine tz_aload_n (pc := 101) dX10_takenAway_101 rfl rfl ?_
                    refine tz_fR (pc := 102) dX10_takenAway_102 fl_X10_36 r_145_9 ?_
                    refine tz_iload (pc := 105) dX10_takenAway_105 rfl ?_
                    refine tz_aL (pc := 107) (z := zt) (v := (zw ((J3 154 zt) - 1))) dX10_takenAway_107 a_154 rfl (by omega) (by simp [zup]) (fun r_107 => ?_)
                    refine tz_if_ne (pc := 108) (tgt := 129) dX10_takenAway_108 (by decide) (zw_rg _) (fun h_108 => ?_) (fun h_108 => ?_)
                    · refine tz_iinc (pc := 129) (z := i + 1) (L2 := [_, _, _, _, _, _, _]) dX10_takenAway_129 rfl (by omega) rfl ?_
                      refine tz_goto (pc := 132) (tgt := 51) dX10_takenAway_132 (by decide) ?_
                      exact ih51 (g2) (i + 1) _ _ (by omega) (by omega) ((t1.tr u2).of (Int.le_refl _) rfl (fun c hc => by rcases (show c = 146 ∨ c = 147 ∨ c = 148 ∨ c = 149 ∨ c = 150 by omega) with rfl | rfl | rfl | rfl | rfl <;> rfl)) (lsI.of l3 rfl (fun _ q => q)) (zOf.up rfl ((t3.mono (fun c hc => by simp [zbut] at hc ⊢; omega)).tr f2))
                    · refine tz_iload_n (pc := 111) dX10_takenAway_111 rfl rfl ?_
                      refine tz_sipush (pc := 112) dX10_takenAway_112 (by decide) ?_
                      refine tz_icmp_ge (pc := 115) (tgt := 129) dX10_takenAway_115 (by decide) (by omega) (by decide) (fun h_115 => ?_) (fun h_115 => ?_)
                      · refine tz_iinc (pc := 129) (z := i + 1) (L2 := [_, _, _, _, _, _, _]) dX10_takenAway_129 rfl (by omega) rfl ?_
                        refine tz_goto (pc := 132) (tgt := 51) dX10_takenAway_132 (by decide) ?_
                        exact ih51 (g2) (i + 1) _ _ (by omega) (by omega) ((t1.tr u2).of (Int.le_refl _) rfl (fun c hc => by rcases (show c = 146 ∨ c = 147 ∨ c = 148 ∨ c = 149 ∨ c = 150 by omega) with rfl | rfl | rfl | rfl | rfl <;> rfl)) (lsI.of l3 rfl (fun _ q => q)) (zOf.up rfl ((t3.mono (fun c hc => by simp [zbut] at hc ⊢; omega)).tr f2))
                      · refine tz_aload_n (pc := 118) dX10_takenAway_118 rfl rfl ?_
                        refine tz_fR (pc := 119) dX10_takenAway_119 fl_X10_33 r_145_8 ?_
                        refine tz_iload_n (pc := 122) dX10_takenAway_122 rfl rfl ?_
                        refine tz_iload (pc := 123) dX10_takenAway_123 rfl ?_
                        refine tz_aS (pc := 125) (z := g2) dX10_takenAway_125 a_153 rfl (by omega) (by omega) ?_
                        refine tz_iinc (pc := 126) (z := g2 + 1) (L2 := [_, _, _, _, _, _, _]) dX10_takenAway_126 rfl (by omega) rfl ?_
                        refine tz_iinc (pc := 129) (z := i + 1) (L2 := [_, _, _, _, _, _, _]) dX10_takenAway_129 rfl (by omega) rfl ?_
                        refine tz_goto (pc := 132) (tgt := 51) dX10_takenAway_132 (by decide) ?_
                        exact ih51 (g2 + 1) (i + 1) _ _ (by omega) (by omega) ((t1.tr u2).of (Int.le_refl _) rfl (fun c hc => by rcases (show c = 146 ∨ c = 147 ∨ c = 148 ∨ c = 149 ∨ c = 150 by omega) with rfl | rfl | rfl | rfl | rfl <;> rfl)) (lsI.push (lsI.of l3 rfl (fun _ q => q)) (by omega) t2.1 a3) (zOf.up rfl (zOf.up rfl ((t3.mono (fun c hc => by simp [zbut] at hc ⊢; omega)).tr f2)))
            exact loop51 _ _ 0 _ _ (Nat.lt_succ_self _) (by omega) u1 l1 f1
    exact loop23 _ 1 0 _ _ _ _ (Nat.lt_succ_self _) (by omega) ((UW.rf hU).of (Int.le_refl _) rfl (fun c hc => by rcases (show c = 146 ∨ c = 147 ∨ c = 148 ∨ c = 149 ∨ c = 150 by omega) with rfl | rfl | rfl | rfl | rfl <;> rfl)) (lsI.push hL0 (by decide) hx ax) (zOf.up rfl zOf.rf)

set_option maxHeartbeats 4000000 in
set_option maxRecDepth 100000 in
theorem c_wayOf {l : Launch} {G : tb_G} (hl : l.stackTraces = false) (n : Nat) (J : zJ) (s : Int) (t : Int) (b : Int) (hr_s : -2147483648 ≤ s ∧ s < 2147483648) (hr_t : -2147483648 ≤ t ∧ t < 2147483648) (hr_b : -2147483648 ≤ b ∧ b < 2147483648) (m : Int) (C : CT J m) (hs : 0 ≤ s ∧ s < m) (ht : 0 ≤ t ∧ t < m) (hb : b = 0 ∨ b = 400) (hR : RU J) (h9 : J 145 10 < 2000000000) : tz_Ok l G M_X10_wayOf 4 0 0 [.ref 145, zi s, zi t, zi b] n J (zqi (fun z J' => (z = 0 ∨ z = 1 ∨ z = 2) ∧ UI J' b m ∧ J' 145 10 = J 145 10 + 1 ∧ zOf (zbut [145, 146, 147, 148, 149, 150, 151, 152, 153, 154]) J' J)) zN := by
  refine tz_Ok.of hl (by decide +kernel) rfl (tb_c1 rfl) (Nat.le_of_ble_eq_true rfl) ?_
  show tz_At l G M_X10_wayOf (tb_rm 4 0 0) none (tb_ZM G 0 0 (zQ n 0 (zqi (fun z J' => (z = 0 ∨ z = 1 ∨ z = 2) ∧ UI J' b m ∧ J' 145 10 = J 145 10 + 1 ∧ zOf (zbut [145, 146, 147, 148, 149, 150, 151, 152, 153, 154]) J' J))) (zX n 0 zN)) 0 0 n J 0 [some (.ref 145), some (zi s), some (zi t), some (zi b), none, none] []
  have hm := C.told.2
  have h0 := hR.1
  refine tz_aload_n (pc := 0) dX10_wayOf_0 rfl rfl ?_
  refine tz_dup (pc := 1) dX10_wayOf_1 rfl ?_
  refine tz_fI (pc := 2) (kz := 10) (v := (J 145 10)) dX10_wayOf_2 fl_X10_39 i_145_10 rfl rfl (fun r_2 => ?_)
  refine tz_iconst (pc := 5) dX10_wayOf_5 ?_
  refine tz_iadd (pc := 6) (v := (J 145 10) + 1) dX10_wayOf_6 rfl ?_
  refine tz_pI (pc := 7) (kz := 10) dX10_wayOf_7 fl_X10_39 i_145_10 rfl rfl (by omega) ?_
  refine tz_aload_n (pc := 10) dX10_wayOf_10 rfl rfl ?_
  refine tz_iconst (pc := 11) dX10_wayOf_11 ?_
  refine tz_pI (pc := 12) (kz := 11) dX10_wayOf_12 fl_X10_43 i_145_11 rfl rfl (by decide) ?_
  refine tz_aload_n (pc := 15) dX10_wayOf_15 rfl rfl ?_
  refine tz_iload_n (pc := 16) dX10_wayOf_16 rfl rfl ?_
  refine tz_iload_n (pc := 17) dX10_wayOf_17 rfl rfl ?_
  refine tz_iload_n (pc := 18) dX10_wayOf_18 rfl rfl ?_
  refine tz_iadd (pc := 19) (v := t + b) dX10_wayOf_19 rfl ?_
  refine tz_cV (pc := 20) (c_addPair hl n _ _ _ (by omega) (by omega) b m ⟨⟨Int.le_refl 0, (by decide : (0 : Int) ≤ 2401)⟩, fun k a c => absurd c (by show ¬ k < 0; omega)⟩ (Or.inl hs) (by unfold nd; omega)) vl_X10_50 dX10_wayOf_20 o_145 rfl rfl (Nat.le_of_ble_eq_true rfl) ⟨(Nat.le_of_ble_eq_true rfl), (Nat.le_of_ble_eq_true rfl)⟩ rfl rfl (Nat.le_of_ble_eq_true rfl) (Nat.le_of_ble_eq_true rfl) (fun r9 J_20 hq9 => ?_)
  obtain ⟨rfl, k1, k2, k3⟩ := hq9
  have u0 : UI J_20 b m := hR.start (by rw [k2]; rfl) (k3 146 rfl)
  have f0 : zOf (zbut [145, 146, 147, 148, 149, 150, 151, 152, 153, 154]) J_20 J := (k3.mono (fun c hc => by simp [zbut] at hc ⊢; omega)).tr (zOf.up rfl (zOf.up rfl zOf.rf))
  have e0 : J_20 145 10 = J 145 10 + 1 := k2
  refine tz_iconst (pc := 23) dX10_wayOf_23 ?_
  refine tz_istore (pc := 24) (L2 := [_, _, _, _, _, _]) dX10_wayOf_24 (by decide) rfl ?_
  have loop26 : ∀ (f9 : Nat) (k : Int) (J1 : zJ), ((2401 - k).toNat) < f9 → (0 ≤ k ∧ k ≤ 2401) → (UI J1 b m) → (J1 145 10 = J 145 10 + 1) → (PI J1 b m) → (zOf (zbut [145, 146, 147, 148, 149, 150, 151, 152, 153, 154]) J1 J) → tz_At l G M_X10_wayOf (tb_rm 4 0 0) none (tb_ZM G 0 0 (zQ n 0 (zqi (fun z J' => (z = 0 ∨ z = 1 ∨ z = 2) ∧ UI J' b m ∧ J' 145 10 = J 145 10 + 1 ∧ zOf (zbut [145, 146, 147, 148, 149, 150, 151, 152, 153, 154]) J' J))) (zX n 0 zN)) 0 0 n J1 26 [some (.ref 145), some (zi s), some (zi t), some (zi b), some (zi k), none] [] := by
    intro f9
    induction f9 with
    | zero => intro k J1 hm9; exact absurd hm9 (Nat.not_lt_zero _)
    | succ f9 ih26 =>
      intro k J1 hm26 hk hu e1 hP1 fr
      refine tz_iload (pc := 26) dX10_wayOf_26 rfl ?_
      refine tz_aload_n (pc := 28) dX10_wayOf_28 rfl rfl ?_
      refine tz_fI (pc := 29) (kz := 11) (v := (J1 145 11)) dX10_wayOf_29 fl_X10_43 i_145_11 rfl rfl (fun r_29 => ?_)
      refine tz_icmp_ge (pc := 32) (tgt := 82) dX10_wayOf_32 (by decide) (by omega) (by omega) (fun h_32 => ?_) (fun h_32 => ?_)
      · refine tz_aload_n (pc := 82) dX10_wayOf_82 rfl rfl ?_
        refine tz_iload_n (pc := 83) dX10_wayOf_83 rfl rfl ?_
        have n_84 : nd b m _ := (Or.inl hs)
        have nr_84 := n_84.rg hm
        refine tz_cV (pc := 84) (c_top hl n _ _ (by omega) b m hm n_84 hu) vl_X10_54 dX10_wayOf_84 o_145 rfl rfl (Nat.le_of_ble_eq_true rfl) ⟨(Nat.le_of_ble_eq_true rfl), (Nat.le_of_ble_eq_true rfl)⟩ rfl rfl (Nat.le_of_ble_eq_true rfl) (Nat.le_of_ble_eq_true rfl) (fun r9 J_84 hq9 => ?_)
        obtain ⟨z_84, rfl, hz_84, u_84, ⟨v_84, w_84⟩, f_84⟩ := hq9
        have vr_84 := v_84.rg hm
        refine tz_istore (pc := 87) (L2 := [_, _, _, _, _, _]) dX10_wayOf_87 (by decide) rfl ?_
        refine tz_aload_n (pc := 89) dX10_wayOf_89 rfl rfl ?_
        refine tz_iload (pc := 90) dX10_wayOf_90 rfl ?_
        refine tz_cV (pc := 92) (c_listAll hl n _ _ (by omega) b m (C.of (fun c hc => (f_84 c (by simp [zbut]; omega)).trans (fr c (by simp [zbut]; omega)))) u_84.1 v_84 (by rw [w_84, u_84.2.1])) vl_X10_62 dX10_wayOf_92 o_145 rfl rfl (Nat.le_of_ble_eq_true rfl) ⟨(Nat.le_of_ble_eq_true rfl), (Nat.le_of_ble_eq_true rfl)⟩ rfl rfl (Nat.le_of_ble_eq_true rfl) (Nat.le_of_ble_eq_true rfl) (fun r9 J_92 hq9 => ?_)
        obtain ⟨z_92, rfl, hz_92, l1, l2⟩ := hq9
        refine tz_istore (pc := 95) (L2 := [_, _, _, _, _, _]) dX10_wayOf_95 (by decide) rfl ?_
        refine tz_aload_n (pc := 97) dX10_wayOf_97 rfl rfl ?_
        refine tz_iload (pc := 98) dX10_wayOf_98 rfl ?_
        refine tz_cV (pc := 100) (c_taken hl n _ _ (by omega) b m (C.of (fun c hc => (l2 c (by simp [zbut]; omega)).trans ((f_84 c (by simp [zbut]; omega)).trans (fr c (by simp [zbut]; omega))))) l1.1 v_84 (by have := l1.2.2 z_84 (by rw [w_84, u_84.2.1]); rw [this, l1.2.1])) vl_X10_65 dX10_wayOf_100 o_145 rfl rfl (Nat.le_of_ble_eq_true rfl) ⟨(Nat.le_of_ble_eq_true rfl), (Nat.le_of_ble_eq_true rfl)⟩ rfl rfl (Nat.le_of_ble_eq_true rfl) (Nat.le_of_ble_eq_true rfl) (fun r9 J_100 hq9 => ?_)
        obtain ⟨z_100, rfl, hz_100, t1, t2⟩ := hq9
        have hfr4 : zOf (zbut [145, 146, 147, 148, 149, 150, 151, 152, 153, 154]) J_100 J := (t2.mono (fun c hc => by simp [zbut] at hc ⊢; omega)).tr ((l2.mono (fun c hc => by simp [zbut] at hc ⊢; omega)).tr ((f_84.mono (fun c hc => by simp [zbut] at hc ⊢; omega)).tr fr))
        refine tz_iload (pc := 103) dX10_wayOf_103 rfl ?_
        refine tz_icmp_ge (pc := 105) (tgt := 112) dX10_wayOf_105 (by decide) (by omega) (by omega) (fun h_105 => ?_) (fun h_105 => ?_)
        · refine tz_iconst (pc := 112) dX10_wayOf_112 ?_
          exact tz_iret (pc := 113) (z := 1) dX10_wayOf_113 rfl (Nat.le_of_ble_eq_true rfl) (Nat.le_of_ble_eq_true rfl) ⟨Nat.le_refl _, Nat.le_add_right _ _⟩ ⟨_, rfl, (by decide), ⟨by omega, t1.1, by rw [t1.2.1, l1.2.1, u_84.2.1, e1], hfr4⟩⟩
        · refine tz_iconst (pc := 108) dX10_wayOf_108 ?_
          refine tz_goto (pc := 109) (tgt := 113) dX10_wayOf_109 (by decide) ?_
          exact tz_iret (pc := 113) (z := 2) dX10_wayOf_113 rfl (Nat.le_of_ble_eq_true rfl) (Nat.le_of_ble_eq_true rfl) ⟨Nat.le_refl _, Nat.le_add_right _ _⟩ ⟨_, rfl, (by decide), ⟨by omega, t1.1, by rw [t1.2.1, l1.2.1, u_84.2.1, e1], hfr4⟩⟩
      · refine tz_iload (pc := 35) dX10_wayOf_35 rfl ?_
        refine tz_aload_n (pc := 37) dX10_wayOf_37 rfl rfl ?_
        refine tz_fR (pc := 38) dX10_wayOf_38 fl_X10_27 r_145_6 ?_
        refine tz_aN (pc := 41) (lz := 2401) dX10_wayOf_41 a_151 rfl ?_
        refine tz_icmp_ge (pc := 42) (tgt := 82) dX10_wayOf_42 (by decide) (by omega) (by decide) (fun h_42 => ?_) (fun h_42 => ?_)
        · refine tz_aload_n (pc := 82) dX10_wayOf_82 rfl rfl ?_
          refine tz_iload_n (pc := 83) dX10_wayOf_83 rfl rfl ?_
          have n_84 : nd b m _ := (Or.inl hs)
          have nr_84 := n_84.rg hm
          refine tz_cV (pc := 84) (c_top hl n _ _ (by omega) b m hm n_84 hu) vl_X10_54 dX10_wayOf_84 o_145 rfl rfl (Nat.le_of_ble_eq_true rfl) ⟨(Nat.le_of_ble_eq_true rfl), (Nat.le_of_ble_eq_true rfl)⟩ rfl rfl (Nat.le_of_ble_eq_true rfl) (Nat.le_of_ble_eq_true rfl) (fun r9 J_84 hq9 => ?_)
          obtain ⟨z_84, rfl, hz_84, u_84, ⟨v_84, w_84⟩, f_84⟩ := hq9
          have vr_84 := v_84.rg hm
          refine tz_istore (pc := 87) (L2 := [_, _, _, _, _, _]) dX10_wayOf_87 (by decide) rfl ?_
          refine tz_aload_n (pc := 89) dX10_wayOf_89 rfl rfl ?_
          refine tz_iload (pc := 90) dX10_wayOf_90 rfl ?_
          refine tz_cV (pc := 92) (c_listAll hl n _ _ (by omega) b m (C.of (fun c hc => (f_84 c (by simp [zbut]; omega)).trans (fr c (by simp [zbut]; omega)))) u_84.1 v_84 (by rw [w_84, u_84.2.1])) vl_X10_62 dX10_wayOf_92 o_145 rfl rfl (Nat.le_of_ble_eq_true rfl) ⟨(Nat.le_of_ble_eq_true rfl), (Nat.le_of_ble_eq_true rfl)⟩ rfl rfl (Nat.le_of_ble_eq_true rfl) (Nat.le_of_ble_eq_true rfl) (fun r9 J_92 hq9 => ?_)
          obtain ⟨z_92, rfl, hz_92, l1, l2⟩ := hq9
          refine tz_istore (pc := 95) (L2 := [_, _, _, _, _, _]) dX10_wayOf_95 (by decide) rfl ?_
          refine tz_aload_n (pc := 97) dX10_wayOf_97 rfl rfl ?_
          refine tz_iload (pc := 98) dX10_wayOf_98 rfl ?_
          refine tz_cV (pc := 100) (c_taken hl n _ _ (by omega) b m (C.of (fun c hc => (l2 c (by simp [zbut]; omega)).trans ((f_84 c (by simp [zbut]; omega)).trans (fr c (by simp [zbut]; omega))))) l1.1 v_84 (by have := l1.2.2 z_84 (by rw [w_84, u_84.2.1]); rw [this, l1.2.1])) vl_X10_65 dX10_wayOf_100 o_145 rfl rfl (Nat.le_of_ble_eq_true rfl) ⟨(Nat.le_of_ble_eq_true rfl), (Nat.le_of_ble_eq_true rfl)⟩ rfl rfl (Nat.le_of_ble_eq_true rfl) (Nat.le_of_ble_eq_true rfl) (fun r9 J_100 hq9 => ?_)
          obtain ⟨z_100, rfl, hz_100, t1, t2⟩ := hq9
          have hfr4 : zOf (zbut [145, 146, 147, 148, 149, 150, 151, 152, 153, 154]) J_100 J := (t2.mono (fun c hc => by simp [zbut] at hc ⊢; omega)).tr ((l2.mono (fun c hc => by simp [zbut] at hc ⊢; omega)).tr ((f_84.mono (fun c hc => by simp [zbut] at hc ⊢; omega)).tr fr))
          refine tz_iload (pc := 103) dX10_wayOf_103 rfl ?_
          refine tz_icmp_ge (pc := 105) (tgt := 112) dX10_wayOf_105 (by decide) (by omega) (by omega) (fun h_105 => ?_) (fun h_105 => ?_)
          · refine tz_iconst (pc := 112) dX10_wayOf_112 ?_
            exact tz_iret (pc := 113) (z := 1) dX10_wayOf_113 rfl (Nat.le_of_ble_eq_true rfl) (Nat.le_of_ble_eq_true rfl) ⟨Nat.le_refl _, Nat.le_add_right _ _⟩ ⟨_, rfl, (by decide), ⟨by omega, t1.1, by rw [t1.2.1, l1.2.1, u_84.2.1, e1], hfr4⟩⟩
          · refine tz_iconst (pc := 108) dX10_wayOf_108 ?_
            refine tz_goto (pc := 109) (tgt := 113) dX10_wayOf_109 (by decide) ?_
            exact tz_iret (pc := 113) (z := 2) dX10_wayOf_113 rfl (Nat.le_of_ble_eq_true rfl) (Nat.le_of_ble_eq_true rfl) ⟨Nat.le_refl _, Nat.le_add_right _ _⟩ ⟨_, rfl, (by decide), ⟨by omega, t1.1, by rw [t1.2.1, l1.2.1, u_84.2.1, e1], hfr4⟩⟩
        · refine tz_aload_n (pc := 45) dX10_wayOf_45 rfl rfl ?_
          refine tz_aload_n (pc := 46) dX10_wayOf_46 rfl rfl ?_
          refine tz_aload_n (pc := 47) dX10_wayOf_47 rfl rfl ?_
          refine tz_fR (pc := 48) dX10_wayOf_48 fl_X10_27 r_145_6 ?_
          refine tz_iload (pc := 51) dX10_wayOf_51 rfl ?_
          refine tz_aL (pc := 53) (z := k) (v := (J1 151 k)) dX10_wayOf_53 a_151 rfl (by omega) rfl (fun r_53 => ?_)
          have n_54 : nd b m _ := (hP1.2 k (by omega) (by omega)).1
          have nr_54 := n_54.rg hm
          refine tz_cV (pc := 54) (c_top hl n _ _ (by omega) b m hm n_54 hu) vl_X10_54 dX10_wayOf_54 o_145 rfl rfl (Nat.le_of_ble_eq_true rfl) ⟨(Nat.le_of_ble_eq_true rfl), (Nat.le_of_ble_eq_true rfl)⟩ rfl rfl (Nat.le_of_ble_eq_true rfl) (Nat.le_of_ble_eq_true rfl) (fun r9 J_54 hq9 => ?_)
          obtain ⟨z_54, rfl, hz_54, u_54, ⟨v_54, w_54⟩, f_54⟩ := hq9
          have vr_54 := v_54.rg hm
          refine tz_aload_n (pc := 57) dX10_wayOf_57 rfl rfl ?_
          refine tz_aload_n (pc := 58) dX10_wayOf_58 rfl rfl ?_
          refine tz_fR (pc := 59) dX10_wayOf_59 fl_X10_30 r_145_7 ?_
          refine tz_iload (pc := 62) dX10_wayOf_62 rfl ?_
          refine tz_aL (pc := 64) (z := k) (v := (J1 152 k)) dX10_wayOf_64 a_152 rfl (by omega) (Eq.trans (congrFun (f_54 152 rfl) k) rfl) (fun r_64 => ?_)
          have n_65 : nd b m _ := (hP1.2 k (by omega) (by omega)).2
          have nr_65 := n_65.rg hm
          refine tz_cV (pc := 65) (c_top hl n _ _ (by omega) b m hm n_65 u_54.1) vl_X10_54 dX10_wayOf_65 o_145 rfl rfl (Nat.le_of_ble_eq_true rfl) ⟨(Nat.le_of_ble_eq_true rfl), (Nat.le_of_ble_eq_true rfl)⟩ rfl rfl (Nat.le_of_ble_eq_true rfl) (Nat.le_of_ble_eq_true rfl) (fun r9 J_65 hq9 => ?_)
          obtain ⟨z_65, rfl, hz_65, u_65, ⟨v_65, w_65⟩, f_65⟩ := hq9
          have vr_65 := v_65.rg hm
          refine tz_cV (pc := 68) (c_joined hl n _ _ _ (by omega) (by omega) b m (C.of (fun c hc => (f_65 c (by simp [zbut]; omega)).trans ((f_54 c (by simp [zbut]; omega)).trans (fr c (by simp [zbut]; omega))))) u_65.1 (hP1.of (by rw [congrFun (f_65 145 rfl) 11, congrFun (f_54 145 rfl) 11]) (by rw [f_65 151 rfl, f_54 151 rfl]) (by rw [f_65 152 rfl, f_54 152 rfl])) v_54 v_65 (by have := u_65.2.2 _ (w_54.trans u_54.2.1.symm); rw [this, u_65.2.1]) (by rw [w_65, u_65.2.1])) vl_X10_58 dX10_wayOf_68 o_145 rfl rfl (Nat.le_of_ble_eq_true rfl) ⟨(Nat.le_of_ble_eq_true rfl), (Nat.le_of_ble_eq_true rfl)⟩ rfl rfl (Nat.le_of_ble_eq_true rfl) (Nat.le_of_ble_eq_true rfl) (fun r9 J_68 hq9 => ?_)
          obtain ⟨z_68, rfl, hz_68, j1, j2, j3, j4⟩ := hq9
          have hfr3 : zOf (zbut [145, 146, 147, 148, 149, 150, 151, 152, 153, 154]) J_68 J := (j4.mono (fun c hc => by simp [zbut] at hc ⊢; omega)).tr ((f_65.mono (fun c hc => by simp [zbut] at hc ⊢; omega)).tr ((f_54.mono (fun c hc => by simp [zbut] at hc ⊢; omega)).tr fr))
          refine tz_if_ne (pc := 71) (tgt := 76) dX10_wayOf_71 (by decide) (by omega) (fun h_71 => ?_) (fun h_71 => ?_)
          · refine tz_iinc (pc := 76) (z := k + 1) (L2 := [_, _, _, _, _, _]) dX10_wayOf_76 rfl (by omega) rfl ?_
            refine tz_goto (pc := 79) (tgt := 26) dX10_wayOf_79 (by decide) ?_
            exact ih26 (k + 1) _ (by omega) (by omega) j1.1 (by rw [j1.2.1, u_65.2.1, u_54.2.1, e1]) j2 hfr3
          · refine tz_iconst (pc := 74) dX10_wayOf_74 ?_
            exact tz_iret (pc := 75) (z := 0) dX10_wayOf_75 rfl (Nat.le_of_ble_eq_true rfl) (Nat.le_of_ble_eq_true rfl) ⟨Nat.le_refl _, Nat.le_add_right _ _⟩ ⟨_, rfl, (by decide), ⟨Or.inl rfl, j1.1, by rw [j1.2.1, u_65.2.1, u_54.2.1, e1], hfr3⟩⟩
  exact loop26 _ 0 _ (Nat.lt_succ_self _) (by omega) u0 e0 k1 f0

