/-! ===== feed and bank of the reference ===== -/
theorem fdM {J1 : zJ} {T : Int → Int} {p k v a b c d e : Int} (hk : 0 ≤ k) (hv : v = fB a b c d e k) (t : ∀ x, J1 173 x = if p ≤ x ∧ x < p + k then fB a b c d e (x - p) else T x) : ∀ x, zup J1 173 (p + k) v 173 x = if p ≤ x ∧ x < p + (k + 1) then fB a b c d e (x - p) else T x := fun x => by
  show (if x = p + k then v else J1 173 x) = _
  by_cases q : x = p + k
  · rw [if_pos q, if_pos (by omega), hv, show x - p = k from by omega]
  · rw [if_neg q, t x]
    by_cases r : p ≤ x ∧ x < p + k
    · rw [if_pos r, if_pos (by omega)]
    · rw [if_neg r, if_neg (by omega)]
set_option maxHeartbeats 4000000 in
set_option maxRecDepth 100000 in
theorem v_qfeed {l : Launch} {G : tb_G} (hl : l.stackTraces = false) (n : Nat) (J : zJ) (a : Int) (b : Int) (c : Int) (d : Int) (e : Int) (hr_a : -2147483648 ≤ a ∧ a < 2147483648) (hr_b : -2147483648 ≤ b ∧ b < 2147483648) (hr_c : -2147483648 ≤ c ∧ c < 2147483648) (hr_d : -2147483648 ≤ d ∧ d < 2147483648) (hr_e : -2147483648 ≤ e ∧ e < 2147483648) (m : Int) (hI : MI J m)  : tz_Ok l G M_X12_feed 0 0 0 [.ref 164, zi a, zi b, zi c, zi d, zi e] n J (zqi (fun z J' => (∃ m, MI J' m) ∧ (∀ c, c < 164 → J' c = J c) ∧ (J' 164 20 = J 164 20 ∧ J' 164 14 = J 164 14) ∧ ((700 < J 164 19 + 20 ∧ z = -1 ∧ J' 164 19 = J 164 19 ∧ J' 173 = J 173) ∨ (J 164 19 + 20 ≤ 700 ∧ z = J 164 19 + 20 ∧ J' 164 19 = J 164 19 + 20 ∧ ∀ x, J' 173 x = if J 164 19 ≤ x ∧ x < J 164 19 + 20 then fB a b c d e (x - J 164 19) else J 173 x)))) zN := by
  refine tz_Ok.of hl (by decide +kernel) rfl (tb_c1 rfl) (Nat.le_of_ble_eq_true rfl) ?_
  show tz_At l G M_X12_feed (tb_rm 0 0 0) none (tb_ZM G 0 0 (zQ n 0 (zqi (fun z J' => (∃ m, MI J' m) ∧ (∀ c, c < 164 → J' c = J c) ∧ (J' 164 20 = J 164 20 ∧ J' 164 14 = J 164 14) ∧ ((700 < J 164 19 + 20 ∧ z = -1 ∧ J' 164 19 = J 164 19 ∧ J' 173 = J 173) ∨ (J 164 19 + 20 ≤ 700 ∧ z = J 164 19 + 20 ∧ J' 164 19 = J 164 19 + 20 ∧ ∀ x, J' 173 x = if J 164 19 ≤ x ∧ x < J 164 19 + 20 then fB a b c d e (x - J 164 19) else J 173 x))))) (zX n 0 zN)) 0 0 n J 0 [some (.ref 164), some (zi a), some (zi b), some (zi c), some (zi d), some (zi e), none, none] []
  have hT := hI.told
  have hW := hI.row
  have hM := hI.1
  have hL := hI.2.1
  refine tz_aload_n (pc := 0) dX12_feed_0 rfl rfl ?_
  refine tz_iconst (pc := 1) dX12_feed_1 ?_
  refine tz_pI (pc := 2) (kz := 8) dX12_feed_2 fl_X12_68 i_164_8 rfl rfl (by decide) ?_
  refine tz_aload_n (pc := 5) dX12_feed_5 rfl rfl ?_
  refine tz_fI (pc := 6) (kz := 19) (v := (J 164 19)) dX12_feed_6 fl_X12_328 i_164_19 rfl rfl (fun r_6 => ?_)
  refine tz_bipush (pc := 9) dX12_feed_9 (by decide) ?_
  refine tz_iadd (pc := 11) (v := (J 164 19) + 20) dX12_feed_11 rfl ?_
  refine tz_sipush (pc := 12) dX12_feed_12 (by decide) ?_
  refine tz_icmp_le (pc := 15) (tgt := 20) dX12_feed_15 (by decide) (by omega) (by decide) (fun h_15 => ?_) (fun h_15 => ?_)
  · refine tz_iconst (pc := 20) dX12_feed_20 ?_
    refine tz_istore (pc := 21) (L2 := [_, _, _, _, _, _, _, _]) dX12_feed_21 (by decide) rfl ?_
    have loop23 : ∀ (f9 : Nat) (k : Int) (d7 : Option Value) (J1 : zJ), ((20 - k).toNat) < f9 → (0 ≤ k ∧ k ≤ 20) → (zOf (zbut [173]) J1 (zup J 164 8 0)) → (∀ x, J1 173 x = if J 164 19 ≤ x ∧ x < J 164 19 + k then fB a b c d e (x - J 164 19) else J 173 x) → tz_At l G M_X12_feed (tb_rm 0 0 0) none (tb_ZM G 0 0 (zQ n 0 (zqi (fun z J' => (∃ m, MI J' m) ∧ (∀ c, c < 164 → J' c = J c) ∧ (J' 164 20 = J 164 20 ∧ J' 164 14 = J 164 14) ∧ ((700 < J 164 19 + 20 ∧ z = -1 ∧ J' 164 19 = J 164 19 ∧ J' 173 = J 173) ∨ (J 164 19 + 20 ≤ 700 ∧ z = J 164 19 + 20 ∧ J' 164 19 = J 164 19 + 20 ∧ ∀ x, J' 173 x = if J 164 19 ≤ x ∧ x < J 164 19 + 20 then fB a b c d e (x - J 164 19) else J 173 x))))) (zX n 0 zN)) 0 0 n J1 23 [some (.ref 164), some (zi a), some (zi b), some (zi c), some (zi d), some (zi e), some (zi k), d7] [] := by
      intro f9
      induction f9 with
      | zero => intro k d7 J1 hm9; exact absurd hm9 (Nat.not_lt_zero _)
      | succ f9 ih23 =>
        intro k d7 J1 hm23 hk f1 t1
        refine tz_iload (pc := 23) dX12_feed_23 rfl ?_
        refine tz_bipush (pc := 25) dX12_feed_25 (by decide) ?_
        refine tz_icmp_ge (pc := 27) (tgt := 113) dX12_feed_27 (by decide) (by omega) (by decide) (fun h_27 => ?_) (fun h_27 => ?_)
        · refine tz_aload_n (pc := 113) dX12_feed_113 rfl rfl ?_
          refine tz_dup (pc := 114) dX12_feed_114 rfl ?_
          refine tz_fI (pc := 115) (kz := 19) (v := (J 164 19)) dX12_feed_115 fl_X12_328 i_164_19 rfl (Eq.trans (congrFun (f1 164 rfl) 19) rfl) (fun r_115 => ?_)
          refine tz_bipush (pc := 118) dX12_feed_118 (by decide) ?_
          refine tz_iadd (pc := 120) (v := (J 164 19) + 20) dX12_feed_120 rfl ?_
          refine tz_pI (pc := 121) (kz := 19) dX12_feed_121 fl_X12_328 i_164_19 rfl rfl (by omega) ?_
          refine tz_aload_n (pc := 124) dX12_feed_124 rfl rfl ?_
          refine tz_fI (pc := 125) (kz := 19) (v := ((J 164 19) + 20)) dX12_feed_125 fl_X12_328 i_164_19 rfl rfl (fun r_125 => ?_)
          exact tz_iret (pc := 128) (z := ((J 164 19) + 20)) dX12_feed_128 rfl (Nat.le_of_ble_eq_true rfl) (Nat.le_of_ble_eq_true rfl) ⟨Nat.le_refl _, Nat.le_add_right _ _⟩ ⟨_, rfl, (by omega), ⟨(MI.feed (v := J 164 19 + 20) hI f1 (by omega)).1, (MI.feed (v := J 164 19 + 20) hI f1 (by omega)).2.1, (MI.feed (v := J 164 19 + 20) hI f1 (by omega)).2.2.2, Or.inr ⟨by omega, rfl, zup_at, fun x => by show J1 173 x = _; rw [t1 x, show k = 20 from by omega]⟩⟩⟩
        · refine tz_iload (pc := 30) dX12_feed_30 rfl ?_
          refine tz_iconst (pc := 32) dX12_feed_32 ?_
          refine tz_icmp_ge (pc := 33) (tgt := 40) dX12_feed_33 (by decide) (by omega) (by decide) (fun h_33 => ?_) (fun h_33 => ?_)
          · refine tz_iload (pc := 40) dX12_feed_40 rfl ?_
            refine tz_bipush (pc := 42) dX12_feed_42 (by decide) ?_
            refine tz_icmp_ge (pc := 44) (tgt := 51) dX12_feed_44 (by decide) (by omega) (by decide) (fun h_44 => ?_) (fun h_44 => ?_)
            · refine tz_iload (pc := 51) dX12_feed_51 rfl ?_
              refine tz_bipush (pc := 53) dX12_feed_53 (by decide) ?_
              refine tz_icmp_ge (pc := 55) (tgt := 62) dX12_feed_55 (by decide) (by omega) (by decide) (fun h_55 => ?_) (fun h_55 => ?_)
              · refine tz_iload (pc := 62) dX12_feed_62 rfl ?_
                refine tz_bipush (pc := 64) dX12_feed_64 (by decide) ?_
                refine tz_icmp_ge (pc := 66) (tgt := 74) dX12_feed_66 (by decide) (by omega) (by decide) (fun h_66 => ?_) (fun h_66 => ?_)
                · refine tz_iload (pc := 74) dX12_feed_74 rfl ?_
                  refine tz_istore (pc := 76) (L2 := [_, _, _, _, _, _, _, _]) dX12_feed_76 (by decide) rfl ?_
                  refine tz_aload_n (pc := 78) dX12_feed_78 rfl rfl ?_
                  refine tz_fR (pc := 79) dX12_feed_79 fl_X12_34 r_164_18 ?_
                  refine tz_aload_n (pc := 82) dX12_feed_82 rfl rfl ?_
                  refine tz_fI (pc := 83) (kz := 19) (v := (J 164 19)) dX12_feed_83 fl_X12_328 i_164_19 rfl (Eq.trans (congrFun (f1 164 rfl) 19) rfl) (fun r_83 => ?_)
                  refine tz_iload (pc := 86) dX12_feed_86 rfl ?_
                  refine tz_iadd (pc := 88) (v := (J 164 19) + k) dX12_feed_88 rfl ?_
                  refine tz_iload (pc := 89) dX12_feed_89 rfl ?_
                  refine tz_bipush (pc := 91) dX12_feed_91 (by decide) ?_
                  refine tz_bipush (pc := 93) dX12_feed_93 (by decide) ?_
                  refine tz_iload (pc := 95) dX12_feed_95 rfl ?_
                  refine tz_iconst (pc := 97) dX12_feed_97 ?_
                  refine tz_irem (pc := 98) (a := k) (b := 4) (v := (k % 4)) dX12_feed_98 (by omega) (by omega) rfl ?_
                  refine tz_imul (pc := 99) (v := 8 * (k % 4)) dX12_feed_99 rfl ?_
                  refine tz_isub (pc := 100) (v := 24 - (8 * (k % 4))) dX12_feed_100 rfl ?_
                  refine tz_ishr (pc := 101) (v := zshr e (24 - (8 * (k % 4)))) dX12_feed_101 rfl ?_
                  refine tz_sipush (pc := 102) dX12_feed_102 (by decide) ?_
                  refine tz_iand (pc := 105) (v := zand (zshr e (24 - (8 * (k % 4)))) 255) dX12_feed_105 rfl ?_
                  refine tz_aS (pc := 106) (z := ((J 164 19) + k)) dX12_feed_106 a_173 rfl (by omega) (zand_rg _ _) ?_
                  refine tz_iinc (pc := 107) (z := k + 1) (L2 := [_, _, _, _, _, _, _, _]) dX12_feed_107 rfl (by omega) rfl ?_
                  refine tz_goto (pc := 110) (tgt := 23) dX12_feed_110 (by decide) ?_
                  exact ih23 (k + 1) _ _ (by omega) (by omega) (zOf.up rfl f1) (fdM (by omega) (by unfold fB wB; (repeat (first | rw [if_pos (by omega)] | rw [if_neg (by omega)]))) t1)
                · refine tz_iload (pc := 69) dX12_feed_69 rfl ?_
                  refine tz_goto (pc := 71) (tgt := 76) dX12_feed_71 (by decide) ?_
                  refine tz_istore (pc := 76) (L2 := [_, _, _, _, _, _, _, _]) dX12_feed_76 (by decide) rfl ?_
                  refine tz_aload_n (pc := 78) dX12_feed_78 rfl rfl ?_
                  refine tz_fR (pc := 79) dX12_feed_79 fl_X12_34 r_164_18 ?_
                  refine tz_aload_n (pc := 82) dX12_feed_82 rfl rfl ?_
                  refine tz_fI (pc := 83) (kz := 19) (v := (J 164 19)) dX12_feed_83 fl_X12_328 i_164_19 rfl (Eq.trans (congrFun (f1 164 rfl) 19) rfl) (fun r_83 => ?_)
                  refine tz_iload (pc := 86) dX12_feed_86 rfl ?_
                  refine tz_iadd (pc := 88) (v := (J 164 19) + k) dX12_feed_88 rfl ?_
                  refine tz_iload (pc := 89) dX12_feed_89 rfl ?_
                  refine tz_bipush (pc := 91) dX12_feed_91 (by decide) ?_
                  refine tz_bipush (pc := 93) dX12_feed_93 (by decide) ?_
                  refine tz_iload (pc := 95) dX12_feed_95 rfl ?_
                  refine tz_iconst (pc := 97) dX12_feed_97 ?_
                  refine tz_irem (pc := 98) (a := k) (b := 4) (v := (k % 4)) dX12_feed_98 (by omega) (by omega) rfl ?_
                  refine tz_imul (pc := 99) (v := 8 * (k % 4)) dX12_feed_99 rfl ?_
                  refine tz_isub (pc := 100) (v := 24 - (8 * (k % 4))) dX12_feed_100 rfl ?_
                  refine tz_ishr (pc := 101) (v := zshr d (24 - (8 * (k % 4)))) dX12_feed_101 rfl ?_
                  refine tz_sipush (pc := 102) dX12_feed_102 (by decide) ?_
                  refine tz_iand (pc := 105) (v := zand (zshr d (24 - (8 * (k % 4)))) 255) dX12_feed_105 rfl ?_
                  refine tz_aS (pc := 106) (z := ((J 164 19) + k)) dX12_feed_106 a_173 rfl (by omega) (zand_rg _ _) ?_
                  refine tz_iinc (pc := 107) (z := k + 1) (L2 := [_, _, _, _, _, _, _, _]) dX12_feed_107 rfl (by omega) rfl ?_
                  refine tz_goto (pc := 110) (tgt := 23) dX12_feed_110 (by decide) ?_
                  exact ih23 (k + 1) _ _ (by omega) (by omega) (zOf.up rfl f1) (fdM (by omega) (by unfold fB wB; (repeat (first | rw [if_pos (by omega)] | rw [if_neg (by omega)]))) t1)
              · refine tz_iload_n (pc := 58) dX12_feed_58 rfl rfl ?_
                refine tz_goto (pc := 59) (tgt := 76) dX12_feed_59 (by decide) ?_
                refine tz_istore (pc := 76) (L2 := [_, _, _, _, _, _, _, _]) dX12_feed_76 (by decide) rfl ?_
                refine tz_aload_n (pc := 78) dX12_feed_78 rfl rfl ?_
                refine tz_fR (pc := 79) dX12_feed_79 fl_X12_34 r_164_18 ?_
                refine tz_aload_n (pc := 82) dX12_feed_82 rfl rfl ?_
                refine tz_fI (pc := 83) (kz := 19) (v := (J 164 19)) dX12_feed_83 fl_X12_328 i_164_19 rfl (Eq.trans (congrFun (f1 164 rfl) 19) rfl) (fun r_83 => ?_)
                refine tz_iload (pc := 86) dX12_feed_86 rfl ?_
                refine tz_iadd (pc := 88) (v := (J 164 19) + k) dX12_feed_88 rfl ?_
                refine tz_iload (pc := 89) dX12_feed_89 rfl ?_
                refine tz_bipush (pc := 91) dX12_feed_91 (by decide) ?_
                refine tz_bipush (pc := 93) dX12_feed_93 (by decide) ?_
                refine tz_iload (pc := 95) dX12_feed_95 rfl ?_
                refine tz_iconst (pc := 97) dX12_feed_97 ?_
                refine tz_irem (pc := 98) (a := k) (b := 4) (v := (k % 4)) dX12_feed_98 (by omega) (by omega) rfl ?_
                refine tz_imul (pc := 99) (v := 8 * (k % 4)) dX12_feed_99 rfl ?_
                refine tz_isub (pc := 100) (v := 24 - (8 * (k % 4))) dX12_feed_100 rfl ?_
                refine tz_ishr (pc := 101) (v := zshr c (24 - (8 * (k % 4)))) dX12_feed_101 rfl ?_
                refine tz_sipush (pc := 102) dX12_feed_102 (by decide) ?_
                refine tz_iand (pc := 105) (v := zand (zshr c (24 - (8 * (k % 4)))) 255) dX12_feed_105 rfl ?_
                refine tz_aS (pc := 106) (z := ((J 164 19) + k)) dX12_feed_106 a_173 rfl (by omega) (zand_rg _ _) ?_
                refine tz_iinc (pc := 107) (z := k + 1) (L2 := [_, _, _, _, _, _, _, _]) dX12_feed_107 rfl (by omega) rfl ?_
                refine tz_goto (pc := 110) (tgt := 23) dX12_feed_110 (by decide) ?_
                exact ih23 (k + 1) _ _ (by omega) (by omega) (zOf.up rfl f1) (fdM (by omega) (by unfold fB wB; (repeat (first | rw [if_pos (by omega)] | rw [if_neg (by omega)]))) t1)
            · refine tz_iload_n (pc := 47) dX12_feed_47 rfl rfl ?_
              refine tz_goto (pc := 48) (tgt := 76) dX12_feed_48 (by decide) ?_
              refine tz_istore (pc := 76) (L2 := [_, _, _, _, _, _, _, _]) dX12_feed_76 (by decide) rfl ?_
              refine tz_aload_n (pc := 78) dX12_feed_78 rfl rfl ?_
              refine tz_fR (pc := 79) dX12_feed_79 fl_X12_34 r_164_18 ?_
              refine tz_aload_n (pc := 82) dX12_feed_82 rfl rfl ?_
              refine tz_fI (pc := 83) (kz := 19) (v := (J 164 19)) dX12_feed_83 fl_X12_328 i_164_19 rfl (Eq.trans (congrFun (f1 164 rfl) 19) rfl) (fun r_83 => ?_)
              refine tz_iload (pc := 86) dX12_feed_86 rfl ?_
              refine tz_iadd (pc := 88) (v := (J 164 19) + k) dX12_feed_88 rfl ?_
              refine tz_iload (pc := 89) dX12_feed_89 rfl ?_
              refine tz_bipush (pc := 91) dX12_feed_91 (by decide) ?_
              refine tz_bipush (pc := 93) dX12_feed_93 (by decide) ?_
              refine tz_iload (pc := 95) dX12_feed_95 rfl ?_
              refine tz_iconst (pc := 97) dX12_feed_97 ?_
              refine tz_irem (pc := 98) (a := k) (b := 4) (v := (k % 4)) dX12_feed_98 (by omega) (by omega) rfl ?_
              refine tz_imul (pc := 99) (v := 8 * (k % 4)) dX12_feed_99 rfl ?_
              refine tz_isub (pc := 100) (v := 24 - (8 * (k % 4))) dX12_feed_100 rfl ?_
              refine tz_ishr (pc := 101) (v := zshr b (24 - (8 * (k % 4)))) dX12_feed_101 rfl ?_
              refine tz_sipush (pc := 102) dX12_feed_102 (by decide) ?_
              refine tz_iand (pc := 105) (v := zand (zshr b (24 - (8 * (k % 4)))) 255) dX12_feed_105 rfl ?_
              refine tz_aS (pc := 106) (z := ((J 164 19) + k)) dX12_feed_106 a_173 rfl (by omega) (zand_rg _ _) ?_
              refine tz_iinc (pc := 107) (z := k + 1) (L2 := [_, _, _, _, _, _, _, _]) dX12_feed_107 rfl (by omega) rfl ?_
              refine tz_goto (pc := 110) (tgt := 23) dX12_feed_110 (by decide) ?_
              exact ih23 (k + 1) _ _ (by omega) (by omega) (zOf.up rfl f1) (fdM (by omega) (by unfold fB wB; (repeat (first | rw [if_pos (by omega)] | rw [if_neg (by omega)]))) t1)
          · refine tz_iload_n (pc := 36) dX12_feed_36 rfl rfl ?_
            refine tz_goto (pc := 37) (tgt := 76) dX12_feed_37 (by decide) ?_
            refine tz_istore (pc := 76) (L2 := [_, _, _, _, _, _, _, _]) dX12_feed_76 (by decide) rfl ?_
            refine tz_aload_n (pc := 78) dX12_feed_78 rfl rfl ?_
            refine tz_fR (pc := 79) dX12_feed_79 fl_X12_34 r_164_18 ?_
            refine tz_aload_n (pc := 82) dX12_feed_82 rfl rfl ?_
            refine tz_fI (pc := 83) (kz := 19) (v := (J 164 19)) dX12_feed_83 fl_X12_328 i_164_19 rfl (Eq.trans (congrFun (f1 164 rfl) 19) rfl) (fun r_83 => ?_)
            refine tz_iload (pc := 86) dX12_feed_86 rfl ?_
            refine tz_iadd (pc := 88) (v := (J 164 19) + k) dX12_feed_88 rfl ?_
            refine tz_iload (pc := 89) dX12_feed_89 rfl ?_
            refine tz_bipush (pc := 91) dX12_feed_91 (by decide) ?_
            refine tz_bipush (pc := 93) dX12_feed_93 (by decide) ?_
            refine tz_iload (pc := 95) dX12_feed_95 rfl ?_
            refine tz_iconst (pc := 97) dX12_feed_97 ?_
            refine tz_irem (pc := 98) (a := k) (b := 4) (v := (k % 4)) dX12_feed_98 (by omega) (by omega) rfl ?_
            refine tz_imul (pc := 99) (v := 8 * (k % 4)) dX12_feed_99 rfl ?_
            refine tz_isub (pc := 100) (v := 24 - (8 * (k % 4))) dX12_feed_100 rfl ?_
            refine tz_ishr (pc := 101) (v := zshr a (24 - (8 * (k % 4)))) dX12_feed_101 rfl ?_
            refine tz_sipush (pc := 102) dX12_feed_102 (by decide) ?_
            refine tz_iand (pc := 105) (v := zand (zshr a (24 - (8 * (k % 4)))) 255) dX12_feed_105 rfl ?_
            refine tz_aS (pc := 106) (z := ((J 164 19) + k)) dX12_feed_106 a_173 rfl (by omega) (zand_rg _ _) ?_
            refine tz_iinc (pc := 107) (z := k + 1) (L2 := [_, _, _, _, _, _, _, _]) dX12_feed_107 rfl (by omega) rfl ?_
            refine tz_goto (pc := 110) (tgt := 23) dX12_feed_110 (by decide) ?_
            exact ih23 (k + 1) _ _ (by omega) (by omega) (zOf.up rfl f1) (fdM (by omega) (by unfold fB wB; (repeat (first | rw [if_pos (by omega)] | rw [if_neg (by omega)]))) t1)
    exact loop23 _ 0 none _ (Nat.lt_succ_self _) (by omega) zOf.rf (fun x => (if_neg (by omega)).symm)
  · refine tz_iconst (pc := 18) dX12_feed_18 ?_
    exact tz_iret (pc := 19) (z := (-1)) dX12_feed_19 rfl (Nat.le_of_ble_eq_true rfl) (Nat.le_of_ble_eq_true rfl) ⟨Nat.le_refl _, Nat.le_add_right _ _⟩ ⟨_, rfl, (by decide), ⟨⟨m, hI.z (MZ.up (k := 8) MZ.rf (by decide))⟩, fun c hc => MZ.lo (MZ.up (k := 8) MZ.rf (by decide)) c (Or.inl hc), ⟨rfl, rfl⟩, Or.inl ⟨by omega, rfl, rfl, rfl⟩⟩⟩

set_option maxHeartbeats 4000000 in
set_option maxRecDepth 100000 in
theorem x_right1 {l : Launch} {G : tb_G} (hl : l.stackTraces = false) (n : Nat) (J : zJ)    (h8 : J 164 8 = 0) : tz_Ok l G M_X12_right 0 0 0 [.ref 164, zi 1, zi 1] n J (zqi (fun z J' => J = J' ∧ 1 = z)) zN := by
  refine tz_Ok.of hl (by decide +kernel) rfl (tb_c1 rfl) (Nat.le_of_ble_eq_true rfl) ?_
  show tz_At l G M_X12_right (tb_rm 0 0 0) none (tb_ZM G 0 0 (zQ n 0 (zqi (fun z J' => J = J' ∧ 1 = z))) (zX n 0 zN)) 0 0 n J 0 [some (.ref 164), some (zi 1), some (zi 1)] []
  refine tz_aload_n (pc := 0) dX12_right_0 rfl rfl ?_
  refine tz_fI (pc := 1) (kz := 8) (v := 0) dX12_right_1 fl_X12_68 i_164_8 rfl h8 (fun _ => ?_)
  refine tz_if_neF (pc := 4) (tgt := 16) (by decide) dX12_right_4 (by decide) (by decide) ?_
  refine tz_iload_n (pc := 7) dX12_right_7 rfl rfl ?_
  refine tz_if_neT (pc := 8) (tgt := 16) (by decide) dX12_right_8 (by decide) (by decide) ?_
  refine tz_aload_n (pc := 16) dX12_right_16 rfl rfl ?_
  refine tz_fI (pc := 17) (kz := 8) (v := 0) dX12_right_17 fl_X12_68 i_164_8 rfl h8 (fun _ => ?_)
  refine tz_if_neF (pc := 20) (tgt := 27) (by decide) dX12_right_20 (by decide) (by decide) ?_
  refine tz_iconst (pc := 23) dX12_right_23 ?_
  refine tz_goto (pc := 24) (tgt := 28) dX12_right_24 (by decide) ?_
  exact tz_zret (pc := 28) (z := 1) dX12_right_28 rfl (Or.inr rfl) (Nat.le_of_ble_eq_true rfl) (Nat.le_of_ble_eq_true rfl) ⟨Nat.le_refl _, Nat.le_add_right _ _⟩ ⟨_, rfl, (by decide), ⟨rfl, rfl⟩⟩

set_option maxHeartbeats 4000000 in
set_option maxRecDepth 100000 in
theorem x_right0 {l : Launch} {G : tb_G} (hl : l.stackTraces = false) (n : Nat) (J : zJ)    (h8 : J 164 8 = 0) : tz_Ok l G M_X12_right 0 0 0 [.ref 164, zi 0, zi 1] n J (zqi (fun z J' => zup J 164 8 1 = J' ∧ 0 = z)) zN := by
  refine tz_Ok.of hl (by decide +kernel) rfl (tb_c1 rfl) (Nat.le_of_ble_eq_true rfl) ?_
  show tz_At l G M_X12_right (tb_rm 0 0 0) none (tb_ZM G 0 0 (zQ n 0 (zqi (fun z J' => zup J 164 8 1 = J' ∧ 0 = z))) (zX n 0 zN)) 0 0 n J 0 [some (.ref 164), some (zi 0), some (zi 1)] []
  refine tz_aload_n (pc := 0) dX12_right_0 rfl rfl ?_
  refine tz_fI (pc := 1) (kz := 8) (v := 0) dX12_right_1 fl_X12_68 i_164_8 rfl h8 (fun _ => ?_)
  refine tz_if_neF (pc := 4) (tgt := 16) (by decide) dX12_right_4 (by decide) (by decide) ?_
  refine tz_iload_n (pc := 7) dX12_right_7 rfl rfl ?_
  refine tz_if_neF (pc := 8) (tgt := 16) (by decide) dX12_right_8 (by decide) (by decide) ?_
  refine tz_aload_n (pc := 11) dX12_right_11 rfl rfl ?_
  refine tz_iload_n (pc := 12) dX12_right_12 rfl rfl ?_
  refine tz_pI (pc := 13) (kz := 8) dX12_right_13 fl_X12_68 i_164_8 rfl rfl (by decide) ?_
  refine tz_aload_n (pc := 16) dX12_right_16 rfl rfl ?_
  refine tz_fI (pc := 17) (kz := 8) (v := 1) dX12_right_17 fl_X12_68 i_164_8 rfl rfl (fun _ => ?_)
  refine tz_if_neT (pc := 20) (tgt := 27) (by decide) dX12_right_20 (by decide) (by decide) ?_
  refine tz_iconst (pc := 27) dX12_right_27 ?_
  exact tz_zret (pc := 28) (z := 0) dX12_right_28 rfl (Or.inl rfl) (Nat.le_of_ble_eq_true rfl) (Nat.le_of_ble_eq_true rfl) ⟨Nat.le_refl _, Nat.le_add_right _ _⟩ ⟨_, rfl, (by decide), ⟨rfl, rfl⟩⟩

theorem QR.n {J f : zJ} {x : Int} (h : QR J (pAl 703 (pN (pG f x)))) (hx : 0 ≤ x ∧ x ≤ 700) : J 164 43 = (pAl 703 (pN (pG f x))) 0 4 ∧ (¬ (pAl 703 (pN (pG f x))) 0 4 = 0 → J 164 20 = (pAl 703 (pN (pG f x))) 0 5) ∧ ((pAl 703 (pN (pG f x))) 0 4 = 0 → EM J (pAl 703 (pN (pG f x))) ∧ WOK J) := h.resolve_left (pAl_g 703 _ (GB.g0 hx)).2.1
set_option maxHeartbeats 4000000 in
set_option maxRecDepth 100000 in
theorem v_qbank {l : Launch} {G : tb_G} (hl : l.stackTraces = false) (n : Nat) (J : zJ) (x : Int) (hr_x : -2147483648 ≤ x ∧ x < 2147483648) (m : Int) (hI : MI J m)  : tz_Ok l G M_X12_bank 24 0 0 [.ref 164, zi x] n J (zqi (fun z J' => (∃ m, MI J' m) ∧ (∀ c, c < 164 ∨ c = 173 → J' c = J c) ∧ J' 183 = J 183 ∧ ((0 ≤ x ∧ x ≤ J 164 19 ∧ J' 164 19 = 0 ∧ J' 164 8 = 0 ∧ z = (pAl 703 (pN (pG J x))) 0 4 ∧ (¬ (pAl 703 (pN (pG J x))) 0 4 = 0 → J' 164 20 = (pAl 703 (pN (pG J x))) 0 5 ∧ J' 164 14 = J 164 14) ∧ ((pAl 703 (pN (pG J x))) 0 4 = 0 → J' 164 20 = -1 ∧ J' 164 14 = 0)) ∨ (¬ (0 ≤ x ∧ x ≤ J 164 19) ∧ J' 164 19 = J 164 19 ∧ J' 164 8 = 1 ∧ J' 164 20 = J 164 20 ∧ J' 164 14 = J 164 14)))) zN := by
  refine tz_Ok.of hl (by decide +kernel) rfl (tb_c1 rfl) (Nat.le_of_ble_eq_true rfl) ?_
  show tz_At l G M_X12_bank (tb_rm 24 0 0) none (tb_ZM G 0 0 (zQ n 0 (zqi (fun z J' => (∃ m, MI J' m) ∧ (∀ c, c < 164 ∨ c = 173 → J' c = J c) ∧ J' 183 = J 183 ∧ ((0 ≤ x ∧ x ≤ J 164 19 ∧ J' 164 19 = 0 ∧ J' 164 8 = 0 ∧ z = (pAl 703 (pN (pG J x))) 0 4 ∧ (¬ (pAl 703 (pN (pG J x))) 0 4 = 0 → J' 164 20 = (pAl 703 (pN (pG J x))) 0 5 ∧ J' 164 14 = J 164 14) ∧ ((pAl 703 (pN (pG J x))) 0 4 = 0 → J' 164 20 = -1 ∧ J' 164 14 = 0)) ∨ (¬ (0 ≤ x ∧ x ≤ J 164 19) ∧ J' 164 19 = J 164 19 ∧ J' 164 8 = 1 ∧ J' 164 20 = J 164 20 ∧ J' 164 14 = J 164 14))))) (zX n 0 zN)) 0 0 n J 0 [some (.ref 164), some (zi x), none] []
  have hT := hI.told
  have hW := hI.row
  have hM := hI.1
  have hL := hI.2.1
  refine tz_aload_n (pc := 0) dX12_bank_0 rfl rfl ?_
  refine tz_iconst (pc := 1) dX12_bank_1 ?_
  refine tz_pI (pc := 2) (kz := 8) dX12_bank_2 fl_X12_68 i_164_8 rfl rfl (by decide) ?_
  refine tz_aload_n (pc := 5) dX12_bank_5 rfl rfl ?_
  refine tz_iload_n (pc := 6) dX12_bank_6 rfl rfl ?_
  refine tz_if_lt (pc := 7) (tgt := 22) dX12_bank_7 (by decide) (by omega) (fun h_7 => ?_) (fun h_7 => ?_)
  · refine tz_iconst (pc := 22) dX12_bank_22 ?_
    refine tz_iconst (pc := 23) dX12_bank_23 ?_
    refine tz_cV (pc := 24) (x_right0 hl n _ rfl) vl_X12_334 dX12_bank_24 o_164 rfl rfl (Nat.le_of_ble_eq_true rfl) ⟨(Nat.le_of_ble_eq_true rfl), (Nat.le_of_ble_eq_true rfl)⟩ rfl rfl (Nat.le_of_ble_eq_true rfl) (Nat.le_of_ble_eq_true rfl) (fun r9 J_24 hq9 => ?_)
    obtain ⟨z_24, rfl, hz_24, rfl, rfl⟩ := hq9
    refine tz_if_neF (pc := 27) (tgt := 32) (by decide) dX12_bank_27 (by decide) (by decide) ?_
    refine tz_iconst (pc := 30) dX12_bank_30 ?_
    exact tz_iret (pc := 31) (z := 0) dX12_bank_31 rfl (Nat.le_of_ble_eq_true rfl) (Nat.le_of_ble_eq_true rfl) ⟨Nat.le_refl _, Nat.le_add_right _ _⟩ ⟨_, rfl, (by decide), ⟨⟨m, hI.z (MZ.up (k := 8) (MZ.up (k := 8) MZ.rf (by decide)) (by decide))⟩, MZ.lo (MZ.up (k := 8) (MZ.up (k := 8) MZ.rf (by decide)) (by decide)), rfl, Or.inr ⟨by omega, rfl, rfl, rfl, rfl⟩⟩⟩
  · refine tz_iload_n (pc := 10) dX12_bank_10 rfl rfl ?_
    refine tz_aload_n (pc := 11) dX12_bank_11 rfl rfl ?_
    refine tz_fI (pc := 12) (kz := 19) (v := (J 164 19)) dX12_bank_12 fl_X12_328 i_164_19 rfl rfl (fun r_12 => ?_)
    refine tz_icmp_gt (pc := 15) (tgt := 22) dX12_bank_15 (by decide) (by omega) (by omega) (fun h_15 => ?_) (fun h_15 => ?_)
    · refine tz_iconst (pc := 22) dX12_bank_22 ?_
      refine tz_iconst (pc := 23) dX12_bank_23 ?_
      refine tz_cV (pc := 24) (x_right0 hl n _ rfl) vl_X12_334 dX12_bank_24 o_164 rfl rfl (Nat.le_of_ble_eq_true rfl) ⟨(Nat.le_of_ble_eq_true rfl), (Nat.le_of_ble_eq_true rfl)⟩ rfl rfl (Nat.le_of_ble_eq_true rfl) (Nat.le_of_ble_eq_true rfl) (fun r9 J_24 hq9 => ?_)
      obtain ⟨z_24, rfl, hz_24, rfl, rfl⟩ := hq9
      refine tz_if_neF (pc := 27) (tgt := 32) (by decide) dX12_bank_27 (by decide) (by decide) ?_
      refine tz_iconst (pc := 30) dX12_bank_30 ?_
      exact tz_iret (pc := 31) (z := 0) dX12_bank_31 rfl (Nat.le_of_ble_eq_true rfl) (Nat.le_of_ble_eq_true rfl) ⟨Nat.le_refl _, Nat.le_add_right _ _⟩ ⟨_, rfl, (by decide), ⟨⟨m, hI.z (MZ.up (k := 8) (MZ.up (k := 8) MZ.rf (by decide)) (by decide))⟩, MZ.lo (MZ.up (k := 8) (MZ.up (k := 8) MZ.rf (by decide)) (by decide)), rfl, Or.inr ⟨by omega, rfl, rfl, rfl, rfl⟩⟩⟩
    · refine tz_iconst (pc := 18) dX12_bank_18 ?_
      refine tz_goto (pc := 19) (tgt := 23) dX12_bank_19 (by decide) ?_
      refine tz_iconst (pc := 23) dX12_bank_23 ?_
      refine tz_cV (pc := 24) (x_right1 hl n _ rfl) vl_X12_334 dX12_bank_24 o_164 rfl rfl (Nat.le_of_ble_eq_true rfl) ⟨(Nat.le_of_ble_eq_true rfl), (Nat.le_of_ble_eq_true rfl)⟩ rfl rfl (Nat.le_of_ble_eq_true rfl) (Nat.le_of_ble_eq_true rfl) (fun r9 J_24 hq9 => ?_)
      obtain ⟨z_24, rfl, hz_24, rfl, rfl⟩ := hq9
      refine tz_if_neT (pc := 27) (tgt := 32) (by decide) dX12_bank_27 (by decide) (by decide) ?_
      refine tz_aload_n (pc := 32) dX12_bank_32 rfl rfl ?_
      refine tz_iconst (pc := 33) dX12_bank_33 ?_
      refine tz_pI (pc := 34) (kz := 19) dX12_bank_34 fl_X12_328 i_164_19 rfl rfl (by decide) ?_
      refine tz_aload_n (pc := 37) dX12_bank_37 rfl rfl ?_
      refine tz_iload_n (pc := 38) dX12_bank_38 rfl rfl ?_
      refine tz_cV (pc := 39) (y_readsAll hl n _ _ (by omega) (by omega) ⟨(show (zup (zup J 164 8 0) 164 19 0) 164 15 = 0 from hT.2.2.2.1.1), (show (zup (zup J 164 8 0) 164 19 0) 164 16 = 0 from hT.2.2.2.1.2.1), (show (zup (zup J 164 8 0) 164 19 0) 164 17 = 0 from hT.2.2.2.1.2.2)⟩) vl_X12_337 dX12_bank_39 o_164 rfl rfl (Nat.le_of_ble_eq_true rfl) ⟨(Nat.le_of_ble_eq_true rfl), (Nat.le_of_ble_eq_true rfl)⟩ rfl rfl (Nat.le_of_ble_eq_true rfl) (Nat.le_of_ble_eq_true rfl) (fun r9 J_39 hq9 => ?_)
      obtain ⟨rfl, ⟨r_39, s9, m9, t9⟩, k_39⟩ := hq9
      have i_39 := MI.rd hI (MZ.up (k := 8) MZ.rf (by decide)) r_39
      rw [show pG (zup (zup J 164 8 0) 164 19 0) x = pG J x from pG_e (fun c hc _ => by rw [zup_nc (by omega), zup_nc (by omega)])] at k_39
      have v_39 := k_39.n (by omega)
      have g8 : J_39 164 8 = 0 := (r_39.2.2.2.2.2 8 (by decide)).trans rfl
      have g14 : J_39 164 14 = J 164 14 := (r_39.2.2.2.2.2 14 (by decide)).trans rfl
      refine tz_aload_n (pc := 42) dX12_bank_42 rfl rfl ?_
      refine tz_fI (pc := 43) (kz := 43) (v := (J_39 164 43)) dX12_bank_43 fl_X12_273 i_164_43 rfl rfl (fun r_43 => ?_)
      refine tz_if_eq (pc := 46) (tgt := 64) dX12_bank_46 (by decide) (by omega) (fun h_46 => ?_) (fun h_46 => ?_)
      · refine tz_aload_n (pc := 64) dX12_bank_64 rfl rfl ?_
        refine tz_sipush (pc := 65) dX12_bank_65 (by decide) ?_
        refine tz_iconst (pc := 68) dX12_bank_68 ?_
        refine tz_cV (pc := 69) (m_moves hl n _ _ _ (by decide) (by decide) (by decide) (by decide)) vl_X12_340 dX12_bank_69 o_164 rfl rfl (Nat.le_of_ble_eq_true rfl) ⟨(Nat.le_of_ble_eq_true rfl), (Nat.le_of_ble_eq_true rfl)⟩ rfl rfl (Nat.le_of_ble_eq_true rfl) (Nat.le_of_ble_eq_true rfl) (fun r9 J_69 hq9 => ?_)
        obtain ⟨rfl, v_69⟩ := hq9
        refine tz_aload_n (pc := 72) dX12_bank_72 rfl rfl ?_
        refine tz_bipush (pc := 73) dX12_bank_73 (by decide) ?_
        refine tz_iconst (pc := 75) dX12_bank_75 ?_
        refine tz_bipush (pc := 76) dX12_bank_76 (by decide) ?_
        refine tz_cV (pc := 78) (zm_copies hl n _ _ _ _ (by decide) (by decide) (by decide) (by omega) (by omega)) vl_X12_343 dX12_bank_78 o_164 rfl rfl (Nat.le_of_ble_eq_true rfl) ⟨(Nat.le_of_ble_eq_true rfl), (Nat.le_of_ble_eq_true rfl)⟩ rfl rfl (Nat.le_of_ble_eq_true rfl) (Nat.le_of_ble_eq_true rfl) (fun r9 J_78 hq9 => ?_)
        obtain ⟨rfl, rfl⟩ := hq9
        refine tz_aload_n (pc := 81) dX12_bank_81 rfl rfl ?_
        refine tz_aload_n (pc := 82) dX12_bank_82 rfl rfl ?_
        refine tz_fI (pc := 83) (kz := 44) (v := (J_39 164 44)) dX12_bank_83 fl_X12_287 i_164_44 rfl (Eq.trans (congrFun (v_69.1 164 rfl) 44) rfl) (fun r_83 => ?_)
        refine tz_pI (pc := 86) (kz := 9) dX12_bank_86 fl_X12_347 i_164_9 rfl rfl (by omega) ?_
        refine tz_iconst (pc := 89) dX12_bank_89 ?_
        refine tz_istore_n (pc := 90) (L2 := [_, _, _]) dX12_bank_90 rfl (by decide) rfl ?_
        have loop91 : ∀ (f9 : Nat) (k : Int) (J1 : zJ), ((10 - k).toNat) < f9 → (0 ≤ k ∧ k ≤ 10) → (zOf (zbut [169, 170, 171]) J1 (zup (zmv J_69 165 126 0 63) 164 9 (J_39 164 44))) → (∀ q, 0 ≤ q → q < k → J1 170 q = J_39 170 (10 + q)) → (∀ q, 10 ≤ q → J1 170 q = J_39 170 q) → tz_At l G M_X12_bank (tb_rm 24 0 0) none (tb_ZM G 0 0 (zQ n 0 (zqi (fun z J' => (∃ m, MI J' m) ∧ (∀ c, c < 164 ∨ c = 173 → J' c = J c) ∧ J' 183 = J 183 ∧ ((0 ≤ x ∧ x ≤ J 164 19 ∧ J' 164 19 = 0 ∧ J' 164 8 = 0 ∧ z = (pAl 703 (pN (pG J x))) 0 4 ∧ (¬ (pAl 703 (pN (pG J x))) 0 4 = 0 → J' 164 20 = (pAl 703 (pN (pG J x))) 0 5 ∧ J' 164 14 = J 164 14) ∧ ((pAl 703 (pN (pG J x))) 0 4 = 0 → J' 164 20 = -1 ∧ J' 164 14 = 0)) ∨ (¬ (0 ≤ x ∧ x ≤ J 164 19) ∧ J' 164 19 = J 164 19 ∧ J' 164 8 = 1 ∧ J' 164 20 = J 164 20 ∧ J' 164 14 = J 164 14))))) (zX n 0 zN)) 0 0 n J1 91 [some (.ref 164), some (zi x), some (zi k)] [] := by
          intro f9
          induction f9 with
          | zero => intro k J1 hm9; exact absurd hm9 (Nat.not_lt_zero _)
          | succ f9 ih91 =>
            intro k J1 hm91 hk f1 e1 e2
            refine tz_iload_n (pc := 91) dX12_bank_91 rfl rfl ?_
            refine tz_bipush (pc := 92) dX12_bank_92 (by decide) ?_
            refine tz_icmp_ge (pc := 94) (tgt := 148) dX12_bank_94 (by decide) (by omega) (by decide) (fun h_94 => ?_) (fun h_94 => ?_)
            · have f3 : zOf (zbut [164, 165, 166, 167, 168, 169, 170, 171]) (zup (zup (zup J1 164 14 0) 164 11 0) 164 10 0) J_39 := zOf.up rfl (zOf.up rfl (zOf.up rfl ((f1.mono (zbut_sub (fun c hc => by simp at hc ⊢; omega))).tr (zOf.up rfl (zOf.mv rfl (v_69.1.mono (zbut_sub (fun c hc => by simp at hc ⊢; omega))))))))
              have LOB : ∀ c, c < 164 ∨ c = 173 → (zup (zup (zup J1 164 14 0) 164 11 0) 164 10 0) c = J c := fun c hc => (f3 c (zbut_lo (by decide) hc)).trans (i_39.2.1 c hc)
              have LO9 : (zup (zup (zup J1 164 14 0) 164 11 0) 164 10 0) 164 19 = 0 := by show J1 164 19 = 0; rw [f1 164 rfl]; show J_69 164 19 = 0; rw [v_69.1 164 rfl]; exact i_39.2.2
              have LO8 : (zup (zup (zup J1 164 14 0) 164 11 0) 164 10 0) 164 8 = 0 := by show J1 164 8 = 0; rw [f1 164 rfl]; show J_69 164 8 = 0; rw [v_69.1 164 rfl]; exact g8
              have LO20 : (pAl 703 (pN (pG J x))) 0 4 = 0 → (zup (zup (zup J1 164 14 0) 164 11 0) 164 10 0) 164 20 = -1 := fun q => by show J1 164 20 = -1; rw [f1 164 rfl]; show J_69 164 20 = -1; rw [v_69.1 164 rfl]; exact (v_39.2.2 q).1.2.2.1.2.2.2
              refine tz_aload_n (pc := 148) dX12_bank_148 rfl rfl ?_
              refine tz_aload_n (pc := 149) dX12_bank_149 rfl rfl ?_
              refine tz_aload_n (pc := 150) dX12_bank_150 rfl rfl ?_
              refine tz_iconst (pc := 151) dX12_bank_151 ?_
              refine tz_dup_x1 (pc := 152) dX12_bank_152 rfl rfl ?_
              refine tz_pI (pc := 153) (kz := 14) dX12_bank_153 fl_X12_350 i_164_14 rfl rfl (by decide) ?_
              refine tz_dup_x1 (pc := 156) dX12_bank_156 rfl rfl ?_
              refine tz_pI (pc := 157) (kz := 11) dX12_bank_157 fl_X12_353 i_164_11 rfl rfl (by decide) ?_
              refine tz_pI (pc := 160) (kz := 10) dX12_bank_160 fl_X12_356 i_164_10 rfl rfl (by decide) ?_
              refine tz_iconst (pc := 163) dX12_bank_163 ?_
              exact tz_iret (pc := 164) (z := 0) dX12_bank_164 rfl (Nat.le_of_ble_eq_true rfl) (Nat.le_of_ble_eq_true rfl) ⟨Nat.le_refl _, Nat.le_add_right _ _⟩ ⟨_, rfl, (by decide), ⟨⟨m9, MI.bank i_39.1 i_39.2.2 t9 v_69 f1 (fun q a b => e1 q a (by omega))⟩, fun c hc => LOB c hc, (f3 183 rfl).trans ((r_39.1 183 rfl).trans rfl), Or.inl ⟨by omega, by omega, LO9, LO8, by omega, fun q => absurd q (by omega), fun q => ⟨LO20 q, rfl⟩⟩⟩⟩
            · refine tz_aload_n (pc := 97) dX12_bank_97 rfl rfl ?_
              refine tz_fR (pc := 98) dX12_bank_98 fl_X12_22 r_164_4 ?_
              refine tz_iload_n (pc := 101) dX12_bank_101 rfl rfl ?_
              refine tz_aload_n (pc := 102) dX12_bank_102 rfl rfl ?_
              refine tz_fR (pc := 103) dX12_bank_103 fl_X12_22 r_164_4 ?_
              refine tz_bipush (pc := 106) dX12_bank_106 (by decide) ?_
              refine tz_iload_n (pc := 108) dX12_bank_108 rfl rfl ?_
              refine tz_iadd (pc := 109) (v := 10 + k) dX12_bank_109 rfl ?_
              refine tz_aL (pc := 110) (z := (10 + k)) (v := (J1 169 (10 + k))) dX12_bank_110 a_169 rfl (by omega) rfl (fun r_110 => ?_)
              refine tz_aS (pc := 111) (z := k) dX12_bank_111 a_169 rfl (by omega) (by omega) ?_
              refine tz_aload_n (pc := 112) dX12_bank_112 rfl rfl ?_
              refine tz_fR (pc := 113) dX12_bank_113 fl_X12_25 r_164_5 ?_
              refine tz_iload_n (pc := 116) dX12_bank_116 rfl rfl ?_
              refine tz_aload_n (pc := 117) dX12_bank_117 rfl rfl ?_
              refine tz_fR (pc := 118) dX12_bank_118 fl_X12_25 r_164_5 ?_
              refine tz_bipush (pc := 121) dX12_bank_121 (by decide) ?_
              refine tz_iload_n (pc := 123) dX12_bank_123 rfl rfl ?_
              refine tz_iadd (pc := 124) (v := 10 + k) dX12_bank_124 rfl ?_
              refine tz_aL (pc := 125) (z := (10 + k)) (v := (J1 170 (10 + k))) dX12_bank_125 a_170 rfl (by omega) rfl (fun r_125 => ?_)
              refine tz_aS (pc := 126) (z := k) dX12_bank_126 a_170 rfl (by omega) (by omega) ?_
              refine tz_aload_n (pc := 127) dX12_bank_127 rfl rfl ?_
              refine tz_fR (pc := 128) dX12_bank_128 fl_X12_28 r_164_6 ?_
              refine tz_iload_n (pc := 131) dX12_bank_131 rfl rfl ?_
              refine tz_aload_n (pc := 132) dX12_bank_132 rfl rfl ?_
              refine tz_fR (pc := 133) dX12_bank_133 fl_X12_28 r_164_6 ?_
              refine tz_bipush (pc := 136) dX12_bank_136 (by decide) ?_
              refine tz_iload_n (pc := 138) dX12_bank_138 rfl rfl ?_
              refine tz_iadd (pc := 139) (v := 10 + k) dX12_bank_139 rfl ?_
              refine tz_aL (pc := 140) (z := (10 + k)) (v := (J1 171 (10 + k))) dX12_bank_140 a_171 rfl (by omega) rfl (fun r_140 => ?_)
              refine tz_aS (pc := 141) (z := k) dX12_bank_141 a_171 rfl (by omega) (by omega) ?_
              refine tz_iinc (pc := 142) (z := k + 1) (L2 := [_, _, _]) dX12_bank_142 rfl (by omega) rfl ?_
              refine tz_goto (pc := 145) (tgt := 91) dX12_bank_145 (by decide) ?_
              exact ih91 (k + 1) _ (by omega) (by omega) (zOf.up rfl (zOf.up rfl (zOf.up rfl f1))) (fun q a b => (Decidable.em (q = k)).elim (fun e => by rw [e]; show (if k = k then J1 170 (10 + k) else J1 170 k) = _; rw [if_pos rfl]; exact e2 _ (by omega)) (fun e => by show (if q = k then J1 170 (10 + k) else J1 170 q) = _; rw [if_neg e]; exact e1 q a (by omega))) (fun q a => by show (if q = k then J1 170 (10 + k) else J1 170 q) = _; rw [if_neg (by omega)]; exact e2 q a)
        exact loop91 _ 0 _ (Nat.lt_succ_self _) (by omega) zOf.rf (fun q a b => by omega) (fun q a => congrFun (v_69.1 170 rfl) q)
      · refine tz_aload_n (pc := 49) dX12_bank_49 rfl rfl ?_
        refine tz_fR (pc := 50) dX12_bank_50 fl_X12_31 r_164_7 ?_
        refine tz_iconst (pc := 53) dX12_bank_53 ?_
        refine tz_dup2 (pc := 54) dX12_bank_54 rfl rfl ?_
        refine tz_aL (pc := 55) (z := 0) (v := (J_39 172 0)) dX12_bank_55 a_172 rfl (by decide) rfl (fun r_55 => ?_)
        refine tz_iconst (pc := 56) dX12_bank_56 ?_
        refine tz_iadd (pc := 57) (v := (J_39 172 0) + 1) dX12_bank_57 rfl ?_
        refine tz_tw ?_
        have rw_58 := zw_rg ((J_39 172 0) + 1)
        refine tz_aS (pc := 58) (z := 0) dX12_bank_58 a_172 rfl (by decide) (zw_rg _) ?_
        refine tz_aload_n (pc := 59) dX12_bank_59 rfl rfl ?_
        refine tz_fI (pc := 60) (kz := 43) (v := (J_39 164 43)) dX12_bank_60 fl_X12_273 i_164_43 rfl rfl (fun r_60 => ?_)
        exact tz_iret (pc := 63) (z := (J_39 164 43)) dX12_bank_63 rfl (Nat.le_of_ble_eq_true rfl) (Nat.le_of_ble_eq_true rfl) ⟨Nat.le_refl _, Nat.le_add_right _ _⟩ ⟨_, rfl, (by omega), ⟨⟨m, i_39.1.z (MZ.c (zOf.up rfl zOf.rf : zOf (zbut [172]) _ _) (by decide))⟩, fun c hc => (zup_nc (by omega)).trans (i_39.2.1 c hc), (r_39.1 183 rfl).trans rfl, Or.inl ⟨by omega, by omega, i_39.2.2, g8, v_39.1, fun q => ⟨v_39.2.1 q, g14⟩, fun q => absurd q (by omega)⟩⟩⟩

