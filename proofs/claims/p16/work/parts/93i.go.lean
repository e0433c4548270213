/-- the reference's fields tell a token -/
def TKM (J : zJ) (f : Int → Int) (st k en : Int) : Prop := J 164 36 = st ∧ J 164 35 = en ∧ ((k = 0 ∧ J 164 38 = 0 ∧ J 164 42 = 0 ∧ J 164 41 = 0 ∧ J 164 40 = -1) ∨ (k = 2 ∧ J 164 38 = 1 ∧ J 164 42 = 0 ∧ J 164 41 = en - st ∧ WD f st en (J 164 40)) ∨ (k = 3 ∧ J 164 38 = 2 ∧ J 164 42 = 0 ∧ J 164 41 = 0 ∧ J 164 40 = -1 ∧ ((en = st + 1 ∧ J 164 39 = f st - 48) ∨ (st + 1 < en ∧ J 164 39 = 999))) ∨ (k = 1 ∧ J 164 38 = 4 ∧ J 164 42 = 0 ∧ J 164 41 = 0 ∧ J 164 40 = -1) ∨ ((¬ k = 0 ∧ ¬ k = 1 ∧ ¬ k = 2 ∧ ¬ k = 3) ∧ J 164 38 = 3 ∧ J 164 42 = k ∧ J 164 41 = 0 ∧ J 164 40 = -1))
theorem kd2 {c : Int} (h : 97 ≤ c ∧ c ≤ 122) : kdB c = 2 := by unfold kdB; rw [if_pos h]
theorem kd2' {c : Int} (h : ¬ (97 ≤ c ∧ c ≤ 122)) : ¬ kdB c = 2 := by unfold kdB; (repeat' split) <;> omega
theorem kd3 {c : Int} (h : 48 ≤ c ∧ c ≤ 57) : kdB c = 3 := by unfold kdB; rw [if_neg (by omega), if_pos h]
theorem kd3' {c : Int} (h : ¬ (48 ≤ c ∧ c ≤ 57)) : ¬ kdB c = 3 := by unfold kdB; (repeat' split) <;> omega
theorem kds {c : Int} (h : c = 63 ∨ c = 40 ∨ c = 41 ∨ c = 44 ∨ c = 59) : kdB c = c := by unfold kdB; (repeat' split) <;> omega
theorem kd1 {c : Int} (h : ¬ (97 ≤ c ∧ c ≤ 122)) (h1 : ¬ (48 ≤ c ∧ c ≤ 57)) (h2 : ¬ (c = 63 ∨ c = 40 ∨ c = 41 ∨ c = 44 ∨ c = 59)) : kdB c = 1 := by unfold kdB; rw [if_neg h, if_neg h1, if_neg h2]
set_option maxHeartbeats 4000000 in
set_option maxRecDepth 100000 in
theorem x_isSgn {l : Launch} {G : tb_G} (hl : l.stackTraces = false) (n : Nat) (J : zJ) (x : Int) (hr_x : -2147483648 ≤ x ∧ x < 2147483648)   : tz_Ok l G M_X12_isSignByte 0 0 0 [.ref 164, zi x] n J (zqi (fun z J' => J = J' ∧ ((z = 1 ∧ (x = 63 ∨ x = 40 ∨ x = 41 ∨ x = 44 ∨ x = 59)) ∨ (z = 0 ∧ ¬ (x = 63 ∨ x = 40 ∨ x = 41 ∨ x = 44 ∨ x = 59))))) zN := by
  refine tz_Ok.of hl (by decide +kernel) rfl (tb_c1 rfl) (Nat.le_of_ble_eq_true rfl) ?_
  show tz_At l G M_X12_isSignByte (tb_rm 0 0 0) none (tb_ZM G 0 0 (zQ n 0 (zqi (fun z J' => J = J' ∧ ((z = 1 ∧ (x = 63 ∨ x = 40 ∨ x = 41 ∨ x = 44 ∨ x = 59)) ∨ (z = 0 ∧ ¬ (x = 63 ∨ x = 40 ∨ x = 41 ∨ x = 44 ∨ x = 59)))))) (zX n 0 zN)) 0 0 n J 0 [some (.ref 164), some (zi x)] []
  refine tz_iload_n (pc := 0) dX12_isSignByte_0 rfl rfl ?_
  refine tz_bipush (pc := 1) dX12_isSignByte_1 (by decide) ?_
  refine tz_icmp_eq (pc := 3) (tgt := 30) dX12_isSignByte_3 (by decide) (by omega) (by decide) (fun h_3 => ?_) (fun h_3 => ?_)
  · refine tz_iconst (pc := 30) dX12_isSignByte_30 ?_
    refine tz_goto (pc := 31) (tgt := 35) dX12_isSignByte_31 (by decide) ?_
    exact tz_zret (pc := 35) (z := 1) dX12_isSignByte_35 rfl (Or.inr rfl) (Nat.le_of_ble_eq_true rfl) (Nat.le_of_ble_eq_true rfl) ⟨Nat.le_refl _, Nat.le_add_right _ _⟩ ⟨_, rfl, (by decide), ⟨rfl, by omega⟩⟩
  · refine tz_iload_n (pc := 6) dX12_isSignByte_6 rfl rfl ?_
    refine tz_bipush (pc := 7) dX12_isSignByte_7 (by decide) ?_
    refine tz_icmp_eq (pc := 9) (tgt := 30) dX12_isSignByte_9 (by decide) (by omega) (by decide) (fun h_9 => ?_) (fun h_9 => ?_)
    · refine tz_iconst (pc := 30) dX12_isSignByte_30 ?_
      refine tz_goto (pc := 31) (tgt := 35) dX12_isSignByte_31 (by decide) ?_
      exact tz_zret (pc := 35) (z := 1) dX12_isSignByte_35 rfl (Or.inr rfl) (Nat.le_of_ble_eq_true rfl) (Nat.le_of_ble_eq_true rfl) ⟨Nat.le_refl _, Nat.le_add_right _ _⟩ ⟨_, rfl, (by decide), ⟨rfl, by omega⟩⟩
    · refine tz_iload_n (pc := 12) dX12_isSignByte_12 rfl rfl ?_
      refine tz_bipush (pc := 13) dX12_isSignByte_13 (by decide) ?_
      refine tz_icmp_eq (pc := 15) (tgt := 30) dX12_isSignByte_15 (by decide) (by omega) (by decide) (fun h_15 => ?_) (fun h_15 => ?_)
      · refine tz_iconst (pc := 30) dX12_isSignByte_30 ?_
        refine tz_goto (pc := 31) (tgt := 35) dX12_isSignByte_31 (by decide) ?_
        exact tz_zret (pc := 35) (z := 1) dX12_isSignByte_35 rfl (Or.inr rfl) (Nat.le_of_ble_eq_true rfl) (Nat.le_of_ble_eq_true rfl) ⟨Nat.le_refl _, Nat.le_add_right _ _⟩ ⟨_, rfl, (by decide), ⟨rfl, by omega⟩⟩
      · refine tz_iload_n (pc := 18) dX12_isSignByte_18 rfl rfl ?_
        refine tz_bipush (pc := 19) dX12_isSignByte_19 (by decide) ?_
        refine tz_icmp_eq (pc := 21) (tgt := 30) dX12_isSignByte_21 (by decide) (by omega) (by decide) (fun h_21 => ?_) (fun h_21 => ?_)
        · refine tz_iconst (pc := 30) dX12_isSignByte_30 ?_
          refine tz_goto (pc := 31) (tgt := 35) dX12_isSignByte_31 (by decide) ?_
          exact tz_zret (pc := 35) (z := 1) dX12_isSignByte_35 rfl (Or.inr rfl) (Nat.le_of_ble_eq_true rfl) (Nat.le_of_ble_eq_true rfl) ⟨Nat.le_refl _, Nat.le_add_right _ _⟩ ⟨_, rfl, (by decide), ⟨rfl, by omega⟩⟩
        · refine tz_iload_n (pc := 24) dX12_isSignByte_24 rfl rfl ?_
          refine tz_bipush (pc := 25) dX12_isSignByte_25 (by decide) ?_
          refine tz_icmp_ne (pc := 27) (tgt := 34) dX12_isSignByte_27 (by decide) (by omega) (by decide) (fun h_27 => ?_) (fun h_27 => ?_)
          · refine tz_iconst (pc := 34) dX12_isSignByte_34 ?_
            exact tz_zret (pc := 35) (z := 0) dX12_isSignByte_35 rfl (Or.inl rfl) (Nat.le_of_ble_eq_true rfl) (Nat.le_of_ble_eq_true rfl) ⟨Nat.le_refl _, Nat.le_add_right _ _⟩ ⟨_, rfl, (by decide), ⟨rfl, by omega⟩⟩
          · refine tz_iconst (pc := 30) dX12_isSignByte_30 ?_
            refine tz_goto (pc := 31) (tgt := 35) dX12_isSignByte_31 (by decide) ?_
            exact tz_zret (pc := 35) (z := 1) dX12_isSignByte_35 rfl (Or.inr rfl) (Nat.le_of_ble_eq_true rfl) (Nat.le_of_ble_eq_true rfl) ⟨Nat.le_refl _, Nat.le_add_right _ _⟩ ⟨_, rfl, (by decide), ⟨rfl, by omega⟩⟩

set_option maxHeartbeats 4000000 in
set_option maxRecDepth 100000 in
theorem x_go {l : Launch} {G : tb_G} (hl : l.stackTraces = false) (n : Nat) (J : zJ)    (hS0 : RSz J) : tz_Ok l G M_X12_go 2 0 0 [.ref 164] n J (zqv (fun J' => RGo J' J ∧ TKM J' (J 173) (tkS (J 173) (J 164 37) (J 164 35)) (tkK (J 173) (J 164 37) (J 164 35)) (tkE (J 173) (J 164 37) (J 164 35)))) zN := by
  refine tz_Ok.of hl (by decide +kernel) rfl (tb_c1 rfl) (Nat.le_of_ble_eq_true rfl) ?_
  show tz_At l G M_X12_go (tb_rm 2 0 0) none (tb_ZM G 0 0 (zQ n 0 (zqv (fun J' => RGo J' J ∧ TKM J' (J 173) (tkS (J 173) (J 164 37) (J 164 35)) (tkK (J 173) (J 164 37) (J 164 35)) (tkE (J 173) (J 164 37) (J 164 35))))) (zX n 0 zN)) 0 0 n J 0 [some (.ref 164), none] []
  obtain ⟨ra, rb⟩ := id hS0
  have loop0 : ∀ (f9 : Nat) (J1 : zJ), ((J 164 37 - J1 164 35).toNat) < f9 → (RGo J1 J) → (J 164 35 ≤ J1 164 35 ∧ J1 164 35 ≤ J 164 37) → (∀ q, J 164 35 ≤ q → q < J1 164 35 → J 173 q = 32 ∨ J 173 q = 10) → tz_At l G M_X12_go (tb_rm 2 0 0) none (tb_ZM G 0 0 (zQ n 0 (zqv (fun J' => RGo J' J ∧ TKM J' (J 173) (tkS (J 173) (J 164 37) (J 164 35)) (tkK (J 173) (J 164 37) (J 164 35)) (tkE (J 173) (J 164 37) (J 164 35))))) (zX n 0 zN)) 0 0 n J1 0 [some (.ref 164), none] [] := by
    intro f9
    induction f9 with
    | zero => intro J1 hm9; exact absurd hm9 (Nat.not_lt_zero _)
    | succ f9 ih0 =>
      intro J1 hm0 f1 le1 al1
      refine tz_aload_n (pc := 0) dX12_go_0 rfl rfl ?_
      refine tz_fI (pc := 1) (kz := 35) (v := (J1 164 35)) dX12_go_1 fl_X12_243 i_164_35 rfl rfl (fun r_1 => ?_)
      refine tz_aload_n (pc := 4) dX12_go_4 rfl rfl ?_
      refine tz_fI (pc := 5) (kz := 37) (v := (J 164 37)) dX12_go_5 fl_X12_233 i_164_37 rfl (Eq.trans (f1.2 37 rfl) rfl) (fun r_5 => ?_)
      refine tz_icmp_ge (pc := 8) (tgt := 50) dX12_go_8 (by decide) (by omega) (by omega) (fun h_8 => ?_) (fun h_8 => ?_)
      · have hS : tkS (J 173) (J 164 37) (J 164 35) = J1 164 35 := tkS_eq le1.1 le1.2 al1 (by omega)
        refine tz_aload_n (pc := 50) dX12_go_50 rfl rfl ?_
        refine tz_aload_n (pc := 51) dX12_go_51 rfl rfl ?_
        refine tz_fI (pc := 52) (kz := 35) (v := (J1 164 35)) dX12_go_52 fl_X12_243 i_164_35 rfl rfl (fun r_52 => ?_)
        refine tz_pI (pc := 55) (kz := 36) dX12_go_55 fl_X12_246 i_164_36 rfl rfl (by omega) ?_
        refine tz_aload_n (pc := 58) dX12_go_58 rfl rfl ?_
        refine tz_aload_n (pc := 59) dX12_go_59 rfl rfl ?_
        refine tz_fI (pc := 60) (kz := 35) (v := (J1 164 35)) dX12_go_60 fl_X12_243 i_164_35 rfl rfl (fun r_60 => ?_)
        refine tz_cV (pc := 63) (m_byteAt hl n _ _ (by omega) (by omega) (by rw [(show ((zup J1 164 36 (J1 164 35)) : zJ) 164 37 = (J 164 37) from (Eq.trans (f1.2 37 rfl) rfl))]; omega)) vl_X12_240 dX12_go_63 o_164 rfl rfl (Nat.le_of_ble_eq_true rfl) ⟨(Nat.le_of_ble_eq_true rfl), (Nat.le_of_ble_eq_true rfl)⟩ rfl rfl (Nat.le_of_ble_eq_true rfl) (Nat.le_of_ble_eq_true rfl) (fun r9 J_63 hq9 => ?_)
        obtain ⟨z_63, rfl, hz_63, rfl, hb_63, hc_63⟩ := hq9
        rw [(show ((zup J1 164 36 (J1 164 35)) : zJ) 164 37 = (J 164 37) from (Eq.trans (f1.2 37 rfl) rfl))] at hb_63 hc_63
        have hd_63 : (J1 164 35) < J 164 37 → J 173 (J1 164 35) = z_63 := fun q9 => by have q8 := hc_63 q9; rw [show ((zup J1 164 36 (J1 164 35)) : zJ) 173 = J 173 from f1.1 173 rfl] at q8; exact q8
        refine tz_istore_n (pc := 66) (L2 := [_, _]) dX12_go_66 rfl (by decide) rfl ?_
        refine tz_aload_n (pc := 67) dX12_go_67 rfl rfl ?_
        refine tz_iconst (pc := 68) dX12_go_68 ?_
        refine tz_pI (pc := 69) (kz := 40) dX12_go_69 fl_X12_249 i_164_40 rfl rfl (by decide) ?_
        refine tz_aload_n (pc := 72) dX12_go_72 rfl rfl ?_
        refine tz_iconst (pc := 73) dX12_go_73 ?_
        refine tz_pI (pc := 74) (kz := 41) dX12_go_74 fl_X12_252 i_164_41 rfl rfl (by decide) ?_
        refine tz_aload_n (pc := 77) dX12_go_77 rfl rfl ?_
        refine tz_iconst (pc := 78) dX12_go_78 ?_
        refine tz_pI (pc := 79) (kz := 39) dX12_go_79 fl_X12_255 i_164_39 rfl rfl (by decide) ?_
        refine tz_aload_n (pc := 82) dX12_go_82 rfl rfl ?_
        refine tz_iconst (pc := 83) dX12_go_83 ?_
        refine tz_pI (pc := 84) (kz := 42) dX12_go_84 fl_X12_258 i_164_42 rfl rfl (by decide) ?_
        refine tz_aload_n (pc := 87) dX12_go_87 rfl rfl ?_
        refine tz_fI (pc := 88) (kz := 35) (v := (J1 164 35)) dX12_go_88 fl_X12_243 i_164_35 rfl rfl (fun r_88 => ?_)
        refine tz_aload_n (pc := 91) dX12_go_91 rfl rfl ?_
        refine tz_fI (pc := 92) (kz := 37) (v := (J 164 37)) dX12_go_92 fl_X12_233 i_164_37 rfl (Eq.trans (f1.2 37 rfl) rfl) (fun r_92 => ?_)
        refine tz_icmp_lt (pc := 95) (tgt := 106) dX12_go_95 (by decide) (by omega) (by omega) (fun h_95 => ?_) (fun h_95 => ?_)
        · refine tz_iload_n (pc := 106) dX12_go_106 rfl rfl ?_
          refine tz_cS (pc := 107) (m_isLet hl n _ _ (by omega)) sl_X12_264 dX12_go_107 rfl rfl (Nat.le_of_ble_eq_true rfl) ⟨(Nat.le_of_ble_eq_true rfl), (Nat.le_of_ble_eq_true rfl)⟩ rfl rfl (Nat.le_of_ble_eq_true rfl) (Nat.le_of_ble_eq_true rfl) (fun r9 J_107 hq9 => ?_)
          obtain ⟨z_107, rfl, hz_107, rfl, hl_107⟩ := hq9
          refine tz_if_eq (pc := 110) (tgt := 177) dX12_go_110 (by decide) (by omega) (fun h_110 => ?_) (fun h_110 => ?_)
          · refine tz_iload_n (pc := 177) dX12_go_177 rfl rfl ?_
            refine tz_bipush (pc := 178) dX12_go_178 (by decide) ?_
            refine tz_icmp_lt (pc := 180) (tgt := 268) dX12_go_180 (by decide) (by omega) (by decide) (fun h_180 => ?_) (fun h_180 => ?_)
            · have hf : J 173 (J1 164 35) = z_63 := hd_63 (by omega)
              refine tz_aload_n (pc := 268) dX12_go_268 rfl rfl ?_
              refine tz_dup (pc := 269) dX12_go_269 rfl ?_
              refine tz_fI (pc := 270) (kz := 35) (v := (J1 164 35)) dX12_go_270 fl_X12_243 i_164_35 rfl rfl (fun r_270 => ?_)
              refine tz_iconst (pc := 273) dX12_go_273 ?_
              refine tz_iadd (pc := 274) (v := (J1 164 35) + 1) dX12_go_274 rfl ?_
              refine tz_pI (pc := 275) (kz := 35) dX12_go_275 fl_X12_243 i_164_35 rfl rfl (by omega) ?_
              refine tz_aload_n (pc := 278) dX12_go_278 rfl rfl ?_
              refine tz_aload_n (pc := 279) dX12_go_279 rfl rfl ?_
              refine tz_iload_n (pc := 280) dX12_go_280 rfl rfl ?_
              refine tz_cV (pc := 281) (x_isSgn hl n _ _ (by omega)) vl_X12_270 dX12_go_281 o_164 rfl rfl (Nat.le_of_ble_eq_true rfl) ⟨(Nat.le_of_ble_eq_true rfl), (Nat.le_of_ble_eq_true rfl)⟩ rfl rfl (Nat.le_of_ble_eq_true rfl) (Nat.le_of_ble_eq_true rfl) (fun r9 J_281 hq9 => ?_)
              obtain ⟨z_281, rfl, hz_281, rfl, hg⟩ := hq9
              refine tz_if_eq (pc := 284) (tgt := 291) dX12_go_284 (by decide) (by omega) (fun h_284 => ?_) (fun h_284 => ?_)
              · refine tz_iconst (pc := 291) dX12_go_291 ?_
                have hk1 : kdB (J 173 (J1 164 35)) = 1 := by rw [hf]; exact kd1 (by omega) (by omega) (by omega)
                refine tz_pI (pc := 292) (kz := 38) dX12_go_292 fl_X12_261 i_164_38 rfl rfl (by decide) ?_
                refine tz_aload_n (pc := 295) dX12_go_295 rfl rfl ?_
                refine tz_aload_n (pc := 296) dX12_go_296 rfl rfl ?_
                refine tz_fI (pc := 297) (kz := 38) (v := 4) dX12_go_297 fl_X12_261 i_164_38 rfl rfl (fun _ => ?_)
                refine tz_iconst (pc := 300) dX12_go_300 ?_
                refine tz_icmp_neT (pc := 301) (tgt := 308) (by decide) dX12_go_301 (by decide) (by decide) (by decide) ?_
                refine tz_iconst (pc := 308) dX12_go_308 ?_
                refine tz_pI (pc := 309) (kz := 42) dX12_go_309 fl_X12_258 i_164_42 rfl rfl (by decide) ?_
                exact tz_vret (pc := 312) dX12_go_312 rfl (Nat.le_of_ble_eq_true rfl) (Nat.le_of_ble_eq_true rfl) ⟨Nat.le_refl _, Nat.le_add_right _ _⟩ ⟨rfl, ⟨(RGo.up (k := 42) (RGo.up (k := 38) (RGo.up (k := 35) (RGo.up (k := 42) (RGo.up (k := 39) (RGo.up (k := 41) (RGo.up (k := 40) (RGo.up (k := 36) f1 rfl) rfl) rfl) rfl) rfl) rfl) rfl) rfl), Eq.trans (show ((zup (zup (zup (zup (zup (zup (zup (zup J1 164 36 (J1 164 35)) 164 40 (-1)) 164 41 0) 164 39 0) 164 42 0) 164 35 ((J1 164 35) + 1)) 164 38 4) 164 42 0) : zJ) 164 36 = (J1 164 35) from rfl) hS.symm, Eq.trans (show ((zup (zup (zup (zup (zup (zup (zup (zup J1 164 36 (J1 164 35)) 164 40 (-1)) 164 41 0) 164 39 0) 164 42 0) 164 35 ((J1 164 35) + 1)) 164 38 4) 164 42 0) : zJ) 164 35 = ((J1 164 35) + 1) from rfl) (Eq.symm (tkE_1 hS (by omega) hk1 (by decide))), Or.inr (Or.inr (Or.inr (Or.inl ⟨(tkK_1 hS (by omega)).trans hk1, (Eq.trans (show ((zup (zup (zup (zup (zup (zup (zup (zup J1 164 36 (J1 164 35)) 164 40 (-1)) 164 41 0) 164 39 0) 164 42 0) 164 35 ((J1 164 35) + 1)) 164 38 4) 164 42 0) : zJ) 164 38 = 4 from rfl) (by omega)), (Eq.trans (show ((zup (zup (zup (zup (zup (zup (zup (zup J1 164 36 (J1 164 35)) 164 40 (-1)) 164 41 0) 164 39 0) 164 42 0) 164 35 ((J1 164 35) + 1)) 164 38 4) 164 42 0) : zJ) 164 42 = 0 from rfl) (by omega)), (Eq.trans (show ((zup (zup (zup (zup (zup (zup (zup (zup J1 164 36 (J1 164 35)) 164 40 (-1)) 164 41 0) 164 39 0) 164 42 0) 164 35 ((J1 164 35) + 1)) 164 38 4) 164 42 0) : zJ) 164 41 = 0 from rfl) (by omega)), (Eq.trans (show ((zup (zup (zup (zup (zup (zup (zup (zup J1 164 36 (J1 164 35)) 164 40 (-1)) 164 41 0) 164 39 0) 164 42 0) 164 35 ((J1 164 35) + 1)) 164 38 4) 164 42 0) : zJ) 164 40 = (-1) from rfl) (by omega))⟩)))⟩⟩
              · refine tz_iconst (pc := 287) dX12_go_287 ?_
                refine tz_goto (pc := 288) (tgt := 292) dX12_go_288 (by decide) ?_
                have hks : kdB (J 173 (J1 164 35)) = z_63 := by rw [hf]; exact kds (by omega)
                refine tz_pI (pc := 292) (kz := 38) dX12_go_292 fl_X12_261 i_164_38 rfl rfl (by decide) ?_
                refine tz_aload_n (pc := 295) dX12_go_295 rfl rfl ?_
                refine tz_aload_n (pc := 296) dX12_go_296 rfl rfl ?_
                refine tz_fI (pc := 297) (kz := 38) (v := 3) dX12_go_297 fl_X12_261 i_164_38 rfl rfl (fun _ => ?_)
                refine tz_iconst (pc := 300) dX12_go_300 ?_
                refine tz_icmp_neF (pc := 301) (tgt := 308) (by decide) dX12_go_301 (by decide) (by decide) (by decide) ?_
                refine tz_iload_n (pc := 304) dX12_go_304 rfl rfl ?_
                refine tz_goto (pc := 305) (tgt := 309) dX12_go_305 (by decide) ?_
                refine tz_pI (pc := 309) (kz := 42) dX12_go_309 fl_X12_258 i_164_42 rfl rfl (by omega) ?_
                exact tz_vret (pc := 312) dX12_go_312 rfl (Nat.le_of_ble_eq_true rfl) (Nat.le_of_ble_eq_true rfl) ⟨Nat.le_refl _, Nat.le_add_right _ _⟩ ⟨rfl, ⟨(RGo.up (k := 42) (RGo.up (k := 38) (RGo.up (k := 35) (RGo.up (k := 42) (RGo.up (k := 39) (RGo.up (k := 41) (RGo.up (k := 40) (RGo.up (k := 36) f1 rfl) rfl) rfl) rfl) rfl) rfl) rfl) rfl), Eq.trans (show ((zup (zup (zup (zup (zup (zup (zup (zup J1 164 36 (J1 164 35)) 164 40 (-1)) 164 41 0) 164 39 0) 164 42 0) 164 35 ((J1 164 35) + 1)) 164 38 3) 164 42 z_63) : zJ) 164 36 = (J1 164 35) from rfl) hS.symm, Eq.trans (show ((zup (zup (zup (zup (zup (zup (zup (zup J1 164 36 (J1 164 35)) 164 40 (-1)) 164 41 0) 164 39 0) 164 42 0) 164 35 ((J1 164 35) + 1)) 164 38 3) 164 42 z_63) : zJ) 164 35 = ((J1 164 35) + 1) from rfl) (Eq.symm (tkE_1 hS (by omega) hks (by omega))), Or.inr (Or.inr (Or.inr (Or.inr ⟨(by rw [tkK_1 hS (by omega), hks]; omega), (Eq.trans (show ((zup (zup (zup (zup (zup (zup (zup (zup J1 164 36 (J1 164 35)) 164 40 (-1)) 164 41 0) 164 39 0) 164 42 0) 164 35 ((J1 164 35) + 1)) 164 38 3) 164 42 z_63) : zJ) 164 38 = 3 from rfl) (by omega)), (Eq.trans (show ((zup (zup (zup (zup (zup (zup (zup (zup J1 164 36 (J1 164 35)) 164 40 (-1)) 164 41 0) 164 39 0) 164 42 0) 164 35 ((J1 164 35) + 1)) 164 38 3) 164 42 z_63) : zJ) 164 42 = z_63 from rfl) (by rw [tkK_1 hS (by omega), hks])), (Eq.trans (show ((zup (zup (zup (zup (zup (zup (zup (zup J1 164 36 (J1 164 35)) 164 40 (-1)) 164 41 0) 164 39 0) 164 42 0) 164 35 ((J1 164 35) + 1)) 164 38 3) 164 42 z_63) : zJ) 164 41 = 0 from rfl) (by omega)), (Eq.trans (show ((zup (zup (zup (zup (zup (zup (zup (zup J1 164 36 (J1 164 35)) 164 40 (-1)) 164 41 0) 164 39 0) 164 42 0) 164 35 ((J1 164 35) + 1)) 164 38 3) 164 42 z_63) : zJ) 164 40 = (-1) from rfl) (by omega))⟩)))⟩⟩
            · refine tz_iload_n (pc := 183) dX12_go_183 rfl rfl ?_
              refine tz_bipush (pc := 184) dX12_go_184 (by decide) ?_
              refine tz_icmp_gt (pc := 186) (tgt := 268) dX12_go_186 (by decide) (by omega) (by decide) (fun h_186 => ?_) (fun h_186 => ?_)
              · have hf : J 173 (J1 164 35) = z_63 := hd_63 (by omega)
                refine tz_aload_n (pc := 268) dX12_go_268 rfl rfl ?_
                refine tz_dup (pc := 269) dX12_go_269 rfl ?_
                refine tz_fI (pc := 270) (kz := 35) (v := (J1 164 35)) dX12_go_270 fl_X12_243 i_164_35 rfl rfl (fun r_270 => ?_)
                refine tz_iconst (pc := 273) dX12_go_273 ?_
                refine tz_iadd (pc := 274) (v := (J1 164 35) + 1) dX12_go_274 rfl ?_
                refine tz_pI (pc := 275) (kz := 35) dX12_go_275 fl_X12_243 i_164_35 rfl rfl (by omega) ?_
                refine tz_aload_n (pc := 278) dX12_go_278 rfl rfl ?_
                refine tz_aload_n (pc := 279) dX12_go_279 rfl rfl ?_
                refine tz_iload_n (pc := 280) dX12_go_280 rfl rfl ?_
                refine tz_cV (pc := 281) (x_isSgn hl n _ _ (by omega)) vl_X12_270 dX12_go_281 o_164 rfl rfl (Nat.le_of_ble_eq_true rfl) ⟨(Nat.le_of_ble_eq_true rfl), (Nat.le_of_ble_eq_true rfl)⟩ rfl rfl (Nat.le_of_ble_eq_true rfl) (Nat.le_of_ble_eq_true rfl) (fun r9 J_281 hq9 => ?_)
                obtain ⟨z_281, rfl, hz_281, rfl, hg⟩ := hq9
                refine tz_if_eq (pc := 284) (tgt := 291) dX12_go_284 (by decide) (by omega) (fun h_284 => ?_) (fun h_284 => ?_)
                · refine tz_iconst (pc := 291) dX12_go_291 ?_
                  have hk1 : kdB (J 173 (J1 164 35)) = 1 := by rw [hf]; exact kd1 (by omega) (by omega) (by omega)
                  refine tz_pI (pc := 292) (kz := 38) dX12_go_292 fl_X12_261 i_164_38 rfl rfl (by decide) ?_
                  refine tz_aload_n (pc := 295) dX12_go_295 rfl rfl ?_
                  refine tz_aload_n (pc := 296) dX12_go_296 rfl rfl ?_
                  refine tz_fI (pc := 297) (kz := 38) (v := 4) dX12_go_297 fl_X12_261 i_164_38 rfl rfl (fun _ => ?_)
                  refine tz_iconst (pc := 300) dX12_go_300 ?_
                  refine tz_icmp_neT (pc := 301) (tgt := 308) (by decide) dX12_go_301 (by decide) (by decide) (by decide) ?_
                  refine tz_iconst (pc := 308) dX12_go_308 ?_
                  refine tz_pI (pc := 309) (kz := 42) dX12_go_309 fl_X12_258 i_164_42 rfl rfl (by decide) ?_
                  exact tz_vret (pc := 312) dX12_go_312 rfl (Nat.le_of_ble_eq_true rfl) (Nat.le_of_ble_eq_true rfl) ⟨Nat.le_refl _, Nat.le_add_right _ _⟩ ⟨rfl, ⟨(RGo.up (k := 42) (RGo.up (k := 38) (RGo.up (k := 35) (RGo.up (k := 42) (RGo.up (k := 39) (RGo.up (k := 41) (RGo.up (k := 40) (RGo.up (k := 36) f1 rfl) rfl) rfl) rfl) rfl) rfl) rfl) rfl), Eq.trans (show ((zup (zup (zup (zup (zup (zup (zup (zup J1 164 36 (J1 164 35)) 164 40 (-1)) 164 41 0) 164 39 0) 164 42 0) 164 35 ((J1 164 35) + 1)) 164 38 4) 164 42 0) : zJ) 164 36 = (J1 164 35) from rfl) hS.symm, Eq.trans (show ((zup (zup (zup (zup (zup (zup (zup (zup J1 164 36 (J1 164 35)) 164 40 (-1)) 164 41 0) 164 39 0) 164 42 0) 164 35 ((J1 164 35) + 1)) 164 38 4) 164 42 0) : zJ) 164 35 = ((J1 164 35) + 1) from rfl) (Eq.symm (tkE_1 hS (by omega) hk1 (by decide))), Or.inr (Or.inr (Or.inr (Or.inl ⟨(tkK_1 hS (by omega)).trans hk1, (Eq.trans (show ((zup (zup (zup (zup (zup (zup (zup (zup J1 164 36 (J1 164 35)) 164 40 (-1)) 164 41 0) 164 39 0) 164 42 0) 164 35 ((J1 164 35) + 1)) 164 38 4) 164 42 0) : zJ) 164 38 = 4 from rfl) (by omega)), (Eq.trans (show ((zup (zup (zup (zup (zup (zup (zup (zup J1 164 36 (J1 164 35)) 164 40 (-1)) 164 41 0) 164 39 0) 164 42 0) 164 35 ((J1 164 35) + 1)) 164 38 4) 164 42 0) : zJ) 164 42 = 0 from rfl) (by omega)), (Eq.trans (show ((zup (zup (zup (zup (zup (zup (zup (zup J1 164 36 (J1 164 35)) 164 40 (-1)) 164 41 0) 164 39 0) 164 42 0) 164 35 ((J1 164 35) + 1)) 164 38 4) 164 42 0) : zJ) 164 41 = 0 from rfl) (by omega)), (Eq.trans (show ((zup (zup (zup (zup (zup (zup (zup (zup J1 164 36 (J1 164 35)) 164 40 (-1)) 164 41 0) 164 39 0) 164 42 0) 164 35 ((J1 164 35) + 1)) 164 38 4) 164 42 0) : zJ) 164 40 = (-1) from rfl) (by omega))⟩)))⟩⟩
                · refine tz_iconst (pc := 287) dX12_go_287 ?_
                  refine tz_goto (pc := 288) (tgt := 292) dX12_go_288 (by decide) ?_
                  have hks : kdB (J 173 (J1 164 35)) = z_63 := by rw [hf]; exact kds (by omega)
                  refine tz_pI (pc := 292) (kz := 38) dX12_go_292 fl_X12_261 i_164_38 rfl rfl (by decide) ?_
                  refine tz_aload_n (pc := 295) dX12_go_295 rfl rfl ?_
                  refine tz_aload_n (pc := 296) dX12_go_296 rfl rfl ?_
                  refine tz_fI (pc := 297) (kz := 38) (v := 3) dX12_go_297 fl_X12_261 i_164_38 rfl rfl (fun _ => ?_)
                  refine tz_iconst (pc := 300) dX12_go_300 ?_
                  refine tz_icmp_neF (pc := 301) (tgt := 308) (by decide) dX12_go_301 (by decide) (by decide) (by decide) ?_
                  refine tz_iload_n (pc := 304) dX12_go_304 rfl rfl ?_
                  refine tz_goto (pc := 305) (tgt := 309) dX12_go_305 (by decide) ?_
                  refine tz_pI (pc := 309) (kz := 42) dX12_go_309 fl_X12_258 i_164_42 rfl rfl (by omega) ?_
                  exact tz_vret (pc := 312) dX12_go_312 rfl (Nat.le_of_ble_eq_true rfl) (Nat.le_of_ble_eq_true rfl) ⟨Nat.le_refl _, Nat.le_add_right _ _⟩ ⟨rfl, ⟨(RGo.up (k := 42) (RGo.up (k := 38) (RGo.up (k := 35) (RGo.up (k := 42) (RGo.up (k := 39) (RGo.up (k := 41) (RGo.up (k := 40) (RGo.up (k := 36) f1 rfl) rfl) rfl) rfl) rfl) rfl) rfl) rfl), Eq.trans (show ((zup (zup (zup (zup (zup (zup (zup (zup J1 164 36 (J1 164 35)) 164 40 (-1)) 164 41 0) 164 39 0) 164 42 0) 164 35 ((J1 164 35) + 1)) 164 38 3) 164 42 z_63) : zJ) 164 36 = (J1 164 35) from rfl) hS.symm, Eq.trans (show ((zup (zup (zup (zup (zup (zup (zup (zup J1 164 36 (J1 164 35)) 164 40 (-1)) 164 41 0) 164 39 0) 164 42 0) 164 35 ((J1 164 35) + 1)) 164 38 3) 164 42 z_63) : zJ) 164 35 = ((J1 164 35) + 1) from rfl) (Eq.symm (tkE_1 hS (by omega) hks (by omega))), Or.inr (Or.inr (Or.inr (Or.inr ⟨(by rw [tkK_1 hS (by omega), hks]; omega), (Eq.trans (show ((zup (zup (zup (zup (zup (zup (zup (zup J1 164 36 (J1 164 35)) 164 40 (-1)) 164 41 0) 164 39 0) 164 42 0) 164 35 ((J1 164 35) + 1)) 164 38 3) 164 42 z_63) : zJ) 164 38 = 3 from rfl) (by omega)), (Eq.trans (show ((zup (zup (zup (zup (zup (zup (zup (zup J1 164 36 (J1 164 35)) 164 40 (-1)) 164 41 0) 164 39 0) 164 42 0) 164 35 ((J1 164 35) + 1)) 164 38 3) 164 42 z_63) : zJ) 164 42 = z_63 from rfl) (by rw [tkK_1 hS (by omega), hks])), (Eq.trans (show ((zup (zup (zup (zup (zup (zup (zup (zup J1 164 36 (J1 164 35)) 164 40 (-1)) 164 41 0) 164 39 0) 164 42 0) 164 35 ((J1 164 35) + 1)) 164 38 3) 164 42 z_63) : zJ) 164 41 = 0 from rfl) (by omega)), (Eq.trans (show ((zup (zup (zup (zup (zup (zup (zup (zup J1 164 36 (J1 164 35)) 164 40 (-1)) 164 41 0) 164 39 0) 164 42 0) 164 35 ((J1 164 35) + 1)) 164 38 3) 164 42 z_63) : zJ) 164 40 = (-1) from rfl) (by omega))⟩)))⟩⟩
              · have loop189 : ∀ (f9 : Nat) (J3 : zJ), ((J 164 37 - J3 164 35).toNat) < f9 → (RGo J3 J) → (J1 164 35 ≤ J3 164 35 ∧ J3 164 35 ≤ J 164 37) → (∀ q, J1 164 35 ≤ q → q < J3 164 35 → 48 ≤ J 173 q ∧ J 173 q ≤ 57) → (J3 164 36 = J1 164 35) → (J3 164 42 = 0 ∧ J3 164 41 = 0 ∧ J3 164 40 = -1) → ((J3 164 35 = J1 164 35 ∧ J3 164 39 = 0) ∨ (J3 164 35 = J1 164 35 + 1 ∧ J3 164 39 = J 173 (J1 164 35) - 48) ∨ (J1 164 35 + 1 < J3 164 35 ∧ J3 164 39 = 999)) → tz_At l G M_X12_go (tb_rm 2 0 0) none (tb_ZM G 0 0 (zQ n 0 (zqv (fun J' => RGo J' J ∧ TKM J' (J 173) (tkS (J 173) (J 164 37) (J 164 35)) (tkK (J 173) (J 164 37) (J 164 35)) (tkE (J 173) (J 164 37) (J 164 35))))) (zX n 0 zN)) 0 0 n J3 189 [some (.ref 164), some (zi z_63)] [] := by
                  intro f9
                  induction f9 with
                  | zero => intro J3 hm9; exact absurd hm9 (Nat.not_lt_zero _)
                  | succ f9 ih189 =>
                    intro J3 hm189 f3 le3 al3 pl3 sg3 vl3
                    refine tz_aload_n (pc := 189) dX12_go_189 rfl rfl ?_
                    refine tz_aload_n (pc := 190) dX12_go_190 rfl rfl ?_
                    refine tz_fI (pc := 191) (kz := 35) (v := (J3 164 35)) dX12_go_191 fl_X12_243 i_164_35 rfl rfl (fun r_191 => ?_)
                    refine tz_cV (pc := 194) (m_byteAt hl n _ _ (by omega) (by omega) (by rw [(show (J3 : zJ) 164 37 = (J 164 37) from (Eq.trans (f3.2 37 rfl) rfl))]; omega)) vl_X12_240 dX12_go_194 o_164 rfl rfl (Nat.le_of_ble_eq_true rfl) ⟨(Nat.le_of_ble_eq_true rfl), (Nat.le_of_ble_eq_true rfl)⟩ rfl rfl (Nat.le_of_ble_eq_true rfl) (Nat.le_of_ble_eq_true rfl) (fun r9 J_194 hq9 => ?_)
                    obtain ⟨z_194, rfl, hz_194, rfl, hb_194, hc_194⟩ := hq9
                    rw [(show (J3 : zJ) 164 37 = (J 164 37) from (Eq.trans (f3.2 37 rfl) rfl))] at hb_194 hc_194
                    have hd_194 : (J3 164 35) < J 164 37 → J 173 (J3 164 35) = z_194 := fun q9 => by have q8 := hc_194 q9; rw [show (J3 : zJ) 173 = J 173 from f3.1 173 rfl] at q8; exact q8
                    refine tz_bipush (pc := 197) dX12_go_197 (by decide) ?_
                    refine tz_icmp_lt (pc := 199) (tgt := 260) dX12_go_199 (by decide) (by omega) (by decide) (fun h_199 => ?_) (fun h_199 => ?_)
                    · have hf : J 173 (J1 164 35) = z_63 := hd_63 (by omega)
                      have hk3 : kdB (J 173 (J1 164 35)) = 3 := by rw [hf]; exact kd3 (by omega)
                      have lt9 : J1 164 35 < J3 164 35 := by
                        rcases Int.lt_or_eq_of_le le3.1 with e9 | e9
                        · exact e9
                        · exfalso; have e1 := hd_194 (by omega); rw [← e9] at e1; first | omega | (have e2 := hd_207 (by omega); rw [← e9] at e2; omega)
                      have hE3 : tkE (J 173) (J 164 37) (J 164 35) = J3 164 35 := tkE_2 hS (by omega) hk3 (Or.inr rfl) (by omega) le3.2 (fun q x y => kd3 (al3 q (by omega) y)) (by
                        rcases Int.lt_or_eq_of_le le3.2 with e9 | e9
                        · refine Or.inr ?_
                          first | (rw [hd_207 e9]; exact kd3' (by omega)) | (rw [hd_194 e9]; exact kd3' (by omega))
                        · exact Or.inl e9)
                      refine tz_aload_n (pc := 260) dX12_go_260 rfl rfl ?_
                      refine tz_iconst (pc := 261) dX12_go_261 ?_
                      refine tz_pI (pc := 262) (kz := 38) dX12_go_262 fl_X12_261 i_164_38 rfl rfl (by decide) ?_
                      refine tz_goto (pc := 265) (tgt := 312) dX12_go_265 (by decide) ?_
                      exact tz_vret (pc := 312) dX12_go_312 rfl (Nat.le_of_ble_eq_true rfl) (Nat.le_of_ble_eq_true rfl) ⟨Nat.le_refl _, Nat.le_add_right _ _⟩ ⟨rfl, ⟨(RGo.up (k := 38) f3 rfl), Eq.trans (show ((zup J3 164 38 2) : zJ) 164 36 = (J3 164 36) from rfl) (by rw [hS]; omega), Eq.trans (show ((zup J3 164 38 2) : zJ) 164 35 = (J3 164 35) from rfl) (Eq.symm hE3), Or.inr (Or.inr (Or.inl ⟨(tkK_1 hS (by omega)).trans hk3, (Eq.trans (show ((zup J3 164 38 2) : zJ) 164 38 = 2 from rfl) (by omega)), (Eq.trans (show ((zup J3 164 38 2) : zJ) 164 42 = (J3 164 42) from rfl) (by omega)), (Eq.trans (show ((zup J3 164 38 2) : zJ) 164 41 = (J3 164 41) from rfl) (by omega)), (Eq.trans (show ((zup J3 164 38 2) : zJ) 164 40 = (J3 164 40) from rfl) (by omega)), (by rw [(show ((zup J3 164 38 2) : zJ) 164 39 = (J3 164 39) from rfl), hE3, hS]; omega)⟩))⟩⟩
                    · refine tz_aload_n (pc := 202) dX12_go_202 rfl rfl ?_
                      refine tz_aload_n (pc := 203) dX12_go_203 rfl rfl ?_
                      refine tz_fI (pc := 204) (kz := 35) (v := (J3 164 35)) dX12_go_204 fl_X12_243 i_164_35 rfl rfl (fun r_204 => ?_)
                      refine tz_cV (pc := 207) (m_byteAt hl n _ _ (by omega) (by omega) (by rw [(show (J3 : zJ) 164 37 = (J 164 37) from (Eq.trans (f3.2 37 rfl) rfl))]; omega)) vl_X12_240 dX12_go_207 o_164 rfl rfl (Nat.le_of_ble_eq_true rfl) ⟨(Nat.le_of_ble_eq_true rfl), (Nat.le_of_ble_eq_true rfl)⟩ rfl rfl (Nat.le_of_ble_eq_true rfl) (Nat.le_of_ble_eq_true rfl) (fun r9 J_207 hq9 => ?_)
                      obtain ⟨z_207, rfl, hz_207, rfl, hb_207, hc_207⟩ := hq9
                      rw [(show (J3 : zJ) 164 37 = (J 164 37) from (Eq.trans (f3.2 37 rfl) rfl))] at hb_207 hc_207
                      have hd_207 : (J3 164 35) < J 164 37 → J 173 (J3 164 35) = z_207 := fun q9 => by have q8 := hc_207 q9; rw [show (J3 : zJ) 173 = J 173 from f3.1 173 rfl] at q8; exact q8
                      refine tz_bipush (pc := 210) dX12_go_210 (by decide) ?_
                      refine tz_icmp_gt (pc := 212) (tgt := 260) dX12_go_212 (by decide) (by omega) (by decide) (fun h_212 => ?_) (fun h_212 => ?_)
                      · have hf : J 173 (J1 164 35) = z_63 := hd_63 (by omega)
                        have hk3 : kdB (J 173 (J1 164 35)) = 3 := by rw [hf]; exact kd3 (by omega)
                        have lt9 : J1 164 35 < J3 164 35 := by
                          rcases Int.lt_or_eq_of_le le3.1 with e9 | e9
                          · exact e9
                          · exfalso; have e1 := hd_194 (by omega); rw [← e9] at e1; first | omega | (have e2 := hd_207 (by omega); rw [← e9] at e2; omega)
                        have hE3 : tkE (J 173) (J 164 37) (J 164 35) = J3 164 35 := tkE_2 hS (by omega) hk3 (Or.inr rfl) (by omega) le3.2 (fun q x y => kd3 (al3 q (by omega) y)) (by
                          rcases Int.lt_or_eq_of_le le3.2 with e9 | e9
                          · refine Or.inr ?_
                            first | (rw [hd_207 e9]; exact kd3' (by omega)) | (rw [hd_194 e9]; exact kd3' (by omega))
                          · exact Or.inl e9)
                        refine tz_aload_n (pc := 260) dX12_go_260 rfl rfl ?_
                        refine tz_iconst (pc := 261) dX12_go_261 ?_
                        refine tz_pI (pc := 262) (kz := 38) dX12_go_262 fl_X12_261 i_164_38 rfl rfl (by decide) ?_
                        refine tz_goto (pc := 265) (tgt := 312) dX12_go_265 (by decide) ?_
                        exact tz_vret (pc := 312) dX12_go_312 rfl (Nat.le_of_ble_eq_true rfl) (Nat.le_of_ble_eq_true rfl) ⟨Nat.le_refl _, Nat.le_add_right _ _⟩ ⟨rfl, ⟨(RGo.up (k := 38) f3 rfl), Eq.trans (show ((zup J3 164 38 2) : zJ) 164 36 = (J3 164 36) from rfl) (by rw [hS]; omega), Eq.trans (show ((zup J3 164 38 2) : zJ) 164 35 = (J3 164 35) from rfl) (Eq.symm hE3), Or.inr (Or.inr (Or.inl ⟨(tkK_1 hS (by omega)).trans hk3, (Eq.trans (show ((zup J3 164 38 2) : zJ) 164 38 = 2 from rfl) (by omega)), (Eq.trans (show ((zup J3 164 38 2) : zJ) 164 42 = (J3 164 42) from rfl) (by omega)), (Eq.trans (show ((zup J3 164 38 2) : zJ) 164 41 = (J3 164 41) from rfl) (by omega)), (Eq.trans (show ((zup J3 164 38 2) : zJ) 164 40 = (J3 164 40) from rfl) (by omega)), (by rw [(show ((zup J3 164 38 2) : zJ) 164 39 = (J3 164 39) from rfl), hE3, hS]; omega)⟩))⟩⟩
                      · refine tz_aload_n (pc := 215) dX12_go_215 rfl rfl ?_
                        refine tz_aload_n (pc := 216) dX12_go_216 rfl rfl ?_
                        refine tz_fI (pc := 217) (kz := 35) (v := (J3 164 35)) dX12_go_217 fl_X12_243 i_164_35 rfl rfl (fun r_217 => ?_)
                        refine tz_aload_n (pc := 220) dX12_go_220 rfl rfl ?_
                        refine tz_fI (pc := 221) (kz := 36) (v := (J3 164 36)) dX12_go_221 fl_X12_246 i_164_36 rfl rfl (fun r_221 => ?_)
                        refine tz_icmp_ne (pc := 224) (tgt := 241) dX12_go_224 (by decide) (by omega) (by omega) (fun h_224 => ?_) (fun h_224 => ?_)
                        · refine tz_sipush (pc := 241) dX12_go_241 (by decide) ?_
                          refine tz_pI (pc := 244) (kz := 39) dX12_go_244 fl_X12_255 i_164_39 rfl rfl (by decide) ?_
                          refine tz_aload_n (pc := 247) dX12_go_247 rfl rfl ?_
                          refine tz_dup (pc := 248) dX12_go_248 rfl ?_
                          refine tz_fI (pc := 249) (kz := 35) (v := (J3 164 35)) dX12_go_249 fl_X12_243 i_164_35 rfl rfl (fun r_249 => ?_)
                          refine tz_iconst (pc := 252) dX12_go_252 ?_
                          refine tz_iadd (pc := 253) (v := (J3 164 35) + 1) dX12_go_253 rfl ?_
                          refine tz_pI (pc := 254) (kz := 35) dX12_go_254 fl_X12_243 i_164_35 rfl rfl (by omega) ?_
                          refine tz_goto (pc := 257) (tgt := 189) dX12_go_257 (by decide) ?_
                          exact ih189 _ (by rw [(show ((zup (zup J3 164 39 999) 164 35 ((J3 164 35) + 1)) : zJ) 164 35 = ((J3 164 35) + 1) from rfl)]; omega) (RGo.up (k := 35) (RGo.up (k := 39) f3 rfl) rfl) (by rw [(show ((zup (zup J3 164 39 999) 164 35 ((J3 164 35) + 1)) : zJ) 164 35 = ((J3 164 35) + 1) from rfl)]; exact ⟨by omega, by omega⟩) (fun q x y => by rw [(show ((zup (zup J3 164 39 999) 164 35 ((J3 164 35) + 1)) : zJ) 164 35 = ((J3 164 35) + 1) from rfl)] at y; exact (Decidable.em (q = J3 164 35)).elim (fun e => by rw [e]; omega) (fun e => al3 q x (by omega))) (Eq.trans (show ((zup (zup J3 164 39 999) 164 35 ((J3 164 35) + 1)) : zJ) 164 36 = (J3 164 36) from rfl) (by omega)) ⟨Eq.trans (show ((zup (zup J3 164 39 999) 164 35 ((J3 164 35) + 1)) : zJ) 164 42 = (J3 164 42) from rfl) (by omega), Eq.trans (show ((zup (zup J3 164 39 999) 164 35 ((J3 164 35) + 1)) : zJ) 164 41 = (J3 164 41) from rfl) (by omega), Eq.trans (show ((zup (zup J3 164 39 999) 164 35 ((J3 164 35) + 1)) : zJ) 164 40 = (J3 164 40) from rfl) (by omega)⟩ (by rw [(show ((zup (zup J3 164 39 999) 164 35 ((J3 164 35) + 1)) : zJ) 164 35 = ((J3 164 35) + 1) from rfl), (show ((zup (zup J3 164 39 999) 164 35 ((J3 164 35) + 1)) : zJ) 164 39 = 999 from rfl)]; rcases vl3 with e9 | e9 | e9 <;> first | (exact Or.inr (Or.inl ⟨by omega, by have q7 := hd_232 (by omega); rw [e9.1] at q7; omega⟩)) | exact Or.inr (Or.inr ⟨by omega, by omega⟩))
                        · refine tz_aload_n (pc := 227) dX12_go_227 rfl rfl ?_
                          refine tz_aload_n (pc := 228) dX12_go_228 rfl rfl ?_
                          refine tz_fI (pc := 229) (kz := 35) (v := (J3 164 35)) dX12_go_229 fl_X12_243 i_164_35 rfl rfl (fun r_229 => ?_)
                          refine tz_cV (pc := 232) (m_byteAt hl n _ _ (by omega) (by omega) (by rw [(show (J3 : zJ) 164 37 = (J 164 37) from (Eq.trans (f3.2 37 rfl) rfl))]; omega)) vl_X12_240 dX12_go_232 o_164 rfl rfl (Nat.le_of_ble_eq_true rfl) ⟨(Nat.le_of_ble_eq_true rfl), (Nat.le_of_ble_eq_true rfl)⟩ rfl rfl (Nat.le_of_ble_eq_true rfl) (Nat.le_of_ble_eq_true rfl) (fun r9 J_232 hq9 => ?_)
                          obtain ⟨z_232, rfl, hz_232, rfl, hb_232, hc_232⟩ := hq9
                          rw [(show (J3 : zJ) 164 37 = (J 164 37) from (Eq.trans (f3.2 37 rfl) rfl))] at hb_232 hc_232
                          have hd_232 : (J3 164 35) < J 164 37 → J 173 (J3 164 35) = z_232 := fun q9 => by have q8 := hc_232 q9; rw [show (J3 : zJ) 173 = J 173 from f3.1 173 rfl] at q8; exact q8
                          refine tz_bipush (pc := 235) dX12_go_235 (by decide) ?_
                          refine tz_isub (pc := 237) (v := z_232 - 48) dX12_go_237 rfl ?_
                          refine tz_goto (pc := 238) (tgt := 244) dX12_go_238 (by decide) ?_
                          refine tz_pI (pc := 244) (kz := 39) dX12_go_244 fl_X12_255 i_164_39 rfl rfl (by omega) ?_
                          refine tz_aload_n (pc := 247) dX12_go_247 rfl rfl ?_
                          refine tz_dup (pc := 248) dX12_go_248 rfl ?_
                          refine tz_fI (pc := 249) (kz := 35) (v := (J3 164 35)) dX12_go_249 fl_X12_243 i_164_35 rfl rfl (fun r_249 => ?_)
                          refine tz_iconst (pc := 252) dX12_go_252 ?_
                          refine tz_iadd (pc := 253) (v := (J3 164 35) + 1) dX12_go_253 rfl ?_
                          refine tz_pI (pc := 254) (kz := 35) dX12_go_254 fl_X12_243 i_164_35 rfl rfl (by omega) ?_
                          refine tz_goto (pc := 257) (tgt := 189) dX12_go_257 (by decide) ?_
                          exact ih189 _ (by rw [(show ((zup (zup J3 164 39 (z_232 - 48)) 164 35 ((J3 164 35) + 1)) : zJ) 164 35 = ((J3 164 35) + 1) from rfl)]; omega) (RGo.up (k := 35) (RGo.up (k := 39) f3 rfl) rfl) (by rw [(show ((zup (zup J3 164 39 (z_232 - 48)) 164 35 ((J3 164 35) + 1)) : zJ) 164 35 = ((J3 164 35) + 1) from rfl)]; exact ⟨by omega, by omega⟩) (fun q x y => by rw [(show ((zup (zup J3 164 39 (z_232 - 48)) 164 35 ((J3 164 35) + 1)) : zJ) 164 35 = ((J3 164 35) + 1) from rfl)] at y; exact (Decidable.em (q = J3 164 35)).elim (fun e => by rw [e]; omega) (fun e => al3 q x (by omega))) (Eq.trans (show ((zup (zup J3 164 39 (z_232 - 48)) 164 35 ((J3 164 35) + 1)) : zJ) 164 36 = (J3 164 36) from rfl) (by omega)) ⟨Eq.trans (show ((zup (zup J3 164 39 (z_232 - 48)) 164 35 ((J3 164 35) + 1)) : zJ) 164 42 = (J3 164 42) from rfl) (by omega), Eq.trans (show ((zup (zup J3 164 39 (z_232 - 48)) 164 35 ((J3 164 35) + 1)) : zJ) 164 41 = (J3 164 41) from rfl) (by omega), Eq.trans (show ((zup (zup J3 164 39 (z_232 - 48)) 164 35 ((J3 164 35) + 1)) : zJ) 164 40 = (J3 164 40) from rfl) (by omega)⟩ (by rw [(show ((zup (zup J3 164 39 (z_232 - 48)) 164 35 ((J3 164 35) + 1)) : zJ) 164 35 = ((J3 164 35) + 1) from rfl), (show ((zup (zup J3 164 39 (z_232 - 48)) 164 35 ((J3 164 35) + 1)) : zJ) 164 39 = (z_232 - 48) from rfl)]; rcases vl3 with e9 | e9 | e9 <;> first | (exact Or.inr (Or.inl ⟨by omega, by have q7 := hd_232 (by omega); rw [e9.1] at q7; omega⟩)) | exact Or.inr (Or.inr ⟨by omega, by omega⟩))
                exact loop189 _ _ (Nat.lt_succ_self _) (RGo.up (k := 42) (RGo.up (k := 39) (RGo.up (k := 41) (RGo.up (k := 40) (RGo.up (k := 36) f1 rfl) rfl) rfl) rfl) rfl) (by rw [(show ((zup (zup (zup (zup (zup J1 164 36 (J1 164 35)) 164 40 (-1)) 164 41 0) 164 39 0) 164 42 0) : zJ) 164 35 = (J1 164 35) from rfl)]; exact ⟨by omega, by omega⟩) (fun q x y => by rw [(show ((zup (zup (zup (zup (zup J1 164 36 (J1 164 35)) 164 40 (-1)) 164 41 0) 164 39 0) 164 42 0) : zJ) 164 35 = (J1 164 35) from rfl)] at y; omega) (Eq.trans (show ((zup (zup (zup (zup (zup J1 164 36 (J1 164 35)) 164 40 (-1)) 164 41 0) 164 39 0) 164 42 0) : zJ) 164 36 = (J1 164 35) from rfl) (by omega)) ⟨Eq.trans (show ((zup (zup (zup (zup (zup J1 164 36 (J1 164 35)) 164 40 (-1)) 164 41 0) 164 39 0) 164 42 0) : zJ) 164 42 = 0 from rfl) (by omega), Eq.trans (show ((zup (zup (zup (zup (zup J1 164 36 (J1 164 35)) 164 40 (-1)) 164 41 0) 164 39 0) 164 42 0) : zJ) 164 41 = 0 from rfl) (by omega), Eq.trans (show ((zup (zup (zup (zup (zup J1 164 36 (J1 164 35)) 164 40 (-1)) 164 41 0) 164 39 0) 164 42 0) : zJ) 164 40 = (-1) from rfl) (by omega)⟩ (by rw [(show ((zup (zup (zup (zup (zup J1 164 36 (J1 164 35)) 164 40 (-1)) 164 41 0) 164 39 0) 164 42 0) : zJ) 164 35 = (J1 164 35) from rfl), (show ((zup (zup (zup (zup (zup J1 164 36 (J1 164 35)) 164 40 (-1)) 164 41 0) 164 39 0) 164 42 0) : zJ) 164 39 = 0 from rfl)]; omega)
          · have loop113 : ∀ (f9 : Nat) (J2 : zJ), ((J 164 37 - J2 164 35).toNat) < f9 → (RGo J2 J) → (J1 164 35 ≤ J2 164 35 ∧ J2 164 35 ≤ J 164 37) → (∀ q, J1 164 35 ≤ q → q < J2 164 35 → 97 ≤ J 173 q ∧ J 173 q ≤ 122) → (J2 164 36 = J1 164 35) → (J2 164 42 = 0 ∧ J2 164 41 = 0 ∧ J2 164 40 = -1) → tz_At l G M_X12_go (tb_rm 2 0 0) none (tb_ZM G 0 0 (zQ n 0 (zqv (fun J' => RGo J' J ∧ TKM J' (J 173) (tkS (J 173) (J 164 37) (J 164 35)) (tkK (J 173) (J 164 37) (J 164 35)) (tkE (J 173) (J 164 37) (J 164 35))))) (zX n 0 zN)) 0 0 n J2 113 [some (.ref 164), some (zi z_63)] [] := by
              intro f9
              induction f9 with
              | zero => intro J2 hm9; exact absurd hm9 (Nat.not_lt_zero _)
              | succ f9 ih113 =>
                intro J2 hm113 f2 le2 al2 pl2 sg2
                refine tz_aload_n (pc := 113) dX12_go_113 rfl rfl ?_
                refine tz_aload_n (pc := 114) dX12_go_114 rfl rfl ?_
                refine tz_fI (pc := 115) (kz := 35) (v := (J2 164 35)) dX12_go_115 fl_X12_243 i_164_35 rfl rfl (fun r_115 => ?_)
                refine tz_cV (pc := 118) (m_byteAt hl n _ _ (by omega) (by omega) (by rw [(show (J2 : zJ) 164 37 = (J 164 37) from (Eq.trans (f2.2 37 rfl) rfl))]; omega)) vl_X12_240 dX12_go_118 o_164 rfl rfl (Nat.le_of_ble_eq_true rfl) ⟨(Nat.le_of_ble_eq_true rfl), (Nat.le_of_ble_eq_true rfl)⟩ rfl rfl (Nat.le_of_ble_eq_true rfl) (Nat.le_of_ble_eq_true rfl) (fun r9 J_118 hq9 => ?_)
                obtain ⟨z_118, rfl, hz_118, rfl, hb_118, hc_118⟩ := hq9
                rw [(show (J2 : zJ) 164 37 = (J 164 37) from (Eq.trans (f2.2 37 rfl) rfl))] at hb_118 hc_118
                have hd_118 : (J2 164 35) < J 164 37 → J 173 (J2 164 35) = z_118 := fun q9 => by have q8 := hc_118 q9; rw [show (J2 : zJ) 173 = J 173 from f2.1 173 rfl] at q8; exact q8
                refine tz_cS (pc := 121) (m_isLet hl n _ _ (by omega)) sl_X12_264 dX12_go_121 rfl rfl (Nat.le_of_ble_eq_true rfl) ⟨(Nat.le_of_ble_eq_true rfl), (Nat.le_of_ble_eq_true rfl)⟩ rfl rfl (Nat.le_of_ble_eq_true rfl) (Nat.le_of_ble_eq_true rfl) (fun r9 J_121 hq9 => ?_)
                obtain ⟨z_121, rfl, hz_121, rfl, hl_121⟩ := hq9
                refine tz_if_eq (pc := 124) (tgt := 140) dX12_go_124 (by decide) (by omega) (fun h_124 => ?_) (fun h_124 => ?_)
                · have hf : J 173 (J1 164 35) = z_63 := hd_63 (by omega)
                  have hk2 : kdB (J 173 (J1 164 35)) = 2 := by rw [hf]; exact kd2 (by omega)
                  have lt9 : J1 164 35 < J2 164 35 := by
                    rcases Int.lt_or_eq_of_le le2.1 with e9 | e9
                    · exact e9
                    · exfalso; have e1 := hd_118 (by omega); rw [← e9] at e1; omega
                  have hE2 : tkE (J 173) (J 164 37) (J 164 35) = J2 164 35 := tkE_2 hS (by omega) hk2 (Or.inl rfl) (by omega) le2.2 (fun q x y => kd2 (al2 q (by omega) y)) (by
                    rcases Int.lt_or_eq_of_le le2.2 with e9 | e9
                    · refine Or.inr ?_
                      rw [hd_118 e9]
                      exact kd2' (by omega)
                    · exact Or.inl e9)
                  refine tz_aload_n (pc := 140) dX12_go_140 rfl rfl ?_
                  refine tz_iconst (pc := 141) dX12_go_141 ?_
                  refine tz_pI (pc := 142) (kz := 38) dX12_go_142 fl_X12_261 i_164_38 rfl rfl (by decide) ?_
                  refine tz_aload_n (pc := 145) dX12_go_145 rfl rfl ?_
                  refine tz_aload_n (pc := 146) dX12_go_146 rfl rfl ?_
                  refine tz_fI (pc := 147) (kz := 35) (v := (J2 164 35)) dX12_go_147 fl_X12_243 i_164_35 rfl rfl (fun r_147 => ?_)
                  refine tz_aload_n (pc := 150) dX12_go_150 rfl rfl ?_
                  refine tz_fI (pc := 151) (kz := 36) (v := (J2 164 36)) dX12_go_151 fl_X12_246 i_164_36 rfl rfl (fun r_151 => ?_)
                  refine tz_isub (pc := 154) (v := (J2 164 35) - (J2 164 36)) dX12_go_154 rfl ?_
                  refine tz_pI (pc := 155) (kz := 41) dX12_go_155 fl_X12_252 i_164_41 rfl rfl (by omega) ?_
                  refine tz_aload_n (pc := 158) dX12_go_158 rfl rfl ?_
                  refine tz_aload_n (pc := 159) dX12_go_159 rfl rfl ?_
                  refine tz_aload_n (pc := 160) dX12_go_160 rfl rfl ?_
                  refine tz_fI (pc := 161) (kz := 36) (v := (J2 164 36)) dX12_go_161 fl_X12_246 i_164_36 rfl rfl (fun r_161 => ?_)
                  refine tz_aload_n (pc := 164) dX12_go_164 rfl rfl ?_
                  refine tz_fI (pc := 165) (kz := 35) (v := (J2 164 35)) dX12_go_165 fl_X12_243 i_164_35 rfl rfl (fun r_165 => ?_)
                  refine tz_cV (pc := 168) (x_wordFrom hl n _ _ _ (by omega) (by omega) (by omega) (by rw [(show ((zup (zup J2 164 38 1) 164 41 ((J2 164 35) - (J2 164 36))) : zJ) 164 37 = (J 164 37) from (Eq.trans (f2.2 37 rfl) rfl))]; omega) (by rw [(show ((zup (zup J2 164 38 1) 164 41 ((J2 164 35) - (J2 164 36))) : zJ) 164 37 = (J 164 37) from (Eq.trans (f2.2 37 rfl) rfl))]; omega)) vl_X12_267 dX12_go_168 o_164 rfl rfl (Nat.le_of_ble_eq_true rfl) ⟨(Nat.le_of_ble_eq_true rfl), (Nat.le_of_ble_eq_true rfl)⟩ rfl rfl (Nat.le_of_ble_eq_true rfl) (Nat.le_of_ble_eq_true rfl) (fun r9 J_168 hq9 => ?_)
                  obtain ⟨z_168, rfl, hz_168, rfl, hw⟩ := hq9
                  rw [show ((zup (zup J2 164 38 1) 164 41 ((J2 164 35) - (J2 164 36))) : zJ) 173 = J 173 from f2.1 173 rfl, pl2] at hw
                  refine tz_pI (pc := 171) (kz := 40) dX12_go_171 fl_X12_249 i_164_40 rfl rfl (by omega) ?_
                  refine tz_goto (pc := 174) (tgt := 312) dX12_go_174 (by decide) ?_
                  exact tz_vret (pc := 312) dX12_go_312 rfl (Nat.le_of_ble_eq_true rfl) (Nat.le_of_ble_eq_true rfl) ⟨Nat.le_refl _, Nat.le_add_right _ _⟩ ⟨rfl, ⟨(RGo.up (k := 40) (RGo.up (k := 41) (RGo.up (k := 38) f2 rfl) rfl) rfl), Eq.trans (show ((zup (zup (zup J2 164 38 1) 164 41 ((J2 164 35) - (J2 164 36))) 164 40 z_168) : zJ) 164 36 = (J2 164 36) from rfl) (by rw [hS]; omega), Eq.trans (show ((zup (zup (zup J2 164 38 1) 164 41 ((J2 164 35) - (J2 164 36))) 164 40 z_168) : zJ) 164 35 = (J2 164 35) from rfl) (Eq.symm hE2), Or.inr (Or.inl ⟨(tkK_1 hS (by omega)).trans hk2, (Eq.trans (show ((zup (zup (zup J2 164 38 1) 164 41 ((J2 164 35) - (J2 164 36))) 164 40 z_168) : zJ) 164 38 = 1 from rfl) (by omega)), (Eq.trans (show ((zup (zup (zup J2 164 38 1) 164 41 ((J2 164 35) - (J2 164 36))) 164 40 z_168) : zJ) 164 42 = (J2 164 42) from rfl) (by omega)), Eq.trans (show ((zup (zup (zup J2 164 38 1) 164 41 ((J2 164 35) - (J2 164 36))) 164 40 z_168) : zJ) 164 41 = ((J2 164 35) - (J2 164 36)) from rfl) (by rw [hE2, hS]; omega), (by rw [(show ((zup (zup (zup J2 164 38 1) 164 41 ((J2 164 35) - (J2 164 36))) 164 40 z_168) : zJ) 164 40 = z_168 from rfl), hS, hE2]; exact hw)⟩)⟩⟩
                · refine tz_aload_n (pc := 127) dX12_go_127 rfl rfl ?_
                  refine tz_dup (pc := 128) dX12_go_128 rfl ?_
                  refine tz_fI (pc := 129) (kz := 35) (v := (J2 164 35)) dX12_go_129 fl_X12_243 i_164_35 rfl rfl (fun r_129 => ?_)
                  refine tz_iconst (pc := 132) dX12_go_132 ?_
                  refine tz_iadd (pc := 133) (v := (J2 164 35) + 1) dX12_go_133 rfl ?_
                  refine tz_pI (pc := 134) (kz := 35) dX12_go_134 fl_X12_243 i_164_35 rfl rfl (by omega) ?_
                  refine tz_goto (pc := 137) (tgt := 113) dX12_go_137 (by decide) ?_
                  exact ih113 _ (by rw [(show ((zup J2 164 35 ((J2 164 35) + 1)) : zJ) 164 35 = ((J2 164 35) + 1) from rfl)]; omega) (RGo.up (k := 35) f2 rfl) (by rw [(show ((zup J2 164 35 ((J2 164 35) + 1)) : zJ) 164 35 = ((J2 164 35) + 1) from rfl)]; exact ⟨by omega, by omega⟩) (fun q x y => by rw [(show ((zup J2 164 35 ((J2 164 35) + 1)) : zJ) 164 35 = ((J2 164 35) + 1) from rfl)] at y; exact (Decidable.em (q = J2 164 35)).elim (fun e => by rw [e]; omega) (fun e => al2 q x (by omega))) (Eq.trans (show ((zup J2 164 35 ((J2 164 35) + 1)) : zJ) 164 36 = (J2 164 36) from rfl) (by omega)) ⟨Eq.trans (show ((zup J2 164 35 ((J2 164 35) + 1)) : zJ) 164 42 = (J2 164 42) from rfl) (by omega), Eq.trans (show ((zup J2 164 35 ((J2 164 35) + 1)) : zJ) 164 41 = (J2 164 41) from rfl) (by omega), Eq.trans (show ((zup J2 164 35 ((J2 164 35) + 1)) : zJ) 164 40 = (J2 164 40) from rfl) (by omega)⟩
            exact loop113 _ _ (Nat.lt_succ_self _) (RGo.up (k := 42) (RGo.up (k := 39) (RGo.up (k := 41) (RGo.up (k := 40) (RGo.up (k := 36) f1 rfl) rfl) rfl) rfl) rfl) (by rw [(show ((zup (zup (zup (zup (zup J1 164 36 (J1 164 35)) 164 40 (-1)) 164 41 0) 164 39 0) 164 42 0) : zJ) 164 35 = (J1 164 35) from rfl)]; exact ⟨by omega, by omega⟩) (fun q x y => by rw [(show ((zup (zup (zup (zup (zup J1 164 36 (J1 164 35)) 164 40 (-1)) 164 41 0) 164 39 0) 164 42 0) : zJ) 164 35 = (J1 164 35) from rfl)] at y; omega) (Eq.trans (show ((zup (zup (zup (zup (zup J1 164 36 (J1 164 35)) 164 40 (-1)) 164 41 0) 164 39 0) 164 42 0) : zJ) 164 36 = (J1 164 35) from rfl) (by omega)) ⟨Eq.trans (show ((zup (zup (zup (zup (zup J1 164 36 (J1 164 35)) 164 40 (-1)) 164 41 0) 164 39 0) 164 42 0) : zJ) 164 42 = 0 from rfl) (by omega), Eq.trans (show ((zup (zup (zup (zup (zup J1 164 36 (J1 164 35)) 164 40 (-1)) 164 41 0) 164 39 0) 164 42 0) : zJ) 164 41 = 0 from rfl) (by omega), Eq.trans (show ((zup (zup (zup (zup (zup J1 164 36 (J1 164 35)) 164 40 (-1)) 164 41 0) 164 39 0) 164 42 0) : zJ) 164 40 = (-1) from rfl) (by omega)⟩
        · refine tz_aload_n (pc := 98) dX12_go_98 rfl rfl ?_
          refine tz_iconst (pc := 99) dX12_go_99 ?_
          refine tz_pI (pc := 100) (kz := 38) dX12_go_100 fl_X12_261 i_164_38 rfl rfl (by decide) ?_
          refine tz_goto (pc := 103) (tgt := 312) dX12_go_103 (by decide) ?_
          exact tz_vret (pc := 312) dX12_go_312 rfl (Nat.le_of_ble_eq_true rfl) (Nat.le_of_ble_eq_true rfl) ⟨Nat.le_refl _, Nat.le_add_right _ _⟩ ⟨rfl, ⟨(RGo.up (k := 38) (RGo.up (k := 42) (RGo.up (k := 39) (RGo.up (k := 41) (RGo.up (k := 40) (RGo.up (k := 36) f1 rfl) rfl) rfl) rfl) rfl) rfl), Eq.trans (show ((zup (zup (zup (zup (zup (zup J1 164 36 (J1 164 35)) 164 40 (-1)) 164 41 0) 164 39 0) 164 42 0) 164 38 0) : zJ) 164 36 = (J1 164 35) from rfl) hS.symm, (Eq.trans (show ((zup (zup (zup (zup (zup (zup J1 164 36 (J1 164 35)) 164 40 (-1)) 164 41 0) 164 39 0) 164 42 0) 164 38 0) : zJ) 164 35 = (J1 164 35) from rfl) (by rw [(tkK_0 hS (by omega)).2]; omega)), Or.inl ⟨(tkK_0 hS (by omega)).1, (Eq.trans (show ((zup (zup (zup (zup (zup (zup J1 164 36 (J1 164 35)) 164 40 (-1)) 164 41 0) 164 39 0) 164 42 0) 164 38 0) : zJ) 164 38 = 0 from rfl) (by omega)), (Eq.trans (show ((zup (zup (zup (zup (zup (zup J1 164 36 (J1 164 35)) 164 40 (-1)) 164 41 0) 164 39 0) 164 42 0) 164 38 0) : zJ) 164 42 = 0 from rfl) (by omega)), (Eq.trans (show ((zup (zup (zup (zup (zup (zup J1 164 36 (J1 164 35)) 164 40 (-1)) 164 41 0) 164 39 0) 164 42 0) 164 38 0) : zJ) 164 41 = 0 from rfl) (by omega)), (Eq.trans (show ((zup (zup (zup (zup (zup (zup J1 164 36 (J1 164 35)) 164 40 (-1)) 164 41 0) 164 39 0) 164 42 0) 164 38 0) : zJ) 164 40 = (-1) from rfl) (by omega))⟩⟩⟩
      · refine tz_aload_n (pc := 11) dX12_go_11 rfl rfl ?_
        refine tz_aload_n (pc := 12) dX12_go_12 rfl rfl ?_
        refine tz_fI (pc := 13) (kz := 35) (v := (J1 164 35)) dX12_go_13 fl_X12_243 i_164_35 rfl rfl (fun r_13 => ?_)
        refine tz_cV (pc := 16) (m_byteAt hl n _ _ (by omega) (by omega) (by rw [(show (J1 : zJ) 164 37 = (J 164 37) from (Eq.trans (f1.2 37 rfl) rfl))]; omega)) vl_X12_240 dX12_go_16 o_164 rfl rfl (Nat.le_of_ble_eq_true rfl) ⟨(Nat.le_of_ble_eq_true rfl), (Nat.le_of_ble_eq_true rfl)⟩ rfl rfl (Nat.le_of_ble_eq_true rfl) (Nat.le_of_ble_eq_true rfl) (fun r9 J_16 hq9 => ?_)
        obtain ⟨z_16, rfl, hz_16, rfl, hb_16, hc_16⟩ := hq9
        rw [(show (J1 : zJ) 164 37 = (J 164 37) from (Eq.trans (f1.2 37 rfl) rfl))] at hb_16 hc_16
        have hd_16 : (J1 164 35) < J 164 37 → J 173 (J1 164 35) = z_16 := fun q9 => by have q8 := hc_16 q9; rw [show (J1 : zJ) 173 = J 173 from f1.1 173 rfl] at q8; exact q8
        refine tz_bipush (pc := 19) dX12_go_19 (by decide) ?_
        refine tz_icmp_eq (pc := 21) (tgt := 37) dX12_go_21 (by decide) (by omega) (by decide) (fun h_21 => ?_) (fun h_21 => ?_)
        · refine tz_aload_n (pc := 37) dX12_go_37 rfl rfl ?_
          refine tz_dup (pc := 38) dX12_go_38 rfl ?_
          refine tz_fI (pc := 39) (kz := 35) (v := (J1 164 35)) dX12_go_39 fl_X12_243 i_164_35 rfl rfl (fun r_39 => ?_)
          refine tz_iconst (pc := 42) dX12_go_42 ?_
          refine tz_iadd (pc := 43) (v := (J1 164 35) + 1) dX12_go_43 rfl ?_
          refine tz_pI (pc := 44) (kz := 35) dX12_go_44 fl_X12_243 i_164_35 rfl rfl (by omega) ?_
          refine tz_goto (pc := 47) (tgt := 0) dX12_go_47 (by decide) ?_
          exact ih0 _ (by rw [(show ((zup J1 164 35 ((J1 164 35) + 1)) : zJ) 164 35 = ((J1 164 35) + 1) from rfl)]; omega) (RGo.up (k := 35) f1 rfl) (by rw [(show ((zup J1 164 35 ((J1 164 35) + 1)) : zJ) 164 35 = ((J1 164 35) + 1) from rfl)]; exact ⟨by omega, by omega⟩) (fun q x y => by rw [(show ((zup J1 164 35 ((J1 164 35) + 1)) : zJ) 164 35 = ((J1 164 35) + 1) from rfl)] at y; exact (Decidable.em (q = J1 164 35)).elim (fun e => by rw [e]; omega) (fun e => al1 q x (by omega)))
        · refine tz_aload_n (pc := 24) dX12_go_24 rfl rfl ?_
          refine tz_aload_n (pc := 25) dX12_go_25 rfl rfl ?_
          refine tz_fI (pc := 26) (kz := 35) (v := (J1 164 35)) dX12_go_26 fl_X12_243 i_164_35 rfl rfl (fun r_26 => ?_)
          refine tz_cV (pc := 29) (m_byteAt hl n _ _ (by omega) (by omega) (by rw [(show (J1 : zJ) 164 37 = (J 164 37) from (Eq.trans (f1.2 37 rfl) rfl))]; omega)) vl_X12_240 dX12_go_29 o_164 rfl rfl (Nat.le_of_ble_eq_true rfl) ⟨(Nat.le_of_ble_eq_true rfl), (Nat.le_of_ble_eq_true rfl)⟩ rfl rfl (Nat.le_of_ble_eq_true rfl) (Nat.le_of_ble_eq_true rfl) (fun r9 J_29 hq9 => ?_)
          obtain ⟨z_29, rfl, hz_29, rfl, hb_29, hc_29⟩ := hq9
          rw [(show (J1 : zJ) 164 37 = (J 164 37) from (Eq.trans (f1.2 37 rfl) rfl))] at hb_29 hc_29
          have hd_29 : (J1 164 35) < J 164 37 → J 173 (J1 164 35) = z_29 := fun q9 => by have q8 := hc_29 q9; rw [show (J1 : zJ) 173 = J 173 from f1.1 173 rfl] at q8; exact q8
          refine tz_bipush (pc := 32) dX12_go_32 (by decide) ?_
          refine tz_icmp_ne (pc := 34) (tgt := 50) dX12_go_34 (by decide) (by omega) (by decide) (fun h_34 => ?_) (fun h_34 => ?_)
          · have hS : tkS (J 173) (J 164 37) (J 164 35) = J1 164 35 := tkS_eq le1.1 le1.2 al1 (by omega)
            refine tz_aload_n (pc := 50) dX12_go_50 rfl rfl ?_
            refine tz_aload_n (pc := 51) dX12_go_51 rfl rfl ?_
            refine tz_fI (pc := 52) (kz := 35) (v := (J1 164 35)) dX12_go_52 fl_X12_243 i_164_35 rfl rfl (fun r_52 => ?_)
            refine tz_pI (pc := 55) (kz := 36) dX12_go_55 fl_X12_246 i_164_36 rfl rfl (by omega) ?_
            refine tz_aload_n (pc := 58) dX12_go_58 rfl rfl ?_
            refine tz_aload_n (pc := 59) dX12_go_59 rfl rfl ?_
            refine tz_fI (pc := 60) (kz := 35) (v := (J1 164 35)) dX12_go_60 fl_X12_243 i_164_35 rfl rfl (fun r_60 => ?_)
            refine tz_cV (pc := 63) (m_byteAt hl n _ _ (by omega) (by omega) (by rw [(show ((zup J1 164 36 (J1 164 35)) : zJ) 164 37 = (J 164 37) from (Eq.trans (f1.2 37 rfl) rfl))]; omega)) vl_X12_240 dX12_go_63 o_164 rfl rfl (Nat.le_of_ble_eq_true rfl) ⟨(Nat.le_of_ble_eq_true rfl), (Nat.le_of_ble_eq_true rfl)⟩ rfl rfl (Nat.le_of_ble_eq_true rfl) (Nat.le_of_ble_eq_true rfl) (fun r9 J_63 hq9 => ?_)
            obtain ⟨z_63, rfl, hz_63, rfl, hb_63, hc_63⟩ := hq9
            rw [(show ((zup J1 164 36 (J1 164 35)) : zJ) 164 37 = (J 164 37) from (Eq.trans (f1.2 37 rfl) rfl))] at hb_63 hc_63
            have hd_63 : (J1 164 35) < J 164 37 → J 173 (J1 164 35) = z_63 := fun q9 => by have q8 := hc_63 q9; rw [show ((zup J1 164 36 (J1 164 35)) : zJ) 173 = J 173 from f1.1 173 rfl] at q8; exact q8
            refine tz_istore_n (pc := 66) (L2 := [_, _]) dX12_go_66 rfl (by decide) rfl ?_
            refine tz_aload_n (pc := 67) dX12_go_67 rfl rfl ?_
            refine tz_iconst (pc := 68) dX12_go_68 ?_
            refine tz_pI (pc := 69) (kz := 40) dX12_go_69 fl_X12_249 i_164_40 rfl rfl (by decide) ?_
            refine tz_aload_n (pc := 72) dX12_go_72 rfl rfl ?_
            refine tz_iconst (pc := 73) dX12_go_73 ?_
            refine tz_pI (pc := 74) (kz := 41) dX12_go_74 fl_X12_252 i_164_41 rfl rfl (by decide) ?_
            refine tz_aload_n (pc := 77) dX12_go_77 rfl rfl ?_
            refine tz_iconst (pc := 78) dX12_go_78 ?_
            refine tz_pI (pc := 79) (kz := 39) dX12_go_79 fl_X12_255 i_164_39 rfl rfl (by decide) ?_
            refine tz_aload_n (pc := 82) dX12_go_82 rfl rfl ?_
            refine tz_iconst (pc := 83) dX12_go_83 ?_
            refine tz_pI (pc := 84) (kz := 42) dX12_go_84 fl_X12_258 i_164_42 rfl rfl (by decide) ?_
            refine tz_aload_n (pc := 87) dX12_go_87 rfl rfl ?_
            refine tz_fI (pc := 88) (kz := 35) (v := (J1 164 35)) dX12_go_88 fl_X12_243 i_164_35 rfl rfl (fun r_88 => ?_)
            refine tz_aload_n (pc := 91) dX12_go_91 rfl rfl ?_
            refine tz_fI (pc := 92) (kz := 37) (v := (J 164 37)) dX12_go_92 fl_X12_233 i_164_37 rfl (Eq.trans (f1.2 37 rfl) rfl) (fun r_92 => ?_)
            refine tz_icmp_lt (pc := 95) (tgt := 106) dX12_go_95 (by decide) (by omega) (by omega) (fun h_95 => ?_) (fun h_95 => ?_)
            · refine tz_iload_n (pc := 106) dX12_go_106 rfl rfl ?_
              refine tz_cS (pc := 107) (m_isLet hl n _ _ (by omega)) sl_X12_264 dX12_go_107 rfl rfl (Nat.le_of_ble_eq_true rfl) ⟨(Nat.le_of_ble_eq_true rfl), (Nat.le_of_ble_eq_true rfl)⟩ rfl rfl (Nat.le_of_ble_eq_true rfl) (Nat.le_of_ble_eq_true rfl) (fun r9 J_107 hq9 => ?_)
              obtain ⟨z_107, rfl, hz_107, rfl, hl_107⟩ := hq9
              refine tz_if_eq (pc := 110) (tgt := 177) dX12_go_110 (by decide) (by omega) (fun h_110 => ?_) (fun h_110 => ?_)
              · refine tz_iload_n (pc := 177) dX12_go_177 rfl rfl ?_
                refine tz_bipush (pc := 178) dX12_go_178 (by decide) ?_
                refine tz_icmp_lt (pc := 180) (tgt := 268) dX12_go_180 (by decide) (by omega) (by decide) (fun h_180 => ?_) (fun h_180 => ?_)
                · have hf : J 173 (J1 164 35) = z_63 := hd_63 (by omega)
                  refine tz_aload_n (pc := 268) dX12_go_268 rfl rfl ?_
                  refine tz_dup (pc := 269) dX12_go_269 rfl ?_
                  refine tz_fI (pc := 270) (kz := 35) (v := (J1 164 35)) dX12_go_270 fl_X12_243 i_164_35 rfl rfl (fun r_270 => ?_)
                  refine tz_iconst (pc := 273) dX12_go_273 ?_
                  refine tz_iadd (pc := 274) (v := (J1 164 35) + 1) dX12_go_274 rfl ?_
                  refine tz_pI (pc := 275) (kz := 35) dX12_go_275 fl_X12_243 i_164_35 rfl rfl (by omega) ?_
                  refine tz_aload_n (pc := 278) dX12_go_278 rfl rfl ?_
                  refine tz_aload_n (pc := 279) dX12_go_279 rfl rfl ?_
                  refine tz_iload_n (pc := 280) dX12_go_280 rfl rfl ?_
                  refine tz_cV (pc := 281) (x_isSgn hl n _ _ (by omega)) vl_X12_270 dX12_go_281 o_164 rfl rfl (Nat.le_of_ble_eq_true rfl) ⟨(Nat.le_of_ble_eq_true rfl), (Nat.le_of_ble_eq_true rfl)⟩ rfl rfl (Nat.le_of_ble_eq_true rfl) (Nat.le_of_ble_eq_true rfl) (fun r9 J_281 hq9 => ?_)
                  obtain ⟨z_281, rfl, hz_281, rfl, hg⟩ := hq9
                  refine tz_if_eq (pc := 284) (tgt := 291) dX12_go_284 (by decide) (by omega) (fun h_284 => ?_) (fun h_284 => ?_)
                  · refine tz_iconst (pc := 291) dX12_go_291 ?_
                    have hk1 : kdB (J 173 (J1 164 35)) = 1 := by rw [hf]; exact kd1 (by omega) (by omega) (by omega)
                    refine tz_pI (pc := 292) (kz := 38) dX12_go_292 fl_X12_261 i_164_38 rfl rfl (by decide) ?_
                    refine tz_aload_n (pc := 295) dX12_go_295 rfl rfl ?_
                    refine tz_aload_n (pc := 296) dX12_go_296 rfl rfl ?_
                    refine tz_fI (pc := 297) (kz := 38) (v := 4) dX12_go_297 fl_X12_261 i_164_38 rfl rfl (fun _ => ?_)
                    refine tz_iconst (pc := 300) dX12_go_300 ?_
                    refine tz_icmp_neT (pc := 301) (tgt := 308) (by decide) dX12_go_301 (by decide) (by decide) (by decide) ?_
                    refine tz_iconst (pc := 308) dX12_go_308 ?_
                    refine tz_pI (pc := 309) (kz := 42) dX12_go_309 fl_X12_258 i_164_42 rfl rfl (by decide) ?_
                    exact tz_vret (pc := 312) dX12_go_312 rfl (Nat.le_of_ble_eq_true rfl) (Nat.le_of_ble_eq_true rfl) ⟨Nat.le_refl _, Nat.le_add_right _ _⟩ ⟨rfl, ⟨(RGo.up (k := 42) (RGo.up (k := 38) (RGo.up (k := 35) (RGo.up (k := 42) (RGo.up (k := 39) (RGo.up (k := 41) (RGo.up (k := 40) (RGo.up (k := 36) f1 rfl) rfl) rfl) rfl) rfl) rfl) rfl) rfl), Eq.trans (show ((zup (zup (zup (zup (zup (zup (zup (zup J1 164 36 (J1 164 35)) 164 40 (-1)) 164 41 0) 164 39 0) 164 42 0) 164 35 ((J1 164 35) + 1)) 164 38 4) 164 42 0) : zJ) 164 36 = (J1 164 35) from rfl) hS.symm, Eq.trans (show ((zup (zup (zup (zup (zup (zup (zup (zup J1 164 36 (J1 164 35)) 164 40 (-1)) 164 41 0) 164 39 0) 164 42 0) 164 35 ((J1 164 35) + 1)) 164 38 4) 164 42 0) : zJ) 164 35 = ((J1 164 35) + 1) from rfl) (Eq.symm (tkE_1 hS (by omega) hk1 (by decide))), Or.inr (Or.inr (Or.inr (Or.inl ⟨(tkK_1 hS (by omega)).trans hk1, (Eq.trans (show ((zup (zup (zup (zup (zup (zup (zup (zup J1 164 36 (J1 164 35)) 164 40 (-1)) 164 41 0) 164 39 0) 164 42 0) 164 35 ((J1 164 35) + 1)) 164 38 4) 164 42 0) : zJ) 164 38 = 4 from rfl) (by omega)), (Eq.trans (show ((zup (zup (zup (zup (zup (zup (zup (zup J1 164 36 (J1 164 35)) 164 40 (-1)) 164 41 0) 164 39 0) 164 42 0) 164 35 ((J1 164 35) + 1)) 164 38 4) 164 42 0) : zJ) 164 42 = 0 from rfl) (by omega)), (Eq.trans (show ((zup (zup (zup (zup (zup (zup (zup (zup J1 164 36 (J1 164 35)) 164 40 (-1)) 164 41 0) 164 39 0) 164 42 0) 164 35 ((J1 164 35) + 1)) 164 38 4) 164 42 0) : zJ) 164 41 = 0 from rfl) (by omega)), (Eq.trans (show ((zup (zup (zup (zup (zup (zup (zup (zup J1 164 36 (J1 164 35)) 164 40 (-1)) 164 41 0) 164 39 0) 164 42 0) 164 35 ((J1 164 35) + 1)) 164 38 4) 164 42 0) : zJ) 164 40 = (-1) from rfl) (by omega))⟩)))⟩⟩
                  · refine tz_iconst (pc := 287) dX12_go_287 ?_
                    refine tz_goto (pc := 288) (tgt := 292) dX12_go_288 (by decide) ?_
                    have hks : kdB (J 173 (J1 164 35)) = z_63 := by rw [hf]; exact kds (by omega)
                    refine tz_pI (pc := 292) (kz := 38) dX12_go_292 fl_X12_261 i_164_38 rfl rfl (by decide) ?_
                    refine tz_aload_n (pc := 295) dX12_go_295 rfl rfl ?_
                    refine tz_aload_n (pc := 296) dX12_go_296 rfl rfl ?_
                    refine tz_fI (pc := 297) (kz := 38) (v := 3) dX12_go_297 fl_X12_261 i_164_38 rfl rfl (fun _ => ?_)
                    refine tz_iconst (pc := 300) dX12_go_300 ?_
                    refine tz_icmp_neF (pc := 301) (tgt := 308) (by decide) dX12_go_301 (by decide) (by decide) (by decide) ?_
                    refine tz_iload_n (pc := 304) dX12_go_304 rfl rfl ?_
                    refine tz_goto (pc := 305) (tgt := 309) dX12_go_305 (by decide) ?_
                    refine tz_pI (pc := 309) (kz := 42) dX12_go_309 fl_X12_258 i_164_42 rfl rfl (by omega) ?_
                    exact tz_vret (pc := 312) dX12_go_312 rfl (Nat.le_of_ble_eq_true rfl) (Nat.le_of_ble_eq_true rfl) ⟨Nat.le_refl _, Nat.le_add_right _ _⟩ ⟨rfl, ⟨(RGo.up (k := 42) (RGo.up (k := 38) (RGo.up (k := 35) (RGo.up (k := 42) (RGo.up (k := 39) (RGo.up (k := 41) (RGo.up (k := 40) (RGo.up (k := 36) f1 rfl) rfl) rfl) rfl) rfl) rfl) rfl) rfl), Eq.trans (show ((zup (zup (zup (zup (zup (zup (zup (zup J1 164 36 (J1 164 35)) 164 40 (-1)) 164 41 0) 164 39 0) 164 42 0) 164 35 ((J1 164 35) + 1)) 164 38 3) 164 42 z_63) : zJ) 164 36 = (J1 164 35) from rfl) hS.symm, Eq.trans (show ((zup (zup (zup (zup (zup (zup (zup (zup J1 164 36 (J1 164 35)) 164 40 (-1)) 164 41 0) 164 39 0) 164 42 0) 164 35 ((J1 164 35) + 1)) 164 38 3) 164 42 z_63) : zJ) 164 35 = ((J1 164 35) + 1) from rfl) (Eq.symm (tkE_1 hS (by omega) hks (by omega))), Or.inr (Or.inr (Or.inr (Or.inr ⟨(by rw [tkK_1 hS (by omega), hks]; omega), (Eq.trans (show ((zup (zup (zup (zup (zup (zup (zup (zup J1 164 36 (J1 164 35)) 164 40 (-1)) 164 41 0) 164 39 0) 164 42 0) 164 35 ((J1 164 35) + 1)) 164 38 3) 164 42 z_63) : zJ) 164 38 = 3 from rfl) (by omega)), (Eq.trans (show ((zup (zup (zup (zup (zup (zup (zup (zup J1 164 36 (J1 164 35)) 164 40 (-1)) 164 41 0) 164 39 0) 164 42 0) 164 35 ((J1 164 35) + 1)) 164 38 3) 164 42 z_63) : zJ) 164 42 = z_63 from rfl) (by rw [tkK_1 hS (by omega), hks])), (Eq.trans (show ((zup (zup (zup (zup (zup (zup (zup (zup J1 164 36 (J1 164 35)) 164 40 (-1)) 164 41 0) 164 39 0) 164 42 0) 164 35 ((J1 164 35) + 1)) 164 38 3) 164 42 z_63) : zJ) 164 41 = 0 from rfl) (by omega)), (Eq.trans (show ((zup (zup (zup (zup (zup (zup (zup (zup J1 164 36 (J1 164 35)) 164 40 (-1)) 164 41 0) 164 39 0) 164 42 0) 164 35 ((J1 164 35) + 1)) 164 38 3) 164 42 z_63) : zJ) 164 40 = (-1) from rfl) (by omega))⟩)))⟩⟩
                · refine tz_iload_n (pc := 183) dX12_go_183 rfl rfl ?_
                  refine tz_bipush (pc := 184) dX12_go_184 (by decide) ?_
                  refine tz_icmp_gt (pc := 186) (tgt := 268) dX12_go_186 (by decide) (by omega) (by decide) (fun h_186 => ?_) (fun h_186 => ?_)
                  · have hf : J 173 (J1 164 35) = z_63 := hd_63 (by omega)
                    refine tz_aload_n (pc := 268) dX12_go_268 rfl rfl ?_
                    refine tz_dup (pc := 269) dX12_go_269 rfl ?_
                    refine tz_fI (pc := 270) (kz := 35) (v := (J1 164 35)) dX12_go_270 fl_X12_243 i_164_35 rfl rfl (fun r_270 => ?_)
                    refine tz_iconst (pc := 273) dX12_go_273 ?_
                    refine tz_iadd (pc := 274) (v := (J1 164 35) + 1) dX12_go_274 rfl ?_
                    refine tz_pI (pc := 275) (kz := 35) dX12_go_275 fl_X12_243 i_164_35 rfl rfl (by omega) ?_
                    refine tz_aload_n (pc := 278) dX12_go_278 rfl rfl ?_
                    refine tz_aload_n (pc := 279) dX12_go_279 rfl rfl ?_
                    refine tz_iload_n (pc := 280) dX12_go_280 rfl rfl ?_
                    refine tz_cV (pc := 281) (x_isSgn hl n _ _ (by omega)) vl_X12_270 dX12_go_281 o_164 rfl rfl (Nat.le_of_ble_eq_true rfl) ⟨(Nat.le_of_ble_eq_true rfl), (Nat.le_of_ble_eq_true rfl)⟩ rfl rfl (Nat.le_of_ble_eq_true rfl) (Nat.le_of_ble_eq_true rfl) (fun r9 J_281 hq9 => ?_)
                    obtain ⟨z_281, rfl, hz_281, rfl, hg⟩ := hq9
                    refine tz_if_eq (pc := 284) (tgt := 291) dX12_go_284 (by decide) (by omega) (fun h_284 => ?_) (fun h_284 => ?_)
                    · refine tz_iconst (pc := 291) dX12_go_291 ?_
                      have hk1 : kdB (J 173 (J1 164 35)) = 1 := by rw [hf]; exact kd1 (by omega) (by omega) (by omega)
                      refine tz_pI (pc := 292) (kz := 38) dX12_go_292 fl_X12_261 i_164_38 rfl rfl (by decide) ?_
                      refine tz_aload_n (pc := 295) dX12_go_295 rfl rfl ?_
                      refine tz_aload_n (pc := 296) dX12_go_296 rfl rfl ?_
                      refine tz_fI (pc := 297) (kz := 38) (v := 4) dX12_go_297 fl_X12_261 i_164_38 rfl rfl (fun _ => ?_)
                      refine tz_iconst (pc := 300) dX12_go_300 ?_
                      refine tz_icmp_neT (pc := 301) (tgt := 308) (by decide) dX12_go_301 (by decide) (by decide) (by decide) ?_
                      refine tz_iconst (pc := 308) dX12_go_308 ?_
                      refine tz_pI (pc := 309) (kz := 42) dX12_go_309 fl_X12_258 i_164_42 rfl rfl (by decide) ?_
                      exact tz_vret (pc := 312) dX12_go_312 rfl (Nat.le_of_ble_eq_true rfl) (Nat.le_of_ble_eq_true rfl) ⟨Nat.le_refl _, Nat.le_add_right _ _⟩ ⟨rfl, ⟨(RGo.up (k := 42) (RGo.up (k := 38) (RGo.up (k := 35) (RGo.up (k := 42) (RGo.up (k := 39) (RGo.up (k := 41) (RGo.up (k := 40) (RGo.up (k := 36) f1 rfl) rfl) rfl) rfl) rfl) rfl) rfl) rfl), Eq.trans (show ((zup (zup (zup (zup (zup (zup (zup (zup J1 164 36 (J1 164 35)) 164 40 (-1)) 164 41 0) 164 39 0) 164 42 0) 164 35 ((J1 164 35) + 1)) 164 38 4) 164 42 0) : zJ) 164 36 = (J1 164 35) from rfl) hS.symm, Eq.trans (show ((zup (zup (zup (zup (zup (zup (zup (zup J1 164 36 (J1 164 35)) 164 40 (-1)) 164 41 0) 164 39 0) 164 42 0) 164 35 ((J1 164 35) + 1)) 164 38 4) 164 42 0) : zJ) 164 35 = ((J1 164 35) + 1) from rfl) (Eq.symm (tkE_1 hS (by omega) hk1 (by decide))), Or.inr (Or.inr (Or.inr (Or.inl ⟨(tkK_1 hS (by omega)).trans hk1, (Eq.trans (show ((zup (zup (zup (zup (zup (zup (zup (zup J1 164 36 (J1 164 35)) 164 40 (-1)) 164 41 0) 164 39 0) 164 42 0) 164 35 ((J1 164 35) + 1)) 164 38 4) 164 42 0) : zJ) 164 38 = 4 from rfl) (by omega)), (Eq.trans (show ((zup (zup (zup (zup (zup (zup (zup (zup J1 164 36 (J1 164 35)) 164 40 (-1)) 164 41 0) 164 39 0) 164 42 0) 164 35 ((J1 164 35) + 1)) 164 38 4) 164 42 0) : zJ) 164 42 = 0 from rfl) (by omega)), (Eq.trans (show ((zup (zup (zup (zup (zup (zup (zup (zup J1 164 36 (J1 164 35)) 164 40 (-1)) 164 41 0) 164 39 0) 164 42 0) 164 35 ((J1 164 35) + 1)) 164 38 4) 164 42 0) : zJ) 164 41 = 0 from rfl) (by omega)), (Eq.trans (show ((zup (zup (zup (zup (zup (zup (zup (zup J1 164 36 (J1 164 35)) 164 40 (-1)) 164 41 0) 164 39 0) 164 42 0) 164 35 ((J1 164 35) + 1)) 164 38 4) 164 42 0) : zJ) 164 40 = (-1) from rfl) (by omega))⟩)))⟩⟩
                    · refine tz_iconst (pc := 287) dX12_go_287 ?_
                      refine tz_goto (pc := 288) (tgt := 292) dX12_go_288 (by decide) ?_
                      have hks : kdB (J 173 (J1 164 35)) = z_63 := by rw [hf]; exact kds (by omega)
                      refine tz_pI (pc := 292) (kz := 38) dX12_go_292 fl_X12_261 i_164_38 rfl rfl (by decide) ?_
                      refine tz_aload_n (pc := 295) dX12_go_295 rfl rfl ?_
                      refine tz_aload_n (pc := 296) dX12_go_296 rfl rfl ?_
                      refine tz_fI (pc := 297) (kz := 38) (v := 3) dX12_go_297 fl_X12_261 i_164_38 rfl rfl (fun _ => ?_)
                      refine tz_iconst (pc := 300) dX12_go_300 ?_
                      refine tz_icmp_neF (pc := 301) (tgt := 308) (by decide) dX12_go_301 (by decide) (by decide) (by decide) ?_
                      refine tz_iload_n (pc := 304) dX12_go_304 rfl rfl ?_
                      refine tz_goto (pc := 305) (tgt := 309) dX12_go_305 (by decide) ?_
                      refine tz_pI (pc := 309) (kz := 42) dX12_go_309 fl_X12_258 i_164_42 rfl rfl (by omega) ?_
                      exact tz_vret (pc := 312) dX12_go_312 rfl (Nat.le_of_ble_eq_true rfl) (Nat.le_of_ble_eq_true rfl) ⟨Nat.le_refl _, Nat.le_add_right _ _⟩ ⟨rfl, ⟨(RGo.up (k := 42) (RGo.up (k := 38) (RGo.up (k := 35) (RGo.up (k := 42) (RGo.up (k := 39) (RGo.up (k := 41) (RGo.up (k := 40) (RGo.up (k := 36) f1 rfl) rfl) rfl) rfl) rfl) rfl) rfl) rfl), Eq.trans (show ((zup (zup (zup (zup (zup (zup (zup (zup J1 164 36 (J1 164 35)) 164 40 (-1)) 164 41 0) 164 39 0) 164 42 0) 164 35 ((J1 164 35) + 1)) 164 38 3) 164 42 z_63) : zJ) 164 36 = (J1 164 35) from rfl) hS.symm, Eq.trans (show ((zup (zup (zup (zup (zup (zup (zup (zup J1 164 36 (J1 164 35)) 164 40 (-1)) 164 41 0) 164 39 0) 164 42 0) 164 35 ((J1 164 35) + 1)) 164 38 3) 164 42 z_63) : zJ) 164 35 = ((J1 164 35) + 1) from rfl) (Eq.symm (tkE_1 hS (by omega) hks (by omega))), Or.inr (Or.inr (Or.inr (Or.inr ⟨(by rw [tkK_1 hS (by omega), hks]; omega), (Eq.trans (show ((zup (zup (zup (zup (zup (zup (zup (zup J1 164 36 (J1 164 35)) 164 40 (-1)) 164 41 0) 164 39 0) 164 42 0) 164 35 ((J1 164 35) + 1)) 164 38 3) 164 42 z_63) : zJ) 164 38 = 3 from rfl) (by omega)), (Eq.trans (show ((zup (zup (zup (zup (zup (zup (zup (zup J1 164 36 (J1 164 35)) 164 40 (-1)) 164 41 0) 164 39 0) 164 42 0) 164 35 ((J1 164 35) + 1)) 164 38 3) 164 42 z_63) : zJ) 164 42 = z_63 from rfl) (by rw [tkK_1 hS (by omega), hks])), (Eq.trans (show ((zup (zup (zup (zup (zup (zup (zup (zup J1 164 36 (J1 164 35)) 164 40 (-1)) 164 41 0) 164 39 0) 164 42 0) 164 35 ((J1 164 35) + 1)) 164 38 3) 164 42 z_63) : zJ) 164 41 = 0 from rfl) (by omega)), (Eq.trans (show ((zup (zup (zup (zup (zup (zup (zup (zup J1 164 36 (J1 164 35)) 164 40 (-1)) 164 41 0) 164 39 0) 164 42 0) 164 35 ((J1 164 35) + 1)) 164 38 3) 164 42 z_63) : zJ) 164 40 = (-1) from rfl) (by omega))⟩)))⟩⟩
                  · have loop189 : ∀ (f9 : Nat) (J3 : zJ), ((J 164 37 - J3 164 35).toNat) < f9 → (RGo J3 J) → (J1 164 35 ≤ J3 164 35 ∧ J3 164 35 ≤ J 164 37) → (∀ q, J1 164 35 ≤ q → q < J3 164 35 → 48 ≤ J 173 q ∧ J 173 q ≤ 57) → (J3 164 36 = J1 164 35) → (J3 164 42 = 0 ∧ J3 164 41 = 0 ∧ J3 164 40 = -1) → ((J3 164 35 = J1 164 35 ∧ J3 164 39 = 0) ∨ (J3 164 35 = J1 164 35 + 1 ∧ J3 164 39 = J 173 (J1 164 35) - 48) ∨ (J1 164 35 + 1 < J3 164 35 ∧ J3 164 39 = 999)) → tz_At l G M_X12_go (tb_rm 2 0 0) none (tb_ZM G 0 0 (zQ n 0 (zqv (fun J' => RGo J' J ∧ TKM J' (J 173) (tkS (J 173) (J 164 37) (J 164 35)) (tkK (J 173) (J 164 37) (J 164 35)) (tkE (J 173) (J 164 37) (J 164 35))))) (zX n 0 zN)) 0 0 n J3 189 [some (.ref 164), some (zi z_63)] [] := by
                      intro f9
                      induction f9 with
                      | zero => intro J3 hm9; exact absurd hm9 (Nat.not_lt_zero _)
                      | succ f9 ih189 =>
                        intro J3 hm189 f3 le3 al3 pl3 sg3 vl3
                        refine tz_aload_n (pc := 189) dX12_go_189 rfl rfl ?_
                        refine tz_aload_n (pc := 190) dX12_go_190 rfl rfl ?_
                        refine tz_fI (pc := 191) (kz := 35) (v := (J3 164 35)) dX12_go_191 fl_X12_243 i_164_35 rfl rfl (fun r_191 => ?_)
                        refine tz_cV (pc := 194) (m_byteAt hl n _ _ (by omega) (by omega) (by rw [(show (J3 : zJ) 164 37 = (J 164 37) from (Eq.trans (f3.2 37 rfl) rfl))]; omega)) vl_X12_240 dX12_go_194 o_164 rfl rfl (Nat.le_of_ble_eq_true rfl) ⟨(Nat.le_of_ble_eq_true rfl), (Nat.le_of_ble_eq_true rfl)⟩ rfl rfl (Nat.le_of_ble_eq_true rfl) (Nat.le_of_ble_eq_true rfl) (fun r9 J_194 hq9 => ?_)
                        obtain ⟨z_194, rfl, hz_194, rfl, hb_194, hc_194⟩ := hq9
                        rw [(show (J3 : zJ) 164 37 = (J 164 37) from (Eq.trans (f3.2 37 rfl) rfl))] at hb_194 hc_194
                        have hd_194 : (J3 164 35) < J 164 37 → J 173 (J3 164 35) = z_194 := fun q9 => by have q8 := hc_194 q9; rw [show (J3 : zJ) 173 = J 173 from f3.1 173 rfl] at q8; exact q8
                        refine tz_bipush (pc := 197) dX12_go_197 (by decide) ?_
                        refine tz_icmp_lt (pc := 199) (tgt := 260) dX12_go_199 (by decide) (by omega) (by decide) (fun h_199 => ?_) (fun h_199 => ?_)
                        · have hf : J 173 (J1 164 35) = z_63 := hd_63 (by omega)
                          have hk3 : kdB (J 173 (J1 164 35)) = 3 := by rw [hf]; exact kd3 (by omega)
                          have lt9 : J1 164 35 < J3 164 35 := by
                            rcases Int.lt_or_eq_of_le le3.1 with e9 | e9
                            · exact e9
                            · exfalso; have e1 := hd_194 (by omega); rw [← e9] at e1; first | omega | (have e2 := hd_207 (by omega); rw [← e9] at e2; omega)
                          have hE3 : tkE (J 173) (J 164 37) (J 164 35) = J3 164 35 := tkE_2 hS (by omega) hk3 (Or.inr rfl) (by omega) le3.2 (fun q x y => kd3 (al3 q (by omega) y)) (by
                            rcases Int.lt_or_eq_of_le le3.2 with e9 | e9
                            · refine Or.inr ?_
                              first | (rw [hd_207 e9]; exact kd3' (by omega)) | (rw [hd_194 e9]; exact kd3' (by omega))
                            · exact Or.inl e9)
                          refine tz_aload_n (pc := 260) dX12_go_260 rfl rfl ?_
                          refine tz_iconst (pc := 261) dX12_go_261 ?_
                          refine tz_pI (pc := 262) (kz := 38) dX12_go_262 fl_X12_261 i_164_38 rfl rfl (by decide) ?_
                          refine tz_goto (pc := 265) (tgt := 312) dX12_go_265 (by decide) ?_
                          exact tz_vret (pc := 312) dX12_go_312 rfl (Nat.le_of_ble_eq_true rfl) (Nat.le_of_ble_eq_true rfl) ⟨Nat.le_refl _, Nat.le_add_right _ _⟩ ⟨rfl, ⟨(RGo.up (k := 38) f3 rfl), Eq.trans (show ((zup J3 164 38 2) : zJ) 164 36 = (J3 164 36) from rfl) (by rw [hS]; omega), Eq.trans (show ((zup J3 164 38 2) : zJ) 164 35 = (J3 164 35) from rfl) (Eq.symm hE3), Or.inr (Or.inr (Or.inl ⟨(tkK_1 hS (by omega)).trans hk3, (Eq.trans (show ((zup J3 164 38 2) : zJ) 164 38 = 2 from rfl) (by omega)), (Eq.trans (show ((zup J3 164 38 2) : zJ) 164 42 = (J3 164 42) from rfl) (by omega)), (Eq.trans (show ((zup J3 164 38 2) : zJ) 164 41 = (J3 164 41) from rfl) (by omega)), (Eq.trans (show ((zup J3 164 38 2) : zJ) 164 40 = (J3 164 40) from rfl) (by omega)), (by rw [(show ((zup J3 164 38 2) : zJ) 164 39 = (J3 164 39) from rfl), hE3, hS]; omega)⟩))⟩⟩
                        · refine tz_aload_n (pc := 202) dX12_go_202 rfl rfl ?_
                          refine tz_aload_n (pc := 203) dX12_go_203 rfl rfl ?_
                          refine tz_fI (pc := 204) (kz := 35) (v := (J3 164 35)) dX12_go_204 fl_X12_243 i_164_35 rfl rfl (fun r_204 => ?_)
                          refine tz_cV (pc := 207) (m_byteAt hl n _ _ (by omega) (by omega) (by rw [(show (J3 : zJ) 164 37 = (J 164 37) from (Eq.trans (f3.2 37 rfl) rfl))]; omega)) vl_X12_240 dX12_go_207 o_164 rfl rfl (Nat.le_of_ble_eq_true rfl) ⟨(Nat.le_of_ble_eq_true rfl), (Nat.le_of_ble_eq_true rfl)⟩ rfl rfl (Nat.le_of_ble_eq_true rfl) (Nat.le_of_ble_eq_true rfl) (fun r9 J_207 hq9 => ?_)
                          obtain ⟨z_207, rfl, hz_207, rfl, hb_207, hc_207⟩ := hq9
                          rw [(show (J3 : zJ) 164 37 = (J 164 37) from (Eq.trans (f3.2 37 rfl) rfl))] at hb_207 hc_207
                          have hd_207 : (J3 164 35) < J 164 37 → J 173 (J3 164 35) = z_207 := fun q9 => by have q8 := hc_207 q9; rw [show (J3 : zJ) 173 = J 173 from f3.1 173 rfl] at q8; exact q8
                          refine tz_bipush (pc := 210) dX12_go_210 (by decide) ?_
                          refine tz_icmp_gt (pc := 212) (tgt := 260) dX12_go_212 (by decide) (by omega) (by decide) (fun h_212 => ?_) (fun h_212 => ?_)
                          · have hf : J 173 (J1 164 35) = z_63 := hd_63 (by omega)
                            have hk3 : kdB (J 173 (J1 164 35)) = 3 := by rw [hf]; exact kd3 (by omega)
                            have lt9 : J1 164 35 < J3 164 35 := by
                              rcases Int.lt_or_eq_of_le le3.1 with e9 | e9
                              · exact e9
                              · exfalso; have e1 := hd_194 (by omega); rw [← e9] at e1; first | omega | (have e2 := hd_207 (by omega); rw [← e9] at e2; omega)
                            have hE3 : tkE (J 173) (J 164 37) (J 164 35) = J3 164 35 := tkE_2 hS (by omega) hk3 (Or.inr rfl) (by omega) le3.2 (fun q x y => kd3 (al3 q (by omega) y)) (by
                              rcases Int.lt_or_eq_of_le le3.2 with e9 | e9
                              · refine Or.inr ?_
                                first | (rw [hd_207 e9]; exact kd3' (by omega)) | (rw [hd_194 e9]; exact kd3' (by omega))
                              · exact Or.inl e9)
                            refine tz_aload_n (pc := 260) dX12_go_260 rfl rfl ?_
                            refine tz_iconst (pc := 261) dX12_go_261 ?_
                            refine tz_pI (pc := 262) (kz := 38) dX12_go_262 fl_X12_261 i_164_38 rfl rfl (by decide) ?_
                            refine tz_goto (pc := 265) (tgt := 312) dX12_go_265 (by decide) ?_
                            exact tz_vret (pc := 312) dX12_go_312 rfl (Nat.le_of_ble_eq_true rfl) (Nat.le_of_ble_eq_true rfl) ⟨Nat.le_refl _, Nat.le_add_right _ _⟩ ⟨rfl, ⟨(RGo.up (k := 38) f3 rfl), Eq.trans (show ((zup J3 164 38 2) : zJ) 164 36 = (J3 164 36) from rfl) (by rw [hS]; omega), Eq.trans (show ((zup J3 164 38 2) : zJ) 164 35 = (J3 164 35) from rfl) (Eq.symm hE3), Or.inr (Or.inr (Or.inl ⟨(tkK_1 hS (by omega)).trans hk3, (Eq.trans (show ((zup J3 164 38 2) : zJ) 164 38 = 2 from rfl) (by omega)), (Eq.trans (show ((zup J3 164 38 2) : zJ) 164 42 = (J3 164 42) from rfl) (by omega)), (Eq.trans (show ((zup J3 164 38 2) : zJ) 164 41 = (J3 164 41) from rfl) (by omega)), (Eq.trans (show ((zup J3 164 38 2) : zJ) 164 40 = (J3 164 40) from rfl) (by omega)), (by rw [(show ((zup J3 164 38 2) : zJ) 164 39 = (J3 164 39) from rfl), hE3, hS]; omega)⟩))⟩⟩
                          · refine tz_aload_n (pc := 215) dX12_go_215 rfl rfl ?_
                            refine tz_aload_n (pc := 216) dX12_go_216 rfl rfl ?_
                            refine tz_fI (pc := 217) (kz := 35) (v := (J3 164 35)) dX12_go_217 fl_X12_243 i_164_35 rfl rfl (fun r_217 => ?_)
                            refine tz_aload_n (pc := 220) dX12_go_220 rfl rfl ?_
                            refine tz_fI (pc := 221) (kz := 36) (v := (J3 164 36)) dX12_go_221 fl_X12_246 i_164_36 rfl rfl (fun r_221 => ?_)
                            refine tz_icmp_ne (pc := 224) (tgt := 241) dX12_go_224 (by decide) (by omega) (by omega) (fun h_224 => ?_) (fun h_224 => ?_)
                            · refine tz_sipush (pc := 241) dX12_go_241 (by decide) ?_
                              refine tz_pI (pc := 244) (kz := 39) dX12_go_244 fl_X12_255 i_164_39 rfl rfl (by decide) ?_
                              refine tz_aload_n (pc := 247) dX12_go_247 rfl rfl ?_
                              refine tz_dup (pc := 248) dX12_go_248 rfl ?_
                              refine tz_fI (pc := 249) (kz := 35) (v := (J3 164 35)) dX12_go_249 fl_X12_243 i_164_35 rfl rfl (fun r_249 => ?_)
                              refine tz_iconst (pc := 252) dX12_go_252 ?_
                              refine tz_iadd (pc := 253) (v := (J3 164 35) + 1) dX12_go_253 rfl ?_
                              refine tz_pI (pc := 254) (kz := 35) dX12_go_254 fl_X12_243 i_164_35 rfl rfl (by omega) ?_
                              refine tz_goto (pc := 257) (tgt := 189) dX12_go_257 (by decide) ?_
                              exact ih189 _ (by rw [(show ((zup (zup J3 164 39 999) 164 35 ((J3 164 35) + 1)) : zJ) 164 35 = ((J3 164 35) + 1) from rfl)]; omega) (RGo.up (k := 35) (RGo.up (k := 39) f3 rfl) rfl) (by rw [(show ((zup (zup J3 164 39 999) 164 35 ((J3 164 35) + 1)) : zJ) 164 35 = ((J3 164 35) + 1) from rfl)]; exact ⟨by omega, by omega⟩) (fun q x y => by rw [(show ((zup (zup J3 164 39 999) 164 35 ((J3 164 35) + 1)) : zJ) 164 35 = ((J3 164 35) + 1) from rfl)] at y; exact (Decidable.em (q = J3 164 35)).elim (fun e => by rw [e]; omega) (fun e => al3 q x (by omega))) (Eq.trans (show ((zup (zup J3 164 39 999) 164 35 ((J3 164 35) + 1)) : zJ) 164 36 = (J3 164 36) from rfl) (by omega)) ⟨Eq.trans (show ((zup (zup J3 164 39 999) 164 35 ((J3 164 35) + 1)) : zJ) 164 42 = (J3 164 42) from rfl) (by omega), Eq.trans (show ((zup (zup J3 164 39 999) 164 35 ((J3 164 35) + 1)) : zJ) 164 41 = (J3 164 41) from rfl) (by omega), Eq.trans (show ((zup (zup J3 164 39 999) 164 35 ((J3 164 35) + 1)) : zJ) 164 40 = (J3 164 40) from rfl) (by omega)⟩ (by rw [(show ((zup (zup J3 164 39 999) 164 35 ((J3 164 35) + 1)) : zJ) 164 35 = ((J3 164 35) + 1) from rfl), (show ((zup (zup J3 164 39 999) 164 35 ((J3 164 35) + 1)) : zJ) 164 39 = 999 from rfl)]; rcases vl3 with e9 | e9 | e9 <;> first | (exact Or.inr (Or.inl ⟨by omega, by have q7 := hd_232 (by omega); rw [e9.1] at q7; omega⟩)) | exact Or.inr (Or.inr ⟨by omega, by omega⟩))
                            · refine tz_aload_n (pc := 227) dX12_go_227 rfl rfl ?_
                              refine tz_aload_n (pc := 228) dX12_go_228 rfl rfl ?_
                              refine tz_fI (pc := 229) (kz := 35) (v := (J3 164 35)) dX12_go_229 fl_X12_243 i_164_35 rfl rfl (fun r_229 => ?_)
                              refine tz_cV (pc := 232) (m_byteAt hl n _ _ (by omega) (by omega) (by rw [(show (J3 : zJ) 164 37 = (J 164 37) from (Eq.trans (f3.2 37 rfl) rfl))]; omega)) vl_X12_240 dX12_go_232 o_164 rfl rfl (Nat.le_of_ble_eq_true rfl) ⟨(Nat.le_of_ble_eq_true rfl), (Nat.le_of_ble_eq_true rfl)⟩ rfl rfl (Nat.le_of_ble_eq_true rfl) (Nat.le_of_ble_eq_true rfl) (fun r9 J_232 hq9 => ?_)
                              obtain ⟨z_232, rfl, hz_232, rfl, hb_232, hc_232⟩ := hq9
                              rw [(show (J3 : zJ) 164 37 = (J 164 37) from (Eq.trans (f3.2 37 rfl) rfl))] at hb_232 hc_232
                              have hd_232 : (J3 164 35) < J 164 37 → J 173 (J3 164 35) = z_232 := fun q9 => by have q8 := hc_232 q9; rw [show (J3 : zJ) 173 = J 173 from f3.1 173 rfl] at q8; exact q8
                              refine tz_bipush (pc := 235) dX12_go_235 (by decide) ?_
                              refine tz_isub (pc := 237) (v := z_232 - 48) dX12_go_237 rfl ?_
                              refine tz_goto (pc := 238) (tgt := 244) dX12_go_238 (by decide) ?_
                              refine tz_pI (pc := 244) (kz := 39) dX12_go_244 fl_X12_255 i_164_39 rfl rfl (by omega) ?_
                              refine tz_aload_n (pc := 247) dX12_go_247 rfl rfl ?_
                              refine tz_dup (pc := 248) dX12_go_248 rfl ?_
                              refine tz_fI (pc := 249) (kz := 35) (v := (J3 164 35)) dX12_go_249 fl_X12_243 i_164_35 rfl rfl (fun r_249 => ?_)
                              refine tz_iconst (pc := 252) dX12_go_252 ?_
                              refine tz_iadd (pc := 253) (v := (J3 164 35) + 1) dX12_go_253 rfl ?_
                              refine tz_pI (pc := 254) (kz := 35) dX12_go_254 fl_X12_243 i_164_35 rfl rfl (by omega) ?_
                              refine tz_goto (pc := 257) (tgt := 189) dX12_go_257 (by decide) ?_
                              exact ih189 _ (by rw [(show ((zup (zup J3 164 39 (z_232 - 48)) 164 35 ((J3 164 35) + 1)) : zJ) 164 35 = ((J3 164 35) + 1) from rfl)]; omega) (RGo.up (k := 35) (RGo.up (k := 39) f3 rfl) rfl) (by rw [(show ((zup (zup J3 164 39 (z_232 - 48)) 164 35 ((J3 164 35) + 1)) : zJ) 164 35 = ((J3 164 35) + 1) from rfl)]; exact ⟨by omega, by omega⟩) (fun q x y => by rw [(show ((zup (zup J3 164 39 (z_232 - 48)) 164 35 ((J3 164 35) + 1)) : zJ) 164 35 = ((J3 164 35) + 1) from rfl)] at y; exact (Decidable.em (q = J3 164 35)).elim (fun e => by rw [e]; omega) (fun e => al3 q x (by omega))) (Eq.trans (show ((zup (zup J3 164 39 (z_232 - 48)) 164 35 ((J3 164 35) + 1)) : zJ) 164 36 = (J3 164 36) from rfl) (by omega)) ⟨Eq.trans (show ((zup (zup J3 164 39 (z_232 - 48)) 164 35 ((J3 164 35) + 1)) : zJ) 164 42 = (J3 164 42) from rfl) (by omega), Eq.trans (show ((zup (zup J3 164 39 (z_232 - 48)) 164 35 ((J3 164 35) + 1)) : zJ) 164 41 = (J3 164 41) from rfl) (by omega), Eq.trans (show ((zup (zup J3 164 39 (z_232 - 48)) 164 35 ((J3 164 35) + 1)) : zJ) 164 40 = (J3 164 40) from rfl) (by omega)⟩ (by rw [(show ((zup (zup J3 164 39 (z_232 - 48)) 164 35 ((J3 164 35) + 1)) : zJ) 164 35 = ((J3 164 35) + 1) from rfl), (show ((zup (zup J3 164 39 (z_232 - 48)) 164 35 ((J3 164 35) + 1)) : zJ) 164 39 = (z_232 - 48) from rfl)]; rcases vl3 with e9 | e9 | e9 <;> first | (exact Or.inr (Or.inl ⟨by omega, by have q7 := hd_232 (by omega); rw [e9.1] at q7; omega⟩)) | exact Or.inr (Or.inr ⟨by omega, by omega⟩))
                    exact loop189 _ _ (Nat.lt_succ_self _) (RGo.up (k := 42) (RGo.up (k := 39) (RGo.up (k := 41) (RGo.up (k := 40) (RGo.up (k := 36) f1 rfl) rfl) rfl) rfl) rfl) (by rw [(show ((zup (zup (zup (zup (zup J1 164 36 (J1 164 35)) 164 40 (-1)) 164 41 0) 164 39 0) 164 42 0) : zJ) 164 35 = (J1 164 35) from rfl)]; exact ⟨by omega, by omega⟩) (fun q x y => by rw [(show ((zup (zup (zup (zup (zup J1 164 36 (J1 164 35)) 164 40 (-1)) 164 41 0) 164 39 0) 164 42 0) : zJ) 164 35 = (J1 164 35) from rfl)] at y; omega) (Eq.trans (show ((zup (zup (zup (zup (zup J1 164 36 (J1 164 35)) 164 40 (-1)) 164 41 0) 164 39 0) 164 42 0) : zJ) 164 36 = (J1 164 35) from rfl) (by omega)) ⟨Eq.trans (show ((zup (zup (zup (zup (zup J1 164 36 (J1 164 35)) 164 40 (-1)) 164 41 0) 164 39 0) 164 42 0) : zJ) 164 42 = 0 from rfl) (by omega), Eq.trans (show ((zup (zup (zup (zup (zup J1 164 36 (J1 164 35)) 164 40 (-1)) 164 41 0) 164 39 0) 164 42 0) : zJ) 164 41 = 0 from rfl) (by omega), Eq.trans (show ((zup (zup (zup (zup (zup J1 164 36 (J1 164 35)) 164 40 (-1)) 164 41 0) 164 39 0) 164 42 0) : zJ) 164 40 = (-1) from rfl) (by omega)⟩ (by rw [(show ((zup (zup (zup (zup (zup J1 164 36 (J1 164 35)) 164 40 (-1)) 164 41 0) 164 39 0) 164 42 0) : zJ) 164 35 = (J1 164 35) from rfl), (show ((zup (zup (zup (zup (zup J1 164 36 (J1 164 35)) 164 40 (-1)) 164 41 0) 164 39 0) 164 42 0) : zJ) 164 39 = 0 from rfl)]; omega)
              · have loop113 : ∀ (f9 : Nat) (J2 : zJ), ((J 164 37 - J2 164 35).toNat) < f9 → (RGo J2 J) → (J1 164 35 ≤ J2 164 35 ∧ J2 164 35 ≤ J 164 37) → (∀ q, J1 164 35 ≤ q → q < J2 164 35 → 97 ≤ J 173 q ∧ J 173 q ≤ 122) → (J2 164 36 = J1 164 35) → (J2 164 42 = 0 ∧ J2 164 41 = 0 ∧ J2 164 40 = -1) → tz_At l G M_X12_go (tb_rm 2 0 0) none (tb_ZM G 0 0 (zQ n 0 (zqv (fun J' => RGo J' J ∧ TKM J' (J 173) (tkS (J 173) (J 164 37) (J 164 35)) (tkK (J 173) (J 164 37) (J 164 35)) (tkE (J 173) (J 164 37) (J 164 35))))) (zX n 0 zN)) 0 0 n J2 113 [some (.ref 164), some (zi z_63)] [] := by
                  intro f9
                  induction f9 with
                  | zero => intro J2 hm9; exact absurd hm9 (Nat.not_lt_zero _)
                  | succ f9 ih113 =>
                    intro J2 hm113 f2 le2 al2 pl2 sg2
                    refine tz_aload_n (pc := 113) dX12_go_113 rfl rfl ?_
                    refine tz_aload_n (pc := 114) dX12_go_114 rfl rfl ?_
                    refine tz_fI (pc := 115) (kz := 35) (v := (J2 164 35)) dX12_go_115 fl_X12_243 i_164_35 rfl rfl (fun r_115 => ?_)
                    refine tz_cV (pc := 118) (m_byteAt hl n _ _ (by omega) (by omega) (by rw [(show (J2 : zJ) 164 37 = (J 164 37) from (Eq.trans (f2.2 37 rfl) rfl))]; omega)) vl_X12_240 dX12_go_118 o_164 rfl rfl (Nat.le_of_ble_eq_true rfl) ⟨(Nat.le_of_ble_eq_true rfl), (Nat.le_of_ble_eq_true rfl)⟩ rfl rfl (Nat.le_of_ble_eq_true rfl) (Nat.le_of_ble_eq_true rfl) (fun r9 J_118 hq9 => ?_)
                    obtain ⟨z_118, rfl, hz_118, rfl, hb_118, hc_118⟩ := hq9
                    rw [(show (J2 : zJ) 164 37 = (J 164 37) from (Eq.trans (f2.2 37 rfl) rfl))] at hb_118 hc_118
                    have hd_118 : (J2 164 35) < J 164 37 → J 173 (J2 164 35) = z_118 := fun q9 => by have q8 := hc_118 q9; rw [show (J2 : zJ) 173 = J 173 from f2.1 173 rfl] at q8; exact q8
                    refine tz_cS (pc := 121) (m_isLet hl n _ _ (by omega)) sl_X12_264 dX12_go_121 rfl rfl (Nat.le_of_ble_eq_true rfl) ⟨(Nat.le_of_ble_eq_true rfl), (Nat.le_of_ble_eq_true rfl)⟩ rfl rfl (Nat.le_of_ble_eq_true rfl) (Nat.le_of_ble_eq_true rfl) (fun r9 J_121 hq9 => ?_)
                    obtain ⟨z_121, rfl, hz_121, rfl, hl_121⟩ := hq9
                    refine tz_if_eq (pc := 124) (tgt := 140) dX12_go_124 (by decide) (by omega) (fun h_124 => ?_) (fun h_124 => ?_)
                    · have hf : J 173 (J1 164 35) = z_63 := hd_63 (by omega)
                      have hk2 : kdB (J 173 (J1 164 35)) = 2 := by rw [hf]; exact kd2 (by omega)
                      have lt9 : J1 164 35 < J2 164 35 := by
                        rcases Int.lt_or_eq_of_le le2.1 with e9 | e9
                        · exact e9
                        · exfalso; have e1 := hd_118 (by omega); rw [← e9] at e1; omega
                      have hE2 : tkE (J 173) (J 164 37) (J 164 35) = J2 164 35 := tkE_2 hS (by omega) hk2 (Or.inl rfl) (by omega) le2.2 (fun q x y => kd2 (al2 q (by omega) y)) (by
                        rcases Int.lt_or_eq_of_le le2.2 with e9 | e9
                        · refine Or.inr ?_
                          rw [hd_118 e9]
                          exact kd2' (by omega)
                        · exact Or.inl e9)
                      refine tz_aload_n (pc := 140) dX12_go_140 rfl rfl ?_
                      refine tz_iconst (pc := 141) dX12_go_141 ?_
                      refine tz_pI (pc := 142) (kz := 38) dX12_go_142 fl_X12_261 i_164_38 rfl rfl (by decide) ?_
                      refine tz_aload_n (pc := 145) dX12_go_145 rfl rfl ?_
                      refine tz_aload_n (pc := 146) dX12_go_146 rfl rfl ?_
                      refine tz_fI (pc := 147) (kz := 35) (v := (J2 164 35)) dX12_go_147 fl_X12_243 i_164_35 rfl rfl (fun r_147 => ?_)
                      refine tz_aload_n (pc := 150) dX12_go_150 rfl rfl ?_
                      refine tz_fI (pc := 151) (kz := 36) (v := (J2 164 36)) dX12_go_151 fl_X12_246 i_164_36 rfl rfl (fun r_151 => ?_)
                      refine tz_isub (pc := 154) (v := (J2 164 35) - (J2 164 36)) dX12_go_154 rfl ?_
                      refine tz_pI (pc := 155) (kz := 41) dX12_go_155 fl_X12_252 i_164_41 rfl rfl (by omega) ?_
                      refine tz_aload_n (pc := 158) dX12_go_158 rfl rfl ?_
                      refine tz_aload_n (pc := 159) dX12_go_159 rfl rfl ?_
                      refine tz_aload_n (pc := 160) dX12_go_160 rfl rfl ?_
                      refine tz_fI (pc := 161) (kz := 36) (v := (J2 164 36)) dX12_go_161 fl_X12_246 i_164_36 rfl rfl (fun r_161 => ?_)
                      refine tz_aload_n (pc := 164) dX12_go_164 rfl rfl ?_
                      refine tz_fI (pc := 165) (kz := 35) (v := (J2 164 35)) dX12_go_165 fl_X12_243 i_164_35 rfl rfl (fun r_165 => ?_)
                      refine tz_cV (pc := 168) (x_wordFrom hl n _ _ _ (by omega) (by omega) (by omega) (by rw [(show ((zup (zup J2 164 38 1) 164 41 ((J2 164 35) - (J2 164 36))) : zJ) 164 37 = (J 164 37) from (Eq.trans (f2.2 37 rfl) rfl))]; omega) (by rw [(show ((zup (zup J2 164 38 1) 164 41 ((J2 164 35) - (J2 164 36))) : zJ) 164 37 = (J 164 37) from (Eq.trans (f2.2 37 rfl) rfl))]; omega)) vl_X12_267 dX12_go_168 o_164 rfl rfl (Nat.le_of_ble_eq_true rfl) ⟨(Nat.le_of_ble_eq_true rfl), (Nat.le_of_ble_eq_true rfl)⟩ rfl rfl (Nat.le_of_ble_eq_true rfl) (Nat.le_of_ble_eq_true rfl) (fun r9 J_168 hq9 => ?_)
                      obtain ⟨z_168, rfl, hz_168, rfl, hw⟩ := hq9
                      rw [show ((zup (zup J2 164 38 1) 164 41 ((J2 164 35) - (J2 164 36))) : zJ) 173 = J 173 from f2.1 173 rfl, pl2] at hw
                      refine tz_pI (pc := 171) (kz := 40) dX12_go_171 fl_X12_249 i_164_40 rfl rfl (by omega) ?_
                      refine tz_goto (pc := 174) (tgt := 312) dX12_go_174 (by decide) ?_
                      exact tz_vret (pc := 312) dX12_go_312 rfl (Nat.le_of_ble_eq_true rfl) (Nat.le_of_ble_eq_true rfl) ⟨Nat.le_refl _, Nat.le_add_right _ _⟩ ⟨rfl, ⟨(RGo.up (k := 40) (RGo.up (k := 41) (RGo.up (k := 38) f2 rfl) rfl) rfl), Eq.trans (show ((zup (zup (zup J2 164 38 1) 164 41 ((J2 164 35) - (J2 164 36))) 164 40 z_168) : zJ) 164 36 = (J2 164 36) from rfl) (by rw [hS]; omega), Eq.trans (show ((zup (zup (zup J2 164 38 1) 164 41 ((J2 164 35) - (J2 164 36))) 164 40 z_168) : zJ) 164 35 = (J2 164 35) from rfl) (Eq.symm hE2), Or.inr (Or.inl ⟨(tkK_1 hS (by omega)).trans hk2, (Eq.trans (show ((zup (zup (zup J2 164 38 1) 164 41 ((J2 164 35) - (J2 164 36))) 164 40 z_168) : zJ) 164 38 = 1 from rfl) (by omega)), (Eq.trans (show ((zup (zup (zup J2 164 38 1) 164 41 ((J2 164 35) - (J2 164 36))) 164 40 z_168) : zJ) 164 42 = (J2 164 42) from rfl) (by omega)), Eq.trans (show ((zup (zup (zup J2 164 38 1) 164 41 ((J2 164 35) - (J2 164 36))) 164 40 z_168) : zJ) 164 41 = ((J2 164 35) - (J2 164 36)) from rfl) (by rw [hE2, hS]; omega), (by rw [(show ((zup (zup (zup J2 164 38 1) 164 41 ((J2 164 35) - (J2 164 36))) 164 40 z_168) : zJ) 164 40 = z_168 from rfl), hS, hE2]; exact hw)⟩)⟩⟩
                    · refine tz_aload_n (pc := 127) dX12_go_127 rfl rfl ?_
                      refine tz_dup (pc := 128) dX12_go_128 rfl ?_
                      refine tz_fI (pc := 129) (kz := 35) (v := (J2 164 35)) dX12_go_129 fl_X12_243 i_164_35 rfl rfl (fun r_129 => ?_)
                      refine tz_iconst (pc := 132) dX12_go_132 ?_
                      refine tz_iadd (pc := 133) (v := (J2 164 35) + 1) dX12_go_133 rfl ?_
                      refine tz_pI (pc := 134) (kz := 35) dX12_go_134 fl_X12_243 i_164_35 rfl rfl (by omega) ?_
                      refine tz_goto (pc := 137) (tgt := 113) dX12_go_137 (by decide) ?_
                      exact ih113 _ (by rw [(show ((zup J2 164 35 ((J2 164 35) + 1)) : zJ) 164 35 = ((J2 164 35) + 1) from rfl)]; omega) (RGo.up (k := 35) f2 rfl) (by rw [(show ((zup J2 164 35 ((J2 164 35) + 1)) : zJ) 164 35 = ((J2 164 35) + 1) from rfl)]; exact ⟨by omega, by omega⟩) (fun q x y => by rw [(show ((zup J2 164 35 ((J2 164 35) + 1)) : zJ) 164 35 = ((J2 164 35) + 1) from rfl)] at y; exact (Decidable.em (q = J2 164 35)).elim (fun e => by rw [e]; omega) (fun e => al2 q x (by omega))) (Eq.trans (show ((zup J2 164 35 ((J2 164 35) + 1)) : zJ) 164 36 = (J2 164 36) from rfl) (by omega)) ⟨Eq.trans (show ((zup J2 164 35 ((J2 164 35) + 1)) : zJ) 164 42 = (J2 164 42) from rfl) (by omega), Eq.trans (show ((zup J2 164 35 ((J2 164 35) + 1)) : zJ) 164 41 = (J2 164 41) from rfl) (by omega), Eq.trans (show ((zup J2 164 35 ((J2 164 35) + 1)) : zJ) 164 40 = (J2 164 40) from rfl) (by omega)⟩
                exact loop113 _ _ (Nat.lt_succ_self _) (RGo.up (k := 42) (RGo.up (k := 39) (RGo.up (k := 41) (RGo.up (k := 40) (RGo.up (k := 36) f1 rfl) rfl) rfl) rfl) rfl) (by rw [(show ((zup (zup (zup (zup (zup J1 164 36 (J1 164 35)) 164 40 (-1)) 164 41 0) 164 39 0) 164 42 0) : zJ) 164 35 = (J1 164 35) from rfl)]; exact ⟨by omega, by omega⟩) (fun q x y => by rw [(show ((zup (zup (zup (zup (zup J1 164 36 (J1 164 35)) 164 40 (-1)) 164 41 0) 164 39 0) 164 42 0) : zJ) 164 35 = (J1 164 35) from rfl)] at y; omega) (Eq.trans (show ((zup (zup (zup (zup (zup J1 164 36 (J1 164 35)) 164 40 (-1)) 164 41 0) 164 39 0) 164 42 0) : zJ) 164 36 = (J1 164 35) from rfl) (by omega)) ⟨Eq.trans (show ((zup (zup (zup (zup (zup J1 164 36 (J1 164 35)) 164 40 (-1)) 164 41 0) 164 39 0) 164 42 0) : zJ) 164 42 = 0 from rfl) (by omega), Eq.trans (show ((zup (zup (zup (zup (zup J1 164 36 (J1 164 35)) 164 40 (-1)) 164 41 0) 164 39 0) 164 42 0) : zJ) 164 41 = 0 from rfl) (by omega), Eq.trans (show ((zup (zup (zup (zup (zup J1 164 36 (J1 164 35)) 164 40 (-1)) 164 41 0) 164 39 0) 164 42 0) : zJ) 164 40 = (-1) from rfl) (by omega)⟩
            · refine tz_aload_n (pc := 98) dX12_go_98 rfl rfl ?_
              refine tz_iconst (pc := 99) dX12_go_99 ?_
              refine tz_pI (pc := 100) (kz := 38) dX12_go_100 fl_X12_261 i_164_38 rfl rfl (by decide) ?_
              refine tz_goto (pc := 103) (tgt := 312) dX12_go_103 (by decide) ?_
              exact tz_vret (pc := 312) dX12_go_312 rfl (Nat.le_of_ble_eq_true rfl) (Nat.le_of_ble_eq_true rfl) ⟨Nat.le_refl _, Nat.le_add_right _ _⟩ ⟨rfl, ⟨(RGo.up (k := 38) (RGo.up (k := 42) (RGo.up (k := 39) (RGo.up (k := 41) (RGo.up (k := 40) (RGo.up (k := 36) f1 rfl) rfl) rfl) rfl) rfl) rfl), Eq.trans (show ((zup (zup (zup (zup (zup (zup J1 164 36 (J1 164 35)) 164 40 (-1)) 164 41 0) 164 39 0) 164 42 0) 164 38 0) : zJ) 164 36 = (J1 164 35) from rfl) hS.symm, (Eq.trans (show ((zup (zup (zup (zup (zup (zup J1 164 36 (J1 164 35)) 164 40 (-1)) 164 41 0) 164 39 0) 164 42 0) 164 38 0) : zJ) 164 35 = (J1 164 35) from rfl) (by rw [(tkK_0 hS (by omega)).2]; omega)), Or.inl ⟨(tkK_0 hS (by omega)).1, (Eq.trans (show ((zup (zup (zup (zup (zup (zup J1 164 36 (J1 164 35)) 164 40 (-1)) 164 41 0) 164 39 0) 164 42 0) 164 38 0) : zJ) 164 38 = 0 from rfl) (by omega)), (Eq.trans (show ((zup (zup (zup (zup (zup (zup J1 164 36 (J1 164 35)) 164 40 (-1)) 164 41 0) 164 39 0) 164 42 0) 164 38 0) : zJ) 164 42 = 0 from rfl) (by omega)), (Eq.trans (show ((zup (zup (zup (zup (zup (zup J1 164 36 (J1 164 35)) 164 40 (-1)) 164 41 0) 164 39 0) 164 42 0) 164 38 0) : zJ) 164 41 = 0 from rfl) (by omega)), (Eq.trans (show ((zup (zup (zup (zup (zup (zup J1 164 36 (J1 164 35)) 164 40 (-1)) 164 41 0) 164 39 0) 164 42 0) 164 38 0) : zJ) 164 40 = (-1) from rfl) (by omega))⟩⟩⟩
          · refine tz_aload_n (pc := 37) dX12_go_37 rfl rfl ?_
            refine tz_dup (pc := 38) dX12_go_38 rfl ?_
            refine tz_fI (pc := 39) (kz := 35) (v := (J1 164 35)) dX12_go_39 fl_X12_243 i_164_35 rfl rfl (fun r_39 => ?_)
            refine tz_iconst (pc := 42) dX12_go_42 ?_
            refine tz_iadd (pc := 43) (v := (J1 164 35) + 1) dX12_go_43 rfl ?_
            refine tz_pI (pc := 44) (kz := 35) dX12_go_44 fl_X12_243 i_164_35 rfl rfl (by omega) ?_
            refine tz_goto (pc := 47) (tgt := 0) dX12_go_47 (by decide) ?_
            exact ih0 _ (by rw [(show ((zup J1 164 35 ((J1 164 35) + 1)) : zJ) 164 35 = ((J1 164 35) + 1) from rfl)]; omega) (RGo.up (k := 35) f1 rfl) (by rw [(show ((zup J1 164 35 ((J1 164 35) + 1)) : zJ) 164 35 = ((J1 164 35) + 1) from rfl)]; exact ⟨by omega, by omega⟩) (fun q x y => by rw [(show ((zup J1 164 35 ((J1 164 35) + 1)) : zJ) 164 35 = ((J1 164 35) + 1) from rfl)] at y; exact (Decidable.em (q = J1 164 35)).elim (fun e => by rw [e]; omega) (fun e => al1 q x (by omega)))
  exact loop0 _ _ (Nat.lt_succ_self _) RGo.rf (by rw [(show (J : zJ) 164 35 = (J 164 35) from rfl)]; exact ⟨by omega, by omega⟩) (fun q x y => by rw [(show (J : zJ) 164 35 = (J 164 35) from rfl)] at y; omega)

