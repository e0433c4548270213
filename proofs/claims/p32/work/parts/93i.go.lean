section
/-- the reference's fields tell a token -/
def TKM (J : zJ) (f : Int → Int) (st k en : Int) : Prop := J 164 36 = st ∧ J 164 35 = en ∧ ((k = 0 ∧ J 164 38 = 0 ∧ J 164 42 = 0 ∧ J 164 41 = 0 ∧ J 164 40 = -1) ∨ (k = 2 ∧ J 164 38 = 1 ∧ J 164 42 = 0 ∧ J 164 41 = en - st ∧ WD f st en (J 164 40)) ∨ (k = 3 ∧ J 164 38 = 2 ∧ J 164 42 = 0 ∧ J 164 41 = 0 ∧ J 164 40 = -1 ∧ ((en = st + 1 ∧ J 164 39 = f st - 48) ∨ (st + 1 < en ∧ J 164 39 = 999))) ∨ (k = 1 ∧ J 164 38 = 4 ∧ J 164 42 = 0 ∧ J 164 41 = 0 ∧ J 164 40 = -1) ∨ ((¬ k = 0 ∧ ¬ k = 1 ∧ ¬ k = 2 ∧ ¬ k = 3) ∧ J 164 38 = 3 ∧ J 164 42 = k ∧ J 164 41 = 0 ∧ J 164 40 = -1))
theorem kd2 {c : Int} (h : 97 ≤ c ∧ c ≤ 122) : kdB c = 2 := by unfold kdB; rw [if_pos h]
theorem kd2' {c : Int} (h : ¬ (97 ≤ c ∧ c ≤ 122)) : ¬ kdB c = 2 := by unfold kdB; (repeat' split) <;> omega
theorem kd3 {c : Int} (h : 48 ≤ c ∧ c ≤ 57) : kdB c = 3 := by unfold kdB; rw [if_neg (by omega), if_pos h]
theorem kd3' {c : Int} (h : ¬ (48 ≤ c ∧ c ≤ 57)) : ¬ kdB c = 3 := by unfold kdB; (repeat' split) <;> omega
theorem kds {c : Int} (h : c = 63 ∨ c = 40 ∨ c = 41 ∨ c = 44 ∨ c = 59) : kdB c = c := by unfold kdB; (repeat' split) <;> omega
theorem kd1 {c : Int} (h : ¬ (97 ≤ c ∧ c ≤ 122)) (h1 : ¬ (48 ≤ c ∧ c ≤ 57)) (h2 : ¬ (c = 63 ∨ c = 40 ∨ c = 41 ∨ c = 44 ∨ c = 59)) : kdB c = 1 := by unfold kdB; rw [if_neg h, if_neg h1, if_neg h2]
set_option maxHeartbeats 4000000 in
set_option maxRecDepth 100000 in
theorem x_isSgn {l : Launch} {G : tb_G} (hl : l.stackTraces = false) (n : Nat) (J : zJ) (x : Int) (hr_x : -2147483648 ≤ x ∧ x < 2147483648)   : tz_Ok l G M_X12_isSignByte 0 0 0 [.ref 164, zi x] n J (zqi (fun z J' => J = J' ∧ ((z = 1 ∧ (x = 63 ∨ x = 40 ∨ x = 41 ∨ x = 44 ∨ x = 59)) ∨ (z = 0 ∧ ¬ (x = 63 ∨ x = 40 ∨ x = 41 ∨ x = 44 ∨ x = 59))))) zN := by
  refine tz_Ok.of hl (by decide +kernel) rfl (tb_c1 rfl) (Nat.le_of_ble_eq_true rfl) ?_
  show tz_At l G M_X12_isSignByte (tb_rm 0 0 0) none (tb_ZM G 0 0 (zQ n 0 (zqi (fun z J' => J = J' ∧ ((z = 1 ∧ (x = 63 ∨ x = 40 ∨ x = 41 ∨ x = 44 ∨ x = 59)) ∨ (z = 0 ∧ ¬ (x = 63 ∨ x = 40 ∨ x = 41 ∨ x = 44 ∨ x = 59)))))) (zX n 0 zN)) 0 0 n J 0 [some (.ref 164), some (zi x)] []
  refine tz_iload_n (pc := 0) dX12_isSignByte_0 rfl rfl ?_
  refine tz_bipush (pc := 1) dX12_isSignByte_1 (by decide) ?_
  refine tz_icmp_eq (pc := 3) (tgt := 30) dX12_isSignByte_3 (by decide) (by omega) (by decide) (fun h_3 => ?_) (fun h_3 => ?_)
  · refine tz_iconst (pc := 30) dX12_isSignByte_30 ?_
    refine tz_goto (pc := 31) (tgt := 35) dX12_isSignByte_31 (by decide) ?_
    exact tz_zret (pc := 35) (z := 1) dX12_isSignByte_35 rfl (Or.inr rfl) (Nat.le_of_ble_eq_true rfl) (Nat.le_of_ble_eq_true rfl) ⟨Nat.le_refl _, Nat.le_add_right _ _⟩ ⟨_, rfl, (by decide), ⟨rfl, by omega⟩⟩
  · refine tz_iload_n (pc := 6) dX12_isSignByte_6 rfl rfl ?_
    refine tz_bipush (pc := 7) dX12_isSignByte_7 (by decide) ?_
    refine tz_icmp_eq (pc := 9) (tgt := 30) dX12_isSignByte_9 (by decide) (by omega) (by decide) (fun h_9 => ?_) (fun h_9 => ?_)
    · refine tz_iconst (pc := 30) dX12_isSignByte_30 ?_
      refine tz_goto (pc := 31) (tgt := 35) dX12_isSignByte_31 (by decide) ?_
      exact tz_zret (pc := 35) (z := 1) dX12_isSignByte_35 rfl (Or.inr rfl) (Nat.le_of_ble_eq_true rfl) (Nat.le_of_ble_eq_true rfl) ⟨Nat.le_refl _, Nat.le_add_right _ _⟩ ⟨_, rfl, (by decide), ⟨rfl, by omega⟩⟩
    · refine tz_iload_n (pc := 12) dX12_isSignByte_12 rfl rfl ?_
      refine tz_bipush (pc := 13) dX12_isSignByte_13 (by decide) ?_
      refine tz_icmp_eq (pc := 15) (tgt := 30) dX12_isSignByte_15 (by decide) (by omega) (by decide) (fun h_15 => ?_) (fun h_15 => ?_)
      · refine tz_iconst (pc := 30) dX12_isSignByte_30 ?_
        refine tz_goto (pc := 31) (tgt := 35) dX12_isSignByte_31 (by decide) ?_
        exact tz_zret (pc := 35) (z := 1) dX12_isSignByte_35 rfl (Or.inr rfl) (Nat.le_of_ble_eq_true rfl) (Nat.le_of_ble_eq_true rfl) ⟨Nat.le_refl _, Nat.le_add_right _ _⟩ ⟨_, rfl, (by decide), ⟨rfl, by omega⟩⟩
      · refine tz_iload_n (pc := 18) dX12_isSignByte_18 rfl rfl ?_
        refine tz_bipush (pc := 19) dX12_isSignByte_19 (by decide) ?_
        refine tz_icmp_eq (pc := 21) (tgt := 30) dX12_isSignByte_21 (by decide) (by omega) (by decide) (fun h_21 => ?_) (fun h_21 => ?_)
        · refine tz_iconst (pc := 30) dX12_isSignByte_30 ?_
          refine tz_goto (pc := 31) (tgt := 35) dX12_isSignByte_31 (by decide) ?_
          exact tz_zret (pc := 35) (z := 1) dX12_isSignByte_35 rfl (Or.inr rfl) (Nat.le_of_ble_eq_true rfl) (Nat.le_of_ble_eq_true rfl) ⟨Nat.le_refl _, Nat.le_add_right _ _⟩ ⟨_, rfl, (by decide), ⟨rfl, by omega⟩⟩
        · refine tz_iload_n (pc := 24) dX12_isSignByte_24 rfl rfl ?_
          refine tz_bipush (pc := 25) dX12_isSignByte_25 (by decide) ?_
          refine tz_icmp_ne (pc := 27) (tgt := 34) dX12_isSignByte_27 (by decide) (by omega) (by decide) (fun h_27 => ?_) (fun h_27 => ?_)
          · refine tz_iconst (pc := 34) dX12_isSignByte_34 ?_
            exact tz_zret (pc := 35) (z := 0) dX12_isSignByte_35 rfl (Or.inl rfl) (Nat.le_of_ble_eq_true rfl) (Nat.le_of_ble_eq_true rfl) ⟨Nat.le_refl _, Nat.le_add_right _ _⟩ ⟨_, rfl, (by decide), ⟨rfl, by omega⟩⟩
          · refine tz_iconst (pc := 30) dX12_isSignByte_30 ?_
            refine tz_goto (pc := 31) (tgt := 35) dX12_isSignByte_31 (by decide) ?_
            exact tz_zret (pc := 35) (z := 1) dX12_isSignByte_35 rfl (Or.inr rfl) (Nat.le_of_ble_eq_true rfl) (Nat.le_of_ble_eq_true rfl) ⟨Nat.le_refl _, Nat.le_add_right _ _⟩ ⟨_, rfl, (by decide), ⟨rfl, by omega⟩⟩

set_option maxHeartbeats 4000000 in
set_option maxRecDepth 100000 in
theorem x_go {l : Launch} {G : tb_G} (hl : l.stackTraces = false) (n : Nat) (J : zJ)    (hS0 : RSz J) : tz_Ok l G M_X12_go 2 0 0 [.ref 164] n J (zqv (fun J' => RGo J' J ∧ TKM J' (J 173) (tkS (J 173) (J 164 37) (J 164 35)) (tkK (J 173) (J 164 37) (J 164 35)) (tkE (J 173) (J 164 37) (J 164 35)))) zN := by
  refine tz_Ok.of hl (by decide +kernel) rfl (tb_c1 rfl) (Nat.le_of_ble_eq_true rfl) ?_
  show tz_At l G M_X12_go (tb_rm 2 0 0) none (tb_ZM G 0 0 (zQ n 0 (zqv (fun J' => RGo J' J ∧ TKM J' (J 173) (tkS (J 173) (J 164 37) (J 164 35)) (tkK (J 173) (J 164 37) (J 164 35)) (tkE (J 173) (J 164 37) (J 164 35))))) (zX n 0 zN)) 0 0 n J 0 [some (.ref 164), none] []
  obtain ⟨ra, rb⟩ := id hS0
  have loop0 : ∀ (f9 : Nat) (J1 : zJ), ((J 164 37 - J1 164 35).toNat) < f9 → (RGo J1 J) → (J 164 35 ≤ J1 164 35 ∧ J1 164 35 ≤ J 164 37) → (∀ q, J 164 35 ≤ q → q < J1 164 35 → J 173 q = 32 ∨ J 173 q = 10) → tz_At l G M_X12_go (tb_rm 2 0 0) none (tb_ZM G 0 0 (zQ n 0 (zqv (fun J' => RGo J' J ∧ TKM J' (J 173) (tkS (J 173) (J 164 37) (J 164 35)) (tkK (J 173) (J 164 37) (J 164 35)) (tkE (J 173) (J 164 37) (J 164 35))))) (zX n 0 zN)) 0 0 n J1 0 [some (.ref 164), none] [] := by
    intro f9
    induction f9 with
    | zero => intro J1 hm9; exact absurd hm9 (Nat.not_lt_zero _)
    | succ f9 ih0 =>
      intro J1 hm0 f1 le1 al1
      refine tz_aload_n (pc := 0) dX12_go_0 rfl rfl ?_
      refine tz_fI (pc := 1) (kz := 35) (v := (J1 164 35)) dX12_go_1 fl_X12_243 i_164_35 rfl rfl (fun r_1 => ?_)
      refine tz_aload_n (pc := 4) dX12_go_4 rfl rfl ?_
      refine tz_fI (pc := 5) (kz := 37) (v := (J 164 37)) dX12_go_5 fl_X12_233 i_164_37 rfl (Eq.trans (f1.2 37 rfl) rfl) (fun r_5 => ?_)
      refine tz_icmp_ge (pc := 8) (tgt := 50) dX12_go_8 (by decide) (by omega) (by omega) (fun h_8 => ?_) (fun h_8 => ?_)
      · have hS : tkS (J 173) (J 164 37) (J 164 35) = J1 164 35 := tkS_eq le1.1 le1.2 al1 (by omega)
        refine tz_aload_n (pc := 50) dX12_go_50 rfl rfl ?_
        refine tz_aload_n (pc := 51) dX12_go_51 rfl rfl ?_
        refine tz_fI (pc := 52) (kz := 35) (v := (J1 164 35)) dX12_go_52 fl_X12_243 i_164_35 rfl rfl (fun r_52 => ?_)
        refine tz_pI (pc := 55) (kz := 36) dX12_go_55 fl_X12_246 i_164_36 rfl rfl (by omega) ?_
        refine tz_aload_n (pc := 58) dX12_go_58 rfl rfl ?_
        refine tz_aload_n (pc := 59) dX12_go_59 rfl rfl ?_
        refine tz_fI (pc := 60) (kz := 35) (v := (J1 164 35)) dX12_go_60 fl_X12_243 i_164_35 rfl rfl (fun r_60 => ?_)
        refine tz_cV (pc := 63) (m_byteAt hl n _ _ (by omega) (by omega) (by rw [(show ((zup J1 164 36 (J1 164 35)) : zJ) 164 37 = (J 164 37) from (Eq.trans (f1.2 37 rfl) rfl))]; omega)) vl_X12_240 dX12_go_63 o_164 rfl rfl (Nat.le_of_ble_eq_true rfl) ⟨(Nat.le_of_ble_eq_true rfl), (Nat.le_of_ble_eq_true rfl)⟩ rfl rfl (Nat.le_of_ble_eq_true rfl) (Nat.le_of_ble_eq_true rfl) (fun r9 J_63 hq9 => ?_)
        obtain ⟨z_63, rfl, hz_63, rfl, hb_63, hc_63⟩ := hq9
        rw [(show ((zup J1 164 36 (J1 164 35)) : zJ) 164 37 = (J 164 37) from (Eq.trans (f1.2 37 rfl) rfl))] at hb_63 hc_63
        have hd_63 : (J1 164 35) < J 164 37 → J 173 (J1 164 35) = z_63 := fun q9 => by have q8 := hc_63 q9; rw [show ((zup J1 164 36 (J1 164 35)) : zJ) 173 = J 173 from f1.1 173 rfl] at q8; exact q8
        refine tz_istore_n (pc := 66) (L2 := [_, _]) dX12_go_66 rfl (by decide) rfl ?_
        refine tz_aload_n (pc := 67) dX12_go_67 rfl rfl ?_
        refine tz_iconst (pc := 68) dX12_go_68 ?_
        refine tz_pI (pc := 69) (kz := 40) dX12_go_69 fl_X12_249 i_164_40 rfl rfl (by decide) ?_
        refine tz_aload_n (pc := 72) dX12_go_72 rfl rfl ?_
        refine tz_iconst (pc := 73) dX12_go_73 ?_
        refine tz_pI (pc := 74) (kz := 41) dX12_go_74 fl_X12_252 i_164_41 rfl rfl (by decide) ?_
        refine tz_aload_n (pc := 77) dX12_go_77 rfl rfl ?_
        refine tz_iconst (pc := 78) dX12_go_78 ?_
        refine tz_pI (pc := 79) (kz := 39) dX12_go_79 fl_X12_255 i_164_39 rfl rfl (by decide) ?_
        refine tz_aload_n (pc := 82) dX12_go_82 rfl rfl ?_
        refine tz_iconst (pc := 83) dX12_go_83 ?_
        refine tz_pI (pc := 84) (kz := 42) dX12_go_84 fl_X12_258 i_164_42 rfl rfl (by decide) ?_
        refine tz_aload_n (pc := 87) dX12_go_87 rfl rfl ?_
        refine tz_fI (pc := 88) (kz := 35) (v := (J1 164 35)) dX12_go_88 fl_X12_243 i_164_35 rfl rfl (fun r_88 => ?_)
        refine tz_aload_n (pc := 91) dX12_go_91 rfl rfl ?_
        refine tz_fI (pc := 92) (kz := 37) (v := (J 164 37)) dX12_go_92 fl_X12_233 i_164_37 rfl (Eq.trans (f1.2 37 rfl) rfl) (fun r_92 => ?_)
        refine tz_icmp_lt (pc := 95) (tgt := 106) dX12_go_95 (by decide) (by omega) (by omega) (fun h_95 => ?_) (fun h_95 => ?_)
        · refine tz_iload_n (pc := 106) dX12_go_106 rfl rfl ?_
          refine tz_cS (pc := 107) (m_isLet hl n _ _ (by omega)) sl_X12_264 dX12_go_107 rfl rfl (Nat.le_of_ble_eq_true rfl) ⟨(Nat.le_of_ble_eq_true rfl), (Nat.le_of_ble_eq_true rfl)⟩ rfl rfl (Nat.le_of_ble_eq_true rfl) (Nat.le_of_ble_eq_true rfl) (fun r9 J_107 hq9 => ?_)
          obtain ⟨z_107, rfl, hz_107, rfl, hl_107⟩ := hq9
          refine tz_if_eq (pc := 110) (tgt := 177) dX12_go_110 (by decide) (by omega) (fun h_110 => ?_) (fun h_110 => ?_)
          · refine tz_iload_n (pc := 177) dX12_go_177 rfl rfl ?_
            refine tz_bipush (pc := 178) dX12_go_178 (by decide) ?_
            refine tz_icmp_lt (pc := 180) (tgt := 268) dX12_go_180 (by decide) (by omega) (by decide) (fun h_180 => ?_) (fun h_180 => ?_)
            · have hf : J 173 (J1 164 35) = z_63 := hd_63 (by omega)
              refine tz_aload_n (pc := 268) dX12_go_268 rfl rfl ?_
              refine tz_dup (pc := 269) dX12_go_269 rfl ?_
              refine tz_fI (pc := 270) (kz := 35) (v := (J1 164 35)) dX12_go_270 fl_X12_243 i_164_35 rfl rfl (fun r_270 => ?_)
              refine tz_iconst (pc := 273) dX12_go_273 ?_
              refine tz_iadd (pc := 274) (v := (J1 164 35) + 1) dX12_go_274 rfl ?_
              refine tz_pI (pc := 275) (kz := 35) dX12_go_275 fl_X12_243 i_164_35 rfl rfl (by omega) ?_
              refine tz_aload_n (pc := 278) dX12_go_278 rfl rfl ?_
              refine tz_aload_n (pc := 279) dX12_go_279 rfl rfl ?_
              refine tz_iload_n (pc := 280) dX12_go_280 rfl rfl ?_
              refine tz_cV (pc := 281) (x_isSgn hl n _ _ (by omega)) vl_X12_270 dX12_go_281 o_164 rfl rfl (Nat.le_of_ble_eq_true rfl) ⟨(Nat.le_of_ble_eq_true rfl), (Nat.le_of_ble_eq_true rfl)⟩ rfl rfl (Nat.le_of_ble_eq_true rfl) (Nat.le_of_ble_eq_true rfl) (fun r9 J_281 hq9 => ?_)
              obtain ⟨z_281, rfl, hz_281, rfl, hg⟩ := hq9
              refine tz_if_eq (pc := 284) (tgt := 291) dX12_go_284 (by decide) (by omega) (fun h_284 => ?_) (fun h_284 => ?_)
              · refine tz_iconst (pc := 291) dX12_go_291 ?_
                have hk1 : kdB (J 173 (J1 164 35)) = 1 := by rw [hf]; exact kd1 (by omega) (by omega) (by omega)
                refine tz_pI (pc := 292) (kz := 38) dX12_go_292 fl_X12_261 i_164_38 rfl rfl (by decide) ?_
                refine tz_aload_n (pc := 295) dX12_go_295 rfl rfl ?_
                refine tz_aload_n (pc := 296) dX12_go_296 rfl rfl ?_
                refine tz_fI (pc := 297) (kz := 38) (v := 4) dX12_go_297 fl_X12_261 i_164_38 rfl rfl (fun _ => ?_)
                refine tz_iconst (pc := 300) dX12_go_300 ?_
                refine tz_icmp_neT (pc := 301) (tgt := 308) (by decide) dX12_go_301 (by decide) (by decide) (by decide) ?_
                refine tz_iconst (pc := 308) dX12_go_308 ?_
                refine tz_pI (pc := 309) (kz := 42) dX12_go_309 fl_X12_258 i_164_42 rfl rfl (by decide) ?_
                exact tz_vret (pc := 312) dX12_go_312 rfl (Nat.le_of_ble_eq_true rfl) (Nat.le_of_ble_eq_true rfl) ⟨Nat.le_refl _, Nat.le_add_right _ _⟩ ⟨rfl, ⟨(RGo.up (k := 42) (RGo.up (k := 38) (RGo.up (k := 35) (RGo.up (k := 42) (RGo.up (k := 39) (RGo.up (k := 41) (RGo.up (k := 40) (RGo.up (k := 36) f1 rfl) rfl) rfl) rfl) rfl) rfl) rfl) rfl), Eq.trans (show ((zup (zup (zup (zup (zup (zup (zup (zup J1 164 36 (J1 164 35)) 164 40 (-1)) 164 41 0) 164 39 0) 164 42 0) 164 35 ((J1 164 35) + 1)) 164 38 4) 164 42 0) : zJ) 164 36 = (J1 164 35) from rfl) hS.symm, Eq.trans (show ((zup (zup (zup (zup (zup (zup (zup (zup J1 164 36 (J1 164 35)) 164 40 (-1)) 164 41 0) 164 39 0) 164 42 0) 164 35 ((J1 164 35) + 1)) 164 38 4) 164 42 0) : zJ) 164 35 = ((J1 164 35) + 1) from rfl) (Eq.symm (tkE_1 hS (by omega) hk1 (by decide))), Or.inr (Or.inr (Or.inr (Or.inl ⟨(tkK_1 hS (by omega)).trans hk1, (Eq.trans (show ((zup (zup (zup (zup (zup (zup (zup (zup J1 164 36 (J1 164 35)) 164 40 (-1)) 164 41 0) 164 39 0) 164 42 0) 164 35 ((J1 164 35) + 1)) 164 38 4) 164 42 0) : zJ) 164 38 = 4 from rfl) (by omega)), (Eq.trans (show ((zup (zup (zup (zup (zup (zup (zup (zup J1 164 36 (J1 164 35)) 164 40 (-1)) 164 41 0) 164 39 0) 164 42 0) 164 35 ((J1 164 35) + 1)) 164 38 4) 164 42 0) : zJ) 164 42 = 0 from rfl) (by omega)), (Eq.trans (show ((zup (zup (zup (zup (zup (zup (zup (zup J1 164 36 (J1 164 35)) 164 40 (-1)) 164 41 0) 164 39 0) 164 42 0) 164 35 ((J1 164 35) + 1)) 164 38 4) 164 42 0) : zJ) 164 41 = 0 from rfl) (by omega)), (Eq.trans (show ((zup (zup (zup (zup (zup (zup (zup (zup J1 164 36 (J1 164 35)) 164 40 (-1)) 164 41 0) 164 39 0) 164 42 0) 164 35 ((J1 164 35) + 1)) 164 38 4) 164 42 0) : zJ) 164 40 = (-1) from rfl) (by omega))⟩)))⟩⟩
              · refine tz_iconst (pc := 287) dX12_go_287 ?_
                refine tz_goto (pc := 288) (tgt := 292) dX12_go_288 (by decide) ?_
                have hks : kdB (J 173 (J1 164 35)) = z_63 := by rw [hf]; exact kds (by omega)
                refine tz_pI (pc := 292) (kz := 38) dX12_go_292 fl_X12_261 i_164_38 rfl rfl (by decide) ?_
                refine tz_aload_n (pc := 295) dX12_go_295 rfl rfl ?_
                refine tz_aload_n (pc := 296) dX12_go_296 rfl rfl ?_
                refine tz_fI (pc := 297) (kz := 38) (v := 3) dX12_go_297 fl_X12_261 i_164_38 rfl rfl (fun _ => ?_)
                refine tz_iconst (pc := 300) dX12_go_300 ?_
                refine tz_icmp_neF (pc := 301) (tgt := 308) (by decide) dX12_go_301 (by decide) (by decide) (by decide) ?_
                refine tz_iload_n (pc := 304) dX12_go_304 rfl rfl ?_
                refine tz_goto (pc := 305) (tgt := 309) dX12_go_305 (by decide) ?_
                refine tz_pI (pc := 309) (kz := 42) dX12_go_309 fl_X12_258 i_164_42 rfl rfl (by omega) ?_
                exact tz_vret (pc := 312) dX12_go_312 rfl (Nat.le_of_ble_eq_true rfl) (Nat.le_of_ble_eq_true rfl) ⟨Nat.le_refl _, Nat.le_add_right _ _⟩ ⟨rfl, ⟨(RGo.up (k := 42) (RGo.up (k := 38) (RGo.up (k := 35) (RGo.up (k := 42) (RGo.up (k := 39) (RGo.up (k := 41) (RGo.up (k := 40) (RGo.up (k := 36) f1 rfl) rfl) rfl) rfl) rfl) rfl) rfl) rfl), Eq.trans (show ((zup (zup (zup (zup (zup (zup (zup (zup J1 164 36 (J1 164 35)) 164 40 (-1)) 164 41 0) 164 39 0) 164 42 0) 164 35 ((J1 164 35) + 1)) 164 38 3) 164 42 z_63) : zJ) 164 36 = (J1 164 35) from rfl) hS.symm, Eq.trans (show ((zup (zup (zup (zup (zup (zup (zup (zup J1 164 36 (J1 164 35)) 164 40 (-1)) 164 41 0) 164 39 0) 164 42 0) 164 35 ((J1 164 35) + 1)) 164 38 3) 164 42 z_63) : zJ) 164 35 = ((J1 164 35) + 1) from rfl) (Eq.symm (tkE_1 hS (by omega) hks (by omega))), Or.inr (Or.inr (Or.inr (Or.inr ⟨(by rw [tkK_1 hS (by omega), hks]; omega), (Eq.trans (show ((zup (zup (zup (zup (zup (zup (zup (zup J1 164 36 (J1 164 35)) 164 40 (-1)) 164 41 0) 164 39 0) 164 42 0) 164 35 ((J1 164 35) + 1)) 164 38 3) 164 42 z_63) : zJ) 164 38 = 3 from rfl) (by omega)), (Eq.trans (show ((zup (zup (zup (zup (zup (zup (zup (zup J1 164 36 (J1 164 35)) 164 40 (-1)) 164 41 0) 164 39 0) 164 42 0) 164 35 ((J1 164 35) + 1)) 164 38 3) 164 42 z_63) : zJ) 164 42 = z_63 from rfl) (by rw [tkK_1 hS (by omega), hks])), (Eq.trans (show ((zup (zup (zup (zup (zup (zup (zup (zup J1 164 36 (J1 164 35)) 164 40 (-1)) 164 41 0) 164 39 0) 164 42 0) 164 35 ((J1 164 35) + 1)) 164 38 3) 164 42 z_63) : zJ) 164 41 = 0 from rfl) (by omega)), (Eq.trans (show ((zup (zup (zup (zup (zup (zup (zup (zup J1 164 36 (J1 164 35)) 164 40 (-1)) 164 41 0) 164 39 0) 164 42 0) 164 35 ((J1 164 35) + 1)) 164 38 3) 164 42 z_63) : zJ) 164 40 = (-1) from rfl) (by omega))⟩)))⟩⟩
            · refine tz_iload_n (pc := 183) dX12_go_183 rfl rfl ?_
              refine tz_bipush (pc := 184) dX12_go_184 (by decide) ?_
              refine tz_icmp_gt (pc := 186) (tgt := 268) dX12_go_186 (by decide) (by omega) (by decide) (fun h_186 => ?_) (fun h_186 => ?_)
              · have hf : J 173 (J1 164 35) = z_63 := hd_63 (by omega)
                refine tz_aload_n (pc := 268) dX12_go_268 rfl rfl ?_
                refine tz_dup (pc := 269) dX12_go_269 rfl ?_
                refine tz_fI (pc := 270) (kz := 35) (v := (J1 164 35)) dX12_go_270 fl_X12_243 i_164_35 rfl rfl (fun r_270 => ?_)
                refine tz_iconst (pc := 273) dX12_go_273 ?_
                refine tz_iadd (pc := 274) (v := (J1 164 35) + 1) dX12_go_274 rfl ?_
                refine tz_pI (pc := 275) (kz := 35) dX12_go_275 fl_X12_243 i_164_35 rfl rfl (by omega) ?_
                refine tz_aload_n (pc := 278) dX12_go_278 rfl rfl ?_
                refine tz_aload_n (pc := 279) dX12_go_279 rfl rfl ?_
                refine tz_iload_n (pc := 280) dX12_go_280 rfl rfl ?_
                refine tz_cV (pc := 281) (x_isSgn hl n _ _ (by omega)) vl_X12_270 dX12_go_281 o_164 rfl rfl (Nat.le_of_ble_eq_true rfl) ⟨(Nat.le_of_ble_eq_true rfl), (Nat.le_of_ble_eq_true rfl)⟩ rfl rfl (Nat.le_of_ble_eq_true rfl) (Nat.le_of_ble_eq_true rfl) (fun r9 J_281 hq9 => ?_)
                obtain ⟨z_281, rfl, hz_281, rfl, hg⟩ := hq9
                refine tz_if_eq (pc := 284) (tgt := 291) dX12_go_284 (by decide) (by omega) (fun h_284 => ?_) (fun h_284 => ?_)
                · refine tz_iconst (pc := 291) dX12_go_291 ?_
                  have hk1 : kdB (J 173 (J1 164 35)) = 1 := by rw [hf]; exact kd1 (by omega) (by omega) (by omega)
                  refine tz_pI (pc := 292) (kz := 38) dX12_go_292 fl_X12_261 i_164_38 rfl rfl (by decide) ?_
                  refine tz_aload_n (pc := 295) dX12_go_295 rfl rfl ?_
                  refine tz_aload_n (pc := 296) dX12_go_296 rfl rfl ?_
                  refine tz_fI (pc := 297) (kz := 38) (v := 4) dX12_go_297 fl_X12_261 i_164_38 rfl rfl (fun _ => ?_)
                  refine tz_iconst (pc := 300) dX12_go_300 ?_
                  refine tz_icmp_neT (pc := 301) (tgt := 308) (by decide) dX12_go_301 (by decide) (by decide) (by decide) ?_
                  refine tz_iconst (pc := 308) dX12_go_308 ?_
                  refine tz_pI (pc := 309) (kz := 42) dX12_go_309 fl_X12_258 i_164_42 rfl rfl (by decide) ?_
                  exact tz_vret (pc := 312) dX12_go_312 rfl (Nat.le_of_ble_eq_true rfl) (Nat.le_of_ble_eq_true rfl) ⟨Nat.le_refl _, Nat.le_add_right _ _⟩ ⟨rfl, ⟨(RGo.up (k := 42) (RGo.up (k := 38) (RGo.up (k := 35) (RGo.up (k := 42) (RGo.up (k := 39) (RGo.up (k := 41) (RGo.up (k := 40) (RGo.up (k := 36) f1 rfl) rfl) rfl) rfl) rfl) rfl) rfl) rfl), Eq.trans (show ((zup (zup (zup (zup (zup (zup (zup (zup J1 164 36 (J1 164 35)) 164 40 (-1)) 164 41 0) 164 39 0) 164 42 0) 164 35 ((J1 164 35) + 1)) 164 38 4) 164 42 0) : zJ) 164 36 = (J1 164 35) from rfl) hS.symm, Eq.trans (show ((zup (zup (zup (zup (zup (zup (zup (zup J1 164 36 (J1 164 35)) 164 40 (-1)) 164 41 0) 164 39 0) 164 42 0) 164 35 ((J1 164 35) + 1)) 164 38 4) 164 42 0) : zJ) 164 35 = ((J1 164 35) + 1) from rfl) (Eq.symm (tkE_1 hS (by omega) hk1 (by decide))), Or.inr (Or.inr (Or.inr (Or.inl ⟨(tkK_1 hS (by omega)).trans hk1, (Eq.trans (show ((zup (zup (zup (zup (zup (zup (zup (zup J1 164 36 (J1 164 35)) 164 40 (-1)) 164 41 0) 164 39 0) 164 42 0) 164 35 ((J1 164 35) + 1)) 164 38 4) 164 42 0) : zJ) 164 38 = 4 from rfl) (by omega)), (Eq.trans (show ((zup (zup (zup (zup (zup (zup (zup (zup J1 164 36 (J1 164 35)) 164 40 (-1)) 164 41 0) 164 39 0) 164 42 0) 164 35 ((J1 164 35) + 1)) 164 38 4) 164 42 0) : zJ) 164 42 = 0 from rfl) (by omega)), (Eq.trans (show ((zup (zup (zup (zup (zup (zup (zup (zup J1 164 36 (J1 164 35)) 164 40 (-1)) 164 41 0) 164 39 0) 164 42 0) 164 35 ((J1 164 35) + 1)) 164 38 4) 164 42 0) : zJ) 164 41 = 0 from rfl) (by omega)), (Eq.trans (show ((zup (zup (zup (zup (zup (zup (zup (zup J1 164 36 (J1 164 35)) 164 40 (-1)) 164 41 0) 164 39 0) 164 42 0) 164 35 ((J1 164 35) + 1)) 164 38 4) 164 42 0) : zJ) 164 40 = (-1) from rfl) (by omega))⟩)))⟩⟩
                · refine tz_iconst (pc := 287) dX12_go_287 ?_
                  refine tz_goto (pc := 288) (tgt := 292) dX12_go_288 (by decide) ?_
                  have hks : kdB (J 173 (J1 164 35)) = z_63 := by rw [hf]; exact kds (by omega)
                  refine tz_pI (pc := 292) (kz := 38) dX12_go_292 fl_X12_261 i_164_38 rfl rfl (by decide) ?_
                  refine tz_aload_n (pc := 295) dX12_go_295 rfl rfl ?_
                  refine tz_aload_n (pc := 296) dX12_go_296 rfl rfl ?_
                  refine tz_fI (pc := 297) (kz := 38) (v := 3) dX12_go_297 fl_X12_261 i_164_38 rfl rfl (fun _ => ?_)
                  refine tz_iconst (pc := 300) dX12_go_300 ?_
                  refine tz_icmp_neF (pc := 301) (tgt := 308) (by decide) dX12_go_301 (by decide) (by decide) (by decide) ?_
                  refine tz_iload_n (pc := 304) dX12_go_304 rfl rfl ?_
                  refine tz_goto (pc := 305) (tgt := 309) dX12_go_305 (by decide) ?_
                  refine tz_pI (pc := 309) (kz := 42) dX12_go_309 fl_X12_258 i_164_42 rfl rfl (by omega) ?_
                  exact tz_vret (pc := 312) dX12_go_312 rfl (Nat.le_of_ble_eq_true rfl) (Nat.le_of_ble_eq_true rfl) ⟨Nat.le_refl _, Nat.le_add_right _ _⟩ ⟨rfl, ⟨(RGo.up (k := 42) (RGo.up (k := 38) (RGo.up (k := 35) (RGo.up (k := 42) (RGo.up (k := 39) (RGo.up (k := 41) (RGo.up (k := 40) (RGo.up (k := 36) f1 rfl) rfl) rfl) rfl) rfl) rfl) rfl) rfl), Eq.trans (show ((zup (zup (zup (zup (zup (zup (zup (zup J1 164 36 (J1 164 35)) 164 40 (-1)) 164 41 0) 164 39 0) 164 42 0) 164 35 ((J1 164 35) + 1)) 164 38 3) 164 42 z_63) : zJ) 164 36 = (J1 164 35) from rfl) hS.symm, Eq.trans (show ((zup (zup (zup (zup (zup (zup (zup (zup J1 164 36 (J1 164 35)) 164 40 (-1)) 164 41 0) 164 39 0) 164 42 0) 164 35 ((J1 164 35) + 1)) 164 38 3) 164 42 z_63) : zJ) 164 35 = ((J1 164 35) + 1) from rfl) (Eq.symm (tkE_1 hS (by omega) hks (by omega))), Or.inr (Or.inr (Or.inr (Or.inr ⟨(by rw [tkK_1 hS (by omega), hks]; omega), (Eq.trans (show ((zup (zup (zup (zup (zup (zup (zup (zup J1 164 36 (J1 164 35)) 164 40 (-1)) 164 41 0) 164 39 0) 164 42 0) 164 35 ((J1 164 35) + 1)) 164 38 3) 164 42 z_63) : zJ) 164 38 = 3 from rfl) (by omega)), (Eq.trans (show ((zup (zup (zup (zup (zup (zup (zup (zup J1 164 36 (J1 164 35)) 164 40 (-1)) 164 41 0) 164 39 0) 164 42 0) 164 35 ((J1 164 35) + 1)) 164 38 3) 164 42 z_63) : zJ) 164 42 = z_63 from rfl) (by rw [tkK_1 hS (by omega), hks])), (Eq.trans (show ((zup (zup (zup (zup (zup (zup (zup (zup J1 164 36 (J1 164 35)) 164 40 (-1)) 164 41 0) 164 39 0) 164 42 0) 164 35 ((J1 164 35) + 1)) 164 38 3) 164 42 z_63) : zJ) 164 41 = 0 from rfl) (by omega)), (Eq.trans (show ((zup (zup (zup (zup (zup (zup (zup (zup J1 164 36 (J1 164 35)) 164 40 (-1)) 164 41 0) 164 39 0) 164 42 0) 164 35 ((J1 164 35) + 1)) 164 38 3) 164 42 z_63) : zJ) 164 40 = (-1) from rfl) (by omega))⟩)))⟩⟩
              · have loop189 : ∀ (f9 : Nat) (J3 : zJ), ((J 164 37 - J3 164 35).toNat) < f9 → (RGo J3 J) → (J1 164 35 ≤ J3 164 35 ∧ J3 164 35 ≤ J 164 37) → (∀ q, J1 164 35 ≤ q → q < J3 164 35 → 48 ≤ J 173 q ∧ J 173 q ≤ 57) → (J3 164 36 = J1 164 35) → (J3 164 42 = 0 ∧ J3 164 41 = 0 ∧ J3 164 40 = -1) → ((J3 164 35 = J1 164 35 ∧ J3 164 39 = 0) ∨ (J3 164 35 = J1 164 35 + 1 ∧ J3 164 39 = J 173 (J1 164 35) - 48) ∨ (J1 164 35 + 1 < J3 164 35 ∧ J3 164 39 = 999)) → tz_At l G M_X12_go (tb_rm 2 0 0) none (tb_ZM G 0 0 (zQ n 0 (zqv (fun J' => RGo J' J ∧ TKM J' (J 173) (tkS (J 173) (J 164 37) (J 164 35)) (tkK (J 173) (J 164 37) (J 164 35)) (tkE (J 173) (J 164 37) (J 164 35))))) (zX n 0 zN)) 0 0 n J3 189 [some (.ref 164), some (zi z_63)] [] := by
                  intro f9
                  induction f9 with
                  | zero => intro J3 hm9; exact absurd hm9 (Nat.not_lt_zero _)
                  | succ f9 ih189 =>
                    intro J3 hm189 f3 le3 al3 pl3 sg3 vl3
                    refine tz_aload_n (pc := 189) dX12_go_189 rfl rfl ?_
                    refine tz_aload_n (pc := 190) dX12_go_190 rfl rfl ?_
                    refine tz_fI (pc := 191) (kz := 35) (v := (J3 164 35)) dX12_go_191 fl_X12_243 i_164_35 rfl rfl (fun r_191 => ?_)
                    refine tz_cV (pc := 194) (m_byteAt hl n _ _ (by omega) (by omega) (by rw [(show (J3 : zJ) 164 37 = (J 164 37) from (Eq.trans (f3.2 37 rfl) rfl))]; omega)) vl_X12_240 dX12_go_194 o_164 rfl rfl (Nat.le_of_ble_eq_true rfl) ⟨(Nat.le_of_ble_eq_true rfl), (Nat.le_of_ble_eq_true rfl)⟩ rfl rfl (Nat.le_of_ble_eq_true rfl) (Nat.le_of_ble_eq_true rfl) (fun r9 J_194 hq9 => ?_)
                    obtain ⟨z_194, rfl, hz_194, rfl, hb_194, hc_194⟩ := hq9
                    rw [(show (J3 : zJ) 164 37 = (J 164 37) from (Eq.trans (f3.2 37 rfl) rfl))] at hb_194 hc_194
                    have hd_194 : (J3 164 35) < J 164 37 → J 173 (J3 164 35) = z_194 := fun q9 => by have q8 := hc_194 q9; rw [show (J3 : zJ) 173 = J 173 from f3.1 173 rfl] at q8; exact q8
                    refine tz_bipush (pc := 197) dX12_go_197 (by decide) ?_
                    refine tz_icmp_lt (pc := 199) (tgt := 260) dX12_go_199 (by decide) (by omega) (by decide) (fun h_199 => ?_) (fun h_199 => ?_)
                    · have hf : J 173 (J1 164 35) = z_63 := hd_63 (by omega)
                      have hk3 : kdB (J 173 (J1 164 35)) = 3 := by rw [hf]; exact kd3 (by omega)
                      have lt9 : J1 164 35 < J3 164 35 := by
                        rcases Int.lt_or_eq_of_le le3.1 with e9 | e9
                        · exact e9
                        · exfalso; have e1 := hd_194 (by omega); rw [← e9] at e1; first | omega | (have e2 := hd_207 (by omega); rw [← e9] at e2; omega)
                      have hE3 : tkE (J 173) (J 164 37) (J 164 35) = J3 164 35 := tkE_2 hS (by omega) hk3 (Or.inr rfl) (by omega) le3.2 (fun q x y => kd3 (al3 q (by omega) y)) (by
                        rcases Int.lt_or_eq_of_le le3.2 with e9 | e9
                        · refine Or.inr ?_
                          first | (rw [hd_207 e9]; exact kd3' (by omega)) | (rw [hd_194 e9]; exact kd3' (by omega))
                        · exact Or.inl e9)
                      refine tz_aload_n (pc := 260) dX12_go_260 rfl rfl ?_
                      refine tz_iconst (pc := 261) dX12_go_261 ?_
                      refine tz_pI (pc := 262) (kz := 38) dX12_go_262 fl_X12_261 i_164_38 rfl rfl (by decide) ?_
                      refine tz_goto (pc := 265) (tgt := 312) dX12_go_265 (by decide) ?_
                      exact tz_vret (pc := 312) dX12_go_312 rfl (Nat.le_of_ble_eq_true rfl) (Nat.le_of_ble_eq_true rfl) ⟨Nat.le_refl _, Nat.le_add_right _ _⟩ ⟨rfl, ⟨(RGo.up (k := 38) f3 rfl), Eq.trans (show ((zup J3 164 38 2) : zJ) 164 36 = (J3 164 36) from rfl) (by rw [hS]; omega), Eq.trans (show ((zup J3 164 38 2) : zJ) 164 35 = (J3 164 35) from rfl) (Eq.symm hE3), Or.inr (Or.inr (Or.inl ⟨(tkK_1 hS (by omega)).trans hk3, (Eq.trans (show ((zup J3 164 38 2) : zJ) 164 38 = 2 from rfl) (by omega)), (Eq.trans (show ((zup J3 164 38 2) : zJ) 164 42 = (J3 164 42) from rfl) (by omega)), (Eq.trans (show ((zup J3 164 38 2) : zJ) 164 41 = (J3 164 41) from rfl) (by omega)), (Eq.trans (show ((zup J3 164 38 2) : zJ) 164 40 = (J3 164 40) from rfl) (by omega)), (by rw [(show ((zup J3 164 38 2) : zJ) 164 39 = (J3 164 39) from rfl), hE3, hS]; omega)⟩))⟩⟩
                    · refine tz_aload_n (pc := 202) dX12_go_202 rfl rfl ?_
                      refine tz_aload_n (pc := 203) dX12_go_203 rfl rfl ?_
                      refine tz_fI (pc := 204) (kz := 35) (v := (J3 164 35)) dX12_go_204 fl_X12_243 i_164_35 rfl rfl (fun r_204 => ?_)
                      refine tz_cV (pc := 207) (m_byteAt hl n _ _ (by omega) (by omega) (by rw [(show (J3 : zJ) 164 37 = (J 164 37) from (Eq.trans (f3.2 37 rfl) rfl))]; omega)) vl_X12_240 dX12_go_207 o_164 rfl rfl (Nat.le_of_ble_eq_true rfl) ⟨(Nat.le_of_ble_eq_true rfl), (Nat.le_of_ble_eq_true rfl)⟩ rfl rfl (Nat.le_of_ble_eq_true rfl) (Nat.le_of_ble_eq_true rfl) (fun r9 J_207 hq9 => ?_)
                      obtain ⟨z_207, rfl, hz_207, rfl, hb_207, hc_207⟩ := hq9
                      rw [(show (J3 : zJ) 164 37 = (J 164 37) from (Eq.trans (f3.2 37 rfl) rfl))] at hb_207 hc_207
                      have hd_207 : (J3 164 35) < J 164 37 → J 173 (J3 164 35) = z_207 := fun q9 => by have q8 := hc_207 q9; rw [show (J3 : zJ) 173 = J 173 from f3.1 173 rfl] at q8; exact q8
                      refine tz_bipush (pc := 210) dX12_go_210 (by decide) ?_
                      refine tz_icmp_gt (pc := 212) (tgt := 260) dX12_go_212 (by decide) (by omega) (by decide) (fun h_212 => ?_) (fun h_212 => ?_)
                      · have hf : J 173 (J1 164 35) = z_63 := hd_63 (by omega)
                        have hk3 : kdB (J 173 (J1 164 35)) = 3 := by rw [hf]; exact kd3 (by omega)
                        have lt9 : J1 164 35 < J3 164 35 := by
                          rcases Int.lt_or_eq_of_le le3.1 with e9 | e9
                          · exact e9
                          · exfalso; have e1 := hd_194 (by omega); rw [← e9] at e1; first | omega | (have e2 := hd_207 (by omega); rw [← e9] at e2; omega)
                        have hE3 : tkE (J 173) (J 164 37) (J 164 35) = J3 164 35 := tkE_2 hS (by omega) hk3 (Or.inr rfl) (by omega) le3.2 (fun q x y => kd3 (al3 q (by omega) y)) (by
                          rcases Int.lt_or_eq_of_le le3.2 with e9 | e9
                          · refine Or.inr ?_
                            first | (rw [hd_207 e9]; exact kd3' (by omega)) | (rw [hd_194 e9]; exact kd3' (by omega))
                          · exact Or.inl e9)
                        refine tz_aload_n (pc := 260) dX12_go_260 rfl rfl ?_
                        refine tz_iconst (pc := 261) dX12_go_261 ?_
                        refine tz_pI (pc := 262) (kz := 38) dX12_go_262 fl_X12_261 i_164_38 rfl rfl (by decide) ?_
                        refine tz_goto (pc := 265) (tgt := 312) dX12_go_265 (by decide) ?_
                        exact tz_vret (pc := 312) dX12_go_312 rfl (Nat.le_of_ble_eq_true rfl) (Nat.le_of_ble_eq_true rfl) ⟨Nat.le_refl _, Nat.le_add_right _ _⟩ ⟨rfl, ⟨(RGo.up (k := 38) f3 rfl), Eq.trans (show ((zup J3 164 38 2) : zJ) 164 36 = (J3 164 36) from rfl) (by rw [hS]; omega), Eq.trans (show ((zup J3 164 38 2) : zJ) 164 35 = (J3 164 35) from rfl) (Eq.symm hE3), Or.inr (Or.inr (Or.inl ⟨(tkK_1 hS (by omega)).trans hk3, (Eq.trans (show ((zup J3 164 38 2) : zJ) 164 38 = 2 from rfl) (by omega)), (Eq.trans (show ((zup J3 164 38 2) : zJ) 164 42 = (J3 164 42) from rfl) (by omega)), (Eq.trans (show ((zup J3 164 38 2) : zJ) 164 41 = (J3 164 41) from rfl) (by omega)), (Eq.trans (show ((zup J3 164 38 2) : zJ) 164 40 = (J3 164 40) from rfl) (by omega)), (by rw [(show ((zup J3 164 38 2) : zJ) 164 39 = (J3 164 39) from rfl), hE3, hS]; omega)⟩))⟩⟩
                      · refine tz_aload_n (pc := 215) dX12_go_215 rfl rfl ?_
                        refine tz_aload_n (pc := 216) dX12_go_216 rfl rfl ?_
                        refine tz_fI (pc := 217) (kz := 35) (v := (J3 164 35)) dX12_go_217 fl_X12_243 i_164_35 rfl rfl (fun r_217 => ?_)
                        refine tz_aload_n (pc := 220) dX12_go_220 rfl rfl ?_
                        refine tz_fI (pc := 221) (kz := 36) (v := (J3 164 36)) dX12_go_221 fl_X12_246 i_164_36 rfl rfl (fun r_221 => ?_)
                        refine tz_icmp_ne (pc := 224) (tgt := 241) dX12_go_224 (by decide) (by omega) (by omega) (fun h_224 => ?_) (fun h_224 => ?_)
                        · refine tz_sipush (pc := 241) dX12_go_241 (by decide) ?_
                          refine tz_pI (pc := 244) (kz := 39) dX12_go_244 fl_X12_255 i_164_39 rfl rfl (by decide) ?_
                          refine tz_aload_n (pc := 247) dX12_go_247 rfl rfl ?_
                          refine tz_dup (pc := 248) dX12_go_248 rfl ?_
                          refine tz_fI (pc := 249) (kz := 35) (v := (J3 164 35)) dX12_go_249 fl_X12_243 i_164_35 rfl rfl (fun r_249 => ?_)
                          refine tz_iconst (pc := 252) dX12_go_252 ?_
                          refine tz_iadd (pc := 253) (v := (J3 164 35) + 1) dX12_go_253 rfl ?_
                          refine tz_pI (pc := 254) (kz := 35) dX12_go_254 fl_X12_243 i_164_35 rfl rfl (by omega) ?_
                          refine tz_goto (pc := 257) (tgt := 189) dX12_go_257 (by decide) ?_
                          exact ih189 _ (by rw [(show ((zup (zup J3 164 39 999) 164 35 ((J3 164 35) + 1)) : zJ) 164 35 = ((J3 164 35) + 1) from rfl)]; omega) (RGo.up (k := 35) (RGo.up (k := 39) f3 rfl) rfl) (by rw [(show ((zup (zup J3 164 39 999) 164 35 ((J3 164 35) + 1)) : zJ) 164 35 = ((J3 164 35) + 1) from rfl)]; exact ⟨by omega, by omega⟩) (fun q x y => by rw [(show ((zup (zup J3 164 39 999) 164 35 ((J3 164 35) + 1)) : zJ) 164 35 = ((J3 164 35) + 1) from rfl)] at y; exact (Decidable.em (q = J3 164 35)).elim (fun e => by rw [e]; omega) (fun e => al3 q x (by omega))) (Eq.trans (show ((zup (zup J3 164 39 999) 164 35 ((J3 164 35) + 1)) : zJ) 164 36 = (J3 164 36) from rfl) (by omega)) ⟨Eq.trans (show ((zup (zup J3 164 39 999) 164 35 ((J3 164 35) + 1)) : zJ) 164 42 = (J3 164 42) from rfl) (by omega), Eq.trans (show ((zup (zup J3 164 39 999) 164 35 ((J3 164 35) + 1)) : zJ) 164 41 = (J3 164 41) from rfl) (by omega), Eq.trans (show ((zup (zup J3 164 39 999) 164 35 ((J3 164 35) + 1)) : zJ) 164 40 = (J3 164 40) from rfl) (by omega)⟩ (by rw [(show ((zup (zup J3 164 39 999) 164 35 ((J3 164 35) + 1)) : zJ) 164 35 = ((J3 164 35) + 1) from rfl), (show ((zup (zup J3 164 39 999) 164 35 ((J3 164 35) + 1)) : zJ) 164 39 = 999 from rfl)]; rcases vl3 with e9 | e9 | e9 <;> first | (exact Or.inr (Or.inl ⟨by omega, by have q7 := hd_232 (by omega); rw [e9.1] at q7; omega⟩)) | exact Or.inr (Or.inr ⟨by omega, by omega⟩))
                        · refine tz_aload_n (pc := 227) dX12_go_227 rfl rfl ?_
                          refine tz_aload_n (pc := 228) dX12_go_228 rfl rfl ?_
                          refine tz_fI (pc := 229) (kz := 35) (v := (J3 164 35)) dX12_go_229 fl_X12_243 i_164_35 rfl rfl (fun r_229 => ?_)
                          refine tz_cV (pc := 232) (m_byteAt hl n _ _ (by omega) (by omega) (by rw [(show (J3 : zJ) 164 37 = (J 164 37) from (Eq.trans (f3.2 37 rfl) rfl))]; omega)) vl_X12_240 dX12_go_232 o_164 rfl rfl (Nat.le_of_ble_eq_true rfl) ⟨(Nat.le_of_ble_eq_true rfl), (Nat.le_of_ble_eq_true rfl)⟩ rfl rfl (Nat.le_of_ble_eq_true rfl) (Nat.le_of_ble_eq_true rfl) (fun r9 J_232 hq9 => ?_)
                          obtain ⟨z_232, rfl, hz_232, rfl, hb_232, hc_232⟩ := hq9
                          rw [(show (J3 : zJ) 164 37 = (J 164 37) from (Eq.trans (f3.2 37 rfl) rfl))] at hb_232 hc_232
                          have hd_232 : (J3 164 35) < J 164 37 → J 173 (J3 164 35) = z_232 := fun q9 => by have q8 := hc_232 q9; rw [show (J3 : zJ) 173 = J 173 from f3.1 173 rfl] at q8; exact q8
                          refine tz_bipush (pc := 235) dX12_go_235 (by decide) ?_
                          refine tz_isub (pc := 237) (v := z_232 - 48) dX12_go_237 rfl ?_
                          refine tz_goto (pc := 238) (tgt := 244) dX12_go_238 (by decide) ?_
                          refine tz_pI (pc := 244) (kz := 39) dX12_go_244 fl_X12_255 i_164_39 rfl rfl (by omega) ?_
                          refine tz_aload_n (pc := 247) dX12_go_247 rfl rfl ?_
                          refine tz_dup (pc := 248) dX12_go_248 rfl ?_
                          refine tz_fI (pc := 249) (kz := 35) (v := (J3 164 35)) dX12_go_249 fl_X12_243 i_164_35 rfl rfl (fun r_249 => ?_)
                          refine tz_iconst (pc := 252) dX12_go_252 ?_
                          refine tz_iadd (pc := 253) (v := (J3 164 35) + 1) dX12_go_253 rfl ?_
                          refine tz_pI (pc := 254) (kz := 35) dX12_go_254 fl_X12_243 i_164_35 rfl rfl (by omega) ?_
                          refine tz_goto (pc := 257) (tgt := 189) dX12_go_257 (by decide) ?_
                          exact ih189 _ (by rw [(show ((zup (zup J3 164 39 (z_232 - 48)) 164 35 ((J3 164 35) + 1)) : zJ) 164 35 = ((J3 164 35) + 1) from rfl)]; omega) (RGo.up (k := 35) (RGo.up (k := 39) f3 rfl) rfl) (by rw [(show ((zup (zup J3 164 39 (z_232 - 48)) 164 35 ((J3 164 35) + 1)) : zJ) 164 35 = ((J3 164 35) + 1) from rfl)]; exact ⟨by omega, by omega⟩) (fun q x y => by rw [(show ((zup (zup J3 164 39 (z_232 - 48)) 164 35 ((J3 164 35) + 1)) : zJ) 164 35 = ((J3 164 35) + 1) from rfl)] at y; exact (Decidable.em (q = J3 164 35)).elim (fun e => by rw [e]; omega) (fun e => al3 q x (by omega))) (Eq.trans (show ((zup (zup J3 164 39 (z_232 - 48)) 164 35 ((J3 164 35) + 1)) : zJ) 164 36 = (J3 164 36) from rfl) (by omega)) ⟨Eq.trans (show ((zup (zup J3 164 39 (z_232 - 48)) 164 35 ((J3 164 35) + 1)) : zJ) 164 42 = (J3 164 42) from rfl) (by omega), Eq.trans (show ((zup (zup J3 164 39 (z_232 - 48)) 164 35 ((J3 164 35) + 1)) : zJ) 164 41 = (J3 164 41) from rfl) (by omega), Eq.trans (show ((zup (zup J3 164 39 (z_232 - 48)) 164 35 ((J3 164 35) + 1)) : zJ) 164 40 = (J3 164 40) from rfl) (by omega)⟩ (by rw [(show ((zup (zup J3 164 39 (z_232 - 48)) 164 35 ((J3 164 35) + 1)) : zJ) 164 35 = ((J3 164 35) + 1) from rfl), (show ((zup (zup J3 164 39 (z_232 - 48)) 164 35 ((J3 164 35) + 1)) : zJ) 164 39 = (z_232 - 48) from rfl)]; rcases vl3 with e9 | e9 | e9 <;> first | (exact Or.inr (Or.inl ⟨by omega, by have q7 := hd_232 (by omega); rw [e9.1] at q7; omega⟩)) | exact Or.inr (Or.inr ⟨by omega, by omega⟩))
                exact loop189 _ _ (Nat.lt_succ_self _) (RGo.up (k := 42) (RGo.up (k := 39) (RGo.up (k := 41) (RGo.up (k := 40) (RGo.up (k := 36) f1 rfl) rfl) rfl) rfl) rfl) (by rw [(show ((zup (zup (zup (zup (zup J1 164 36 (J1 164 35)) 164 40 (-1)) 164 41 0) 164 39 0) 164 42 0) : zJ) 164 35 = (J1 164 35) from rfl)]; exact ⟨by omega, by omega⟩) (fun q x y => by rw [(show ((zup (zup (zup (zup (zup J1 164 36 (J1 164 35)) 164 40 (-1)) 164 41 0) 164 39 0) 164 42 0) : zJ) 164 35 = (J1 164 35) from rfl)] at y; omega) (Eq.trans (show ((zup (zup (zup (zup (zup J1 164 36 (J1 164 35)) 164 40 (-1)) 164 41 0) 164 39 0) 164 42 0) : zJ) 164 36 = (J1 164 35) from rfl) (by omega)) ⟨Eq.trans (show ((zup (zup (zup (zup (zup J1 164 36 (J1 164 35)) 164 40 (-1)) 164 41 0) 164 39 0) 164 42 0) : zJ) 164 42 = 0 from rfl) (by omega), Eq.trans (show ((zup (zup (zup (zup (zup J1 164 36 (J1 164 35)) 164 40 (-1)) 164 41 0) 164 39 0) 164 42 0) : zJ) 164 41 = 0 from rfl) (by omega), Eq.trans (show ((zup (zup (zup (zup (zup J1 164 36 (J1 164 35)) 164 40 (-1)) 164 41 0) 164 39 0) 164 42 0) : zJ) 164 40 = (-1) from rfl) (by omega)⟩ (by rw [(show ((zup (zup (zup (zup (zup J1 164 36 (J1 164 35)) 164 40 (-1)) 164 41 0) 164 39 0) 164 42 0) : zJ) 164 35 = (J1 164 35) from rfl), (show ((zup (zup (zup (zup (zup J1 164 36 (J1 164 35)) 164 40 (-1)) 164 41 0) 164 39 0) 164 42 0) : zJ) 164 39 = 0 from rfl)]; omega)
          · have loop113 : ∀ (f9 : Nat) (J2 : zJ), ((J 164 37 - J2 164 35).toNat) < f9 → (RGo J2 J) → (J1 164 35 ≤ J2 164 35 ∧ J2 164 35 ≤ J 164 37) → (∀ q, J1 164 35 ≤ q → q < J2 164 35 → 97 ≤ J 173 q ∧ J 173 q ≤ 122) → (J2 164 36 = J1 164 35) → (J2 164 42 = 0 ∧ J2 164 41 = 0 ∧ J2 164 40 = -1) → tz_At l G M_X12_go (tb_rm 2 0 0) none (tb_ZM G 0 0 (zQ n 0 (zqv (fun J' => RGo J' J ∧ TKM J' (J 173) (tkS (J 173) (J 164 37) (J 164 35)) (tkK (J 173) (J 164 37) (J 164 35)) (tkE (J 173) (J 164 37) (J 164 35))))) (zX n 0 zN)) 0 0 n J2 113 [some (.ref 164), some (zi z_63)] [] := by
              intro f9
              induction f9 with
              | zero => intro J2 hm9; exact absurd hm9 (Nat.not_lt_zero _)
              | succ f9 ih113 =>
                intro J2 hm113 f2 le2 al2 pl2 sg2
                refine tz_aload_n (pc := 113) dX12_go_113 rfl rfl ?_
                refine tz_aload_n (pc := 114) dX12_go_114 rfl rfl ?_
                refine tz_fI (pc := 115) (kz := 35) (v := (J2 164 35)) dX12_go_115 fl_X12_243 i_164_35 rfl rfl (fun r_115 => ?_)
                refine tz_cV (pc := 118) (m_byteAt hl n _ _ (by omega) (by omega) (by rw [(show (J2 : zJ) 164 37 = (J 164 37) from (Eq.trans (f2.2 37 rfl) rfl))]; omega)) vl_X12_240 dX12_go_118 o_164 rfl rfl (Nat.le_of_ble_eq_true rfl) ⟨(Nat.le_of_ble_eq_true rfl), (Nat.le_of_ble_eq_true rfl)⟩ rfl rfl (Nat.le_of_ble_eq_true rfl) (Nat.le_of_ble_eq_true rfl) (fun r9 J_118 hq9 => ?_)
                obtain ⟨z_118, rfl, hz_118, rfl, hb_118, hc_118⟩ := hq9
                rw [(show (J2 : zJ) 164 37 = (J 164 37) from (Eq.trans (f2.2 37 rfl) rfl))] at hb_118 hc_118
                have hd_118 : (J2 164 35) < J 164 37 → J 173 (J2 164 35) = z_118 := fun q9 => by have q8 := hc_118 q9; rw [show (J2 : zJ) 173 = J 173 from f2.1 173 rfl] at q8; exact q8
                refine tz_cS (pc := 121) (m_isLet hl n _ _ (by omega)) sl_X12_264 dX12_go_121 rfl rfl (Nat.le_of_ble_eq_true rfl) ⟨(Nat.le_of_ble_eq_true rfl), (Nat.le_of_ble_eq_true rfl)⟩ rfl rfl (Nat.le_of_ble_eq_true rfl) (Nat.le_of_ble_eq_true rfl) (fun r9 J_121 hq9 => ?_)
                obtain ⟨z_121, rfl, hz_121, rfl, hl_121⟩ := hq9
                refine tz_if_eq (pc := 124) (tgt := 140) dX12_go_124 (by decide) (by omega) (fun h_124 => ?_) (fun h_124 => ?_)
                · have hf : J 173 (J1 164 35) = z_63 := hd_63 (by omega)
                  have hk2 : kdB (J 173 (J1 164 35)) = 2 := by rw [hf]; exact kd2 (by omega)
                  have lt9 : J1 164 35 < J2 164 35 := by
                    rcases Int.lt_or_eq_of_le le2.1 with e9 | e9
                    · exact e9
                    · exfalso; have e1 := hd_118 (by omega); rw [← e9] at e1; omega
                  have hE2 : tkE (J 173) (J 164 37) (J 164 35) = J2 164 35 := tkE_2 hS (by omega) hk2 (Or.inl rfl) (by omega) le2.2 (fun q x y => kd2 (al2 q (by omega) y)) (by
                    rcases Int.lt_or_eq_of_le le2.2 with e9 | e9
                    · refine Or.inr ?_
                      rw [hd_118 e9]
                      exact kd2' (by omega)
                    · exact Or.inl e9)
                  refine tz_aload_n (pc := 140) dX12_go_140 rfl rfl ?_
                  refine tz_iconst (pc := 141) dX12_go_141 ?_
                  refine tz_pI (pc := 142) (kz := 38) dX12_go_142 fl_X12_261 i_164_38 rfl rfl (by decide) ?_
                  refine tz_aload_n (pc := 145) dX12_go_145 rfl rfl ?_
                  refine tz_aload_n (pc := 146) dX12_go_146 rfl rfl ?_
                  refine tz_fI (pc := 147) (kz := 35) (v := (J2 164 35)) dX12_go_147 fl_X12_243 i_164_35 rfl rfl (fun r_147 => ?_)
                  refine tz_aload_n (pc := 150) dX12_go_150 rfl rfl ?_
                  refine tz_fI (pc := 151) (kz := 36) (v := (J2 164 36)) dX12_go_151 fl_X12_246 i_164_36 rfl rfl (fun r_151 => ?_)
                  refine tz_isub (pc := 154) (v := (J2 164 35) - (J2 164 36)) dX12_go_154 rfl ?_
                  refine tz_pI (pc := 155) (kz := 41) dX12_go_155 fl_X12_252 i_164_41 rfl rfl (by omega) ?_
                  refine tz_aload_n (pc := 158) dX12_go_158 rfl rfl ?_
                  refine tz_aload_n (pc := 159) dX12_go_159 rfl rfl ?_
                  refine tz_aload_n (pc := 160) dX12_go_160 rfl rfl ?_
                  refine tz_fI (pc := 161) (kz := 36) (v := (J2 164 36)) dX12_go_161 fl_X12_246 i_164_36 rfl rfl (fun r_161 => ?_)
                  refine tz_aload_n (pc := 164) dX12_go_164 rfl rfl ?_
                  refine tz_fI (pc := 165) (kz := 35) (v := (J2 164 35)) dX12_go_165 fl_X12_243 i_164_35 rfl rfl (fun r_165 => ?_)
                  refine tz_cV (pc := 168) (x_wordFrom hl n _ _ _ (by omega) (by omega) (by omega) (by rw [(show ((zup (zup J2 164 38 1) 164 41 ((J2 164 35) - (J2 164 36))) : zJ) 164 37 = (J 164 37) from (Eq.trans (f2.2 37 rfl) rfl))]; omega) (by rw [(show ((zup (zup J2 164 38 1) 164 41 ((J2 164 35) - (J2 164 36))) : zJ) 164 37 = (J 164 37) from (Eq.trans (f2.2 37 rfl) rfl))]; omega)) vl_X12_267 dX12_go_168 o_164 rfl rfl (Nat.le_of_ble_eq_true rfl) ⟨(Nat.le_of_ble_eq_true rfl), (Nat.le_of_ble_eq_true rfl)⟩ rfl rfl (Nat.le_of_ble_eq_true rfl) (Nat.le_of_ble_eq_true rfl) (fun r9 J_168 hq9 => ?_)
                  obtain ⟨z_168, rfl, hz_168, rfl, hw⟩ := hq9
                  rw [show ((zup (zup J2 164 38 1) 164 41 ((J2 164 35) - (J2 164 36))) : zJ) 173 = J 173 from f2.1 173 rfl, pl2] at hw
                  refine tz_pI (pc := 171) (kz := 40) dX12_go_171 fl_X12_249 i_164_40 rfl rfl (by omega) ?_
                  refine tz_goto (pc := 174) (tgt := 312) dX12_go_174 (by decide) ?_
                  exact tz_vret (pc := 312) dX12_go_312 rfl (Nat.le_of_ble_eq_true rfl) (Nat.le_of_ble_eq_true rfl) ⟨Nat.le_refl _, Nat.le_add_right _ _⟩ ⟨rfl, ⟨(RGo.up (k := 40) (RGo.up (k := 41) (RGo.up (k := 38) f2 rfl) rfl) rfl), Eq.trans (show ((zup (zup (zup J2 164 38 1) 164 41 ((J2 164 35) - (J2 164 36))) 164 40 z_168) : zJ) 164 36 = (J2 164 36) from rfl) (by rw [hS]; omega), Eq.trans (show ((zup (zup (zup J2 164 38 1) 164 41 ((J2 164 35) - (J2 164 36))) 164 40 z_168) : zJ) 164 35 = (J2 164 35) from rfl) (Eq.symm hE2), Or.inr (Or.inl ⟨(tkK_1 hS (by omega)).trans hk2, (Eq.trans (show ((zup (zup (zup J2 164 38 1) 164 41 ((J2 164 35) - (J2 164 36))) 164 40 z_168) : zJ) 164 38 = 1 from rfl) (by omega)), (Eq.trans (show ((zup (zup (zup J2 164 38 1) 164 41 ((J2 164 35) - (J2 164 36))) 164 40 z_168) : zJ) 164 42 = (J2 164 42) from rfl) (by omega)), Eq.trans (show ((zup (zup (zup J2 164 38 1) 164 41 ((J2 164 35) - (J2 164 36))) 164 40 z_168) : zJ) 164 41 = ((J2 164 35) - (J2 164 36)) from rfl) (by rw [hE2, hS]; omega), (by rw [(show ((zup (zup (zup J2 164 38 1) 164 41 ((J2 164 35) - (J2 164 36))) 164 40 z_168) : zJ) 164 40 = z_168 from rfl), hS, hE2]; exact hw)⟩)⟩⟩
                · refine tz_aload_n (pc := 127) dX12_go_127 rfl rfl ?_
                  refine tz_dup (pc := 128) dX12_go_128 rfl ?_
                  refine tz_fI (pc := 129) (kz := 35) (v := (J2 164 35)) dX12_go_129 fl_X12_243 i_164_35 rfl rfl (fun r_129 => ?_)
                  refine tz_iconst (pc := 132) dX12_go_132 ?_
                  refine tz_iadd (pc := 133) (v := (J2 164 35) + 1) dX12_go_133 rfl ?_
                  refine tz_pI (pc := 134) (kz := 35) dX12_go_134 fl_X12_243 i_164_35 rfl rfl (by omega) ?_
                  refine tz_goto (pc := 137) (tgt := 113) dX12_go_137 (by decide) ?_
                  exact ih113 _ (by rw [(show ((zup J2 164 35 ((J2 164 35) + 1)) : zJ) 164 35 = ((J2 164 35) + 1) from rfl)]; omega) (RGo.up (k := 35) f2 rfl) (by rw [(show ((zup J2 164 35 ((J2 164 35) + 1)) : zJ) 164 35 = ((J2 164 35) + 1) from rfl)]; exact ⟨by omega, by omega⟩) (fun q x y => by rw [(show ((zup J2 164 35 ((J2 164 35) + 1)) : zJ) 164 35 = ((J2 164 35) + 1) from rfl)] at y; exact (Decidable.em (q = J2 164 35)).elim (fun e => by rw [e]; omega) (fun e => al2 q x (by omega))) (Eq.trans (show ((zup J2 164 35 ((J2 164 35) + 1)) : zJ) 164 36 = (J2 164 36) from rfl) (by omega)) ⟨Eq.trans (show ((zup J2 164 35 ((J2 164 35) + 1)) : zJ) 164 42 = (J2 164 42) from rfl) (by omega), Eq.trans (show ((zup J2 164 35 ((J2 164 35) + 1)) : zJ) 164 41 = (J2 164 41) from rfl) (by omega), Eq.trans (show ((zup J2 164 35 ((J2 164 35) + 1)) : zJ) 164 40 = (J2 164 40) from rfl) (by omega)⟩
            exact loop113 _ _ (Nat.lt_succ_self _) (RGo.up (k := 42) (RGo.up (k := 39) (RGo.up (k := 41) (RGo.up (k := 40) (RGo.up (k := 36) f1 rfl) rfl) rfl) rfl) rfl) (by rw [(show ((zup (zup (zup (zup (zup J1 164 36 (J1 164 35)) 164 40 (-1)) 164 41 0) 164 39 0) 164 42 0) : zJ) 164 35 = (J1 164 35) from rfl)]; exact ⟨by omega, by omega⟩) (fun q x y => by rw [(show ((zup (zup (zup (zup (zup J1 164 36 (J1 164 35)) 164 40 (-1)) 164 41 0) 164 39 0) 164 42 0) : zJ) 164 35 = (J1 164 35) from rfl)] at y; omega) (Eq.trans (show ((zup (zup (zup (zup (zup J1 164 36 (J1 164 35)) 164 40 (-1)) 164 41 0) 164 39 0) 164 42 0) : zJ) 164 36 = (J1 164 35) from rfl) (by omega)) ⟨Eq.trans (show ((zup (zup (zup (zup (zup J1 164 36 (J1 164 35)) 164 40 (-1)) 164 41 0) 164 39 0) 164 42 0) : zJ) 164 42 = 0 from rfl) (by omega), Eq.trans (show ((zup (zup (zup (zup (zup J1 164 36 (J1 164 35)) 164 40 (-1)) 164 41 0) 164 39 0) 164 42 0) : zJ) 164 41 = 0 from rfl) (by omega), Eq.trans (show ((zup (zup (zup (zup (zup J1 164 36 (J1 164 35)) 164 40 (-1)) 164 41 0) 164 39 0) 164 42 0) : zJ) 164 40 = (-1) from rfl) (by omega)⟩
        · refine tz_aload_n (pc := 98) dX12_go_98 rfl rfl ?_
          refine tz_iconst (pc := 99) dX12_go_99 ?_
          refine tz_pI (pc := 100) (kz := 38) dX12_go_100 fl_X12_261 i_164_38 rfl rfl (by decide) ?_
          refine tz_goto (pc := 103) (tgt := 312) dX12_go_103 (by decide) ?_
          exact tz_vret (pc := 312) dX12_go_312 rfl (Nat.le_of_ble_eq_true rfl) (Nat.le_of_ble_eq_true rfl) ⟨Nat.le_refl _, Nat.le_add_right _ _⟩ ⟨rfl, ⟨(RGo.up (k := 38) (RGo.up (k := 42) (RGo.up (k := 39) (RGo.up (k := 41) (RGo.up (k := 40) (RGo.up (k := 36) f1 rfl) rfl) rfl) rfl) rfl) rfl), Eq.trans (show ((zup (zup (zup (zup (zup (zup J1 164 36 (J1 164 35)) 164 40 (-1)) 164 41 0) 164 39 0) 164 42 0) 164 38 0) : zJ) 164 36 = (J1 164 35) from rfl) hS.symm, (Eq.trans (show ((zup (zup (zup (zup (zup (zup J1 164 36 (J1 164 35)) 164 40 (-1)) 164 41 0) 164 39 0) 164 42 0) 164 38 0) : zJ) 164 35 = (J1 164 35) from rfl) (by rw [(tkK_0 hS (by omega)).2]; omega)), Or.inl ⟨(tkK_0 hS (by omega)).1, (Eq.trans (show ((zup (zup (zup (zup (zup (zup J1 164 36 (J1 164 35)) 164 40 (-1)) 164 41 0) 164 39 0) 164 42 0) 164 38 0) : zJ) 164 38 = 0 from rfl) (by omega)), (Eq.trans (show ((zup (zup (zup (zup (zup (zup J1 164 36 (J1 164 35)) 164 40 (-1)) 164 41 0) 164 39 0) 164 42 0) 164 38 0) : zJ) 164 42 = 0 from rfl) (by omega)), (Eq.trans (show ((zup (zup (zup (zup (zup (zup J1 164 36 (J1 164 35)) 164 40 (-1)) 164 41 0) 164 39 0) 164 42 0) 164 38 0) : zJ) 164 41 = 0 from rfl) (by omega)), (Eq.trans (show ((zup (zup (zup (zup (zup (zup J1 164 36 (J1 164 35)) 164 40 (-1)) 164 41 0) 164 39 0) 164 42 0) 164 38 0) : zJ) 164 40 = (-1) from rfl) (by omega))⟩⟩⟩
      · refine tz_aload_n (pc := 11) dX12_go_11 rfl rfl ?_
        refine tz_aload_n (pc := 12) dX12_go_12 rfl rfl ?_
        refine tz_fI (pc := 13) (kz := 35) (v := (J1 164 35)) dX12_go_13 fl_X12_243 i_164_35 rfl rfl (fun r_13 => ?_)
        refine tz_cV (pc := 16) (m_byteAt hl n _ _ (by omega) (by omega) (by rw [(show (J1 : zJ) 164 37 = (J 164 37) from (Eq.trans (f1.2 37 rfl) rfl))]; omega)) vl_X12_240 dX12_go_16 o_164 rfl rfl (Nat.le_of_ble_eq_true rfl) ⟨(Nat.le_of_ble_eq_true rfl), (Nat.le_of_ble_eq_true rfl)⟩ rfl rfl (Nat.le_of_ble_eq_true rfl) (Nat.le_of_ble_eq_true rfl) (fun r9 J_16 hq9 => ?_)
        obtain ⟨z_16, rfl, hz_16, rfl, hb_16, hc_16⟩ := hq9
        rw [(show (J1 : zJ) 164 37 = (J 164 37) from (Eq.trans (f1.2 37 rfl) rfl))] at hb_16 hc_16
        have hd_16 : (J1 164 35) < J 164 37 → J 173 (J1 164 35) = z_16 := fun q9 => by have q8 := hc_16 q9; rw [show (J1 : zJ) 173 = J 173 from f1.1 173 rfl] at q8; exact q8
        refine tz_bipush (pc := 19) dX12_go_19 (by decide) ?_
        refine tz_icmp_eq (pc := 21) (tgt := 37) dX12_go_21 (by decide) (by omega) (by decide) (fun h_21 => ?_) (fun h_21 => ?_)
        · refine tz_aload_n (pc := 37) dX12_go_37 rfl rfl ?_
          refine tz_dup (pc := 38) dX12_go_38 rfl ?_
          refine tz_fI (pc := 39) (kz := 35) (v := (J1 164 35)) dX12_go_39 fl_X12_243 i_164_35 rfl rfl (fun r_39 => ?_)
          refine tz_iconst (pc := 42) dX12_go_42 ?_
          refine tz_iadd (pc := 43) (v := (J1 164 35) + 1) dX12_go_43 rfl ?_
          refine tz_pI (pc := 44) (kz := 35) dX12_go_44 fl_X12_243 i_164_35 rfl rfl (by omega) ?_
          refine tz_goto (pc := 47) (tgt := 0) dX12_go_47 (by decide) ?_
          exact ih0 _ (by rw [(show ((zup J1 164 35 ((J1 164 35) + 1)) : zJ) 164 35 = ((J1 164 35) + 1) from rfl)]; omega) (RGo.up (k := 35) f1 rfl) (by rw [(show ((zup J1 164 35 ((J1 164 35) + 1)) : zJ) 164 35 = ((J1 164 35) + 1) from rfl)]; exact ⟨by omega, by omega⟩) (fun q x y => by rw [(show ((zup J1 164 35 ((J1 164 35) + 1)) : zJ) 164 35 = ((J1 164 35) + 1) from rfl)] at y; exact (Decidable.em (q = J1 164 35)).elim (fun e => by rw [e]; omega) (fun e => al1 q x (by omega)))
        · refine tz_aload_n (pc := 24) dX12_go_24 rfl rfl ?_
          refine tz_aload_n (pc := 25) dX12_go_25 rfl rfl ?_
          refine tz_fI (pc := 26) (kz := 35) (v := (J1 164 35)) dX12_go_26 fl_X12_243 i_164_35 rfl rfl (fun r_26 => ?_)
          refine tz_cV (pc := 29) (m_byteAt hl n _ _ (by omega) (by omega) (by rw [(show (J1 : zJ) 164 37 = (J 164 37) from (Eq.trans (f1.2 37 rfl) rfl))]; omega)) vl_X12_240 dX12_go_29 o_164 rfl rfl (Nat.le_of_ble_eq_true rfl) ⟨(Nat.le_of_ble_eq_true rfl), (Nat.le_of_ble_eq_true rfl)⟩ rfl rfl (Nat.le_of_ble_eq_true rfl) (Nat.le_of_ble_eq_true rfl) (fun r9 J_29 hq9 => ?_)
          obtain ⟨z_29, rfl, hz_29, rfl, hb_29, hc_29⟩ := hq9
          rw [(show (J1 : zJ) 164 37 = (J 164 37) from (Eq.trans (f1.2 37 rfl) rfl))] at hb_29 hc_29
          have hd_29 : (J1 164 35) < J 164 37 → J 173 (J1 164 35) = z_29 := fun q9 => by have q8 := hc_29 q9; rw [show (J1 : zJ) 173 = J 173 from f1.1 173 rfl] at q8; exact q8
          refine tz_bipush (pc := 32) dX12_go_32 (by decide) ?_
          refine tz_icmp_ne (pc := 34) (tgt := 50) dX12_go_34 (by decide) (by omega) (by decide) (fun h_34 => ?_) (fun h_34 => ?_)
          · have hS : tkS (J 173) (J 164 37) (J 164 35) = J1 164 35 := tkS_eq le1.1 le1.2 al1 (by omega)
            refine tz_aload_n (pc := 50) dX12_go_50 rfl rfl ?_
            refine tz_aload_n (pc := 51) dX12_go_51 rfl rfl ?_
            refine tz_fI (pc := 52) (kz := 35) (v := (J1 164 35)) dX12_go_52 fl_X12_243 i_164_35 rfl rfl (fun r_52 => ?_)
            refine tz_pI (pc := 55) (kz := 36) dX12_go_55 fl_X12_246 i_164_36 rfl rfl (by omega) ?_
            refine tz_aload_n (pc := 58) dX12_go_58 rfl rfl ?_
            refine tz_aload_n (pc := 59) dX12_go_59 rfl rfl ?_
            refine tz_fI (pc := 60) (kz := 35) (v := (J1 164 35)) dX12_go_60 fl_X12_243 i_164_35 rfl rfl (fun r_60 => ?_)
            refine tz_cV (pc := 63) (m_byteAt hl n _ _ (by omega) (by omega) (by rw [(show ((zup J1 164 36 (J1 164 35)) : zJ) 164 37 = (J 164 37) from (Eq.trans (f1.2 37 rfl) rfl))]; omega)) vl_X12_240 dX12_go_63 o_164 rfl rfl (Nat.le_of_ble_eq_true rfl) ⟨(Nat.le_of_ble_eq_true rfl), (Nat.le_of_ble_eq_true rfl)⟩ rfl rfl (Nat.le_of_ble_eq_true rfl) (Nat.le_of_ble_eq_true rfl) (fun r9 J_63 hq9 => ?_)
            obtain ⟨z_63, rfl, hz_63, rfl, hb_63, hc_63⟩ := hq9
            rw [(show ((zup J1 164 36 (J1 164 35)) : zJ) 164 37 = (J 164 37) from (Eq.trans (f1.2 37 rfl) rfl))] at hb_63 hc_63
            have hd_63 : (J1 164 35) < J 164 37 → J 173 (J1 164 35) = z_63 := fun q9 => by have q8 := hc_63 q9; rw [show ((zup J1 164 36 (J1 164 35)) : zJ) 173 = J 173 from f1.1 173 rfl] at q8; exact q8
            refine tz_istore_n (pc := 66) (L2 := [_, _]) dX12_go_66 rfl (by decide) rfl ?_
            refine tz_aload_n (pc := 67) dX12_go_67 rfl rfl ?_
            refine tz_iconst (pc := 68) dX12_go_68 ?_
            refine tz_pI (pc := 69) (kz := 40) dX12_go_69 fl_X12_249 i_164_40 rfl rfl (by decide) ?_
            refine tz_aload_n (pc := 72) dX12_go_72 rfl rfl ?_
            refine tz_iconst (pc := 73) dX12_go_73 ?_
            refine tz_pI (pc := 74) (kz := 41) dX12_go_74 fl_X12_252 i_164_41 rfl rfl (by decide) ?_
            refine tz_aload_n (pc := 77) dX12_go_77 rfl rfl ?_
            refine tz_iconst (pc := 78) dX12_go_78 ?_
            refine tz_pI (pc := 79) (kz := 39) dX12_go_79 fl_X12_255 i_164_39 rfl rfl (by decide) ?_
            refine tz_aload_n (pc := 82) dX12_go_82 rfl rfl ?_
            refine tz_iconst (pc := 83) dX12_go_83 ?_
            refine tz_pI (pc := 84) (kz := 42) dX12_go_84 fl_X12_258 i_164_42 rfl rfl (by decide) ?_
            refine tz_aload_n (pc := 87) dX12_go_87 rfl rfl ?_
            refine tz_fI (pc := 88) (kz := 35) (v := (J1 164 35)) dX12_go_88 fl_X12_243 i_164_35 rfl rfl (fun r_88 => ?_)
            refine tz_aload_n (pc := 91) dX12_go_91 rfl rfl ?_
            refine tz_fI (pc := 92) (kz := 37) (v := (J 164 37)) dX12_go_92 fl_X12_233 i_164_37 rfl (Eq.trans (f1.2 37 rfl) rfl) (fun r_92 => ?_)
            refine tz_icmp_lt (pc := 95) (tgt := 106) dX12_go_95 (by decide) (by omega) (by omega) (fun h_95 => ?_) (fun h_95 => ?_)
            · refine tz_iload_n (pc := 106) dX12_go_106 rfl rfl ?_
              refine tz_cS (pc := 107) (m_isLet hl n _ _ (by omega)) sl_X12_264 dX12_go_107 rfl rfl (Nat.le_of_ble_eq_true rfl) ⟨(Nat.le_of_ble_eq_true rfl), (Nat.le_of_ble_eq_true rfl)⟩ rfl rfl (Nat.le_of_ble_eq_true rfl) (Nat.le_of_ble_eq_true rfl) (fun r9 J_107 hq9 => ?_)
              obtain ⟨z_107, rfl, hz_107, rfl, hl_107⟩ := hq9
              refine tz_if_eq (pc := 110) (tgt := 177) dX12_go_110 (by decide) (by omega) (fun h_110 => ?_) (fun h_110 => ?_)
              · refine tz_iload_n (pc := 177) dX12_go_177 rfl rfl ?_
                refine tz_bipush (pc := 178) dX12_go_178 (by decide) ?_
                refine tz_icmp_lt (pc := 180) (tgt := 268) dX12_go_180 (by decide) (by omega) (by decide) (fun h_180 => ?_) (fun h_180 => ?_)
                · have hf : J 173 (J1 164 35) = z_63 := hd_63 (by omega)
                  refine tz_aload_n (pc := 268) dX12_go_268 rfl rfl ?_
                  refine tz_dup (pc := 269) dX12_go_269 rfl ?_
                  refine tz_fI (pc := 270) (kz := 35) (v := (J1 164 35)) dX12_go_270 fl_X12_243 i_164_35 rfl rfl (fun r_270 => ?_)
                  refine tz_iconst (pc := 273) dX12_go_273 ?_
                  refine tz_iadd (pc := 274) (v := (J1 164 35) + 1) dX12_go_274 rfl ?_
                  refine tz_pI (pc := 275) (kz := 35) dX12_go_275 fl_X12_243 i_164_35 rfl rfl (by omega) ?_
                  refine tz_aload_n (pc := 278) dX12_go_278 rfl rfl ?_
                  refine tz_aload_n (pc := 279) dX12_go_279 rfl rfl ?_
                  refine tz_iload_n (pc := 280) dX12_go_280 rfl rfl ?_
                  refine tz_cV (pc := 281) (x_isSgn hl n _ _ (by omega)) vl_X12_270 dX12_go_281 o_164 rfl rfl (Nat.le_of_ble_eq_true rfl) ⟨(Nat.le_of_ble_eq_true rfl), (Nat.le_of_ble_eq_true rfl)⟩ rfl rfl (Nat.le_of_ble_eq_true rfl) (Nat.le_of_ble_eq_true rfl) (fun r9 J_281 hq9 => ?_)
                  obtain ⟨z_281, rfl, hz_281, rfl, hg⟩ := hq9
                  refine tz_if_eq (pc := 284) (tgt := 291) dX12_go_284 (by decide) (by omega) (fun h_284 => ?_) (fun h_284 => ?_)
                  · refine tz_iconst (pc := 291) dX12_go_291 ?_
                    have hk1 : kdB (J 173 (J1 164 35)) = 1 := by rw [hf]; exact kd1 (by omega) (by omega) (by omega)
                    refine tz_pI (pc := 292) (kz := 38) dX12_go_292 fl_X12_261 i_164_38 rfl rfl (by decide) ?_
                    refine tz_aload_n (pc := 295) dX12_go_295 rfl rfl ?_
                    refine tz_aload_n (pc := 296) dX12_go_296 rfl rfl ?_
                    refine tz_fI (pc := 297) (kz := 38) (v := 4) dX12_go_297 fl_X12_261 i_164_38 rfl rfl (fun _ => ?_)
                    refine tz_iconst (pc := 300) dX12_go_300 ?_
                    refine tz_icmp_neT (pc := 301) (tgt := 308) (by decide) dX12_go_301 (by decide) (by decide) (by decide) ?_
                    refine tz_iconst (pc := 308) dX12_go_308 ?_
                    refine tz_pI (pc := 309) (kz := 42) dX12_go_309 fl_X12_258 i_164_42 rfl rfl (by decide) ?_
                    exact tz_vret (pc := 312) dX12_go_312 rfl (Nat.le_of_ble_eq_true rfl) (Nat.le_of_ble_eq_true rfl) ⟨Nat.le_refl _, Nat.le_add_right _ _⟩ ⟨rfl, ⟨(RGo.up (k := 42) (RGo.up (k := 38) (RGo.up (k := 35) (RGo.up (k := 42) (RGo.up (k := 39) (RGo.up (k := 41) (RGo.up (k := 40) (RGo.up (k := 36) f1 rfl) rfl) rfl) rfl) rfl) rfl) rfl) rfl), Eq.trans (show ((zup (zup (zup (zup (zup (zup (zup (zup J1 164 36 (J1 164 35)) 164 40 (-1)) 164 41 0) 164 39 0) 164 42 0) 164 35 ((J1 164 35) + 1)) 164 38 4) 164 42 0) : zJ) 164 36 = (J1 164 35) from rfl) hS.symm, Eq.trans (show ((zup (zup (zup (zup (zup (zup (zup (zup J1 164 36 (J1 164 35)) 164 40 (-1)) 164 41 0) 164 39 0) 164 42 0) 164 35 ((J1 164 35) + 1)) 164 38 4) 164 42 0) : zJ) 164 35 = ((J1 164 35) + 1) from rfl) (Eq.symm (tkE_1 hS (by omega) hk1 (by decide))), Or.inr (Or.inr (Or.inr (Or.inl ⟨(tkK_1 hS (by omega)).trans hk1, (Eq.trans (show ((zup (zup (zup (zup (zup (zup (zup (zup J1 164 36 (J1 164 35)) 164 40 (-1)) 164 41 0) 164 39 0) 164 42 0) 164 35 ((J1 164 35) + 1)) 164 38 4) 164 42 0) : zJ) 164 38 = 4 from rfl) (by omega)), (Eq.trans (show ((zup (zup (zup (zup (zup (zup (zup (zup J1 164 36 (J1 164 35)) 164 40 (-1)) 164 41 0) 164 39 0) 164 42 0) 164 35 ((J1 164 35) + 1)) 164 38 4) 164 42 0) : zJ) 164 42 = 0 from rfl) (by omega)), (Eq.trans (show ((zup (zup (zup (zup (zup (zup (zup (zup J1 164 36 (J1 164 35)) 164 40 (-1)) 164 41 0) 164 39 0) 164 42 0) 164 35 ((J1 164 35) + 1)) 164 38 4) 164 42 0) : zJ) 164 41 = 0 from rfl) (by omega)), (Eq.trans (show ((zup (zup (zup (zup (zup (zup (zup (zup J1 164 36 (J1 164 35)) 164 40 (-1)) 164 41 0) 164 39 0) 164 42 0) 164 35 ((J1 164 35) + 1)) 164 38 4) 164 42 0) : zJ) 164 40 = (-1) from rfl) (by omega))⟩)))⟩⟩
                  · refine tz_iconst (pc := 287) dX12_go_287 ?_
                    refine tz_goto (pc := 288) (tgt := 292) dX12_go_288 (by decide) ?_
                    have hks : kdB (J 173 (J1 164 35)) = z_63 := by rw [hf]; exact kds (by omega)
                    refine tz_pI (pc := 292) (kz := 38) dX12_go_292 fl_X12_261 i_164_38 rfl rfl (by decide) ?_
                    refine tz_aload_n (pc := 295) dX12_go_295 rfl rfl ?_
                    refine tz_aload_n (pc := 296) dX12_go_296 rfl rfl ?_
                    refine tz_fI (pc := 297) (kz := 38) (v := 3) dX12_go_297 fl_X12_261 i_164_38 rfl rfl (fun _ => ?_)
                    refine tz_iconst (pc := 300) dX12_go_300 ?_
                    refine tz_icmp_neF (pc := 301) (tgt := 308) (by decide) dX12_go_301 (by decide) (by decide) (by decide) ?_
                    refine tz_iload_n (pc := 304) dX12_go_304 rfl rfl ?_
                    refine tz_goto (pc := 305) (tgt := 309) dX12_go_305 (by decide) ?_
                    refine tz_pI (pc := 309) (kz := 42) dX12_go_309 fl_X12_258 i_164_42 rfl rfl (by omega) ?_
                    exact tz_vret (pc := 312) dX12_go_312 rfl (Nat.le_of_ble_eq_true rfl) (Nat.le_of_ble_eq_true rfl) ⟨Nat.le_refl _, Nat.le_add_right _ _⟩ ⟨rfl, ⟨(RGo.up (k := 42) (RGo.up (k := 38) (RGo.up (k := 35) (RGo.up (k := 42) (RGo.up (k := 39) (RGo.up (k := 41) (RGo.up (k := 40) (RGo.up (k := 36) f1 rfl) rfl) rfl) rfl) rfl) rfl) rfl) rfl), Eq.trans (show ((zup (zup (zup (zup (zup (zup (zup (zup J1 164 36 (J1 164 35)) 164 40 (-1)) 164 41 0) 164 39 0) 164 42 0) 164 35 ((J1 164 35) + 1)) 164 38 3) 164 42 z_63) : zJ) 164 36 = (J1 164 35) from rfl) hS.symm, Eq.trans (show ((zup (zup (zup (zup (zup (zup (zup (zup J1 164 36 (J1 164 35)) 164 40 (-1)) 164 41 0) 164 39 0) 164 42 0) 164 35 ((J1 164 35) + 1)) 164 38 3) 164 42 z_63) : zJ) 164 35 = ((J1 164 35) + 1) from rfl) (Eq.symm (tkE_1 hS (by omega) hks (by omega))), Or.inr (Or.inr (Or.inr (Or.inr ⟨(by rw [tkK_1 hS (by omega), hks]; omega), (Eq.trans (show ((zup (zup (zup (zup (zup (zup (zup (zup J1 164 36 (J1 164 35)) 164 40 (-1)) 164 41 0) 164 39 0) 164 42 0) 164 35 ((J1 164 35) + 1)) 164 38 3) 164 42 z_63) : zJ) 164 38 = 3 from rfl) (by omega)), (Eq.trans (show ((zup (zup (zup (zup (zup (zup (zup (zup J1 164 36 (J1 164 35)) 164 40 (-1)) 164 41 0) 164 39 0) 164 42 0) 164 35 ((J1 164 35) + 1)) 164 38 3) 164 42 z_63) : zJ) 164 42 = z_63 from rfl) (by rw [tkK_1 hS (by omega), hks])), (Eq.trans (show ((zup (zup (zup (zup (zup (zup (zup (zup J1 164 36 (J1 164 35)) 164 40 (-1)) 164 41 0) 164 39 0) 164 42 0) 164 35 ((J1 164 35) + 1)) 164 38 3) 164 42 z_63) : zJ) 164 41 = 0 from rfl) (by omega)), (Eq.trans (show ((zup (zup (zup (zup (zup (zup (zup (zup J1 164 36 (J1 164 35)) 164 40 (-1)) 164 41 0) 164 39 0) 164 42 0) 164 35 ((J1 164 35) + 1)) 164 38 3) 164 42 z_63) : zJ) 164 40 = (-1) from rfl) (by omega))⟩)))⟩⟩
                · refine tz_iload_n (pc := 183) dX12_go_183 rfl rfl ?_
                  refine tz_bipush (pc := 184) dX12_go_184 (by decide) ?_
                  refine tz_icmp_gt (pc := 186) (tgt := 268) dX12_go_186 (by decide) (by omega) (by decide) (fun h_186 => ?_) (fun h_186 => ?_)
                  · have hf : J 173 (J1 164 35) = z_63 := hd_63 (by omega)
                    refine tz_aload_n (pc := 268) dX12_go_268 rfl rfl ?_
                    refine tz_dup (pc := 269) dX12_go_269 rfl ?_
                    refine tz_fI (pc := 270) (kz := 35) (v := (J1 164 35)) dX12_go_270 fl_X12_243 i_164_35 rfl rfl (fun r_270 => ?_)
                    refine tz_iconst (pc := 273) dX12_go_273 ?_
                    refine tz_iadd (pc := 274) (v := (J1 164 35) + 1) dX12_go_274 rfl ?_
                    refine tz_pI (pc := 275) (kz := 35) dX12_go_275 fl_X12_243 i_164_35 rfl rfl (by omega) ?_
                    refine tz_aload_n (pc := 278) dX12_go_278 rfl rfl ?_
                    refine tz_aload_n (pc := 279) dX12_go_279 rfl rfl ?_
                    refine tz_iload_n (pc := 280) dX12_go_280 rfl rfl ?_
                    refine tz_cV (pc := 281) (x_isSgn hl n _ _ (by omega)) vl_X12_270 dX12_go_281 o_164 rfl rfl (Nat.le_of_ble_eq_true rfl) ⟨(Nat.le_of_ble_eq_true rfl), (Nat.le_of_ble_eq_true rfl)⟩ rfl rfl (Nat.le_of_ble_eq_true rfl) (Nat.le_of_ble_eq_true rfl) (fun r9 J_281 hq9 => ?_)
                    obtain ⟨z_281, rfl, hz_281, rfl, hg⟩ := hq9
                    refine tz_if_eq (pc := 284) (tgt := 291) dX12_go_284 (by decide) (by omega) (fun h_284 => ?_) (fun h_284 => ?_)
                    · refine tz_iconst (pc := 291) dX12_go_291 ?_
                      have hk1 : kdB (J 173 (J1 164 35)) = 1 := by rw [hf]; exact kd1 (by omega) (by omega) (by omega)
                      refine tz_pI (pc := 292) (kz := 38) dX12_go_292 fl_X12_261 i_164_38 rfl rfl (by decide) ?_
                      refine tz_aload_n (pc := 295) dX12_go_295 rfl rfl ?_
                      refine tz_aload_n (pc := 296) dX12_go_296 rfl rfl ?_
                      refine tz_fI (pc := 297) (kz := 38) (v := 4) dX12_go_297 fl_X12_261 i_164_38 rfl rfl (fun _ => ?_)
                      refine tz_iconst (pc := 300) dX12_go_300 ?_
                      refine tz_icmp_neT (pc := 301) (tgt := 308) (by decide) dX12_go_301 (by decide) (by decide) (by decide) ?_
                      refine tz_iconst (pc := 308) dX12_go_308 ?_
                      refine tz_pI (pc := 309) (kz := 42) dX12_go_309 fl_X12_258 i_164_42 rfl rfl (by decide) ?_
                      exact tz_vret (pc := 312) dX12_go_312 rfl (Nat.le_of_ble_eq_true rfl) (Nat.le_of_ble_eq_true rfl) ⟨Nat.le_refl _, Nat.le_add_right _ _⟩ ⟨rfl, ⟨(RGo.up (k := 42) (RGo.up (k := 38) (RGo.up (k := 35) (RGo.up (k := 42) (RGo.up (k := 39) (RGo.up (k := 41) (RGo.up (k := 40) (RGo.up (k := 36) f1 rfl) rfl) rfl) rfl) rfl) rfl) rfl) rfl), Eq.trans (show ((zup (zup (zup (zup (zup (zup (zup (zup J1 164 36 (J1 164 35)) 164 40 (-1)) 164 41 0) 164 39 0) 164 42 0) 164 35 ((J1 164 35) + 1)) 164 38 4) 164 42 0) : zJ) 164 36 = (J1 164 35) from rfl) hS.symm, Eq.trans (show ((zup (zup (zup (zup (zup (zup (zup (zup J1 164 36 (J1 164 35)) 164 40 (-1)) 164 41 0) 164 39 0) 164 42 0) 164 35 ((J1 164 35) + 1)) 164 38 4) 164 42 0) : zJ) 164 35 = ((J1 164 35) + 1) from rfl) (Eq.symm (tkE_1 hS (by omega) hk1 (by decide))), Or.inr (Or.inr (Or.inr (Or.inl ⟨(tkK_1 hS (by omega)).trans hk1, (Eq.trans (show ((zup (zup (zup (zup (zup (zup (zup (zup J1 164 36 (J1 164 35)) 164 40 (-1)) 164 41 0) 164 39 0) 164 42 0) 164 35 ((J1 164 35) + 1)) 164 38 4) 164 42 0) : zJ) 164 38 = 4 from rfl) (by omega)), (Eq.trans (show ((zup (zup (zup (zup (zup (zup (zup (zup J1 164 36 (J1 164 35)) 164 40 (-1)) 164 41 0) 164 39 0) 164 42 0) 164 35 ((J1 164 35) + 1)) 164 38 4) 164 42 0) : zJ) 164 42 = 0 from rfl) (by omega)), (Eq.trans (show ((zup (zup (zup (zup (zup (zup (zup (zup J1 164 36 (J1 164 35)) 164 40 (-1)) 164 41 0) 164 39 0) 164 42 0) 164 35 ((J1 164 35) + 1)) 164 38 4) 164 42 0) : zJ) 164 41 = 0 from rfl) (by omega)), (Eq.trans (show ((zup (zup (zup (zup (zup (zup (zup (zup J1 164 36 (J1 164 35)) 164 40 (-1)) 164 41 0) 164 39 0) 164 42 0) 164 35 ((J1 164 35) + 1)) 164 38 4) 164 42 0) : zJ) 164 40 = (-1) from rfl) (by omega))⟩)))⟩⟩
                    · refine tz_iconst (pc := 287) dX12_go_287 ?_
                      refine tz_goto (pc := 288) (tgt := 292) dX12_go_288 (by decide) ?_
                      have hks : kdB (J 173 (J1 164 35)) = z_63 := by rw [hf]; exact kds (by omega)
                      refine tz_pI (pc := 292) (kz := 38) dX12_go_292 fl_X12_261 i_164_38 rfl rfl (by decide) ?_
                      refine tz_aload_n (pc := 295) dX12_go_295 rfl rfl ?_
                      refine tz_aload_n (pc := 296) dX12_go_296 rfl rfl ?_
                      refine tz_fI (pc := 297) (kz := 38) (v := 3) dX12_go_297 fl_X12_261 i_164_38 rfl rfl (fun _ => ?_)
                      refine tz_iconst (pc := 300) dX12_go_300 ?_
                      refine tz_icmp_neF (pc := 301) (tgt := 308) (by decide) dX12_go_301 (by decide) (by decide) (by decide) ?_
                      refine tz_iload_n (pc := 304) dX12_go_304 rfl rfl ?_
                      refine tz_goto (pc := 305) (tgt := 309) dX12_go_305 (by decide) ?_
                      refine tz_pI (pc := 309) (kz := 42) dX12_go_309 fl_X12_258 i_164_42 rfl rfl (by omega) ?_
                      exact tz_vret (pc := 312) dX12_go_312 rfl (Nat.le_of_ble_eq_true rfl) (Nat.le_of_ble_eq_true rfl) ⟨Nat.le_refl _, Nat.le_add_right _ _⟩ ⟨rfl, ⟨(RGo.up (k := 42) (RGo.up (k := 38) (RGo.up (k := 35) (RGo.up (k := 42) (RGo.up (k := 39) (RGo.up (k := 41) (RGo.up (k := 40) (RGo.up (k := 36) f1 rfl) rfl) rfl) rfl) rfl) rfl) rfl) rfl), Eq.trans (show ((zup (zup (zup (zup (zup (zup (zup (zup J1 164 36 (J1 164 35)) 164 40 (-1)) 164 41 0) 164 39 0) 164 42 0) 164 35 ((J1 164 35) + 1)) 164 38 3) 164 42 z_63) : zJ) 164 36 = (J1 164 35) from rfl) hS.symm, Eq.trans (show ((zup (zup (zup (zup (zup (zup (zup (zup J1 164 36 (J1 164 35)) 164 40 (-1)) 164 41 0) 164 39 0) 164 42 0) 164 35 ((J1 164 35) + 1)) 164 38 3) 164 42 z_63) : zJ) 164 35 = ((J1 164 35) + 1) from rfl) (Eq.symm (tkE_1 hS (by omega) hks (by omega))), Or.inr (Or.inr (Or.inr (Or.inr ⟨(by rw [tkK_1 hS (by omega), hks]; omega), (Eq.trans (show ((zup (zup (zup (zup (zup (zup (zup (zup J1 164 36 (J1 164 35)) 164 40 (-1)) 164 41 0) 164 39 0) 164 42 0) 164 35 ((J1 164 35) + 1)) 164 38 3) 164 42 z_63) : zJ) 164 38 = 3 from rfl) (by omega)), (Eq.trans (show ((zup (zup (zup (zup (zup (zup (zup (zup J1 164 36 (J1 164 35)) 164 40 (-1)) 164 41 0) 164 39 0) 164 42 0) 164 35 ((J1 164 35) + 1)) 164 38 3) 164 42 z_63) : zJ) 164 42 = z_63 from rfl) (by rw [tkK_1 hS (by omega), hks])), (Eq.trans (show ((zup (zup (zup (zup (zup (zup (zup (zup J1 164 36 (J1 164 35)) 164 40 (-1)) 164 41 0) 164 39 0) 164 42 0) 164 35 ((J1 164 35) + 1)) 164 38 3) 164 42 z_63) : zJ) 164 41 = 0 from rfl) (by omega)), (Eq.trans (show ((zup (zup (zup (zup (zup (zup (zup (zup J1 164 36 (J1 164 35)) 164 40 (-1)) 164 41 0) 164 39 0) 164 42 0) 164 35 ((J1 164 35) + 1)) 164 38 3) 164 42 z_63) : zJ) 164 40 = (-1) from rfl) (by omega))⟩)))⟩⟩
                  · have loop189 : ∀ (f9 : Nat) (J3 : zJ), ((J 164 37 - J3 164 35).toNat) < f9 → (RGo J3 J) → (J1 164 35 ≤ J3 164 35 ∧ J3 164 35 ≤ J 164 37) → (∀ q, J1 164 35 ≤ q → q < J3 164 35 → 48 ≤ J 173 q ∧ J 173 q ≤ 57) → (J3 164 36 = J1 164 35) → (J3 164 42 = 0 ∧ J3 164 41 = 0 ∧ J3 164 40 = -1) → ((J3 164 35 = J1 164 35 ∧ J3 164 39 = 0) ∨ (J3 164 35 = J1 164 35 + 1 ∧ J3 164 39 = J 173 (J1 164 35) - 48) ∨ (J1 164 35 + 1 < J3 164 35 ∧ J3 164 39 = 999)) → tz_At l G M_X12_go (tb_rm 2 0 0) none (tb_ZM G 0 0 (zQ n 0 (zqv (fun J' => RGo J' J ∧ TKM J' (J 173) (tkS (J 173) (J 164 37) (J 164 35)) (tkK (J 173) (J 164 37) (J 164 35)) (tkE (J 173) (J 164 37) (J 164 35))))) (zX n 0 zN)) 0 0 n J3 189 [some (.ref 164), some (zi z_63)] [] := by
                      intro f9
                      induction f9 with
                      | zero => intro J3 hm9; exact absurd hm9 (Nat.not_lt_zero _)
                      | succ f9 ih189 =>
                        intro J3 hm189 f3 le3 al3 pl3 sg3 vl3
                        refine tz_aload_n (pc := 189) dX12_go_189 rfl rfl ?_
                        refine tz_aload_n (pc := 190) dX12_go_190 rfl rfl ?_
                        refine tz_fI (pc := 191) (kz := 35) (v := (J3 164 35)) dX12_go_191 fl_X12_243 i_164_35 rfl rfl (fun r_191 => ?_)
                        refine tz_cV (pc := 194) (m_byteAt hl n _ _ (by omega) (by omega) (by rw [(show (J3 : zJ) 164 37 = (J 164 37) from (Eq.trans (f3.2 37 rfl) rfl))]; omega)) vl_X12_240 dX12_go_194 o_164 rfl rfl (Nat.le_of_ble_eq_true rfl) ⟨(Nat.le_of_ble_eq_true rfl), (Nat.le_of_ble_eq_true rfl)⟩ rfl rfl (Nat.le_of_ble_eq_true rfl) (Nat.le_of_ble_eq_true rfl) (fun r9 J_194 hq9 => ?_)
                        obtain ⟨z_194, rfl, hz_194, rfl, hb_194, hc_194⟩ := hq9
                        rw [(show (J3 : zJ) 164 37 = (J 164 37) from (Eq.trans (f3.2 37 rfl) rfl))] at hb_194 hc_194
                        have hd_194 : (J3 164 35) < J 164 37 → J 173 (J3 164 35) = z_194 := fun q9 => by have q8 := hc_194 q9; rw [show (J3 : zJ) 173 = J 173 from f3.1 173 rfl] at q8; exact q8
                        refine tz_bipush (pc := 197) dX12_go_197 (by decide) ?_
                        refine tz_icmp_lt (pc := 199) (tgt := 260) dX12_go_199 (by decide) (by omega) (by decide) (fun h_199 => ?_) (fun h_199 => ?_)
                        · have hf : J 173 (J1 164 35) = z_63 := hd_63 (by omega)
                          have hk3 : kdB (J 173 (J1 164 35)) = 3 := by rw [hf]; exact kd3 (by omega)
                          have lt9 : J1 164 35 < J3 164 35 := by
                            rcases Int.lt_or_eq_of_le le3.1 with e9 | e9
                            · exact e9
                            · exfalso; have e1 := hd_194 (by omega); rw [← e9] at e1; first | omega | (have e2 := hd_207 (by omega); rw [← e9] at e2; omega)
                          have hE3 : tkE (J 173) (J 164 37) (J 164 35) = J3 164 35 := tkE_2 hS (by omega) hk3 (Or.inr rfl) (by omega) le3.2 (fun q x y => kd3 (al3 q (by omega) y)) (by
                            rcases Int.lt_or_eq_of_le le3.2 with e9 | e9
                            · refine Or.inr ?_
                              first | (rw [hd_207 e9]; exact kd3' (by omega)) | (rw [hd_194 e9]; exact kd3' (by omega))
                            · exact Or.inl e9)
                          refine tz_aload_n (pc := 260) dX12_go_260 rfl rfl ?_
                          refine tz_iconst (pc := 261) dX12_go_261 ?_
                          refine tz_pI (pc := 262) (kz := 38) dX12_go_262 fl_X12_261 i_164_38 rfl rfl (by decide) ?_
                          refine tz_goto (pc := 265) (tgt := 312) dX12_go_265 (by decide) ?_
                          exact tz_vret (pc := 312) dX12_go_312 rfl (Nat.le_of_ble_eq_true rfl) (Nat.le_of_ble_eq_true rfl) ⟨Nat.le_refl _, Nat.le_add_right _ _⟩ ⟨rfl, ⟨(RGo.up (k := 38) f3 rfl), Eq.trans (show ((zup J3 164 38 2) : zJ) 164 36 = (J3 164 36) from rfl) (by rw [hS]; omega), Eq.trans (show ((zup J3 164 38 2) : zJ) 164 35 = (J3 164 35) from rfl) (Eq.symm hE3), Or.inr (Or.inr (Or.inl ⟨(tkK_1 hS (by omega)).trans hk3, (Eq.trans (show ((zup J3 164 38 2) : zJ) 164 38 = 2 from rfl) (by omega)), (Eq.trans (show ((zup J3 164 38 2) : zJ) 164 42 = (J3 164 42) from rfl) (by omega)), (Eq.trans (show ((zup J3 164 38 2) : zJ) 164 41 = (J3 164 41) from rfl) (by omega)), (Eq.trans (show ((zup J3 164 38 2) : zJ) 164 40 = (J3 164 40) from rfl) (by omega)), (by rw [(show ((zup J3 164 38 2) : zJ) 164 39 = (J3 164 39) from rfl), hE3, hS]; omega)⟩))⟩⟩
                        · refine tz_aload_n (pc := 202) dX12_go_202 rfl rfl ?_
                          refine tz_aload_n (pc := 203) dX12_go_203 rfl rfl ?_
                          refine tz_fI (pc := 204) (kz := 35) (v := (J3 164 35)) dX12_go_204 fl_X12_243 i_164_35 rfl rfl (fun r_204 => ?_)
                          refine tz_cV (pc := 207) (m_byteAt hl n _ _ (by omega) (by omega) (by rw [(show (J3 : zJ) 164 37 = (J 164 37) from (Eq.trans (f3.2 37 rfl) rfl))]; omega)) vl_X12_240 dX12_go_207 o_164 rfl rfl (Nat.le_of_ble_eq_true rfl) ⟨(Nat.le_of_ble_eq_true rfl), (Nat.le_of_ble_eq_true rfl)⟩ rfl rfl (Nat.le_of_ble_eq_true rfl) (Nat.le_of_ble_eq_true rfl) (fun r9 J_207 hq9 => ?_)
                          obtain ⟨z_207, rfl, hz_207, rfl, hb_207, hc_207⟩ := hq9
                          rw [(show (J3 : zJ) 164 37 = (J 164 37) from (Eq.trans (f3.2 37 rfl) rfl))] at hb_207 hc_207
                          have hd_207 : (J3 164 35) < J 164 37 → J 173 (J3 164 35) = z_207 := fun q9 => by have q8 := hc_207 q9; rw [show (J3 : zJ) 173 = J 173 from f3.1 173 rfl] at q8; exact q8
                          refine tz_bipush (pc := 210) dX12_go_210 (by decide) ?_
                          refine tz_icmp_gt (pc := 212) (tgt := 260) dX12_go_212 (by decide) (by omega) (by decide) (fun h_212 => ?_) (fun h_212 => ?_)
                          · have hf : J 173 (J1 164 35) = z_63 := hd_63 (by omega)
                            have hk3 : kdB (J 173 (J1 164 35)) = 3 := by rw [hf]; exact kd3 (by omega)
                            have lt9 : J1 164 35 < J3 164 35 := by
                              rcases Int.lt_or_eq_of_le le3.1 with e9 | e9
                              · exact e9
                              · exfalso; have e1 := hd_194 (by omega); rw [← e9] at e1; first | omega | (have e2 := hd_207 (by omega); rw [← e9] at e2; omega)
                            have hE3 : tkE (J 173) (J 164 37) (J 164 35) = J3 164 35 := tkE_2 hS (by omega) hk3 (Or.inr rfl) (by omega) le3.2 (fun q x y => kd3 (al3 q (by omega) y)) (by
                              rcases Int.lt_or_eq_of_le le3.2 with e9 | e9
                              · refine Or.inr ?_
                                first | (rw [hd_207 e9]; exact kd3' (by omega)) | (rw [hd_194 e9]; exact kd3' (by omega))
                              · exact Or.inl e9)
                            refine tz_aload_n (pc := 260) dX12_go_260 rfl rfl ?_
                            refine tz_iconst (pc := 261) dX12_go_261 ?_
                            refine tz_pI (pc := 262) (kz := 38) dX12_go_262 fl_X12_261 i_164_38 rfl rfl (by decide) ?_
                            refine tz_goto (pc := 265) (tgt := 312) dX12_go_265 (by decide) ?_
                            exact tz_vret (pc := 312) dX12_go_312 rfl (Nat.le_of_ble_eq_true rfl) (Nat.le_of_ble_eq_true rfl) ⟨Nat.le_refl _, Nat.le_add_right _ _⟩ ⟨rfl, ⟨(RGo.up (k := 38) f3 rfl), Eq.trans (show ((zup J3 164 38 2) : zJ) 164 36 = (J3 164 36) from rfl) (by rw [hS]; omega), Eq.trans (show ((zup J3 164 38 2) : zJ) 164 35 = (J3 164 35) from rfl) (Eq.symm hE3), Or.inr (Or.inr (Or.inl ⟨(tkK_1 hS (by omega)).trans hk3, (Eq.trans (show ((zup J3 164 38 2) : zJ) 164 38 = 2 from rfl) (by omega)), (Eq.trans (show ((zup J3 164 38 2) : zJ) 164 42 = (J3 164 42) from rfl) (by omega)), (Eq.trans (show ((zup J3 164 38 2) : zJ) 164 41 = (J3 164 41) from rfl) (by omega)), (Eq.trans (show ((zup J3 164 38 2) : zJ) 164 40 = (J3 164 40) from rfl) (by omega)), (by rw [(show ((zup J3 164 38 2) : zJ) 164 39 = (J3 164 39) from rfl), hE3, hS]; omega)⟩))⟩⟩
                          · refine tz_aload_n (pc := 215) dX12_go_215 rfl rfl ?_
                            refine tz_aload_n (pc := 216) dX12_go_216 rfl rfl ?_
                            refine tz_fI (pc := 217) (kz := 35) (v := (J3 164 35)) dX12_go_217 fl_X12_243 i_164_35 rfl rfl (fun r_217 => ?_)
                            refine tz_aload_n (pc := 220) dX12_go_220 rfl rfl ?_
                            refine tz_fI (pc := 221) (kz := 36) (v := (J3 164 36)) dX12_go_221 fl_X12_246 i_164_36 rfl rfl (fun r_221 => ?_)
                            refine tz_icmp_ne (pc := 224) (tgt := 241) dX12_go_224 (by decide) (by omega) (by omega) (fun h_224 => ?_) (fun h_224 => ?_)
                            · refine tz_sipush (pc := 241) dX12_go_241 (by decide) ?_
                              refine tz_pI (pc := 244) (kz := 39) dX12_go_244 fl_X12_255 i_164_39 rfl rfl (by decide) ?_
                              refine tz_aload_n (pc := 247) dX12_go_247 rfl rfl ?_
                              refine tz_dup (pc := 248) dX12_go_248 rfl ?_
                              refine tz_fI (pc := 249) (kz := 35) (v := (J3 164 35)) dX12_go_249 fl_X12_243 i_164_35 rfl rfl (fun r_249 => ?_)
                              refine tz_iconst (pc := 252) dX12_go_252 ?_
                              refine tz_iadd (pc := 253) (v := (J3 164 35) + 1) dX12_go_253 rfl ?_
                              refine tz_pI (pc := 254) (kz := 35) dX12_go_254 fl_X12_243 i_164_35 rfl rfl (by omega) ?_
                              refine tz_goto (pc := 257) (tgt := 189) dX12_go_257 (by decide) ?_
                              exact ih189 _ (by rw [(show ((zup (zup J3 164 39 999) 164 35 ((J3 164 35) + 1)) : zJ) 164 35 = ((J3 164 35) + 1) from rfl)]; omega) (RGo.up (k := 35) (RGo.up (k := 39) f3 rfl) rfl) (by rw [(show ((zup (zup J3 164 39 999) 164 35 ((J3 164 35) + 1)) : zJ) 164 35 = ((J3 164 35) + 1) from rfl)]; exact ⟨by omega, by omega⟩) (fun q x y => by rw [(show ((zup (zup J3 164 39 999) 164 35 ((J3 164 35) + 1)) : zJ) 164 35 = ((J3 164 35) + 1) from rfl)] at y; exact (Decidable.em (q = J3 164 35)).elim (fun e => by rw [e]; omega) (fun e => al3 q x (by omega))) (Eq.trans (show ((zup (zup J3 164 39 999) 164 35 ((J3 164 35) + 1)) : zJ) 164 36 = (J3 164 36) from rfl) (by omega)) ⟨Eq.trans (show ((zup (zup J3 164 39 999) 164 35 ((J3 164 35) + 1)) : zJ) 164 42 = (J3 164 42) from rfl) (by omega), Eq.trans (show ((zup (zup J3 164 39 999) 164 35 ((J3 164 35) + 1)) : zJ) 164 41 = (J3 164 41) from rfl) (by omega), Eq.trans (show ((zup (zup J3 164 39 999) 164 35 ((J3 164 35) + 1)) : zJ) 164 40 = (J3 164 40) from rfl) (by omega)⟩ (by rw [(show ((zup (zup J3 164 39 999) 164 35 ((J3 164 35) + 1)) : zJ) 164 35 = ((J3 164 35) + 1) from rfl), (show ((zup (zup J3 164 39 999) 164 35 ((J3 164 35) + 1)) : zJ) 164 39 = 999 from rfl)]; rcases vl3 with e9 | e9 | e9 <;> first | (exact Or.inr (Or.inl ⟨by omega, by have q7 := hd_232 (by omega); rw [e9.1] at q7; omega⟩)) | exact Or.inr (Or.inr ⟨by omega, by omega⟩))
                            · refine tz_aload_n (pc := 227) dX12_go_227 rfl rfl ?_
                              refine tz_aload_n (pc := 228) dX12_go_228 rfl rfl ?_
                              refine tz_fI (pc := 229) (kz := 35) (v := (J3 164 35)) dX12_go_229 fl_X12_243 i_164_35 rfl rfl (fun r_229 => ?_)
                              refine tz_cV (pc := 232) (m_byteAt hl n _ _ (by omega) (by omega) (by rw [(show (J3 : zJ) 164 37 = (J 164 37) from (Eq.trans (f3.2 37 rfl) rfl))]; omega)) vl_X12_240 dX12_go_232 o_164 rfl rfl (Nat.le_of_ble_eq_true rfl) ⟨(Nat.le_of_ble_eq_true rfl), (Nat.le_of_ble_eq_true rfl)⟩ rfl rfl (Nat.le_of_ble_eq_true rfl) (Nat.le_of_ble_eq_true rfl) (fun r9 J_232 hq9 => ?_)
                              obtain ⟨z_232, rfl, hz_232, rfl, hb_232, hc_232⟩ := hq9
                              rw [(show (J3 : zJ) 164 37 = (J 164 37) from (Eq.trans (f3.2 37 rfl) rfl))] at hb_232 hc_232
                              have hd_232 : (J3 164 35) < J 164 37 → J 173 (J3 164 35) = z_232 := fun q9 => by have q8 := hc_232 q9; rw [show (J3 : zJ) 173 = J 173 from f3.1 173 rfl] at q8; exact q8
                              refine tz_bipush (pc := 235) dX12_go_235 (by decide) ?_
                              refine tz_isub (pc := 237) (v := z_232 - 48) dX12_go_237 rfl ?_
                              refine tz_goto (pc := 238) (tgt := 244) dX12_go_238 (by decide) ?_
                              refine tz_pI (pc := 244) (kz := 39) dX12_go_244 fl_X12_255 i_164_39 rfl rfl (by omega) ?_
                              refine tz_aload_n (pc := 247) dX12_go_247 rfl rfl ?_
                              refine tz_dup (pc := 248) dX12_go_248 rfl ?_
                              refine tz_fI (pc := 249) (kz := 35) (v := (J3 164 35)) dX12_go_249 fl_X12_243 i_164_35 rfl rfl (fun r_249 => ?_)
                              refine tz_iconst (pc := 252) dX12_go_252 ?_
                              refine tz_iadd (pc := 253) (v := (J3 164 35) + 1) dX12_go_253 rfl ?_
                              refine tz_pI (pc := 254) (kz := 35) dX12_go_254 fl_X12_243 i_164_35 rfl rfl (by omega) ?_
                              refine tz_goto (pc := 257) (tgt := 189) dX12_go_257 (by decide) ?_
                              exact ih189 _ (by rw [(show ((zup (zup J3 164 39 (z_232 - 48)) 164 35 ((J3 164 35) + 1)) : zJ) 164 35 = ((J3 164 35) + 1) from rfl)]; omega) (RGo.up (k := 35) (RGo.up (k := 39) f3 rfl) rfl) (by rw [(show ((zup (zup J3 164 39 (z_232 - 48)) 164 35 ((J3 164 35) + 1)) : zJ) 164 35 = ((J3 164 35) + 1) from rfl)]; exact ⟨by omega, by omega⟩) (fun q x y => by rw [(show ((zup (zup J3 164 39 (z_232 - 48)) 164 35 ((J3 164 35) + 1)) : zJ) 164 35 = ((J3 164 35) + 1) from rfl)] at y; exact (Decidable.em (q = J3 164 35)).elim (fun e => by rw [e]; omega) (fun e => al3 q x (by omega))) (Eq.trans (show ((zup (zup J3 164 39 (z_232 - 48)) 164 35 ((J3 164 35) + 1)) : zJ) 164 36 = (J3 164 36) from rfl) (by omega)) ⟨Eq.trans (show ((zup (zup J3 164 39 (z_232 - 48)) 164 35 ((J3 164 35) + 1)) : zJ) 164 42 = (J3 164 42) from rfl) (by omega), Eq.trans (show ((zup (zup J3 164 39 (z_232 - 48)) 164 35 ((J3 164 35) + 1)) : zJ) 164 41 = (J3 164 41) from rfl) (by omega), Eq.trans (show ((zup (zup J3 164 39 (z_232 - 48)) 164 35 ((J3 164 35) + 1)) : zJ) 164 40 = (J3 164 40) from rfl) (by omega)⟩ (by rw [(show ((zup (zup J3 164 39 (z_232 - 48)) 164 35 ((J3 164 35) + 1)) : zJ) 164 35 = ((J3 164 35) + 1) from rfl), (show ((zup (zup J3 164 39 (z_232 - 48)) 164 35 ((J3 164 35) + 1)) : zJ) 164 39 = (z_232 - 48) from rfl)]; rcases vl3 with e9 | e9 | e9 <;> first | (exact Or.inr (Or.inl ⟨by omega, by have q7 := hd_232 (by omega); rw [e9.1] at q7; omega⟩)) | exact Or.inr (Or.inr ⟨by omega, by omega⟩))
                    exact loop189 _ _ (Nat.lt_succ_self _) (RGo.up (k := 42) (RGo.up (k := 39) (RGo.up (k := 41) (RGo.up (k := 40) (RGo.up (k := 36) f1 rfl) rfl) rfl) rfl) rfl) (by rw [(show ((zup (zup (zup (zup (zup J1 164 36 (J1 164 35)) 164 40 (-1)) 164 41 0) 164 39 0) 164 42 0) : zJ) 164 35 = (J1 164 35) from rfl)]; exact ⟨by omega, by omega⟩) (fun q x y => by rw [(show ((zup (zup (zup (zup (zup J1 164 36 (J1 164 35)) 164 40 (-1)) 164 41 0) 164 39 0) 164 42 0) : zJ) 164 35 = (J1 164 35) from rfl)] at y; omega) (Eq.trans (show ((zup (zup (zup (zup (zup J1 164 36 (J1 164 35)) 164 40 (-1)) 164 41 0) 164 39 0) 164 42 0) : zJ) 164 36 = (J1 164 35) from rfl) (by omega)) ⟨Eq.trans (show ((zup (zup (zup (zup (zup J1 164 36 (J1 164 35)) 164 40 (-1)) 164 41 0) 164 39 0) 164 42 0) : zJ) 164 42 = 0 from rfl) (by omega), Eq.trans (show ((zup (zup (zup (zup (zup J1 164 36 (J1 164 35)) 164 40 (-1)) 164 41 0) 164 39 0) 164 42 0) : zJ) 164 41 = 0 from rfl) (by omega), Eq.trans (show ((zup (zup (zup (zup (zup J1 164 36 (J1 164 35)) 164 40 (-1)) 164 41 0) 164 39 0) 164 42 0) : zJ) 164 40 = (-1) from rfl) (by omega)⟩ (by rw [(show ((zup (zup (zup (zup (zup J1 164 36 (J1 164 35)) 164 40 (-1)) 164 41 0) 164 39 0) 164 42 0) : zJ) 164 35 = (J1 164 35) from rfl), (show ((zup (zup (zup (zup (zup J1 164 36 (J1 164 35)) 164 40 (-1)) 164 41 0) 164 39 0) 164 42 0) : zJ) 164 39 = 0 from rfl)]; omega)
              · have loop113 : ∀ (f9 : Nat) (J2 : zJ), ((J 164 37 - J2 164 35).toNat) < f9 → (RGo J2 J) → (J1 164 35 ≤ J2 164 35 ∧ J2 164 35 ≤ J 164 37) → (∀ q, J1 164 35 ≤ q → q < J2 164 35 → 97 ≤ J 173 q ∧ J 173 q ≤ 122) → (J2 164 36 = J1 164 35) → (J2 164 42 = 0 ∧ J2 164 41 = 0 ∧ J2 164 40 = -1) → tz_At l G M_X12_go (tb_rm 2 0 0) none (tb_ZM G 0 0 (zQ n 0 (zqv (fun J' => RGo J' J ∧ TKM J' (J 173) (tkS (J 173) (J 164 37) (J 164 35)) (tkK (J 173) (J 164 37) (J 164 35)) (tkE (J 173) (J 164 37) (J 164 35))))) (zX n 0 zN)) 0 0 n J2 113 [some (.ref 164), some (zi z_63)] [] := by
                  intro f9
                  induction f9 with
                  | zero => intro J2 hm9; exact absurd hm9 (Nat.not_lt_zero _)
                  | succ f9 ih113 =>
                    intro J2 hm113 f2 le2 al2 pl2 sg2
                    refine tz_aload_n (pc := 113) dX12_go_113 rfl rfl ?_
                    refine tz_aload_n (pc := 114) dX12_go_114 rfl rfl ?_
                    refine tz_fI (pc := 115) (kz := 35) (v := (J2 164 35)) dX12_go_115 fl_X12_243 i_164_35 rfl rfl (fun r_115 => ?_)
                    refine tz_cV (pc := 118) (m_byteAt hl n _ _ (by omega) (by omega) (by rw [(show (J2 : zJ) 164 37 = (J 164 37) from (Eq.trans (f2.2 37 rfl) rfl))]; omega)) vl_X12_240 dX12_go_118 o_164 rfl rfl (Nat.le_of_ble_eq_true rfl) ⟨(Nat.le_of_ble_eq_true rfl), (Nat.le_of_ble_eq_true rfl)⟩ rfl rfl (Nat.le_of_ble_eq_true rfl) (Nat.le_of_ble_eq_true rfl) (fun r9 J_118 hq9 => ?_)
                    obtain ⟨z_118, rfl, hz_118, rfl, hb_118, hc_118⟩ := hq9
                    rw [(show (J2 : zJ) 164 37 = (J 164 37) from (Eq.trans (f2.2 37 rfl) rfl))] at hb_118 hc_118
                    have hd_118 : (J2 164 35) < J 164 37 → J 173 (J2 164 35) = z_118 := fun q9 => by have q8 := hc_118 q9; rw [show (J2 : zJ) 173 = J 173 from f2.1 173 rfl] at q8; exact q8
                    refine tz_cS (pc := 121) (m_isLet hl n _ _ (by omega)) sl_X12_264 dX12_go_121 rfl rfl (Nat.le_of_ble_eq_true rfl) ⟨(Nat.le_of_ble_eq_true rfl), (Nat.le_of_ble_eq_true rfl)⟩ rfl rfl (Nat.le_of_ble_eq_true rfl) (Nat.le_of_ble_eq_true rfl) (fun r9 J_121 hq9 => ?_)
                    obtain ⟨z_121, rfl, hz_121, rfl, hl_121⟩ := hq9
                    refine tz_if_eq (pc := 124) (tgt := 140) dX12_go_124 (by decide) (by omega) (fun h_124 => ?_) (fun h_124 => ?_)
                    · have hf : J 173 (J1 164 35) = z_63 := hd_63 (by omega)
                      have hk2 : kdB (J 173 (J1 164 35)) = 2 := by rw [hf]; exact kd2 (by omega)
                      have lt9 : J1 164 35 < J2 164 35 := by
                        rcases Int.lt_or_eq_of_le le2.1 with e9 | e9
                        · exact e9
                        · exfalso; have e1 := hd_118 (by omega); rw [← e9] at e1; omega
                      have hE2 : tkE (J 173) (J 164 37) (J 164 35) = J2 164 35 := tkE_2 hS (by omega) hk2 (Or.inl rfl) (by omega) le2.2 (fun q x y => kd2 (al2 q (by omega) y)) (by
                        rcases Int.lt_or_eq_of_le le2.2 with e9 | e9
                        · refine Or.inr ?_
                          rw [hd_118 e9]
                          exact kd2' (by omega)
                        · exact Or.inl e9)
                      refine tz_aload_n (pc := 140) dX12_go_140 rfl rfl ?_
                      refine tz_iconst (pc := 141) dX12_go_141 ?_
                      refine tz_pI (pc := 142) (kz := 38) dX12_go_142 fl_X12_261 i_164_38 rfl rfl (by decide) ?_
                      refine tz_aload_n (pc := 145) dX12_go_145 rfl rfl ?_
                      refine tz_aload_n (pc := 146) dX12_go_146 rfl rfl ?_
                      refine tz_fI (pc := 147) (kz := 35) (v := (J2 164 35)) dX12_go_147 fl_X12_243 i_164_35 rfl rfl (fun r_147 => ?_)
                      refine tz_aload_n (pc := 150) dX12_go_150 rfl rfl ?_
                      refine tz_fI (pc := 151) (kz := 36) (v := (J2 164 36)) dX12_go_151 fl_X12_246 i_164_36 rfl rfl (fun r_151 => ?_)
                      refine tz_isub (pc := 154) (v := (J2 164 35) - (J2 164 36)) dX12_go_154 rfl ?_
                      refine tz_pI (pc := 155) (kz := 41) dX12_go_155 fl_X12_252 i_164_41 rfl rfl (by omega) ?_
                      refine tz_aload_n (pc := 158) dX12_go_158 rfl rfl ?_
                      refine tz_aload_n (pc := 159) dX12_go_159 rfl rfl ?_
                      refine tz_aload_n (pc := 160) dX12_go_160 rfl rfl ?_
                      refine tz_fI (pc := 161) (kz := 36) (v := (J2 164 36)) dX12_go_161 fl_X12_246 i_164_36 rfl rfl (fun r_161 => ?_)
                      refine tz_aload_n (pc := 164) dX12_go_164 rfl rfl ?_
                      refine tz_fI (pc := 165) (kz := 35) (v := (J2 164 35)) dX12_go_165 fl_X12_243 i_164_35 rfl rfl (fun r_165 => ?_)
                      refine tz_cV (pc := 168) (x_wordFrom hl n _ _ _ (by omega) (by omega) (by omega) (by rw [(show ((zup (zup J2 164 38 1) 164 41 ((J2 164 35) - (J2 164 36))) : zJ) 164 37 = (J 164 37) from (Eq.trans (f2.2 37 rfl) rfl))]; omega) (by rw [(show ((zup (zup J2 164 38 1) 164 41 ((J2 164 35) - (J2 164 36))) : zJ) 164 37 = (J 164 37) from (Eq.trans (f2.2 37 rfl) rfl))]; omega)) vl_X12_267 dX12_go_168 o_164 rfl rfl (Nat.le_of_ble_eq_true rfl) ⟨(Nat.le_of_ble_eq_true rfl), (Nat.le_of_ble_eq_true rfl)⟩ rfl rfl (Nat.le_of_ble_eq_true rfl) (Nat.le_of_ble_eq_true rfl) (fun r9 J_168 hq9 => ?_)
                      obtain ⟨z_168, rfl, hz_168, rfl, hw⟩ := hq9
                      rw [show ((zup (zup J2 164 38 1) 164 41 ((J2 164 35) - (J2 164 36))) : zJ) 173 = J 173 from f2.1 173 rfl, pl2] at hw
                      refine tz_pI (pc := 171) (kz := 40) dX12_go_171 fl_X12_249 i_164_40 rfl rfl (by omega) ?_
                      refine tz_goto (pc := 174) (tgt := 312) dX12_go_174 (by decide) ?_
                      exact tz_vret (pc := 312) dX12_go_312 rfl (Nat.le_of_ble_eq_true rfl) (Nat.le_of_ble_eq_true rfl) ⟨Nat.le_refl _, Nat.le_add_right _ _⟩ ⟨rfl, ⟨(RGo.up (k := 40) (RGo.up (k := 41) (RGo.up (k := 38) f2 rfl) rfl) rfl), Eq.trans (show ((zup (zup (zup J2 164 38 1) 164 41 ((J2 164 35) - (J2 164 36))) 164 40 z_168) : zJ) 164 36 = (J2 164 36) from rfl) (by rw [hS]; omega), Eq.trans (show ((zup (zup (zup J2 164 38 1) 164 41 ((J2 164 35) - (J2 164 36))) 164 40 z_168) : zJ) 164 35 = (J2 164 35) from rfl) (Eq.symm hE2), Or.inr (Or.inl ⟨(tkK_1 hS (by omega)).trans hk2, (Eq.trans (show ((zup (zup (zup J2 164 38 1) 164 41 ((J2 164 35) - (J2 164 36))) 164 40 z_168) : zJ) 164 38 = 1 from rfl) (by omega)), (Eq.trans (show ((zup (zup (zup J2 164 38 1) 164 41 ((J2 164 35) - (J2 164 36))) 164 40 z_168) : zJ) 164 42 = (J2 164 42) from rfl) (by omega)), Eq.trans (show ((zup (zup (zup J2 164 38 1) 164 41 ((J2 164 35) - (J2 164 36))) 164 40 z_168) : zJ) 164 41 = ((J2 164 35) - (J2 164 36)) from rfl) (by rw [hE2, hS]; omega), (by rw [(show ((zup (zup (zup J2 164 38 1) 164 41 ((J2 164 35) - (J2 164 36))) 164 40 z_168) : zJ) 164 40 = z_168 from rfl), hS, hE2]; exact hw)⟩)⟩⟩
                    · refine tz_aload_n (pc := 127) dX12_go_127 rfl rfl ?_
                      refine tz_dup (pc := 128) dX12_go_128 rfl ?_
                      refine tz_fI (pc := 129) (kz := 35) (v := (J2 164 35)) dX12_go_129 fl_X12_243 i_164_35 rfl rfl (fun r_129 => ?_)
                      refine tz_iconst (pc := 132) dX12_go_132 ?_
                      refine tz_iadd (pc := 133) (v := (J2 164 35) + 1) dX12_go_133 rfl ?_
                      refine tz_pI (pc := 134) (kz := 35) dX12_go_134 fl_X12_243 i_164_35 rfl rfl (by omega) ?_
                      refine tz_goto (pc := 137) (tgt := 113) dX12_go_137 (by decide) ?_
                      exact ih113 _ (by rw [(show ((zup J2 164 35 ((J2 164 35) + 1)) : zJ) 164 35 = ((J2 164 35) + 1) from rfl)]; omega) (RGo.up (k := 35) f2 rfl) (by rw [(show ((zup J2 164 35 ((J2 164 35) + 1)) : zJ) 164 35 = ((J2 164 35) + 1) from rfl)]; exact ⟨by omega, by omega⟩) (fun q x y => by rw [(show ((zup J2 164 35 ((J2 164 35) + 1)) : zJ) 164 35 = ((J2 164 35) + 1) from rfl)] at y; exact (Decidable.em (q = J2 164 35)).elim (fun e => by rw [e]; omega) (fun e => al2 q x (by omega))) (Eq.trans (show ((zup J2 164 35 ((J2 164 35) + 1)) : zJ) 164 36 = (J2 164 36) from rfl) (by omega)) ⟨Eq.trans (show ((zup J2 164 35 ((J2 164 35) + 1)) : zJ) 164 42 = (J2 164 42) from rfl) (by omega), Eq.trans (show ((zup J2 164 35 ((J2 164 35) + 1)) : zJ) 164 41 = (J2 164 41) from rfl) (by omega), Eq.trans (show ((zup J2 164 35 ((J2 164 35) + 1)) : zJ) 164 40 = (J2 164 40) from rfl) (by omega)⟩
                exact loop113 _ _ (Nat.lt_succ_self _) (RGo.up (k := 42) (RGo.up (k := 39) (RGo.up (k := 41) (RGo.up (k := 40) (RGo.up (k := 36) f1 rfl) rfl) rfl) rfl) rfl) (by rw [(show ((zup (zup (zup (zup (zup J1 164 36 (J1 164 35)) 164 40 (-1)) 164 41 0) 164 39 0) 164 42 0) : zJ) 164 35 = (J1 164 35) from rfl)]; exact ⟨by omega, by omega⟩) (fun q x y => by rw [(show ((zup (zup (zup (zup (zup J1 164 36 (J1 164 35)) 164 40 (-1)) 164 41 0) 164 39 0) 164 42 0) : zJ) 164 35 = (J1 164 35) from rfl)] at y; omega) (Eq.trans (show ((zup (zup (zup (zup (zup J1 164 36 (J1 164 35)) 164 40 (-1)) 164 41 0) 164 39 0) 164 42 0) : zJ) 164 36 = (J1 164 35) from rfl) (by omega)) ⟨Eq.trans (show ((zup (zup (zup (zup (zup J1 164 36 (J1 164 35)) 164 40 (-1)) 164 41 0) 164 39 0) 164 42 0) : zJ) 164 42 = 0 from rfl) (by omega), Eq.trans (show ((zup (zup (zup (zup (zup J1 164 36 (J1 164 35)) 164 40 (-1)) 164 41 0) 164 39 0) 164 42 0) : zJ) 164 41 = 0 from rfl) (by omega), Eq.trans (show ((zup (zup (zup (zup (zup J1 164 36 (J1 164 35)) 164 40 (-1)) 164 41 0) 164 39 0) 164 42 0) : zJ) 164 40 = (-1) from rfl) (by omega)⟩
            · refine tz_aload_n (pc := 98) dX12_go_98 rfl rfl ?_
              refine tz_iconst (pc := 99) dX12_go_99 ?_
              refine tz_pI (pc := 100) (kz := 38) dX12_go_100 fl_X12_261 i_164_38 rfl rfl (by decide) ?_
              refine tz_goto (pc := 103) (tgt := 312) dX12_go_103 (by decide) ?_
              exact tz_vret (pc := 312) dX12_go_312 rfl (Nat.le_of_ble_eq_true rfl) (Nat.le_of_ble_eq_true rfl) ⟨Nat.le_refl _, Nat.le_add_right _ _⟩ ⟨rfl, ⟨(RGo.up (k := 38) (RGo.up (k := 42) (RGo.up (k := 39) (RGo.up (k := 41) (RGo.up (k := 40) (RGo.up (k := 36) f1 rfl) rfl) rfl) rfl) rfl) rfl), Eq.trans (show ((zup (zup (zup (zup (zup (zup J1 164 36 (J1 164 35)) 164 40 (-1)) 164 41 0) 164 39 0) 164 42 0) 164 38 0) : zJ) 164 36 = (J1 164 35) from rfl) hS.symm, (Eq.trans (show ((zup (zup (zup (zup (zup (zup J1 164 36 (J1 164 35)) 164 40 (-1)) 164 41 0) 164 39 0) 164 42 0) 164 38 0) : zJ) 164 35 = (J1 164 35) from rfl) (by rw [(tkK_0 hS (by omega)).2]; omega)), Or.inl ⟨(tkK_0 hS (by omega)).1, (Eq.trans (show ((zup (zup (zup (zup (zup (zup J1 164 36 (J1 164 35)) 164 40 (-1)) 164 41 0) 164 39 0) 164 42 0) 164 38 0) : zJ) 164 38 = 0 from rfl) (by omega)), (Eq.trans (show ((zup (zup (zup (zup (zup (zup J1 164 36 (J1 164 35)) 164 40 (-1)) 164 41 0) 164 39 0) 164 42 0) 164 38 0) : zJ) 164 42 = 0 from rfl) (by omega)), (Eq.trans (show ((zup (zup (zup (zup (zup (zup J1 164 36 (J1 164 35)) 164 40 (-1)) 164 41 0) 164 39 0) 164 42 0) 164 38 0) : zJ) 164 41 = 0 from rfl) (by omega)), (Eq.trans (show ((zup (zup (zup (zup (zup (zup J1 164 36 (J1 164 35)) 164 40 (-1)) 164 41 0) 164 39 0) 164 42 0) 164 38 0) : zJ) 164 40 = (-1) from rfl) (by omega))⟩⟩⟩
          · refine tz_aload_n (pc := 37) dX12_go_37 rfl rfl ?_
            refine tz_dup (pc := 38) dX12_go_38 rfl ?_
            refine tz_fI (pc := 39) (kz := 35) (v := (J1 164 35)) dX12_go_39 fl_X12_243 i_164_35 rfl rfl (fun r_39 => ?_)
            refine tz_iconst (pc := 42) dX12_go_42 ?_
            refine tz_iadd (pc := 43) (v := (J1 164 35) + 1) dX12_go_43 rfl ?_
            refine tz_pI (pc := 44) (kz := 35) dX12_go_44 fl_X12_243 i_164_35 rfl rfl (by omega) ?_
            refine tz_goto (pc := 47) (tgt := 0) dX12_go_47 (by decide) ?_
            exact ih0 _ (by rw [(show ((zup J1 164 35 ((J1 164 35) + 1)) : zJ) 164 35 = ((J1 164 35) + 1) from rfl)]; omega) (RGo.up (k := 35) f1 rfl) (by rw [(show ((zup J1 164 35 ((J1 164 35) + 1)) : zJ) 164 35 = ((J1 164 35) + 1) from rfl)]; exact ⟨by omega, by omega⟩) (fun q x y => by rw [(show ((zup J1 164 35 ((J1 164 35) + 1)) : zJ) 164 35 = ((J1 164 35) + 1) from rfl)] at y; exact (Decidable.em (q = J1 164 35)).elim (fun e => by rw [e]; omega) (fun e => al1 q x (by omega)))
  exact loop0 _ _ (Nat.lt_succ_self _) RGo.rf (by rw [(show (J : zJ) 164 35 = (J 164 35) from rfl)]; exact ⟨by omega, by omega⟩) (fun q x y => by rw [(show (J : zJ) 164 35 = (J 164 35) from rfl)] at y; omega)

end
section
set_option maxHeartbeats 4000000 in
set_option maxRecDepth 100000 in
theorem x_isWord {l : Launch} {G : tb_G} (hl : l.stackTraces = false) (n : Nat) (J : zJ)   (bs : List Int32) (hb : bs.length < 1000) (hnb : n ≤ tb_sc) (hD : RD J) : tz_OkP (PS bs) l G M_X5_isWord 4 [.ref 163, .ref tb_sc] n J (zqi (fun z J' => J = J' ∧ ((z = 1 ∧ (J 163 5 = 2 ∧ J 163 7 - J 163 6 = (bs.length : Int) ∧ ∀ q, 0 ≤ q → q < (bs.length : Int) → J 162 (J 163 6 + q) = zch bs q)) ∨ (z = 0 ∧ ¬ (J 163 5 = 2 ∧ J 163 7 - J 163 6 = (bs.length : Int) ∧ ∀ q, 0 ≤ q → q < (bs.length : Int) → J 162 (J 163 6 + q) = zch bs q))))) := by
  refine tz_OkP.of hl (by decide +kernel) rfl (tb_c1 rfl) (Nat.le_of_ble_eq_true rfl) ?_
  show tz_At l G M_X5_isWord (tb_rm 4 0 0) none (ZP (PS bs) (tb_ZM G 0 0 (zQ n 0 (zqi (fun z J' => J = J' ∧ ((z = 1 ∧ (J 163 5 = 2 ∧ J 163 7 - J 163 6 = (bs.length : Int) ∧ ∀ q, 0 ≤ q → q < (bs.length : Int) → J 162 (J 163 6 + q) = zch bs q)) ∨ (z = 0 ∧ ¬ (J 163 5 = 2 ∧ J 163 7 - J 163 6 = (bs.length : Int) ∧ ∀ q, 0 ≤ q → q < (bs.length : Int) → J 162 (J 163 6 + q) = zch bs q)))))) (zX n 0 zN))) 0 0 n J 0 [some (.ref 163), some (.ref tb_sc), none] []
  obtain ⟨⟨hD1, hD2⟩, hD3, hD4⟩ := id hD
  refine tz_aload_n (pc := 0) dX5_isWord_0 rfl rfl ?_
  refine tz_fI (pc := 1) (kz := 5) (v := (J 163 5)) dX5_isWord_1 fl_X5_15 i_163_5 rfl rfl (fun r_1 => ?_)
  refine tz_iconst (pc := 4) dX5_isWord_4 ?_
  refine tz_icmp_ne (pc := 5) (tgt := 24) dX5_isWord_5 (by decide) (by omega) (by decide) (fun h_5 => ?_) (fun h_5 => ?_)
  · refine tz_iconst (pc := 24) dX5_isWord_24 ?_
    refine tz_zp ?_
    exact tz_zret (pc := 25) (z := 0) dX5_isWord_25 rfl (Or.inl rfl) (Nat.le_of_ble_eq_true rfl) (Nat.le_of_ble_eq_true rfl) ⟨Nat.le_refl _, Nat.le_add_right _ _⟩ ⟨_, rfl, (by decide), ⟨rfl, Or.inr ⟨rfl, fun e => by omega⟩⟩⟩
  · refine tz_aload_n (pc := 8) dX5_isWord_8 rfl rfl ?_
    refine tz_fI (pc := 9) (kz := 7) (v := (J 163 7)) dX5_isWord_9 fl_X5_21 i_163_7 rfl rfl (fun r_9 => ?_)
    refine tz_aload_n (pc := 12) dX5_isWord_12 rfl rfl ?_
    refine tz_fI (pc := 13) (kz := 6) (v := (J 163 6)) dX5_isWord_13 fl_X5_18 i_163_6 rfl rfl (fun r_13 => ?_)
    refine tz_isub (pc := 16) (v := (J 163 7) - (J 163 6)) dX5_isWord_16 rfl ?_
    refine tz_aload_n (pc := 17) dX5_isWord_17 rfl rfl ?_
    refine tz_cVP (pc := 18) (as := []) (c_jlen hl n _ bs hb) rfl vr_X5_104 dX5_isWord_18 rfl rfl (Nat.le_of_ble_eq_true rfl) ⟨(Nat.le_of_ble_eq_true rfl), (Nat.le_of_ble_eq_true rfl)⟩ (Nat.le_of_ble_eq_true rfl) (Nat.le_of_ble_eq_true rfl) (fun z_18 J_18 hz_18 hq9 => ?_)
    obtain ⟨rfl, rfl⟩ := hq9
    refine tz_icmp_eq (pc := 21) (tgt := 26) dX5_isWord_21 (by decide) (by omega) (by omega) (fun h_21 => ?_) (fun h_21 => ?_)
    · refine tz_iconst (pc := 26) dX5_isWord_26 ?_
      refine tz_istore_n (pc := 27) (L2 := [_, _, _]) dX5_isWord_27 rfl (by decide) rfl ?_
      have loop28 : ∀ (f9 : Nat) (k : Int), (((bs.length : Int) - k).toNat) < f9 → (0 ≤ k ∧ k ≤ (bs.length : Int)) → (∀ q, 0 ≤ q → q < k → J 162 (J 163 6 + q) = zch bs q) → tz_At l G M_X5_isWord (tb_rm 4 0 0) none (ZP (PS bs) (tb_ZM G 0 0 (zQ n 0 (zqi (fun z J' => J = J' ∧ ((z = 1 ∧ (J 163 5 = 2 ∧ J 163 7 - J 163 6 = (bs.length : Int) ∧ ∀ q, 0 ≤ q → q < (bs.length : Int) → J 162 (J 163 6 + q) = zch bs q)) ∨ (z = 0 ∧ ¬ (J 163 5 = 2 ∧ J 163 7 - J 163 6 = (bs.length : Int) ∧ ∀ q, 0 ≤ q → q < (bs.length : Int) → J 162 (J 163 6 + q) = zch bs q)))))) (zX n 0 zN))) 0 0 n J 28 [some (.ref 163), some (.ref tb_sc), some (zi k)] [] := by
        intro f9
        induction f9 with
        | zero => intro k hm9; exact absurd hm9 (Nat.not_lt_zero _)
        | succ f9 ih28 =>
          intro k hm28 hk hq
          refine tz_iload_n (pc := 28) dX5_isWord_28 rfl rfl ?_
          refine tz_aload_n (pc := 29) dX5_isWord_29 rfl rfl ?_
          refine tz_cVP (pc := 30) (as := []) (c_jlen hl n _ bs hb) rfl vr_X5_104 dX5_isWord_30 rfl rfl (Nat.le_of_ble_eq_true rfl) ⟨(Nat.le_of_ble_eq_true rfl), (Nat.le_of_ble_eq_true rfl)⟩ (Nat.le_of_ble_eq_true rfl) (Nat.le_of_ble_eq_true rfl) (fun z_30 J_30 hz_30 hq9 => ?_)
          obtain ⟨rfl, rfl⟩ := hq9
          refine tz_icmp_ge (pc := 33) (tgt := 63) dX5_isWord_33 (by decide) (by omega) (by omega) (fun h_33 => ?_) (fun h_33 => ?_)
          · refine tz_iconst (pc := 63) dX5_isWord_63 ?_
            refine tz_zp ?_
            exact tz_zret (pc := 64) (z := 1) dX5_isWord_64 rfl (Or.inr rfl) (Nat.le_of_ble_eq_true rfl) (Nat.le_of_ble_eq_true rfl) ⟨Nat.le_refl _, Nat.le_add_right _ _⟩ ⟨_, rfl, (by decide), ⟨rfl, Or.inl ⟨rfl, by omega, by omega, fun q x y => hq q x (by omega)⟩⟩⟩
          · refine tz_aload_n (pc := 36) dX5_isWord_36 rfl rfl ?_
            refine tz_fR (pc := 37) dX5_isWord_37 fl_X5_34 r_163_0 ?_
            refine tz_aload_n (pc := 40) dX5_isWord_40 rfl rfl ?_
            refine tz_fI (pc := 41) (kz := 6) (v := (J 163 6)) dX5_isWord_41 fl_X5_18 i_163_6 rfl rfl (fun r_41 => ?_)
            refine tz_iload_n (pc := 44) dX5_isWord_44 rfl rfl ?_
            refine tz_iadd (pc := 45) (v := (J 163 6) + k) dX5_isWord_45 rfl ?_
            refine tz_aL (pc := 46) (z := ((J 163 6) + k)) (v := (J 162 ((J 163 6) + k))) dX5_isWord_46 a_162 rfl (by omega) rfl (fun r_46 => ?_)
            refine tz_aload_n (pc := 47) dX5_isWord_47 rfl rfl ?_
            refine tz_iload_n (pc := 48) dX5_isWord_48 rfl rfl ?_
            have hc := zch_rg bs k
            refine tz_cVP (pc := 49) (as := [zi k]) (c_jchar hl n _ k (by omega) bs hb hnb (by omega)) rfl vr_X5_109 dX5_isWord_49 rfl rfl (Nat.le_of_ble_eq_true rfl) ⟨(Nat.le_of_ble_eq_true rfl), (Nat.le_of_ble_eq_true rfl)⟩ (Nat.le_of_ble_eq_true rfl) (Nat.le_of_ble_eq_true rfl) (fun z_49 J_49 hz_49 hq9 => ?_)
            obtain ⟨rfl, rfl⟩ := hq9
            refine tz_icmp_eq (pc := 52) (tgt := 57) dX5_isWord_52 (by decide) (by omega) (by omega) (fun h_52 => ?_) (fun h_52 => ?_)
            · refine tz_iinc (pc := 57) (z := k + 1) (L2 := [_, _, _]) dX5_isWord_57 rfl (by omega) rfl ?_
              refine tz_goto (pc := 60) (tgt := 28) dX5_isWord_60 (by decide) ?_
              exact ih28 (k + 1) (by omega) (by omega) (fun q x y => (Decidable.em (q = k)).elim (fun e => by rw [e]; omega) (fun e => hq q x (by omega)))
            · refine tz_iconst (pc := 55) dX5_isWord_55 ?_
              refine tz_zp ?_
              exact tz_zret (pc := 56) (z := 0) dX5_isWord_56 rfl (Or.inl rfl) (Nat.le_of_ble_eq_true rfl) (Nat.le_of_ble_eq_true rfl) ⟨Nat.le_refl _, Nat.le_add_right _ _⟩ ⟨_, rfl, (by decide), ⟨rfl, Or.inr ⟨rfl, fun e => by have := e.2.2 k (by omega) (by omega); omega⟩⟩⟩
      exact loop28 _ 0 (Nat.lt_succ_self _) (by omega) (fun q x y => by omega)
    · refine tz_iconst (pc := 24) dX5_isWord_24 ?_
      refine tz_zp ?_
      exact tz_zret (pc := 25) (z := 0) dX5_isWord_25 rfl (Or.inl rfl) (Nat.le_of_ble_eq_true rfl) (Nat.le_of_ble_eq_true rfl) ⟨Nat.le_refl _, Nat.le_add_right _ _⟩ ⟨_, rfl, (by decide), ⟨rfl, Or.inr ⟨rfl, fun e => by omega⟩⟩⟩

theorem isw_symbol {f : Int → Int} {x y : Int} : (y - x = ((([115, 121, 109, 98, 111, 108] : List Int32).length : Nat) : Int) ∧ ∀ q, 0 ≤ q → q < ((([115, 121, 109, 98, 111, 108] : List Int32).length : Nat) : Int) → f (x + q) = zch ([115, 121, 109, 98, 111, 108] : List Int32) q) ↔ mtB f x y [115, 121, 109, 98, 111, 108] := by
  have hz : ∀ j : Nat, j < 6 → zch ([115, 121, 109, 98, 111, 108] : List Int32) (j : Int) = ([115, 121, 109, 98, 111, 108] : List Int).getD j 0 := fun j hj => by
    rcases (show j = 0 ∨ j = 1 ∨ j = 2 ∨ j = 3 ∨ j = 4 ∨ j = 5 by omega) with e | e | e | e | e | e <;> (subst e; decide)
  constructor
  · rintro ⟨h1, h2⟩
    have h3 : y - x = 6 := h1
    refine ⟨fun j hj => ?_, show y = x + 6 by omega⟩
    have hj9 : j < 6 := hj
    refine ⟨by omega, ?_⟩
    rw [h2 (j : Int) (by omega) (show (j : Int) < 6 by omega)]
    exact hz j hj9
  · rintro ⟨h1, h2⟩
    have h3 : y = x + 6 := h2
    refine ⟨show y - x = 6 by omega, fun q a b => ?_⟩
    have b9 : q < 6 := b
    have := (h1 q.toNat (show q.toNat < 6 by omega)).2
    rw [Int.toNat_of_nonneg a] at this
    rw [this, ← hz q.toNat (by omega), Int.toNat_of_nonneg a]
theorem isw_term {f : Int → Int} {x y : Int} : (y - x = ((([116, 101, 114, 109] : List Int32).length : Nat) : Int) ∧ ∀ q, 0 ≤ q → q < ((([116, 101, 114, 109] : List Int32).length : Nat) : Int) → f (x + q) = zch ([116, 101, 114, 109] : List Int32) q) ↔ mtB f x y [116, 101, 114, 109] := by
  have hz : ∀ j : Nat, j < 4 → zch ([116, 101, 114, 109] : List Int32) (j : Int) = ([116, 101, 114, 109] : List Int).getD j 0 := fun j hj => by
    rcases (show j = 0 ∨ j = 1 ∨ j = 2 ∨ j = 3 by omega) with e | e | e | e <;> (subst e; decide)
  constructor
  · rintro ⟨h1, h2⟩
    have h3 : y - x = 4 := h1
    refine ⟨fun j hj => ?_, show y = x + 4 by omega⟩
    have hj9 : j < 4 := hj
    refine ⟨by omega, ?_⟩
    rw [h2 (j : Int) (by omega) (show (j : Int) < 4 by omega)]
    exact hz j hj9
  · rintro ⟨h1, h2⟩
    have h3 : y = x + 4 := h2
    refine ⟨show y - x = 4 by omega, fun q a b => ?_⟩
    have b9 : q < 4 := b
    have := (h1 q.toNat (show q.toNat < 4 by omega)).2
    rw [Int.toNat_of_nonneg a] at this
    rw [this, ← hz q.toNat (by omega), Int.toNat_of_nonneg a]
theorem isw_rule {f : Int → Int} {x y : Int} : (y - x = ((([114, 117, 108, 101] : List Int32).length : Nat) : Int) ∧ ∀ q, 0 ≤ q → q < ((([114, 117, 108, 101] : List Int32).length : Nat) : Int) → f (x + q) = zch ([114, 117, 108, 101] : List Int32) q) ↔ mtB f x y [114, 117, 108, 101] := by
  have hz : ∀ j : Nat, j < 4 → zch ([114, 117, 108, 101] : List Int32) (j : Int) = ([114, 117, 108, 101] : List Int).getD j 0 := fun j hj => by
    rcases (show j = 0 ∨ j = 1 ∨ j = 2 ∨ j = 3 by omega) with e | e | e | e <;> (subst e; decide)
  constructor
  · rintro ⟨h1, h2⟩
    have h3 : y - x = 4 := h1
    refine ⟨fun j hj => ?_, show y = x + 4 by omega⟩
    have hj9 : j < 4 := hj
    refine ⟨by omega, ?_⟩
    rw [h2 (j : Int) (by omega) (show (j : Int) < 4 by omega)]
    exact hz j hj9
  · rintro ⟨h1, h2⟩
    have h3 : y = x + 4 := h2
    refine ⟨show y - x = 4 by omega, fun q a b => ?_⟩
    have b9 : q < 4 := b
    have := (h1 q.toNat (show q.toNat < 4 by omega)).2
    rw [Int.toNat_of_nonneg a] at this
    rw [this, ← hz q.toNat (by omega), Int.toNat_of_nonneg a]
theorem isw_entry {f : Int → Int} {x y : Int} : (y - x = ((([101, 110, 116, 114, 121] : List Int32).length : Nat) : Int) ∧ ∀ q, 0 ≤ q → q < ((([101, 110, 116, 114, 121] : List Int32).length : Nat) : Int) → f (x + q) = zch ([101, 110, 116, 114, 121] : List Int32) q) ↔ mtB f x y [101, 110, 116, 114, 121] := by
  have hz : ∀ j : Nat, j < 5 → zch ([101, 110, 116, 114, 121] : List Int32) (j : Int) = ([101, 110, 116, 114, 121] : List Int).getD j 0 := fun j hj => by
    rcases (show j = 0 ∨ j = 1 ∨ j = 2 ∨ j = 3 ∨ j = 4 by omega) with e | e | e | e | e <;> (subst e; decide)
  constructor
  · rintro ⟨h1, h2⟩
    have h3 : y - x = 5 := h1
    refine ⟨fun j hj => ?_, show y = x + 5 by omega⟩
    have hj9 : j < 5 := hj
    refine ⟨by omega, ?_⟩
    rw [h2 (j : Int) (by omega) (show (j : Int) < 5 by omega)]
    exact hz j hj9
  · rintro ⟨h1, h2⟩
    have h3 : y = x + 5 := h2
    refine ⟨show y - x = 5 by omega, fun q a b => ?_⟩
    have b9 : q < 5 := b
    have := (h1 q.toNat (show q.toNat < 5 by omega)).2
    rw [Int.toNat_of_nonneg a] at this
    rw [this, ← hz q.toNat (by omega), Int.toNat_of_nonneg a]
theorem isw_room {f : Int → Int} {x y : Int} : (y - x = ((([114, 111, 111, 109] : List Int32).length : Nat) : Int) ∧ ∀ q, 0 ≤ q → q < ((([114, 111, 111, 109] : List Int32).length : Nat) : Int) → f (x + q) = zch ([114, 111, 111, 109] : List Int32) q) ↔ mtB f x y [114, 111, 111, 109] := by
  have hz : ∀ j : Nat, j < 4 → zch ([114, 111, 111, 109] : List Int32) (j : Int) = ([114, 111, 111, 109] : List Int).getD j 0 := fun j hj => by
    rcases (show j = 0 ∨ j = 1 ∨ j = 2 ∨ j = 3 by omega) with e | e | e | e <;> (subst e; decide)
  constructor
  · rintro ⟨h1, h2⟩
    have h3 : y - x = 4 := h1
    refine ⟨fun j hj => ?_, show y = x + 4 by omega⟩
    have hj9 : j < 4 := hj
    refine ⟨by omega, ?_⟩
    rw [h2 (j : Int) (by omega) (show (j : Int) < 4 by omega)]
    exact hz j hj9
  · rintro ⟨h1, h2⟩
    have h3 : y = x + 4 := h2
    refine ⟨show y - x = 4 by omega, fun q a b => ?_⟩
    have b9 : q < 4 := b
    have := (h1 q.toNat (show q.toNat < 4 by omega)).2
    rw [Int.toNat_of_nonneg a] at this
    rw [this, ← hz q.toNat (by omega), Int.toNat_of_nonneg a]
theorem isw_to {f : Int → Int} {x y : Int} : (y - x = ((([116, 111] : List Int32).length : Nat) : Int) ∧ ∀ q, 0 ≤ q → q < ((([116, 111] : List Int32).length : Nat) : Int) → f (x + q) = zch ([116, 111] : List Int32) q) ↔ mtB f x y [116, 111] := by
  have hz : ∀ j : Nat, j < 2 → zch ([116, 111] : List Int32) (j : Int) = ([116, 111] : List Int).getD j 0 := fun j hj => by
    rcases (show j = 0 ∨ j = 1 by omega) with e | e <;> (subst e; decide)
  constructor
  · rintro ⟨h1, h2⟩
    have h3 : y - x = 2 := h1
    refine ⟨fun j hj => ?_, show y = x + 2 by omega⟩
    have hj9 : j < 2 := hj
    refine ⟨by omega, ?_⟩
    rw [h2 (j : Int) (by omega) (show (j : Int) < 2 by omega)]
    exact hz j hj9
  · rintro ⟨h1, h2⟩
    have h3 : y = x + 2 := h2
    refine ⟨show y - x = 2 by omega, fun q a b => ?_⟩
    have b9 : q < 2 := b
    have := (h1 q.toNat (show q.toNat < 2 by omega)).2
    rw [Int.toNat_of_nonneg a] at this
    rw [this, ← hz q.toNat (by omega), Int.toNat_of_nonneg a]
end
section
/-! ===== sums over a term's parts, and which of two is greater: over any table ===== -/
/-- depths fall: what a table of arities and arguments must have -/
def TD (m : Int) (ar : Int → Int) (ag : Int → Int → Int) (dp : Int → Int) : Prop := ∀ t, 0 ≤ t → t < m → (0 ≤ ar t ∧ ar t ≤ 3) ∧ (1 ≤ dp t ∧ dp t ≤ 6) ∧ ∀ i, 0 ≤ i → i < ar t → (0 ≤ ag t i ∧ ag t i < t) ∧ dp (ag t i) < dp t
def sps (f : Int → Int) (ag : Int → Int → Int) (t : Int) : Nat → Int
  | 0 => 0
  | i + 1 => sps f ag t i + f (ag t i)
def sS (g : Int → Int) (ar : Int → Int) (ag : Int → Int → Int) : Nat → Int → Int
  | 0, _ => 0
  | k + 1, t => g t + sps (sS g ar ag k) ag t (ar t).toNat
def sV (g : Int → Int) (ar : Int → Int) (ag : Int → Int → Int) (t : Int) : Int := sS g ar ag 6 t
theorem sps_cg {f g : Int → Int} {ag ag' : Int → Int → Int} {t : Int} : ∀ (n : Nat), (∀ i : Nat, i < n → f (ag t i) = g (ag' t i)) → sps f ag t n = sps g ag' t n
  | 0, _ => rfl
  | n + 1, h => by
    show sps f ag t n + _ = sps g ag' t n + _
    rw [sps_cg n (fun i hi => h i (by omega)), h n (by omega)]
theorem sS_st {m : Int} {g ar dp : Int → Int} {ag : Int → Int → Int} (h : TD m ar ag dp) : ∀ (k k' : Nat) (t : Int), (0 ≤ t ∧ t < m) → dp t ≤ k → dp t ≤ k' → sS g ar ag k t = sS g ar ag k' t
  | 0, _, t, ht, h1, _ => by have := (h t ht.1 ht.2).2.1; omega
  | _ + 1, 0, t, ht, _, h2 => by have := (h t ht.1 ht.2).2.1; omega
  | k + 1, k' + 1, t, ht, h1, h2 => by
    obtain ⟨a, b, c⟩ := h t ht.1 ht.2
    show g t + sps (sS g ar ag k) ag t (ar t).toNat = g t + sps (sS g ar ag k') ag t (ar t).toNat
    congr 1
    refine sps_cg _ (fun i hi => ?_)
    have hb := c (i : Int) (by omega) (by omega)
    exact sS_st h k k' _ ⟨hb.1.1, by omega⟩ (by omega) (by omega)
theorem sV_un {m : Int} {g ar dp : Int → Int} {ag : Int → Int → Int} (h : TD m ar ag dp) {t : Int} (ht : 0 ≤ t ∧ t < m) : sV g ar ag t = g t + sps (sV g ar ag) ag t (ar t).toNat := by
  have := (h t ht.1 ht.2).2.1
  exact sS_st h 6 7 t ht (by omega) (by omega)
/-- two tables that are alike below m have the same sums -/
theorem sV_cg {m : Int} {g g' ar ar' dp : Int → Int} {ag ag' : Int → Int → Int} (h : TD m ar ag dp) (hg : ∀ t, 0 ≤ t → t < m → g' t = g t) (ha : ∀ t, 0 ≤ t → t < m → ar' t = ar t) (hh : ∀ t, 0 ≤ t → t < m → ∀ i, 0 ≤ i → i < ar t → ag' t i = ag t i) : ∀ (k : Nat) (t : Int), (0 ≤ t ∧ t < m) → sS g' ar' ag' k t = sS g ar ag k t
  | 0, _, _ => rfl
  | k + 1, t, ht => by
    obtain ⟨a, b, c⟩ := h t ht.1 ht.2
    show g' t + sps (sS g' ar' ag' k) ag' t (ar' t).toNat = g t + sps (sS g ar ag k) ag t (ar t).toNat
    rw [hg t ht.1 ht.2, ha t ht.1 ht.2]
    congr 1
    refine sps_cg _ (fun i hi => ?_)
    have hb := c (i : Int) (by omega) (by omega)
    rw [hh t ht.1 ht.2 (i : Int) (by omega) (by omega)]
    exact sV_cg h hg ha hh k _ ⟨hb.1.1, by omega⟩
theorem sS_bd {m c : Int} {g ar dp : Int → Int} {ag : Int → Int → Int} (h : TD m ar ag dp) (hg : ∀ t, 0 ≤ t → t < m → 0 ≤ g t ∧ g t ≤ c) : ∀ (k : Nat) (t : Int), (0 ≤ t ∧ t < m) → dp t ≤ k → 0 ≤ sV g ar ag t ∧ sV g ar ag t ≤ c * zB (dp t)
  | 0, t, ht, h1 => by have := (h t ht.1 ht.2).2.1; omega
  | k + 1, t, ht, h1 => by
    obtain ⟨a, b, q⟩ := h t ht.1 ht.2
    have hc : 0 ≤ c := by have := hg t ht.1 ht.2; omega
    rw [sV_un h ht]
    have h0 := hg t ht.1 ht.2
    have hs : ∀ i : Nat, (i : Int) < ar t → 0 ≤ sV g ar ag (ag t i) ∧ sV g ar ag (ag t i) * 3 + c ≤ c * zB (dp t) := fun i hi => by
      have hb := q (i : Int) (by omega) hi
      have h7 := sS_bd h hg k (ag t i) ⟨hb.1.1, by omega⟩ (by omega)
      have h6 := (h (ag t i) hb.1.1 (by omega)).2.1
      have h5 := zB_step hb.2 h6.1 (by omega)
      have h4 : c * (3 * zB (dp (ag t i)) + 1) ≤ c * zB (dp t) := Int.mul_le_mul_of_nonneg_left h5 hc
      have e : c * (3 * zB (dp (ag t i)) + 1) = 3 * (c * zB (dp (ag t i))) + c := by
        rw [Int.mul_add, Int.mul_one, ← Int.mul_assoc, Int.mul_comm c 3, Int.mul_assoc]
      omega
    have h9 : c ≤ c * zB (dp t) := by
      have : c * 1 ≤ c * zB (dp t) := Int.mul_le_mul_of_nonneg_left (zB_rg _).1 hc
      omega
    have hc3 : ar t = 0 ∨ ar t = 1 ∨ ar t = 2 ∨ ar t = 3 := by omega
    have s0 := hs 0
    have s1 := hs 1
    have s2 := hs 2
    rcases hc3 with e | e | e | e <;> rw [e] at s0 s1 s2 ⊢
    · show 0 ≤ g t + 0 ∧ g t + 0 ≤ _
      omega
    · show 0 ≤ g t + (0 + sV g ar ag (ag t (0 : Nat))) ∧ g t + (0 + sV g ar ag (ag t (0 : Nat))) ≤ _
      have := s0 (by decide)
      omega
    · show 0 ≤ g t + (0 + sV g ar ag (ag t (0 : Nat)) + sV g ar ag (ag t (1 : Nat))) ∧ g t + (0 + sV g ar ag (ag t (0 : Nat)) + sV g ar ag (ag t (1 : Nat))) ≤ _
      have := s0 (by decide)
      have := s1 (by decide)
      omega
    · show 0 ≤ g t + (0 + sV g ar ag (ag t (0 : Nat)) + sV g ar ag (ag t (1 : Nat)) + sV g ar ag (ag t (2 : Nat))) ∧ g t + (0 + sV g ar ag (ag t (0 : Nat)) + sV g ar ag (ag t (1 : Nat)) + sV g ar ag (ag t (2 : Nat))) ≤ _
      have := s0 (by decide)
      have := s1 (by decide)
      have := s2 (by decide)
      omega
theorem sV_rg {m c : Int} {g ar dp : Int → Int} {ag : Int → Int → Int} (h : TD m ar ag dp) (hg : ∀ t, 0 ≤ t → t < m → 0 ≤ g t ∧ g t ≤ c) {t : Int} (ht : 0 ≤ t ∧ t < m) : 0 ≤ sV g ar ag t ∧ sV g ar ag t ≤ c * 364 := by
  have h1 := (h t ht.1 ht.2).2.1
  have h2 := sS_bd h hg 6 t ht (by omega)
  have hc : 0 ≤ c := by have := hg t ht.1 ht.2; omega
  have h3 : c * zB (dp t) ≤ c * 364 := Int.mul_le_mul_of_nonneg_left (zB_rg _).2 hc
  omega
theorem sps_s {f : Int → Int} {ag : Int → Int → Int} {t i : Int} (hi : 0 ≤ i) : sps f ag t (i + 1).toNat = sps f ag t i.toNat + f (ag t i) := by
  have e : (i + 1).toNat = i.toNat + 1 := by omega
  rw [e]
  show _ + f (ag t (i.toNat : Int)) = _
  rw [Int.toNat_of_nonneg hi]
/-- the first argument in which two are unlike -/
def fuB (ar : Int → Int) (ag : Int → Int → Int) (s t i : Int) : Prop := (0 ≤ i ∧ i < ar s) ∧ ¬ ag s i = ag t i ∧ ∀ j, 0 ≤ j → j < i → ag s j = ag t j
theorem fuB_u {ar : Int → Int} {ag : Int → Int → Int} {s t i j : Int} (h : fuB ar ag s t i) (g : fuB ar ag s t j) : i = j := by
  rcases Int.lt_trichotomy i j with e | e | e
  · exact absurd (g.2.2 i h.1.1 e) h.2.1
  · exact e
  · exact absurd (h.2.2 j g.1.1 e) g.2.1
/-- which of two terms is greater -/
def gtP (cn : Int → Int → Int) (wt hd ar : Int → Int) (ag : Int → Int → Int) : Nat → Int → Int → Prop
  | 0, _, _ => False
  | k + 1, s, t => ¬ s = t ∧ (∀ v, 0 ≤ v → v < 8 → cn v t ≤ cn v s) ∧ (wt t < wt s ∨ (wt t = wt s ∧ (hd t < 0 ∨ (0 ≤ hd s ∧ 0 ≤ hd t ∧ (hd t < hd s ∨ (hd s = hd t ∧ ∃ i, fuB ar ag s t i ∧ gtP cn wt hd ar ag k (ag s i) (ag t i)))))))
theorem gtP_st {m : Int} {cn : Int → Int → Int} {wt hd ar dp : Int → Int} {ag : Int → Int → Int} (h : TD m ar ag dp) : ∀ (k k' : Nat) (s t : Int), (0 ≤ s ∧ s < m) → dp s ≤ k → dp s ≤ k' → (gtP cn wt hd ar ag k s t ↔ gtP cn wt hd ar ag k' s t)
  | 0, _, s, t, hs, h1, _ => by have := (h s hs.1 hs.2).2.1; omega
  | _ + 1, 0, s, t, hs, _, h2 => by have := (h s hs.1 hs.2).2.1; omega
  | k + 1, k' + 1, s, t, hs, h1, h2 => by
    obtain ⟨a, b, c⟩ := h s hs.1 hs.2
    have e : ∀ i, fuB ar ag s t i → (gtP cn wt hd ar ag k (ag s i) (ag t i) ↔ gtP cn wt hd ar ag k' (ag s i) (ag t i)) := fun i hi => by
      have hb := c i hi.1.1 hi.1.2
      exact gtP_st h k k' _ _ ⟨hb.1.1, by omega⟩ (by omega) (by omega)
    show (¬ s = t ∧ _ ∧ (_ ∨ (_ ∧ (_ ∨ (_ ∧ _ ∧ (_ ∨ (_ ∧ ∃ i, _ ∧ _))))))) ↔ (¬ s = t ∧ _ ∧ (_ ∨ (_ ∧ (_ ∨ (_ ∧ _ ∧ (_ ∨ (_ ∧ ∃ i, _ ∧ _)))))))
    constructor
    · rintro ⟨p1, p2, p3⟩
      refine ⟨p1, p2, p3.imp id (fun ⟨q1, q2⟩ => ⟨q1, q2.imp id (fun ⟨r1, r2, r3⟩ => ⟨r1, r2, r3.imp id (fun ⟨u1, i, u2, u3⟩ => ⟨u1, i, u2, (e i u2).1 u3⟩)⟩)⟩)⟩
    · rintro ⟨p1, p2, p3⟩
      refine ⟨p1, p2, p3.imp id (fun ⟨q1, q2⟩ => ⟨q1, q2.imp id (fun ⟨r1, r2, r3⟩ => ⟨r1, r2, r3.imp id (fun ⟨u1, i, u2, u3⟩ => ⟨u1, i, u2, (e i u2).2 u3⟩)⟩)⟩)⟩
theorem gtP_cg {m : Int} {cn cn' : Int → Int → Int} {wt hd ar wt' hd' ar' dp : Int → Int} {ag ag' : Int → Int → Int} (h : TD m ar ag dp) (hc : ∀ v t, 0 ≤ v → v < 8 → 0 ≤ t → t < m → cn' v t = cn v t) (hw : ∀ t, 0 ≤ t → t < m → wt' t = wt t) (hh : ∀ t, 0 ≤ t → t < m → hd' t = hd t) (ha : ∀ t, 0 ≤ t → t < m → ar' t = ar t) (hg : ∀ t, 0 ≤ t → t < m → ∀ i, 0 ≤ i → i < ar t → ag' t i = ag t i) (hx : ∀ s t, 0 ≤ s → s < m → 0 ≤ t → t < m → hd s = hd t → ar s = ar t) : ∀ (k : Nat) (s t : Int), (0 ≤ s ∧ s < m) → (0 ≤ t ∧ t < m) → (gtP cn' wt' hd' ar' ag' k s t ↔ gtP cn wt hd ar ag k s t)
  | 0, _, _, _, _ => Iff.rfl
  | k + 1, s, t, hs, ht => by
    obtain ⟨a, b, c⟩ := h s hs.1 hs.2
    have e0 : hd s = hd t → ∀ i, (fuB ar' ag' s t i ↔ fuB ar ag s t i) ∧ (fuB ar ag s t i → (gtP cn' wt' hd' ar' ag' k (ag' s i) (ag' t i) ↔ gtP cn wt hd ar ag k (ag s i) (ag t i))) := fun q i => by
      have e1 := hx s t hs.1 hs.2 ht.1 ht.2 q
      have es : ∀ j, 0 ≤ j → j < ar s → ag' s j = ag s j := hg s hs.1 hs.2
      have et : ∀ j, 0 ≤ j → j < ar s → ag' t j = ag t j := fun j x y => hg t ht.1 ht.2 j x (by omega)
      refine ⟨?_, fun hf => ?_⟩
      · unfold fuB
        rw [ha s hs.1 hs.2]
        constructor
        · rintro ⟨p1, p2, p3⟩
          exact ⟨p1, by rw [← es i p1.1 p1.2, ← et i p1.1 p1.2]; exact p2, fun j x y => by rw [← es j x (by omega), ← et j x (by omega)]; exact p3 j x y⟩
        · rintro ⟨p1, p2, p3⟩
          exact ⟨p1, by rw [es i p1.1 p1.2, et i p1.1 p1.2]; exact p2, fun j x y => by rw [es j x (by omega), et j x (by omega)]; exact p3 j x y⟩
      · have hb := c i hf.1.1 hf.1.2
        have hb2 := (h t ht.1 ht.2).2.2 i hf.1.1 (by have := hf.1.2; omega)
        rw [es i hf.1.1 hf.1.2, et i hf.1.1 hf.1.2]
        exact gtP_cg h hc hw hh ha hg hx k _ _ ⟨hb.1.1, by omega⟩ ⟨hb2.1.1, by omega⟩
    show (¬ s = t ∧ (∀ v, 0 ≤ v → v < 8 → cn' v t ≤ cn' v s) ∧ (wt' t < wt' s ∨ (wt' t = wt' s ∧ (hd' t < 0 ∨ (0 ≤ hd' s ∧ 0 ≤ hd' t ∧ (hd' t < hd' s ∨ (hd' s = hd' t ∧ ∃ i, fuB ar' ag' s t i ∧ gtP cn' wt' hd' ar' ag' k (ag' s i) (ag' t i)))))))) ↔ (¬ s = t ∧ (∀ v, 0 ≤ v → v < 8 → cn v t ≤ cn v s) ∧ (wt t < wt s ∨ (wt t = wt s ∧ (hd t < 0 ∨ (0 ≤ hd s ∧ 0 ≤ hd t ∧ (hd t < hd s ∨ (hd s = hd t ∧ ∃ i, fuB ar ag s t i ∧ gtP cn wt hd ar ag k (ag s i) (ag t i))))))))
    rw [hw t ht.1 ht.2, hw s hs.1 hs.2, hh t ht.1 ht.2, hh s hs.1 hs.2]
    constructor
    · rintro ⟨p1, p2, p3⟩
      exact ⟨p1, fun v x y => by rw [← hc v t x y ht.1 ht.2, ← hc v s x y hs.1 hs.2]; exact p2 v x y, p3.imp id (fun ⟨q1, q2⟩ => ⟨q1, q2.imp id (fun ⟨r1, r2, r3⟩ => ⟨r1, r2, r3.imp id (fun ⟨u1, i, u2, u3⟩ => ⟨u1, i, ((e0 u1 i).1).1 u2, ((e0 u1 i).2 (((e0 u1 i).1).1 u2)).1 u3⟩)⟩)⟩)⟩
    · rintro ⟨p1, p2, p3⟩
      exact ⟨p1, fun v x y => by rw [hc v t x y ht.1 ht.2, hc v s x y hs.1 hs.2]; exact p2 v x y, p3.imp id (fun ⟨q1, q2⟩ => ⟨q1, q2.imp id (fun ⟨r1, r2, r3⟩ => ⟨r1, r2, r3.imp id (fun ⟨u1, i, u2, u3⟩ => ⟨u1, i, ((e0 u1 i).1).2 u2, ((e0 u1 i).2 u2).2 u3⟩)⟩)⟩)⟩
end
section
/-! ===== the order of the reference ===== -/
def mgw (J : zJ) (b d t : Int) : Int := if J 166 (b + t) < 0 then 1 else J 171 (d + J 166 (b + t))
def mgc (J : zJ) (b v t : Int) : Int := if J 166 (b + t) = -1 - v then 1 else 0
def mwt (J : zJ) (b d t : Int) : Int := sV (mgw J b d) (mar J b d) (mag J b) t
def mcn (J : zJ) (b d v t : Int) : Int := sV (mgc J b v) (mar J b d) (mag J b) t
def mgt (J : zJ) (b d : Int) (k : Nat) (u t : Int) : Prop := gtP (mcn J b d) (mwt J b d) (fun t => J 166 (b + t)) (mar J b d) (mag J b) k u t
theorem MS.td {J : zJ} {b r d s m : Int} (h : MS J b r d s m) : TD m (mar J b d) (mag J b) (fun t => J 168 (b + t)) := fun t x y => ⟨(h.ar ⟨x, y⟩).1, (h.ar ⟨x, y⟩).2.2.1, fun i u v => h.arg ⟨x, y⟩ ⟨u, v⟩⟩
theorem mgw_rg {J : zJ} {b r d s m : Int} (h : MS J b r d s m) (hw : ∀ k, 0 ≤ k → k < s → 1 ≤ J 171 (d + k) ∧ J 171 (d + k) ≤ 9) : ∀ t, 0 ≤ t → t < m → 0 ≤ mgw J b d t ∧ mgw J b d t ≤ 9 := fun t x y => by
  have h1 := (h.ar ⟨x, y⟩).2.1
  unfold mgw
  split
  · omega
  · have := hw (J 166 (b + t)) (by omega) (by omega)
    omega
theorem mgc_rg {J : zJ} {b v m : Int} : ∀ t, 0 ≤ t → t < m → 0 ≤ mgc J b v t ∧ mgc J b v t ≤ 1 := fun t _ _ => by
  unfold mgc
  split <;> omega
theorem mwt_rg {J : zJ} {b r d s m t : Int} (h : MS J b r d s m) (hw : ∀ k, 0 ≤ k → k < s → 1 ≤ J 171 (d + k) ∧ J 171 (d + k) ≤ 9) (ht : 0 ≤ t ∧ t < m) : 0 ≤ mwt J b d t ∧ mwt J b d t ≤ 9 * 364 := sV_rg h.td (mgw_rg h hw) ht
theorem mcn_rg {J : zJ} {b r d s m v t : Int} (h : MS J b r d s m) (ht : 0 ≤ t ∧ t < m) : 0 ≤ mcn J b d v t ∧ mcn J b d v t ≤ 1 * 364 := sV_rg h.td mgc_rg ht
set_option maxHeartbeats 4000000 in
set_option maxRecDepth 100000 in
theorem x_wHead {l : Launch} {G : tb_G} (hl : l.stackTraces = false) (n : Nat) (J : zJ) (t : Int) (hr_t : -2147483648 ≤ t ∧ t < 2147483648) (b r d s m : Int) (hM : MS J b r d s m) (ht : 0 ≤ t ∧ t < m) : tz_Ok l G M_X12_weightOfHead 2 0 0 [.ref 164, zi t] n J (zqi (fun z J' => J = J' ∧ mgw J b d t = z)) zN := by
  refine tz_Ok.of hl (by decide +kernel) rfl (tb_c1 rfl) (Nat.le_of_ble_eq_true rfl) ?_
  show tz_At l G M_X12_weightOfHead (tb_rm 2 0 0) none (tb_ZM G 0 0 (zQ n 0 (zqi (fun z J' => J = J' ∧ mgw J b d t = z))) (zX n 0 zN)) 0 0 n J 0 [some (.ref 164), some (zi t)] []
  obtain ⟨hM1, hM2, hM3, hM4, hM5, hM6⟩ := id hM
  have hT := hM.told
  have ha := hM.ar ht
  refine tz_aload_n (pc := 0) dX12_weightOfHead_0 rfl rfl ?_
  refine tz_iload_n (pc := 1) dX12_weightOfHead_1 rfl rfl ?_
  refine tz_cV (pc := 2) (m_isVar hl n _ _ (by omega) b r d s m hM (by omega)) vl_X12_78 dX12_weightOfHead_2 o_164 rfl rfl (Nat.le_of_ble_eq_true rfl) ⟨(Nat.le_of_ble_eq_true rfl), (Nat.le_of_ble_eq_true rfl)⟩ rfl rfl (Nat.le_of_ble_eq_true rfl) (Nat.le_of_ble_eq_true rfl) (fun r9 J_2 hq9 => ?_)
  obtain ⟨z_2, rfl, hz_2, rfl, rfl⟩ := hq9
  by_cases hw_5 : J 166 (b + t) < 0
  · rw [show (if J 166 (b + t) < 0 then 1 else 0 : Int) = 1 from if_pos hw_5]
    refine tz_if_eqF (pc := 5) (tgt := 12) (by decide) dX12_weightOfHead_5 (by decide) (by decide) ?_
    refine tz_iconst (pc := 8) dX12_weightOfHead_8 ?_
    refine tz_goto (pc := 9) (tgt := 27) dX12_weightOfHead_9 (by decide) ?_
    exact tz_iret (pc := 27) (z := 1) dX12_weightOfHead_27 rfl (Nat.le_of_ble_eq_true rfl) (Nat.le_of_ble_eq_true rfl) ⟨Nat.le_refl _, Nat.le_add_right _ _⟩ ⟨_, rfl, (by decide), ⟨rfl, by unfold mgw; first | rw [if_pos hw_5] | rw [if_neg hw_5]⟩⟩
  · rw [show (if J 166 (b + t) < 0 then 1 else 0 : Int) = 0 from if_neg hw_5]
    refine tz_if_eqT (pc := 5) (tgt := 12) (by decide) dX12_weightOfHead_5 (by decide) (by decide) ?_
    refine tz_aload_n (pc := 12) dX12_weightOfHead_12 rfl rfl ?_
    refine tz_fR (pc := 13) dX12_weightOfHead_13 fl_X12_28 r_164_6 ?_
    refine tz_aload_n (pc := 16) dX12_weightOfHead_16 rfl rfl ?_
    refine tz_fI (pc := 17) (kz := 17) (v := d) dX12_weightOfHead_17 fl_X12_82 i_164_17 rfl hM4 (fun r_17 => ?_)
    refine tz_aload_n (pc := 20) dX12_weightOfHead_20 rfl rfl ?_
    refine tz_iload_n (pc := 21) dX12_weightOfHead_21 rfl rfl ?_
    refine tz_cV (pc := 22) (m_head hl n _ _ (by omega) b r d s m hM (by omega)) vl_X12_74 dX12_weightOfHead_22 o_164 rfl rfl (Nat.le_of_ble_eq_true rfl) ⟨(Nat.le_of_ble_eq_true rfl), (Nat.le_of_ble_eq_true rfl)⟩ rfl rfl (Nat.le_of_ble_eq_true rfl) (Nat.le_of_ble_eq_true rfl) (fun r9 J_22 hq9 => ?_)
    obtain ⟨z_22, rfl, hz_22, rfl, rfl⟩ := hq9
    refine tz_iadd (pc := 25) (v := d + (J 166 (b + t))) dX12_weightOfHead_25 rfl ?_
    refine tz_aL (pc := 26) (z := (d + (J 166 (b + t)))) (v := (J 171 (d + (J 166 (b + t))))) dX12_weightOfHead_26 a_171 rfl (by omega) rfl (fun r_26 => ?_)
    exact tz_iret (pc := 27) (z := (J 171 (d + (J 166 (b + t))))) dX12_weightOfHead_27 rfl (Nat.le_of_ble_eq_true rfl) (Nat.le_of_ble_eq_true rfl) ⟨Nat.le_refl _, Nat.le_add_right _ _⟩ ⟨_, rfl, (by omega), ⟨rfl, by unfold mgw; first | rw [if_pos hw_5] | rw [if_neg hw_5]⟩⟩

set_option maxHeartbeats 4000000 in
set_option maxRecDepth 100000 in
theorem x_weightR {l : Launch} {G : tb_G} (hl : l.stackTraces = false) (n : Nat) : ∀ (r9 : Nat) (J : zJ) (t : Int) (hr_t : -2147483648 ≤ t ∧ t < 2147483648) (b r d s m : Int) (hM : MS J b r d s m) (ht : 0 ≤ t ∧ t < m) (hw : ∀ k, 0 ≤ k → k < s → 1 ≤ J 171 (d + k) ∧ J 171 (d + k) ≤ 9), ((J 168 (b + t)).toNat) < r9 → tz_Ok l G M_X12_weightOf (3 + 1 * r9) 0 0 [.ref 164, zi t] n J (zqi (fun z J' => J = J' ∧ mwt J b d t = z)) zN := by
  intro r9
  induction r9 with
  | zero => intro J t hr_t b r d s m hM ht hw hm9; exact absurd hm9 (Nat.not_lt_zero _)
  | succ r9 ih =>
    intro J t hr_t b r d s m hM ht hw hm9
    refine tz_Ok.of hl (by decide +kernel) rfl (tb_c1 rfl) (Nat.le_of_ble_eq_true rfl) ?_
    show tz_At l G M_X12_weightOf (tb_rm (3 + 1 * (r9 + 1)) 0 0) none (tb_ZM G 0 0 (zQ n 0 (zqi (fun z J' => J = J' ∧ mwt J b d t = z))) (zX n 0 zN)) 0 0 n J 0 [some (.ref 164), some (zi t), none, none] []
    obtain ⟨hM1, hM2, hM3, hM4, hM5, hM6⟩ := id hM
    have hT := hM.told
    have ha := hM.ar ht
    have hU := sV_un (g := mgw J b d) hM.td ht
    have hG0 := mgw_rg hM hw t ht.1 ht.2
    refine tz_aload_n (pc := 0) dX12_weightOf_0 rfl rfl ?_
    refine tz_iload_n (pc := 1) dX12_weightOf_1 rfl rfl ?_
    refine tz_cV (pc := 2) (x_wHead hl n _ _ (by omega) b r d s m hM ht) vl_X12_117 dX12_weightOf_2 o_164 rfl rfl (Nat.le_of_ble_eq_true rfl) ⟨(show 2 + 1 ≤ 3 + 1 * (r9 + 1) by omega), (show 8 + (2 + 11) + 40 * (2) ≤ 40 * (3 + 1 * (r9 + 1)) by omega)⟩ rfl rfl (Nat.le_of_ble_eq_true rfl) (Nat.le_of_ble_eq_true rfl) (fun r9 J_2 hq9 => ?_)
    obtain ⟨z_2, rfl, hz_2, rfl, rfl⟩ := hq9
    refine tz_istore_n (pc := 5) (L2 := [_, _, _, _]) dX12_weightOf_5 rfl (by decide) rfl ?_
    refine tz_iconst (pc := 6) dX12_weightOf_6 ?_
    refine tz_istore_n (pc := 7) (L2 := [_, _, _, _]) dX12_weightOf_7 rfl (by decide) rfl ?_
    have loop8 : ∀ (f9 : Nat) (q : Int) (i : Int), ((3 - i).toNat) < f9 → (0 ≤ i ∧ i ≤ mar J b d t) → (q = mgw J b d t + sps (mwt J b d) (mag J b) t i.toNat) → (0 ≤ q ∧ q ≤ 9 + 4000 * i) → tz_At l G M_X12_weightOf (tb_rm (3 + 1 * (r9 + 1)) 0 0) none (tb_ZM G 0 0 (zQ n 0 (zqi (fun z J' => J = J' ∧ mwt J b d t = z))) (zX n 0 zN)) 0 0 n J 8 [some (.ref 164), some (zi t), some (zi q), some (zi i)] [] := by
      intro f9
      induction f9 with
      | zero => intro q i hm9; exact absurd hm9 (Nat.not_lt_zero _)
      | succ f9 ih8 =>
        intro q i hm8 hi hq hr
        refine tz_iload_n (pc := 8) dX12_weightOf_8 rfl rfl ?_
        refine tz_aload_n (pc := 9) dX12_weightOf_9 rfl rfl ?_
        refine tz_iload_n (pc := 10) dX12_weightOf_10 rfl rfl ?_
        refine tz_cV (pc := 11) (m_arity hl n _ _ (by omega) b r d s m hM (by omega)) vl_X12_111 dX12_weightOf_11 o_164 rfl rfl (Nat.le_of_ble_eq_true rfl) ⟨(show 2 + 1 ≤ 3 + 1 * (r9 + 1) by omega), (show 8 + (2 + 11) + 40 * (2) ≤ 40 * (3 + 1 * (r9 + 1)) by omega)⟩ rfl rfl (Nat.le_of_ble_eq_true rfl) (Nat.le_of_ble_eq_true rfl) (fun r9 J_11 hq9 => ?_)
        obtain ⟨z_11, rfl, hz_11, rfl, rfl⟩ := hq9
        refine tz_icmp_ge (pc := 14) (tgt := 36) dX12_weightOf_14 (by decide) (by omega) (by omega) (fun h_14 => ?_) (fun h_14 => ?_)
        · refine tz_iload_n (pc := 36) dX12_weightOf_36 rfl rfl ?_
          exact tz_iret (pc := 37) (z := q) dX12_weightOf_37 rfl (Nat.le_of_ble_eq_true rfl) (Nat.le_of_ble_eq_true rfl) ⟨Nat.le_refl _, Nat.le_add_right _ _⟩ ⟨_, rfl, (by omega), ⟨rfl, by show mwt J b d t = q; unfold mwt; rw [hU, hq, show (mar J b d t).toNat = i.toNat by omega]; rfl⟩⟩
        · refine tz_iload_n (pc := 17) dX12_weightOf_17 rfl rfl ?_
          refine tz_aload_n (pc := 18) dX12_weightOf_18 rfl rfl ?_
          refine tz_aload_n (pc := 19) dX12_weightOf_19 rfl rfl ?_
          refine tz_iload_n (pc := 20) dX12_weightOf_20 rfl rfl ?_
          refine tz_iload_n (pc := 21) dX12_weightOf_21 rfl rfl ?_
          refine tz_cV (pc := 22) (m_arg hl n _ _ _ (by omega) (by omega) b r d s m hM (by omega) (by omega)) vl_X12_88 dX12_weightOf_22 o_164 rfl rfl (Nat.le_of_ble_eq_true rfl) ⟨(show 0 + 1 ≤ 3 + 1 * (r9 + 1) by omega), (show 8 + (3 + 11) + 40 * (0) ≤ 40 * (3 + 1 * (r9 + 1)) by omega)⟩ rfl rfl (Nat.le_of_ble_eq_true rfl) (Nat.le_of_ble_eq_true rfl) (fun r9 J_22 hq9 => ?_)
          obtain ⟨z_22, rfl, hz_22, rfl, rfl⟩ := hq9
          have hg := hM.arg (t := t) (i := i) ht (by omega)
          have hb9 := mwt_rg hM hw (t := (J 167 (3 * (b + t) + i))) (by omega)
          refine tz_cV (pc := 25) (ih _ _ (by omega) b r d s m hM (by omega) hw (by omega)) vl_X12_120 dX12_weightOf_25 o_164 rfl rfl (Nat.le_of_ble_eq_true rfl) ⟨(show (3 + 1 * r9) + 1 ≤ 3 + 1 * (r9 + 1) by omega), (show 8 + (4 + 11) + 40 * ((3 + 1 * r9)) ≤ 40 * (3 + 1 * (r9 + 1)) by omega)⟩ rfl rfl (Nat.le_of_ble_eq_true rfl) (Nat.le_of_ble_eq_true rfl) (fun r9 J_25 hq9 => ?_)
          obtain ⟨z_25, rfl, hz_25, rfl, rfl⟩ := hq9
          refine tz_iadd (pc := 28) (v := q + (mwt J b d (J 167 (3 * (b + t) + i)))) dX12_weightOf_28 rfl ?_
          refine tz_istore_n (pc := 29) (L2 := [_, _, _, _]) dX12_weightOf_29 rfl (by decide) rfl ?_
          refine tz_iinc (pc := 30) (z := i + 1) (L2 := [_, _, _, _]) dX12_weightOf_30 rfl (by omega) rfl ?_
          refine tz_goto (pc := 33) (tgt := 8) dX12_weightOf_33 (by decide) ?_
          exact ih8 _ (i + 1) (by omega) (by omega) (by rw [sps_s hi.1, hq]; show _ = mgw J b d t + (sps (mwt J b d) (mag J b) t i.toNat + mwt J b d (J 167 (3 * (b + t) + i))); omega) (by omega)
    exact loop8 _ _ 0 (Nat.lt_succ_self _) (by omega) (by show _ = _ + 0; omega) (by omega)

set_option maxHeartbeats 4000000 in
set_option maxRecDepth 100000 in
theorem x_timesR {l : Launch} {G : tb_G} (hl : l.stackTraces = false) (n : Nat) : ∀ (r9 : Nat) (J : zJ) (t : Int) (v : Int) (hr_t : -2147483648 ≤ t ∧ t < 2147483648) (hr_v : -2147483648 ≤ v ∧ v < 2147483648) (b r d s m : Int) (hM : MS J b r d s m) (ht : 0 ≤ t ∧ t < m) (hv : 0 ≤ v ∧ v < 8), ((J 168 (b + t)).toNat) < r9 → tz_Ok l G M_X12_timesOf (3 + 1 * r9) 0 0 [.ref 164, zi t, zi v] n J (zqi (fun z J' => J = J' ∧ mcn J b d v t = z)) zN := by
  intro r9
  induction r9 with
  | zero => intro J t v hr_t hr_v b r d s m hM ht hv hm9; exact absurd hm9 (Nat.not_lt_zero _)
  | succ r9 ih =>
    intro J t v hr_t hr_v b r d s m hM ht hv hm9
    refine tz_Ok.of hl (by decide +kernel) rfl (tb_c1 rfl) (Nat.le_of_ble_eq_true rfl) ?_
    show tz_At l G M_X12_timesOf (tb_rm (3 + 1 * (r9 + 1)) 0 0) none (tb_ZM G 0 0 (zQ n 0 (zqi (fun z J' => J = J' ∧ mcn J b d v t = z))) (zX n 0 zN)) 0 0 n J 0 [some (.ref 164), some (zi t), some (zi v), none, none] []
    obtain ⟨hM1, hM2, hM3, hM4, hM5, hM6⟩ := id hM
    have hT := hM.told
    have ha := hM.ar ht
    have hU := sV_un (g := mgc J b v) hM.td ht
    have hG0 := trivial
    refine tz_aload_n (pc := 0) dX12_timesOf_0 rfl rfl ?_
    refine tz_iload_n (pc := 1) dX12_timesOf_1 rfl rfl ?_
    refine tz_cV (pc := 2) (m_isVar hl n _ _ (by omega) b r d s m hM (by omega)) vl_X12_78 dX12_timesOf_2 o_164 rfl rfl (Nat.le_of_ble_eq_true rfl) ⟨(show 1 + 1 ≤ 3 + 1 * (r9 + 1) by omega), (show 8 + (2 + 11) + 40 * (1) ≤ 40 * (3 + 1 * (r9 + 1)) by omega)⟩ rfl rfl (Nat.le_of_ble_eq_true rfl) (Nat.le_of_ble_eq_true rfl) (fun r9 J_2 hq9 => ?_)
    obtain ⟨z_2, rfl, hz_2, rfl, rfl⟩ := hq9
    by_cases hw_5 : J 166 (b + t) < 0
    · rw [show (if J 166 (b + t) < 0 then 1 else 0 : Int) = 1 from if_pos hw_5]
      refine tz_if_eqF (pc := 5) (tgt := 21) (by decide) dX12_timesOf_5 (by decide) (by decide) ?_
      refine tz_aload_n (pc := 8) dX12_timesOf_8 rfl rfl ?_
      refine tz_iload_n (pc := 9) dX12_timesOf_9 rfl rfl ?_
      refine tz_cV (pc := 10) (m_varOf hl n _ _ (by omega) b r d s m hM (by omega)) vl_X12_123 dX12_timesOf_10 o_164 rfl rfl (Nat.le_of_ble_eq_true rfl) ⟨(show 1 + 1 ≤ 3 + 1 * (r9 + 1) by omega), (show 8 + (2 + 11) + 40 * (1) ≤ 40 * (3 + 1 * (r9 + 1)) by omega)⟩ rfl rfl (Nat.le_of_ble_eq_true rfl) (Nat.le_of_ble_eq_true rfl) (fun r9 J_10 hq9 => ?_)
      obtain ⟨z_10, rfl, hz_10, rfl, rfl⟩ := hq9
      refine tz_iload_n (pc := 13) dX12_timesOf_13 rfl rfl ?_
      refine tz_icmp_ne (pc := 14) (tgt := 21) dX12_timesOf_14 (by decide) (by omega) (by omega) (fun h_14 => ?_) (fun h_14 => ?_)
      · refine tz_iconst (pc := 21) dX12_timesOf_21 ?_
        refine tz_istore_n (pc := 22) (L2 := [_, _, _, _, _]) dX12_timesOf_22 rfl (by decide) rfl ?_
        refine tz_iconst (pc := 23) dX12_timesOf_23 ?_
        refine tz_istore (pc := 24) (L2 := [_, _, _, _, _]) dX12_timesOf_24 (by decide) rfl ?_
        have loop26 : ∀ (f9 : Nat) (q : Int) (i : Int), ((3 - i).toNat) < f9 → (0 ≤ i ∧ i ≤ mar J b d t) → (q = mgc J b v t + sps (mcn J b d v) (mag J b) t i.toNat) → (0 ≤ q ∧ q ≤ 9 + 4000 * i) → tz_At l G M_X12_timesOf (tb_rm (3 + 1 * (r9 + 1)) 0 0) none (tb_ZM G 0 0 (zQ n 0 (zqi (fun z J' => J = J' ∧ mcn J b d v t = z))) (zX n 0 zN)) 0 0 n J 26 [some (.ref 164), some (zi t), some (zi v), some (zi q), some (zi i)] [] := by
          intro f9
          induction f9 with
          | zero => intro q i hm9; exact absurd hm9 (Nat.not_lt_zero _)
          | succ f9 ih26 =>
            intro q i hm26 hi hq hr
            refine tz_iload (pc := 26) dX12_timesOf_26 rfl ?_
            refine tz_aload_n (pc := 28) dX12_timesOf_28 rfl rfl ?_
            refine tz_iload_n (pc := 29) dX12_timesOf_29 rfl rfl ?_
            refine tz_cV (pc := 30) (m_arity hl n _ _ (by omega) b r d s m hM (by omega)) vl_X12_111 dX12_timesOf_30 o_164 rfl rfl (Nat.le_of_ble_eq_true rfl) ⟨(show 2 + 1 ≤ 3 + 1 * (r9 + 1) by omega), (show 8 + (2 + 11) + 40 * (2) ≤ 40 * (3 + 1 * (r9 + 1)) by omega)⟩ rfl rfl (Nat.le_of_ble_eq_true rfl) (Nat.le_of_ble_eq_true rfl) (fun r9 J_30 hq9 => ?_)
            obtain ⟨z_30, rfl, hz_30, rfl, rfl⟩ := hq9
            refine tz_icmp_ge (pc := 33) (tgt := 57) dX12_timesOf_33 (by decide) (by omega) (by omega) (fun h_33 => ?_) (fun h_33 => ?_)
            · refine tz_iload_n (pc := 57) dX12_timesOf_57 rfl rfl ?_
              exact tz_iret (pc := 58) (z := q) dX12_timesOf_58 rfl (Nat.le_of_ble_eq_true rfl) (Nat.le_of_ble_eq_true rfl) ⟨Nat.le_refl _, Nat.le_add_right _ _⟩ ⟨_, rfl, (by omega), ⟨rfl, by show mcn J b d v t = q; unfold mcn; rw [hU, hq, show (mar J b d t).toNat = i.toNat by omega]; rfl⟩⟩
            · refine tz_iload_n (pc := 36) dX12_timesOf_36 rfl rfl ?_
              refine tz_aload_n (pc := 37) dX12_timesOf_37 rfl rfl ?_
              refine tz_aload_n (pc := 38) dX12_timesOf_38 rfl rfl ?_
              refine tz_iload_n (pc := 39) dX12_timesOf_39 rfl rfl ?_
              refine tz_iload (pc := 40) dX12_timesOf_40 rfl ?_
              refine tz_cV (pc := 42) (m_arg hl n _ _ _ (by omega) (by omega) b r d s m hM (by omega) (by omega)) vl_X12_88 dX12_timesOf_42 o_164 rfl rfl (Nat.le_of_ble_eq_true rfl) ⟨(show 0 + 1 ≤ 3 + 1 * (r9 + 1) by omega), (show 8 + (3 + 11) + 40 * (0) ≤ 40 * (3 + 1 * (r9 + 1)) by omega)⟩ rfl rfl (Nat.le_of_ble_eq_true rfl) (Nat.le_of_ble_eq_true rfl) (fun r9 J_42 hq9 => ?_)
              obtain ⟨z_42, rfl, hz_42, rfl, rfl⟩ := hq9
              refine tz_iload_n (pc := 45) dX12_timesOf_45 rfl rfl ?_
              have hg := hM.arg (t := t) (i := i) ht (by omega)
              have hb9 := mcn_rg hM (v := v) (t := (J 167 (3 * (b + t) + i))) (by omega)
              refine tz_cV (pc := 46) (ih _ _ _ (by omega) (by omega) b r d s m hM (by omega) (by omega) (by omega)) vl_X12_129 dX12_timesOf_46 o_164 rfl rfl (Nat.le_of_ble_eq_true rfl) ⟨(show (3 + 1 * r9) + 1 ≤ 3 + 1 * (r9 + 1) by omega), (show 8 + (5 + 11) + 40 * ((3 + 1 * r9)) ≤ 40 * (3 + 1 * (r9 + 1)) by omega)⟩ rfl rfl (Nat.le_of_ble_eq_true rfl) (Nat.le_of_ble_eq_true rfl) (fun r9 J_46 hq9 => ?_)
              obtain ⟨z_46, rfl, hz_46, rfl, rfl⟩ := hq9
              refine tz_iadd (pc := 49) (v := q + (mcn J b d v (J 167 (3 * (b + t) + i)))) dX12_timesOf_49 rfl ?_
              refine tz_istore_n (pc := 50) (L2 := [_, _, _, _, _]) dX12_timesOf_50 rfl (by decide) rfl ?_
              refine tz_iinc (pc := 51) (z := i + 1) (L2 := [_, _, _, _, _]) dX12_timesOf_51 rfl (by omega) rfl ?_
              refine tz_goto (pc := 54) (tgt := 26) dX12_timesOf_54 (by decide) ?_
              exact ih26 _ (i + 1) (by omega) (by omega) (by rw [sps_s hi.1, hq]; show _ = mgc J b v t + (sps (mcn J b d v) (mag J b) t i.toNat + mcn J b d v (J 167 (3 * (b + t) + i))); omega) (by omega)
        exact loop26 _ _ 0 (Nat.lt_succ_self _) (by omega) (by show _ = _ + 0; unfold mgc; first | (rw [if_pos (by omega)]; rfl) | (rw [if_neg (by omega)]; rfl)) (by omega)
      · refine tz_iconst (pc := 17) dX12_timesOf_17 ?_
        refine tz_goto (pc := 18) (tgt := 22) dX12_timesOf_18 (by decide) ?_
        refine tz_istore_n (pc := 22) (L2 := [_, _, _, _, _]) dX12_timesOf_22 rfl (by decide) rfl ?_
        refine tz_iconst (pc := 23) dX12_timesOf_23 ?_
        refine tz_istore (pc := 24) (L2 := [_, _, _, _, _]) dX12_timesOf_24 (by decide) rfl ?_
        have loop26 : ∀ (f9 : Nat) (q : Int) (i : Int), ((3 - i).toNat) < f9 → (0 ≤ i ∧ i ≤ mar J b d t) → (q = mgc J b v t + sps (mcn J b d v) (mag J b) t i.toNat) → (0 ≤ q ∧ q ≤ 9 + 4000 * i) → tz_At l G M_X12_timesOf (tb_rm (3 + 1 * (r9 + 1)) 0 0) none (tb_ZM G 0 0 (zQ n 0 (zqi (fun z J' => J = J' ∧ mcn J b d v t = z))) (zX n 0 zN)) 0 0 n J 26 [some (.ref 164), some (zi t), some (zi v), some (zi q), some (zi i)] [] := by
          intro f9
          induction f9 with
          | zero => intro q i hm9; exact absurd hm9 (Nat.not_lt_zero _)
          | succ f9 ih26 =>
            intro q i hm26 hi hq hr
            refine tz_iload (pc := 26) dX12_timesOf_26 rfl ?_
            refine tz_aload_n (pc := 28) dX12_timesOf_28 rfl rfl ?_
            refine tz_iload_n (pc := 29) dX12_timesOf_29 rfl rfl ?_
            refine tz_cV (pc := 30) (m_arity hl n _ _ (by omega) b r d s m hM (by omega)) vl_X12_111 dX12_timesOf_30 o_164 rfl rfl (Nat.le_of_ble_eq_true rfl) ⟨(show 2 + 1 ≤ 3 + 1 * (r9 + 1) by omega), (show 8 + (2 + 11) + 40 * (2) ≤ 40 * (3 + 1 * (r9 + 1)) by omega)⟩ rfl rfl (Nat.le_of_ble_eq_true rfl) (Nat.le_of_ble_eq_true rfl) (fun r9 J_30 hq9 => ?_)
            obtain ⟨z_30, rfl, hz_30, rfl, rfl⟩ := hq9
            refine tz_icmp_ge (pc := 33) (tgt := 57) dX12_timesOf_33 (by decide) (by omega) (by omega) (fun h_33 => ?_) (fun h_33 => ?_)
            · refine tz_iload_n (pc := 57) dX12_timesOf_57 rfl rfl ?_
              exact tz_iret (pc := 58) (z := q) dX12_timesOf_58 rfl (Nat.le_of_ble_eq_true rfl) (Nat.le_of_ble_eq_true rfl) ⟨Nat.le_refl _, Nat.le_add_right _ _⟩ ⟨_, rfl, (by omega), ⟨rfl, by show mcn J b d v t = q; unfold mcn; rw [hU, hq, show (mar J b d t).toNat = i.toNat by omega]; rfl⟩⟩
            · refine tz_iload_n (pc := 36) dX12_timesOf_36 rfl rfl ?_
              refine tz_aload_n (pc := 37) dX12_timesOf_37 rfl rfl ?_
              refine tz_aload_n (pc := 38) dX12_timesOf_38 rfl rfl ?_
              refine tz_iload_n (pc := 39) dX12_timesOf_39 rfl rfl ?_
              refine tz_iload (pc := 40) dX12_timesOf_40 rfl ?_
              refine tz_cV (pc := 42) (m_arg hl n _ _ _ (by omega) (by omega) b r d s m hM (by omega) (by omega)) vl_X12_88 dX12_timesOf_42 o_164 rfl rfl (Nat.le_of_ble_eq_true rfl) ⟨(show 0 + 1 ≤ 3 + 1 * (r9 + 1) by omega), (show 8 + (3 + 11) + 40 * (0) ≤ 40 * (3 + 1 * (r9 + 1)) by omega)⟩ rfl rfl (Nat.le_of_ble_eq_true rfl) (Nat.le_of_ble_eq_true rfl) (fun r9 J_42 hq9 => ?_)
              obtain ⟨z_42, rfl, hz_42, rfl, rfl⟩ := hq9
              refine tz_iload_n (pc := 45) dX12_timesOf_45 rfl rfl ?_
              have hg := hM.arg (t := t) (i := i) ht (by omega)
              have hb9 := mcn_rg hM (v := v) (t := (J 167 (3 * (b + t) + i))) (by omega)
              refine tz_cV (pc := 46) (ih _ _ _ (by omega) (by omega) b r d s m hM (by omega) (by omega) (by omega)) vl_X12_129 dX12_timesOf_46 o_164 rfl rfl (Nat.le_of_ble_eq_true rfl) ⟨(show (3 + 1 * r9) + 1 ≤ 3 + 1 * (r9 + 1) by omega), (show 8 + (5 + 11) + 40 * ((3 + 1 * r9)) ≤ 40 * (3 + 1 * (r9 + 1)) by omega)⟩ rfl rfl (Nat.le_of_ble_eq_true rfl) (Nat.le_of_ble_eq_true rfl) (fun r9 J_46 hq9 => ?_)
              obtain ⟨z_46, rfl, hz_46, rfl, rfl⟩ := hq9
              refine tz_iadd (pc := 49) (v := q + (mcn J b d v (J 167 (3 * (b + t) + i)))) dX12_timesOf_49 rfl ?_
              refine tz_istore_n (pc := 50) (L2 := [_, _, _, _, _]) dX12_timesOf_50 rfl (by decide) rfl ?_
              refine tz_iinc (pc := 51) (z := i + 1) (L2 := [_, _, _, _, _]) dX12_timesOf_51 rfl (by omega) rfl ?_
              refine tz_goto (pc := 54) (tgt := 26) dX12_timesOf_54 (by decide) ?_
              exact ih26 _ (i + 1) (by omega) (by omega) (by rw [sps_s hi.1, hq]; show _ = mgc J b v t + (sps (mcn J b d v) (mag J b) t i.toNat + mcn J b d v (J 167 (3 * (b + t) + i))); omega) (by omega)
        exact loop26 _ _ 0 (Nat.lt_succ_self _) (by omega) (by show _ = _ + 0; unfold mgc; first | (rw [if_pos (by omega)]; rfl) | (rw [if_neg (by omega)]; rfl)) (by omega)
    · rw [show (if J 166 (b + t) < 0 then 1 else 0 : Int) = 0 from if_neg hw_5]
      refine tz_if_eqT (pc := 5) (tgt := 21) (by decide) dX12_timesOf_5 (by decide) (by decide) ?_
      refine tz_iconst (pc := 21) dX12_timesOf_21 ?_
      refine tz_istore_n (pc := 22) (L2 := [_, _, _, _, _]) dX12_timesOf_22 rfl (by decide) rfl ?_
      refine tz_iconst (pc := 23) dX12_timesOf_23 ?_
      refine tz_istore (pc := 24) (L2 := [_, _, _, _, _]) dX12_timesOf_24 (by decide) rfl ?_
      have loop26 : ∀ (f9 : Nat) (q : Int) (i : Int), ((3 - i).toNat) < f9 → (0 ≤ i ∧ i ≤ mar J b d t) → (q = mgc J b v t + sps (mcn J b d v) (mag J b) t i.toNat) → (0 ≤ q ∧ q ≤ 9 + 4000 * i) → tz_At l G M_X12_timesOf (tb_rm (3 + 1 * (r9 + 1)) 0 0) none (tb_ZM G 0 0 (zQ n 0 (zqi (fun z J' => J = J' ∧ mcn J b d v t = z))) (zX n 0 zN)) 0 0 n J 26 [some (.ref 164), some (zi t), some (zi v), some (zi q), some (zi i)] [] := by
        intro f9
        induction f9 with
        | zero => intro q i hm9; exact absurd hm9 (Nat.not_lt_zero _)
        | succ f9 ih26 =>
          intro q i hm26 hi hq hr
          refine tz_iload (pc := 26) dX12_timesOf_26 rfl ?_
          refine tz_aload_n (pc := 28) dX12_timesOf_28 rfl rfl ?_
          refine tz_iload_n (pc := 29) dX12_timesOf_29 rfl rfl ?_
          refine tz_cV (pc := 30) (m_arity hl n _ _ (by omega) b r d s m hM (by omega)) vl_X12_111 dX12_timesOf_30 o_164 rfl rfl (Nat.le_of_ble_eq_true rfl) ⟨(show 2 + 1 ≤ 3 + 1 * (r9 + 1) by omega), (show 8 + (2 + 11) + 40 * (2) ≤ 40 * (3 + 1 * (r9 + 1)) by omega)⟩ rfl rfl (Nat.le_of_ble_eq_true rfl) (Nat.le_of_ble_eq_true rfl) (fun r9 J_30 hq9 => ?_)
          obtain ⟨z_30, rfl, hz_30, rfl, rfl⟩ := hq9
          refine tz_icmp_ge (pc := 33) (tgt := 57) dX12_timesOf_33 (by decide) (by omega) (by omega) (fun h_33 => ?_) (fun h_33 => ?_)
          · refine tz_iload_n (pc := 57) dX12_timesOf_57 rfl rfl ?_
            exact tz_iret (pc := 58) (z := q) dX12_timesOf_58 rfl (Nat.le_of_ble_eq_true rfl) (Nat.le_of_ble_eq_true rfl) ⟨Nat.le_refl _, Nat.le_add_right _ _⟩ ⟨_, rfl, (by omega), ⟨rfl, by show mcn J b d v t = q; unfold mcn; rw [hU, hq, show (mar J b d t).toNat = i.toNat by omega]; rfl⟩⟩
          · refine tz_iload_n (pc := 36) dX12_timesOf_36 rfl rfl ?_
            refine tz_aload_n (pc := 37) dX12_timesOf_37 rfl rfl ?_
            refine tz_aload_n (pc := 38) dX12_timesOf_38 rfl rfl ?_
            refine tz_iload_n (pc := 39) dX12_timesOf_39 rfl rfl ?_
            refine tz_iload (pc := 40) dX12_timesOf_40 rfl ?_
            refine tz_cV (pc := 42) (m_arg hl n _ _ _ (by omega) (by omega) b r d s m hM (by omega) (by omega)) vl_X12_88 dX12_timesOf_42 o_164 rfl rfl (Nat.le_of_ble_eq_true rfl) ⟨(show 0 + 1 ≤ 3 + 1 * (r9 + 1) by omega), (show 8 + (3 + 11) + 40 * (0) ≤ 40 * (3 + 1 * (r9 + 1)) by omega)⟩ rfl rfl (Nat.le_of_ble_eq_true rfl) (Nat.le_of_ble_eq_true rfl) (fun r9 J_42 hq9 => ?_)
            obtain ⟨z_42, rfl, hz_42, rfl, rfl⟩ := hq9
            refine tz_iload_n (pc := 45) dX12_timesOf_45 rfl rfl ?_
            have hg := hM.arg (t := t) (i := i) ht (by omega)
            have hb9 := mcn_rg hM (v := v) (t := (J 167 (3 * (b + t) + i))) (by omega)
            refine tz_cV (pc := 46) (ih _ _ _ (by omega) (by omega) b r d s m hM (by omega) (by omega) (by omega)) vl_X12_129 dX12_timesOf_46 o_164 rfl rfl (Nat.le_of_ble_eq_true rfl) ⟨(show (3 + 1 * r9) + 1 ≤ 3 + 1 * (r9 + 1) by omega), (show 8 + (5 + 11) + 40 * ((3 + 1 * r9)) ≤ 40 * (3 + 1 * (r9 + 1)) by omega)⟩ rfl rfl (Nat.le_of_ble_eq_true rfl) (Nat.le_of_ble_eq_true rfl) (fun r9 J_46 hq9 => ?_)
            obtain ⟨z_46, rfl, hz_46, rfl, rfl⟩ := hq9
            refine tz_iadd (pc := 49) (v := q + (mcn J b d v (J 167 (3 * (b + t) + i)))) dX12_timesOf_49 rfl ?_
            refine tz_istore_n (pc := 50) (L2 := [_, _, _, _, _]) dX12_timesOf_50 rfl (by decide) rfl ?_
            refine tz_iinc (pc := 51) (z := i + 1) (L2 := [_, _, _, _, _]) dX12_timesOf_51 rfl (by omega) rfl ?_
            refine tz_goto (pc := 54) (tgt := 26) dX12_timesOf_54 (by decide) ?_
            exact ih26 _ (i + 1) (by omega) (by omega) (by rw [sps_s hi.1, hq]; show _ = mgc J b v t + (sps (mcn J b d v) (mag J b) t i.toNat + mcn J b d v (J 167 (3 * (b + t) + i))); omega) (by omega)
      exact loop26 _ _ 0 (Nat.lt_succ_self _) (by omega) (by show _ = _ + 0; unfold mgc; first | (rw [if_pos (by omega)]; rfl) | (rw [if_neg (by omega)]; rfl)) (by omega)

theorem x_weight {l : Launch} {G : tb_G} (hl : l.stackTraces = false) (n : Nat) (J : zJ) (t : Int)  (hr_t : -2147483648 ≤ t ∧ t < 2147483648) (b r d s m : Int) (hM : MS J b r d s m) (ht : 0 ≤ t ∧ t < m) (hw : ∀ k, 0 ≤ k → k < s → 1 ≤ J 171 (d + k) ∧ J 171 (d + k) ≤ 9) : tz_Ok l G M_X12_weightOf 10 0 0 [.ref 164, zi t] n J (zqi (fun z J' => J = J' ∧ mwt J b d t = z)) zN := x_weightR hl n 7 J t hr_t b r d s m hM ht hw (by have := (hM.ar ht).2.2.1; omega)
theorem x_times {l : Launch} {G : tb_G} (hl : l.stackTraces = false) (n : Nat) (J : zJ) (t : Int)  (v : Int)  (hr_t : -2147483648 ≤ t ∧ t < 2147483648) (hr_v : -2147483648 ≤ v ∧ v < 2147483648) (b r d s m : Int) (hM : MS J b r d s m) (ht : 0 ≤ t ∧ t < m) (hv : 0 ≤ v ∧ v < 8) : tz_Ok l G M_X12_timesOf 10 0 0 [.ref 164, zi t, zi v] n J (zqi (fun z J' => J = J' ∧ mcn J b d v t = z)) zN := x_timesR hl n 7 J t v hr_t hr_v b r d s m hM ht hv (by have := (hM.ar ht).2.2.1; omega)
set_option maxHeartbeats 4000000 in
set_option maxRecDepth 100000 in
theorem x_greaterR {l : Launch} {G : tb_G} (hl : l.stackTraces = false) (n : Nat) : ∀ (r9 : Nat) (J : zJ) (u : Int) (t : Int) (hr_u : -2147483648 ≤ u ∧ u < 2147483648) (hr_t : -2147483648 ≤ t ∧ t < 2147483648) (b r d s m : Int) (hM : MS J b r d s m) (hs : 0 ≤ u ∧ u < m) (ht : 0 ≤ t ∧ t < m) (hw : ∀ k, 0 ≤ k → k < s → 1 ≤ J 171 (d + k) ∧ J 171 (d + k) ≤ 9), ((J 168 (b + u)).toNat) < r9 → tz_Ok l G M_X12_isGreater (12 + 1 * r9) 0 0 [.ref 164, zi u, zi t] n J (zqi (fun z J' => J = J' ∧ ((z = 1 ∧ mgt J b d 6 u t) ∨ (z = 0 ∧ ¬ mgt J b d 6 u t)))) zN := by
  intro r9
  induction r9 with
  | zero => intro J u t hr_u hr_t b r d s m hM hs ht hw hm9; exact absurd hm9 (Nat.not_lt_zero _)
  | succ r9 ih =>
    intro J u t hr_u hr_t b r d s m hM hs ht hw hm9
    refine tz_Ok.of hl (by decide +kernel) rfl (tb_c1 rfl) (Nat.le_of_ble_eq_true rfl) ?_
    show tz_At l G M_X12_isGreater (tb_rm (12 + 1 * (r9 + 1)) 0 0) none (tb_ZM G 0 0 (zQ n 0 (zqi (fun z J' => J = J' ∧ ((z = 1 ∧ mgt J b d 6 u t) ∨ (z = 0 ∧ ¬ mgt J b d 6 u t))))) (zX n 0 zN)) 0 0 n J 0 [some (.ref 164), some (zi u), some (zi t), none, none] []
    obtain ⟨hM1, hM2, hM3, hM4, hM5, hM6⟩ := id hM
    have hT := hM.told
    have ha := hM.ar hs
    have hb := hM.ar ht
    refine tz_iload_n (pc := 0) dX12_isGreater_0 rfl rfl ?_
    refine tz_iload_n (pc := 1) dX12_isGreater_1 rfl rfl ?_
    refine tz_icmp_ne (pc := 2) (tgt := 7) dX12_isGreater_2 (by decide) (by omega) (by omega) (fun h_2 => ?_) (fun h_2 => ?_)
    · have ne9 : ¬ u = t := by omega
      refine tz_iconst (pc := 7) dX12_isGreater_7 ?_
      refine tz_istore_n (pc := 8) (L2 := [_, _, _, _, _]) dX12_isGreater_8 rfl (by decide) rfl ?_
      have loop9 : ∀ (f9 : Nat) (v : Int), ((8 - v).toNat) < f9 → (0 ≤ v ∧ v ≤ 8) → (∀ q, 0 ≤ q → q < v → mcn J b d q t ≤ mcn J b d q u) → tz_At l G M_X12_isGreater (tb_rm (12 + 1 * (r9 + 1)) 0 0) none (tb_ZM G 0 0 (zQ n 0 (zqi (fun z J' => J = J' ∧ ((z = 1 ∧ mgt J b d 6 u t) ∨ (z = 0 ∧ ¬ mgt J b d 6 u t))))) (zX n 0 zN)) 0 0 n J 9 [some (.ref 164), some (zi u), some (zi t), some (zi v), none] [] := by
        intro f9
        induction f9 with
        | zero => intro v hm9; exact absurd hm9 (Nat.not_lt_zero _)
        | succ f9 ih9 =>
          intro v hm9 hv hall
          refine tz_iload_n (pc := 9) dX12_isGreater_9 rfl rfl ?_
          refine tz_bipush (pc := 10) dX12_isGreater_10 (by decide) ?_
          refine tz_icmp_ge (pc := 12) (tgt := 38) dX12_isGreater_12 (by decide) (by omega) (by decide) (fun h_12 => ?_) (fun h_12 => ?_)
          · have hv9 : ∀ q, 0 ≤ q → q < 8 → mcn J b d q t ≤ mcn J b d q u := fun q x y => hall q x (by omega)
            refine tz_aload_n (pc := 38) dX12_isGreater_38 rfl rfl ?_
            refine tz_iload_n (pc := 39) dX12_isGreater_39 rfl rfl ?_
            have wt_40 := mwt_rg hM hw (t := u) (by omega)
            refine tz_cV (pc := 40) (x_weight hl n _ _ (by omega) b r d s m hM (by omega) hw) vl_X12_120 dX12_isGreater_40 o_164 rfl rfl (Nat.le_of_ble_eq_true rfl) ⟨(show 10 + 1 ≤ 12 + 1 * (r9 + 1) by omega), (show 8 + (4 + 11) + 40 * (10) ≤ 40 * (12 + 1 * (r9 + 1)) by omega)⟩ rfl rfl (Nat.le_of_ble_eq_true rfl) (Nat.le_of_ble_eq_true rfl) (fun r9 J_40 hq9 => ?_)
            obtain ⟨z_40, rfl, hz_40, rfl, rfl⟩ := hq9
            refine tz_aload_n (pc := 43) dX12_isGreater_43 rfl rfl ?_
            refine tz_iload_n (pc := 44) dX12_isGreater_44 rfl rfl ?_
            have wt_45 := mwt_rg hM hw (t := t) (by omega)
            refine tz_cV (pc := 45) (x_weight hl n _ _ (by omega) b r d s m hM (by omega) hw) vl_X12_120 dX12_isGreater_45 o_164 rfl rfl (Nat.le_of_ble_eq_true rfl) ⟨(show 10 + 1 ≤ 12 + 1 * (r9 + 1) by omega), (show 8 + (4 + 11) + 40 * (10) ≤ 40 * (12 + 1 * (r9 + 1)) by omega)⟩ rfl rfl (Nat.le_of_ble_eq_true rfl) (Nat.le_of_ble_eq_true rfl) (fun r9 J_45 hq9 => ?_)
            obtain ⟨z_45, rfl, hz_45, rfl, rfl⟩ := hq9
            refine tz_isub (pc := 48) (v := (mwt J b d u) - (mwt J b d t)) dX12_isGreater_48 rfl ?_
            refine tz_istore_n (pc := 49) (L2 := [_, _, _, _, _]) dX12_isGreater_49 rfl (by decide) rfl ?_
            refine tz_iload_n (pc := 50) dX12_isGreater_50 rfl rfl ?_
            refine tz_if_eq (pc := 51) (tgt := 64) dX12_isGreater_51 (by decide) (by omega) (fun h_51 => ?_) (fun h_51 => ?_)
            · refine tz_aload_n (pc := 64) dX12_isGreater_64 rfl rfl ?_
              refine tz_iload_n (pc := 65) dX12_isGreater_65 rfl rfl ?_
              refine tz_cV (pc := 66) (m_isVar hl n _ _ (by omega) b r d s m hM (by omega)) vl_X12_78 dX12_isGreater_66 o_164 rfl rfl (Nat.le_of_ble_eq_true rfl) ⟨(show 1 + 1 ≤ 12 + 1 * (r9 + 1) by omega), (show 8 + (2 + 11) + 40 * (1) ≤ 40 * (12 + 1 * (r9 + 1)) by omega)⟩ rfl rfl (Nat.le_of_ble_eq_true rfl) (Nat.le_of_ble_eq_true rfl) (fun r9 J_66 hq9 => ?_)
              obtain ⟨z_66, rfl, hz_66, rfl, rfl⟩ := hq9
              by_cases hw_69 : J 166 (b + t) < 0
              · rw [show (if J 166 (b + t) < 0 then 1 else 0 : Int) = 1 from if_pos hw_69]
                refine tz_if_eqF (pc := 69) (tgt := 74) (by decide) dX12_isGreater_69 (by decide) (by decide) ?_
                refine tz_iconst (pc := 72) dX12_isGreater_72 ?_
                exact tz_zret (pc := 73) (z := 1) dX12_isGreater_73 rfl (Or.inr rfl) (Nat.le_of_ble_eq_true rfl) (Nat.le_of_ble_eq_true rfl) ⟨Nat.le_refl _, Nat.le_add_right _ _⟩ ⟨_, rfl, (by decide), ⟨rfl, Or.inl ⟨rfl, ne9, hv9, Or.inr ⟨by omega, Or.inl (by show J 166 (b + t) < 0; omega)⟩⟩⟩⟩
              · rw [show (if J 166 (b + t) < 0 then 1 else 0 : Int) = 0 from if_neg hw_69]
                refine tz_if_eqT (pc := 69) (tgt := 74) (by decide) dX12_isGreater_69 (by decide) (by decide) ?_
                refine tz_aload_n (pc := 74) dX12_isGreater_74 rfl rfl ?_
                refine tz_iload_n (pc := 75) dX12_isGreater_75 rfl rfl ?_
                refine tz_cV (pc := 76) (m_isVar hl n _ _ (by omega) b r d s m hM (by omega)) vl_X12_78 dX12_isGreater_76 o_164 rfl rfl (Nat.le_of_ble_eq_true rfl) ⟨(show 1 + 1 ≤ 12 + 1 * (r9 + 1) by omega), (show 8 + (2 + 11) + 40 * (1) ≤ 40 * (12 + 1 * (r9 + 1)) by omega)⟩ rfl rfl (Nat.le_of_ble_eq_true rfl) (Nat.le_of_ble_eq_true rfl) (fun r9 J_76 hq9 => ?_)
                obtain ⟨z_76, rfl, hz_76, rfl, rfl⟩ := hq9
                by_cases hw_79 : J 166 (b + u) < 0
                · rw [show (if J 166 (b + u) < 0 then 1 else 0 : Int) = 1 from if_pos hw_79]
                  refine tz_if_eqF (pc := 79) (tgt := 84) (by decide) dX12_isGreater_79 (by decide) (by decide) ?_
                  refine tz_iconst (pc := 82) dX12_isGreater_82 ?_
                  exact tz_zret (pc := 83) (z := 0) dX12_isGreater_83 rfl (Or.inl rfl) (Nat.le_of_ble_eq_true rfl) (Nat.le_of_ble_eq_true rfl) ⟨Nat.le_refl _, Nat.le_add_right _ _⟩ ⟨_, rfl, (by decide), ⟨rfl, Or.inr ⟨rfl, fun e => by rcases e.2.2 with q | ⟨_, q | ⟨q1, q2, q3⟩⟩; omega; (have q9 : J 166 (b + t) < 0 := q; omega); (have q9 : 0 ≤ J 166 (b + u) := q1; omega)⟩⟩⟩
                · rw [show (if J 166 (b + u) < 0 then 1 else 0 : Int) = 0 from if_neg hw_79]
                  refine tz_if_eqT (pc := 79) (tgt := 84) (by decide) dX12_isGreater_79 (by decide) (by decide) ?_
                  refine tz_aload_n (pc := 84) dX12_isGreater_84 rfl rfl ?_
                  refine tz_iload_n (pc := 85) dX12_isGreater_85 rfl rfl ?_
                  refine tz_cV (pc := 86) (m_head hl n _ _ (by omega) b r d s m hM (by omega)) vl_X12_74 dX12_isGreater_86 o_164 rfl rfl (Nat.le_of_ble_eq_true rfl) ⟨(show 0 + 1 ≤ 12 + 1 * (r9 + 1) by omega), (show 8 + (2 + 11) + 40 * (0) ≤ 40 * (12 + 1 * (r9 + 1)) by omega)⟩ rfl rfl (Nat.le_of_ble_eq_true rfl) (Nat.le_of_ble_eq_true rfl) (fun r9 J_86 hq9 => ?_)
                  obtain ⟨z_86, rfl, hz_86, rfl, rfl⟩ := hq9
                  refine tz_aload_n (pc := 89) dX12_isGreater_89 rfl rfl ?_
                  refine tz_iload_n (pc := 90) dX12_isGreater_90 rfl rfl ?_
                  refine tz_cV (pc := 91) (m_head hl n _ _ (by omega) b r d s m hM (by omega)) vl_X12_74 dX12_isGreater_91 o_164 rfl rfl (Nat.le_of_ble_eq_true rfl) ⟨(show 0 + 1 ≤ 12 + 1 * (r9 + 1) by omega), (show 8 + (2 + 11) + 40 * (0) ≤ 40 * (12 + 1 * (r9 + 1)) by omega)⟩ rfl rfl (Nat.le_of_ble_eq_true rfl) (Nat.le_of_ble_eq_true rfl) (fun r9 J_91 hq9 => ?_)
                  obtain ⟨z_91, rfl, hz_91, rfl, rfl⟩ := hq9
                  refine tz_icmp_eq (pc := 94) (tgt := 116) dX12_isGreater_94 (by decide) (by omega) (by omega) (fun h_94 => ?_) (fun h_94 => ?_)
                  · obtain ⟨i0, hi0, hn0⟩ := hM.unl hs ht (by omega) (by omega)
                    have he := MS.hd8 (J := J) (b := b) (d := d) (t := u) (u := t) (by omega)
                    refine tz_iconst (pc := 116) dX12_isGreater_116 ?_
                    refine tz_istore (pc := 117) (L2 := [_, _, _, _, _]) dX12_isGreater_117 (by decide) rfl ?_
                    have loop119 : ∀ (f9 : Nat) (i : Int), ((3 - i).toNat) < f9 → (0 ≤ i) → (∀ q, 0 ≤ q → q < i → J 167 (3 * (b + u) + q) = J 167 (3 * (b + t) + q)) → tz_At l G M_X12_isGreater (tb_rm (12 + 1 * (r9 + 1)) 0 0) none (tb_ZM G 0 0 (zQ n 0 (zqi (fun z J' => J = J' ∧ ((z = 1 ∧ mgt J b d 6 u t) ∨ (z = 0 ∧ ¬ mgt J b d 6 u t))))) (zX n 0 zN)) 0 0 n J 119 [some (.ref 164), some (zi u), some (zi t), some (zi ((mwt J b d u) - (mwt J b d t))), some (zi i)] [] := by
                      intro f9
                      induction f9 with
                      | zero => intro i hm9; exact absurd hm9 (Nat.not_lt_zero _)
                      | succ f9 ih119 =>
                        intro i hm119 hi hq
                        have hi9 : i ≤ i0 := Classical.byContradiction (fun e => hn0 (hq i0 hi0.1 (by omega)))
                        refine tz_aload_n (pc := 119) dX12_isGreater_119 rfl rfl ?_
                        refine tz_iload_n (pc := 120) dX12_isGreater_120 rfl rfl ?_
                        refine tz_iload (pc := 121) dX12_isGreater_121 rfl ?_
                        refine tz_cV (pc := 123) (m_arg hl n _ _ _ (by omega) (by omega) b r d s m hM (by omega) (by omega)) vl_X12_88 dX12_isGreater_123 o_164 rfl rfl (Nat.le_of_ble_eq_true rfl) ⟨(show 0 + 1 ≤ 12 + 1 * (r9 + 1) by omega), (show 8 + (3 + 11) + 40 * (0) ≤ 40 * (12 + 1 * (r9 + 1)) by omega)⟩ rfl rfl (Nat.le_of_ble_eq_true rfl) (Nat.le_of_ble_eq_true rfl) (fun r9 J_123 hq9 => ?_)
                        obtain ⟨z_123, rfl, hz_123, rfl, rfl⟩ := hq9
                        refine tz_aload_n (pc := 126) dX12_isGreater_126 rfl rfl ?_
                        refine tz_iload_n (pc := 127) dX12_isGreater_127 rfl rfl ?_
                        refine tz_iload (pc := 128) dX12_isGreater_128 rfl ?_
                        refine tz_cV (pc := 130) (m_arg hl n _ _ _ (by omega) (by omega) b r d s m hM (by omega) (by omega)) vl_X12_88 dX12_isGreater_130 o_164 rfl rfl (Nat.le_of_ble_eq_true rfl) ⟨(show 0 + 1 ≤ 12 + 1 * (r9 + 1) by omega), (show 8 + (3 + 11) + 40 * (0) ≤ 40 * (12 + 1 * (r9 + 1)) by omega)⟩ rfl rfl (Nat.le_of_ble_eq_true rfl) (Nat.le_of_ble_eq_true rfl) (fun r9 J_130 hq9 => ?_)
                        obtain ⟨z_130, rfl, hz_130, rfl, rfl⟩ := hq9
                        refine tz_icmp_ne (pc := 133) (tgt := 142) dX12_isGreater_133 (by decide) (by omega) (by omega) (fun h_133 => ?_) (fun h_133 => ?_)
                        · refine tz_aload_n (pc := 142) dX12_isGreater_142 rfl rfl ?_
                          refine tz_aload_n (pc := 143) dX12_isGreater_143 rfl rfl ?_
                          refine tz_iload_n (pc := 144) dX12_isGreater_144 rfl rfl ?_
                          refine tz_iload (pc := 145) dX12_isGreater_145 rfl ?_
                          refine tz_cV (pc := 147) (m_arg hl n _ _ _ (by omega) (by omega) b r d s m hM (by omega) (by omega)) vl_X12_88 dX12_isGreater_147 o_164 rfl rfl (Nat.le_of_ble_eq_true rfl) ⟨(show 0 + 1 ≤ 12 + 1 * (r9 + 1) by omega), (show 8 + (3 + 11) + 40 * (0) ≤ 40 * (12 + 1 * (r9 + 1)) by omega)⟩ rfl rfl (Nat.le_of_ble_eq_true rfl) (Nat.le_of_ble_eq_true rfl) (fun r9 J_147 hq9 => ?_)
                          obtain ⟨z_147, rfl, hz_147, rfl, rfl⟩ := hq9
                          refine tz_aload_n (pc := 150) dX12_isGreater_150 rfl rfl ?_
                          refine tz_iload_n (pc := 151) dX12_isGreater_151 rfl rfl ?_
                          refine tz_iload (pc := 152) dX12_isGreater_152 rfl ?_
                          refine tz_cV (pc := 154) (m_arg hl n _ _ _ (by omega) (by omega) b r d s m hM (by omega) (by omega)) vl_X12_88 dX12_isGreater_154 o_164 rfl rfl (Nat.le_of_ble_eq_true rfl) ⟨(show 0 + 1 ≤ 12 + 1 * (r9 + 1) by omega), (show 8 + (3 + 11) + 40 * (0) ≤ 40 * (12 + 1 * (r9 + 1)) by omega)⟩ rfl rfl (Nat.le_of_ble_eq_true rfl) (Nat.le_of_ble_eq_true rfl) (fun r9 J_154 hq9 => ?_)
                          obtain ⟨z_154, rfl, hz_154, rfl, rfl⟩ := hq9
                          have hg := hM.arg (t := u) (i := i) hs (by omega)
                          have hg2 := hM.arg (t := t) (i := i) ht (by omega)
                          have fu9 : fuB (mar J b d) (mag J b) u t i := ⟨by omega, by show ¬ J 167 (3 * (b + u) + i) = J 167 (3 * (b + t) + i); omega, hq⟩
                          have du9 := (hM.ar hs).2.2.1
                          refine tz_cV (pc := 157) (ih _ _ _ (by omega) (by omega) b r d s m hM (by omega) (by omega) hw (by omega)) vl_X12_142 dX12_isGreater_157 o_164 rfl rfl (Nat.le_of_ble_eq_true rfl) ⟨(show (12 + 1 * r9) + 1 ≤ 12 + 1 * (r9 + 1) by omega), (show 8 + (5 + 11) + 40 * ((12 + 1 * r9)) ≤ 40 * (12 + 1 * (r9 + 1)) by omega)⟩ rfl rfl (Nat.le_of_ble_eq_true rfl) (Nat.le_of_ble_eq_true rfl) (fun r9 J_157 hq9 => ?_)
                          obtain ⟨z_157, rfl, hz_157, rfl, hz1⟩ := hq9
                          have st9 := gtP_st (cn := mcn J b d) (wt := mwt J b d) (hd := fun t => J 166 (b + t)) hM.td 5 6 (J 167 (3 * (b + u) + i)) (J 167 (3 * (b + t) + i)) (by omega) (by show J 168 (b + J 167 (3 * (b + u) + i)) ≤ ((5 : Nat) : Int); omega) (by show J 168 (b + J 167 (3 * (b + u) + i)) ≤ ((6 : Nat) : Int); omega)
                          exact tz_zret (pc := 160) (z := z_157) dX12_isGreater_160 rfl (by omega) (Nat.le_of_ble_eq_true rfl) (Nat.le_of_ble_eq_true rfl) ⟨Nat.le_refl _, Nat.le_add_right _ _⟩ ⟨_, rfl, (by omega), ⟨rfl, by rcases hz1 with ⟨e1, e2⟩ | ⟨e1, e2⟩; exact Or.inl ⟨e1, ne9, hv9, Or.inr ⟨by omega, Or.inr ⟨by show 0 ≤ J 166 (b + u); omega, by show 0 ≤ J 166 (b + t); omega, Or.inr ⟨by show J 166 (b + u) = J 166 (b + t); omega, i, fu9, st9.2 e2⟩⟩⟩⟩; exact Or.inr ⟨e1, fun e => e2 (by rcases e.2.2 with q | ⟨_, q | ⟨q1, q2, q3⟩⟩; omega; (have q9 : J 166 (b + t) < 0 := q; omega); (rcases q3 with q4 | ⟨q4, i2, q5, q6⟩; (have q9 : J 166 (b + t) < J 166 (b + u) := q4; omega); (have ei := fuB_u q5 fu9; subst ei; exact st9.1 q6)))⟩⟩⟩
                        · refine tz_iinc (pc := 136) (z := i + 1) (L2 := [_, _, _, _, _]) dX12_isGreater_136 rfl (by omega) rfl ?_
                          refine tz_goto (pc := 139) (tgt := 119) dX12_isGreater_139 (by decide) ?_
                          exact ih119 (i + 1) (by omega) (by omega) (fun q x y => (Decidable.em (q = i)).elim (fun e => by rw [e]; omega) (fun e => hq q x (by omega)))
                    exact loop119 _ 0 (Nat.lt_succ_self _) (by omega) (fun q x y => by omega)
                  · refine tz_aload_n (pc := 97) dX12_isGreater_97 rfl rfl ?_
                    refine tz_iload_n (pc := 98) dX12_isGreater_98 rfl rfl ?_
                    refine tz_cV (pc := 99) (m_head hl n _ _ (by omega) b r d s m hM (by omega)) vl_X12_74 dX12_isGreater_99 o_164 rfl rfl (Nat.le_of_ble_eq_true rfl) ⟨(show 0 + 1 ≤ 12 + 1 * (r9 + 1) by omega), (show 8 + (2 + 11) + 40 * (0) ≤ 40 * (12 + 1 * (r9 + 1)) by omega)⟩ rfl rfl (Nat.le_of_ble_eq_true rfl) (Nat.le_of_ble_eq_true rfl) (fun r9 J_99 hq9 => ?_)
                    obtain ⟨z_99, rfl, hz_99, rfl, rfl⟩ := hq9
                    refine tz_aload_n (pc := 102) dX12_isGreater_102 rfl rfl ?_
                    refine tz_iload_n (pc := 103) dX12_isGreater_103 rfl rfl ?_
                    refine tz_cV (pc := 104) (m_head hl n _ _ (by omega) b r d s m hM (by omega)) vl_X12_74 dX12_isGreater_104 o_164 rfl rfl (Nat.le_of_ble_eq_true rfl) ⟨(show 0 + 1 ≤ 12 + 1 * (r9 + 1) by omega), (show 8 + (2 + 11) + 40 * (0) ≤ 40 * (12 + 1 * (r9 + 1)) by omega)⟩ rfl rfl (Nat.le_of_ble_eq_true rfl) (Nat.le_of_ble_eq_true rfl) (fun r9 J_104 hq9 => ?_)
                    obtain ⟨z_104, rfl, hz_104, rfl, rfl⟩ := hq9
                    refine tz_icmp_le (pc := 107) (tgt := 114) dX12_isGreater_107 (by decide) (by omega) (by omega) (fun h_107 => ?_) (fun h_107 => ?_)
                    · refine tz_iconst (pc := 114) dX12_isGreater_114 ?_
                      exact tz_zret (pc := 115) (z := 0) dX12_isGreater_115 rfl (Or.inl rfl) (Nat.le_of_ble_eq_true rfl) (Nat.le_of_ble_eq_true rfl) ⟨Nat.le_refl _, Nat.le_add_right _ _⟩ ⟨_, rfl, (by decide), ⟨rfl, Or.inr ⟨rfl, fun e => by rcases e.2.2 with q | ⟨_, q | ⟨q1, q2, q3⟩⟩; omega; (have q9 : J 166 (b + t) < 0 := q; omega); (rcases q3 with q4 | q4; (have q9 : J 166 (b + t) < J 166 (b + u) := q4; omega); (have q9 : J 166 (b + u) = J 166 (b + t) := q4.1; omega))⟩⟩⟩
                    · refine tz_iconst (pc := 110) dX12_isGreater_110 ?_
                      refine tz_goto (pc := 111) (tgt := 115) dX12_isGreater_111 (by decide) ?_
                      exact tz_zret (pc := 115) (z := 1) dX12_isGreater_115 rfl (Or.inr rfl) (Nat.le_of_ble_eq_true rfl) (Nat.le_of_ble_eq_true rfl) ⟨Nat.le_refl _, Nat.le_add_right _ _⟩ ⟨_, rfl, (by decide), ⟨rfl, Or.inl ⟨rfl, ne9, hv9, Or.inr ⟨by omega, Or.inr ⟨by show 0 ≤ J 166 (b + u); omega, by show 0 ≤ J 166 (b + t); omega, Or.inl (by show J 166 (b + t) < J 166 (b + u); omega)⟩⟩⟩⟩⟩
            · refine tz_iload_n (pc := 54) dX12_isGreater_54 rfl rfl ?_
              refine tz_if_le (pc := 55) (tgt := 62) dX12_isGreater_55 (by decide) (by omega) (fun h_55 => ?_) (fun h_55 => ?_)
              · refine tz_iconst (pc := 62) dX12_isGreater_62 ?_
                exact tz_zret (pc := 63) (z := 0) dX12_isGreater_63 rfl (Or.inl rfl) (Nat.le_of_ble_eq_true rfl) (Nat.le_of_ble_eq_true rfl) ⟨Nat.le_refl _, Nat.le_add_right _ _⟩ ⟨_, rfl, (by decide), ⟨rfl, Or.inr ⟨rfl, fun e => by rcases e.2.2 with q | q; omega; have := q.1; omega⟩⟩⟩
              · refine tz_iconst (pc := 58) dX12_isGreater_58 ?_
                refine tz_goto (pc := 59) (tgt := 63) dX12_isGreater_59 (by decide) ?_
                exact tz_zret (pc := 63) (z := 1) dX12_isGreater_63 rfl (Or.inr rfl) (Nat.le_of_ble_eq_true rfl) (Nat.le_of_ble_eq_true rfl) ⟨Nat.le_refl _, Nat.le_add_right _ _⟩ ⟨_, rfl, (by decide), ⟨rfl, Or.inl ⟨rfl, ne9, hv9, Or.inl (by omega)⟩⟩⟩
          · refine tz_aload_n (pc := 15) dX12_isGreater_15 rfl rfl ?_
            refine tz_iload_n (pc := 16) dX12_isGreater_16 rfl rfl ?_
            refine tz_iload_n (pc := 17) dX12_isGreater_17 rfl rfl ?_
            have ct_18 := mcn_rg hM (v := v) (t := u) (by omega)
            refine tz_cV (pc := 18) (x_times hl n _ _ _ (by omega) (by omega) b r d s m hM (by omega) (by omega)) vl_X12_129 dX12_isGreater_18 o_164 rfl rfl (Nat.le_of_ble_eq_true rfl) ⟨(show 10 + 1 ≤ 12 + 1 * (r9 + 1) by omega), (show 8 + (5 + 11) + 40 * (10) ≤ 40 * (12 + 1 * (r9 + 1)) by omega)⟩ rfl rfl (Nat.le_of_ble_eq_true rfl) (Nat.le_of_ble_eq_true rfl) (fun r9 J_18 hq9 => ?_)
            obtain ⟨z_18, rfl, hz_18, rfl, rfl⟩ := hq9
            refine tz_aload_n (pc := 21) dX12_isGreater_21 rfl rfl ?_
            refine tz_iload_n (pc := 22) dX12_isGreater_22 rfl rfl ?_
            refine tz_iload_n (pc := 23) dX12_isGreater_23 rfl rfl ?_
            have ct_24 := mcn_rg hM (v := v) (t := t) (by omega)
            refine tz_cV (pc := 24) (x_times hl n _ _ _ (by omega) (by omega) b r d s m hM (by omega) (by omega)) vl_X12_129 dX12_isGreater_24 o_164 rfl rfl (Nat.le_of_ble_eq_true rfl) ⟨(show 10 + 1 ≤ 12 + 1 * (r9 + 1) by omega), (show 8 + (5 + 11) + 40 * (10) ≤ 40 * (12 + 1 * (r9 + 1)) by omega)⟩ rfl rfl (Nat.le_of_ble_eq_true rfl) (Nat.le_of_ble_eq_true rfl) (fun r9 J_24 hq9 => ?_)
            obtain ⟨z_24, rfl, hz_24, rfl, rfl⟩ := hq9
            refine tz_icmp_ge (pc := 27) (tgt := 32) dX12_isGreater_27 (by decide) (by omega) (by omega) (fun h_27 => ?_) (fun h_27 => ?_)
            · refine tz_iinc (pc := 32) (z := v + 1) (L2 := [_, _, _, _, _]) dX12_isGreater_32 rfl (by omega) rfl ?_
              refine tz_goto (pc := 35) (tgt := 9) dX12_isGreater_35 (by decide) ?_
              exact ih9 (v + 1) (by omega) (by omega) (fun q x y => (Decidable.em (q = v)).elim (fun e => by rw [e]; omega) (fun e => hall q x (by omega)))
            · refine tz_iconst (pc := 30) dX12_isGreater_30 ?_
              exact tz_zret (pc := 31) (z := 0) dX12_isGreater_31 rfl (Or.inl rfl) (Nat.le_of_ble_eq_true rfl) (Nat.le_of_ble_eq_true rfl) ⟨Nat.le_refl _, Nat.le_add_right _ _⟩ ⟨_, rfl, (by decide), ⟨rfl, Or.inr ⟨rfl, fun e => by have := e.2.1 v (by omega) (by omega); omega⟩⟩⟩
      exact loop9 _ 0 (Nat.lt_succ_self _) (by omega) (fun q x y => by omega)
    · refine tz_iconst (pc := 5) dX12_isGreater_5 ?_
      exact tz_zret (pc := 6) (z := 0) dX12_isGreater_6 rfl (Or.inl rfl) (Nat.le_of_ble_eq_true rfl) (Nat.le_of_ble_eq_true rfl) ⟨Nat.le_refl _, Nat.le_add_right _ _⟩ ⟨_, rfl, (by decide), ⟨rfl, Or.inr ⟨rfl, fun e => absurd (show u = t by omega) e.1⟩⟩⟩

theorem x_greater {l : Launch} {G : tb_G} (hl : l.stackTraces = false) (n : Nat) (J : zJ) (u : Int)  (t : Int)  (hr_u : -2147483648 ≤ u ∧ u < 2147483648) (hr_t : -2147483648 ≤ t ∧ t < 2147483648) (b r d s m : Int) (hM : MS J b r d s m) (hs : 0 ≤ u ∧ u < m) (ht : 0 ≤ t ∧ t < m) (hw : ∀ k, 0 ≤ k → k < s → 1 ≤ J 171 (d + k) ∧ J 171 (d + k) ≤ 9) : tz_Ok l G M_X12_isGreater 19 0 0 [.ref 164, zi u, zi t] n J (zqi (fun z J' => J = J' ∧ ((z = 1 ∧ mgt J b d 6 u t) ∨ (z = 0 ∧ ¬ mgt J b d 6 u t)))) zN := x_greaterR hl n 7 J u t hr_u hr_t b r d s m hM hs ht hw (by have := (hM.ar hs).2.2.1; omega)
def mru (J : zJ) (b d u t : Int) : Prop := 0 ≤ J 166 (b + u) ∧ mgt J b d 6 u t ∧ msz J b d u ≤ 12 ∧ msz J b d t ≤ 12
set_option maxHeartbeats 4000000 in
set_option maxRecDepth 100000 in
theorem x_isRule {l : Launch} {G : tb_G} (hl : l.stackTraces = false) (n : Nat) (J : zJ) (u : Int) (t : Int) (hr_u : -2147483648 ≤ u ∧ u < 2147483648) (hr_t : -2147483648 ≤ t ∧ t < 2147483648) (b r d s m : Int) (hM : MS J b r d s m) (hs : 0 ≤ u ∧ u < m) (ht : 0 ≤ t ∧ t < m) (hw : ∀ k, 0 ≤ k → k < s → 1 ≤ J 171 (d + k) ∧ J 171 (d + k) ≤ 9) : tz_Ok l G M_X12_isRule 20 0 0 [.ref 164, zi u, zi t] n J (zqi (fun z J' => J = J' ∧ ((z = 1 ∧ mru J b d u t) ∨ (z = 0 ∧ ¬ mru J b d u t)))) zN := by
  refine tz_Ok.of hl (by decide +kernel) rfl (tb_c1 rfl) (Nat.le_of_ble_eq_true rfl) ?_
  show tz_At l G M_X12_isRule (tb_rm 20 0 0) none (tb_ZM G 0 0 (zQ n 0 (zqi (fun z J' => J = J' ∧ ((z = 1 ∧ mru J b d u t) ∨ (z = 0 ∧ ¬ mru J b d u t))))) (zX n 0 zN)) 0 0 n J 0 [some (.ref 164), some (zi u), some (zi t)] []
  obtain ⟨hM1, hM2, hM3, hM4, hM5, hM6⟩ := id hM
  have hT := hM.told
  refine tz_aload_n (pc := 0) dX12_isRule_0 rfl rfl ?_
  refine tz_iload_n (pc := 1) dX12_isRule_1 rfl rfl ?_
  refine tz_cV (pc := 2) (m_isVar hl n _ _ (by omega) b r d s m hM (by omega)) vl_X12_78 dX12_isRule_2 o_164 rfl rfl (Nat.le_of_ble_eq_true rfl) ⟨(Nat.le_of_ble_eq_true rfl), (Nat.le_of_ble_eq_true rfl)⟩ rfl rfl (Nat.le_of_ble_eq_true rfl) (Nat.le_of_ble_eq_true rfl) (fun r9 J_2 hq9 => ?_)
  obtain ⟨z_2, rfl, hz_2, rfl, rfl⟩ := hq9
  by_cases hw_5 : J 166 (b + u) < 0
  · rw [show (if J 166 (b + u) < 0 then 1 else 0 : Int) = 1 from if_pos hw_5]
    refine tz_if_neT (pc := 5) (tgt := 41) (by decide) dX12_isRule_5 (by decide) (by decide) ?_
    refine tz_iconst (pc := 41) dX12_isRule_41 ?_
    exact tz_zret (pc := 42) (z := 0) dX12_isRule_42 rfl (Or.inl rfl) (Nat.le_of_ble_eq_true rfl) (Nat.le_of_ble_eq_true rfl) ⟨Nat.le_refl _, Nat.le_add_right _ _⟩ ⟨_, rfl, (by decide), ⟨rfl, Or.inr ⟨rfl, fun e => by obtain ⟨e1, e2, e3, e4⟩ := e; first | omega | (rcases hz1 with q | q; omega; exact q.2 e2)⟩⟩⟩
  · rw [show (if J 166 (b + u) < 0 then 1 else 0 : Int) = 0 from if_neg hw_5]
    refine tz_if_neF (pc := 5) (tgt := 41) (by decide) dX12_isRule_5 (by decide) (by decide) ?_
    refine tz_aload_n (pc := 8) dX12_isRule_8 rfl rfl ?_
    refine tz_iload_n (pc := 9) dX12_isRule_9 rfl rfl ?_
    refine tz_iload_n (pc := 10) dX12_isRule_10 rfl rfl ?_
    refine tz_cV (pc := 11) (x_greater hl n _ _ _ (by omega) (by omega) b r d s m hM hs ht hw) vl_X12_142 dX12_isRule_11 o_164 rfl rfl (Nat.le_of_ble_eq_true rfl) ⟨(Nat.le_of_ble_eq_true rfl), (Nat.le_of_ble_eq_true rfl)⟩ rfl rfl (Nat.le_of_ble_eq_true rfl) (Nat.le_of_ble_eq_true rfl) (fun r9 J_11 hq9 => ?_)
    obtain ⟨z_11, rfl, hz_11, rfl, hz1⟩ := hq9
    refine tz_if_eq (pc := 14) (tgt := 41) dX12_isRule_14 (by decide) (by omega) (fun h_14 => ?_) (fun h_14 => ?_)
    · refine tz_iconst (pc := 41) dX12_isRule_41 ?_
      exact tz_zret (pc := 42) (z := 0) dX12_isRule_42 rfl (Or.inl rfl) (Nat.le_of_ble_eq_true rfl) (Nat.le_of_ble_eq_true rfl) ⟨Nat.le_refl _, Nat.le_add_right _ _⟩ ⟨_, rfl, (by decide), ⟨rfl, Or.inr ⟨rfl, fun e => by obtain ⟨e1, e2, e3, e4⟩ := e; first | omega | (rcases hz1 with q | q; omega; exact q.2 e2)⟩⟩⟩
    · refine tz_aload_n (pc := 17) dX12_isRule_17 rfl rfl ?_
      refine tz_iload_n (pc := 18) dX12_isRule_18 rfl rfl ?_
      have hs_19 := hM.sz (t := u) (by omega)
      refine tz_cV (pc := 19) (m_size hl n _ _ (by omega) b r d s m hM (by omega)) vl_X12_114 dX12_isRule_19 o_164 rfl rfl (Nat.le_of_ble_eq_true rfl) ⟨(Nat.le_of_ble_eq_true rfl), (Nat.le_of_ble_eq_true rfl)⟩ rfl rfl (Nat.le_of_ble_eq_true rfl) (Nat.le_of_ble_eq_true rfl) (fun r9 J_19 hq9 => ?_)
      obtain ⟨z_19, rfl, hz_19, rfl, rfl⟩ := hq9
      refine tz_bipush (pc := 22) dX12_isRule_22 (by decide) ?_
      refine tz_icmp_gt (pc := 24) (tgt := 41) dX12_isRule_24 (by decide) (by omega) (by decide) (fun h_24 => ?_) (fun h_24 => ?_)
      · refine tz_iconst (pc := 41) dX12_isRule_41 ?_
        exact tz_zret (pc := 42) (z := 0) dX12_isRule_42 rfl (Or.inl rfl) (Nat.le_of_ble_eq_true rfl) (Nat.le_of_ble_eq_true rfl) ⟨Nat.le_refl _, Nat.le_add_right _ _⟩ ⟨_, rfl, (by decide), ⟨rfl, Or.inr ⟨rfl, fun e => by obtain ⟨e1, e2, e3, e4⟩ := e; first | omega | (rcases hz1 with q | q; omega; exact q.2 e2)⟩⟩⟩
      · refine tz_aload_n (pc := 27) dX12_isRule_27 rfl rfl ?_
        refine tz_iload_n (pc := 28) dX12_isRule_28 rfl rfl ?_
        have hs_29 := hM.sz (t := t) (by omega)
        refine tz_cV (pc := 29) (m_size hl n _ _ (by omega) b r d s m hM (by omega)) vl_X12_114 dX12_isRule_29 o_164 rfl rfl (Nat.le_of_ble_eq_true rfl) ⟨(Nat.le_of_ble_eq_true rfl), (Nat.le_of_ble_eq_true rfl)⟩ rfl rfl (Nat.le_of_ble_eq_true rfl) (Nat.le_of_ble_eq_true rfl) (fun r9 J_29 hq9 => ?_)
        obtain ⟨z_29, rfl, hz_29, rfl, rfl⟩ := hq9
        refine tz_bipush (pc := 32) dX12_isRule_32 (by decide) ?_
        refine tz_icmp_gt (pc := 34) (tgt := 41) dX12_isRule_34 (by decide) (by omega) (by decide) (fun h_34 => ?_) (fun h_34 => ?_)
        · refine tz_iconst (pc := 41) dX12_isRule_41 ?_
          exact tz_zret (pc := 42) (z := 0) dX12_isRule_42 rfl (Or.inl rfl) (Nat.le_of_ble_eq_true rfl) (Nat.le_of_ble_eq_true rfl) ⟨Nat.le_refl _, Nat.le_add_right _ _⟩ ⟨_, rfl, (by decide), ⟨rfl, Or.inr ⟨rfl, fun e => by obtain ⟨e1, e2, e3, e4⟩ := e; first | omega | (rcases hz1 with q | q; omega; exact q.2 e2)⟩⟩⟩
        · refine tz_iconst (pc := 37) dX12_isRule_37 ?_
          refine tz_goto (pc := 38) (tgt := 42) dX12_isRule_38 (by decide) ?_
          exact tz_zret (pc := 42) (z := 1) dX12_isRule_42 rfl (Or.inr rfl) (Nat.le_of_ble_eq_true rfl) (Nat.le_of_ble_eq_true rfl) ⟨Nat.le_refl _, Nat.le_add_right _ _⟩ ⟨_, rfl, (by decide), ⟨rfl, Or.inl ⟨rfl, by omega, by rcases hz1 with q | q; exact q.2; omega, by omega, by omega⟩⟩⟩

end
section
/-! ===== the order of the class ===== -/
def cag (J : zJ) : Int → Int → Int := fun t i => J 9 (t * 3 + i)
def cgw (J : zJ) : Int → Int := fun t => if J 7 t < 0 then 1 else J 4 (J 7 t)
def cgc (J : zJ) (v : Int) : Int → Int := fun t => if J 7 t = -1 - v then 1 else 0
def cwt (J : zJ) : Int → Int := sV (cgw J) (J 8) (cag J)
def ccn (J : zJ) (v : Int) : Int → Int := sV (cgc J v) (J 8) (cag J)
def cgt (J : zJ) (k : Nat) (s t : Int) : Prop := gtP (ccn J) (cwt J) (J 7) (J 8) (cag J) k s t
theorem CT.td {J : zJ} {m : Int} (h : CT J m) : TD m (J 8) (cag J) (J 12) := fun t x y => ⟨(h.ar x y).1, (h.nums x y).2.2, fun i u v => h.arg x y u v⟩
theorem cwt_of {J' J : zJ} (f : zOf (zbut [156, 157]) J' J) : cwt J' = cwt J ∧ ccn J' = ccn J := by
  have e : ccn J' = ccn J := by
    funext v
    unfold ccn cgc cag
    rw [f 7 rfl, f 8 rfl, f 9 rfl]
  refine ⟨?_, e⟩
  unfold cwt cgw cag
  rw [f 4 rfl, f 7 rfl, f 8 rfl, f 9 rfl]
theorem cgw_rg {J : zJ} {m : Int} (h : CT J m) : ∀ t, 0 ≤ t → t < m → 0 ≤ cgw J t ∧ cgw J t ≤ 9 := fun t x y => by
  have h1 := (h.ar x y).2.2
  unfold cgw
  split
  · omega
  · have := h.1.2 (J 7 t) (by omega) (by omega)
    omega
theorem cgc_rg {J : zJ} {v m : Int} : ∀ t, 0 ≤ t → t < m → 0 ≤ cgc J v t ∧ cgc J v t ≤ 1 := fun t _ _ => by
  unfold cgc
  split <;> omega
theorem cwt_rg {J : zJ} {m t : Int} (h : CT J m) (ht : 0 ≤ t ∧ t < m) : 0 ≤ cwt J t ∧ cwt J t ≤ 9 * 364 := sV_rg h.td (cgw_rg h) ht
theorem ccn_rg {J : zJ} {m v t : Int} (h : CT J m) (ht : 0 ≤ t ∧ t < m) : 0 ≤ ccn J v t ∧ ccn J v t ≤ 1 * 364 := sV_rg h.td cgc_rg ht
theorem sps_le {f : Int → Int} {ag : Int → Int → Int} {t : Int} : ∀ (n i : Nat), i ≤ n → (∀ j : Nat, j < n → 0 ≤ f (ag t j)) → sps f ag t i ≤ sps f ag t n
  | 0, i, h, _ => by
    obtain rfl : i = 0 := by omega
    exact Int.le_refl _
  | n + 1, i, h, hf => by
    by_cases e : i = n + 1
    · rw [e]; exact Int.le_refl _
    · have h1 := sps_le n i (by omega) (fun j hj => hf j (by omega))
      have h2 := hf n (by omega)
      show sps f ag t i ≤ sps f ag t n + f (ag t n)
      omega
/-- the sum up to an argument, with it, is no more than all -/
theorem sV_arg {m c i t : Int} {g ar dp : Int → Int} {ag : Int → Int → Int} (h : TD m ar ag dp) (hg : ∀ t, 0 ≤ t → t < m → 0 ≤ g t ∧ g t ≤ c) (ht : 0 ≤ t ∧ t < m) (hi : 0 ≤ i ∧ i < ar t) : 0 ≤ sps (sV g ar ag) ag t i.toNat ∧ g t + sps (sV g ar ag) ag t i.toNat + sV g ar ag (ag t i) ≤ sV g ar ag t := by
  obtain ⟨a, b, q⟩ := h t ht.1 ht.2
  have hf : ∀ j : Nat, j < (ar t).toNat → 0 ≤ sV g ar ag (ag t j) := fun j hj => by
    have hb := q (j : Int) (by omega) (by omega)
    exact (sV_rg h hg ⟨hb.1.1, by omega⟩).1
  have h1 := sps_le (f := sV g ar ag) (ag := ag) (t := t) (ar t).toNat (i + 1).toNat (by omega) hf
  have h2 := sps_le (f := sV g ar ag) (ag := ag) (t := t) i.toNat 0 (by omega) (fun j hj => hf j (by omega))
  have h3 : (0 : Int) ≤ sps (sV g ar ag) ag t i.toNat := h2
  rw [sps_s hi.1] at h1
  rw [sV_un h ht]
  omega
set_option maxHeartbeats 4000000 in
set_option maxRecDepth 100000 in
theorem x_weighPR {l : Launch} {G : tb_G} (hl : l.stackTraces = false) (n : Nat) : ∀ (r9 : Nat) (J : zJ) (t : Int) (lv : Int) (hr_t : -2147483648 ≤ t ∧ t < 2147483648) (hr_lv : -2147483648 ≤ lv ∧ lv < 2147483648) (m : Int) (C : CT J m) (ht : 0 ≤ t ∧ t < m) (hl9 : 1 ≤ lv ∧ lv + J 12 t ≤ 7) (h3 : J 156 3 = -1) (hB : -10000 + cwt J t ≤ J 156 2 ∧ J 156 2 ≤ 10000 - cwt J t) (hV : ∀ v, 0 ≤ v → v < 8 → -10000 + ccn J v t ≤ J 157 v ∧ J 157 v ≤ 10000 - ccn J v t), ((J 12 t).toNat) < r9 → tz_Ok l G M_X4_weigh (3 + 1 * r9) 0 0 [.ref 156, zi t, zi 1, zi lv] n J (zqv (fun J' => (zOf (zbut [156, 157]) J' J ∧ ∀ k, ¬ k = 2 → J' 156 k = J 156 k) ∧ J' 156 2 = J 156 2 + cwt J t ∧ ∀ v, 0 ≤ v → v < 8 → J' 157 v = J 157 v + ccn J v t)) zN := by
  intro r9
  induction r9 with
  | zero => intro J t lv hr_t hr_lv m C ht hl9 h3 hB hV hm9; exact absurd hm9 (Nat.not_lt_zero _)
  | succ r9 ih =>
    intro J t lv hr_t hr_lv m C ht hl9 h3 hB hV hm9
    refine tz_Ok.of hl (by decide +kernel) rfl (tb_c1 rfl) (Nat.le_of_ble_eq_true rfl) ?_
    show tz_At l G M_X4_weigh (tb_rm (3 + 1 * (r9 + 1)) 0 0) none (tb_ZM G 0 0 (zQ n 0 (zqv (fun J' => (zOf (zbut [156, 157]) J' J ∧ ∀ k, ¬ k = 2 → J' 156 k = J 156 k) ∧ J' 156 2 = J 156 2 + cwt J t ∧ ∀ v, 0 ≤ v → v < 8 → J' 157 v = J 157 v + ccn J v t))) (zX n 0 zN)) 0 0 n J 0 [some (.ref 156), some (zi t), some (zi 1), some (zi lv), none, none] []
    have hm := C.told
    have ha := C.ar ht.1 ht.2
    have hn := (C.nums ht.1 ht.2).2.2
    have hwr := cwt_rg C ht
    have hU := sV_un (g := cgw J) C.td ht
    have hUv := fun v => sV_un (g := cgc J v) C.td ht
    refine tz_iload_n (pc := 0) dX4_weigh_0 rfl rfl ?_
    refine tz_bipush (pc := 1) dX4_weigh_1 (by decide) ?_
    refine tz_icmp_leT (pc := 3) (tgt := 7) (by omega) dX4_weigh_3 (by decide) (by omega) (by decide) ?_
    refine tz_aload_n (pc := 7) dX4_weigh_7 rfl rfl ?_
    refine tz_fR (pc := 8) dX4_weigh_8 fl_X4_25 r_156_0 ?_
    refine tz_fR (pc := 11) dX4_weigh_11 fl_X4_43 r_6_1 ?_
    refine tz_iload_n (pc := 14) dX4_weigh_14 rfl rfl ?_
    refine tz_aL (pc := 15) (z := t) (v := (J 7 t)) dX4_weigh_15 a_7 rfl (by omega) rfl (fun r_15 => ?_)
    refine tz_istore (pc := 16) (L2 := [_, _, _, _, _, _]) dX4_weigh_16 (by decide) rfl ?_
    refine tz_iload (pc := 18) dX4_weigh_18 rfl ?_
    refine tz_if_ge (pc := 20) (tgt := 47) dX4_weigh_20 (by decide) (by omega) (fun h_20 => ?_) (fun h_20 => ?_)
    · refine tz_aload_n (pc := 47) dX4_weigh_47 rfl rfl ?_
      refine tz_dup (pc := 48) dX4_weigh_48 rfl ?_
      refine tz_fI (pc := 49) (kz := 2) (v := (J 156 2)) dX4_weigh_49 fl_X4_15 i_156_2 rfl rfl (fun r_49 => ?_)
      refine tz_iload_n (pc := 52) dX4_weigh_52 rfl rfl ?_
      refine tz_iload (pc := 53) dX4_weigh_53 rfl ?_
      refine tz_aload_n (pc := 55) dX4_weigh_55 rfl rfl ?_
      refine tz_fI (pc := 56) (kz := 3) (v := (-1)) dX4_weigh_56 fl_X4_19 i_156_3 rfl h3 (fun _ => ?_)
      refine tz_icmp_neT (pc := 59) (tgt := 69) (by omega) dX4_weigh_59 (by decide) (by omega) (by decide) ?_
      refine tz_aload_n (pc := 69) dX4_weigh_69 rfl rfl ?_
      refine tz_fR (pc := 70) dX4_weigh_70 fl_X4_25 r_156_0 ?_
      refine tz_fR (pc := 73) dX4_weigh_73 fl_X4_63 r_6_0 ?_
      refine tz_fR (pc := 76) dX4_weigh_76 fl_X4_67 r_1_2 ?_
      refine tz_iload (pc := 79) dX4_weigh_79 rfl ?_
      have hq9 := C.1.2 (J 7 t) (by omega) (by omega)
      have hgw : cgw J t = J 4 (J 7 t) := by unfold cgw; rw [if_neg (by omega)]
      have hgc : ∀ v, 0 ≤ v → v < 8 → cgc J v t = 0 := fun v x y => by unfold cgc; rw [if_neg (by omega)]
      refine tz_aL (pc := 81) (z := (J 7 t)) (v := (J 4 (J 7 t))) dX4_weigh_81 a_4 rfl (by omega) rfl (fun r_81 => ?_)
      refine tz_imul (pc := 82) (v := 1 * (J 4 (J 7 t))) dX4_weigh_82 rfl ?_
      refine tz_iadd (pc := 83) (v := (J 156 2) + (1 * (J 4 (J 7 t)))) dX4_weigh_83 rfl ?_
      refine tz_pI (pc := 84) (kz := 2) dX4_weigh_84 fl_X4_15 i_156_2 rfl rfl (by omega) ?_
      refine tz_iconst (pc := 87) dX4_weigh_87 ?_
      refine tz_istore (pc := 88) (L2 := [_, _, _, _, _, _]) dX4_weigh_88 (by decide) rfl ?_
      have loop90 : ∀ (f9 : Nat) (i : Int) (J1 : zJ), ((3 - i).toNat) < f9 → (0 ≤ i ∧ i ≤ J 8 t) → (zOf (zbut [156, 157]) J1 J ∧ ∀ k, ¬ k = 2 → J1 156 k = J 156 k) → (J1 156 2 = J 156 2 + (cgw J t + sps (cwt J) (cag J) t i.toNat)) → (∀ v, 0 ≤ v → v < 8 → J1 157 v = J 157 v + sps (ccn J v) (cag J) t i.toNat) → tz_At l G M_X4_weigh (tb_rm (3 + 1 * (r9 + 1)) 0 0) none (tb_ZM G 0 0 (zQ n 0 (zqv (fun J' => (zOf (zbut [156, 157]) J' J ∧ ∀ k, ¬ k = 2 → J' 156 k = J 156 k) ∧ J' 156 2 = J 156 2 + cwt J t ∧ ∀ v, 0 ≤ v → v < 8 → J' 157 v = J 157 v + ccn J v t))) (zX n 0 zN)) 0 0 n J1 90 [some (.ref 156), some (zi t), some (zi 1), some (zi lv), some (zi (J 7 t)), some (zi i)] [] := by
        intro f9
        induction f9 with
        | zero => intro i J1 hm9; exact absurd hm9 (Nat.not_lt_zero _)
        | succ f9 ih90 =>
          intro i J1 hm90 hi f1 w1 b1
          refine tz_iload (pc := 90) dX4_weigh_90 rfl ?_
          refine tz_aload_n (pc := 92) dX4_weigh_92 rfl rfl ?_
          refine tz_fR (pc := 93) dX4_weigh_93 fl_X4_25 r_156_0 ?_
          refine tz_fR (pc := 96) dX4_weigh_96 fl_X4_72 r_6_2 ?_
          refine tz_iload_n (pc := 99) dX4_weigh_99 rfl rfl ?_
          refine tz_aL (pc := 100) (z := t) (v := (J 8 t)) dX4_weigh_100 a_8 rfl (by omega) (Eq.trans (congrFun (f1.1 8 rfl) t) rfl) (fun r_100 => ?_)
          refine tz_icmp_ge (pc := 101) (tgt := 128) dX4_weigh_101 (by decide) (by omega) (by omega) (fun h_101 => ?_) (fun h_101 => ?_)
          · exact tz_vret (pc := 128) dX4_weigh_128 rfl (Nat.le_of_ble_eq_true rfl) (Nat.le_of_ble_eq_true rfl) ⟨Nat.le_refl _, Nat.le_add_right _ _⟩ ⟨rfl, ⟨f1, by rw [w1]; unfold cwt; rw [hU, show (J 8 t).toNat = i.toNat by omega], fun v x y => by rw [b1 v x y]; unfold ccn; rw [hUv v, hgc v x y, show (J 8 t).toNat = i.toNat by omega]; show _ = J 157 v + (0 + sps (ccn J v) (cag J) t i.toNat); unfold ccn; omega⟩⟩
          · refine tz_aload_n (pc := 104) dX4_weigh_104 rfl rfl ?_
            refine tz_aload_n (pc := 105) dX4_weigh_105 rfl rfl ?_
            refine tz_fR (pc := 106) dX4_weigh_106 fl_X4_25 r_156_0 ?_
            refine tz_iload_n (pc := 109) dX4_weigh_109 rfl rfl ?_
            refine tz_iload (pc := 110) dX4_weigh_110 rfl ?_
            refine tz_cV (pc := 112) (c_arg hl n _ _ _ (by omega) (by omega) (by omega)) vl_X4_50 dX4_weigh_112 o_6 rfl rfl (Nat.le_of_ble_eq_true rfl) ⟨(show 0 + 1 ≤ 3 + 1 * (r9 + 1) by omega), (show 8 + (3 + 11) + 40 * (0) ≤ 40 * (3 + 1 * (r9 + 1)) by omega)⟩ rfl rfl (Nat.le_of_ble_eq_true rfl) (Nat.le_of_ble_eq_true rfl) (fun r9 J_112 hq9 => ?_)
            obtain ⟨z_112, rfl, hz_112, rfl, hv_112⟩ := hq9
            rw [f1.1 9 rfl] at hv_112
            obtain rfl : J 9 (t * 3 + i) = z_112 := hv_112
            refine tz_iload_n (pc := 115) dX4_weigh_115 rfl rfl ?_
            refine tz_iload_n (pc := 116) dX4_weigh_116 rfl rfl ?_
            refine tz_iconst (pc := 117) dX4_weigh_117 ?_
            refine tz_iadd (pc := 118) (v := lv + 1) dX4_weigh_118 rfl ?_
            have g1 := C.arg (t := t) (i := i) (by omega) (by omega) (by omega) (by omega)
            have sa := sV_arg C.td (cgw_rg C) ht (i := i) (by omega)
            have sc := fun v => sV_arg C.td (cgc_rg (J := J) (v := v) (m := m)) ht (i := i) (by omega)
            have wa := cwt_rg C (t := J 9 (t * 3 + i)) (by omega)
            have saw : 0 ≤ sps (cwt J) (cag J) t i.toNat ∧ cgw J t + sps (cwt J) (cag J) t i.toNat + cwt J (J 9 (t * 3 + i)) ≤ cwt J t := sa
            refine tz_cV (pc := 119) (ih _ _ _ (by omega) (by omega) m (C.of (fun c hc => f1.1 c (by simp [zbut]; omega))) (by omega) (by rw [f1.1 12 rfl]; omega) ((f1.2 3 (by decide)).trans h3) (by rw [(cwt_of f1.1).1]; omega) (fun v x y => by have scv : 0 ≤ sps (ccn J v) (cag J) t i.toNat ∧ cgc J v t + sps (ccn J v) (cag J) t i.toNat + ccn J v (J 9 (t * 3 + i)) ≤ ccn J v t := sc v; have hg0 := cgc_rg (J := J) (v := v) (m := m) t ht.1 ht.2; have hv := hV v x y; have bv := b1 v x y; rw [(cwt_of f1.1).2]; omega) (by rw [f1.1 12 rfl]; omega)) vl_X4_59 dX4_weigh_119 o_156 rfl rfl (Nat.le_of_ble_eq_true rfl) ⟨(show (3 + 1 * r9) + 1 ≤ 3 + 1 * (r9 + 1) by omega), (show 8 + (6 + 11) + 40 * ((3 + 1 * r9)) ≤ 40 * (3 + 1 * (r9 + 1)) by omega)⟩ rfl rfl (Nat.le_of_ble_eq_true rfl) (Nat.le_of_ble_eq_true rfl) (fun r9 J_119 hq9 => ?_)
            obtain ⟨rfl, f2, w2, b2⟩ := hq9
            rw [(cwt_of f1.1).1] at w2
            rw [(cwt_of f1.1).2] at b2
            refine tz_iinc (pc := 122) (z := i + 1) (L2 := [_, _, _, _, _, _]) dX4_weigh_122 rfl (by omega) rfl ?_
            refine tz_goto (pc := 125) (tgt := 90) dX4_weigh_125 (by decide) ?_
            exact ih90 (i + 1) _ (by omega) (by omega) ⟨f2.1.tr f1.1, fun k hk => (f2.2 k hk).trans (f1.2 k hk)⟩ (by rw [sps_s hi.1, w2, w1]; show _ = J 156 2 + (cgw J t + (sps (cwt J) (cag J) t i.toNat + cwt J (J 9 (t * 3 + i)))); omega) (fun v x y => by rw [sps_s hi.1, b2 v x y, b1 v x y]; show _ = J 157 v + (sps (ccn J v) (cag J) t i.toNat + ccn J v (J 9 (t * 3 + i))); omega)
      exact loop90 _ 0 _ (Nat.lt_succ_self _) (by omega) ⟨zOf.up rfl zOf.rf, fun k hk => zup_ne hk⟩ (by rw [zup_at]; show _ = J 156 2 + (cgw J t + 0); omega) (fun v x y => by show J 157 v = J 157 v + 0; omega)
    · refine tz_aload_n (pc := 23) dX4_weigh_23 rfl rfl ?_
      refine tz_fR (pc := 24) dX4_weigh_24 fl_X4_9 r_156_1 ?_
      refine tz_iload (pc := 27) dX4_weigh_27 rfl ?_
      refine tz_iconst (pc := 29) dX4_weigh_29 ?_
      refine tz_ixor (pc := 30) (v := -1 - J 7 t) dX4_weigh_30 (z_nn (by omega)) ?_
      refine tz_dup2 (pc := 31) dX4_weigh_31 rfl rfl ?_
      have hv9 := hV (-1 - J 7 t) (by omega) (by omega)
      have hc9 := ccn_rg (v := -1 - J 7 t) C ht
      have hw9 : cwt J t = 1 := by unfold cwt; rw [hU, ha.2.1 (by omega)]; show cgw J t + 0 = 1; unfold cgw; rw [if_pos (by omega)]; omega
      have hx9 : ∀ v, ccn J v t = if J 7 t = -1 - v then 1 else 0 := fun v => by unfold ccn; rw [hUv v, ha.2.1 (by omega)]; show cgc J v t + 0 = _; unfold cgc; omega
      have hy9 := hx9 (-1 - J 7 t)
      rw [if_pos (by omega)] at hy9
      refine tz_aL (pc := 32) (z := (-1 - J 7 t)) (v := (J 157 (-1 - J 7 t))) dX4_weigh_32 a_157 rfl (by omega) rfl (fun r_32 => ?_)
      refine tz_iload_n (pc := 33) dX4_weigh_33 rfl rfl ?_
      refine tz_iadd (pc := 34) (v := (J 157 (-1 - J 7 t)) + 1) dX4_weigh_34 rfl ?_
      refine tz_aS (pc := 35) (z := (-1 - J 7 t)) dX4_weigh_35 a_157 rfl (by omega) (by omega) ?_
      refine tz_aload_n (pc := 36) dX4_weigh_36 rfl rfl ?_
      refine tz_dup (pc := 37) dX4_weigh_37 rfl ?_
      refine tz_fI (pc := 38) (kz := 2) (v := (J 156 2)) dX4_weigh_38 fl_X4_15 i_156_2 rfl rfl (fun r_38 => ?_)
      refine tz_iload_n (pc := 41) dX4_weigh_41 rfl rfl ?_
      refine tz_iadd (pc := 42) (v := (J 156 2) + 1) dX4_weigh_42 rfl ?_
      refine tz_pI (pc := 43) (kz := 2) dX4_weigh_43 fl_X4_15 i_156_2 rfl rfl (by omega) ?_
      exact tz_vret (pc := 46) dX4_weigh_46 rfl (Nat.le_of_ble_eq_true rfl) (Nat.le_of_ble_eq_true rfl) ⟨Nat.le_refl _, Nat.le_add_right _ _⟩ ⟨rfl, ⟨⟨zOf.up rfl (zOf.up rfl zOf.rf), fun k hk => (zup_ne hk).trans rfl⟩, by rw [zup_at]; omega, fun v x y => by show (if v = -1 - J 7 t then J 157 (-1 - J 7 t) + 1 else J 157 v) = _; rw [hx9 v]; by_cases e : v = -1 - J 7 t; rw [if_pos e, if_pos (by omega), ← e]; skip; rw [if_neg e, if_neg (by omega)]; omega⟩⟩

theorem x_weighP {l : Launch} {G : tb_G} (hl : l.stackTraces = false) (n : Nat) (J : zJ) (t : Int) (hr_t : -2147483648 ≤ t ∧ t < 2147483648) (m : Int) (C : CT J m) (ht : 0 ≤ t ∧ t < m) (h3 : J 156 3 = -1) (hB : -10000 + cwt J t ≤ J 156 2 ∧ J 156 2 ≤ 10000 - cwt J t) (hV : ∀ v, 0 ≤ v → v < 8 → -10000 + ccn J v t ≤ J 157 v ∧ J 157 v ≤ 10000 - ccn J v t) : tz_Ok l G M_X4_weigh 10 0 0 [.ref 156, zi t, zi 1, zi 1] n J (zqv (fun J' => (zOf (zbut [156, 157]) J' J ∧ ∀ k, ¬ k = 2 → J' 156 k = J 156 k) ∧ J' 156 2 = J 156 2 + cwt J t ∧ ∀ v, 0 ≤ v → v < 8 → J' 157 v = J 157 v + ccn J v t)) zN := x_weighPR hl n 7 J t 1 hr_t (by decide) m C ht (by have := (C.nums ht.1 ht.2).2.2; omega) h3 hB hV (by have := (C.nums ht.1 ht.2).2.2; omega)
set_option maxHeartbeats 4000000 in
set_option maxRecDepth 100000 in
theorem x_weighNR {l : Launch} {G : tb_G} (hl : l.stackTraces = false) (n : Nat) : ∀ (r9 : Nat) (J : zJ) (t : Int) (lv : Int) (hr_t : -2147483648 ≤ t ∧ t < 2147483648) (hr_lv : -2147483648 ≤ lv ∧ lv < 2147483648) (m : Int) (C : CT J m) (ht : 0 ≤ t ∧ t < m) (hl9 : 1 ≤ lv ∧ lv + J 12 t ≤ 7) (h3 : J 156 3 = -1) (hB : -10000 + cwt J t ≤ J 156 2 ∧ J 156 2 ≤ 10000 - cwt J t) (hV : ∀ v, 0 ≤ v → v < 8 → -10000 + ccn J v t ≤ J 157 v ∧ J 157 v ≤ 10000 - ccn J v t), ((J 12 t).toNat) < r9 → tz_Ok l G M_X4_weigh (3 + 1 * r9) 0 0 [.ref 156, zi t, zi (-1), zi lv] n J (zqv (fun J' => (zOf (zbut [156, 157]) J' J ∧ ∀ k, ¬ k = 2 → J' 156 k = J 156 k) ∧ J' 156 2 = J 156 2 - cwt J t ∧ ∀ v, 0 ≤ v → v < 8 → J' 157 v = J 157 v - ccn J v t)) zN := by
  intro r9
  induction r9 with
  | zero => intro J t lv hr_t hr_lv m C ht hl9 h3 hB hV hm9; exact absurd hm9 (Nat.not_lt_zero _)
  | succ r9 ih =>
    intro J t lv hr_t hr_lv m C ht hl9 h3 hB hV hm9
    refine tz_Ok.of hl (by decide +kernel) rfl (tb_c1 rfl) (Nat.le_of_ble_eq_true rfl) ?_
    show tz_At l G M_X4_weigh (tb_rm (3 + 1 * (r9 + 1)) 0 0) none (tb_ZM G 0 0 (zQ n 0 (zqv (fun J' => (zOf (zbut [156, 157]) J' J ∧ ∀ k, ¬ k = 2 → J' 156 k = J 156 k) ∧ J' 156 2 = J 156 2 - cwt J t ∧ ∀ v, 0 ≤ v → v < 8 → J' 157 v = J 157 v - ccn J v t))) (zX n 0 zN)) 0 0 n J 0 [some (.ref 156), some (zi t), some (zi (-1)), some (zi lv), none, none] []
    have hm := C.told
    have ha := C.ar ht.1 ht.2
    have hn := (C.nums ht.1 ht.2).2.2
    have hwr := cwt_rg C ht
    have hU := sV_un (g := cgw J) C.td ht
    have hUv := fun v => sV_un (g := cgc J v) C.td ht
    refine tz_iload_n (pc := 0) dX4_weigh_0 rfl rfl ?_
    refine tz_bipush (pc := 1) dX4_weigh_1 (by decide) ?_
    refine tz_icmp_leT (pc := 3) (tgt := 7) (by omega) dX4_weigh_3 (by decide) (by omega) (by decide) ?_
    refine tz_aload_n (pc := 7) dX4_weigh_7 rfl rfl ?_
    refine tz_fR (pc := 8) dX4_weigh_8 fl_X4_25 r_156_0 ?_
    refine tz_fR (pc := 11) dX4_weigh_11 fl_X4_43 r_6_1 ?_
    refine tz_iload_n (pc := 14) dX4_weigh_14 rfl rfl ?_
    refine tz_aL (pc := 15) (z := t) (v := (J 7 t)) dX4_weigh_15 a_7 rfl (by omega) rfl (fun r_15 => ?_)
    refine tz_istore (pc := 16) (L2 := [_, _, _, _, _, _]) dX4_weigh_16 (by decide) rfl ?_
    refine tz_iload (pc := 18) dX4_weigh_18 rfl ?_
    refine tz_if_ge (pc := 20) (tgt := 47) dX4_weigh_20 (by decide) (by omega) (fun h_20 => ?_) (fun h_20 => ?_)
    · refine tz_aload_n (pc := 47) dX4_weigh_47 rfl rfl ?_
      refine tz_dup (pc := 48) dX4_weigh_48 rfl ?_
      refine tz_fI (pc := 49) (kz := 2) (v := (J 156 2)) dX4_weigh_49 fl_X4_15 i_156_2 rfl rfl (fun r_49 => ?_)
      refine tz_iload_n (pc := 52) dX4_weigh_52 rfl rfl ?_
      refine tz_iload (pc := 53) dX4_weigh_53 rfl ?_
      refine tz_aload_n (pc := 55) dX4_weigh_55 rfl rfl ?_
      refine tz_fI (pc := 56) (kz := 3) (v := (-1)) dX4_weigh_56 fl_X4_19 i_156_3 rfl h3 (fun _ => ?_)
      refine tz_icmp_neT (pc := 59) (tgt := 69) (by omega) dX4_weigh_59 (by decide) (by omega) (by decide) ?_
      refine tz_aload_n (pc := 69) dX4_weigh_69 rfl rfl ?_
      refine tz_fR (pc := 70) dX4_weigh_70 fl_X4_25 r_156_0 ?_
      refine tz_fR (pc := 73) dX4_weigh_73 fl_X4_63 r_6_0 ?_
      refine tz_fR (pc := 76) dX4_weigh_76 fl_X4_67 r_1_2 ?_
      refine tz_iload (pc := 79) dX4_weigh_79 rfl ?_
      have hq9 := C.1.2 (J 7 t) (by omega) (by omega)
      have hgw : cgw J t = J 4 (J 7 t) := by unfold cgw; rw [if_neg (by omega)]
      have hgc : ∀ v, 0 ≤ v → v < 8 → cgc J v t = 0 := fun v x y => by unfold cgc; rw [if_neg (by omega)]
      refine tz_aL (pc := 81) (z := (J 7 t)) (v := (J 4 (J 7 t))) dX4_weigh_81 a_4 rfl (by omega) rfl (fun r_81 => ?_)
      refine tz_imul (pc := 82) (v := (-1) * (J 4 (J 7 t))) dX4_weigh_82 rfl ?_
      refine tz_iadd (pc := 83) (v := (J 156 2) + ((-1) * (J 4 (J 7 t)))) dX4_weigh_83 rfl ?_
      refine tz_pI (pc := 84) (kz := 2) dX4_weigh_84 fl_X4_15 i_156_2 rfl rfl (by omega) ?_
      refine tz_iconst (pc := 87) dX4_weigh_87 ?_
      refine tz_istore (pc := 88) (L2 := [_, _, _, _, _, _]) dX4_weigh_88 (by decide) rfl ?_
      have loop90 : ∀ (f9 : Nat) (i : Int) (J1 : zJ), ((3 - i).toNat) < f9 → (0 ≤ i ∧ i ≤ J 8 t) → (zOf (zbut [156, 157]) J1 J ∧ ∀ k, ¬ k = 2 → J1 156 k = J 156 k) → (J1 156 2 = J 156 2 - (cgw J t + sps (cwt J) (cag J) t i.toNat)) → (∀ v, 0 ≤ v → v < 8 → J1 157 v = J 157 v - sps (ccn J v) (cag J) t i.toNat) → tz_At l G M_X4_weigh (tb_rm (3 + 1 * (r9 + 1)) 0 0) none (tb_ZM G 0 0 (zQ n 0 (zqv (fun J' => (zOf (zbut [156, 157]) J' J ∧ ∀ k, ¬ k = 2 → J' 156 k = J 156 k) ∧ J' 156 2 = J 156 2 - cwt J t ∧ ∀ v, 0 ≤ v → v < 8 → J' 157 v = J 157 v - ccn J v t))) (zX n 0 zN)) 0 0 n J1 90 [some (.ref 156), some (zi t), some (zi (-1)), some (zi lv), some (zi (J 7 t)), some (zi i)] [] := by
        intro f9
        induction f9 with
        | zero => intro i J1 hm9; exact absurd hm9 (Nat.not_lt_zero _)
        | succ f9 ih90 =>
          intro i J1 hm90 hi f1 w1 b1
          refine tz_iload (pc := 90) dX4_weigh_90 rfl ?_
          refine tz_aload_n (pc := 92) dX4_weigh_92 rfl rfl ?_
          refine tz_fR (pc := 93) dX4_weigh_93 fl_X4_25 r_156_0 ?_
          refine tz_fR (pc := 96) dX4_weigh_96 fl_X4_72 r_6_2 ?_
          refine tz_iload_n (pc := 99) dX4_weigh_99 rfl rfl ?_
          refine tz_aL (pc := 100) (z := t) (v := (J 8 t)) dX4_weigh_100 a_8 rfl (by omega) (Eq.trans (congrFun (f1.1 8 rfl) t) rfl) (fun r_100 => ?_)
          refine tz_icmp_ge (pc := 101) (tgt := 128) dX4_weigh_101 (by decide) (by omega) (by omega) (fun h_101 => ?_) (fun h_101 => ?_)
          · exact tz_vret (pc := 128) dX4_weigh_128 rfl (Nat.le_of_ble_eq_true rfl) (Nat.le_of_ble_eq_true rfl) ⟨Nat.le_refl _, Nat.le_add_right _ _⟩ ⟨rfl, ⟨f1, by rw [w1]; unfold cwt; rw [hU, show (J 8 t).toNat = i.toNat by omega], fun v x y => by rw [b1 v x y]; unfold ccn; rw [hUv v, hgc v x y, show (J 8 t).toNat = i.toNat by omega]; show _ = J 157 v - (0 + sps (ccn J v) (cag J) t i.toNat); unfold ccn; omega⟩⟩
          · refine tz_aload_n (pc := 104) dX4_weigh_104 rfl rfl ?_
            refine tz_aload_n (pc := 105) dX4_weigh_105 rfl rfl ?_
            refine tz_fR (pc := 106) dX4_weigh_106 fl_X4_25 r_156_0 ?_
            refine tz_iload_n (pc := 109) dX4_weigh_109 rfl rfl ?_
            refine tz_iload (pc := 110) dX4_weigh_110 rfl ?_
            refine tz_cV (pc := 112) (c_arg hl n _ _ _ (by omega) (by omega) (by omega)) vl_X4_50 dX4_weigh_112 o_6 rfl rfl (Nat.le_of_ble_eq_true rfl) ⟨(show 0 + 1 ≤ 3 + 1 * (r9 + 1) by omega), (show 8 + (3 + 11) + 40 * (0) ≤ 40 * (3 + 1 * (r9 + 1)) by omega)⟩ rfl rfl (Nat.le_of_ble_eq_true rfl) (Nat.le_of_ble_eq_true rfl) (fun r9 J_112 hq9 => ?_)
            obtain ⟨z_112, rfl, hz_112, rfl, hv_112⟩ := hq9
            rw [f1.1 9 rfl] at hv_112
            obtain rfl : J 9 (t * 3 + i) = z_112 := hv_112
            refine tz_iload_n (pc := 115) dX4_weigh_115 rfl rfl ?_
            refine tz_iload_n (pc := 116) dX4_weigh_116 rfl rfl ?_
            refine tz_iconst (pc := 117) dX4_weigh_117 ?_
            refine tz_iadd (pc := 118) (v := lv + 1) dX4_weigh_118 rfl ?_
            have g1 := C.arg (t := t) (i := i) (by omega) (by omega) (by omega) (by omega)
            have sa := sV_arg C.td (cgw_rg C) ht (i := i) (by omega)
            have sc := fun v => sV_arg C.td (cgc_rg (J := J) (v := v) (m := m)) ht (i := i) (by omega)
            have wa := cwt_rg C (t := J 9 (t * 3 + i)) (by omega)
            have saw : 0 ≤ sps (cwt J) (cag J) t i.toNat ∧ cgw J t + sps (cwt J) (cag J) t i.toNat + cwt J (J 9 (t * 3 + i)) ≤ cwt J t := sa
            refine tz_cV (pc := 119) (ih _ _ _ (by omega) (by omega) m (C.of (fun c hc => f1.1 c (by simp [zbut]; omega))) (by omega) (by rw [f1.1 12 rfl]; omega) ((f1.2 3 (by decide)).trans h3) (by rw [(cwt_of f1.1).1]; omega) (fun v x y => by have scv : 0 ≤ sps (ccn J v) (cag J) t i.toNat ∧ cgc J v t + sps (ccn J v) (cag J) t i.toNat + ccn J v (J 9 (t * 3 + i)) ≤ ccn J v t := sc v; have hg0 := cgc_rg (J := J) (v := v) (m := m) t ht.1 ht.2; have hv := hV v x y; have bv := b1 v x y; rw [(cwt_of f1.1).2]; omega) (by rw [f1.1 12 rfl]; omega)) vl_X4_59 dX4_weigh_119 o_156 rfl rfl (Nat.le_of_ble_eq_true rfl) ⟨(show (3 + 1 * r9) + 1 ≤ 3 + 1 * (r9 + 1) by omega), (show 8 + (6 + 11) + 40 * ((3 + 1 * r9)) ≤ 40 * (3 + 1 * (r9 + 1)) by omega)⟩ rfl rfl (Nat.le_of_ble_eq_true rfl) (Nat.le_of_ble_eq_true rfl) (fun r9 J_119 hq9 => ?_)
            obtain ⟨rfl, f2, w2, b2⟩ := hq9
            rw [(cwt_of f1.1).1] at w2
            rw [(cwt_of f1.1).2] at b2
            refine tz_iinc (pc := 122) (z := i + 1) (L2 := [_, _, _, _, _, _]) dX4_weigh_122 rfl (by omega) rfl ?_
            refine tz_goto (pc := 125) (tgt := 90) dX4_weigh_125 (by decide) ?_
            exact ih90 (i + 1) _ (by omega) (by omega) ⟨f2.1.tr f1.1, fun k hk => (f2.2 k hk).trans (f1.2 k hk)⟩ (by rw [sps_s hi.1, w2, w1]; show _ = J 156 2 - (cgw J t + (sps (cwt J) (cag J) t i.toNat + cwt J (J 9 (t * 3 + i)))); omega) (fun v x y => by rw [sps_s hi.1, b2 v x y, b1 v x y]; show _ = J 157 v - (sps (ccn J v) (cag J) t i.toNat + ccn J v (J 9 (t * 3 + i))); omega)
      exact loop90 _ 0 _ (Nat.lt_succ_self _) (by omega) ⟨zOf.up rfl zOf.rf, fun k hk => zup_ne hk⟩ (by rw [zup_at]; show _ = J 156 2 - (cgw J t + 0); omega) (fun v x y => by show J 157 v = J 157 v - 0; omega)
    · refine tz_aload_n (pc := 23) dX4_weigh_23 rfl rfl ?_
      refine tz_fR (pc := 24) dX4_weigh_24 fl_X4_9 r_156_1 ?_
      refine tz_iload (pc := 27) dX4_weigh_27 rfl ?_
      refine tz_iconst (pc := 29) dX4_weigh_29 ?_
      refine tz_ixor (pc := 30) (v := -1 - J 7 t) dX4_weigh_30 (z_nn (by omega)) ?_
      refine tz_dup2 (pc := 31) dX4_weigh_31 rfl rfl ?_
      have hv9 := hV (-1 - J 7 t) (by omega) (by omega)
      have hc9 := ccn_rg (v := -1 - J 7 t) C ht
      have hw9 : cwt J t = 1 := by unfold cwt; rw [hU, ha.2.1 (by omega)]; show cgw J t + 0 = 1; unfold cgw; rw [if_pos (by omega)]; omega
      have hx9 : ∀ v, ccn J v t = if J 7 t = -1 - v then 1 else 0 := fun v => by unfold ccn; rw [hUv v, ha.2.1 (by omega)]; show cgc J v t + 0 = _; unfold cgc; omega
      have hy9 := hx9 (-1 - J 7 t)
      rw [if_pos (by omega)] at hy9
      refine tz_aL (pc := 32) (z := (-1 - J 7 t)) (v := (J 157 (-1 - J 7 t))) dX4_weigh_32 a_157 rfl (by omega) rfl (fun r_32 => ?_)
      refine tz_iload_n (pc := 33) dX4_weigh_33 rfl rfl ?_
      refine tz_iadd (pc := 34) (v := (J 157 (-1 - J 7 t)) + (-1)) dX4_weigh_34 rfl ?_
      refine tz_aS (pc := 35) (z := (-1 - J 7 t)) dX4_weigh_35 a_157 rfl (by omega) (by omega) ?_
      refine tz_aload_n (pc := 36) dX4_weigh_36 rfl rfl ?_
      refine tz_dup (pc := 37) dX4_weigh_37 rfl ?_
      refine tz_fI (pc := 38) (kz := 2) (v := (J 156 2)) dX4_weigh_38 fl_X4_15 i_156_2 rfl rfl (fun r_38 => ?_)
      refine tz_iload_n (pc := 41) dX4_weigh_41 rfl rfl ?_
      refine tz_iadd (pc := 42) (v := (J 156 2) + (-1)) dX4_weigh_42 rfl ?_
      refine tz_pI (pc := 43) (kz := 2) dX4_weigh_43 fl_X4_15 i_156_2 rfl rfl (by omega) ?_
      exact tz_vret (pc := 46) dX4_weigh_46 rfl (Nat.le_of_ble_eq_true rfl) (Nat.le_of_ble_eq_true rfl) ⟨Nat.le_refl _, Nat.le_add_right _ _⟩ ⟨rfl, ⟨⟨zOf.up rfl (zOf.up rfl zOf.rf), fun k hk => (zup_ne hk).trans rfl⟩, by rw [zup_at]; omega, fun v x y => by show (if v = -1 - J 7 t then J 157 (-1 - J 7 t) + (-1) else J 157 v) = _; rw [hx9 v]; by_cases e : v = -1 - J 7 t; rw [if_pos e, if_pos (by omega), ← e]; omega; rw [if_neg e, if_neg (by omega)]; omega⟩⟩

theorem x_weighN {l : Launch} {G : tb_G} (hl : l.stackTraces = false) (n : Nat) (J : zJ) (t : Int) (hr_t : -2147483648 ≤ t ∧ t < 2147483648) (m : Int) (C : CT J m) (ht : 0 ≤ t ∧ t < m) (h3 : J 156 3 = -1) (hB : -10000 + cwt J t ≤ J 156 2 ∧ J 156 2 ≤ 10000 - cwt J t) (hV : ∀ v, 0 ≤ v → v < 8 → -10000 + ccn J v t ≤ J 157 v ∧ J 157 v ≤ 10000 - ccn J v t) : tz_Ok l G M_X4_weigh 10 0 0 [.ref 156, zi t, zi (-1), zi 1] n J (zqv (fun J' => (zOf (zbut [156, 157]) J' J ∧ ∀ k, ¬ k = 2 → J' 156 k = J 156 k) ∧ J' 156 2 = J 156 2 - cwt J t ∧ ∀ v, 0 ≤ v → v < 8 → J' 157 v = J 157 v - ccn J v t)) zN := x_weighNR hl n 7 J t 1 hr_t (by decide) m C ht (by have := (C.nums ht.1 ht.2).2.2; omega) h3 hB hV (by have := (C.nums ht.1 ht.2).2.2; omega)
set_option maxHeartbeats 4000000 in
set_option maxRecDepth 100000 in
theorem x_weighBoth {l : Launch} {G : tb_G} (hl : l.stackTraces = false) (n : Nat) (J : zJ) (s : Int) (t : Int) (hr_s : -2147483648 ≤ s ∧ s < 2147483648) (hr_t : -2147483648 ≤ t ∧ t < 2147483648) (m : Int) (C : CT J m) (hs : 0 ≤ s ∧ s < m) (ht : 0 ≤ t ∧ t < m) (h3 : J 156 3 = -1) : tz_Ok l G M_X4_weighBoth 11 0 0 [.ref 156, zi s, zi t] n J (zqv (fun J' => (zOf (zbut [156, 157]) J' J ∧ ∀ k, ¬ k = 2 → J' 156 k = J 156 k) ∧ J' 156 2 = cwt J s - cwt J t ∧ ∀ v, 0 ≤ v → v < 8 → J' 157 v = ccn J v s - ccn J v t)) zN := by
  refine tz_Ok.of hl (by decide +kernel) rfl (tb_c1 rfl) (Nat.le_of_ble_eq_true rfl) ?_
  show tz_At l G M_X4_weighBoth (tb_rm 11 0 0) none (tb_ZM G 0 0 (zQ n 0 (zqv (fun J' => (zOf (zbut [156, 157]) J' J ∧ ∀ k, ¬ k = 2 → J' 156 k = J 156 k) ∧ J' 156 2 = cwt J s - cwt J t ∧ ∀ v, 0 ≤ v → v < 8 → J' 157 v = ccn J v s - ccn J v t))) (zX n 0 zN)) 0 0 n J 0 [some (.ref 156), some (zi s), some (zi t)] []
  have hm := C.told
  have hws := cwt_rg C hs
  have hwt := cwt_rg C ht
  have f0 : zOf (zbut [156, 157]) (zup (zfl J 157 8 0) 156 2 0) J := zOf.up rfl (zOf.fl rfl zOf.rf)
  have z0 : ∀ v, 0 ≤ v → v < 8 → (zup (zfl J 157 8 0) 156 2 0) 157 v = 0 := fun v x y => by show zfl J 157 8 0 157 v = 0; exact zfl_in y
  refine tz_aload_n (pc := 0) dX4_weighBoth_0 rfl rfl ?_
  refine tz_fR (pc := 1) dX4_weighBoth_1 fl_X4_9 r_156_1 ?_
  refine tz_iconst (pc := 4) dX4_weighBoth_4 ?_
  refine tz_cS (pc := 5) (zJ_fill hl n _ 157 _ 8 0 (by decide) a_157 rfl) sl_X4_53 dX4_weighBoth_5 rfl rfl (Nat.le_of_ble_eq_true rfl) ⟨(Nat.le_of_ble_eq_true rfl), (Nat.le_of_ble_eq_true rfl)⟩ rfl rfl (Nat.le_of_ble_eq_true rfl) (Nat.le_of_ble_eq_true rfl) (fun r9 J_5 hq9 => ?_)
  obtain ⟨rfl, rfl⟩ := hq9
  refine tz_aload_n (pc := 8) dX4_weighBoth_8 rfl rfl ?_
  refine tz_iconst (pc := 9) dX4_weighBoth_9 ?_
  refine tz_pI (pc := 10) (kz := 2) dX4_weighBoth_10 fl_X4_15 i_156_2 rfl rfl (by decide) ?_
  refine tz_aload_n (pc := 13) dX4_weighBoth_13 rfl rfl ?_
  refine tz_iload_n (pc := 14) dX4_weighBoth_14 rfl rfl ?_
  refine tz_iconst (pc := 15) dX4_weighBoth_15 ?_
  refine tz_iconst (pc := 16) dX4_weighBoth_16 ?_
  refine tz_cV (pc := 17) (x_weighP hl n _ _ (by omega) m (C.of (fun c hc => f0 c (by simp [zbut]; omega))) hs h3 (by rw [(cwt_of f0).1]; show _ ≤ (0 : Int) ∧ (0 : Int) ≤ _; omega) (fun v x y => by rw [(cwt_of f0).2, z0 v x y]; have := ccn_rg (v := v) C hs; omega)) vl_X4_59 dX4_weighBoth_17 o_156 rfl rfl (Nat.le_of_ble_eq_true rfl) ⟨(Nat.le_of_ble_eq_true rfl), (Nat.le_of_ble_eq_true rfl)⟩ rfl rfl (Nat.le_of_ble_eq_true rfl) (Nat.le_of_ble_eq_true rfl) (fun r9 J_17 hq9 => ?_)
  obtain ⟨rfl, f1, w1, b1⟩ := hq9
  rw [(cwt_of f0).1] at w1
  rw [(cwt_of f0).2] at b1
  have f10 : zOf (zbut [156, 157]) J_17 J := f1.1.tr f0
  have w10 : J_17 156 2 = cwt J s := by rw [w1]; show (0 : Int) + _ = _; omega
  have b10 : ∀ v, 0 ≤ v → v < 8 → J_17 157 v = ccn J v s := fun v x y => by rw [b1 v x y, z0 v x y]; omega
  refine tz_aload_n (pc := 20) dX4_weighBoth_20 rfl rfl ?_
  refine tz_iload_n (pc := 21) dX4_weighBoth_21 rfl rfl ?_
  refine tz_iconst (pc := 22) dX4_weighBoth_22 ?_
  refine tz_iconst (pc := 23) dX4_weighBoth_23 ?_
  refine tz_cV (pc := 24) (x_weighN hl n _ _ (by omega) m (C.of (fun c hc => f10 c (by simp [zbut]; omega))) ht ((f1.2 3 (by decide)).trans h3) (by rw [(cwt_of f10).1, w10]; omega) (fun v x y => by rw [(cwt_of f10).2, b10 v x y]; have := ccn_rg (v := v) C hs; have := ccn_rg (v := v) C ht; omega)) vl_X4_59 dX4_weighBoth_24 o_156 rfl rfl (Nat.le_of_ble_eq_true rfl) ⟨(Nat.le_of_ble_eq_true rfl), (Nat.le_of_ble_eq_true rfl)⟩ rfl rfl (Nat.le_of_ble_eq_true rfl) (Nat.le_of_ble_eq_true rfl) (fun r9 J_24 hq9 => ?_)
  obtain ⟨rfl, f2, w2, b2⟩ := hq9
  rw [(cwt_of f10).1, w10] at w2
  rw [(cwt_of f10).2] at b2
  exact tz_vret (pc := 27) dX4_weighBoth_27 rfl (Nat.le_of_ble_eq_true rfl) (Nat.le_of_ble_eq_true rfl) ⟨Nat.le_refl _, Nat.le_add_right _ _⟩ ⟨rfl, ⟨⟨f2.1.tr f10, fun k hk => (f2.2 k hk).trans ((f1.2 k hk).trans (zup_ne hk))⟩, w2, fun v x y => by rw [b2 v x y, b10 v x y]⟩⟩

set_option maxHeartbeats 4000000 in
set_option maxRecDepth 100000 in
theorem x_lacks {l : Launch} {G : tb_G} (hl : l.stackTraces = false) (n : Nat) (J : zJ)     : tz_Ok l G M_X4_lacksVariable 0 0 0 [.ref 156] n J (zqi (fun z J' => J = J' ∧ ((z = 1 ∧ ∃ v, (0 ≤ v ∧ v < 8) ∧ J 157 v < 0) ∨ (z = 0 ∧ ∀ v, 0 ≤ v → v < 8 → 0 ≤ J 157 v)))) zN := by
  refine tz_Ok.of hl (by decide +kernel) rfl (tb_c1 rfl) (Nat.le_of_ble_eq_true rfl) ?_
  show tz_At l G M_X4_lacksVariable (tb_rm 0 0 0) none (tb_ZM G 0 0 (zQ n 0 (zqi (fun z J' => J = J' ∧ ((z = 1 ∧ ∃ v, (0 ≤ v ∧ v < 8) ∧ J 157 v < 0) ∨ (z = 0 ∧ ∀ v, 0 ≤ v → v < 8 → 0 ≤ J 157 v))))) (zX n 0 zN)) 0 0 n J 0 [some (.ref 156), none] []
  refine tz_iconst (pc := 0) dX4_lacksVariable_0 ?_
  refine tz_istore_n (pc := 1) (L2 := [_, _]) dX4_lacksVariable_1 rfl (by decide) rfl ?_
  have loop2 : ∀ (f9 : Nat) (i : Int), ((8 - i).toNat) < f9 → (0 ≤ i ∧ i ≤ 8) → (∀ v, 0 ≤ v → v < i → 0 ≤ J 157 v) → tz_At l G M_X4_lacksVariable (tb_rm 0 0 0) none (tb_ZM G 0 0 (zQ n 0 (zqi (fun z J' => J = J' ∧ ((z = 1 ∧ ∃ v, (0 ≤ v ∧ v < 8) ∧ J 157 v < 0) ∨ (z = 0 ∧ ∀ v, 0 ≤ v → v < 8 → 0 ≤ J 157 v))))) (zX n 0 zN)) 0 0 n J 2 [some (.ref 156), some (zi i)] [] := by
    intro f9
    induction f9 with
    | zero => intro i hm9; exact absurd hm9 (Nat.not_lt_zero _)
    | succ f9 ih2 =>
      intro i hm2 hi hq
      refine tz_iload_n (pc := 2) dX4_lacksVariable_2 rfl rfl ?_
      refine tz_bipush (pc := 3) dX4_lacksVariable_3 (by decide) ?_
      refine tz_icmp_ge (pc := 5) (tgt := 25) dX4_lacksVariable_5 (by decide) (by omega) (by decide) (fun h_5 => ?_) (fun h_5 => ?_)
      · refine tz_iconst (pc := 25) dX4_lacksVariable_25 ?_
        exact tz_zret (pc := 26) (z := 0) dX4_lacksVariable_26 rfl (Or.inl rfl) (Nat.le_of_ble_eq_true rfl) (Nat.le_of_ble_eq_true rfl) ⟨Nat.le_refl _, Nat.le_add_right _ _⟩ ⟨_, rfl, (by decide), ⟨rfl, Or.inr ⟨rfl, fun v x y => hq v x (by omega)⟩⟩⟩
      · refine tz_aload_n (pc := 8) dX4_lacksVariable_8 rfl rfl ?_
        refine tz_fR (pc := 9) dX4_lacksVariable_9 fl_X4_9 r_156_1 ?_
        refine tz_iload_n (pc := 12) dX4_lacksVariable_12 rfl rfl ?_
        refine tz_aL (pc := 13) (z := i) (v := (J 157 i)) dX4_lacksVariable_13 a_157 rfl (by omega) rfl (fun r_13 => ?_)
        refine tz_if_ge (pc := 14) (tgt := 19) dX4_lacksVariable_14 (by decide) (by omega) (fun h_14 => ?_) (fun h_14 => ?_)
        · refine tz_iinc (pc := 19) (z := i + 1) (L2 := [_, _]) dX4_lacksVariable_19 rfl (by omega) rfl ?_
          refine tz_goto (pc := 22) (tgt := 2) dX4_lacksVariable_22 (by decide) ?_
          exact ih2 (i + 1) (by omega) (by omega) (fun v x y => (Decidable.em (v = i)).elim (fun e => by rw [e]; omega) (fun e => hq v x (by omega)))
        · refine tz_iconst (pc := 17) dX4_lacksVariable_17 ?_
          exact tz_zret (pc := 18) (z := 1) dX4_lacksVariable_18 rfl (Or.inr rfl) (Nat.le_of_ble_eq_true rfl) (Nat.le_of_ble_eq_true rfl) ⟨Nat.le_refl _, Nat.le_add_right _ _⟩ ⟨_, rfl, (by decide), ⟨rfl, Or.inl ⟨rfl, i, by omega, by omega⟩⟩⟩
  exact loop2 _ 0 (Nat.lt_succ_self _) (by omega) (fun v x y => by omega)

theorem CT.unl {J : zJ} {m s t : Int} (h : CT J m) (hs : 0 ≤ s ∧ s < m) (ht : 0 ≤ t ∧ t < m) (e : J 7 s = J 7 t) (hn : ¬ s = t) : ∃ i, (0 ≤ i ∧ i < J 8 s) ∧ ¬ J 9 (s * 3 + i) = J 9 (t * 3 + i) := by
  refine Classical.byContradiction (fun q => hn (h.1.1.2.2.2 s t hs.1 hs.2 ht.1 ht.2 ⟨e, fun i a c => ?_⟩))
  refine Classical.byContradiction (fun w => q ⟨i, ⟨a, ?_⟩, w⟩)
  rw [h.arh hs ht e, (h.2.1 t ht.1 ht.2).1.1]
  exact c
set_option maxHeartbeats 4000000 in
set_option maxRecDepth 100000 in
theorem x_unlike {l : Launch} {G : tb_G} (hl : l.stackTraces = false) (n : Nat) (J : zJ) (s : Int) (t : Int) (hr_s : -2147483648 ≤ s ∧ s < 2147483648) (hr_t : -2147483648 ≤ t ∧ t < 2147483648) (m : Int) (C : CT J m) (hs : 0 ≤ s ∧ s < m) (ht : 0 ≤ t ∧ t < m) (he : J 7 s = J 7 t) (hn : ¬ s = t) : tz_Ok l G M_X4_firstUnlike 1 0 0 [.ref 156, zi s, zi t] n J (zqi (fun z J' => J = J' ∧ fuB (J 8) (cag J) s t z)) zN := by
  refine tz_Ok.of hl (by decide +kernel) rfl (tb_c1 rfl) (Nat.le_of_ble_eq_true rfl) ?_
  show tz_At l G M_X4_firstUnlike (tb_rm 1 0 0) none (tb_ZM G 0 0 (zQ n 0 (zqi (fun z J' => J = J' ∧ fuB (J 8) (cag J) s t z))) (zX n 0 zN)) 0 0 n J 0 [some (.ref 156), some (zi s), some (zi t), none, none] []
  have hm := C.told
  have ha := C.ar hs.1 hs.2
  have h8 := C.arh hs ht he
  obtain ⟨i0, hi0, hn0⟩ := C.unl hs ht he hn
  refine tz_aload_n (pc := 0) dX4_firstUnlike_0 rfl rfl ?_
  refine tz_fR (pc := 1) dX4_firstUnlike_1 fl_X4_25 r_156_0 ?_
  refine tz_fR (pc := 4) dX4_firstUnlike_4 fl_X4_72 r_6_2 ?_
  refine tz_iload_n (pc := 7) dX4_firstUnlike_7 rfl rfl ?_
  refine tz_aL (pc := 8) (z := s) (v := (J 8 s)) dX4_firstUnlike_8 a_8 rfl (by omega) rfl (fun r_8 => ?_)
  refine tz_iconst (pc := 9) dX4_firstUnlike_9 ?_
  refine tz_isub (pc := 10) (v := (J 8 s) - 1) dX4_firstUnlike_10 rfl ?_
  refine tz_istore_n (pc := 11) (L2 := [_, _, _, _, _]) dX4_firstUnlike_11 rfl (by decide) rfl ?_
  refine tz_iconst (pc := 12) dX4_firstUnlike_12 ?_
  refine tz_istore (pc := 13) (L2 := [_, _, _, _, _]) dX4_firstUnlike_13 (by decide) rfl ?_
  have loop15 : ∀ (f9 : Nat) (i : Int), ((3 - i).toNat) < f9 → (0 ≤ i ∧ i ≤ J 8 s - 1) → (∀ j, 0 ≤ j → j < i → J 9 (s * 3 + j) = J 9 (t * 3 + j)) → tz_At l G M_X4_firstUnlike (tb_rm 1 0 0) none (tb_ZM G 0 0 (zQ n 0 (zqi (fun z J' => J = J' ∧ fuB (J 8) (cag J) s t z))) (zX n 0 zN)) 0 0 n J 15 [some (.ref 156), some (zi s), some (zi t), some (zi ((J 8 s) - 1)), some (zi i)] [] := by
    intro f9
    induction f9 with
    | zero => intro i hm9; exact absurd hm9 (Nat.not_lt_zero _)
    | succ f9 ih15 =>
      intro i hm15 hi hq
      refine tz_iload (pc := 15) dX4_firstUnlike_15 rfl ?_
      refine tz_iload_n (pc := 17) dX4_firstUnlike_17 rfl rfl ?_
      refine tz_icmp_ge (pc := 18) (tgt := 53) dX4_firstUnlike_18 (by decide) (by omega) (by omega) (fun h_18 => ?_) (fun h_18 => ?_)
      · refine tz_iload_n (pc := 53) dX4_firstUnlike_53 rfl rfl ?_
        refine tz_iconst (pc := 54) dX4_firstUnlike_54 ?_
        refine tz_mx (pc := 55) (v := J 8 s - 1) dX4_firstUnlike_55 ml_X4_75 (Nat.le_of_ble_eq_true rfl) (Nat.le_of_ble_eq_true rfl) (Nat.le_of_ble_eq_true rfl) (Nat.le_of_ble_eq_true rfl) (by omega) (by decide) (by split <;> omega) ?_
        exact tz_iret (pc := 58) (z := (J 8 s - 1)) dX4_firstUnlike_58 rfl (Nat.le_of_ble_eq_true rfl) (Nat.le_of_ble_eq_true rfl) ⟨Nat.le_refl _, Nat.le_add_right _ _⟩ ⟨_, rfl, (by omega), ⟨rfl, by omega, by show ¬ J 9 (s * 3 + (J 8 s - 1)) = J 9 (t * 3 + (J 8 s - 1)); (have e0 : i0 = J 8 s - 1 := Classical.byContradiction (fun q => hn0 (hq i0 hi0.1 (by omega)))); rw [← e0]; exact hn0, fun j x y => hq j x (by omega)⟩⟩
      · refine tz_aload_n (pc := 21) dX4_firstUnlike_21 rfl rfl ?_
        refine tz_fR (pc := 22) dX4_firstUnlike_22 fl_X4_25 r_156_0 ?_
        refine tz_iload_n (pc := 25) dX4_firstUnlike_25 rfl rfl ?_
        refine tz_iload (pc := 26) dX4_firstUnlike_26 rfl ?_
        refine tz_cV (pc := 28) (c_arg hl n _ _ _ (by omega) (by omega) (by omega)) vl_X4_50 dX4_firstUnlike_28 o_6 rfl rfl (Nat.le_of_ble_eq_true rfl) ⟨(Nat.le_of_ble_eq_true rfl), (Nat.le_of_ble_eq_true rfl)⟩ rfl rfl (Nat.le_of_ble_eq_true rfl) (Nat.le_of_ble_eq_true rfl) (fun r9 J_28 hq9 => ?_)
        obtain ⟨z_28, rfl, hz_28, rfl, rfl⟩ := hq9
        refine tz_aload_n (pc := 31) dX4_firstUnlike_31 rfl rfl ?_
        refine tz_fR (pc := 32) dX4_firstUnlike_32 fl_X4_25 r_156_0 ?_
        refine tz_iload_n (pc := 35) dX4_firstUnlike_35 rfl rfl ?_
        refine tz_iload (pc := 36) dX4_firstUnlike_36 rfl ?_
        refine tz_cV (pc := 38) (c_arg hl n _ _ _ (by omega) (by omega) (by omega)) vl_X4_50 dX4_firstUnlike_38 o_6 rfl rfl (Nat.le_of_ble_eq_true rfl) ⟨(Nat.le_of_ble_eq_true rfl), (Nat.le_of_ble_eq_true rfl)⟩ rfl rfl (Nat.le_of_ble_eq_true rfl) (Nat.le_of_ble_eq_true rfl) (fun r9 J_38 hq9 => ?_)
        obtain ⟨z_38, rfl, hz_38, rfl, rfl⟩ := hq9
        refine tz_icmp_eq (pc := 41) (tgt := 47) dX4_firstUnlike_41 (by decide) (by omega) (by omega) (fun h_41 => ?_) (fun h_41 => ?_)
        · refine tz_iinc (pc := 47) (z := i + 1) (L2 := [_, _, _, _, _]) dX4_firstUnlike_47 rfl (by omega) rfl ?_
          refine tz_goto (pc := 50) (tgt := 15) dX4_firstUnlike_50 (by decide) ?_
          exact ih15 (i + 1) (by omega) (by omega) (fun j x y => (Decidable.em (j = i)).elim (fun e => by rw [e]; omega) (fun e => hq j x (by omega)))
        · refine tz_iload (pc := 44) dX4_firstUnlike_44 rfl ?_
          exact tz_iret (pc := 46) (z := i) dX4_firstUnlike_46 rfl (Nat.le_of_ble_eq_true rfl) (Nat.le_of_ble_eq_true rfl) ⟨Nat.le_refl _, Nat.le_add_right _ _⟩ ⟨_, rfl, (by omega), ⟨rfl, by omega, by show ¬ J 9 (s * 3 + i) = J 9 (t * 3 + i); omega, hq⟩⟩
  exact loop15 _ 0 (Nat.lt_succ_self _) (by omega) (fun j x y => by omega)

theorem gtP_rf {cn : Int → Int → Int} {wt hd ar : Int → Int} {ag : Int → Int → Int} {k : Nat} {s : Int} : ¬ gtP cn wt hd ar ag k s s := fun h => by
  cases k with
  | zero => exact h
  | succ k => exact h.1 rfl
set_option maxHeartbeats 4000000 in
set_option maxRecDepth 100000 in
theorem x_greater9 {l : Launch} {G : tb_G} (hl : l.stackTraces = false) (n : Nat) (J : zJ) (s : Int) (t : Int) (hr_s : -2147483648 ≤ s ∧ s < 2147483648) (hr_t : -2147483648 ≤ t ∧ t < 2147483648) (m : Int) (C : CT J m) (hs : 0 ≤ s ∧ s < m) (ht : 0 ≤ t ∧ t < m) (h3 : J 156 3 = -1) : tz_Ok l G M_X4_isGreater 12 0 0 [.ref 156, zi s, zi t] n J (zqi (fun z J' => ((z = 1 ∧ cgt J 6 s t) ∨ (z = 0 ∧ ¬ cgt J 6 s t)) ∧ (zOf (zbut [156, 157]) J' J ∧ ∀ k, ¬ k = 2 → J' 156 k = J 156 k))) zN := by
  refine tz_Ok.of hl (by decide +kernel) rfl (tb_c1 rfl) (Nat.le_of_ble_eq_true rfl) ?_
  show tz_At l G M_X4_isGreater (tb_rm 12 0 0) none (tb_ZM G 0 0 (zQ n 0 (zqi (fun z J' => ((z = 1 ∧ cgt J 6 s t) ∨ (z = 0 ∧ ¬ cgt J 6 s t)) ∧ (zOf (zbut [156, 157]) J' J ∧ ∀ k, ¬ k = 2 → J' 156 k = J 156 k)))) (zX n 0 zN)) 0 0 n J 0 [some (.ref 156), some (zi s), some (zi t), none, none, none, none] []
  have hm := C.told
  have hn0 := (C.nums hs.1 hs.2).2.2
  refine tz_iload_n (pc := 0) dX4_isGreater_0 rfl rfl ?_
  refine tz_istore_n (pc := 1) (L2 := [_, _, _, _, _, _, _]) dX4_isGreater_1 rfl (by decide) rfl ?_
  refine tz_iload_n (pc := 2) dX4_isGreater_2 rfl rfl ?_
  refine tz_istore (pc := 3) (L2 := [_, _, _, _, _, _, _]) dX4_isGreater_3 (by decide) rfl ?_
  refine tz_iconst (pc := 5) dX4_isGreater_5 ?_
  refine tz_istore (pc := 6) (L2 := [_, _, _, _, _, _, _]) dX4_isGreater_6 (by decide) rfl ?_
  have loop8 : ∀ (f9 : Nat) (a : Int) (b : Int) (k : Int) (d6 : Option Value) (J1 : zJ), ((6 - k).toNat) < f9 → (0 ≤ k ∧ k ≤ 6) → (0 ≤ a ∧ a < m) → (0 ≤ b ∧ b < m) → (J 12 a ≤ 6 - k) → (zOf (zbut [156, 157]) J1 J ∧ ∀ k, ¬ k = 2 → J1 156 k = J 156 k) → (cgt J 6 s t ↔ cgt J (6 - k).toNat a b) → tz_At l G M_X4_isGreater (tb_rm 12 0 0) none (tb_ZM G 0 0 (zQ n 0 (zqi (fun z J' => ((z = 1 ∧ cgt J 6 s t) ∨ (z = 0 ∧ ¬ cgt J 6 s t)) ∧ (zOf (zbut [156, 157]) J' J ∧ ∀ k, ¬ k = 2 → J' 156 k = J 156 k)))) (zX n 0 zN)) 0 0 n J1 8 [some (.ref 156), some (zi s), some (zi t), some (zi a), some (zi b), some (zi k), d6] [] := by
    intro f9
    induction f9 with
    | zero => intro a b k d6 J1 hm9; exact absurd hm9 (Nat.not_lt_zero _)
    | succ f9 ih8 =>
      intro a b k d6 J1 hm8 hk ha hb hd fr hg
      refine tz_iload (pc := 8) dX4_isGreater_8 rfl ?_
      refine tz_bipush (pc := 10) dX4_isGreater_10 (by decide) ?_
      refine tz_icmp_ge (pc := 12) (tgt := 167) dX4_isGreater_12 (by decide) (by omega) (by decide) (fun h_12 => ?_) (fun h_12 => ?_)
      · refine tz_iconst (pc := 167) dX4_isGreater_167 ?_
        exact tz_zret (pc := 168) (z := 0) dX4_isGreater_168 rfl (Or.inl rfl) (Nat.le_of_ble_eq_true rfl) (Nat.le_of_ble_eq_true rfl) ⟨Nat.le_refl _, Nat.le_add_right _ _⟩ ⟨_, rfl, (by decide), ⟨Or.inr ⟨rfl, fun e => by have e1 := hg.1 e; rw [show (6 - k).toNat = 0 by omega] at e1; exact e1⟩, fr⟩⟩
      · refine tz_iload_n (pc := 15) dX4_isGreater_15 rfl rfl ?_
        refine tz_iload (pc := 16) dX4_isGreater_16 rfl ?_
        refine tz_icmp_eq (pc := 18) (tgt := 167) dX4_isGreater_18 (by decide) (by omega) (by omega) (fun h_18 => ?_) (fun h_18 => ?_)
        · refine tz_iconst (pc := 167) dX4_isGreater_167 ?_
          exact tz_zret (pc := 168) (z := 0) dX4_isGreater_168 rfl (Or.inl rfl) (Nat.le_of_ble_eq_true rfl) (Nat.le_of_ble_eq_true rfl) ⟨Nat.le_refl _, Nat.le_add_right _ _⟩ ⟨_, rfl, (by decide), ⟨Or.inr ⟨rfl, fun e => by have e1 := hg.1 e; rw [show a = b by omega] at e1; exact gtP_rf e1⟩, fr⟩⟩
        · refine tz_aload_n (pc := 21) dX4_isGreater_21 rfl rfl ?_
          refine tz_iload_n (pc := 22) dX4_isGreater_22 rfl rfl ?_
          refine tz_iload (pc := 23) dX4_isGreater_23 rfl ?_
          have ne9 : ¬ a = b := by omega
          have hn9 := (C.nums ha.1 ha.2).2.2
          have hk9 : (6 - k).toNat = (5 - k).toNat + 1 := by omega
          refine tz_cV (pc := 25) (x_weighBoth hl n _ _ _ (by omega) (by omega) m (C.of (fun c hc => fr.1 c (by simp [zbut]; omega))) ha hb ((fr.2 3 (by decide)).trans h3)) vl_X4_29 dX4_isGreater_25 o_156 rfl rfl (Nat.le_of_ble_eq_true rfl) ⟨(Nat.le_of_ble_eq_true rfl), (Nat.le_of_ble_eq_true rfl)⟩ rfl rfl (Nat.le_of_ble_eq_true rfl) (Nat.le_of_ble_eq_true rfl) (fun r9 J_25 hq9 => ?_)
          obtain ⟨rfl, f2, w2, b2⟩ := hq9
          rw [(cwt_of fr.1).1] at w2
          rw [(cwt_of fr.1).2] at b2
          have f20 : zOf (zbut [156, 157]) J_25 J ∧ ∀ k, ¬ k = 2 → J_25 156 k = J 156 k := ⟨f2.1.tr fr.1, fun k hk => (f2.2 k hk).trans (fr.2 k hk)⟩
          have e7 : J_25 7 = J 7 := f20.1 7 rfl
          have e9 : J_25 9 = J 9 := f20.1 9 rfl
          have hA := C.ar ha.1 ha.2
          have hAb := C.ar hb.1 hb.2
          refine tz_aload_n (pc := 28) dX4_isGreater_28 rfl rfl ?_
          refine tz_cV (pc := 29) (x_lacks hl n _) vl_X4_33 dX4_isGreater_29 o_156 rfl rfl (Nat.le_of_ble_eq_true rfl) ⟨(Nat.le_of_ble_eq_true rfl), (Nat.le_of_ble_eq_true rfl)⟩ rfl rfl (Nat.le_of_ble_eq_true rfl) (Nat.le_of_ble_eq_true rfl) (fun r9 J_29 hq9 => ?_)
          obtain ⟨zl9, rfl, hz_29, rfl, hz⟩ := hq9
          rcases hz with ⟨rfl, lk9⟩ | ⟨rfl, lk8⟩
          · refine tz_if_neT (pc := 32) (tgt := 42) (by decide) dX4_isGreater_32 (by decide) (by decide) ?_
            refine tz_iconst (pc := 42) dX4_isGreater_42 ?_
            exact tz_zret (pc := 43) (z := 0) dX4_isGreater_43 rfl (Or.inl rfl) (Nat.le_of_ble_eq_true rfl) (Nat.le_of_ble_eq_true rfl) ⟨Nat.le_refl _, Nat.le_add_right _ _⟩ ⟨_, rfl, (by decide), ⟨Or.inr ⟨rfl, fun e => by have e1 := hg.1 e; rw [hk9] at e1; first | (obtain ⟨v, q1, q2⟩ := lk9; have q3 := e1.2.1 v q1.1 q1.2; have q4 := b2 v q1.1 q1.2; omega) | (rcases e1.2.2 with q | q; omega; have := q.1; omega)⟩, f20⟩⟩
          · refine tz_if_neF (pc := 32) (tgt := 42) (by decide) dX4_isGreater_32 (by decide) (by decide) ?_
            have hv9 : ∀ v, 0 ≤ v → v < 8 → ccn J v b ≤ ccn J v a := fun v x y => by have q1 := lk8 v x y; have q2 := b2 v x y; omega
            refine tz_aload_n (pc := 35) dX4_isGreater_35 rfl rfl ?_
            refine tz_fI (pc := 36) (kz := 2) (v := (J_25 156 2)) dX4_isGreater_36 fl_X4_15 i_156_2 rfl rfl (fun r_36 => ?_)
            refine tz_if_ge (pc := 39) (tgt := 44) dX4_isGreater_39 (by decide) (by omega) (fun h_39 => ?_) (fun h_39 => ?_)
            · refine tz_aload_n (pc := 44) dX4_isGreater_44 rfl rfl ?_
              refine tz_fI (pc := 45) (kz := 2) (v := (J_25 156 2)) dX4_isGreater_45 fl_X4_15 i_156_2 rfl rfl (fun r_45 => ?_)
              refine tz_if_gt (pc := 48) (tgt := 63) dX4_isGreater_48 (by decide) (by omega) (fun h_48 => ?_) (fun h_48 => ?_)
              · refine tz_iconst (pc := 63) dX4_isGreater_63 ?_
                exact tz_zret (pc := 64) (z := 1) dX4_isGreater_64 rfl (Or.inr rfl) (Nat.le_of_ble_eq_true rfl) (Nat.le_of_ble_eq_true rfl) ⟨Nat.le_refl _, Nat.le_add_right _ _⟩ ⟨_, rfl, (by decide), ⟨Or.inl ⟨rfl, hg.2 (by rw [hk9]; exact ⟨ne9, hv9, by first | exact Or.inl (by omega) | exact Or.inr ⟨by omega, Or.inl (by omega)⟩⟩)⟩, f20⟩⟩
              · refine tz_aload_n (pc := 51) dX4_isGreater_51 rfl rfl ?_
                refine tz_fR (pc := 52) dX4_isGreater_52 fl_X4_25 r_156_0 ?_
                refine tz_iload (pc := 55) dX4_isGreater_55 rfl ?_
                refine tz_cV (pc := 57) (c_isVar hl n _ _ (by omega) (by omega)) vl_X4_37 dX4_isGreater_57 o_6 rfl rfl (Nat.le_of_ble_eq_true rfl) ⟨(Nat.le_of_ble_eq_true rfl), (Nat.le_of_ble_eq_true rfl)⟩ rfl rfl (Nat.le_of_ble_eq_true rfl) (Nat.le_of_ble_eq_true rfl) (fun r9 J_57 hq9 => ?_)
                obtain ⟨z_57, rfl, hz_57, rfl, hv_57⟩ := hq9
                rw [e7] at hv_57
                obtain rfl : (if J 7 b < 0 then 1 else 0) = z_57 := hv_57
                by_cases hw_60 : J 7 b < 0
                · rw [show (if J 7 b < 0 then 1 else 0 : Int) = 1 from if_pos hw_60]
                  refine tz_if_eqF (pc := 60) (tgt := 65) (by decide) dX4_isGreater_60 (by decide) (by decide) ?_
                  refine tz_iconst (pc := 63) dX4_isGreater_63 ?_
                  exact tz_zret (pc := 64) (z := 1) dX4_isGreater_64 rfl (Or.inr rfl) (Nat.le_of_ble_eq_true rfl) (Nat.le_of_ble_eq_true rfl) ⟨Nat.le_refl _, Nat.le_add_right _ _⟩ ⟨_, rfl, (by decide), ⟨Or.inl ⟨rfl, hg.2 (by rw [hk9]; exact ⟨ne9, hv9, by first | exact Or.inl (by omega) | exact Or.inr ⟨by omega, Or.inl (by omega)⟩⟩)⟩, f20⟩⟩
                · rw [show (if J 7 b < 0 then 1 else 0 : Int) = 0 from if_neg hw_60]
                  refine tz_if_eqT (pc := 60) (tgt := 65) (by decide) dX4_isGreater_60 (by decide) (by decide) ?_
                  refine tz_aload_n (pc := 65) dX4_isGreater_65 rfl rfl ?_
                  refine tz_fR (pc := 66) dX4_isGreater_66 fl_X4_25 r_156_0 ?_
                  refine tz_iload_n (pc := 69) dX4_isGreater_69 rfl rfl ?_
                  refine tz_cV (pc := 70) (c_isVar hl n _ _ (by omega) (by omega)) vl_X4_37 dX4_isGreater_70 o_6 rfl rfl (Nat.le_of_ble_eq_true rfl) ⟨(Nat.le_of_ble_eq_true rfl), (Nat.le_of_ble_eq_true rfl)⟩ rfl rfl (Nat.le_of_ble_eq_true rfl) (Nat.le_of_ble_eq_true rfl) (fun r9 J_70 hq9 => ?_)
                  obtain ⟨z_70, rfl, hz_70, rfl, hv_70⟩ := hq9
                  rw [e7] at hv_70
                  obtain rfl : (if J 7 a < 0 then 1 else 0) = z_70 := hv_70
                  by_cases hw_73 : J 7 a < 0
                  · rw [show (if J 7 a < 0 then 1 else 0 : Int) = 1 from if_pos hw_73]
                    refine tz_if_eqF (pc := 73) (tgt := 78) (by decide) dX4_isGreater_73 (by decide) (by decide) ?_
                    refine tz_iconst (pc := 76) dX4_isGreater_76 ?_
                    exact tz_zret (pc := 77) (z := 0) dX4_isGreater_77 rfl (Or.inl rfl) (Nat.le_of_ble_eq_true rfl) (Nat.le_of_ble_eq_true rfl) ⟨Nat.le_refl _, Nat.le_add_right _ _⟩ ⟨_, rfl, (by decide), ⟨Or.inr ⟨rfl, fun e => by have e1 := hg.1 e; rw [hk9] at e1; rcases e1.2.2 with q | ⟨_, q | ⟨q1, q2, q3⟩⟩; omega; omega; omega⟩, f20⟩⟩
                  · rw [show (if J 7 a < 0 then 1 else 0 : Int) = 0 from if_neg hw_73]
                    refine tz_if_eqT (pc := 73) (tgt := 78) (by decide) dX4_isGreater_73 (by decide) (by decide) ?_
                    refine tz_aload_n (pc := 78) dX4_isGreater_78 rfl rfl ?_
                    refine tz_fR (pc := 79) dX4_isGreater_79 fl_X4_25 r_156_0 ?_
                    refine tz_fR (pc := 82) dX4_isGreater_82 fl_X4_43 r_6_1 ?_
                    refine tz_iload_n (pc := 85) dX4_isGreater_85 rfl rfl ?_
                    refine tz_aL (pc := 86) (z := a) (v := (J 7 a)) dX4_isGreater_86 a_7 rfl (by omega) (Eq.trans (congrFun (f2.1 7 rfl) a) (Eq.trans (congrFun (fr.1 7 rfl) a) rfl)) (fun r_86 => ?_)
                    refine tz_aload_n (pc := 87) dX4_isGreater_87 rfl rfl ?_
                    refine tz_fR (pc := 88) dX4_isGreater_88 fl_X4_25 r_156_0 ?_
                    refine tz_fR (pc := 91) dX4_isGreater_91 fl_X4_43 r_6_1 ?_
                    refine tz_iload (pc := 94) dX4_isGreater_94 rfl ?_
                    refine tz_aL (pc := 96) (z := b) (v := (J 7 b)) dX4_isGreater_96 a_7 rfl (by omega) (Eq.trans (congrFun (f2.1 7 rfl) b) (Eq.trans (congrFun (fr.1 7 rfl) b) rfl)) (fun r_96 => ?_)
                    refine tz_icmp_eq (pc := 97) (tgt := 128) dX4_isGreater_97 (by decide) (by omega) (by omega) (fun h_97 => ?_) (fun h_97 => ?_)
                    · refine tz_aload_n (pc := 128) dX4_isGreater_128 rfl rfl ?_
                      refine tz_iload_n (pc := 129) dX4_isGreater_129 rfl rfl ?_
                      refine tz_iload (pc := 130) dX4_isGreater_130 rfl ?_
                      have C2 : CT J_25 m := C.of (fun c hc => f20.1 c (by simp [zbut]; omega))
                      refine tz_cV (pc := 132) (x_unlike hl n _ _ _ (by omega) (by omega) m C2 ha hb (by rw [e7]; omega) ne9) vl_X4_46 dX4_isGreater_132 o_156 rfl rfl (Nat.le_of_ble_eq_true rfl) ⟨(Nat.le_of_ble_eq_true rfl), (Nat.le_of_ble_eq_true rfl)⟩ rfl rfl (Nat.le_of_ble_eq_true rfl) (Nat.le_of_ble_eq_true rfl) (fun r9 J_132 hq9 => ?_)
                      obtain ⟨z_132, rfl, hz_132, rfl, fu8⟩ := hq9
                      have fu9 : fuB (J 8) (cag J) a b z_132 := by have := fu8; unfold cag at this ⊢; rw [f20.1 8 rfl, e9] at this; exact this
                      have e8 := C.arh ha hb (by omega)
                      have fi9 := fu9.1
                      have g1 := C.arg (t := a) (i := z_132) (by omega) (by omega) (by omega) (by omega)
                      have g2 := (C.arg (t := b) (i := z_132) (by omega) (by omega) (by omega) (by omega)).1
                      refine tz_istore (pc := 135) (L2 := [_, _, _, _, _, _, _]) dX4_isGreater_135 (by decide) rfl ?_
                      refine tz_aload_n (pc := 137) dX4_isGreater_137 rfl rfl ?_
                      refine tz_fR (pc := 138) dX4_isGreater_138 fl_X4_25 r_156_0 ?_
                      refine tz_iload_n (pc := 141) dX4_isGreater_141 rfl rfl ?_
                      refine tz_iload (pc := 142) dX4_isGreater_142 rfl ?_
                      refine tz_cV (pc := 144) (c_arg hl n _ _ _ (by omega) (by omega) (by omega)) vl_X4_50 dX4_isGreater_144 o_6 rfl rfl (Nat.le_of_ble_eq_true rfl) ⟨(Nat.le_of_ble_eq_true rfl), (Nat.le_of_ble_eq_true rfl)⟩ rfl rfl (Nat.le_of_ble_eq_true rfl) (Nat.le_of_ble_eq_true rfl) (fun r9 J_144 hq9 => ?_)
                      obtain ⟨z_144, rfl, hz_144, rfl, hv_144⟩ := hq9
                      rw [e9] at hv_144
                      obtain rfl : J 9 (a * 3 + z_132) = z_144 := hv_144
                      refine tz_istore_n (pc := 147) (L2 := [_, _, _, _, _, _, _]) dX4_isGreater_147 rfl (by decide) rfl ?_
                      refine tz_aload_n (pc := 148) dX4_isGreater_148 rfl rfl ?_
                      refine tz_fR (pc := 149) dX4_isGreater_149 fl_X4_25 r_156_0 ?_
                      refine tz_iload (pc := 152) dX4_isGreater_152 rfl ?_
                      refine tz_iload (pc := 154) dX4_isGreater_154 rfl ?_
                      refine tz_cV (pc := 156) (c_arg hl n _ _ _ (by omega) (by omega) (by omega)) vl_X4_50 dX4_isGreater_156 o_6 rfl rfl (Nat.le_of_ble_eq_true rfl) ⟨(Nat.le_of_ble_eq_true rfl), (Nat.le_of_ble_eq_true rfl)⟩ rfl rfl (Nat.le_of_ble_eq_true rfl) (Nat.le_of_ble_eq_true rfl) (fun r9 J_156 hq9 => ?_)
                      obtain ⟨z_156, rfl, hz_156, rfl, hv_156⟩ := hq9
                      rw [e9] at hv_156
                      obtain rfl : J 9 (b * 3 + z_132) = z_156 := hv_156
                      refine tz_istore (pc := 159) (L2 := [_, _, _, _, _, _, _]) dX4_isGreater_159 (by decide) rfl ?_
                      refine tz_iinc (pc := 161) (z := k + 1) (L2 := [_, _, _, _, _, _, _]) dX4_isGreater_161 rfl (by omega) rfl ?_
                      refine tz_goto (pc := 164) (tgt := 8) dX4_isGreater_164 (by decide) ?_
                      exact ih8 _ _ (k + 1) _ _ (by omega) (by omega) (by omega) (by omega) (by omega) f20 (hg.trans (by rw [hk9, show (6 - (k + 1)).toNat = (5 - k).toNat by omega]; constructor; (rintro ⟨q1, q2, q3⟩; rcases q3 with q | ⟨_, q | ⟨q4, q5, q6⟩⟩; omega; omega; (rcases q6 with q7 | ⟨q7, i2, q8, q9⟩; omega; (have ei := fuB_u q8 fu9; subst ei; exact q9))); (intro q; exact ⟨ne9, hv9, Or.inr ⟨by omega, Or.inr ⟨by omega, by omega, Or.inr ⟨by omega, z_132, fu9, q⟩⟩⟩⟩)))
                    · refine tz_aload_n (pc := 100) dX4_isGreater_100 rfl rfl ?_
                      refine tz_fR (pc := 101) dX4_isGreater_101 fl_X4_25 r_156_0 ?_
                      refine tz_fR (pc := 104) dX4_isGreater_104 fl_X4_43 r_6_1 ?_
                      refine tz_iload_n (pc := 107) dX4_isGreater_107 rfl rfl ?_
                      refine tz_aL (pc := 108) (z := a) (v := (J 7 a)) dX4_isGreater_108 a_7 rfl (by omega) (Eq.trans (congrFun (f2.1 7 rfl) a) (Eq.trans (congrFun (fr.1 7 rfl) a) rfl)) (fun r_108 => ?_)
                      refine tz_aload_n (pc := 109) dX4_isGreater_109 rfl rfl ?_
                      refine tz_fR (pc := 110) dX4_isGreater_110 fl_X4_25 r_156_0 ?_
                      refine tz_fR (pc := 113) dX4_isGreater_113 fl_X4_43 r_6_1 ?_
                      refine tz_iload (pc := 116) dX4_isGreater_116 rfl ?_
                      refine tz_aL (pc := 118) (z := b) (v := (J 7 b)) dX4_isGreater_118 a_7 rfl (by omega) (Eq.trans (congrFun (f2.1 7 rfl) b) (Eq.trans (congrFun (fr.1 7 rfl) b) rfl)) (fun r_118 => ?_)
                      refine tz_icmp_le (pc := 119) (tgt := 126) dX4_isGreater_119 (by decide) (by omega) (by omega) (fun h_119 => ?_) (fun h_119 => ?_)
                      · refine tz_iconst (pc := 126) dX4_isGreater_126 ?_
                        exact tz_zret (pc := 127) (z := 0) dX4_isGreater_127 rfl (Or.inl rfl) (Nat.le_of_ble_eq_true rfl) (Nat.le_of_ble_eq_true rfl) ⟨Nat.le_refl _, Nat.le_add_right _ _⟩ ⟨_, rfl, (by decide), ⟨Or.inr ⟨rfl, fun e => by have e1 := hg.1 e; rw [hk9] at e1; rcases e1.2.2 with q | ⟨_, q | ⟨q1, q2, q3⟩⟩; omega; omega; (rcases q3 with q4 | q4; omega; have := q4.1; omega)⟩, f20⟩⟩
                      · refine tz_iconst (pc := 122) dX4_isGreater_122 ?_
                        refine tz_goto (pc := 123) (tgt := 127) dX4_isGreater_123 (by decide) ?_
                        exact tz_zret (pc := 127) (z := 1) dX4_isGreater_127 rfl (Or.inr rfl) (Nat.le_of_ble_eq_true rfl) (Nat.le_of_ble_eq_true rfl) ⟨Nat.le_refl _, Nat.le_add_right _ _⟩ ⟨_, rfl, (by decide), ⟨Or.inl ⟨rfl, hg.2 (by rw [hk9]; exact ⟨ne9, hv9, Or.inr ⟨by omega, Or.inr ⟨by omega, by omega, Or.inl (by omega)⟩⟩⟩)⟩, f20⟩⟩
            · refine tz_iconst (pc := 42) dX4_isGreater_42 ?_
              exact tz_zret (pc := 43) (z := 0) dX4_isGreater_43 rfl (Or.inl rfl) (Nat.le_of_ble_eq_true rfl) (Nat.le_of_ble_eq_true rfl) ⟨Nat.le_refl _, Nat.le_add_right _ _⟩ ⟨_, rfl, (by decide), ⟨Or.inr ⟨rfl, fun e => by have e1 := hg.1 e; rw [hk9] at e1; first | (obtain ⟨v, q1, q2⟩ := lk9; have q3 := e1.2.1 v q1.1 q1.2; have q4 := b2 v q1.1 q1.2; omega) | (rcases e1.2.2 with q | q; omega; have := q.1; omega)⟩, f20⟩⟩
  exact loop8 _ _ _ 0 none _ (Nat.lt_succ_self _) (by omega) hs ht (by omega) ⟨zOf.rf, fun _ _ => rfl⟩ Iff.rfl

end
section
/-! ===== sizes, rules ===== -/
def one1 : Int → Int := fun _ => 1
theorem tps_sps {f : Int → Int} {ag : Int → Int → Int} {t : Int} : ∀ n : Nat, tps f ag t n = 1 + sps f ag t n
  | 0 => rfl
  | n + 1 => by
    show tps f ag t n + _ = 1 + (sps f ag t n + _)
    rw [tps_sps n]
    omega
theorem tsz_sS {m : Int} {ar dp : Int → Int} {ag : Int → Int → Int} (h : TD m ar ag dp) : ∀ (k : Nat) (t : Int), (0 ≤ t ∧ t < m) → dp t ≤ k → tsz ar ag k t = sS one1 ar ag k t
  | 0, t, ht, h1 => by have := (h t ht.1 ht.2).2.1; omega
  | k + 1, t, ht, h1 => by
    obtain ⟨a, b, c⟩ := h t ht.1 ht.2
    show tps (tsz ar ag k) ag t (ar t).toNat = 1 + sps (sS one1 ar ag k) ag t (ar t).toNat
    rw [tps_sps]
    congr 1
    refine sps_cg _ (fun i hi => ?_)
    have hb := c (i : Int) (by omega) (by omega)
    exact tsz_sS h k _ ⟨hb.1.1, by omega⟩ (by omega)
def csz (J : zJ) : Int → Int := sV one1 (J 8) (cag J)
theorem csz_s {J : zJ} {m : Int} (h : CT J m) : ∀ (k : Nat) (t : Int), (0 ≤ t ∧ t < m) → J 12 t ≤ k → J 10 t = csz J t
  | 0, t, ht, h1 => by have := (h.nums ht.1 ht.2).2.2; omega
  | k + 1, t, ht, h1 => by
    have ha := (h.ar ht.1 ht.2).1
    have e := ((h.2.1 t ht.1 ht.2).1).2.1.1
    have hs : ∀ i, 0 ≤ i → i < J 8 t → J 10 (J 9 (t * 3 + i)) = csz J (J 9 (t * 3 + i)) := fun i x y => by
      have hb := h.arg ht.1 ht.2 x y
      exact csz_s h k _ ⟨hb.1.1, by omega⟩ (by omega)
    have hU : csz J t = 1 + sps (csz J) (cag J) t (J 8 t).toNat := sV_un h.td ht
    rw [hU, e]
    unfold zs3
    have hc : J 8 t = 0 ∨ J 8 t = 1 ∨ J 8 t = 2 ∨ J 8 t = 3 := by omega
    have s0 := hs 0
    have s1 := hs 1
    have s2 := hs 2
    rcases hc with hc | hc | hc | hc <;> rw [hc] at s0 s1 s2 ⊢
    · rfl
    · rw [if_pos (by decide), if_neg (by decide), if_neg (by decide), s0 (by decide) (by decide)]
      show 1 + (_ + 0 + 0) = 1 + (0 + csz J (J 9 (t * 3 + (0 : Nat))))
      show 1 + (csz J (J 9 (t * 3 + 0)) + 0 + 0) = 1 + (0 + csz J (J 9 (t * 3 + 0)))
      omega
    · rw [if_pos (by decide), if_pos (by decide), if_neg (by decide), s0 (by decide) (by decide), s1 (by decide) (by decide)]
      show 1 + (csz J (J 9 (t * 3 + 0)) + csz J (J 9 (t * 3 + 1)) + 0) = 1 + (0 + csz J (J 9 (t * 3 + 0)) + csz J (J 9 (t * 3 + 1)))
      omega
    · rw [if_pos (by decide), if_pos (by decide), if_pos (by decide), s0 (by decide) (by decide), s1 (by decide) (by decide), s2 (by decide) (by decide)]
      show 1 + (csz J (J 9 (t * 3 + 0)) + csz J (J 9 (t * 3 + 1)) + csz J (J 9 (t * 3 + 2))) = 1 + (0 + csz J (J 9 (t * 3 + 0)) + csz J (J 9 (t * 3 + 1)) + csz J (J 9 (t * 3 + 2)))
      omega
theorem CT.sz {J : zJ} {m t : Int} (h : CT J m) (ht : 0 ≤ t ∧ t < m) : J 10 t = csz J t := csz_s h 6 t ht (by have := (h.nums ht.1 ht.2).2.2; omega)
def cru (J : zJ) (x y : Int) : Prop := 0 ≤ J 7 x ∧ cgt J 6 x y ∧ J 10 x ≤ 12 ∧ J 10 y ≤ 12
set_option maxHeartbeats 4000000 in
set_option maxRecDepth 100000 in
theorem x_isRule9 {l : Launch} {G : tb_G} (hl : l.stackTraces = false) (n : Nat) (J : zJ) (x : Int) (y : Int) (hr_x : -2147483648 ≤ x ∧ x < 2147483648) (hr_y : -2147483648 ≤ y ∧ y < 2147483648) (m : Int) (C : CT J m) (hm : J 6 12 = m) (hx : 0 ≤ x ∧ x < m) (hy : 0 ≤ y ∧ y < m) (h3 : J 156 3 = -1) : tz_Ok l G M_X7_isRule 13 0 0 [.ref 155, zi x, zi y] n J (zqi (fun z J' => ((z = 1 ∧ cru J x y) ∨ (z = 0 ∧ ¬ cru J x y)) ∧ (zOf (zbut [156, 157]) J' J ∧ ∀ k, ¬ k = 2 → J' 156 k = J 156 k))) zN := by
  refine tz_Ok.of hl (by decide +kernel) rfl (tb_c1 rfl) (Nat.le_of_ble_eq_true rfl) ?_
  show tz_At l G M_X7_isRule (tb_rm 13 0 0) none (tb_ZM G 0 0 (zQ n 0 (zqi (fun z J' => ((z = 1 ∧ cru J x y) ∨ (z = 0 ∧ ¬ cru J x y)) ∧ (zOf (zbut [156, 157]) J' J ∧ ∀ k, ¬ k = 2 → J' 156 k = J 156 k)))) (zX n 0 zN)) 0 0 n J 0 [some (.ref 155), some (zi x), some (zi y)] []
  have hb := C.told
  have hnx := (C.nums hx.1 hx.2).1
  have hny := (C.nums hy.1 hy.2).1
  refine tz_aload_n (pc := 0) dX7_isRule_0 rfl rfl ?_
  refine tz_fR (pc := 1) dX7_isRule_1 fl_X7_21 r_155_1 ?_
  refine tz_iload_n (pc := 4) dX7_isRule_4 rfl rfl ?_
  refine tz_cV (pc := 5) (c_has hl n _ _ (by omega)) vl_X7_40 dX7_isRule_5 o_6 rfl rfl (Nat.le_of_ble_eq_true rfl) ⟨(Nat.le_of_ble_eq_true rfl), (Nat.le_of_ble_eq_true rfl)⟩ rfl rfl (Nat.le_of_ble_eq_true rfl) (Nat.le_of_ble_eq_true rfl) (fun r9 J_5 hq9 => ?_)
  obtain ⟨z_5, rfl, hz_5, rfl, rfl⟩ := hq9
  by_cases hw_8 : 0 ≤ x ∧ x < J 6 12
  · rw [show (if 0 ≤ x ∧ x < J 6 12 then 1 else 0 : Int) = 1 from if_pos hw_8]
    refine tz_if_eqF (pc := 8) (tgt := 77) (by decide) dX7_isRule_8 (by decide) (by decide) ?_
    refine tz_aload_n (pc := 11) dX7_isRule_11 rfl rfl ?_
    refine tz_fR (pc := 12) dX7_isRule_12 fl_X7_21 r_155_1 ?_
    refine tz_iload_n (pc := 15) dX7_isRule_15 rfl rfl ?_
    refine tz_cV (pc := 16) (c_has hl n _ _ (by omega)) vl_X7_40 dX7_isRule_16 o_6 rfl rfl (Nat.le_of_ble_eq_true rfl) ⟨(Nat.le_of_ble_eq_true rfl), (Nat.le_of_ble_eq_true rfl)⟩ rfl rfl (Nat.le_of_ble_eq_true rfl) (Nat.le_of_ble_eq_true rfl) (fun r9 J_16 hq9 => ?_)
    obtain ⟨z_16, rfl, hz_16, rfl, rfl⟩ := hq9
    by_cases hw_19 : 0 ≤ y ∧ y < J 6 12
    · rw [show (if 0 ≤ y ∧ y < J 6 12 then 1 else 0 : Int) = 1 from if_pos hw_19]
      refine tz_if_eqF (pc := 19) (tgt := 77) (by decide) dX7_isRule_19 (by decide) (by decide) ?_
      refine tz_aload_n (pc := 22) dX7_isRule_22 rfl rfl ?_
      refine tz_fR (pc := 23) dX7_isRule_23 fl_X7_21 r_155_1 ?_
      refine tz_iload_n (pc := 26) dX7_isRule_26 rfl rfl ?_
      refine tz_cV (pc := 27) (c_isVar hl n _ _ (by omega) (by omega)) vl_X7_46 dX7_isRule_27 o_6 rfl rfl (Nat.le_of_ble_eq_true rfl) ⟨(Nat.le_of_ble_eq_true rfl), (Nat.le_of_ble_eq_true rfl)⟩ rfl rfl (Nat.le_of_ble_eq_true rfl) (Nat.le_of_ble_eq_true rfl) (fun r9 J_27 hq9 => ?_)
      obtain ⟨z_27, rfl, hz_27, rfl, rfl⟩ := hq9
      by_cases hw_30 : J 7 x < 0
      · rw [show (if J 7 x < 0 then 1 else 0 : Int) = 1 from if_pos hw_30]
        refine tz_if_neT (pc := 30) (tgt := 77) (by decide) dX7_isRule_30 (by decide) (by decide) ?_
        refine tz_iconst (pc := 77) dX7_isRule_77 ?_
        exact tz_zret (pc := 78) (z := 0) dX7_isRule_78 rfl (Or.inl rfl) (Nat.le_of_ble_eq_true rfl) (Nat.le_of_ble_eq_true rfl) ⟨Nat.le_refl _, Nat.le_add_right _ _⟩ ⟨_, rfl, (by decide), ⟨Or.inr ⟨rfl, fun e => by obtain ⟨e1, e2, e3, e4⟩ := e; first | omega | (rcases h1 with q | q; omega; exact q.2 e2)⟩, ⟨zOf.rf, fun _ _ => rfl⟩⟩⟩
      · rw [show (if J 7 x < 0 then 1 else 0 : Int) = 0 from if_neg hw_30]
        refine tz_if_neF (pc := 30) (tgt := 77) (by decide) dX7_isRule_30 (by decide) (by decide) ?_
        refine tz_aload_n (pc := 33) dX7_isRule_33 rfl rfl ?_
        refine tz_fR (pc := 34) dX7_isRule_34 fl_X7_21 r_155_1 ?_
        refine tz_fR (pc := 37) dX7_isRule_37 fl_X7_49 r_6_4 ?_
        refine tz_iload_n (pc := 40) dX7_isRule_40 rfl rfl ?_
        refine tz_aL (pc := 41) (z := x) (v := (J 10 x)) dX7_isRule_41 a_10 rfl (by omega) rfl (fun r_41 => ?_)
        refine tz_bipush (pc := 42) dX7_isRule_42 (by decide) ?_
        refine tz_icmp_gt (pc := 44) (tgt := 77) dX7_isRule_44 (by decide) (by omega) (by decide) (fun h_44 => ?_) (fun h_44 => ?_)
        · refine tz_iconst (pc := 77) dX7_isRule_77 ?_
          exact tz_zret (pc := 78) (z := 0) dX7_isRule_78 rfl (Or.inl rfl) (Nat.le_of_ble_eq_true rfl) (Nat.le_of_ble_eq_true rfl) ⟨Nat.le_refl _, Nat.le_add_right _ _⟩ ⟨_, rfl, (by decide), ⟨Or.inr ⟨rfl, fun e => by obtain ⟨e1, e2, e3, e4⟩ := e; first | omega | (rcases h1 with q | q; omega; exact q.2 e2)⟩, ⟨zOf.rf, fun _ _ => rfl⟩⟩⟩
        · refine tz_aload_n (pc := 47) dX7_isRule_47 rfl rfl ?_
          refine tz_fR (pc := 48) dX7_isRule_48 fl_X7_21 r_155_1 ?_
          refine tz_fR (pc := 51) dX7_isRule_51 fl_X7_49 r_6_4 ?_
          refine tz_iload_n (pc := 54) dX7_isRule_54 rfl rfl ?_
          refine tz_aL (pc := 55) (z := y) (v := (J 10 y)) dX7_isRule_55 a_10 rfl (by omega) rfl (fun r_55 => ?_)
          refine tz_bipush (pc := 56) dX7_isRule_56 (by decide) ?_
          refine tz_icmp_gt (pc := 58) (tgt := 77) dX7_isRule_58 (by decide) (by omega) (by decide) (fun h_58 => ?_) (fun h_58 => ?_)
          · refine tz_iconst (pc := 77) dX7_isRule_77 ?_
            exact tz_zret (pc := 78) (z := 0) dX7_isRule_78 rfl (Or.inl rfl) (Nat.le_of_ble_eq_true rfl) (Nat.le_of_ble_eq_true rfl) ⟨Nat.le_refl _, Nat.le_add_right _ _⟩ ⟨_, rfl, (by decide), ⟨Or.inr ⟨rfl, fun e => by obtain ⟨e1, e2, e3, e4⟩ := e; first | omega | (rcases h1 with q | q; omega; exact q.2 e2)⟩, ⟨zOf.rf, fun _ _ => rfl⟩⟩⟩
          · refine tz_aload_n (pc := 61) dX7_isRule_61 rfl rfl ?_
            refine tz_fR (pc := 62) dX7_isRule_62 fl_X7_30 r_155_4 ?_
            refine tz_iload_n (pc := 65) dX7_isRule_65 rfl rfl ?_
            refine tz_iload_n (pc := 66) dX7_isRule_66 rfl rfl ?_
            refine tz_cV (pc := 67) (x_greater9 hl n _ _ _ (by omega) (by omega) m C hx hy h3) vl_X7_34 dX7_isRule_67 o_156 rfl rfl (Nat.le_of_ble_eq_true rfl) ⟨(Nat.le_of_ble_eq_true rfl), (Nat.le_of_ble_eq_true rfl)⟩ rfl rfl (Nat.le_of_ble_eq_true rfl) (Nat.le_of_ble_eq_true rfl) (fun r9 J_67 hq9 => ?_)
            obtain ⟨z_67, rfl, hz_67, h1, f1⟩ := hq9
            refine tz_if_eq (pc := 70) (tgt := 77) dX7_isRule_70 (by decide) (by omega) (fun h_70 => ?_) (fun h_70 => ?_)
            · refine tz_iconst (pc := 77) dX7_isRule_77 ?_
              exact tz_zret (pc := 78) (z := 0) dX7_isRule_78 rfl (Or.inl rfl) (Nat.le_of_ble_eq_true rfl) (Nat.le_of_ble_eq_true rfl) ⟨Nat.le_refl _, Nat.le_add_right _ _⟩ ⟨_, rfl, (by decide), ⟨Or.inr ⟨rfl, fun e => by obtain ⟨e1, e2, e3, e4⟩ := e; first | omega | (rcases h1 with q | q; omega; exact q.2 e2)⟩, f1⟩⟩
            · refine tz_iconst (pc := 73) dX7_isRule_73 ?_
              refine tz_goto (pc := 74) (tgt := 78) dX7_isRule_74 (by decide) ?_
              exact tz_zret (pc := 78) (z := 1) dX7_isRule_78 rfl (Or.inr rfl) (Nat.le_of_ble_eq_true rfl) (Nat.le_of_ble_eq_true rfl) ⟨Nat.le_refl _, Nat.le_add_right _ _⟩ ⟨_, rfl, (by decide), ⟨Or.inl ⟨rfl, by omega, by rcases h1 with q | q; exact q.2; omega, by omega, by omega⟩, f1⟩⟩
    · rw [show (if 0 ≤ y ∧ y < J 6 12 then 1 else 0 : Int) = 0 from if_neg hw_19]
      refine tz_if_eqT (pc := 19) (tgt := 77) (by decide) dX7_isRule_19 (by decide) (by decide) ?_
      refine tz_iconst (pc := 77) dX7_isRule_77 ?_
      exact tz_zret (pc := 78) (z := 0) dX7_isRule_78 rfl (Or.inl rfl) (Nat.le_of_ble_eq_true rfl) (Nat.le_of_ble_eq_true rfl) ⟨Nat.le_refl _, Nat.le_add_right _ _⟩ ⟨_, rfl, (by decide), ⟨Or.inr ⟨rfl, fun e => by obtain ⟨e1, e2, e3, e4⟩ := e; first | omega | (rcases h1 with q | q; omega; exact q.2 e2)⟩, ⟨zOf.rf, fun _ _ => rfl⟩⟩⟩
  · rw [show (if 0 ≤ x ∧ x < J 6 12 then 1 else 0 : Int) = 0 from if_neg hw_8]
    refine tz_if_eqT (pc := 8) (tgt := 77) (by decide) dX7_isRule_8 (by decide) (by decide) ?_
    refine tz_iconst (pc := 77) dX7_isRule_77 ?_
    exact tz_zret (pc := 78) (z := 0) dX7_isRule_78 rfl (Or.inl rfl) (Nat.le_of_ble_eq_true rfl) (Nat.le_of_ble_eq_true rfl) ⟨Nat.le_refl _, Nat.le_add_right _ _⟩ ⟨_, rfl, (by decide), ⟨Or.inr ⟨rfl, fun e => by obtain ⟨e1, e2, e3, e4⟩ := e; first | omega | (rcases h1 with q | q; omega; exact q.2 e2)⟩, ⟨zOf.rf, fun _ _ => rfl⟩⟩⟩

end
