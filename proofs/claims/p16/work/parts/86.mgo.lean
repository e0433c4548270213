theorem RSz.mk {J' : zJ} {s a : Int} (e7 : J' 164 37 = s) (e5 : J' 164 35 = a) (h : (0 ≤ s ∧ s ≤ 700) ∧ 0 ≤ a ∧ a ≤ s) : RSz J' := by
  unfold RSz
  rw [e7, e5]
  exact h
def rmu (J : zJ) : Int := J 164 37 - J 164 35 + (if J 164 38 = 0 then 0 else 1)
theorem RGo.rf {J : zJ} : RGo J J := ⟨zOf.rf, fun _ _ => rfl⟩
theorem RGo.tr {J3 J2 J1 : zJ} (h : RGo J3 J2) (g : RGo J2 J1) : RGo J3 J1 := ⟨h.1.tr g.1, fun k q => (h.2 k q).trans (g.2 k q)⟩
theorem RGo.up {J' J : zJ} {k v : Int} (h : RGo J' J) (hk : rdF k = true) : RGo (zup J' 164 k v) J := ⟨zOf.up rfl h.1, fun q a => (zup_ne (fun e => by subst e; rw [hk] at a; exact absurd a (by decide))).trans (h.2 q a)⟩
set_option maxHeartbeats 4000000 in
set_option maxRecDepth 100000 in
theorem m_go {l : Launch} {G : tb_G} (hl : l.stackTraces = false) (n : Nat) (J : zJ)    (hS : RSz J) : tz_Ok l G M_X12_go 2 0 0 [.ref 164] n J (zqv (fun J' => RGo J' J ∧ RSz J' ∧ (0 ≤ J' 164 36 ∧ J' 164 36 ≤ 700) ∧ ∃ a9 s9 g9, J' 164 35 = a9 ∧ J' 164 38 = s9 ∧ J' 164 42 = g9 ∧ J 164 35 ≤ a9 ∧ (s9 = 0 ∨ J 164 35 < a9) ∧ (g9 = 0 ∨ ¬ s9 = 0))) zN := by
  refine tz_Ok.of hl (by decide +kernel) rfl (tb_c1 rfl) (Nat.le_of_ble_eq_true rfl) ?_
  show tz_At l G M_X12_go (tb_rm 2 0 0) none (tb_ZM G 0 0 (zQ n 0 (zqv (fun J' => RGo J' J ∧ RSz J' ∧ (0 ≤ J' 164 36 ∧ J' 164 36 ≤ 700) ∧ ∃ a9 s9 g9, J' 164 35 = a9 ∧ J' 164 38 = s9 ∧ J' 164 42 = g9 ∧ J 164 35 ≤ a9 ∧ (s9 = 0 ∨ J 164 35 < a9) ∧ (g9 = 0 ∨ ¬ s9 = 0)))) (zX n 0 zN)) 0 0 n J 0 [some (.ref 164), none] []
  obtain ⟨ra, rb⟩ := id hS
  have loop0 : ∀ (f9 : Nat) (J1 : zJ), ((J 164 37 - J1 164 35).toNat) < f9 → (RGo J1 J) → (RSz J1) → (J 164 35 ≤ J1 164 35) → tz_At l G M_X12_go (tb_rm 2 0 0) none (tb_ZM G 0 0 (zQ n 0 (zqv (fun J' => RGo J' J ∧ RSz J' ∧ (0 ≤ J' 164 36 ∧ J' 164 36 ≤ 700) ∧ ∃ a9 s9 g9, J' 164 35 = a9 ∧ J' 164 38 = s9 ∧ J' 164 42 = g9 ∧ J 164 35 ≤ a9 ∧ (s9 = 0 ∨ J 164 35 < a9) ∧ (g9 = 0 ∨ ¬ s9 = 0)))) (zX n 0 zN)) 0 0 n J1 0 [some (.ref 164), none] [] := by
    intro f9
    induction f9 with
    | zero => intro J1 hm9; exact absurd hm9 (Nat.not_lt_zero _)
    | succ f9 ih0 =>
      intro J1 hm0 f1 rs1 le1
      obtain ⟨ra1, rb1⟩ := id rs1
      rw [f1.2 37 rfl] at ra1 rb1
      refine tz_aload_n (pc := 0) dX12_go_0 rfl rfl ?_
      refine tz_fI (pc := 1) (kz := 35) (v := (J1 164 35)) dX12_go_1 fl_X12_243 i_164_35 rfl rfl (fun r_1 => ?_)
      refine tz_aload_n (pc := 4) dX12_go_4 rfl rfl ?_
      refine tz_fI (pc := 5) (kz := 37) (v := (J 164 37)) dX12_go_5 fl_X12_233 i_164_37 rfl (Eq.trans (f1.2 37 rfl) rfl) (fun r_5 => ?_)
      refine tz_icmp_ge (pc := 8) (tgt := 50) dX12_go_8 (by decide) (by omega) (by omega) (fun h_8 => ?_) (fun h_8 => ?_)
      · refine tz_aload_n (pc := 50) dX12_go_50 rfl rfl ?_
        refine tz_aload_n (pc := 51) dX12_go_51 rfl rfl ?_
        refine tz_fI (pc := 52) (kz := 35) (v := (J1 164 35)) dX12_go_52 fl_X12_243 i_164_35 rfl rfl (fun r_52 => ?_)
        refine tz_pI (pc := 55) (kz := 36) dX12_go_55 fl_X12_246 i_164_36 rfl rfl (by omega) ?_
        refine tz_aload_n (pc := 58) dX12_go_58 rfl rfl ?_
        refine tz_aload_n (pc := 59) dX12_go_59 rfl rfl ?_
        refine tz_fI (pc := 60) (kz := 35) (v := (J1 164 35)) dX12_go_60 fl_X12_243 i_164_35 rfl rfl (fun r_60 => ?_)
        refine tz_cV (pc := 63) (m_byteAt hl n _ _ (by omega) (by omega) (by rw [show ((zup J1 164 36 (J1 164 35)) : zJ) 164 37 = (J 164 37) from (Eq.trans (f1.2 37 rfl) rfl)]; omega)) vl_X12_240 dX12_go_63 o_164 rfl rfl (Nat.le_of_ble_eq_true rfl) ⟨(Nat.le_of_ble_eq_true rfl), (Nat.le_of_ble_eq_true rfl)⟩ rfl rfl (Nat.le_of_ble_eq_true rfl) (Nat.le_of_ble_eq_true rfl) (fun r9 J_63 hq9 => ?_)
        obtain ⟨z_63, rfl, hz_63, rfl, hb_63, hc_63⟩ := hq9
        rw [show ((zup J1 164 36 (J1 164 35)) : zJ) 164 37 = (J 164 37) from (Eq.trans (f1.2 37 rfl) rfl)] at hb_63 hc_63
        refine tz_istore_n (pc := 66) (L2 := [_, _]) dX12_go_66 rfl (by decide) rfl ?_
        refine tz_aload_n (pc := 67) dX12_go_67 rfl rfl ?_
        refine tz_iconst (pc := 68) dX12_go_68 ?_
        refine tz_pI (pc := 69) (kz := 40) dX12_go_69 fl_X12_249 i_164_40 rfl rfl (by decide) ?_
        refine tz_aload_n (pc := 72) dX12_go_72 rfl rfl ?_
        refine tz_iconst (pc := 73) dX12_go_73 ?_
        refine tz_pI (pc := 74) (kz := 41) dX12_go_74 fl_X12_252 i_164_41 rfl rfl (by decide) ?_
        refine tz_aload_n (pc := 77) dX12_go_77 rfl rfl ?_
        refine tz_iconst (pc := 78) dX12_go_78 ?_
        refine tz_pI (pc := 79) (kz := 39) dX12_go_79 fl_X12_255 i_164_39 rfl rfl (by decide) ?_
        refine tz_aload_n (pc := 82) dX12_go_82 rfl rfl ?_
        refine tz_iconst (pc := 83) dX12_go_83 ?_
        refine tz_pI (pc := 84) (kz := 42) dX12_go_84 fl_X12_258 i_164_42 rfl rfl (by decide) ?_
        refine tz_aload_n (pc := 87) dX12_go_87 rfl rfl ?_
        refine tz_fI (pc := 88) (kz := 35) (v := (J1 164 35)) dX12_go_88 fl_X12_243 i_164_35 rfl rfl (fun r_88 => ?_)
        refine tz_aload_n (pc := 91) dX12_go_91 rfl rfl ?_
        refine tz_fI (pc := 92) (kz := 37) (v := (J 164 37)) dX12_go_92 fl_X12_233 i_164_37 rfl (Eq.trans (f1.2 37 rfl) rfl) (fun r_92 => ?_)
        refine tz_icmp_lt (pc := 95) (tgt := 106) dX12_go_95 (by decide) (by omega) (by omega) (fun h_95 => ?_) (fun h_95 => ?_)
        · refine tz_iload_n (pc := 106) dX12_go_106 rfl rfl ?_
          refine tz_cS (pc := 107) (m_isLet hl n _ _ (by omega)) sl_X12_264 dX12_go_107 rfl rfl (Nat.le_of_ble_eq_true rfl) ⟨(Nat.le_of_ble_eq_true rfl), (Nat.le_of_ble_eq_true rfl)⟩ rfl rfl (Nat.le_of_ble_eq_true rfl) (Nat.le_of_ble_eq_true rfl) (fun r9 J_107 hq9 => ?_)
          obtain ⟨z_107, rfl, hz_107, rfl, hl_107⟩ := hq9
          refine tz_if_eq (pc := 110) (tgt := 177) dX12_go_110 (by decide) (by omega) (fun h_110 => ?_) (fun h_110 => ?_)
          · refine tz_iload_n (pc := 177) dX12_go_177 rfl rfl ?_
            refine tz_bipush (pc := 178) dX12_go_178 (by decide) ?_
            refine tz_icmp_lt (pc := 180) (tgt := 268) dX12_go_180 (by decide) (by omega) (by decide) (fun h_180 => ?_) (fun h_180 => ?_)
            · refine tz_aload_n (pc := 268) dX12_go_268 rfl rfl ?_
              refine tz_dup (pc := 269) dX12_go_269 rfl ?_
              refine tz_fI (pc := 270) (kz := 35) (v := (J1 164 35)) dX12_go_270 fl_X12_243 i_164_35 rfl rfl (fun r_270 => ?_)
              refine tz_iconst (pc := 273) dX12_go_273 ?_
              refine tz_iadd (pc := 274) (v := (J1 164 35) + 1) dX12_go_274 rfl ?_
              refine tz_pI (pc := 275) (kz := 35) dX12_go_275 fl_X12_243 i_164_35 rfl rfl (by omega) ?_
              refine tz_aload_n (pc := 278) dX12_go_278 rfl rfl ?_
              refine tz_aload_n (pc := 279) dX12_go_279 rfl rfl ?_
              refine tz_iload_n (pc := 280) dX12_go_280 rfl rfl ?_
              refine tz_cV (pc := 281) (m_isSgn hl n _ _ (by omega)) vl_X12_270 dX12_go_281 o_164 rfl rfl (Nat.le_of_ble_eq_true rfl) ⟨(Nat.le_of_ble_eq_true rfl), (Nat.le_of_ble_eq_true rfl)⟩ rfl rfl (Nat.le_of_ble_eq_true rfl) (Nat.le_of_ble_eq_true rfl) (fun r9 J_281 hq9 => ?_)
              obtain ⟨z_281, rfl, hz_281, rfl, hg⟩ := hq9
              refine tz_if_eq (pc := 284) (tgt := 291) dX12_go_284 (by decide) (by omega) (fun h_284 => ?_) (fun h_284 => ?_)
              · refine tz_iconst (pc := 291) dX12_go_291 ?_
                refine tz_pI (pc := 292) (kz := 38) dX12_go_292 fl_X12_261 i_164_38 rfl rfl (by decide) ?_
                refine tz_aload_n (pc := 295) dX12_go_295 rfl rfl ?_
                refine tz_aload_n (pc := 296) dX12_go_296 rfl rfl ?_
                refine tz_fI (pc := 297) (kz := 38) (v := 4) dX12_go_297 fl_X12_261 i_164_38 rfl rfl (fun _ => ?_)
                refine tz_iconst (pc := 300) dX12_go_300 ?_
                refine tz_icmp_neT (pc := 301) (tgt := 308) (by decide) dX12_go_301 (by decide) (by decide) (by decide) ?_
                refine tz_iconst (pc := 308) dX12_go_308 ?_
                refine tz_pI (pc := 309) (kz := 42) dX12_go_309 fl_X12_258 i_164_42 rfl rfl (by decide) ?_
                exact tz_vret (pc := 312) dX12_go_312 rfl (Nat.le_of_ble_eq_true rfl) (Nat.le_of_ble_eq_true rfl) ⟨Nat.le_refl _, Nat.le_add_right _ _⟩ ⟨rfl, ⟨(RGo.up (k := 42) (RGo.up (k := 38) (RGo.up (k := 35) (RGo.up (k := 42) (RGo.up (k := 39) (RGo.up (k := 41) (RGo.up (k := 40) (RGo.up (k := 36) f1 rfl) rfl) rfl) rfl) rfl) rfl) rfl) rfl), (RSz.mk (s := J 164 37) (a := (J1 164 35) + 1) (Eq.trans (f1.2 37 rfl) rfl) rfl (by omega)), (by rw [show ((zup (zup (zup (zup (zup (zup (zup (zup J1 164 36 (J1 164 35)) 164 40 (-1)) 164 41 0) 164 39 0) 164 42 0) 164 35 ((J1 164 35) + 1)) 164 38 4) 164 42 0) : zJ) 164 36 = (J1 164 35) from rfl]; omega), ((J1 164 35) + 1), 4, 0, rfl, rfl, rfl, by omega, by omega, by omega⟩⟩
              · refine tz_iconst (pc := 287) dX12_go_287 ?_
                refine tz_goto (pc := 288) (tgt := 292) dX12_go_288 (by decide) ?_
                refine tz_pI (pc := 292) (kz := 38) dX12_go_292 fl_X12_261 i_164_38 rfl rfl (by decide) ?_
                refine tz_aload_n (pc := 295) dX12_go_295 rfl rfl ?_
                refine tz_aload_n (pc := 296) dX12_go_296 rfl rfl ?_
                refine tz_fI (pc := 297) (kz := 38) (v := 3) dX12_go_297 fl_X12_261 i_164_38 rfl rfl (fun _ => ?_)
                refine tz_iconst (pc := 300) dX12_go_300 ?_
                refine tz_icmp_neF (pc := 301) (tgt := 308) (by decide) dX12_go_301 (by decide) (by decide) (by decide) ?_
                refine tz_iload_n (pc := 304) dX12_go_304 rfl rfl ?_
                refine tz_goto (pc := 305) (tgt := 309) dX12_go_305 (by decide) ?_
                refine tz_pI (pc := 309) (kz := 42) dX12_go_309 fl_X12_258 i_164_42 rfl rfl (by omega) ?_
                exact tz_vret (pc := 312) dX12_go_312 rfl (Nat.le_of_ble_eq_true rfl) (Nat.le_of_ble_eq_true rfl) ⟨Nat.le_refl _, Nat.le_add_right _ _⟩ ⟨rfl, ⟨(RGo.up (k := 42) (RGo.up (k := 38) (RGo.up (k := 35) (RGo.up (k := 42) (RGo.up (k := 39) (RGo.up (k := 41) (RGo.up (k := 40) (RGo.up (k := 36) f1 rfl) rfl) rfl) rfl) rfl) rfl) rfl) rfl), (RSz.mk (s := J 164 37) (a := (J1 164 35) + 1) (Eq.trans (f1.2 37 rfl) rfl) rfl (by omega)), (by rw [show ((zup (zup (zup (zup (zup (zup (zup (zup J1 164 36 (J1 164 35)) 164 40 (-1)) 164 41 0) 164 39 0) 164 42 0) 164 35 ((J1 164 35) + 1)) 164 38 3) 164 42 z_63) : zJ) 164 36 = (J1 164 35) from rfl]; omega), ((J1 164 35) + 1), 3, z_63, rfl, rfl, rfl, by omega, by omega, by omega⟩⟩
            · refine tz_iload_n (pc := 183) dX12_go_183 rfl rfl ?_
              refine tz_bipush (pc := 184) dX12_go_184 (by decide) ?_
              refine tz_icmp_gt (pc := 186) (tgt := 268) dX12_go_186 (by decide) (by omega) (by decide) (fun h_186 => ?_) (fun h_186 => ?_)
              · refine tz_aload_n (pc := 268) dX12_go_268 rfl rfl ?_
                refine tz_dup (pc := 269) dX12_go_269 rfl ?_
                refine tz_fI (pc := 270) (kz := 35) (v := (J1 164 35)) dX12_go_270 fl_X12_243 i_164_35 rfl rfl (fun r_270 => ?_)
                refine tz_iconst (pc := 273) dX12_go_273 ?_
                refine tz_iadd (pc := 274) (v := (J1 164 35) + 1) dX12_go_274 rfl ?_
                refine tz_pI (pc := 275) (kz := 35) dX12_go_275 fl_X12_243 i_164_35 rfl rfl (by omega) ?_
                refine tz_aload_n (pc := 278) dX12_go_278 rfl rfl ?_
                refine tz_aload_n (pc := 279) dX12_go_279 rfl rfl ?_
                refine tz_iload_n (pc := 280) dX12_go_280 rfl rfl ?_
                refine tz_cV (pc := 281) (m_isSgn hl n _ _ (by omega)) vl_X12_270 dX12_go_281 o_164 rfl rfl (Nat.le_of_ble_eq_true rfl) ⟨(Nat.le_of_ble_eq_true rfl), (Nat.le_of_ble_eq_true rfl)⟩ rfl rfl (Nat.le_of_ble_eq_true rfl) (Nat.le_of_ble_eq_true rfl) (fun r9 J_281 hq9 => ?_)
                obtain ⟨z_281, rfl, hz_281, rfl, hg⟩ := hq9
                refine tz_if_eq (pc := 284) (tgt := 291) dX12_go_284 (by decide) (by omega) (fun h_284 => ?_) (fun h_284 => ?_)
                · refine tz_iconst (pc := 291) dX12_go_291 ?_
                  refine tz_pI (pc := 292) (kz := 38) dX12_go_292 fl_X12_261 i_164_38 rfl rfl (by decide) ?_
                  refine tz_aload_n (pc := 295) dX12_go_295 rfl rfl ?_
                  refine tz_aload_n (pc := 296) dX12_go_296 rfl rfl ?_
                  refine tz_fI (pc := 297) (kz := 38) (v := 4) dX12_go_297 fl_X12_261 i_164_38 rfl rfl (fun _ => ?_)
                  refine tz_iconst (pc := 300) dX12_go_300 ?_
                  refine tz_icmp_neT (pc := 301) (tgt := 308) (by decide) dX12_go_301 (by decide) (by decide) (by decide) ?_
                  refine tz_iconst (pc := 308) dX12_go_308 ?_
                  refine tz_pI (pc := 309) (kz := 42) dX12_go_309 fl_X12_258 i_164_42 rfl rfl (by decide) ?_
                  exact tz_vret (pc := 312) dX12_go_312 rfl (Nat.le_of_ble_eq_true rfl) (Nat.le_of_ble_eq_true rfl) ⟨Nat.le_refl _, Nat.le_add_right _ _⟩ ⟨rfl, ⟨(RGo.up (k := 42) (RGo.up (k := 38) (RGo.up (k := 35) (RGo.up (k := 42) (RGo.up (k := 39) (RGo.up (k := 41) (RGo.up (k := 40) (RGo.up (k := 36) f1 rfl) rfl) rfl) rfl) rfl) rfl) rfl) rfl), (RSz.mk (s := J 164 37) (a := (J1 164 35) + 1) (Eq.trans (f1.2 37 rfl) rfl) rfl (by omega)), (by rw [show ((zup (zup (zup (zup (zup (zup (zup (zup J1 164 36 (J1 164 35)) 164 40 (-1)) 164 41 0) 164 39 0) 164 42 0) 164 35 ((J1 164 35) + 1)) 164 38 4) 164 42 0) : zJ) 164 36 = (J1 164 35) from rfl]; omega), ((J1 164 35) + 1), 4, 0, rfl, rfl, rfl, by omega, by omega, by omega⟩⟩
                · refine tz_iconst (pc := 287) dX12_go_287 ?_
                  refine tz_goto (pc := 288) (tgt := 292) dX12_go_288 (by decide) ?_
                  refine tz_pI (pc := 292) (kz := 38) dX12_go_292 fl_X12_261 i_164_38 rfl rfl (by decide) ?_
                  refine tz_aload_n (pc := 295) dX12_go_295 rfl rfl ?_
                  refine tz_aload_n (pc := 296) dX12_go_296 rfl rfl ?_
                  refine tz_fI (pc := 297) (kz := 38) (v := 3) dX12_go_297 fl_X12_261 i_164_38 rfl rfl (fun _ => ?_)
                  refine tz_iconst (pc := 300) dX12_go_300 ?_
                  refine tz_icmp_neF (pc := 301) (tgt := 308) (by decide) dX12_go_301 (by decide) (by decide) (by decide) ?_
                  refine tz_iload_n (pc := 304) dX12_go_304 rfl rfl ?_
                  refine tz_goto (pc := 305) (tgt := 309) dX12_go_305 (by decide) ?_
                  refine tz_pI (pc := 309) (kz := 42) dX12_go_309 fl_X12_258 i_164_42 rfl rfl (by omega) ?_
                  exact tz_vret (pc := 312) dX12_go_312 rfl (Nat.le_of_ble_eq_true rfl) (Nat.le_of_ble_eq_true rfl) ⟨Nat.le_refl _, Nat.le_add_right _ _⟩ ⟨rfl, ⟨(RGo.up (k := 42) (RGo.up (k := 38) (RGo.up (k := 35) (RGo.up (k := 42) (RGo.up (k := 39) (RGo.up (k := 41) (RGo.up (k := 40) (RGo.up (k := 36) f1 rfl) rfl) rfl) rfl) rfl) rfl) rfl) rfl), (RSz.mk (s := J 164 37) (a := (J1 164 35) + 1) (Eq.trans (f1.2 37 rfl) rfl) rfl (by omega)), (by rw [show ((zup (zup (zup (zup (zup (zup (zup (zup J1 164 36 (J1 164 35)) 164 40 (-1)) 164 41 0) 164 39 0) 164 42 0) 164 35 ((J1 164 35) + 1)) 164 38 3) 164 42 z_63) : zJ) 164 36 = (J1 164 35) from rfl]; omega), ((J1 164 35) + 1), 3, z_63, rfl, rfl, rfl, by omega, by omega, by omega⟩⟩
              · have loop189 : ∀ (f9 : Nat) (J3 : zJ), ((J 164 37 - J3 164 35).toNat) < f9 → (RGo J3 J) → (RSz J3) → (0 ≤ J3 164 36 ∧ J3 164 36 ≤ 700) → (J1 164 35 ≤ J3 164 35) → (J3 164 42 = 0) → tz_At l G M_X12_go (tb_rm 2 0 0) none (tb_ZM G 0 0 (zQ n 0 (zqv (fun J' => RGo J' J ∧ RSz J' ∧ (0 ≤ J' 164 36 ∧ J' 164 36 ≤ 700) ∧ ∃ a9 s9 g9, J' 164 35 = a9 ∧ J' 164 38 = s9 ∧ J' 164 42 = g9 ∧ J 164 35 ≤ a9 ∧ (s9 = 0 ∨ J 164 35 < a9) ∧ (g9 = 0 ∨ ¬ s9 = 0)))) (zX n 0 zN)) 0 0 n J3 189 [some (.ref 164), some (zi z_63)] [] := by
                  intro f9
                  induction f9 with
                  | zero => intro J3 hm9; exact absurd hm9 (Nat.not_lt_zero _)
                  | succ f9 ih189 =>
                    intro J3 hm189 f3 rs3 pp3 le3 sg3
                    obtain ⟨ra3, rb3⟩ := id rs3
                    rw [f3.2 37 rfl] at ra3 rb3
                    refine tz_aload_n (pc := 189) dX12_go_189 rfl rfl ?_
                    refine tz_aload_n (pc := 190) dX12_go_190 rfl rfl ?_
                    refine tz_fI (pc := 191) (kz := 35) (v := (J3 164 35)) dX12_go_191 fl_X12_243 i_164_35 rfl rfl (fun r_191 => ?_)
                    refine tz_cV (pc := 194) (m_byteAt hl n _ _ (by omega) (by omega) (by rw [show (J3 : zJ) 164 37 = (J 164 37) from (Eq.trans (f3.2 37 rfl) rfl)]; omega)) vl_X12_240 dX12_go_194 o_164 rfl rfl (Nat.le_of_ble_eq_true rfl) ⟨(Nat.le_of_ble_eq_true rfl), (Nat.le_of_ble_eq_true rfl)⟩ rfl rfl (Nat.le_of_ble_eq_true rfl) (Nat.le_of_ble_eq_true rfl) (fun r9 J_194 hq9 => ?_)
                    obtain ⟨z_194, rfl, hz_194, rfl, hb_194, hc_194⟩ := hq9
                    rw [show (J3 : zJ) 164 37 = (J 164 37) from (Eq.trans (f3.2 37 rfl) rfl)] at hb_194 hc_194
                    refine tz_bipush (pc := 197) dX12_go_197 (by decide) ?_
                    refine tz_icmp_lt (pc := 199) (tgt := 260) dX12_go_199 (by decide) (by omega) (by decide) (fun h_199 => ?_) (fun h_199 => ?_)
                    · have lt9 : J1 164 35 < J3 164 35 := by
                        rcases Int.lt_or_eq_of_le le3 with e9 | e9
                        · exact e9
                        · exfalso
                          first | (have e1 := hc_207 (by omega); rw [f3.1 173 rfl, ← e9] at e1; have e2 : J1 173 (J1 164 35) = z_63 := hc_63 (by omega); rw [f1.1 173 rfl] at e2; omega) | (have e1 := hc_194 (by omega); rw [f3.1 173 rfl, ← e9] at e1; have e2 : J1 173 (J1 164 35) = z_63 := hc_63 (by omega); rw [f1.1 173 rfl] at e2; omega)
                      refine tz_aload_n (pc := 260) dX12_go_260 rfl rfl ?_
                      refine tz_iconst (pc := 261) dX12_go_261 ?_
                      refine tz_pI (pc := 262) (kz := 38) dX12_go_262 fl_X12_261 i_164_38 rfl rfl (by decide) ?_
                      refine tz_goto (pc := 265) (tgt := 312) dX12_go_265 (by decide) ?_
                      exact tz_vret (pc := 312) dX12_go_312 rfl (Nat.le_of_ble_eq_true rfl) (Nat.le_of_ble_eq_true rfl) ⟨Nat.le_refl _, Nat.le_add_right _ _⟩ ⟨rfl, ⟨(RGo.up (k := 38) f3 rfl), (RSz.mk (s := J 164 37) (a := J3 164 35) (Eq.trans (f3.2 37 rfl) rfl) rfl (by omega)), (by rw [show ((zup J3 164 38 2) : zJ) 164 36 = (J3 164 36) from rfl]; omega), (J3 164 35), 2, (J3 164 42), rfl, rfl, rfl, by omega, by omega, by omega⟩⟩
                    · refine tz_aload_n (pc := 202) dX12_go_202 rfl rfl ?_
                      refine tz_aload_n (pc := 203) dX12_go_203 rfl rfl ?_
                      refine tz_fI (pc := 204) (kz := 35) (v := (J3 164 35)) dX12_go_204 fl_X12_243 i_164_35 rfl rfl (fun r_204 => ?_)
                      refine tz_cV (pc := 207) (m_byteAt hl n _ _ (by omega) (by omega) (by rw [show (J3 : zJ) 164 37 = (J 164 37) from (Eq.trans (f3.2 37 rfl) rfl)]; omega)) vl_X12_240 dX12_go_207 o_164 rfl rfl (Nat.le_of_ble_eq_true rfl) ⟨(Nat.le_of_ble_eq_true rfl), (Nat.le_of_ble_eq_true rfl)⟩ rfl rfl (Nat.le_of_ble_eq_true rfl) (Nat.le_of_ble_eq_true rfl) (fun r9 J_207 hq9 => ?_)
                      obtain ⟨z_207, rfl, hz_207, rfl, hb_207, hc_207⟩ := hq9
                      rw [show (J3 : zJ) 164 37 = (J 164 37) from (Eq.trans (f3.2 37 rfl) rfl)] at hb_207 hc_207
                      refine tz_bipush (pc := 210) dX12_go_210 (by decide) ?_
                      refine tz_icmp_gt (pc := 212) (tgt := 260) dX12_go_212 (by decide) (by omega) (by decide) (fun h_212 => ?_) (fun h_212 => ?_)
                      · have lt9 : J1 164 35 < J3 164 35 := by
                          rcases Int.lt_or_eq_of_le le3 with e9 | e9
                          · exact e9
                          · exfalso
                            first | (have e1 := hc_207 (by omega); rw [f3.1 173 rfl, ← e9] at e1; have e2 : J1 173 (J1 164 35) = z_63 := hc_63 (by omega); rw [f1.1 173 rfl] at e2; omega) | (have e1 := hc_194 (by omega); rw [f3.1 173 rfl, ← e9] at e1; have e2 : J1 173 (J1 164 35) = z_63 := hc_63 (by omega); rw [f1.1 173 rfl] at e2; omega)
                        refine tz_aload_n (pc := 260) dX12_go_260 rfl rfl ?_
                        refine tz_iconst (pc := 261) dX12_go_261 ?_
                        refine tz_pI (pc := 262) (kz := 38) dX12_go_262 fl_X12_261 i_164_38 rfl rfl (by decide) ?_
                        refine tz_goto (pc := 265) (tgt := 312) dX12_go_265 (by decide) ?_
                        exact tz_vret (pc := 312) dX12_go_312 rfl (Nat.le_of_ble_eq_true rfl) (Nat.le_of_ble_eq_true rfl) ⟨Nat.le_refl _, Nat.le_add_right _ _⟩ ⟨rfl, ⟨(RGo.up (k := 38) f3 rfl), (RSz.mk (s := J 164 37) (a := J3 164 35) (Eq.trans (f3.2 37 rfl) rfl) rfl (by omega)), (by rw [show ((zup J3 164 38 2) : zJ) 164 36 = (J3 164 36) from rfl]; omega), (J3 164 35), 2, (J3 164 42), rfl, rfl, rfl, by omega, by omega, by omega⟩⟩
                      · refine tz_aload_n (pc := 215) dX12_go_215 rfl rfl ?_
                        refine tz_aload_n (pc := 216) dX12_go_216 rfl rfl ?_
                        refine tz_fI (pc := 217) (kz := 35) (v := (J3 164 35)) dX12_go_217 fl_X12_243 i_164_35 rfl rfl (fun r_217 => ?_)
                        refine tz_aload_n (pc := 220) dX12_go_220 rfl rfl ?_
                        refine tz_fI (pc := 221) (kz := 36) (v := (J3 164 36)) dX12_go_221 fl_X12_246 i_164_36 rfl rfl (fun r_221 => ?_)
                        refine tz_icmp_ne (pc := 224) (tgt := 241) dX12_go_224 (by decide) (by omega) (by omega) (fun h_224 => ?_) (fun h_224 => ?_)
                        · refine tz_sipush (pc := 241) dX12_go_241 (by decide) ?_
                          refine tz_pI (pc := 244) (kz := 39) dX12_go_244 fl_X12_255 i_164_39 rfl rfl (by decide) ?_
                          refine tz_aload_n (pc := 247) dX12_go_247 rfl rfl ?_
                          refine tz_dup (pc := 248) dX12_go_248 rfl ?_
                          refine tz_fI (pc := 249) (kz := 35) (v := (J3 164 35)) dX12_go_249 fl_X12_243 i_164_35 rfl rfl (fun r_249 => ?_)
                          refine tz_iconst (pc := 252) dX12_go_252 ?_
                          refine tz_iadd (pc := 253) (v := (J3 164 35) + 1) dX12_go_253 rfl ?_
                          refine tz_pI (pc := 254) (kz := 35) dX12_go_254 fl_X12_243 i_164_35 rfl rfl (by omega) ?_
                          refine tz_goto (pc := 257) (tgt := 189) dX12_go_257 (by decide) ?_
                          exact ih189 _ (by rw [show ((zup (zup J3 164 39 999) 164 35 ((J3 164 35) + 1)) : zJ) 164 35 = ((J3 164 35) + 1) from rfl]; omega) (RGo.up (k := 35) (RGo.up (k := 39) f3 rfl) rfl) (RSz.mk (s := J 164 37) (a := (J3 164 35) + 1) (Eq.trans (f3.2 37 rfl) rfl) rfl (by omega)) (by rw [show ((zup (zup J3 164 39 999) 164 35 ((J3 164 35) + 1)) : zJ) 164 36 = (J3 164 36) from rfl]; omega) (Int.le_trans (by omega) (Int.le_of_eq (Eq.symm (show ((zup (zup J3 164 39 999) 164 35 ((J3 164 35) + 1)) : zJ) 164 35 = ((J3 164 35) + 1) from rfl)))) (Eq.trans (show ((zup (zup J3 164 39 999) 164 35 ((J3 164 35) + 1)) : zJ) 164 42 = (J3 164 42) from rfl) (by omega))
                        · refine tz_aload_n (pc := 227) dX12_go_227 rfl rfl ?_
                          refine tz_aload_n (pc := 228) dX12_go_228 rfl rfl ?_
                          refine tz_fI (pc := 229) (kz := 35) (v := (J3 164 35)) dX12_go_229 fl_X12_243 i_164_35 rfl rfl (fun r_229 => ?_)
                          refine tz_cV (pc := 232) (m_byteAt hl n _ _ (by omega) (by omega) (by rw [show (J3 : zJ) 164 37 = (J 164 37) from (Eq.trans (f3.2 37 rfl) rfl)]; omega)) vl_X12_240 dX12_go_232 o_164 rfl rfl (Nat.le_of_ble_eq_true rfl) ⟨(Nat.le_of_ble_eq_true rfl), (Nat.le_of_ble_eq_true rfl)⟩ rfl rfl (Nat.le_of_ble_eq_true rfl) (Nat.le_of_ble_eq_true rfl) (fun r9 J_232 hq9 => ?_)
                          obtain ⟨z_232, rfl, hz_232, rfl, hb_232, hc_232⟩ := hq9
                          rw [show (J3 : zJ) 164 37 = (J 164 37) from (Eq.trans (f3.2 37 rfl) rfl)] at hb_232 hc_232
                          refine tz_bipush (pc := 235) dX12_go_235 (by decide) ?_
                          refine tz_isub (pc := 237) (v := z_232 - 48) dX12_go_237 rfl ?_
                          refine tz_goto (pc := 238) (tgt := 244) dX12_go_238 (by decide) ?_
                          refine tz_tw ?_
                          have rw_244 := zw_rg (z_232 - 48)
                          refine tz_pI (pc := 244) (kz := 39) dX12_go_244 fl_X12_255 i_164_39 rfl rfl (zw_rg _) ?_
                          refine tz_aload_n (pc := 247) dX12_go_247 rfl rfl ?_
                          refine tz_dup (pc := 248) dX12_go_248 rfl ?_
                          refine tz_fI (pc := 249) (kz := 35) (v := (J3 164 35)) dX12_go_249 fl_X12_243 i_164_35 rfl rfl (fun r_249 => ?_)
                          refine tz_iconst (pc := 252) dX12_go_252 ?_
                          refine tz_iadd (pc := 253) (v := (J3 164 35) + 1) dX12_go_253 rfl ?_
                          refine tz_pI (pc := 254) (kz := 35) dX12_go_254 fl_X12_243 i_164_35 rfl rfl (by omega) ?_
                          refine tz_goto (pc := 257) (tgt := 189) dX12_go_257 (by decide) ?_
                          exact ih189 _ (by rw [show ((zup (zup J3 164 39 (zw (z_232 - 48))) 164 35 ((J3 164 35) + 1)) : zJ) 164 35 = ((J3 164 35) + 1) from rfl]; omega) (RGo.up (k := 35) (RGo.up (k := 39) f3 rfl) rfl) (RSz.mk (s := J 164 37) (a := (J3 164 35) + 1) (Eq.trans (f3.2 37 rfl) rfl) rfl (by omega)) (by rw [show ((zup (zup J3 164 39 (zw (z_232 - 48))) 164 35 ((J3 164 35) + 1)) : zJ) 164 36 = (J3 164 36) from rfl]; omega) (Int.le_trans (by omega) (Int.le_of_eq (Eq.symm (show ((zup (zup J3 164 39 (zw (z_232 - 48))) 164 35 ((J3 164 35) + 1)) : zJ) 164 35 = ((J3 164 35) + 1) from rfl)))) (Eq.trans (show ((zup (zup J3 164 39 (zw (z_232 - 48))) 164 35 ((J3 164 35) + 1)) : zJ) 164 42 = (J3 164 42) from rfl) (by omega))
                exact loop189 _ _ (Nat.lt_succ_self _) (RGo.up (k := 42) (RGo.up (k := 39) (RGo.up (k := 41) (RGo.up (k := 40) (RGo.up (k := 36) f1 rfl) rfl) rfl) rfl) rfl) (RSz.mk (s := J 164 37) (a := J1 164 35) (Eq.trans (f1.2 37 rfl) rfl) rfl (by omega)) (by rw [show ((zup (zup (zup (zup (zup J1 164 36 (J1 164 35)) 164 40 (-1)) 164 41 0) 164 39 0) 164 42 0) : zJ) 164 36 = (J1 164 35) from rfl]; omega) (Int.le_trans (by omega) (Int.le_of_eq (Eq.symm (show ((zup (zup (zup (zup (zup J1 164 36 (J1 164 35)) 164 40 (-1)) 164 41 0) 164 39 0) 164 42 0) : zJ) 164 35 = (J1 164 35) from rfl)))) (Eq.trans (show ((zup (zup (zup (zup (zup J1 164 36 (J1 164 35)) 164 40 (-1)) 164 41 0) 164 39 0) 164 42 0) : zJ) 164 42 = 0 from rfl) (by omega))
          · have loop113 : ∀ (f9 : Nat) (J2 : zJ), ((J 164 37 - J2 164 35).toNat) < f9 → (RGo J2 J) → (RSz J2) → (0 ≤ J2 164 36 ∧ J2 164 36 ≤ 700) → (J1 164 35 ≤ J2 164 35) → (J2 164 42 = 0) → tz_At l G M_X12_go (tb_rm 2 0 0) none (tb_ZM G 0 0 (zQ n 0 (zqv (fun J' => RGo J' J ∧ RSz J' ∧ (0 ≤ J' 164 36 ∧ J' 164 36 ≤ 700) ∧ ∃ a9 s9 g9, J' 164 35 = a9 ∧ J' 164 38 = s9 ∧ J' 164 42 = g9 ∧ J 164 35 ≤ a9 ∧ (s9 = 0 ∨ J 164 35 < a9) ∧ (g9 = 0 ∨ ¬ s9 = 0)))) (zX n 0 zN)) 0 0 n J2 113 [some (.ref 164), some (zi z_63)] [] := by
              intro f9
              induction f9 with
              | zero => intro J2 hm9; exact absurd hm9 (Nat.not_lt_zero _)
              | succ f9 ih113 =>
                intro J2 hm113 f2 rs2 pp2 le2 sg2
                obtain ⟨ra2, rb2⟩ := id rs2
                rw [f2.2 37 rfl] at ra2 rb2
                refine tz_aload_n (pc := 113) dX12_go_113 rfl rfl ?_
                refine tz_aload_n (pc := 114) dX12_go_114 rfl rfl ?_
                refine tz_fI (pc := 115) (kz := 35) (v := (J2 164 35)) dX12_go_115 fl_X12_243 i_164_35 rfl rfl (fun r_115 => ?_)
                refine tz_cV (pc := 118) (m_byteAt hl n _ _ (by omega) (by omega) (by rw [show (J2 : zJ) 164 37 = (J 164 37) from (Eq.trans (f2.2 37 rfl) rfl)]; omega)) vl_X12_240 dX12_go_118 o_164 rfl rfl (Nat.le_of_ble_eq_true rfl) ⟨(Nat.le_of_ble_eq_true rfl), (Nat.le_of_ble_eq_true rfl)⟩ rfl rfl (Nat.le_of_ble_eq_true rfl) (Nat.le_of_ble_eq_true rfl) (fun r9 J_118 hq9 => ?_)
                obtain ⟨z_118, rfl, hz_118, rfl, hb_118, hc_118⟩ := hq9
                rw [show (J2 : zJ) 164 37 = (J 164 37) from (Eq.trans (f2.2 37 rfl) rfl)] at hb_118 hc_118
                refine tz_cS (pc := 121) (m_isLet hl n _ _ (by omega)) sl_X12_264 dX12_go_121 rfl rfl (Nat.le_of_ble_eq_true rfl) ⟨(Nat.le_of_ble_eq_true rfl), (Nat.le_of_ble_eq_true rfl)⟩ rfl rfl (Nat.le_of_ble_eq_true rfl) (Nat.le_of_ble_eq_true rfl) (fun r9 J_121 hq9 => ?_)
                obtain ⟨z_121, rfl, hz_121, rfl, hl_121⟩ := hq9
                refine tz_if_eq (pc := 124) (tgt := 140) dX12_go_124 (by decide) (by omega) (fun h_124 => ?_) (fun h_124 => ?_)
                · have lt9 : J1 164 35 < J2 164 35 := by
                    rcases Int.lt_or_eq_of_le le2 with e9 | e9
                    · exact e9
                    · exfalso
                      first | (have e1 := hc_118 (by omega); rw [f2.1 173 rfl, ← e9] at e1; have e2 : J1 173 (J1 164 35) = z_63 := hc_63 (by omega); rw [f1.1 173 rfl] at e2; omega)
                  refine tz_aload_n (pc := 140) dX12_go_140 rfl rfl ?_
                  refine tz_iconst (pc := 141) dX12_go_141 ?_
                  refine tz_pI (pc := 142) (kz := 38) dX12_go_142 fl_X12_261 i_164_38 rfl rfl (by decide) ?_
                  refine tz_aload_n (pc := 145) dX12_go_145 rfl rfl ?_
                  refine tz_aload_n (pc := 146) dX12_go_146 rfl rfl ?_
                  refine tz_fI (pc := 147) (kz := 35) (v := (J2 164 35)) dX12_go_147 fl_X12_243 i_164_35 rfl rfl (fun r_147 => ?_)
                  refine tz_aload_n (pc := 150) dX12_go_150 rfl rfl ?_
                  refine tz_fI (pc := 151) (kz := 36) (v := (J2 164 36)) dX12_go_151 fl_X12_246 i_164_36 rfl rfl (fun r_151 => ?_)
                  refine tz_isub (pc := 154) (v := (J2 164 35) - (J2 164 36)) dX12_go_154 rfl ?_
                  refine tz_pI (pc := 155) (kz := 41) dX12_go_155 fl_X12_252 i_164_41 rfl rfl (by omega) ?_
                  refine tz_aload_n (pc := 158) dX12_go_158 rfl rfl ?_
                  refine tz_aload_n (pc := 159) dX12_go_159 rfl rfl ?_
                  refine tz_aload_n (pc := 160) dX12_go_160 rfl rfl ?_
                  refine tz_fI (pc := 161) (kz := 36) (v := (J2 164 36)) dX12_go_161 fl_X12_246 i_164_36 rfl rfl (fun r_161 => ?_)
                  refine tz_aload_n (pc := 164) dX12_go_164 rfl rfl ?_
                  refine tz_fI (pc := 165) (kz := 35) (v := (J2 164 35)) dX12_go_165 fl_X12_243 i_164_35 rfl rfl (fun r_165 => ?_)
                  refine tz_cV (pc := 168) (m_wordFrom hl n _ _ _ (by omega) (by omega) (by omega) (by rw [show ((zup (zup J2 164 38 1) 164 41 ((J2 164 35) - (J2 164 36))) : zJ) 164 37 = (J 164 37) from (Eq.trans (f2.2 37 rfl) rfl)]; omega) (by omega)) vl_X12_267 dX12_go_168 o_164 rfl rfl (Nat.le_of_ble_eq_true rfl) ⟨(Nat.le_of_ble_eq_true rfl), (Nat.le_of_ble_eq_true rfl)⟩ rfl rfl (Nat.le_of_ble_eq_true rfl) (Nat.le_of_ble_eq_true rfl) (fun r9 J_168 hq9 => ?_)
                  obtain ⟨z_168, rfl, hz_168, rfl, hw⟩ := hq9
                  refine tz_pI (pc := 171) (kz := 40) dX12_go_171 fl_X12_249 i_164_40 rfl rfl (by omega) ?_
                  refine tz_goto (pc := 174) (tgt := 312) dX12_go_174 (by decide) ?_
                  exact tz_vret (pc := 312) dX12_go_312 rfl (Nat.le_of_ble_eq_true rfl) (Nat.le_of_ble_eq_true rfl) ⟨Nat.le_refl _, Nat.le_add_right _ _⟩ ⟨rfl, ⟨(RGo.up (k := 40) (RGo.up (k := 41) (RGo.up (k := 38) f2 rfl) rfl) rfl), (RSz.mk (s := J 164 37) (a := J2 164 35) (Eq.trans (f2.2 37 rfl) rfl) rfl (by omega)), (by rw [show ((zup (zup (zup J2 164 38 1) 164 41 ((J2 164 35) - (J2 164 36))) 164 40 z_168) : zJ) 164 36 = (J2 164 36) from rfl]; omega), (J2 164 35), 1, (J2 164 42), rfl, rfl, rfl, by omega, by omega, by omega⟩⟩
                · refine tz_aload_n (pc := 127) dX12_go_127 rfl rfl ?_
                  refine tz_dup (pc := 128) dX12_go_128 rfl ?_
                  refine tz_fI (pc := 129) (kz := 35) (v := (J2 164 35)) dX12_go_129 fl_X12_243 i_164_35 rfl rfl (fun r_129 => ?_)
                  refine tz_iconst (pc := 132) dX12_go_132 ?_
                  refine tz_iadd (pc := 133) (v := (J2 164 35) + 1) dX12_go_133 rfl ?_
                  refine tz_pI (pc := 134) (kz := 35) dX12_go_134 fl_X12_243 i_164_35 rfl rfl (by omega) ?_
                  refine tz_goto (pc := 137) (tgt := 113) dX12_go_137 (by decide) ?_
                  exact ih113 _ (by rw [show ((zup J2 164 35 ((J2 164 35) + 1)) : zJ) 164 35 = ((J2 164 35) + 1) from rfl]; omega) (RGo.up (k := 35) f2 rfl) (RSz.mk (s := J 164 37) (a := (J2 164 35) + 1) (Eq.trans (f2.2 37 rfl) rfl) rfl (by omega)) (by rw [show ((zup J2 164 35 ((J2 164 35) + 1)) : zJ) 164 36 = (J2 164 36) from rfl]; omega) (Int.le_trans (by omega) (Int.le_of_eq (Eq.symm (show ((zup J2 164 35 ((J2 164 35) + 1)) : zJ) 164 35 = ((J2 164 35) + 1) from rfl)))) (Eq.trans (show ((zup J2 164 35 ((J2 164 35) + 1)) : zJ) 164 42 = (J2 164 42) from rfl) (by omega))
            exact loop113 _ _ (Nat.lt_succ_self _) (RGo.up (k := 42) (RGo.up (k := 39) (RGo.up (k := 41) (RGo.up (k := 40) (RGo.up (k := 36) f1 rfl) rfl) rfl) rfl) rfl) (RSz.mk (s := J 164 37) (a := J1 164 35) (Eq.trans (f1.2 37 rfl) rfl) rfl (by omega)) (by rw [show ((zup (zup (zup (zup (zup J1 164 36 (J1 164 35)) 164 40 (-1)) 164 41 0) 164 39 0) 164 42 0) : zJ) 164 36 = (J1 164 35) from rfl]; omega) (Int.le_trans (by omega) (Int.le_of_eq (Eq.symm (show ((zup (zup (zup (zup (zup J1 164 36 (J1 164 35)) 164 40 (-1)) 164 41 0) 164 39 0) 164 42 0) : zJ) 164 35 = (J1 164 35) from rfl)))) (Eq.trans (show ((zup (zup (zup (zup (zup J1 164 36 (J1 164 35)) 164 40 (-1)) 164 41 0) 164 39 0) 164 42 0) : zJ) 164 42 = 0 from rfl) (by omega))
        · refine tz_aload_n (pc := 98) dX12_go_98 rfl rfl ?_
          refine tz_iconst (pc := 99) dX12_go_99 ?_
          refine tz_pI (pc := 100) (kz := 38) dX12_go_100 fl_X12_261 i_164_38 rfl rfl (by decide) ?_
          refine tz_goto (pc := 103) (tgt := 312) dX12_go_103 (by decide) ?_
          exact tz_vret (pc := 312) dX12_go_312 rfl (Nat.le_of_ble_eq_true rfl) (Nat.le_of_ble_eq_true rfl) ⟨Nat.le_refl _, Nat.le_add_right _ _⟩ ⟨rfl, ⟨(RGo.up (k := 38) (RGo.up (k := 42) (RGo.up (k := 39) (RGo.up (k := 41) (RGo.up (k := 40) (RGo.up (k := 36) f1 rfl) rfl) rfl) rfl) rfl) rfl), (RSz.mk (s := J 164 37) (a := J1 164 35) (Eq.trans (f1.2 37 rfl) rfl) rfl (by omega)), (by rw [show ((zup (zup (zup (zup (zup (zup J1 164 36 (J1 164 35)) 164 40 (-1)) 164 41 0) 164 39 0) 164 42 0) 164 38 0) : zJ) 164 36 = (J1 164 35) from rfl]; omega), (J1 164 35), 0, 0, rfl, rfl, rfl, by omega, by omega, by omega⟩⟩
      · refine tz_aload_n (pc := 11) dX12_go_11 rfl rfl ?_
        refine tz_aload_n (pc := 12) dX12_go_12 rfl rfl ?_
        refine tz_fI (pc := 13) (kz := 35) (v := (J1 164 35)) dX12_go_13 fl_X12_243 i_164_35 rfl rfl (fun r_13 => ?_)
        refine tz_cV (pc := 16) (m_byteAt hl n _ _ (by omega) (by omega) (by rw [show (J1 : zJ) 164 37 = (J 164 37) from (Eq.trans (f1.2 37 rfl) rfl)]; omega)) vl_X12_240 dX12_go_16 o_164 rfl rfl (Nat.le_of_ble_eq_true rfl) ⟨(Nat.le_of_ble_eq_true rfl), (Nat.le_of_ble_eq_true rfl)⟩ rfl rfl (Nat.le_of_ble_eq_true rfl) (Nat.le_of_ble_eq_true rfl) (fun r9 J_16 hq9 => ?_)
        obtain ⟨z_16, rfl, hz_16, rfl, hb_16, hc_16⟩ := hq9
        rw [show (J1 : zJ) 164 37 = (J 164 37) from (Eq.trans (f1.2 37 rfl) rfl)] at hb_16 hc_16
        refine tz_bipush (pc := 19) dX12_go_19 (by decide) ?_
        refine tz_icmp_eq (pc := 21) (tgt := 37) dX12_go_21 (by decide) (by omega) (by decide) (fun h_21 => ?_) (fun h_21 => ?_)
        · refine tz_aload_n (pc := 37) dX12_go_37 rfl rfl ?_
          refine tz_dup (pc := 38) dX12_go_38 rfl ?_
          refine tz_fI (pc := 39) (kz := 35) (v := (J1 164 35)) dX12_go_39 fl_X12_243 i_164_35 rfl rfl (fun r_39 => ?_)
          refine tz_iconst (pc := 42) dX12_go_42 ?_
          refine tz_iadd (pc := 43) (v := (J1 164 35) + 1) dX12_go_43 rfl ?_
          refine tz_pI (pc := 44) (kz := 35) dX12_go_44 fl_X12_243 i_164_35 rfl rfl (by omega) ?_
          refine tz_goto (pc := 47) (tgt := 0) dX12_go_47 (by decide) ?_
          exact ih0 _ (by rw [show ((zup J1 164 35 ((J1 164 35) + 1)) : zJ) 164 35 = ((J1 164 35) + 1) from rfl]; omega) (RGo.up (k := 35) f1 rfl) (RSz.mk (s := J 164 37) (a := (J1 164 35) + 1) (Eq.trans (f1.2 37 rfl) rfl) rfl (by omega)) (Int.le_trans (by omega) (Int.le_of_eq (Eq.symm (show ((zup J1 164 35 ((J1 164 35) + 1)) : zJ) 164 35 = ((J1 164 35) + 1) from rfl))))
        · refine tz_aload_n (pc := 24) dX12_go_24 rfl rfl ?_
          refine tz_aload_n (pc := 25) dX12_go_25 rfl rfl ?_
          refine tz_fI (pc := 26) (kz := 35) (v := (J1 164 35)) dX12_go_26 fl_X12_243 i_164_35 rfl rfl (fun r_26 => ?_)
          refine tz_cV (pc := 29) (m_byteAt hl n _ _ (by omega) (by omega) (by rw [show (J1 : zJ) 164 37 = (J 164 37) from (Eq.trans (f1.2 37 rfl) rfl)]; omega)) vl_X12_240 dX12_go_29 o_164 rfl rfl (Nat.le_of_ble_eq_true rfl) ⟨(Nat.le_of_ble_eq_true rfl), (Nat.le_of_ble_eq_true rfl)⟩ rfl rfl (Nat.le_of_ble_eq_true rfl) (Nat.le_of_ble_eq_true rfl) (fun r9 J_29 hq9 => ?_)
          obtain ⟨z_29, rfl, hz_29, rfl, hb_29, hc_29⟩ := hq9
          rw [show (J1 : zJ) 164 37 = (J 164 37) from (Eq.trans (f1.2 37 rfl) rfl)] at hb_29 hc_29
          refine tz_bipush (pc := 32) dX12_go_32 (by decide) ?_
          refine tz_icmp_ne (pc := 34) (tgt := 50) dX12_go_34 (by decide) (by omega) (by decide) (fun h_34 => ?_) (fun h_34 => ?_)
          · refine tz_aload_n (pc := 50) dX12_go_50 rfl rfl ?_
            refine tz_aload_n (pc := 51) dX12_go_51 rfl rfl ?_
            refine tz_fI (pc := 52) (kz := 35) (v := (J1 164 35)) dX12_go_52 fl_X12_243 i_164_35 rfl rfl (fun r_52 => ?_)
            refine tz_pI (pc := 55) (kz := 36) dX12_go_55 fl_X12_246 i_164_36 rfl rfl (by omega) ?_
            refine tz_aload_n (pc := 58) dX12_go_58 rfl rfl ?_
            refine tz_aload_n (pc := 59) dX12_go_59 rfl rfl ?_
            refine tz_fI (pc := 60) (kz := 35) (v := (J1 164 35)) dX12_go_60 fl_X12_243 i_164_35 rfl rfl (fun r_60 => ?_)
            refine tz_cV (pc := 63) (m_byteAt hl n _ _ (by omega) (by omega) (by rw [show ((zup J1 164 36 (J1 164 35)) : zJ) 164 37 = (J 164 37) from (Eq.trans (f1.2 37 rfl) rfl)]; omega)) vl_X12_240 dX12_go_63 o_164 rfl rfl (Nat.le_of_ble_eq_true rfl) ⟨(Nat.le_of_ble_eq_true rfl), (Nat.le_of_ble_eq_true rfl)⟩ rfl rfl (Nat.le_of_ble_eq_true rfl) (Nat.le_of_ble_eq_true rfl) (fun r9 J_63 hq9 => ?_)
            obtain ⟨z_63, rfl, hz_63, rfl, hb_63, hc_63⟩ := hq9
            rw [show ((zup J1 164 36 (J1 164 35)) : zJ) 164 37 = (J 164 37) from (Eq.trans (f1.2 37 rfl) rfl)] at hb_63 hc_63
            refine tz_istore_n (pc := 66) (L2 := [_, _]) dX12_go_66 rfl (by decide) rfl ?_
            refine tz_aload_n (pc := 67) dX12_go_67 rfl rfl ?_
            refine tz_iconst (pc := 68) dX12_go_68 ?_
            refine tz_pI (pc := 69) (kz := 40) dX12_go_69 fl_X12_249 i_164_40 rfl rfl (by decide) ?_
            refine tz_aload_n (pc := 72) dX12_go_72 rfl rfl ?_
            refine tz_iconst (pc := 73) dX12_go_73 ?_
            refine tz_pI (pc := 74) (kz := 41) dX12_go_74 fl_X12_252 i_164_41 rfl rfl (by decide) ?_
            refine tz_aload_n (pc := 77) dX12_go_77 rfl rfl ?_
            refine tz_iconst (pc := 78) dX12_go_78 ?_
            refine tz_pI (pc := 79) (kz := 39) dX12_go_79 fl_X12_255 i_164_39 rfl rfl (by decide) ?_
            refine tz_aload_n (pc := 82) dX12_go_82 rfl rfl ?_
            refine tz_iconst (pc := 83) dX12_go_83 ?_
            refine tz_pI (pc := 84) (kz := 42) dX12_go_84 fl_X12_258 i_164_42 rfl rfl (by decide) ?_
            refine tz_aload_n (pc := 87) dX12_go_87 rfl rfl ?_
            refine tz_fI (pc := 88) (kz := 35) (v := (J1 164 35)) dX12_go_88 fl_X12_243 i_164_35 rfl rfl (fun r_88 => ?_)
            refine tz_aload_n (pc := 91) dX12_go_91 rfl rfl ?_
            refine tz_fI (pc := 92) (kz := 37) (v := (J 164 37)) dX12_go_92 fl_X12_233 i_164_37 rfl (Eq.trans (f1.2 37 rfl) rfl) (fun r_92 => ?_)
            refine tz_icmp_lt (pc := 95) (tgt := 106) dX12_go_95 (by decide) (by omega) (by omega) (fun h_95 => ?_) (fun h_95 => ?_)
            · refine tz_iload_n (pc := 106) dX12_go_106 rfl rfl ?_
              refine tz_cS (pc := 107) (m_isLet hl n _ _ (by omega)) sl_X12_264 dX12_go_107 rfl rfl (Nat.le_of_ble_eq_true rfl) ⟨(Nat.le_of_ble_eq_true rfl), (Nat.le_of_ble_eq_true rfl)⟩ rfl rfl (Nat.le_of_ble_eq_true rfl) (Nat.le_of_ble_eq_true rfl) (fun r9 J_107 hq9 => ?_)
              obtain ⟨z_107, rfl, hz_107, rfl, hl_107⟩ := hq9
              refine tz_if_eq (pc := 110) (tgt := 177) dX12_go_110 (by decide) (by omega) (fun h_110 => ?_) (fun h_110 => ?_)
              · refine tz_iload_n (pc := 177) dX12_go_177 rfl rfl ?_
                refine tz_bipush (pc := 178) dX12_go_178 (by decide) ?_
                refine tz_icmp_lt (pc := 180) (tgt := 268) dX12_go_180 (by decide) (by omega) (by decide) (fun h_180 => ?_) (fun h_180 => ?_)
                · refine tz_aload_n (pc := 268) dX12_go_268 rfl rfl ?_
                  refine tz_dup (pc := 269) dX12_go_269 rfl ?_
                  refine tz_fI (pc := 270) (kz := 35) (v := (J1 164 35)) dX12_go_270 fl_X12_243 i_164_35 rfl rfl (fun r_270 => ?_)
                  refine tz_iconst (pc := 273) dX12_go_273 ?_
                  refine tz_iadd (pc := 274) (v := (J1 164 35) + 1) dX12_go_274 rfl ?_
                  refine tz_pI (pc := 275) (kz := 35) dX12_go_275 fl_X12_243 i_164_35 rfl rfl (by omega) ?_
                  refine tz_aload_n (pc := 278) dX12_go_278 rfl rfl ?_
                  refine tz_aload_n (pc := 279) dX12_go_279 rfl rfl ?_
                  refine tz_iload_n (pc := 280) dX12_go_280 rfl rfl ?_
                  refine tz_cV (pc := 281) (m_isSgn hl n _ _ (by omega)) vl_X12_270 dX12_go_281 o_164 rfl rfl (Nat.le_of_ble_eq_true rfl) ⟨(Nat.le_of_ble_eq_true rfl), (Nat.le_of_ble_eq_true rfl)⟩ rfl rfl (Nat.le_of_ble_eq_true rfl) (Nat.le_of_ble_eq_true rfl) (fun r9 J_281 hq9 => ?_)
                  obtain ⟨z_281, rfl, hz_281, rfl, hg⟩ := hq9
                  refine tz_if_eq (pc := 284) (tgt := 291) dX12_go_284 (by decide) (by omega) (fun h_284 => ?_) (fun h_284 => ?_)
                  · refine tz_iconst (pc := 291) dX12_go_291 ?_
                    refine tz_pI (pc := 292) (kz := 38) dX12_go_292 fl_X12_261 i_164_38 rfl rfl (by decide) ?_
                    refine tz_aload_n (pc := 295) dX12_go_295 rfl rfl ?_
                    refine tz_aload_n (pc := 296) dX12_go_296 rfl rfl ?_
                    refine tz_fI (pc := 297) (kz := 38) (v := 4) dX12_go_297 fl_X12_261 i_164_38 rfl rfl (fun _ => ?_)
                    refine tz_iconst (pc := 300) dX12_go_300 ?_
                    refine tz_icmp_neT (pc := 301) (tgt := 308) (by decide) dX12_go_301 (by decide) (by decide) (by decide) ?_
                    refine tz_iconst (pc := 308) dX12_go_308 ?_
                    refine tz_pI (pc := 309) (kz := 42) dX12_go_309 fl_X12_258 i_164_42 rfl rfl (by decide) ?_
                    exact tz_vret (pc := 312) dX12_go_312 rfl (Nat.le_of_ble_eq_true rfl) (Nat.le_of_ble_eq_true rfl) ⟨Nat.le_refl _, Nat.le_add_right _ _⟩ ⟨rfl, ⟨(RGo.up (k := 42) (RGo.up (k := 38) (RGo.up (k := 35) (RGo.up (k := 42) (RGo.up (k := 39) (RGo.up (k := 41) (RGo.up (k := 40) (RGo.up (k := 36) f1 rfl) rfl) rfl) rfl) rfl) rfl) rfl) rfl), (RSz.mk (s := J 164 37) (a := (J1 164 35) + 1) (Eq.trans (f1.2 37 rfl) rfl) rfl (by omega)), (by rw [show ((zup (zup (zup (zup (zup (zup (zup (zup J1 164 36 (J1 164 35)) 164 40 (-1)) 164 41 0) 164 39 0) 164 42 0) 164 35 ((J1 164 35) + 1)) 164 38 4) 164 42 0) : zJ) 164 36 = (J1 164 35) from rfl]; omega), ((J1 164 35) + 1), 4, 0, rfl, rfl, rfl, by omega, by omega, by omega⟩⟩
                  · refine tz_iconst (pc := 287) dX12_go_287 ?_
                    refine tz_goto (pc := 288) (tgt := 292) dX12_go_288 (by decide) ?_
                    refine tz_pI (pc := 292) (kz := 38) dX12_go_292 fl_X12_261 i_164_38 rfl rfl (by decide) ?_
                    refine tz_aload_n (pc := 295) dX12_go_295 rfl rfl ?_
                    refine tz_aload_n (pc := 296) dX12_go_296 rfl rfl ?_
                    refine tz_fI (pc := 297) (kz := 38) (v := 3) dX12_go_297 fl_X12_261 i_164_38 rfl rfl (fun _ => ?_)
                    refine tz_iconst (pc := 300) dX12_go_300 ?_
                    refine tz_icmp_neF (pc := 301) (tgt := 308) (by decide) dX12_go_301 (by decide) (by decide) (by decide) ?_
                    refine tz_iload_n (pc := 304) dX12_go_304 rfl rfl ?_
                    refine tz_goto (pc := 305) (tgt := 309) dX12_go_305 (by decide) ?_
                    refine tz_pI (pc := 309) (kz := 42) dX12_go_309 fl_X12_258 i_164_42 rfl rfl (by omega) ?_
                    exact tz_vret (pc := 312) dX12_go_312 rfl (Nat.le_of_ble_eq_true rfl) (Nat.le_of_ble_eq_true rfl) ⟨Nat.le_refl _, Nat.le_add_right _ _⟩ ⟨rfl, ⟨(RGo.up (k := 42) (RGo.up (k := 38) (RGo.up (k := 35) (RGo.up (k := 42) (RGo.up (k := 39) (RGo.up (k := 41) (RGo.up (k := 40) (RGo.up (k := 36) f1 rfl) rfl) rfl) rfl) rfl) rfl) rfl) rfl), (RSz.mk (s := J 164 37) (a := (J1 164 35) + 1) (Eq.trans (f1.2 37 rfl) rfl) rfl (by omega)), (by rw [show ((zup (zup (zup (zup (zup (zup (zup (zup J1 164 36 (J1 164 35)) 164 40 (-1)) 164 41 0) 164 39 0) 164 42 0) 164 35 ((J1 164 35) + 1)) 164 38 3) 164 42 z_63) : zJ) 164 36 = (J1 164 35) from rfl]; omega), ((J1 164 35) + 1), 3, z_63, rfl, rfl, rfl, by omega, by omega, by omega⟩⟩
                · refine tz_iload_n (pc := 183) dX12_go_183 rfl rfl ?_
                  refine tz_bipush (pc := 184) dX12_go_184 (by decide) ?_
                  refine tz_icmp_gt (pc := 186) (tgt := 268) dX12_go_186 (by decide) (by omega) (by decide) (fun h_186 => ?_) (fun h_186 => ?_)
                  · refine tz_aload_n (pc := 268) dX12_go_268 rfl rfl ?_
                    refine tz_dup (pc := 269) dX12_go_269 rfl ?_
                    refine tz_fI (pc := 270) (kz := 35) (v := (J1 164 35)) dX12_go_270 fl_X12_243 i_164_35 rfl rfl (fun r_270 => ?_)
                    refine tz_iconst (pc := 273) dX12_go_273 ?_
                    refine tz_iadd (pc := 274) (v := (J1 164 35) + 1) dX12_go_274 rfl ?_
                    refine tz_pI (pc := 275) (kz := 35) dX12_go_275 fl_X12_243 i_164_35 rfl rfl (by omega) ?_
                    refine tz_aload_n (pc := 278) dX12_go_278 rfl rfl ?_
                    refine tz_aload_n (pc := 279) dX12_go_279 rfl rfl ?_
                    refine tz_iload_n (pc := 280) dX12_go_280 rfl rfl ?_
                    refine tz_cV (pc := 281) (m_isSgn hl n _ _ (by omega)) vl_X12_270 dX12_go_281 o_164 rfl rfl (Nat.le_of_ble_eq_true rfl) ⟨(Nat.le_of_ble_eq_true rfl), (Nat.le_of_ble_eq_true rfl)⟩ rfl rfl (Nat.le_of_ble_eq_true rfl) (Nat.le_of_ble_eq_true rfl) (fun r9 J_281 hq9 => ?_)
                    obtain ⟨z_281, rfl, hz_281, rfl, hg⟩ := hq9
                    refine tz_if_eq (pc := 284) (tgt := 291) dX12_go_284 (by decide) (by omega) (fun h_284 => ?_) (fun h_284 => ?_)
                    · refine tz_iconst (pc := 291) dX12_go_291 ?_
                      refine tz_pI (pc := 292) (kz := 38) dX12_go_292 fl_X12_261 i_164_38 rfl rfl (by decide) ?_
                      refine tz_aload_n (pc := 295) dX12_go_295 rfl rfl ?_
                      refine tz_aload_n (pc := 296) dX12_go_296 rfl rfl ?_
                      refine tz_fI (pc := 297) (kz := 38) (v := 4) dX12_go_297 fl_X12_261 i_164_38 rfl rfl (fun _ => ?_)
                      refine tz_iconst (pc := 300) dX12_go_300 ?_
                      refine tz_icmp_neT (pc := 301) (tgt := 308) (by decide) dX12_go_301 (by decide) (by decide) (by decide) ?_
                      refine tz_iconst (pc := 308) dX12_go_308 ?_
                      refine tz_pI (pc := 309) (kz := 42) dX12_go_309 fl_X12_258 i_164_42 rfl rfl (by decide) ?_
                      exact tz_vret (pc := 312) dX12_go_312 rfl (Nat.le_of_ble_eq_true rfl) (Nat.le_of_ble_eq_true rfl) ⟨Nat.le_refl _, Nat.le_add_right _ _⟩ ⟨rfl, ⟨(RGo.up (k := 42) (RGo.up (k := 38) (RGo.up (k := 35) (RGo.up (k := 42) (RGo.up (k := 39) (RGo.up (k := 41) (RGo.up (k := 40) (RGo.up (k := 36) f1 rfl) rfl) rfl) rfl) rfl) rfl) rfl) rfl), (RSz.mk (s := J 164 37) (a := (J1 164 35) + 1) (Eq.trans (f1.2 37 rfl) rfl) rfl (by omega)), (by rw [show ((zup (zup (zup (zup (zup (zup (zup (zup J1 164 36 (J1 164 35)) 164 40 (-1)) 164 41 0) 164 39 0) 164 42 0) 164 35 ((J1 164 35) + 1)) 164 38 4) 164 42 0) : zJ) 164 36 = (J1 164 35) from rfl]; omega), ((J1 164 35) + 1), 4, 0, rfl, rfl, rfl, by omega, by omega, by omega⟩⟩
                    · refine tz_iconst (pc := 287) dX12_go_287 ?_
                      refine tz_goto (pc := 288) (tgt := 292) dX12_go_288 (by decide) ?_
                      refine tz_pI (pc := 292) (kz := 38) dX12_go_292 fl_X12_261 i_164_38 rfl rfl (by decide) ?_
                      refine tz_aload_n (pc := 295) dX12_go_295 rfl rfl ?_
                      refine tz_aload_n (pc := 296) dX12_go_296 rfl rfl ?_
                      refine tz_fI (pc := 297) (kz := 38) (v := 3) dX12_go_297 fl_X12_261 i_164_38 rfl rfl (fun _ => ?_)
                      refine tz_iconst (pc := 300) dX12_go_300 ?_
                      refine tz_icmp_neF (pc := 301) (tgt := 308) (by decide) dX12_go_301 (by decide) (by decide) (by decide) ?_
                      refine tz_iload_n (pc := 304) dX12_go_304 rfl rfl ?_
                      refine tz_goto (pc := 305) (tgt := 309) dX12_go_305 (by decide) ?_
                      refine tz_pI (pc := 309) (kz := 42) dX12_go_309 fl_X12_258 i_164_42 rfl rfl (by omega) ?_
                      exact tz_vret (pc := 312) dX12_go_312 rfl (Nat.le_of_ble_eq_true rfl) (Nat.le_of_ble_eq_true rfl) ⟨Nat.le_refl _, Nat.le_add_right _ _⟩ ⟨rfl, ⟨(RGo.up (k := 42) (RGo.up (k := 38) (RGo.up (k := 35) (RGo.up (k := 42) (RGo.up (k := 39) (RGo.up (k := 41) (RGo.up (k := 40) (RGo.up (k := 36) f1 rfl) rfl) rfl) rfl) rfl) rfl) rfl) rfl), (RSz.mk (s := J 164 37) (a := (J1 164 35) + 1) (Eq.trans (f1.2 37 rfl) rfl) rfl (by omega)), (by rw [show ((zup (zup (zup (zup (zup (zup (zup (zup J1 164 36 (J1 164 35)) 164 40 (-1)) 164 41 0) 164 39 0) 164 42 0) 164 35 ((J1 164 35) + 1)) 164 38 3) 164 42 z_63) : zJ) 164 36 = (J1 164 35) from rfl]; omega), ((J1 164 35) + 1), 3, z_63, rfl, rfl, rfl, by omega, by omega, by omega⟩⟩
                  · have loop189 : ∀ (f9 : Nat) (J3 : zJ), ((J 164 37 - J3 164 35).toNat) < f9 → (RGo J3 J) → (RSz J3) → (0 ≤ J3 164 36 ∧ J3 164 36 ≤ 700) → (J1 164 35 ≤ J3 164 35) → (J3 164 42 = 0) → tz_At l G M_X12_go (tb_rm 2 0 0) none (tb_ZM G 0 0 (zQ n 0 (zqv (fun J' => RGo J' J ∧ RSz J' ∧ (0 ≤ J' 164 36 ∧ J' 164 36 ≤ 700) ∧ ∃ a9 s9 g9, J' 164 35 = a9 ∧ J' 164 38 = s9 ∧ J' 164 42 = g9 ∧ J 164 35 ≤ a9 ∧ (s9 = 0 ∨ J 164 35 < a9) ∧ (g9 = 0 ∨ ¬ s9 = 0)))) (zX n 0 zN)) 0 0 n J3 189 [some (.ref 164), some (zi z_63)] [] := by
                      intro f9
                      induction f9 with
                      | zero => intro J3 hm9; exact absurd hm9 (Nat.not_lt_zero _)
                      | succ f9 ih189 =>
                        intro J3 hm189 f3 rs3 pp3 le3 sg3
                        obtain ⟨ra3, rb3⟩ := id rs3
                        rw [f3.2 37 rfl] at ra3 rb3
                        refine tz_aload_n (pc := 189) dX12_go_189 rfl rfl ?_
                        refine tz_aload_n (pc := 190) dX12_go_190 rfl rfl ?_
                        refine tz_fI (pc := 191) (kz := 35) (v := (J3 164 35)) dX12_go_191 fl_X12_243 i_164_35 rfl rfl (fun r_191 => ?_)
                        refine tz_cV (pc := 194) (m_byteAt hl n _ _ (by omega) (by omega) (by rw [show (J3 : zJ) 164 37 = (J 164 37) from (Eq.trans (f3.2 37 rfl) rfl)]; omega)) vl_X12_240 dX12_go_194 o_164 rfl rfl (Nat.le_of_ble_eq_true rfl) ⟨(Nat.le_of_ble_eq_true rfl), (Nat.le_of_ble_eq_true rfl)⟩ rfl rfl (Nat.le_of_ble_eq_true rfl) (Nat.le_of_ble_eq_true rfl) (fun r9 J_194 hq9 => ?_)
                        obtain ⟨z_194, rfl, hz_194, rfl, hb_194, hc_194⟩ := hq9
                        rw [show (J3 : zJ) 164 37 = (J 164 37) from (Eq.trans (f3.2 37 rfl) rfl)] at hb_194 hc_194
                        refine tz_bipush (pc := 197) dX12_go_197 (by decide) ?_
                        refine tz_icmp_lt (pc := 199) (tgt := 260) dX12_go_199 (by decide) (by omega) (by decide) (fun h_199 => ?_) (fun h_199 => ?_)
                        · have lt9 : J1 164 35 < J3 164 35 := by
                            rcases Int.lt_or_eq_of_le le3 with e9 | e9
                            · exact e9
                            · exfalso
                              first | (have e1 := hc_207 (by omega); rw [f3.1 173 rfl, ← e9] at e1; have e2 : J1 173 (J1 164 35) = z_63 := hc_63 (by omega); rw [f1.1 173 rfl] at e2; omega) | (have e1 := hc_194 (by omega); rw [f3.1 173 rfl, ← e9] at e1; have e2 : J1 173 (J1 164 35) = z_63 := hc_63 (by omega); rw [f1.1 173 rfl] at e2; omega)
                          refine tz_aload_n (pc := 260) dX12_go_260 rfl rfl ?_
                          refine tz_iconst (pc := 261) dX12_go_261 ?_
                          refine tz_pI (pc := 262) (kz := 38) dX12_go_262 fl_X12_261 i_164_38 rfl rfl (by decide) ?_
                          refine tz_goto (pc := 265) (tgt := 312) dX12_go_265 (by decide) ?_
                          exact tz_vret (pc := 312) dX12_go_312 rfl (Nat.le_of_ble_eq_true rfl) (Nat.le_of_ble_eq_true rfl) ⟨Nat.le_refl _, Nat.le_add_right _ _⟩ ⟨rfl, ⟨(RGo.up (k := 38) f3 rfl), (RSz.mk (s := J 164 37) (a := J3 164 35) (Eq.trans (f3.2 37 rfl) rfl) rfl (by omega)), (by rw [show ((zup J3 164 38 2) : zJ) 164 36 = (J3 164 36) from rfl]; omega), (J3 164 35), 2, (J3 164 42), rfl, rfl, rfl, by omega, by omega, by omega⟩⟩
                        · refine tz_aload_n (pc := 202) dX12_go_202 rfl rfl ?_
                          refine tz_aload_n (pc := 203) dX12_go_203 rfl rfl ?_
                          refine tz_fI (pc := 204) (kz := 35) (v := (J3 164 35)) dX12_go_204 fl_X12_243 i_164_35 rfl rfl (fun r_204 => ?_)
                          refine tz_cV (pc := 207) (m_byteAt hl n _ _ (by omega) (by omega) (by rw [show (J3 : zJ) 164 37 = (J 164 37) from (Eq.trans (f3.2 37 rfl) rfl)]; omega)) vl_X12_240 dX12_go_207 o_164 rfl rfl (Nat.le_of_ble_eq_true rfl) ⟨(Nat.le_of_ble_eq_true rfl), (Nat.le_of_ble_eq_true rfl)⟩ rfl rfl (Nat.le_of_ble_eq_true rfl) (Nat.le_of_ble_eq_true rfl) (fun r9 J_207 hq9 => ?_)
                          obtain ⟨z_207, rfl, hz_207, rfl, hb_207, hc_207⟩ := hq9
                          rw [show (J3 : zJ) 164 37 = (J 164 37) from (Eq.trans (f3.2 37 rfl) rfl)] at hb_207 hc_207
                          refine tz_bipush (pc := 210) dX12_go_210 (by decide) ?_
                          refine tz_icmp_gt (pc := 212) (tgt := 260) dX12_go_212 (by decide) (by omega) (by decide) (fun h_212 => ?_) (fun h_212 => ?_)
                          · have lt9 : J1 164 35 < J3 164 35 := by
                              rcases Int.lt_or_eq_of_le le3 with e9 | e9
                              · exact e9
                              · exfalso
                                first | (have e1 := hc_207 (by omega); rw [f3.1 173 rfl, ← e9] at e1; have e2 : J1 173 (J1 164 35) = z_63 := hc_63 (by omega); rw [f1.1 173 rfl] at e2; omega) | (have e1 := hc_194 (by omega); rw [f3.1 173 rfl, ← e9] at e1; have e2 : J1 173 (J1 164 35) = z_63 := hc_63 (by omega); rw [f1.1 173 rfl] at e2; omega)
                            refine tz_aload_n (pc := 260) dX12_go_260 rfl rfl ?_
                            refine tz_iconst (pc := 261) dX12_go_261 ?_
                            refine tz_pI (pc := 262) (kz := 38) dX12_go_262 fl_X12_261 i_164_38 rfl rfl (by decide) ?_
                            refine tz_goto (pc := 265) (tgt := 312) dX12_go_265 (by decide) ?_
                            exact tz_vret (pc := 312) dX12_go_312 rfl (Nat.le_of_ble_eq_true rfl) (Nat.le_of_ble_eq_true rfl) ⟨Nat.le_refl _, Nat.le_add_right _ _⟩ ⟨rfl, ⟨(RGo.up (k := 38) f3 rfl), (RSz.mk (s := J 164 37) (a := J3 164 35) (Eq.trans (f3.2 37 rfl) rfl) rfl (by omega)), (by rw [show ((zup J3 164 38 2) : zJ) 164 36 = (J3 164 36) from rfl]; omega), (J3 164 35), 2, (J3 164 42), rfl, rfl, rfl, by omega, by omega, by omega⟩⟩
                          · refine tz_aload_n (pc := 215) dX12_go_215 rfl rfl ?_
                            refine tz_aload_n (pc := 216) dX12_go_216 rfl rfl ?_
                            refine tz_fI (pc := 217) (kz := 35) (v := (J3 164 35)) dX12_go_217 fl_X12_243 i_164_35 rfl rfl (fun r_217 => ?_)
                            refine tz_aload_n (pc := 220) dX12_go_220 rfl rfl ?_
                            refine tz_fI (pc := 221) (kz := 36) (v := (J3 164 36)) dX12_go_221 fl_X12_246 i_164_36 rfl rfl (fun r_221 => ?_)
                            refine tz_icmp_ne (pc := 224) (tgt := 241) dX12_go_224 (by decide) (by omega) (by omega) (fun h_224 => ?_) (fun h_224 => ?_)
                            · refine tz_sipush (pc := 241) dX12_go_241 (by decide) ?_
                              refine tz_pI (pc := 244) (kz := 39) dX12_go_244 fl_X12_255 i_164_39 rfl rfl (by decide) ?_
                              refine tz_aload_n (pc := 247) dX12_go_247 rfl rfl ?_
                              refine tz_dup (pc := 248) dX12_go_248 rfl ?_
                              refine tz_fI (pc := 249) (kz := 35) (v := (J3 164 35)) dX12_go_249 fl_X12_243 i_164_35 rfl rfl (fun r_249 => ?_)
                              refine tz_iconst (pc := 252) dX12_go_252 ?_
                              refine tz_iadd (pc := 253) (v := (J3 164 35) + 1) dX12_go_253 rfl ?_
                              refine tz_pI (pc := 254) (kz := 35) dX12_go_254 fl_X12_243 i_164_35 rfl rfl (by omega) ?_
                              refine tz_goto (pc := 257) (tgt := 189) dX12_go_257 (by decide) ?_
                              exact ih189 _ (by rw [show ((zup (zup J3 164 39 999) 164 35 ((J3 164 35) + 1)) : zJ) 164 35 = ((J3 164 35) + 1) from rfl]; omega) (RGo.up (k := 35) (RGo.up (k := 39) f3 rfl) rfl) (RSz.mk (s := J 164 37) (a := (J3 164 35) + 1) (Eq.trans (f3.2 37 rfl) rfl) rfl (by omega)) (by rw [show ((zup (zup J3 164 39 999) 164 35 ((J3 164 35) + 1)) : zJ) 164 36 = (J3 164 36) from rfl]; omega) (Int.le_trans (by omega) (Int.le_of_eq (Eq.symm (show ((zup (zup J3 164 39 999) 164 35 ((J3 164 35) + 1)) : zJ) 164 35 = ((J3 164 35) + 1) from rfl)))) (Eq.trans (show ((zup (zup J3 164 39 999) 164 35 ((J3 164 35) + 1)) : zJ) 164 42 = (J3 164 42) from rfl) (by omega))
                            · refine tz_aload_n (pc := 227) dX12_go_227 rfl rfl ?_
                              refine tz_aload_n (pc := 228) dX12_go_228 rfl rfl ?_
                              refine tz_fI (pc := 229) (kz := 35) (v := (J3 164 35)) dX12_go_229 fl_X12_243 i_164_35 rfl rfl (fun r_229 => ?_)
                              refine tz_cV (pc := 232) (m_byteAt hl n _ _ (by omega) (by omega) (by rw [show (J3 : zJ) 164 37 = (J 164 37) from (Eq.trans (f3.2 37 rfl) rfl)]; omega)) vl_X12_240 dX12_go_232 o_164 rfl rfl (Nat.le_of_ble_eq_true rfl) ⟨(Nat.le_of_ble_eq_true rfl), (Nat.le_of_ble_eq_true rfl)⟩ rfl rfl (Nat.le_of_ble_eq_true rfl) (Nat.le_of_ble_eq_true rfl) (fun r9 J_232 hq9 => ?_)
                              obtain ⟨z_232, rfl, hz_232, rfl, hb_232, hc_232⟩ := hq9
                              rw [show (J3 : zJ) 164 37 = (J 164 37) from (Eq.trans (f3.2 37 rfl) rfl)] at hb_232 hc_232
                              refine tz_bipush (pc := 235) dX12_go_235 (by decide) ?_
                              refine tz_isub (pc := 237) (v := z_232 - 48) dX12_go_237 rfl ?_
                              refine tz_goto (pc := 238) (tgt := 244) dX12_go_238 (by decide) ?_
                              refine tz_tw ?_
                              have rw_244 := zw_rg (z_232 - 48)
                              refine tz_pI (pc := 244) (kz := 39) dX12_go_244 fl_X12_255 i_164_39 rfl rfl (zw_rg _) ?_
                              refine tz_aload_n (pc := 247) dX12_go_247 rfl rfl ?_
                              refine tz_dup (pc := 248) dX12_go_248 rfl ?_
                              refine tz_fI (pc := 249) (kz := 35) (v := (J3 164 35)) dX12_go_249 fl_X12_243 i_164_35 rfl rfl (fun r_249 => ?_)
                              refine tz_iconst (pc := 252) dX12_go_252 ?_
                              refine tz_iadd (pc := 253) (v := (J3 164 35) + 1) dX12_go_253 rfl ?_
                              refine tz_pI (pc := 254) (kz := 35) dX12_go_254 fl_X12_243 i_164_35 rfl rfl (by omega) ?_
                              refine tz_goto (pc := 257) (tgt := 189) dX12_go_257 (by decide) ?_
                              exact ih189 _ (by rw [show ((zup (zup J3 164 39 (zw (z_232 - 48))) 164 35 ((J3 164 35) + 1)) : zJ) 164 35 = ((J3 164 35) + 1) from rfl]; omega) (RGo.up (k := 35) (RGo.up (k := 39) f3 rfl) rfl) (RSz.mk (s := J 164 37) (a := (J3 164 35) + 1) (Eq.trans (f3.2 37 rfl) rfl) rfl (by omega)) (by rw [show ((zup (zup J3 164 39 (zw (z_232 - 48))) 164 35 ((J3 164 35) + 1)) : zJ) 164 36 = (J3 164 36) from rfl]; omega) (Int.le_trans (by omega) (Int.le_of_eq (Eq.symm (show ((zup (zup J3 164 39 (zw (z_232 - 48))) 164 35 ((J3 164 35) + 1)) : zJ) 164 35 = ((J3 164 35) + 1) from rfl)))) (Eq.trans (show ((zup (zup J3 164 39 (zw (z_232 - 48))) 164 35 ((J3 164 35) + 1)) : zJ) 164 42 = (J3 164 42) from rfl) (by omega))
                    exact loop189 _ _ (Nat.lt_succ_self _) (RGo.up (k := 42) (RGo.up (k := 39) (RGo.up (k := 41) (RGo.up (k := 40) (RGo.up (k := 36) f1 rfl) rfl) rfl) rfl) rfl) (RSz.mk (s := J 164 37) (a := J1 164 35) (Eq.trans (f1.2 37 rfl) rfl) rfl (by omega)) (by rw [show ((zup (zup (zup (zup (zup J1 164 36 (J1 164 35)) 164 40 (-1)) 164 41 0) 164 39 0) 164 42 0) : zJ) 164 36 = (J1 164 35) from rfl]; omega) (Int.le_trans (by omega) (Int.le_of_eq (Eq.symm (show ((zup (zup (zup (zup (zup J1 164 36 (J1 164 35)) 164 40 (-1)) 164 41 0) 164 39 0) 164 42 0) : zJ) 164 35 = (J1 164 35) from rfl)))) (Eq.trans (show ((zup (zup (zup (zup (zup J1 164 36 (J1 164 35)) 164 40 (-1)) 164 41 0) 164 39 0) 164 42 0) : zJ) 164 42 = 0 from rfl) (by omega))
              · have loop113 : ∀ (f9 : Nat) (J2 : zJ), ((J 164 37 - J2 164 35).toNat) < f9 → (RGo J2 J) → (RSz J2) → (0 ≤ J2 164 36 ∧ J2 164 36 ≤ 700) → (J1 164 35 ≤ J2 164 35) → (J2 164 42 = 0) → tz_At l G M_X12_go (tb_rm 2 0 0) none (tb_ZM G 0 0 (zQ n 0 (zqv (fun J' => RGo J' J ∧ RSz J' ∧ (0 ≤ J' 164 36 ∧ J' 164 36 ≤ 700) ∧ ∃ a9 s9 g9, J' 164 35 = a9 ∧ J' 164 38 = s9 ∧ J' 164 42 = g9 ∧ J 164 35 ≤ a9 ∧ (s9 = 0 ∨ J 164 35 < a9) ∧ (g9 = 0 ∨ ¬ s9 = 0)))) (zX n 0 zN)) 0 0 n J2 113 [some (.ref 164), some (zi z_63)] [] := by
                  intro f9
                  induction f9 with
                  | zero => intro J2 hm9; exact absurd hm9 (Nat.not_lt_zero _)
                  | succ f9 ih113 =>
                    intro J2 hm113 f2 rs2 pp2 le2 sg2
                    obtain ⟨ra2, rb2⟩ := id rs2
                    rw [f2.2 37 rfl] at ra2 rb2
                    refine tz_aload_n (pc := 113) dX12_go_113 rfl rfl ?_
                    refine tz_aload_n (pc := 114) dX12_go_114 rfl rfl ?_
                    refine tz_fI (pc := 115) (kz := 35) (v := (J2 164 35)) dX12_go_115 fl_X12_243 i_164_35 rfl rfl (fun r_115 => ?_)
                    refine tz_cV (pc := 118) (m_byteAt hl n _ _ (by omega) (by omega) (by rw [show (J2 : zJ) 164 37 = (J 164 37) from (Eq.trans (f2.2 37 rfl) rfl)]; omega)) vl_X12_240 dX12_go_118 o_164 rfl rfl (Nat.le_of_ble_eq_true rfl) ⟨(Nat.le_of_ble_eq_true rfl), (Nat.le_of_ble_eq_true rfl)⟩ rfl rfl (Nat.le_of_ble_eq_true rfl) (Nat.le_of_ble_eq_true rfl) (fun r9 J_118 hq9 => ?_)
                    obtain ⟨z_118, rfl, hz_118, rfl, hb_118, hc_118⟩ := hq9
                    rw [show (J2 : zJ) 164 37 = (J 164 37) from (Eq.trans (f2.2 37 rfl) rfl)] at hb_118 hc_118
                    refine tz_cS (pc := 121) (m_isLet hl n _ _ (by omega)) sl_X12_264 dX12_go_121 rfl rfl (Nat.le_of_ble_eq_true rfl) ⟨(Nat.le_of_ble_eq_true rfl), (Nat.le_of_ble_eq_true rfl)⟩ rfl rfl (Nat.le_of_ble_eq_true rfl) (Nat.le_of_ble_eq_true rfl) (fun r9 J_121 hq9 => ?_)
                    obtain ⟨z_121, rfl, hz_121, rfl, hl_121⟩ := hq9
                    refine tz_if_eq (pc := 124) (tgt := 140) dX12_go_124 (by decide) (by omega) (fun h_124 => ?_) (fun h_124 => ?_)
                    · have lt9 : J1 164 35 < J2 164 35 := by
                        rcases Int.lt_or_eq_of_le le2 with e9 | e9
                        · exact e9
                        · exfalso
                          first | (have e1 := hc_118 (by omega); rw [f2.1 173 rfl, ← e9] at e1; have e2 : J1 173 (J1 164 35) = z_63 := hc_63 (by omega); rw [f1.1 173 rfl] at e2; omega)
                      refine tz_aload_n (pc := 140) dX12_go_140 rfl rfl ?_
                      refine tz_iconst (pc := 141) dX12_go_141 ?_
                      refine tz_pI (pc := 142) (kz := 38) dX12_go_142 fl_X12_261 i_164_38 rfl rfl (by decide) ?_
                      refine tz_aload_n (pc := 145) dX12_go_145 rfl rfl ?_
                      refine tz_aload_n (pc := 146) dX12_go_146 rfl rfl ?_
                      refine tz_fI (pc := 147) (kz := 35) (v := (J2 164 35)) dX12_go_147 fl_X12_243 i_164_35 rfl rfl (fun r_147 => ?_)
                      refine tz_aload_n (pc := 150) dX12_go_150 rfl rfl ?_
                      refine tz_fI (pc := 151) (kz := 36) (v := (J2 164 36)) dX12_go_151 fl_X12_246 i_164_36 rfl rfl (fun r_151 => ?_)
                      refine tz_isub (pc := 154) (v := (J2 164 35) - (J2 164 36)) dX12_go_154 rfl ?_
                      refine tz_pI (pc := 155) (kz := 41) dX12_go_155 fl_X12_252 i_164_41 rfl rfl (by omega) ?_
                      refine tz_aload_n (pc := 158) dX12_go_158 rfl rfl ?_
                      refine tz_aload_n (pc := 159) dX12_go_159 rfl rfl ?_
                      refine tz_aload_n (pc := 160) dX12_go_160 rfl rfl ?_
                      refine tz_fI (pc := 161) (kz := 36) (v := (J2 164 36)) dX12_go_161 fl_X12_246 i_164_36 rfl rfl (fun r_161 => ?_)
                      refine tz_aload_n (pc := 164) dX12_go_164 rfl rfl ?_
                      refine tz_fI (pc := 165) (kz := 35) (v := (J2 164 35)) dX12_go_165 fl_X12_243 i_164_35 rfl rfl (fun r_165 => ?_)
                      refine tz_cV (pc := 168) (m_wordFrom hl n _ _ _ (by omega) (by omega) (by omega) (by rw [show ((zup (zup J2 164 38 1) 164 41 ((J2 164 35) - (J2 164 36))) : zJ) 164 37 = (J 164 37) from (Eq.trans (f2.2 37 rfl) rfl)]; omega) (by omega)) vl_X12_267 dX12_go_168 o_164 rfl rfl (Nat.le_of_ble_eq_true rfl) ⟨(Nat.le_of_ble_eq_true rfl), (Nat.le_of_ble_eq_true rfl)⟩ rfl rfl (Nat.le_of_ble_eq_true rfl) (Nat.le_of_ble_eq_true rfl) (fun r9 J_168 hq9 => ?_)
                      obtain ⟨z_168, rfl, hz_168, rfl, hw⟩ := hq9
                      refine tz_pI (pc := 171) (kz := 40) dX12_go_171 fl_X12_249 i_164_40 rfl rfl (by omega) ?_
                      refine tz_goto (pc := 174) (tgt := 312) dX12_go_174 (by decide) ?_
                      exact tz_vret (pc := 312) dX12_go_312 rfl (Nat.le_of_ble_eq_true rfl) (Nat.le_of_ble_eq_true rfl) ⟨Nat.le_refl _, Nat.le_add_right _ _⟩ ⟨rfl, ⟨(RGo.up (k := 40) (RGo.up (k := 41) (RGo.up (k := 38) f2 rfl) rfl) rfl), (RSz.mk (s := J 164 37) (a := J2 164 35) (Eq.trans (f2.2 37 rfl) rfl) rfl (by omega)), (by rw [show ((zup (zup (zup J2 164 38 1) 164 41 ((J2 164 35) - (J2 164 36))) 164 40 z_168) : zJ) 164 36 = (J2 164 36) from rfl]; omega), (J2 164 35), 1, (J2 164 42), rfl, rfl, rfl, by omega, by omega, by omega⟩⟩
                    · refine tz_aload_n (pc := 127) dX12_go_127 rfl rfl ?_
                      refine tz_dup (pc := 128) dX12_go_128 rfl ?_
                      refine tz_fI (pc := 129) (kz := 35) (v := (J2 164 35)) dX12_go_129 fl_X12_243 i_164_35 rfl rfl (fun r_129 => ?_)
                      refine tz_iconst (pc := 132) dX12_go_132 ?_
                      refine tz_iadd (pc := 133) (v := (J2 164 35) + 1) dX12_go_133 rfl ?_
                      refine tz_pI (pc := 134) (kz := 35) dX12_go_134 fl_X12_243 i_164_35 rfl rfl (by omega) ?_
                      refine tz_goto (pc := 137) (tgt := 113) dX12_go_137 (by decide) ?_
                      exact ih113 _ (by rw [show ((zup J2 164 35 ((J2 164 35) + 1)) : zJ) 164 35 = ((J2 164 35) + 1) from rfl]; omega) (RGo.up (k := 35) f2 rfl) (RSz.mk (s := J 164 37) (a := (J2 164 35) + 1) (Eq.trans (f2.2 37 rfl) rfl) rfl (by omega)) (by rw [show ((zup J2 164 35 ((J2 164 35) + 1)) : zJ) 164 36 = (J2 164 36) from rfl]; omega) (Int.le_trans (by omega) (Int.le_of_eq (Eq.symm (show ((zup J2 164 35 ((J2 164 35) + 1)) : zJ) 164 35 = ((J2 164 35) + 1) from rfl)))) (Eq.trans (show ((zup J2 164 35 ((J2 164 35) + 1)) : zJ) 164 42 = (J2 164 42) from rfl) (by omega))
                exact loop113 _ _ (Nat.lt_succ_self _) (RGo.up (k := 42) (RGo.up (k := 39) (RGo.up (k := 41) (RGo.up (k := 40) (RGo.up (k := 36) f1 rfl) rfl) rfl) rfl) rfl) (RSz.mk (s := J 164 37) (a := J1 164 35) (Eq.trans (f1.2 37 rfl) rfl) rfl (by omega)) (by rw [show ((zup (zup (zup (zup (zup J1 164 36 (J1 164 35)) 164 40 (-1)) 164 41 0) 164 39 0) 164 42 0) : zJ) 164 36 = (J1 164 35) from rfl]; omega) (Int.le_trans (by omega) (Int.le_of_eq (Eq.symm (show ((zup (zup (zup (zup (zup J1 164 36 (J1 164 35)) 164 40 (-1)) 164 41 0) 164 39 0) 164 42 0) : zJ) 164 35 = (J1 164 35) from rfl)))) (Eq.trans (show ((zup (zup (zup (zup (zup J1 164 36 (J1 164 35)) 164 40 (-1)) 164 41 0) 164 39 0) 164 42 0) : zJ) 164 42 = 0 from rfl) (by omega))
            · refine tz_aload_n (pc := 98) dX12_go_98 rfl rfl ?_
              refine tz_iconst (pc := 99) dX12_go_99 ?_
              refine tz_pI (pc := 100) (kz := 38) dX12_go_100 fl_X12_261 i_164_38 rfl rfl (by decide) ?_
              refine tz_goto (pc := 103) (tgt := 312) dX12_go_103 (by decide) ?_
              exact tz_vret (pc := 312) dX12_go_312 rfl (Nat.le_of_ble_eq_true rfl) (Nat.le_of_ble_eq_true rfl) ⟨Nat.le_refl _, Nat.le_add_right _ _⟩ ⟨rfl, ⟨(RGo.up (k := 38) (RGo.up (k := 42) (RGo.up (k := 39) (RGo.up (k := 41) (RGo.up (k := 40) (RGo.up (k := 36) f1 rfl) rfl) rfl) rfl) rfl) rfl), (RSz.mk (s := J 164 37) (a := J1 164 35) (Eq.trans (f1.2 37 rfl) rfl) rfl (by omega)), (by rw [show ((zup (zup (zup (zup (zup (zup J1 164 36 (J1 164 35)) 164 40 (-1)) 164 41 0) 164 39 0) 164 42 0) 164 38 0) : zJ) 164 36 = (J1 164 35) from rfl]; omega), (J1 164 35), 0, 0, rfl, rfl, rfl, by omega, by omega, by omega⟩⟩
          · refine tz_aload_n (pc := 37) dX12_go_37 rfl rfl ?_
            refine tz_dup (pc := 38) dX12_go_38 rfl ?_
            refine tz_fI (pc := 39) (kz := 35) (v := (J1 164 35)) dX12_go_39 fl_X12_243 i_164_35 rfl rfl (fun r_39 => ?_)
            refine tz_iconst (pc := 42) dX12_go_42 ?_
            refine tz_iadd (pc := 43) (v := (J1 164 35) + 1) dX12_go_43 rfl ?_
            refine tz_pI (pc := 44) (kz := 35) dX12_go_44 fl_X12_243 i_164_35 rfl rfl (by omega) ?_
            refine tz_goto (pc := 47) (tgt := 0) dX12_go_47 (by decide) ?_
            exact ih0 _ (by rw [show ((zup J1 164 35 ((J1 164 35) + 1)) : zJ) 164 35 = ((J1 164 35) + 1) from rfl]; omega) (RGo.up (k := 35) f1 rfl) (RSz.mk (s := J 164 37) (a := (J1 164 35) + 1) (Eq.trans (f1.2 37 rfl) rfl) rfl (by omega)) (Int.le_trans (by omega) (Int.le_of_eq (Eq.symm (show ((zup J1 164 35 ((J1 164 35) + 1)) : zJ) 164 35 = ((J1 164 35) + 1) from rfl))))
  exact loop0 _ _ (Nat.lt_succ_self _) RGo.rf (RSz.mk (s := J 164 37) (a := J 164 35) rfl rfl (by omega)) (Int.le_trans (by omega) (Int.le_of_eq (Eq.symm (show (J : zJ) 164 35 = (J 164 35) from rfl))))

