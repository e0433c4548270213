/-! ===== the class reads a text as the reading does ===== -/
theorem pN_st {g : zJ} {a b : Int} : pN (zup (zup g 0 1 a) 0 3 b) = pN g := by
  funext c
  by_cases h : c = 0
  · rw [h]
    funext k
    rw [pN0, pN0]
    show (if k = 2 then tkE (g 1) (g 0 0) (g 0 2) else if k = 3 then tkK (g 1) (g 0 0) (g 0 2) else if k = 1 then tkS (g 1) (g 0 0) (g 0 2) else if k = 3 then b else if k = 1 then a else g 0 k) = _
    (repeat' split) <;> first | rfl | omega
  · rw [pN_c h, pN_c h, zup_nc h, zup_nc h]
theorem w_next0 {l : Launch} {G : tb_G} (hl : l.stackTraces = false) (n : Nat) (J : zJ) (g : zJ) (h8 : J 163 8 = 0) (h7 : J 163 7 = g 0 2) (h0 : g 0 4 = 0) (E : EC J g) (r : 0 ≤ J 163 7 ∧ J 163 7 ≤ J 163 4) (r4 : J 163 4 ≤ 700) : tz_Ok l G M_X5_next 1 0 0 [.ref 163] n J (zqv (fun J' => RN J' J ∧ RD2 J' ∧ J' 163 8 = J 163 8 ∧ XC J' (pN g))) zN := by
  have hR : RelC J (zup (zup g 0 1 (J 163 6)) 0 3 (J 163 5)) := ⟨h8.trans h0.symm, fun q => absurd h0 q, fun _ => ⟨⟨rfl, rfl, h7⟩, E.1, E.2.1, E.2.2.1, E.2.2.2.g (fun c hc => by rw [zup_nc hc, zup_nc hc])⟩⟩
  refine (x_next hl n J r r4).mono (fun r J' _ ⟨a, f, e6, e5, e7⟩ => ⟨a, ?_⟩) (fun _ _ _ h => h)
  have e8 := f.2 8 (by decide) (by decide) (by decide)
  have e4 := f.2 4 (by decide) (by decide) (by decide)
  have rg := tk_rg (f := J 162) (N := J 163 4) (a := J 163 7) (by omega)
  have hn := hR.next h0 f e6 e5 e7
  rw [pN_st] at hn
  refine ⟨⟨f.1, e4, fun p => by rw [← e8]; exact p⟩, ⟨⟨?_, ?_⟩, ?_⟩, e8, Or.inr hn⟩
  · rw [e6, e7]; omega
  · rw [e7, e4]; omega
  · rw [e5, e6, e4]
    exact rg.2.imp id (fun p => p.1)
theorem pIs_c {J g : zJ} {w : List Int} (hX : XC J g) (h9 : g 0 4 = 0) : pIs g w ↔ (J 163 5 = 2 ∧ mtB (J 162) (J 163 6) (J 163 7) w) := by
  rcases hX.k (hX.z h9) with p | ⟨_, e3, e2, e1, e0, _⟩
  · omega
  · unfold pIs
    rw [e3, e2, e1, e0]
theorem pCl_1 {g : zJ} (a : pIs g [115, 121, 109, 98, 111, 108]) : pCl g = pSy g := cif_pos a
theorem pCl_2 {g : zJ} (a : ¬ pIs g [115, 121, 109, 98, 111, 108]) (b : pIs g [116, 101, 114, 109]) : pCl g = (pR1 g).1 := (cif_neg a).trans (cif_pos b)
theorem pCl_3 {g : zJ} (a : ¬ pIs g [115, 121, 109, 98, 111, 108]) (b : ¬ pIs g [116, 101, 114, 109]) (c : pIs g [114, 117, 108, 101]) : pCl g = pRu g := (cif_neg a).trans ((cif_neg b).trans (cif_pos c))
theorem pCl_4 {g : zJ} (a : ¬ pIs g [115, 121, 109, 98, 111, 108]) (b : ¬ pIs g [116, 101, 114, 109]) (c : ¬ pIs g [114, 117, 108, 101]) (d : pIs g [101, 110, 116, 114, 121]) : pCl g = pEn g := (cif_neg a).trans ((cif_neg b).trans ((cif_neg c).trans (cif_pos d)))
theorem pCl_5 {g : zJ} (a : ¬ pIs g [115, 121, 109, 98, 111, 108]) (b : ¬ pIs g [116, 101, 114, 109]) (c : ¬ pIs g [114, 117, 108, 101]) (d : ¬ pIs g [101, 110, 116, 114, 121]) (e : pIs g [114, 111, 111, 109]) : pCl g = pRo g := (cif_neg a).trans ((cif_neg b).trans ((cif_neg c).trans ((cif_neg d).trans (cif_pos e))))
theorem pCl_6 {g : zJ} (a : ¬ pIs g [115, 121, 109, 98, 111, 108]) (b : ¬ pIs g [116, 101, 114, 109]) (c : ¬ pIs g [114, 117, 108, 101]) (d : ¬ pIs g [101, 110, 116, 114, 121]) (e : ¬ pIs g [114, 111, 111, 109]) (h9 : g 0 4 = 0) : pP (pCl g) 59 = pFx g 1 := by
  rw [show pCl g = pF g 1 from (cif_neg a).trans ((cif_neg b).trans ((cif_neg c).trans ((cif_neg d).trans (cif_neg e))))]
  unfold pFx
  rw [if_pos h9, pP_f (by show ¬ (1 : Int) = 0; decide)]
/-- the reading that started at g0 goes on from where the class is -/
def CRI (J g0 : zJ) (k : Int) : Prop := ∃ g, GB g ∧ XC J g ∧ pAl 703 g0 = pAl (703 - k).toNat g ∧ (g 0 4 = 0 → k ≤ g 0 1)
theorem CRI.st {J' g0 g : zJ} {k : Int} (hB : GB g) (h9 : g 0 4 = 0) (h3 : ¬ g 0 3 = 0) (hk : k < 700) (ha : pAl 703 g0 = pAl (703 - k).toNat g) (hs : g 0 4 = 0 → k ≤ g 0 1) (x : XC J' (pP (pCl g) 59)) : CRI J' g0 (k + 1) := by
  have s := pStep_g hB h3
  refine ⟨_, s.1, x, ?_, fun q => by have := s.2 q; have := hs h9; omega⟩
  rw [ha, show (703 - k).toNat = (703 - (k + 1)).toNat + 1 from by omega, pAl_s, if_pos ⟨h9, h3⟩]
theorem CRI.en {J g0 : zJ} {k : Int} (h : CRI J g0 k) (he : 700 ≤ k ∨ J 163 5 = 0 ∨ ¬ J 163 8 = 0) : RelC J (pAl 703 g0) := by
  obtain ⟨g, hB, hX, ha, hs⟩ := h
  have hR : RelC J g := hX.resolve_left hB.2.1
  have e : pAl (703 - k).toNat g = g := pAl_e (by
    by_cases h9 : g 0 4 = 0
    · refine Or.inr ?_
      have h8 := hX.z h9
      have e3 := (hR.2.2 h9).1.2.1
      have S := hB.1
      have S1 := S.1
      have S2 := S.2.1
      have S3 := S.2.2
      have := hs h9
      omega
    · exact Or.inl h9)
  rw [ha, e]
  exact hR
theorem GB.g0 {f : zJ} {x : Int} (hx : 0 ≤ x ∧ x ≤ 700) : GB (pN (pG f x)) := by
  have S : SI (pN (pG f x)) := (pG_s hx).n
  refine ⟨S, by show ¬ (0 : Int) = 99; decide, fun _ => ⟨⟨⟨Int.le_refl 0, Int.le_refl 0, Int.le_refl 0, Int.le_refl 0⟩, fun t a b => ?_⟩, ?_⟩⟩
  · have b' : t < 0 := b
    omega
  · have := S.2.1.1
    show 2 * (0 : Int) ≤ _
    omega
theorem pG_e {J' J : zJ} {x : Int} (h : ∀ c, 166 ≤ c → c < 183 → J' c = J c) : pG J' x = pG J x := by
  funext c
  unfold pG
  rw [h 173 (by decide) (by decide)]
  (repeat' split) <;> first | rfl | exact h c (by omega) (by omega)
/-- the class's tables are empty, as the reading's are when it starts -/
def CE (J : zJ) : Prop := J 1 3 = 0 ∧ J 6 12 = 0 ∧ J 19 4 = 0 ∧ J 19 5 = 0 ∧ J 19 1 = 4 ∧ (J 19 2 = 0 ∧ J 19 3 = 0 ∧ J 19 6 = 0) ∧ ∀ v, 0 ≤ v → v < 8 → J 19 (7 + v) = -1
theorem CE.et {J f : zJ} {x : Int} (h : CE J) : ET J (pG f x) := by
  obtain ⟨a, b, c, d, e, e2, e7⟩ := h
  refine ⟨⟨a, fun k p q => ?_⟩, ⟨b, fun k p q => ?_, fun k i p q => ?_⟩, ⟨c, fun k p q => ?_⟩, ⟨d, fun k p q => ?_⟩, e, e2, fun v p q => by
    have w := e7 v p q
    show J 19 (7 + v) + 1 = (if 127 + v = 165 then 4 else 0)
    rw [if_neg (by omega)]
    omega⟩
  all_goals
    exact absurd (show k < 0 from q) (by omega)
set_option maxHeartbeats 4000000 in
set_option maxRecDepth 100000 in
theorem w_readBank {l : Launch} {G : tb_G} (hl : l.stackTraces = false) (n : Nat) (J : zJ) (q : Int) (hr_q : -2147483648 ≤ q ∧ q < 2147483648) (m : Int) (g : zJ) (hnb : n ≤ tb_sc) (C : CT J m) (hm : J 6 12 = m) (hL : LI (J 19) m) (hq : 0 ≤ q) (h3 : J 156 3 = -1) (hg : g 0 0 = zmn q 700 ∧ g 0 2 = 0 ∧ g 0 4 = 0 ∧ g 164 45 = 0) (h162 : J 162 = g 1) (hE : ET J g) (hG : GB (pN g)) : tz_Ok l G M_X5_readBank 36 0 0 [.ref 163, zi q] n J (zqi (fun z J' => ∃ m', RQ6 J' J m m' ∧ J' 163 8 = z ∧ RelC J' (pAl 703 (pN g)))) zN := by
  refine tz_Ok.of hl (by decide +kernel) rfl (tb_c1 rfl) (Nat.le_of_ble_eq_true rfl) ?_
  show tz_At l G M_X5_readBank (tb_rm 36 0 0) none (tb_ZM G 0 0 (zQ n 0 (zqi (fun z J' => ∃ m', RQ6 J' J m m' ∧ J' 163 8 = z ∧ RelC J' (pAl 703 (pN g))))) (zX n 0 zN)) 0 0 n J 0 [some (.ref 163), some (zi q), none] []
  have hmn := zmn_le q 700
  refine tz_aload_n (pc := 0) dX5_readBank_0 rfl rfl ?_
  refine tz_iload_n (pc := 1) dX5_readBank_1 rfl rfl ?_
  refine tz_aload_n (pc := 2) dX5_readBank_2 rfl rfl ?_
  refine tz_fR (pc := 3) dX5_readBank_3 fl_X5_34 r_163_0 ?_
  refine tz_aN (pc := 6) (lz := 700) dX5_readBank_6 a_162 rfl ?_
  refine tz_mn (pc := 7) (v := zmn q 700) dX5_readBank_7 ml_X5_59 (Nat.le_of_ble_eq_true rfl) (Nat.le_of_ble_eq_true rfl) (Nat.le_of_ble_eq_true rfl) (Nat.le_of_ble_eq_true rfl) (by omega) (by decide) rfl ?_
  refine tz_pI (pc := 10) (kz := 4) dX5_readBank_10 fl_X5_9 i_163_4 rfl rfl (by omega) ?_
  refine tz_aload_n (pc := 13) dX5_readBank_13 rfl rfl ?_
  refine tz_iconst (pc := 14) dX5_readBank_14 ?_
  refine tz_pI (pc := 15) (kz := 7) dX5_readBank_15 fl_X5_21 i_163_7 rfl rfl (by decide) ?_
  refine tz_aload_n (pc := 18) dX5_readBank_18 rfl rfl ?_
  refine tz_iconst (pc := 19) dX5_readBank_19 ?_
  refine tz_pI (pc := 20) (kz := 8) dX5_readBank_20 fl_X5_24 i_163_8 rfl rfl (by decide) ?_
  refine tz_aload_n (pc := 23) dX5_readBank_23 rfl rfl ?_
  refine tz_iconst (pc := 24) dX5_readBank_24 ?_
  refine tz_pI (pc := 25) (kz := 9) dX5_readBank_25 fl_X5_27 i_163_9 rfl rfl (by decide) ?_
  refine tz_aload_n (pc := 28) dX5_readBank_28 rfl rfl ?_
  refine tz_iconst (pc := 29) dX5_readBank_29 ?_
  refine tz_pZ (pc := 30) (kz := 10) dX5_readBank_30 fl_X5_30 i_163_10 rfl rfl (Or.inl rfl) ?_
  refine tz_aload_n (pc := 33) dX5_readBank_33 rfl rfl ?_
  refine tz_cV (pc := 34) (w_next0 hl n _ g rfl hg.2.1.symm hg.2.2.1 ⟨hg.1.symm, h162, hg.2.2.2.symm, hE.of (zOf.up rfl (zOf.up rfl (zOf.up rfl (zOf.up rfl (zOf.up rfl zOf.rf)))))⟩ ⟨Int.le_refl 0, by show (0 : Int) ≤ zmn q 700; omega⟩ (by show zmn q 700 ≤ 700; omega)) vl_X5_65 dX5_readBank_34 o_163 rfl rfl (Nat.le_of_ble_eq_true rfl) ⟨(Nat.le_of_ble_eq_true rfl), (Nat.le_of_ble_eq_true rfl)⟩ rfl rfl (Nat.le_of_ble_eq_true rfl) (Nat.le_of_ble_eq_true rfl) (fun r9 J9 hq9 => ?_)
  obtain ⟨rfl, g9, d9, v9, x9⟩ := hq9
  have q9 : RQ6 J9 J m m := ⟨⟨C.of (fun c hc => (g9.1 c (by simp [zbut]; omega)).trans (by rw [zup_nc (by omega), zup_nc (by omega), zup_nc (by omega), zup_nc (by omega), zup_nc (by omega)])), by rw [g9.1 6 rfl]; exact hm, by rw [g9.1 19 rfl]; exact hL, d9⟩, (g9.1.mono (zbut_sub (fun c hc => by simp at hc ⊢; omega))).tr (zOf.up rfl (zOf.up rfl (zOf.up rfl (zOf.up rfl (zOf.up rfl zOf.rf))))), by rw [g9.1 156 rfl]; rfl⟩
  refine tz_iconst (pc := 37) dX5_readBank_37 ?_
  refine tz_istore_n (pc := 38) (L2 := [_, _, _]) dX5_readBank_38 rfl (by decide) rfl ?_
  have loop39 : ∀ (f9 : Nat) (k : Int) (J1 : zJ) (m1 : Int), ((700 - k).toNat) < f9 → (0 ≤ k ∧ k ≤ 700) → (RQ6 J1 J m m1) → (CRI J1 (pN g) k) → tz_At l G M_X5_readBank (tb_rm 36 0 0) none (tb_ZM G 0 0 (zQ n 0 (zqi (fun z J' => ∃ m', RQ6 J' J m m' ∧ J' 163 8 = z ∧ RelC J' (pAl 703 (pN g))))) (zX n 0 zN)) 0 0 n J1 39 [some (.ref 163), some (zi q), some (zi k)] [] := by
    intro f9
    induction f9 with
    | zero => intro k J1 m1 hm9; exact absurd hm9 (Nat.not_lt_zero _)
    | succ f9 ih39 =>
      intro k J1 m1 hm39 hk g1 hI
      refine tz_iload_n (pc := 39) dX5_readBank_39 rfl rfl ?_
      refine tz_sipush (pc := 40) dX5_readBank_40 (by decide) ?_
      refine tz_icmp_ge (pc := 43) (tgt := 152) dX5_readBank_43 (by decide) (by omega) (by decide) (fun h_43 => ?_) (fun h_43 => ?_)
      · refine tz_aload_n (pc := 152) dX5_readBank_152 rfl rfl ?_
        refine tz_fI (pc := 153) (kz := 8) (v := (J1 163 8)) dX5_readBank_153 fl_X5_24 i_163_8 rfl rfl (fun r_153 => ?_)
        exact tz_iret (pc := 156) (z := (J1 163 8)) dX5_readBank_156 rfl (Nat.le_of_ble_eq_true rfl) (Nat.le_of_ble_eq_true rfl) ⟨Nat.le_refl _, Nat.le_add_right _ _⟩ ⟨_, rfl, (by omega), ⟨m1, g1, rfl, hI.en (by omega)⟩⟩
      · refine tz_aload_n (pc := 46) dX5_readBank_46 rfl rfl ?_
        refine tz_fI (pc := 47) (kz := 5) (v := (J1 163 5)) dX5_readBank_47 fl_X5_15 i_163_5 rfl rfl (fun r_47 => ?_)
        refine tz_if_eq (pc := 50) (tgt := 152) dX5_readBank_50 (by decide) (by omega) (fun h_50 => ?_) (fun h_50 => ?_)
        · refine tz_aload_n (pc := 152) dX5_readBank_152 rfl rfl ?_
          refine tz_fI (pc := 153) (kz := 8) (v := (J1 163 8)) dX5_readBank_153 fl_X5_24 i_163_8 rfl rfl (fun r_153 => ?_)
          exact tz_iret (pc := 156) (z := (J1 163 8)) dX5_readBank_156 rfl (Nat.le_of_ble_eq_true rfl) (Nat.le_of_ble_eq_true rfl) ⟨Nat.le_refl _, Nat.le_add_right _ _⟩ ⟨_, rfl, (by omega), ⟨m1, g1, rfl, hI.en (by omega)⟩⟩
        · refine tz_aload_n (pc := 53) dX5_readBank_53 rfl rfl ?_
          refine tz_fI (pc := 54) (kz := 8) (v := (J1 163 8)) dX5_readBank_54 fl_X5_24 i_163_8 rfl rfl (fun r_54 => ?_)
          refine tz_if_ne (pc := 57) (tgt := 152) dX5_readBank_57 (by decide) (by omega) (fun h_57 => ?_) (fun h_57 => ?_)
          · refine tz_aload_n (pc := 152) dX5_readBank_152 rfl rfl ?_
            refine tz_fI (pc := 153) (kz := 8) (v := (J1 163 8)) dX5_readBank_153 fl_X5_24 i_163_8 rfl rfl (fun r_153 => ?_)
            exact tz_iret (pc := 156) (z := (J1 163 8)) dX5_readBank_156 rfl (Nat.le_of_ble_eq_true rfl) (Nat.le_of_ble_eq_true rfl) ⟨Nat.le_refl _, Nat.le_add_right _ _⟩ ⟨_, rfl, (by omega), ⟨m1, g1, rfl, hI.en (by omega)⟩⟩
          · obtain ⟨gg, hB, hX, ha, hs⟩ := id hI
            have h9 : gg 0 4 = 0 := (hX.bad (by omega)).elim (fun q => absurd q hB.2.1) (fun q => q.1)
            have hk3 : ¬ gg 0 3 = 0 := by
              have := ((hX.resolve_left hB.2.1).2.2 h9).1.2.1
              omega
            have h31 : J1 156 3 = -1 := g1.2.2.trans h3
            refine tz_aload_n (pc := 60) dX5_readBank_60 rfl rfl ?_
            refine tz_word (pc := 61) (ik := 68) (tx := "symbol") (bs := [115, 121, 109, 98, 111, 108]) (by decide) rfl (x_isWord hl n _ [115, 121, 109, 98, 111, 108] (by decide) hnb g1.1.2.2.2.1) hnb vl_X5_70 rfl dX5_readBank_61 dX5_readBank_63 (Nat.le_of_ble_eq_true rfl) ⟨(Nat.le_of_ble_eq_true rfl), (Nat.le_of_ble_eq_true rfl)⟩ (Nat.le_of_ble_eq_true rfl) (Nat.le_of_ble_eq_true rfl) (fun z_61 J9 hz_61 hq9 => ?_)
            obtain ⟨rfl, hv_61⟩ := hq9
            have hw_61 := hv_61.imp (fun q => (⟨q.1, q.2.1, isw_symbol.1 q.2.2⟩ : _ ∧ _ ∧ _)) (fun q => (⟨q.1, fun r => q.2 ⟨r.1, isw_symbol.2 r.2⟩⟩ : _ ∧ ¬ (_ ∧ _)))
            have hc_61 : z_61 = 0 ∨ z_61 = 1 := hv_61.elim (fun q => Or.inr q.1) (fun q => Or.inl q.1)
            clear hv_61
            refine tz_if_eq (pc := 66) (tgt := 76) dX5_readBank_66 (by decide) (by omega) (fun h_66 => ?_) (fun h_66 => ?_)
            · refine tz_aload_n (pc := 76) dX5_readBank_76 rfl rfl ?_
              refine tz_word (pc := 77) (ik := 77) (tx := "term") (bs := [116, 101, 114, 109]) (by decide) rfl (x_isWord hl n _ [116, 101, 114, 109] (by decide) hnb g1.1.2.2.2.1) hnb vl_X5_70 rfl dX5_readBank_77 dX5_readBank_79 (Nat.le_of_ble_eq_true rfl) ⟨(Nat.le_of_ble_eq_true rfl), (Nat.le_of_ble_eq_true rfl)⟩ (Nat.le_of_ble_eq_true rfl) (Nat.le_of_ble_eq_true rfl) (fun z_77 J9 hz_77 hq9 => ?_)
              obtain ⟨rfl, hv_77⟩ := hq9
              have hw_77 := hv_77.imp (fun q => (⟨q.1, q.2.1, isw_term.1 q.2.2⟩ : _ ∧ _ ∧ _)) (fun q => (⟨q.1, fun r => q.2 ⟨r.1, isw_term.2 r.2⟩⟩ : _ ∧ ¬ (_ ∧ _)))
              have hc_77 : z_77 = 0 ∨ z_77 = 1 := hv_77.elim (fun q => Or.inr q.1) (fun q => Or.inl q.1)
              clear hv_77
              refine tz_if_eq (pc := 82) (tgt := 92) dX5_readBank_82 (by decide) (by omega) (fun h_82 => ?_) (fun h_82 => ?_)
              · refine tz_aload_n (pc := 92) dX5_readBank_92 rfl rfl ?_
                refine tz_word (pc := 93) (ik := 82) (tx := "rule") (bs := [114, 117, 108, 101]) (by decide) rfl (x_isWord hl n _ [114, 117, 108, 101] (by decide) hnb g1.1.2.2.2.1) hnb vl_X5_70 rfl dX5_readBank_93 dX5_readBank_95 (Nat.le_of_ble_eq_true rfl) ⟨(Nat.le_of_ble_eq_true rfl), (Nat.le_of_ble_eq_true rfl)⟩ (Nat.le_of_ble_eq_true rfl) (Nat.le_of_ble_eq_true rfl) (fun z_93 J9 hz_93 hq9 => ?_)
                obtain ⟨rfl, hv_93⟩ := hq9
                have hw_93 := hv_93.imp (fun q => (⟨q.1, q.2.1, isw_rule.1 q.2.2⟩ : _ ∧ _ ∧ _)) (fun q => (⟨q.1, fun r => q.2 ⟨r.1, isw_rule.2 r.2⟩⟩ : _ ∧ ¬ (_ ∧ _)))
                have hc_93 : z_93 = 0 ∨ z_93 = 1 := hv_93.elim (fun q => Or.inr q.1) (fun q => Or.inl q.1)
                clear hv_93
                refine tz_if_eq (pc := 98) (tgt := 108) dX5_readBank_98 (by decide) (by omega) (fun h_98 => ?_) (fun h_98 => ?_)
                · refine tz_aload_n (pc := 108) dX5_readBank_108 rfl rfl ?_
                  refine tz_word (pc := 109) (ik := 87) (tx := "entry") (bs := [101, 110, 116, 114, 121]) (by decide) rfl (x_isWord hl n _ [101, 110, 116, 114, 121] (by decide) hnb g1.1.2.2.2.1) hnb vl_X5_70 rfl dX5_readBank_109 dX5_readBank_111 (Nat.le_of_ble_eq_true rfl) ⟨(Nat.le_of_ble_eq_true rfl), (Nat.le_of_ble_eq_true rfl)⟩ (Nat.le_of_ble_eq_true rfl) (Nat.le_of_ble_eq_true rfl) (fun z_109 J9 hz_109 hq9 => ?_)
                  obtain ⟨rfl, hv_109⟩ := hq9
                  have hw_109 := hv_109.imp (fun q => (⟨q.1, q.2.1, isw_entry.1 q.2.2⟩ : _ ∧ _ ∧ _)) (fun q => (⟨q.1, fun r => q.2 ⟨r.1, isw_entry.2 r.2⟩⟩ : _ ∧ ¬ (_ ∧ _)))
                  have hc_109 : z_109 = 0 ∨ z_109 = 1 := hv_109.elim (fun q => Or.inr q.1) (fun q => Or.inl q.1)
                  clear hv_109
                  refine tz_if_eq (pc := 114) (tgt := 124) dX5_readBank_114 (by decide) (by omega) (fun h_114 => ?_) (fun h_114 => ?_)
                  · refine tz_aload_n (pc := 124) dX5_readBank_124 rfl rfl ?_
                    refine tz_word (pc := 125) (ik := 92) (tx := "room") (bs := [114, 111, 111, 109]) (by decide) rfl (x_isWord hl n _ [114, 111, 111, 109] (by decide) hnb g1.1.2.2.2.1) hnb vl_X5_70 rfl dX5_readBank_125 dX5_readBank_127 (Nat.le_of_ble_eq_true rfl) ⟨(Nat.le_of_ble_eq_true rfl), (Nat.le_of_ble_eq_true rfl)⟩ (Nat.le_of_ble_eq_true rfl) (Nat.le_of_ble_eq_true rfl) (fun z_125 J9 hz_125 hq9 => ?_)
                    obtain ⟨rfl, hv_125⟩ := hq9
                    have hw_125 := hv_125.imp (fun q => (⟨q.1, q.2.1, isw_room.1 q.2.2⟩ : _ ∧ _ ∧ _)) (fun q => (⟨q.1, fun r => q.2 ⟨r.1, isw_room.2 r.2⟩⟩ : _ ∧ ¬ (_ ∧ _)))
                    have hc_125 : z_125 = 0 ∨ z_125 = 1 := hv_125.elim (fun q => Or.inr q.1) (fun q => Or.inl q.1)
                    clear hv_125
                    refine tz_if_eq (pc := 130) (tgt := 140) dX5_readBank_130 (by decide) (by omega) (fun h_130 => ?_) (fun h_130 => ?_)
                    · refine tz_aload_n (pc := 140) dX5_readBank_140 rfl rfl ?_
                      refine tz_iconst (pc := 141) dX5_readBank_141 ?_
                      refine tz_cV (pc := 142) (w_fail hl n _ _ (by decide) gg (by decide) hX) vl_X5_97 dX5_readBank_142 o_163 rfl rfl (Nat.le_of_ble_eq_true rfl) ⟨(Nat.le_of_ble_eq_true rfl), (Nat.le_of_ble_eq_true rfl)⟩ rfl rfl (Nat.le_of_ble_eq_true rfl) (Nat.le_of_ble_eq_true rfl) (fun r9 J_142 hq9 => ?_)
                      obtain ⟨z_142, rfl, hz_142, g_142, d_142, e_142, v_142, x_142⟩ := hq9
                      have q_142 := RQ6.rn g1 g_142 (d_142 g1.1.2.2.2)
                      rw [← pCl_6 (fun r => (hw_61.elim (fun q => absurd q.1 (by omega)) (fun q => q.2)) ((pIs_c hX h9).1 r)) (fun r => (hw_77.elim (fun q => absurd q.1 (by omega)) (fun q => q.2)) ((pIs_c hX h9).1 r)) (fun r => (hw_93.elim (fun q => absurd q.1 (by omega)) (fun q => q.2)) ((pIs_c hX h9).1 r)) (fun r => (hw_109.elim (fun q => absurd q.1 (by omega)) (fun q => q.2)) ((pIs_c hX h9).1 r)) (fun r => (hw_125.elim (fun q => absurd q.1 (by omega)) (fun q => q.2)) ((pIs_c hX h9).1 r)) h9] at x_142
                      have c_142 := CRI.st hB h9 hk3 (by omega) ha hs x_142
                      refine tz_pop (pc := 145) dX5_readBank_145 rfl ?_
                      refine tz_iinc (pc := 146) (z := k + 1) (L2 := [_, _, _]) dX5_readBank_146 rfl (by omega) rfl ?_
                      refine tz_goto (pc := 149) (tgt := 39) dX5_readBank_149 (by decide) ?_
                      exact ih39 (k + 1) _ m1 (by omega) (by omega) q_142 c_142
                    · refine tz_aload_n (pc := 133) dX5_readBank_133 rfl rfl ?_
                      refine tz_cV (pc := 134) (w_readRoom hl n _ m1 gg hnb g1.1.1 g1.1.2.1 g1.1.2.2.1 g1.1.2.2.2 hX hB.1 h9) vl_X5_94 dX5_readBank_134 o_163 rfl rfl (Nat.le_of_ble_eq_true rfl) ⟨(Nat.le_of_ble_eq_true rfl), (Nat.le_of_ble_eq_true rfl)⟩ rfl rfl (Nat.le_of_ble_eq_true rfl) (Nat.le_of_ble_eq_true rfl) (fun r9 J_134 hq9 => ?_)
                      obtain ⟨rfl, m_134, x_134, y_134⟩ := hq9
                      have q_134 := g1.tr x_134
                      rw [← pCl_5 (fun r => (hw_61.elim (fun q => absurd q.1 (by omega)) (fun q => q.2)) ((pIs_c hX h9).1 r)) (fun r => (hw_77.elim (fun q => absurd q.1 (by omega)) (fun q => q.2)) ((pIs_c hX h9).1 r)) (fun r => (hw_93.elim (fun q => absurd q.1 (by omega)) (fun q => q.2)) ((pIs_c hX h9).1 r)) (fun r => (hw_109.elim (fun q => absurd q.1 (by omega)) (fun q => q.2)) ((pIs_c hX h9).1 r)) ((pIs_c hX h9).2 (hw_125.elim (fun q => q.2) (fun q => absurd q.1 (by omega))))] at y_134
                      have c_134 := CRI.st hB h9 hk3 (by omega) ha hs y_134
                      refine tz_goto (pc := 137) (tgt := 146) dX5_readBank_137 (by decide) ?_
                      refine tz_iinc (pc := 146) (z := k + 1) (L2 := [_, _, _]) dX5_readBank_146 rfl (by omega) rfl ?_
                      refine tz_goto (pc := 149) (tgt := 39) dX5_readBank_149 (by decide) ?_
                      exact ih39 (k + 1) _ m_134 (by omega) (by omega) q_134 c_134
                  · refine tz_aload_n (pc := 117) dX5_readBank_117 rfl rfl ?_
                    refine tz_cV (pc := 118) (w_readEntry hl n _ m1 gg hnb g1.1.1 g1.1.2.1 g1.1.2.2.1 g1.1.2.2.2 hX hB.1 h9) vl_X5_89 dX5_readBank_118 o_163 rfl rfl (Nat.le_of_ble_eq_true rfl) ⟨(Nat.le_of_ble_eq_true rfl), (Nat.le_of_ble_eq_true rfl)⟩ rfl rfl (Nat.le_of_ble_eq_true rfl) (Nat.le_of_ble_eq_true rfl) (fun r9 J_118 hq9 => ?_)
                    obtain ⟨rfl, m_118, x_118, y_118⟩ := hq9
                    have q_118 := g1.tr x_118
                    rw [← pCl_4 (fun r => (hw_61.elim (fun q => absurd q.1 (by omega)) (fun q => q.2)) ((pIs_c hX h9).1 r)) (fun r => (hw_77.elim (fun q => absurd q.1 (by omega)) (fun q => q.2)) ((pIs_c hX h9).1 r)) (fun r => (hw_93.elim (fun q => absurd q.1 (by omega)) (fun q => q.2)) ((pIs_c hX h9).1 r)) ((pIs_c hX h9).2 (hw_109.elim (fun q => q.2) (fun q => absurd q.1 (by omega))))] at y_118
                    have c_118 := CRI.st hB h9 hk3 (by omega) ha hs y_118
                    refine tz_goto (pc := 121) (tgt := 146) dX5_readBank_121 (by decide) ?_
                    refine tz_iinc (pc := 146) (z := k + 1) (L2 := [_, _, _]) dX5_readBank_146 rfl (by omega) rfl ?_
                    refine tz_goto (pc := 149) (tgt := 39) dX5_readBank_149 (by decide) ?_
                    exact ih39 (k + 1) _ m_118 (by omega) (by omega) q_118 c_118
                · refine tz_aload_n (pc := 101) dX5_readBank_101 rfl rfl ?_
                  refine tz_cV (pc := 102) (w_readRule hl n _ m1 gg hnb g1.1.1 g1.1.2.1 g1.1.2.2.1 g1.1.2.2.2 hX hB.1 h9 h31) vl_X5_84 dX5_readBank_102 o_163 rfl rfl (Nat.le_of_ble_eq_true rfl) ⟨(Nat.le_of_ble_eq_true rfl), (Nat.le_of_ble_eq_true rfl)⟩ rfl rfl (Nat.le_of_ble_eq_true rfl) (Nat.le_of_ble_eq_true rfl) (fun r9 J_102 hq9 => ?_)
                  obtain ⟨rfl, m_102, x_102, y_102⟩ := hq9
                  have q_102 := g1.tr x_102
                  rw [← pCl_3 (fun r => (hw_61.elim (fun q => absurd q.1 (by omega)) (fun q => q.2)) ((pIs_c hX h9).1 r)) (fun r => (hw_77.elim (fun q => absurd q.1 (by omega)) (fun q => q.2)) ((pIs_c hX h9).1 r)) ((pIs_c hX h9).2 (hw_93.elim (fun q => q.2) (fun q => absurd q.1 (by omega))))] at y_102
                  have c_102 := CRI.st hB h9 hk3 (by omega) ha hs y_102
                  refine tz_goto (pc := 105) (tgt := 146) dX5_readBank_105 (by decide) ?_
                  refine tz_iinc (pc := 146) (z := k + 1) (L2 := [_, _, _]) dX5_readBank_146 rfl (by omega) rfl ?_
                  refine tz_goto (pc := 149) (tgt := 39) dX5_readBank_149 (by decide) ?_
                  exact ih39 (k + 1) _ m_102 (by omega) (by omega) q_102 c_102
              · refine tz_aload_n (pc := 85) dX5_readBank_85 rfl rfl ?_
                refine tz_cV (pc := 86) (w_readLone hl n _ m1 gg hnb g1.1.1 g1.1.2.1 g1.1.2.2.1 g1.1.2.2.2 hX hB.1 h9) vl_X5_79 dX5_readBank_86 o_163 rfl rfl (Nat.le_of_ble_eq_true rfl) ⟨(Nat.le_of_ble_eq_true rfl), (Nat.le_of_ble_eq_true rfl)⟩ rfl rfl (Nat.le_of_ble_eq_true rfl) (Nat.le_of_ble_eq_true rfl) (fun r9 J_86 hq9 => ?_)
                obtain ⟨rfl, m_86, x_86, y_86⟩ := hq9
                have q_86 := g1.tr x_86
                rw [← pCl_2 (fun r => (hw_61.elim (fun q => absurd q.1 (by omega)) (fun q => q.2)) ((pIs_c hX h9).1 r)) ((pIs_c hX h9).2 (hw_77.elim (fun q => q.2) (fun q => absurd q.1 (by omega))))] at y_86
                have c_86 := CRI.st hB h9 hk3 (by omega) ha hs y_86
                refine tz_goto (pc := 89) (tgt := 146) dX5_readBank_89 (by decide) ?_
                refine tz_iinc (pc := 146) (z := k + 1) (L2 := [_, _, _]) dX5_readBank_146 rfl (by omega) rfl ?_
                refine tz_goto (pc := 149) (tgt := 39) dX5_readBank_149 (by decide) ?_
                exact ih39 (k + 1) _ m_86 (by omega) (by omega) q_86 c_86
            · refine tz_aload_n (pc := 69) dX5_readBank_69 rfl rfl ?_
              refine tz_cV (pc := 70) (w_readSym hl n _ m1 gg hnb g1.1.1 g1.1.2.1 g1.1.2.2.1 g1.1.2.2.2 hX hB.1 h9) vl_X5_74 dX5_readBank_70 o_163 rfl rfl (Nat.le_of_ble_eq_true rfl) ⟨(Nat.le_of_ble_eq_true rfl), (Nat.le_of_ble_eq_true rfl)⟩ rfl rfl (Nat.le_of_ble_eq_true rfl) (Nat.le_of_ble_eq_true rfl) (fun r9 J_70 hq9 => ?_)
              obtain ⟨rfl, m_70, x_70, y_70⟩ := hq9
              have q_70 := g1.tr x_70
              rw [← pCl_1 ((pIs_c hX h9).2 (hw_61.elim (fun q => q.2) (fun q => absurd q.1 (by omega))))] at y_70
              have c_70 := CRI.st hB h9 hk3 (by omega) ha hs y_70
              refine tz_goto (pc := 73) (tgt := 146) dX5_readBank_73 (by decide) ?_
              refine tz_iinc (pc := 146) (z := k + 1) (L2 := [_, _, _]) dX5_readBank_146 rfl (by omega) rfl ?_
              refine tz_goto (pc := 149) (tgt := 39) dX5_readBank_149 (by decide) ?_
              exact ih39 (k + 1) _ m_70 (by omega) (by omega) q_70 c_70
  exact loop39 _ 0 _ m (Nat.lt_succ_self _) (by omega) q9 ⟨_, hG, x9, rfl, fun _ => hG.1.2.1.1⟩

