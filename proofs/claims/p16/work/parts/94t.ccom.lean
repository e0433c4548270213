/-! ===== common of the class, exact ===== -/
def cC (J : zJ) (L : List (Int × Int)) : Prop := J 141 4 = L.length ∧ cLo (J 143) (J 144) 0 L
theorem cC.of {J' J : zJ} {L : List (Int × Int)} (h : cC J L) (e1 : J' 141 = J 141) (e3 : J' 143 = J 143) (e4 : J' 144 = J 144) : cC J' L := by
  unfold cC
  rw [e1, e3, e4]
  exact h
theorem cC.ac {J J' : zJ} {L : List (Int × Int)} {s t z : Int} (c : cC J L) (h : ((∃ i, (0 ≤ i ∧ i < J 141 4) ∧ J 143 i = s ∧ J 144 i = t) ∧ z = 1 ∧ J = J') ∨ ((∀ i, 0 ≤ i → i < J 141 4 → ¬ (J 143 i = s ∧ J 144 i = t)) ∧ ((J 141 4 = 8 ∧ z = 0 ∧ J = J') ∨ (J 141 4 < 8 ∧ z = 1 ∧ zup (zup (zup J 143 (J 141 4) s) 144 (J 141 4) t) 141 4 (J 141 4 + 1) = J')))) : cC J' (cad L s t).1 ∧ (z = 1 ↔ (cad L s t).2 = true) := by
  obtain ⟨c0, c1⟩ := c
  unfold cad
  rcases h with ⟨⟨i, q, q3⟩, hz, rfl⟩ | ⟨hn, h⟩
  · have e : cix L s t < L.length := by
      apply Decidable.byContradiction
      intro e
      -- the least one
      have key : ∀ n : Nat, ∀ i, 0 ≤ i → i < J 141 4 → i < n → (J 143 i = s ∧ J 144 i = t) → False := by
        intro n
        induction n with
        | zero => intro i a b c _; omega
        | succ n ih =>
          intro i a b c d
          by_cases ex : ∃ j, (0 ≤ j ∧ j < i) ∧ (J 143 j = s ∧ J 144 j = t)
          · obtain ⟨j, ⟨j1, j2⟩, j3⟩ := ex
            exact ih j j1 (by omega) (by omega) j3
          · have := cLo_ix L 0 i s t c1 a (by omega) d (fun j x y w => ex ⟨j, ⟨x, y⟩, w⟩)
            omega
      exact key (i + 1).toNat i q.1 q.2 (by omega) q3
    rw [if_pos e]
    exact ⟨⟨c0, c1⟩, fun _ => rfl, fun _ => hz⟩
  · have e := cLo_no L 0 s t c1 (fun i a b => hn i a (by omega))
    rw [if_neg (by omega)]
    rcases h with ⟨h8, hz, rfl⟩ | ⟨h8, hz, rfl⟩
    · rw [if_neg (by omega)]
      exact ⟨⟨c0, c1⟩, fun q => by omega, fun q => Bool.noConfusion q⟩
    · rw [if_pos (by omega)]
      refine ⟨⟨?_, ?_⟩, fun _ => rfl, fun _ => hz⟩
      · show J 141 4 + 1 = _
        rw [List.length_append, List.length_singleton]
        omega
      · have e3 : ∀ i, zup (zup (zup J 143 (J 141 4) s) 144 (J 141 4) t) 141 4 (J 141 4 + 1) 143 i = if i = J 141 4 then s else J 143 i := fun i => rfl
        have e2 : ∀ i, zup (zup (zup J 143 (J 141 4) s) 144 (J 141 4) t) 141 4 (J 141 4 + 1) 144 i = if i = J 141 4 then t else J 144 i := fun i => rfl
        refine cLo_ap L [(s, t)] 0 (cLo_cg L 0 (fun i a b => ?_) c1) ⟨⟨?_, ?_⟩, trivial⟩
        · rw [e3, e2, if_neg (by omega), if_neg (by omega)]
          exact ⟨rfl, rfl⟩
        · rw [e3, if_pos (by omega)]
        · rw [e2, if_pos (by omega)]
theorem co_T {J S : zJ} {m s t i : Int} (E : A0 J S) (hm : J 6 12 = m) (hs : 0 ≤ s ∧ s < m) (ht : 0 ≤ t ∧ t < m) (hi : 0 ≤ i) (h8 : i < J 8 s) (h9 : i < J 8 t) : S 167 (3 * (0 + s) + i) = J 9 (s * 3 + i) ∧ S 167 (3 * (0 + t) + i) = J 9 (t * 3 + i) := by
  have := E.2.1
  exact ⟨(E.2.2.2 s i hs.1 (by omega) hi h8).symm, (E.2.2.2 t i ht.1 (by omega) hi h9).symm⟩
theorem co_h {J S : zJ} {m s : Int} (E : A0 J S) (hm : J 6 12 = m) (hs : 0 ≤ s ∧ s < m) : S 166 (0 + s) = J 7 s := (E.2.2.1 s hs.1 (by have := E.2.1; omega)).1.symm
theorem cp_u {J S : zJ} {m s t : Int} {k : Nat} {L : List (Int × Int)} (E : A0 J S) (hm : J 6 12 = m) (hs : 0 ≤ s ∧ s < m) (ht : 0 ≤ t ∧ t < m) (h : J 7 s < 0 ∨ ¬ J 7 s = J 7 t) : cpO (k + 1) S L s t = cad L s t := by
  rw [cpO_s, co_h E hm hs, co_h E hm ht, if_pos h]
theorem cp_h {J S : zJ} {m s t : Int} {k : Nat} {L : List (Int × Int)} (E : A0 J S) (C : CT J m) (hm : J 6 12 = m) (hs : 0 ≤ s ∧ s < m) (ht : 0 ≤ t ∧ t < m) (h : ¬ J 7 s < 0) (h2 : J 7 s = J 7 t) : cpO (k + 1) S L s t = stg (cT k S s t) L (J 8 s) 3 := by
  have hd := (C.ar hs.1 hs.2).2.2
  rw [cpO_s, co_h E hm hs, co_h E hm ht, if_neg (by omega), E.ar hd.2, (C.2.1 s hs.1 hs.2).1.1]
  rfl
/-- where the couples' walk is, behind i arguments -/
def cSt (k : Nat) (J J1 : zJ) (s t i : Int) : Prop := ∀ S L, A0 J S → cC J L → ∃ L1, stg (cT k S s t) L (J 8 s) i.toNat = (L1, true) ∧ cC J1 L1
theorem cSt.s {k : Nat} {J J1 J2 : zJ} {m s t i z : Int} (h : cSt k J J1 s t i) (hm : J 6 12 = m) (hs : 0 ≤ s ∧ s < m) (ht : 0 ≤ t ∧ t < m) (hi : 0 ≤ i ∧ i < J 8 s) (h9 : i < J 8 t) (q : ∀ S L, A0 J S → cC J1 L → cC J2 (cpO k S L (J 9 (s * 3 + i)) (J 9 (t * 3 + i))).1 ∧ (z = 1 ↔ (cpO k S L (J 9 (s * 3 + i)) (J 9 (t * 3 + i))).2 = true)) {S : zJ} {L : List (Int × Int)} (E : A0 J S) (c : cC J L) : cC J2 (stg (cT k S s t) L (J 8 s) (i + 1).toNat).1 ∧ (z = 1 ↔ (stg (cT k S s t) L (J 8 s) (i + 1).toNat).2 = true) := by
  obtain ⟨L1, e1, c1⟩ := h S L E c
  have e := co_T E hm hs ht hi.1 hi.2 h9
  rw [show (i + 1).toNat = i.toNat + 1 from by omega, stg_s, e1, if_pos ⟨rfl, by omega⟩, show ((i.toNat : Nat) : Int) = i from by omega]
  unfold cT
  rw [e.1, e.2]
  exact q S L1 E c1
theorem cSt.b {k : Nat} {J J1 J2 : zJ} {m s t i z : Int} (h : cSt k J J1 s t i) (hm : J 6 12 = m) (hs : 0 ≤ s ∧ s < m) (ht : 0 ≤ t ∧ t < m) (hi : 0 ≤ i ∧ i < J 8 s) (h9 : i < J 8 t) (q : ∀ S L, A0 J S → cC J1 L → cC J2 (cpO k S L (J 9 (s * 3 + i)) (J 9 (t * 3 + i))).1 ∧ (z = 1 ↔ (cpO k S L (J 9 (s * 3 + i)) (J 9 (t * 3 + i))).2 = true)) (hz : z = 1) : cSt k J J2 s t (i + 1) := fun S L E c => by
  have r := h.s hm hs ht hi h9 q E c
  exact ⟨_, Prod.ext rfl (r.2.1 hz), r.1⟩
theorem cSt.x {k k' : Nat} {J J1 J2 : zJ} {m s t i z : Int} (h : cSt k J J1 s t i) (C : CT J m) (hm : J 6 12 = m) (hs : 0 ≤ s ∧ s < m) (ht : 0 ≤ t ∧ t < m) (hi : 0 ≤ i ∧ i < J 8 s) (h9 : i < J 8 t) (q : ∀ S L, A0 J S → cC J1 L → cC J2 (cpO k S L (J 9 (s * 3 + i)) (J 9 (t * 3 + i))).1 ∧ (z = 1 ↔ (cpO k S L (J 9 (s * 3 + i)) (J 9 (t * 3 + i))).2 = true)) (hz : ¬ z = 1) (h7 : ¬ J 7 s < 0) (h2 : J 7 s = J 7 t) (hk : k' = k + 1) {S : zJ} {L : List (Int × Int)} (E : A0 J S) (c : cC J L) : cC J2 (cpO k' S L s t).1 ∧ ((0 : Int) = 1 ↔ (cpO k' S L s t).2 = true) := by
  have r := h.s hm hs ht hi h9 q E c
  have ha := (C.ar hs.1 hs.2).1
  have f : (stg (cT k S s t) L (J 8 s) (i + 1).toNat).2 = false := Bool.eq_false_iff.2 (fun u => hz (r.2.2 u))
  have e : stg (cT k S s t) L (J 8 s) 3 = stg (cT k S s t) L (J 8 s) (i + 1).toNat := by
    have := stg_e (Or.inl f) (3 - (i + 1).toNat)
    rw [show (i + 1).toNat + (3 - (i + 1).toNat) = 3 from by omega] at this
    exact this
  rw [hk, cp_h E C hm hs ht h7 h2, e]
  exact ⟨r.1, fun u => by omega, fun u => by rw [f] at u; cases u⟩
theorem cSt.e {k k' : Nat} {J J1 : zJ} {m s t i : Int} (h : cSt k J J1 s t i) (C : CT J m) (hm : J 6 12 = m) (hs : 0 ≤ s ∧ s < m) (ht : 0 ≤ t ∧ t < m) (hi : i = J 8 s) (h7 : ¬ J 7 s < 0) (h2 : J 7 s = J 7 t) (hk : k' = k + 1) {S : zJ} {L : List (Int × Int)} (E : A0 J S) (c : cC J L) : cC J1 (cpO k' S L s t).1 ∧ ((1 : Int) = 1 ↔ (cpO k' S L s t).2 = true) := by
  have ha := (C.ar hs.1 hs.2).1
  obtain ⟨L1, e1, c1⟩ := h S L E c
  have e : stg (cT k S s t) L (J 8 s) 3 = stg (cT k S s t) L (J 8 s) i.toNat := by
    have := stg_e (T := cT k S s t) (L := L) (A := J 8 s) (i := i.toNat) (Or.inr (by omega)) (3 - i.toNat)
    rw [show i.toNat + (3 - i.toNat) = 3 from by omega] at this
    exact this
  rw [hk, cp_h E C hm hs ht h7 h2, e, e1]
  exact ⟨c1, fun _ => rfl, fun _ => rfl⟩
set_option maxHeartbeats 4000000 in
set_option maxRecDepth 100000 in
theorem x_couple {l : Launch} {G : tb_G} (hl : l.stackTraces = false) (n : Nat) : ∀ (r9 : Nat) (J : zJ) (s : Int) (t : Int) (lv : Int) (hr_s : -2147483648 ≤ s ∧ s < 2147483648) (hr_t : -2147483648 ≤ t ∧ t < 2147483648) (hr_lv : -2147483648 ≤ lv ∧ lv < 2147483648) (m : Int) (C : CT J m) (hm : J 6 12 = m) (hs : 0 ≤ s ∧ s < m) (ht : 0 ≤ t ∧ t < m) (h0 : 0 ≤ J 141 4 ∧ J 141 4 ≤ 8), ((7 - lv).toNat) < r9 → tz_Ok l G M_X2_couple (2 + 1 * r9) 0 0 [.ref 141, zi s, zi t, zi lv] n J (zqi (fun z J' => (mC J' J ∧ (z = 0 ∨ z = 1) ∧ (z = 1 → cpl J' (7 - lv).toNat s t)) ∧ ∀ S L, A0 J S → cC J L → cC J' (cpO (7 - lv).toNat S L s t).1 ∧ (z = 1 ↔ (cpO (7 - lv).toNat S L s t).2 = true))) zN := by
  intro r9
  induction r9 with
  | zero => intro J s t lv hr_s hr_t hr_lv m C hm hs ht h0 hm9; exact absurd hm9 (Nat.not_lt_zero _)
  | succ r9 ih =>
    intro J s t lv hr_s hr_t hr_lv m C hm hs ht h0 hm9
    refine tz_Ok.of hl (by decide +kernel) rfl (tb_c1 rfl) (Nat.le_of_ble_eq_true rfl) ?_
    show tz_At l G M_X2_couple (tb_rm (2 + 1 * (r9 + 1)) 0 0) none (tb_ZM G 0 0 (zQ n 0 (zqi (fun z J' => (mC J' J ∧ (z = 0 ∨ z = 1) ∧ (z = 1 → cpl J' (7 - lv).toNat s t)) ∧ ∀ S L, A0 J S → cC J L → cC J' (cpO (7 - lv).toNat S L s t).1 ∧ (z = 1 ↔ (cpO (7 - lv).toNat S L s t).2 = true)))) (zX n 0 zN)) 0 0 n J 0 [some (.ref 141), some (zi s), some (zi t), some (zi lv), none] []
    have hb := C.told
    have ha := C.ar hs.1 hs.2
    have ha2 := C.ar ht.1 ht.2
    refine tz_iload_n (pc := 0) dX2_couple_0 rfl rfl ?_
    refine tz_bipush (pc := 1) dX2_couple_1 (by decide) ?_
    refine tz_icmp_le (pc := 3) (tgt := 8) dX2_couple_3 (by decide) (by omega) (by decide) (fun h_3 => ?_) (fun h_3 => ?_)
    · refine tz_aload_n (pc := 8) dX2_couple_8 rfl rfl ?_
      refine tz_fR (pc := 9) dX2_couple_9 fl_X2_28 r_141_0 ?_
      refine tz_iload_n (pc := 12) dX2_couple_12 rfl rfl ?_
      refine tz_cV (pc := 13) (c_isVar hl n _ _ (by omega) (by omega)) vl_X2_36 dX2_couple_13 o_6 rfl rfl (Nat.le_of_ble_eq_true rfl) ⟨(show 0 + 1 ≤ 2 + 1 * (r9 + 1) by omega), (show 8 + (2 + 11) + 40 * (0) ≤ 40 * (2 + 1 * (r9 + 1)) by omega)⟩ rfl rfl (Nat.le_of_ble_eq_true rfl) (Nat.le_of_ble_eq_true rfl) (fun r9 J_13 hq9 => ?_)
      obtain ⟨z_13, rfl, hz_13, rfl, rfl⟩ := hq9
      by_cases hw_16 : J 7 s < 0
      · rw [show (if J 7 s < 0 then 1 else 0 : Int) = 1 from if_pos hw_16]
        refine tz_if_neT (pc := 16) (tgt := 40) (by decide) dX2_couple_16 (by decide) (by decide) ?_
        refine tz_aload_n (pc := 40) dX2_couple_40 rfl rfl ?_
        refine tz_iload_n (pc := 41) dX2_couple_41 rfl rfl ?_
        refine tz_iload_n (pc := 42) dX2_couple_42 rfl rfl ?_
        have kk9 : (7 - lv).toNat = (6 - lv).toNat + 1 := by omega
        have uu9 : J 7 s < 0 ∨ ¬ J 7 s = J 7 t := by omega
        have ll9 : 1 ≤ 7 - lv := by omega
        refine tz_cV (pc := 43) (c_addCouple hl n _ _ _ (by omega) (by omega) h0) vl_X2_89 dX2_couple_43 o_141 rfl rfl (Nat.le_of_ble_eq_true rfl) ⟨(show 1 + 1 ≤ 2 + 1 * (r9 + 1) by omega), (show 8 + (3 + 11) + 40 * (1) ≤ 40 * (2 + 1 * (r9 + 1)) by omega)⟩ rfl rfl (Nat.le_of_ble_eq_true rfl) (Nat.le_of_ble_eq_true rfl) (fun r9 J_43 hq9 => ?_)
        obtain ⟨z_43, rfl, hz_43, p_43⟩ := hq9
        obtain ⟨a9, b9, c9⟩ := mC.ac h0 p_43
        exact tz_zret (pc := 46) (z := z_43) dX2_couple_46 rfl (by omega) (Nat.le_of_ble_eq_true rfl) (Nat.le_of_ble_eq_true rfl) ⟨Nat.le_refl _, Nat.le_add_right _ _⟩ ⟨_, rfl, (by omega), (by exact ⟨⟨a9, b9, fun e => cpl.s ll9 (Or.inl (c9 e))⟩, fun S L E c => by rw [kk9, cp_u E hm hs ht uu9]; exact c.ac p_43⟩)⟩
      · rw [show (if J 7 s < 0 then 1 else 0 : Int) = 0 from if_neg hw_16]
        refine tz_if_neF (pc := 16) (tgt := 40) (by decide) dX2_couple_16 (by decide) (by decide) ?_
        refine tz_aload_n (pc := 19) dX2_couple_19 rfl rfl ?_
        refine tz_fR (pc := 20) dX2_couple_20 fl_X2_28 r_141_0 ?_
        refine tz_fR (pc := 23) dX2_couple_23 fl_X2_42 r_6_1 ?_
        refine tz_iload_n (pc := 26) dX2_couple_26 rfl rfl ?_
        refine tz_aL (pc := 27) (z := s) (v := (J 7 s)) dX2_couple_27 a_7 rfl (by omega) rfl (fun r_27 => ?_)
        refine tz_aload_n (pc := 28) dX2_couple_28 rfl rfl ?_
        refine tz_fR (pc := 29) dX2_couple_29 fl_X2_28 r_141_0 ?_
        refine tz_fR (pc := 32) dX2_couple_32 fl_X2_42 r_6_1 ?_
        refine tz_iload_n (pc := 35) dX2_couple_35 rfl rfl ?_
        refine tz_aL (pc := 36) (z := t) (v := (J 7 t)) dX2_couple_36 a_7 rfl (by omega) rfl (fun r_36 => ?_)
        refine tz_icmp_eq (pc := 37) (tgt := 47) dX2_couple_37 (by decide) (by omega) (by omega) (fun h_37 => ?_) (fun h_37 => ?_)
        · refine tz_iconst (pc := 47) dX2_couple_47 ?_
          refine tz_istore (pc := 48) (L2 := [_, _, _, _, _]) dX2_couple_48 (by decide) rfl ?_
          have loop50 : ∀ (f9 : Nat) (i : Int) (J1 : zJ), ((3 - i).toNat) < f9 → (0 ≤ i ∧ i ≤ J 8 s) → (mC J1 J) → (∀ q, 0 ≤ q → q < i → cpl J1 (6 - lv).toNat (J 9 (s * 3 + q)) (J 9 (t * 3 + q))) → (cSt (6 - lv).toNat J J1 s t i) → tz_At l G M_X2_couple (tb_rm (2 + 1 * (r9 + 1)) 0 0) none (tb_ZM G 0 0 (zQ n 0 (zqi (fun z J' => (mC J' J ∧ (z = 0 ∨ z = 1) ∧ (z = 1 → cpl J' (7 - lv).toNat s t)) ∧ ∀ S L, A0 J S → cC J L → cC J' (cpO (7 - lv).toNat S L s t).1 ∧ (z = 1 ↔ (cpO (7 - lv).toNat S L s t).2 = true)))) (zX n 0 zN)) 0 0 n J1 50 [some (.ref 141), some (zi s), some (zi t), some (zi lv), some (zi i)] [] := by
            intro f9
            induction f9 with
            | zero => intro i J1 hm9; exact absurd hm9 (Nat.not_lt_zero _)
            | succ f9 ih50 =>
              intro i J1 hm50 hi fr hq hst
              have he := C.arh hs ht (by omega)
              have e9 := fr.2.1 9 rfl
              have e7 := fr.2.1 7 rfl
              have e8 := fr.2.1 8 rfl
              refine tz_iload (pc := 50) dX2_couple_50 rfl ?_
              refine tz_aload_n (pc := 52) dX2_couple_52 rfl rfl ?_
              refine tz_fR (pc := 53) dX2_couple_53 fl_X2_28 r_141_0 ?_
              refine tz_fR (pc := 56) dX2_couple_56 fl_X2_45 r_6_2 ?_
              refine tz_iload_n (pc := 59) dX2_couple_59 rfl rfl ?_
              refine tz_aL (pc := 60) (z := s) (v := (J 8 s)) dX2_couple_60 a_8 rfl (by omega) (Eq.trans (congrFun (fr.2.1 8 rfl) s) rfl) (fun r_60 => ?_)
              refine tz_icmp_ge (pc := 61) (tgt := 102) dX2_couple_61 (by decide) (by omega) (by omega) (fun h_61 => ?_) (fun h_61 => ?_)
              · refine tz_iconst (pc := 102) dX2_couple_102 ?_
                exact tz_zret (pc := 103) (z := 1) dX2_couple_103 rfl (Or.inr rfl) (Nat.le_of_ble_eq_true rfl) (Nat.le_of_ble_eq_true rfl) ⟨Nat.le_refl _, Nat.le_add_right _ _⟩ ⟨_, rfl, (by decide), (by first | exact ⟨⟨⟨h0, zOf.rf, fun _ _ q => q⟩, Or.inl rfl, fun e => by omega⟩, fun S L E c => by rw [show (7 - lv).toNat = 0 from by omega]; exact ⟨c, fun u => by omega, fun u => Bool.noConfusion u⟩⟩ | exact ⟨⟨a9, b9, fun e => cpl.s ll9 (Or.inl (c9 e))⟩, fun S L E c => by rw [kk9, cp_u E hm hs ht uu9]; exact c.ac p_43⟩ | exact ⟨⟨fr, Or.inr rfl, fun _ => cpl.s (by omega) (Or.inr ⟨by rw [e7]; omega, by rw [e7]; omega, fun q a b => by rw [e8] at b; rw [e9, show 7 - lv - 1 = 6 - lv by omega]; exact hq q a (by omega)⟩)⟩, fun S L E c => hst.e C hm hs ht (by omega) (by omega) (by omega) (by omega) E c⟩ | exact ⟨⟨f2.tr fr, Or.inl rfl, fun e => by omega⟩, fun S L E c => hst.x C hm hs ht (by omega) (by omega) y2 (by omega) (by omega) (by omega) (by omega) E c⟩)⟩
              · refine tz_aload_n (pc := 64) dX2_couple_64 rfl rfl ?_
                refine tz_aload_n (pc := 65) dX2_couple_65 rfl rfl ?_
                refine tz_fR (pc := 66) dX2_couple_66 fl_X2_28 r_141_0 ?_
                refine tz_iload_n (pc := 69) dX2_couple_69 rfl rfl ?_
                refine tz_iload (pc := 70) dX2_couple_70 rfl ?_
                refine tz_cV (pc := 72) (c_arg hl n _ _ _ (by omega) (by omega) (by omega)) vl_X2_48 dX2_couple_72 o_6 rfl rfl (Nat.le_of_ble_eq_true rfl) ⟨(show 0 + 1 ≤ 2 + 1 * (r9 + 1) by omega), (show 8 + (3 + 11) + 40 * (0) ≤ 40 * (2 + 1 * (r9 + 1)) by omega)⟩ rfl rfl (Nat.le_of_ble_eq_true rfl) (Nat.le_of_ble_eq_true rfl) (fun r9 J_72 hq9 => ?_)
                obtain ⟨z_72, rfl, hz_72, rfl, rfl⟩ := hq9
                refine tz_aload_n (pc := 75) dX2_couple_75 rfl rfl ?_
                refine tz_fR (pc := 76) dX2_couple_76 fl_X2_28 r_141_0 ?_
                refine tz_iload_n (pc := 79) dX2_couple_79 rfl rfl ?_
                refine tz_iload (pc := 80) dX2_couple_80 rfl ?_
                refine tz_cV (pc := 82) (c_arg hl n _ _ _ (by omega) (by omega) (by omega)) vl_X2_48 dX2_couple_82 o_6 rfl rfl (Nat.le_of_ble_eq_true rfl) ⟨(show 0 + 1 ≤ 2 + 1 * (r9 + 1) by omega), (show 8 + (3 + 11) + 40 * (0) ≤ 40 * (2 + 1 * (r9 + 1)) by omega)⟩ rfl rfl (Nat.le_of_ble_eq_true rfl) (Nat.le_of_ble_eq_true rfl) (fun r9 J_82 hq9 => ?_)
                obtain ⟨z_82, rfl, hz_82, rfl, rfl⟩ := hq9
                refine tz_iload_n (pc := 85) dX2_couple_85 rfl rfl ?_
                refine tz_iconst (pc := 86) dX2_couple_86 ?_
                refine tz_iadd (pc := 87) (v := lv + 1) dX2_couple_87 rfl ?_
                have g1 := (C.arg (t := s) (i := i) (by omega) (by omega) (by omega) (by omega)).1
                have g2 := (C.arg (t := t) (i := i) (by omega) (by omega) (by omega) (by omega)).1
                rw [← e9] at g1 g2
                refine tz_cV (pc := 88) (ih _ _ _ _ (by omega) (by omega) (by omega) m (C.of (fun c hc => fr.2.1 c (by simp [zbut]; omega))) (by rw [fr.2.1 6 rfl]; exact hm) (by omega) (by omega) fr.1 (by omega)) vl_X2_85 dX2_couple_88 o_141 rfl rfl (Nat.le_of_ble_eq_true rfl) ⟨(show (2 + 1 * r9) + 1 ≤ 2 + 1 * (r9 + 1) by omega), (show 8 + (5 + 11) + 40 * ((2 + 1 * r9)) ≤ 40 * (2 + 1 * (r9 + 1)) by omega)⟩ rfl rfl (Nat.le_of_ble_eq_true rfl) (Nat.le_of_ble_eq_true rfl) (fun r9 J2 hq9 => ?_)
                obtain ⟨z2, rfl, hz_88, ⟨f2, hz2, hc2⟩, x2⟩ := hq9
                have y2 : ∀ S L, A0 J S → cC J1 L → cC J2 (cpO (6 - lv).toNat S L (J 9 (s * 3 + i)) (J 9 (t * 3 + i))).1 ∧ (z2 = 1 ↔ (cpO (6 - lv).toNat S L (J 9 (s * 3 + i)) (J 9 (t * 3 + i))).2 = true) := fun S L E c => by rw [show (6 - lv).toNat = (7 - (lv + 1)).toNat from by omega, ← e9]; exact x2 S L (E.f (fun c hc => fr.2.1 c (by simp [zbut]; omega))) c
                refine tz_if_ne (pc := 91) (tgt := 96) dX2_couple_91 (by decide) (by omega) (fun h_91 => ?_) (fun h_91 => ?_)
                · refine tz_iinc (pc := 96) (z := i + 1) (L2 := [_, _, _, _, _]) dX2_couple_96 rfl (by omega) rfl ?_
                  refine tz_goto (pc := 99) (tgt := 50) dX2_couple_99 (by decide) ?_
                  exact ih50 (i + 1) _ (by omega) (by omega) (f2.tr fr) (fun q a b => (Decidable.em (q = i)).elim (fun e => by rw [e, ← e9]; have := hc2 (by omega); rw [show 6 - lv = 7 - (lv + 1) by omega]; exact this) (fun e => f2.cpl (C.of (fun c hc => fr.2.1 c (by simp [zbut]; omega))) (by have := C.arg (t := s) (i := q) (by omega) (by omega) a (by omega); omega) (by have := C.arg (t := t) (i := q) (by omega) (by omega) a (by omega); omega) (hq q a (by omega)))) (hst.b hm hs ht (by omega) (by omega) y2 (by omega))
                · refine tz_iconst (pc := 94) dX2_couple_94 ?_
                  exact tz_zret (pc := 95) (z := 0) dX2_couple_95 rfl (Or.inl rfl) (Nat.le_of_ble_eq_true rfl) (Nat.le_of_ble_eq_true rfl) ⟨Nat.le_refl _, Nat.le_add_right _ _⟩ ⟨_, rfl, (by decide), (by first | exact ⟨⟨⟨h0, zOf.rf, fun _ _ q => q⟩, Or.inl rfl, fun e => by omega⟩, fun S L E c => by rw [show (7 - lv).toNat = 0 from by omega]; exact ⟨c, fun u => by omega, fun u => Bool.noConfusion u⟩⟩ | exact ⟨⟨a9, b9, fun e => cpl.s ll9 (Or.inl (c9 e))⟩, fun S L E c => by rw [kk9, cp_u E hm hs ht uu9]; exact c.ac p_43⟩ | exact ⟨⟨fr, Or.inr rfl, fun _ => cpl.s (by omega) (Or.inr ⟨by rw [e7]; omega, by rw [e7]; omega, fun q a b => by rw [e8] at b; rw [e9, show 7 - lv - 1 = 6 - lv by omega]; exact hq q a (by omega)⟩)⟩, fun S L E c => hst.e C hm hs ht (by omega) (by omega) (by omega) (by omega) E c⟩ | exact ⟨⟨f2.tr fr, Or.inl rfl, fun e => by omega⟩, fun S L E c => hst.x C hm hs ht (by omega) (by omega) y2 (by omega) (by omega) (by omega) (by omega) E c⟩)⟩
          exact loop50 _ 0 _ (Nat.lt_succ_self _) (by omega) ⟨h0, zOf.rf, fun _ _ q => q⟩ (fun q a b => by omega) (fun S L E c => ⟨L, rfl, c⟩)
        · refine tz_aload_n (pc := 40) dX2_couple_40 rfl rfl ?_
          refine tz_iload_n (pc := 41) dX2_couple_41 rfl rfl ?_
          refine tz_iload_n (pc := 42) dX2_couple_42 rfl rfl ?_
          have kk9 : (7 - lv).toNat = (6 - lv).toNat + 1 := by omega
          have uu9 : J 7 s < 0 ∨ ¬ J 7 s = J 7 t := by omega
          have ll9 : 1 ≤ 7 - lv := by omega
          refine tz_cV (pc := 43) (c_addCouple hl n _ _ _ (by omega) (by omega) h0) vl_X2_89 dX2_couple_43 o_141 rfl rfl (Nat.le_of_ble_eq_true rfl) ⟨(show 1 + 1 ≤ 2 + 1 * (r9 + 1) by omega), (show 8 + (3 + 11) + 40 * (1) ≤ 40 * (2 + 1 * (r9 + 1)) by omega)⟩ rfl rfl (Nat.le_of_ble_eq_true rfl) (Nat.le_of_ble_eq_true rfl) (fun r9 J_43 hq9 => ?_)
          obtain ⟨z_43, rfl, hz_43, p_43⟩ := hq9
          obtain ⟨a9, b9, c9⟩ := mC.ac h0 p_43
          exact tz_zret (pc := 46) (z := z_43) dX2_couple_46 rfl (by omega) (Nat.le_of_ble_eq_true rfl) (Nat.le_of_ble_eq_true rfl) ⟨Nat.le_refl _, Nat.le_add_right _ _⟩ ⟨_, rfl, (by omega), (by exact ⟨⟨a9, b9, fun e => cpl.s ll9 (Or.inl (c9 e))⟩, fun S L E c => by rw [kk9, cp_u E hm hs ht uu9]; exact c.ac p_43⟩)⟩
    · refine tz_iconst (pc := 6) dX2_couple_6 ?_
      exact tz_zret (pc := 7) (z := 0) dX2_couple_7 rfl (Or.inl rfl) (Nat.le_of_ble_eq_true rfl) (Nat.le_of_ble_eq_true rfl) ⟨Nat.le_refl _, Nat.le_add_right _ _⟩ ⟨_, rfl, (by decide), (by first | exact ⟨⟨⟨h0, zOf.rf, fun _ _ q => q⟩, Or.inl rfl, fun e => by omega⟩, fun S L E c => by rw [show (7 - lv).toNat = 0 from by omega]; exact ⟨c, fun u => by omega, fun u => Bool.noConfusion u⟩⟩ | exact ⟨⟨a9, b9, fun e => cpl.s ll9 (Or.inl (c9 e))⟩, fun S L E c => by rw [kk9, cp_u E hm hs ht uu9]; exact c.ac p_43⟩ | exact ⟨⟨fr, Or.inr rfl, fun _ => cpl.s (by omega) (Or.inr ⟨by rw [e7]; omega, by rw [e7]; omega, fun q a b => by rw [e8] at b; rw [e9, show 7 - lv - 1 = 6 - lv by omega]; exact hq q a (by omega)⟩)⟩, fun S L E c => hst.e C hm hs ht (by omega) (by omega) (by omega) (by omega) E c⟩ | exact ⟨⟨f2.tr fr, Or.inl rfl, fun e => by omega⟩, fun S L E c => hst.x C hm hs ht (by omega) (by omega) y2 (by omega) (by omega) (by omega) (by omega) E c⟩)⟩

set_option maxHeartbeats 4000000 in
set_option maxRecDepth 100000 in
theorem x_haveCommon {l : Launch} {G : tb_G} (hl : l.stackTraces = false) (n : Nat) (J : zJ) (s : Int) (t : Int) (hr_s : -2147483648 ≤ s ∧ s < 2147483648) (hr_t : -2147483648 ≤ t ∧ t < 2147483648) (m : Int) (C : CT J m) (hm : J 6 12 = m) (hs : 0 ≤ s ∧ s < m) (ht : 0 ≤ t ∧ t < m) : tz_Ok l G M_X2_haveCommon 10 0 0 [.ref 141, zi s, zi t] n J (zqi (fun z J' => (zOf (zbut [141, 143, 144]) J' J ∧ (0 ≤ J' 141 4 ∧ J' 141 4 ≤ 8) ∧ (z = 0 ∨ z = 1) ∧ (z = 1 → cpl J' 6 s t)) ∧ ∀ S, A0 J S → cC J' (cpO 6 S [] s t).1 ∧ (z = 1 ↔ (cpO 6 S [] s t).2 = true))) zN := by
  refine tz_Ok.of hl (by decide +kernel) rfl (tb_c1 rfl) (Nat.le_of_ble_eq_true rfl) ?_
  show tz_At l G M_X2_haveCommon (tb_rm 10 0 0) none (tb_ZM G 0 0 (zQ n 0 (zqi (fun z J' => (zOf (zbut [141, 143, 144]) J' J ∧ (0 ≤ J' 141 4 ∧ J' 141 4 ≤ 8) ∧ (z = 0 ∨ z = 1) ∧ (z = 1 → cpl J' 6 s t)) ∧ ∀ S, A0 J S → cC J' (cpO 6 S [] s t).1 ∧ (z = 1 ↔ (cpO 6 S [] s t).2 = true)))) (zX n 0 zN)) 0 0 n J 0 [some (.ref 141), some (zi s), some (zi t)] []
  refine tz_aload_n (pc := 0) dX2_haveCommon_0 rfl rfl ?_
  refine tz_iconst (pc := 1) dX2_haveCommon_1 ?_
  refine tz_pI (pc := 2) (kz := 4) dX2_haveCommon_2 fl_X2_21 i_141_4 rfl rfl (by decide) ?_
  refine tz_aload_n (pc := 5) dX2_haveCommon_5 rfl rfl ?_
  refine tz_iload_n (pc := 6) dX2_haveCommon_6 rfl rfl ?_
  refine tz_iload_n (pc := 7) dX2_haveCommon_7 rfl rfl ?_
  refine tz_iconst (pc := 8) dX2_haveCommon_8 ?_
  refine tz_cV (pc := 9) (x_couple hl n 7 _ _ _ 1 (by omega) (by omega) (by omega) m (C.of (fun c hc => zup_nc (by omega))) hm hs ht ⟨Int.le_refl 0, (by decide : (0 : Int) ≤ 8)⟩ (by decide)) vl_X2_85 dX2_haveCommon_9 o_141 rfl rfl (Nat.le_of_ble_eq_true rfl) ⟨(Nat.le_of_ble_eq_true rfl), (Nat.le_of_ble_eq_true rfl)⟩ rfl rfl (Nat.le_of_ble_eq_true rfl) (Nat.le_of_ble_eq_true rfl) (fun r9 J_9 hq9 => ?_)
  obtain ⟨z_9, rfl, hz_9, ⟨a1, a2, a3⟩, x1⟩ := hq9
  exact tz_zret (pc := 12) (z := z_9) dX2_haveCommon_12 rfl (by omega) (Nat.le_of_ble_eq_true rfl) (Nat.le_of_ble_eq_true rfl) ⟨Nat.le_refl _, Nat.le_add_right _ _⟩ ⟨_, rfl, (by omega), ⟨⟨a1.2.1.tr (zOf.up rfl zOf.rf), a1.1, a2, a3⟩, fun S E => x1 S [] (E.f (fun c hc => zup_nc (by omega))) ⟨rfl, trivial⟩⟩⟩

/-- all couples are unlike ones, or variables (of the class's table) -/
def cokJ (J : zJ) (m : Int) (L : List (Int × Int)) : Prop := ∀ p, p ∈ L → (0 ≤ p.1 ∧ p.1 < m) ∧ (0 ≤ p.2 ∧ p.2 < m) ∧ (J 7 p.1 < 0 ∨ ¬ J 7 p.1 = J 7 p.2)
theorem cokJ.gx {X : List Nat} {J' J : zJ} {m m' : Int} {L : List (Int × Int)} (h : cokJ J m L) (g : GX X J' J m m') : cokJ J' m' L := fun p hp => by
  obtain ⟨a, b, c⟩ := h p hp
  have e1 := (g.2.2.2.1.1 p.1 a.1 a.2).1
  have e2 := (g.2.2.2.1.1 p.2 b.1 b.2).1
  have := g.1
  rw [e1, e2]
  exact ⟨⟨a.1, by omega⟩, ⟨b.1, by omega⟩, c⟩
theorem co_v {J J' S : zJ} {L : List (Int × Int)} {k : Nat} {m s t z q : Int} (hG : S 164 21 = 0) (E : A0 J S) (C : CT J m) (hm : J 6 12 = m) (hs : 0 ≤ s ∧ s < m) (ht : 0 ≤ t ∧ t < m) (hL : cC J L) (h0 : J 141 4 ≤ 8) (hk : cokJ J m L) (c : 0 ≤ q ∧ q < J 141 4 ∧ (J 143 q = s ∧ J 144 q = t) ∧ ∀ i, 0 ≤ i → i < q → ¬ (J 143 i = s ∧ J 144 i = t)) (p : madeP J m (-1 - q) (-1) (-1) (-1) z J') : EXO (coO L (k + 1) S s t) z J' := by
  obtain ⟨c1, c2, c3, c4⟩ := c
  have t0 := C.told
  have e := cLo_ix L 0 q s t hL.2 c1 (by have := hL.1; omega) c3 c4
  have e0 := hL.1
  have u := (hk (s, t) (cix_mem L s t (by omega))).2.2
  rw [coO_s, if_pos hG, co_h E hm hs, co_h E hm ht, if_pos u, e, show q - 0 = q from by omega]
  have ar : arh (J 3) (-1 - q) = 0 := by unfold arh; rw [if_pos (by omega)]
  have := E.made (x := 0) (y := 0) (w := 0) hG C hm (h := -1 - q) ⟨by omega, by omega⟩ ⟨fun q => by omega, fun q => by omega, fun q => by omega⟩ ⟨fun q => by omega, fun q => by omega, fun q => by omega⟩ p
  exact this.imp (fun u => ⟨u.1.2, u.2⟩) id
theorem co_c {J S J' : zJ} {L : List (Int × Int)} {k : Nat} {m s t z : Int} (hG : S 164 21 = 0) (E : A0 J S) (hm : J 6 12 = m) (hs : 0 ≤ s ∧ s < m) (ht : 0 ≤ t ∧ t < m) (h7 : 0 ≤ J 7 s ∧ J 7 s = J 7 t) (e : EXO (gR (fun H i => coO L k H (H 167 (3 * (0 + s) + i)) (H 167 (3 * (0 + t) + i))) S (J 7 s)) z J') : EXO (coO L (k + 1) S s t) z J' := by
  rw [coO_s, if_pos hG, co_h E hm hs, co_h E hm ht, if_neg (by omega)]
  exact e
set_option maxHeartbeats 4000000 in
set_option maxRecDepth 100000 in
theorem x_commonP {l : Launch} {G : tb_G} (hl : l.stackTraces = false) (n : Nat) : ∀ (r9 : Nat) (J : zJ) (s : Int) (t : Int) (lv : Int) (hr_s : -2147483648 ≤ s ∧ s < 2147483648) (hr_t : -2147483648 ≤ t ∧ t < 2147483648) (hr_lv : -2147483648 ≤ lv ∧ lv < 2147483648) (m : Int) (L : List (Int × Int)) (C : CT J m) (hm : J 6 12 = m) (hs : 0 ≤ s ∧ s < m) (ht : 0 ≤ t ∧ t < m) (h0 : 0 ≤ J 141 4 ∧ J 141 4 ≤ 8) (hc : cpl J (7 - lv).toNat s t) (hL : cC J L) (hk : cokJ J m L), ((7 - lv).toNat) < r9 → tz_Ok l G M_X2_commonPart (4 + 1 * r9) 0 0 [.ref 141, zi s, zi t, zi lv] n J (zqi (fun z J' => ∃ m', GX [] J' J m m' ∧ (z = -3 ∨ (0 ≤ z ∧ z < m')) ∧ ∀ S, S 164 21 = 0 → A0 J S → EXO (coO L (7 - lv).toNat S s t) z J')) zN := by
  intro r9
  induction r9 with
  | zero => intro J s t lv hr_s hr_t hr_lv m L C hm hs ht h0 hc hL hk hm9; exact absurd hm9 (Nat.not_lt_zero _)
  | succ r9 ih =>
    intro J s t lv hr_s hr_t hr_lv m L C hm hs ht h0 hc hL hk hm9
    refine tz_Ok.of hl (by decide +kernel) rfl (tb_c1 rfl) (Nat.le_of_ble_eq_true rfl) ?_
    show tz_At l G M_X2_commonPart (tb_rm (4 + 1 * (r9 + 1)) 0 0) none (tb_ZM G 0 0 (zQ n 0 (zqi (fun z J' => ∃ m', GX [] J' J m m' ∧ (z = -3 ∨ (0 ≤ z ∧ z < m')) ∧ ∀ S, S 164 21 = 0 → A0 J S → EXO (coO L (7 - lv).toNat S s t) z J'))) (zX n 0 zN)) 0 0 n J 0 [some (.ref 141), some (zi s), some (zi t), some (zi lv), none, none, none, none, none] []
    have hb := C.told
    have ha := C.ar hs.1 hs.2
    have ha2 := C.ar ht.1 ht.2
    have g0 : GX [] J J m m := GX.rf C hm
    refine tz_iload_n (pc := 0) dX2_commonPart_0 rfl rfl ?_
    refine tz_bipush (pc := 1) dX2_commonPart_1 (by decide) ?_
    refine tz_icmp_le (pc := 3) (tgt := 9) dX2_commonPart_3 (by decide) (by omega) (by decide) (fun h_3 => ?_) (fun h_3 => ?_)
    · refine tz_aload_n (pc := 9) dX2_commonPart_9 rfl rfl ?_
      refine tz_iload_n (pc := 10) dX2_commonPart_10 rfl rfl ?_
      refine tz_iload_n (pc := 11) dX2_commonPart_11 rfl rfl ?_
      refine tz_cV (pc := 12) (c_coupleOf hl n _ _ _ (by omega) (by omega) h0) vl_X2_93 dX2_commonPart_12 o_141 rfl rfl (Nat.le_of_ble_eq_true rfl) ⟨(show 0 + 1 ≤ 4 + 1 * (r9 + 1) by omega), (show 8 + (4 + 11) + 40 * (0) ≤ 40 * (4 + 1 * (r9 + 1)) by omega)⟩ rfl rfl (Nat.le_of_ble_eq_true rfl) (Nat.le_of_ble_eq_true rfl) (fun r9 J_12 hq9 => ?_)
      obtain ⟨z9, rfl, hz_12, rfl, p_9⟩ := hq9
      refine tz_istore (pc := 15) (L2 := [_, _, _, _, _, _, _, _, _]) dX2_commonPart_15 (by decide) rfl ?_
      refine tz_iload (pc := 17) dX2_commonPart_17 rfl ?_
      refine tz_iconst (pc := 19) dX2_commonPart_19 ?_
      refine tz_icmp_eq (pc := 20) (tgt := 33) dX2_commonPart_20 (by decide) (by omega) (by decide) (fun h_20 => ?_) (fun h_20 => ?_)
      · have hx := cpl.nx (by omega) hc (fun q => by obtain ⟨i, q1, q2⟩ := q; rcases p_9 with p_9 | p_9 <;> first | omega | exact p_9.2 i q1.1 q1.2 q2)
        have hn := hx.2.2
        rw [show 7 - lv - 1 = 6 - lv by omega] at hn
        have he := C.arh hs ht hx.2.1
        refine tz_aload_n (pc := 33) dX2_commonPart_33 rfl rfl ?_
        refine tz_fR (pc := 34) dX2_commonPart_34 fl_X2_28 r_141_0 ?_
        refine tz_fR (pc := 37) dX2_commonPart_37 fl_X2_45 r_6_2 ?_
        refine tz_iload_n (pc := 40) dX2_commonPart_40 rfl rfl ?_
        refine tz_aL (pc := 41) (z := s) (v := (J 8 s)) dX2_commonPart_41 a_8 rfl (by omega) rfl (fun r_41 => ?_)
        refine tz_istore (pc := 42) (L2 := [_, _, _, _, _, _, _, _, _]) dX2_commonPart_42 (by decide) rfl ?_
        refine tz_iload (pc := 44) dX2_commonPart_44 rfl ?_
        refine tz_iconst (pc := 46) dX2_commonPart_46 ?_
        refine tz_icmp_ge (pc := 47) (tgt := 54) dX2_commonPart_47 (by decide) (by omega) (by decide) (fun h_47 => ?_) (fun h_47 => ?_)
        · refine tz_aload_n (pc := 54) dX2_commonPart_54 rfl rfl ?_
          refine tz_aload_n (pc := 55) dX2_commonPart_55 rfl rfl ?_
          refine tz_fR (pc := 56) dX2_commonPart_56 fl_X2_28 r_141_0 ?_
          refine tz_iload_n (pc := 59) dX2_commonPart_59 rfl rfl ?_
          refine tz_iconst (pc := 60) dX2_commonPart_60 ?_
          refine tz_cV (pc := 61) (c_arg hl n _ _ _ (by omega) (by decide) (by omega)) vl_X2_48 dX2_commonPart_61 o_6 rfl rfl (Nat.le_of_ble_eq_true rfl) ⟨(show 0 + 1 ≤ 4 + 1 * (r9 + 1) by omega), (show 8 + (3 + 11) + 40 * (0) ≤ 40 * (4 + 1 * (r9 + 1)) by omega)⟩ rfl rfl (Nat.le_of_ble_eq_true rfl) (Nat.le_of_ble_eq_true rfl) (fun r9 J_61 hq9 => ?_)
          obtain ⟨z_61, rfl, hz_61, rfl, rfl⟩ := hq9
          refine tz_aload_n (pc := 64) dX2_commonPart_64 rfl rfl ?_
          refine tz_fR (pc := 65) dX2_commonPart_65 fl_X2_28 r_141_0 ?_
          refine tz_iload_n (pc := 68) dX2_commonPart_68 rfl rfl ?_
          refine tz_iconst (pc := 69) dX2_commonPart_69 ?_
          refine tz_cV (pc := 70) (c_arg hl n _ _ _ (by omega) (by decide) (by omega)) vl_X2_48 dX2_commonPart_70 o_6 rfl rfl (Nat.le_of_ble_eq_true rfl) ⟨(show 0 + 1 ≤ 4 + 1 * (r9 + 1) by omega), (show 8 + (3 + 11) + 40 * (0) ≤ 40 * (4 + 1 * (r9 + 1)) by omega)⟩ rfl rfl (Nat.le_of_ble_eq_true rfl) (Nat.le_of_ble_eq_true rfl) (fun r9 J_70 hq9 => ?_)
          obtain ⟨z_70, rfl, hz_70, rfl, rfl⟩ := hq9
          refine tz_iload_n (pc := 73) dX2_commonPart_73 rfl rfl ?_
          refine tz_iconst (pc := 74) dX2_commonPart_74 ?_
          refine tz_iadd (pc := 75) (v := lv + 1) dX2_commonPart_75 rfl ?_
          have b_76 := GX.arg g0 C hs (i := 0) (by omega)
          have b2_76 := GX.arg g0 C ht (i := 0) (by omega)
          have c_76 := (g0).1
          have k_76 := (g0).2.2.2.2 141 rfl
          have a_76 := cpl.gx C g0 ⟨rfl, rfl, rfl⟩ (by omega) (by omega) (hn 0 (by omega) (by omega))
          rw [← b_76.2, ← b2_76.2, show 6 - lv = 7 - (lv + 1) by omega] at a_76
          refine tz_cV (pc := 76) (ih _ _ _ _ (by omega) (by omega) (by omega) m L (g0).2.1 (g0).2.2.1 (by omega) (by omega) (by rw [k_76]; exact h0) a_76 (hL.of ((g0).2.2.2.2 141 rfl) ((g0).2.2.2.2 143 rfl) ((g0).2.2.2.2 144 rfl)) (hk.gx g0) (by omega)) vl_X2_96 dX2_commonPart_76 o_141 rfl rfl (Nat.le_of_ble_eq_true rfl) ⟨(show (4 + 1 * r9) + 1 ≤ 4 + 1 * (r9 + 1) by omega), (show 8 + (9 + 11) + 40 * ((4 + 1 * r9)) ≤ 40 * (4 + 1 * (r9 + 1)) by omega)⟩ rfl rfl (Nat.le_of_ble_eq_true rfl) (Nat.le_of_ble_eq_true rfl) (fun r9 J_76 hq9 => ?_)
          obtain ⟨z_76, rfl, hz_76, m_76, g_76, h_76, x_76⟩ := hq9
          have q_76 := GX.tr g0 g_76
          have d_76 := q_76.1
          have e_76 := g_76.1
          have s8_76 : J 8 s = J 8 s := ((g0).2.2.2.1.1 s hs.1 hs.2).2.1
          have t8_76 : J 8 t = J 8 t := ((g0).2.2.2.1.1 t ht.1 ht.2).2.1
          have r_76 : ∀ S, S 164 21 = 0 → A0 J S → EXO (coO L (6 - lv).toNat S (S 167 (3 * (0 + s) + 0)) (S 167 (3 * (0 + t) + 0))) z_76 J_76 := fun S h9 E9 => by have e9 := co_T (s := s) (t := t) (i := 0) E9 (g0).2.2.1 (by omega) (by omega) (by decide) (by omega) (by omega); rw [e9.1, e9.2, show 6 - lv = 7 - (lv + 1) by omega]; exact x_76 S h9 E9
          refine tz_istore (pc := 79) (L2 := [_, _, _, _, _, _, _, _, _]) dX2_commonPart_79 (by decide) rfl ?_
          refine tz_iload (pc := 81) dX2_commonPart_81 rfl ?_
          refine tz_iconst (pc := 83) dX2_commonPart_83 ?_
          refine tz_icmp_ge (pc := 84) (tgt := 91) dX2_commonPart_84 (by decide) (by omega) (by decide) (fun h_84 => ?_) (fun h_84 => ?_)
          · refine tz_aload_n (pc := 91) dX2_commonPart_91 rfl rfl ?_
            refine tz_aload_n (pc := 92) dX2_commonPart_92 rfl rfl ?_
            refine tz_fR (pc := 93) dX2_commonPart_93 fl_X2_28 r_141_0 ?_
            refine tz_iload_n (pc := 96) dX2_commonPart_96 rfl rfl ?_
            refine tz_iconst (pc := 97) dX2_commonPart_97 ?_
            refine tz_cV (pc := 98) (c_arg hl n _ _ _ (by omega) (by decide) (by omega)) vl_X2_48 dX2_commonPart_98 o_6 rfl rfl (Nat.le_of_ble_eq_true rfl) ⟨(show 0 + 1 ≤ 4 + 1 * (r9 + 1) by omega), (show 8 + (3 + 11) + 40 * (0) ≤ 40 * (4 + 1 * (r9 + 1)) by omega)⟩ rfl rfl (Nat.le_of_ble_eq_true rfl) (Nat.le_of_ble_eq_true rfl) (fun r9 J_98 hq9 => ?_)
            obtain ⟨z_98, rfl, hz_98, rfl, rfl⟩ := hq9
            refine tz_aload_n (pc := 101) dX2_commonPart_101 rfl rfl ?_
            refine tz_fR (pc := 102) dX2_commonPart_102 fl_X2_28 r_141_0 ?_
            refine tz_iload_n (pc := 105) dX2_commonPart_105 rfl rfl ?_
            refine tz_iconst (pc := 106) dX2_commonPart_106 ?_
            refine tz_cV (pc := 107) (c_arg hl n _ _ _ (by omega) (by decide) (by omega)) vl_X2_48 dX2_commonPart_107 o_6 rfl rfl (Nat.le_of_ble_eq_true rfl) ⟨(show 0 + 1 ≤ 4 + 1 * (r9 + 1) by omega), (show 8 + (3 + 11) + 40 * (0) ≤ 40 * (4 + 1 * (r9 + 1)) by omega)⟩ rfl rfl (Nat.le_of_ble_eq_true rfl) (Nat.le_of_ble_eq_true rfl) (fun r9 J_107 hq9 => ?_)
            obtain ⟨z_107, rfl, hz_107, rfl, rfl⟩ := hq9
            refine tz_iload_n (pc := 110) dX2_commonPart_110 rfl rfl ?_
            refine tz_iconst (pc := 111) dX2_commonPart_111 ?_
            refine tz_iadd (pc := 112) (v := lv + 1) dX2_commonPart_112 rfl ?_
            have b_113 := GX.arg q_76 C hs (i := 1) (by omega)
            have b2_113 := GX.arg q_76 C ht (i := 1) (by omega)
            have c_113 := (q_76).1
            have k_113 := (q_76).2.2.2.2 141 rfl
            have a_113 := cpl.gx C q_76 ⟨rfl, rfl, rfl⟩ (by omega) (by omega) (hn 1 (by omega) (by omega))
            rw [← b_113.2, ← b2_113.2, show 6 - lv = 7 - (lv + 1) by omega] at a_113
            refine tz_cV (pc := 113) (ih _ _ _ _ (by omega) (by omega) (by omega) m_76 L (q_76).2.1 (q_76).2.2.1 (by omega) (by omega) (by rw [k_113]; exact h0) a_113 (hL.of ((q_76).2.2.2.2 141 rfl) ((q_76).2.2.2.2 143 rfl) ((q_76).2.2.2.2 144 rfl)) (hk.gx q_76) (by omega)) vl_X2_96 dX2_commonPart_113 o_141 rfl rfl (Nat.le_of_ble_eq_true rfl) ⟨(show (4 + 1 * r9) + 1 ≤ 4 + 1 * (r9 + 1) by omega), (show 8 + (9 + 11) + 40 * ((4 + 1 * r9)) ≤ 40 * (4 + 1 * (r9 + 1)) by omega)⟩ rfl rfl (Nat.le_of_ble_eq_true rfl) (Nat.le_of_ble_eq_true rfl) (fun r9 J_113 hq9 => ?_)
            obtain ⟨z_113, rfl, hz_113, m_113, g_113, h_113, x_113⟩ := hq9
            have q_113 := GX.tr q_76 g_113
            have d_113 := q_113.1
            have e_113 := g_113.1
            have s8_113 : J_76 8 s = J 8 s := ((q_76).2.2.2.1.1 s hs.1 hs.2).2.1
            have t8_113 : J_76 8 t = J 8 t := ((q_76).2.2.2.1.1 t ht.1 ht.2).2.1
            have r_113 : ∀ S, S 164 21 = 0 → A0 J_76 S → EXO (coO L (6 - lv).toNat S (S 167 (3 * (0 + s) + 1)) (S 167 (3 * (0 + t) + 1))) z_113 J_113 := fun S h9 E9 => by have e9 := co_T (s := s) (t := t) (i := 1) E9 (q_76).2.2.1 (by omega) (by omega) (by decide) (by omega) (by omega); rw [e9.1, e9.2, show 6 - lv = 7 - (lv + 1) by omega]; exact x_113 S h9 E9
            refine tz_istore (pc := 116) (L2 := [_, _, _, _, _, _, _, _, _]) dX2_commonPart_116 (by decide) rfl ?_
            refine tz_iload (pc := 118) dX2_commonPart_118 rfl ?_
            refine tz_iconst (pc := 120) dX2_commonPart_120 ?_
            refine tz_icmp_ge (pc := 121) (tgt := 128) dX2_commonPart_121 (by decide) (by omega) (by decide) (fun h_121 => ?_) (fun h_121 => ?_)
            · refine tz_aload_n (pc := 128) dX2_commonPart_128 rfl rfl ?_
              refine tz_aload_n (pc := 129) dX2_commonPart_129 rfl rfl ?_
              refine tz_fR (pc := 130) dX2_commonPart_130 fl_X2_28 r_141_0 ?_
              refine tz_iload_n (pc := 133) dX2_commonPart_133 rfl rfl ?_
              refine tz_iconst (pc := 134) dX2_commonPart_134 ?_
              refine tz_cV (pc := 135) (c_arg hl n _ _ _ (by omega) (by decide) (by omega)) vl_X2_48 dX2_commonPart_135 o_6 rfl rfl (Nat.le_of_ble_eq_true rfl) ⟨(show 0 + 1 ≤ 4 + 1 * (r9 + 1) by omega), (show 8 + (3 + 11) + 40 * (0) ≤ 40 * (4 + 1 * (r9 + 1)) by omega)⟩ rfl rfl (Nat.le_of_ble_eq_true rfl) (Nat.le_of_ble_eq_true rfl) (fun r9 J_135 hq9 => ?_)
              obtain ⟨z_135, rfl, hz_135, rfl, rfl⟩ := hq9
              refine tz_aload_n (pc := 138) dX2_commonPart_138 rfl rfl ?_
              refine tz_fR (pc := 139) dX2_commonPart_139 fl_X2_28 r_141_0 ?_
              refine tz_iload_n (pc := 142) dX2_commonPart_142 rfl rfl ?_
              refine tz_iconst (pc := 143) dX2_commonPart_143 ?_
              refine tz_cV (pc := 144) (c_arg hl n _ _ _ (by omega) (by decide) (by omega)) vl_X2_48 dX2_commonPart_144 o_6 rfl rfl (Nat.le_of_ble_eq_true rfl) ⟨(show 0 + 1 ≤ 4 + 1 * (r9 + 1) by omega), (show 8 + (3 + 11) + 40 * (0) ≤ 40 * (4 + 1 * (r9 + 1)) by omega)⟩ rfl rfl (Nat.le_of_ble_eq_true rfl) (Nat.le_of_ble_eq_true rfl) (fun r9 J_144 hq9 => ?_)
              obtain ⟨z_144, rfl, hz_144, rfl, rfl⟩ := hq9
              refine tz_iload_n (pc := 147) dX2_commonPart_147 rfl rfl ?_
              refine tz_iconst (pc := 148) dX2_commonPart_148 ?_
              refine tz_iadd (pc := 149) (v := lv + 1) dX2_commonPart_149 rfl ?_
              have b_150 := GX.arg q_113 C hs (i := 2) (by omega)
              have b2_150 := GX.arg q_113 C ht (i := 2) (by omega)
              have c_150 := (q_113).1
              have k_150 := (q_113).2.2.2.2 141 rfl
              have a_150 := cpl.gx C q_113 ⟨rfl, rfl, rfl⟩ (by omega) (by omega) (hn 2 (by omega) (by omega))
              rw [← b_150.2, ← b2_150.2, show 6 - lv = 7 - (lv + 1) by omega] at a_150
              refine tz_cV (pc := 150) (ih _ _ _ _ (by omega) (by omega) (by omega) m_113 L (q_113).2.1 (q_113).2.2.1 (by omega) (by omega) (by rw [k_150]; exact h0) a_150 (hL.of ((q_113).2.2.2.2 141 rfl) ((q_113).2.2.2.2 143 rfl) ((q_113).2.2.2.2 144 rfl)) (hk.gx q_113) (by omega)) vl_X2_96 dX2_commonPart_150 o_141 rfl rfl (Nat.le_of_ble_eq_true rfl) ⟨(show (4 + 1 * r9) + 1 ≤ 4 + 1 * (r9 + 1) by omega), (show 8 + (9 + 11) + 40 * ((4 + 1 * r9)) ≤ 40 * (4 + 1 * (r9 + 1)) by omega)⟩ rfl rfl (Nat.le_of_ble_eq_true rfl) (Nat.le_of_ble_eq_true rfl) (fun r9 J_150 hq9 => ?_)
              obtain ⟨z_150, rfl, hz_150, m_150, g_150, h_150, x_150⟩ := hq9
              have q_150 := GX.tr q_113 g_150
              have d_150 := q_150.1
              have e_150 := g_150.1
              have s8_150 : J_113 8 s = J 8 s := ((q_113).2.2.2.1.1 s hs.1 hs.2).2.1
              have t8_150 : J_113 8 t = J 8 t := ((q_113).2.2.2.1.1 t ht.1 ht.2).2.1
              have r_150 : ∀ S, S 164 21 = 0 → A0 J_113 S → EXO (coO L (6 - lv).toNat S (S 167 (3 * (0 + s) + 2)) (S 167 (3 * (0 + t) + 2))) z_150 J_150 := fun S h9 E9 => by have e9 := co_T (s := s) (t := t) (i := 2) E9 (q_113).2.2.1 (by omega) (by omega) (by decide) (by omega) (by omega); rw [e9.1, e9.2, show 6 - lv = 7 - (lv + 1) by omega]; exact x_150 S h9 E9
              refine tz_istore (pc := 153) (L2 := [_, _, _, _, _, _, _, _, _]) dX2_commonPart_153 (by decide) rfl ?_
              refine tz_aload_n (pc := 155) dX2_commonPart_155 rfl rfl ?_
              refine tz_fR (pc := 156) dX2_commonPart_156 fl_X2_28 r_141_0 ?_
              refine tz_aload_n (pc := 159) dX2_commonPart_159 rfl rfl ?_
              refine tz_fR (pc := 160) dX2_commonPart_160 fl_X2_28 r_141_0 ?_
              refine tz_fR (pc := 163) dX2_commonPart_163 fl_X2_42 r_6_1 ?_
              refine tz_iload_n (pc := 166) dX2_commonPart_166 rfl rfl ?_
              refine tz_aL (pc := 167) (z := s) (v := (J_150 7 s)) dX2_commonPart_167 a_7 rfl (by omega) rfl (fun r_167 => ?_)
              refine tz_iload (pc := 168) dX2_commonPart_168 rfl ?_
              refine tz_iload (pc := 170) dX2_commonPart_170 rfl ?_
              refine tz_iload (pc := 172) dX2_commonPart_172 rfl ?_
              refine tz_cV (pc := 174) (c_made hl n _ _ _ _ _ (by omega) (by omega) (by omega) (by omega) m_150 (q_150).2.1 (q_150).2.2.1 (by have := (q_150).2.1.ar (t := s) (by omega) (by have := (q_150).1; omega); omega) (ltA_of (by omega) (by omega) (by omega))) vl_X2_52 dX2_commonPart_174 o_6 rfl rfl (Nat.le_of_ble_eq_true rfl) ⟨(show 2 + 1 ≤ 4 + 1 * (r9 + 1) by omega), (show 8 + (11 + 11) + 40 * (2) ≤ 40 * (4 + 1 * (r9 + 1)) by omega)⟩ rfl rfl (Nat.le_of_ble_eq_true rfl) (Nat.le_of_ble_eq_true rfl) (fun r9 J_174 hq9 => ?_)
              obtain ⟨z_174, rfl, hz_174, p_174⟩ := hq9
              obtain ⟨m_174, g_174, h_174⟩ := GR.made p_174 (by omega)
              have q_174 : GX [] J_174 J m m_174 := GX.tr q_150 (GR.x g_174)
              exact tz_iret (pc := 177) (z := z_174) dX2_commonPart_177 rfl (Nat.le_of_ble_eq_true rfl) (Nat.le_of_ble_eq_true rfl) ⟨Nat.le_refl _, Nat.le_add_right _ _⟩ ⟨_, rfl, (by omega), ⟨m_174, q_174, h_174, fun S hG E => by rw [show (7 - lv).toNat = (6 - lv).toNat + 1 from by omega]; exact co_c hG E hm hs ht ⟨hx.1, hx.2.1⟩ (gp_end (X := []) ⟨rfl, rfl⟩ (fun S i h => coO_f h) hG E C hm ha.2.2 (C.2.1 s hs.1 hs.2).1.1.symm (Or.inl ⟨by omega, g_76, h_76, r_76⟩) (Or.inl ⟨by omega, g_113, h_113, r_113⟩) (Or.inl ⟨by omega, g_150, h_150, r_150⟩) (by rw [show J 7 s = J_150 7 s from (((q_150).2.2.2.1.1 s hs.1 hs.2).1).symm]; exact p_174))⟩⟩
            · refine tz_iconst (pc := 124) dX2_commonPart_124 ?_
              refine tz_goto (pc := 125) (tgt := 153) dX2_commonPart_125 (by decide) ?_
              refine tz_istore (pc := 153) (L2 := [_, _, _, _, _, _, _, _, _]) dX2_commonPart_153 (by decide) rfl ?_
              refine tz_aload_n (pc := 155) dX2_commonPart_155 rfl rfl ?_
              refine tz_fR (pc := 156) dX2_commonPart_156 fl_X2_28 r_141_0 ?_
              refine tz_aload_n (pc := 159) dX2_commonPart_159 rfl rfl ?_
              refine tz_fR (pc := 160) dX2_commonPart_160 fl_X2_28 r_141_0 ?_
              refine tz_fR (pc := 163) dX2_commonPart_163 fl_X2_42 r_6_1 ?_
              refine tz_iload_n (pc := 166) dX2_commonPart_166 rfl rfl ?_
              refine tz_aL (pc := 167) (z := s) (v := (J_113 7 s)) dX2_commonPart_167 a_7 rfl (by omega) rfl (fun r_167 => ?_)
              refine tz_iload (pc := 168) dX2_commonPart_168 rfl ?_
              refine tz_iload (pc := 170) dX2_commonPart_170 rfl ?_
              refine tz_iload (pc := 172) dX2_commonPart_172 rfl ?_
              refine tz_cV (pc := 174) (c_made hl n _ _ _ _ _ (by omega) (by omega) (by omega) (by omega) m_113 (q_113).2.1 (q_113).2.2.1 (by have := (q_113).2.1.ar (t := s) (by omega) (by have := (q_113).1; omega); omega) (ltA_of (by omega) (by omega) (by omega))) vl_X2_52 dX2_commonPart_174 o_6 rfl rfl (Nat.le_of_ble_eq_true rfl) ⟨(show 2 + 1 ≤ 4 + 1 * (r9 + 1) by omega), (show 8 + (11 + 11) + 40 * (2) ≤ 40 * (4 + 1 * (r9 + 1)) by omega)⟩ rfl rfl (Nat.le_of_ble_eq_true rfl) (Nat.le_of_ble_eq_true rfl) (fun r9 J_174 hq9 => ?_)
              obtain ⟨z_174, rfl, hz_174, p_174⟩ := hq9
              obtain ⟨m_174, g_174, h_174⟩ := GR.made p_174 (by omega)
              have q_174 : GX [] J_174 J m m_174 := GX.tr q_113 (GR.x g_174)
              exact tz_iret (pc := 177) (z := z_174) dX2_commonPart_177 rfl (Nat.le_of_ble_eq_true rfl) (Nat.le_of_ble_eq_true rfl) ⟨Nat.le_refl _, Nat.le_add_right _ _⟩ ⟨_, rfl, (by omega), ⟨m_174, q_174, h_174, fun S hG E => by rw [show (7 - lv).toNat = (6 - lv).toNat + 1 from by omega]; exact co_c hG E hm hs ht ⟨hx.1, hx.2.1⟩ (gp_end (X := []) ⟨rfl, rfl⟩ (fun S i h => coO_f h) hG E C hm ha.2.2 (C.2.1 s hs.1 hs.2).1.1.symm (Or.inl ⟨by omega, g_76, h_76, r_76⟩) (Or.inl ⟨by omega, g_113, h_113, r_113⟩) (Or.inr ⟨by omega, rfl, rfl⟩) (by rw [show J 7 s = J_113 7 s from (((q_113).2.2.2.1.1 s hs.1 hs.2).1).symm]; exact p_174))⟩⟩
          · refine tz_iconst (pc := 87) dX2_commonPart_87 ?_
            refine tz_goto (pc := 88) (tgt := 116) dX2_commonPart_88 (by decide) ?_
            refine tz_istore (pc := 116) (L2 := [_, _, _, _, _, _, _, _, _]) dX2_commonPart_116 (by decide) rfl ?_
            refine tz_iload (pc := 118) dX2_commonPart_118 rfl ?_
            refine tz_iconst (pc := 120) dX2_commonPart_120 ?_
            refine tz_icmp_ge (pc := 121) (tgt := 128) dX2_commonPart_121 (by decide) (by omega) (by decide) (fun h_121 => ?_) (fun h_121 => ?_)
            · refine tz_aload_n (pc := 128) dX2_commonPart_128 rfl rfl ?_
              refine tz_aload_n (pc := 129) dX2_commonPart_129 rfl rfl ?_
              refine tz_fR (pc := 130) dX2_commonPart_130 fl_X2_28 r_141_0 ?_
              refine tz_iload_n (pc := 133) dX2_commonPart_133 rfl rfl ?_
              refine tz_iconst (pc := 134) dX2_commonPart_134 ?_
              refine tz_cV (pc := 135) (c_arg hl n _ _ _ (by omega) (by decide) (by omega)) vl_X2_48 dX2_commonPart_135 o_6 rfl rfl (Nat.le_of_ble_eq_true rfl) ⟨(show 0 + 1 ≤ 4 + 1 * (r9 + 1) by omega), (show 8 + (3 + 11) + 40 * (0) ≤ 40 * (4 + 1 * (r9 + 1)) by omega)⟩ rfl rfl (Nat.le_of_ble_eq_true rfl) (Nat.le_of_ble_eq_true rfl) (fun r9 J_135 hq9 => ?_)
              obtain ⟨z_135, rfl, hz_135, rfl, rfl⟩ := hq9
              refine tz_aload_n (pc := 138) dX2_commonPart_138 rfl rfl ?_
              refine tz_fR (pc := 139) dX2_commonPart_139 fl_X2_28 r_141_0 ?_
              refine tz_iload_n (pc := 142) dX2_commonPart_142 rfl rfl ?_
              refine tz_iconst (pc := 143) dX2_commonPart_143 ?_
              refine tz_cV (pc := 144) (c_arg hl n _ _ _ (by omega) (by decide) (by omega)) vl_X2_48 dX2_commonPart_144 o_6 rfl rfl (Nat.le_of_ble_eq_true rfl) ⟨(show 0 + 1 ≤ 4 + 1 * (r9 + 1) by omega), (show 8 + (3 + 11) + 40 * (0) ≤ 40 * (4 + 1 * (r9 + 1)) by omega)⟩ rfl rfl (Nat.le_of_ble_eq_true rfl) (Nat.le_of_ble_eq_true rfl) (fun r9 J_144 hq9 => ?_)
              obtain ⟨z_144, rfl, hz_144, rfl, rfl⟩ := hq9
              refine tz_iload_n (pc := 147) dX2_commonPart_147 rfl rfl ?_
              refine tz_iconst (pc := 148) dX2_commonPart_148 ?_
              refine tz_iadd (pc := 149) (v := lv + 1) dX2_commonPart_149 rfl ?_
              have b_150 := GX.arg q_76 C hs (i := 2) (by omega)
              have b2_150 := GX.arg q_76 C ht (i := 2) (by omega)
              have c_150 := (q_76).1
              have k_150 := (q_76).2.2.2.2 141 rfl
              have a_150 := cpl.gx C q_76 ⟨rfl, rfl, rfl⟩ (by omega) (by omega) (hn 2 (by omega) (by omega))
              rw [← b_150.2, ← b2_150.2, show 6 - lv = 7 - (lv + 1) by omega] at a_150
              refine tz_cV (pc := 150) (ih _ _ _ _ (by omega) (by omega) (by omega) m_76 L (q_76).2.1 (q_76).2.2.1 (by omega) (by omega) (by rw [k_150]; exact h0) a_150 (hL.of ((q_76).2.2.2.2 141 rfl) ((q_76).2.2.2.2 143 rfl) ((q_76).2.2.2.2 144 rfl)) (hk.gx q_76) (by omega)) vl_X2_96 dX2_commonPart_150 o_141 rfl rfl (Nat.le_of_ble_eq_true rfl) ⟨(show (4 + 1 * r9) + 1 ≤ 4 + 1 * (r9 + 1) by omega), (show 8 + (9 + 11) + 40 * ((4 + 1 * r9)) ≤ 40 * (4 + 1 * (r9 + 1)) by omega)⟩ rfl rfl (Nat.le_of_ble_eq_true rfl) (Nat.le_of_ble_eq_true rfl) (fun r9 J_150 hq9 => ?_)
              obtain ⟨z_150, rfl, hz_150, m_150, g_150, h_150, x_150⟩ := hq9
              have q_150 := GX.tr q_76 g_150
              have d_150 := q_150.1
              have e_150 := g_150.1
              have s8_150 : J_76 8 s = J 8 s := ((q_76).2.2.2.1.1 s hs.1 hs.2).2.1
              have t8_150 : J_76 8 t = J 8 t := ((q_76).2.2.2.1.1 t ht.1 ht.2).2.1
              have r_150 : ∀ S, S 164 21 = 0 → A0 J_76 S → EXO (coO L (6 - lv).toNat S (S 167 (3 * (0 + s) + 2)) (S 167 (3 * (0 + t) + 2))) z_150 J_150 := fun S h9 E9 => by have e9 := co_T (s := s) (t := t) (i := 2) E9 (q_76).2.2.1 (by omega) (by omega) (by decide) (by omega) (by omega); rw [e9.1, e9.2, show 6 - lv = 7 - (lv + 1) by omega]; exact x_150 S h9 E9
              refine tz_istore (pc := 153) (L2 := [_, _, _, _, _, _, _, _, _]) dX2_commonPart_153 (by decide) rfl ?_
              refine tz_aload_n (pc := 155) dX2_commonPart_155 rfl rfl ?_
              refine tz_fR (pc := 156) dX2_commonPart_156 fl_X2_28 r_141_0 ?_
              refine tz_aload_n (pc := 159) dX2_commonPart_159 rfl rfl ?_
              refine tz_fR (pc := 160) dX2_commonPart_160 fl_X2_28 r_141_0 ?_
              refine tz_fR (pc := 163) dX2_commonPart_163 fl_X2_42 r_6_1 ?_
              refine tz_iload_n (pc := 166) dX2_commonPart_166 rfl rfl ?_
              refine tz_aL (pc := 167) (z := s) (v := (J_150 7 s)) dX2_commonPart_167 a_7 rfl (by omega) rfl (fun r_167 => ?_)
              refine tz_iload (pc := 168) dX2_commonPart_168 rfl ?_
              refine tz_iload (pc := 170) dX2_commonPart_170 rfl ?_
              refine tz_iload (pc := 172) dX2_commonPart_172 rfl ?_
              refine tz_cV (pc := 174) (c_made hl n _ _ _ _ _ (by omega) (by omega) (by omega) (by omega) m_150 (q_150).2.1 (q_150).2.2.1 (by have := (q_150).2.1.ar (t := s) (by omega) (by have := (q_150).1; omega); omega) (ltA_of (by omega) (by omega) (by omega))) vl_X2_52 dX2_commonPart_174 o_6 rfl rfl (Nat.le_of_ble_eq_true rfl) ⟨(show 2 + 1 ≤ 4 + 1 * (r9 + 1) by omega), (show 8 + (11 + 11) + 40 * (2) ≤ 40 * (4 + 1 * (r9 + 1)) by omega)⟩ rfl rfl (Nat.le_of_ble_eq_true rfl) (Nat.le_of_ble_eq_true rfl) (fun r9 J_174 hq9 => ?_)
              obtain ⟨z_174, rfl, hz_174, p_174⟩ := hq9
              obtain ⟨m_174, g_174, h_174⟩ := GR.made p_174 (by omega)
              have q_174 : GX [] J_174 J m m_174 := GX.tr q_150 (GR.x g_174)
              exact tz_iret (pc := 177) (z := z_174) dX2_commonPart_177 rfl (Nat.le_of_ble_eq_true rfl) (Nat.le_of_ble_eq_true rfl) ⟨Nat.le_refl _, Nat.le_add_right _ _⟩ ⟨_, rfl, (by omega), ⟨m_174, q_174, h_174, fun S hG E => by rw [show (7 - lv).toNat = (6 - lv).toNat + 1 from by omega]; exact co_c hG E hm hs ht ⟨hx.1, hx.2.1⟩ (gp_end (X := []) ⟨rfl, rfl⟩ (fun S i h => coO_f h) hG E C hm ha.2.2 (C.2.1 s hs.1 hs.2).1.1.symm (Or.inl ⟨by omega, g_76, h_76, r_76⟩) (Or.inr ⟨by omega, rfl, rfl⟩) (Or.inl ⟨by omega, g_150, h_150, r_150⟩) (by rw [show J 7 s = J_150 7 s from (((q_150).2.2.2.1.1 s hs.1 hs.2).1).symm]; exact p_174))⟩⟩
            · refine tz_iconst (pc := 124) dX2_commonPart_124 ?_
              refine tz_goto (pc := 125) (tgt := 153) dX2_commonPart_125 (by decide) ?_
              refine tz_istore (pc := 153) (L2 := [_, _, _, _, _, _, _, _, _]) dX2_commonPart_153 (by decide) rfl ?_
              refine tz_aload_n (pc := 155) dX2_commonPart_155 rfl rfl ?_
              refine tz_fR (pc := 156) dX2_commonPart_156 fl_X2_28 r_141_0 ?_
              refine tz_aload_n (pc := 159) dX2_commonPart_159 rfl rfl ?_
              refine tz_fR (pc := 160) dX2_commonPart_160 fl_X2_28 r_141_0 ?_
              refine tz_fR (pc := 163) dX2_commonPart_163 fl_X2_42 r_6_1 ?_
              refine tz_iload_n (pc := 166) dX2_commonPart_166 rfl rfl ?_
              refine tz_aL (pc := 167) (z := s) (v := (J_76 7 s)) dX2_commonPart_167 a_7 rfl (by omega) rfl (fun r_167 => ?_)
              refine tz_iload (pc := 168) dX2_commonPart_168 rfl ?_
              refine tz_iload (pc := 170) dX2_commonPart_170 rfl ?_
              refine tz_iload (pc := 172) dX2_commonPart_172 rfl ?_
              refine tz_cV (pc := 174) (c_made hl n _ _ _ _ _ (by omega) (by omega) (by omega) (by omega) m_76 (q_76).2.1 (q_76).2.2.1 (by have := (q_76).2.1.ar (t := s) (by omega) (by have := (q_76).1; omega); omega) (ltA_of (by omega) (by omega) (by omega))) vl_X2_52 dX2_commonPart_174 o_6 rfl rfl (Nat.le_of_ble_eq_true rfl) ⟨(show 2 + 1 ≤ 4 + 1 * (r9 + 1) by omega), (show 8 + (11 + 11) + 40 * (2) ≤ 40 * (4 + 1 * (r9 + 1)) by omega)⟩ rfl rfl (Nat.le_of_ble_eq_true rfl) (Nat.le_of_ble_eq_true rfl) (fun r9 J_174 hq9 => ?_)
              obtain ⟨z_174, rfl, hz_174, p_174⟩ := hq9
              obtain ⟨m_174, g_174, h_174⟩ := GR.made p_174 (by omega)
              have q_174 : GX [] J_174 J m m_174 := GX.tr q_76 (GR.x g_174)
              exact tz_iret (pc := 177) (z := z_174) dX2_commonPart_177 rfl (Nat.le_of_ble_eq_true rfl) (Nat.le_of_ble_eq_true rfl) ⟨Nat.le_refl _, Nat.le_add_right _ _⟩ ⟨_, rfl, (by omega), ⟨m_174, q_174, h_174, fun S hG E => by rw [show (7 - lv).toNat = (6 - lv).toNat + 1 from by omega]; exact co_c hG E hm hs ht ⟨hx.1, hx.2.1⟩ (gp_end (X := []) ⟨rfl, rfl⟩ (fun S i h => coO_f h) hG E C hm ha.2.2 (C.2.1 s hs.1 hs.2).1.1.symm (Or.inl ⟨by omega, g_76, h_76, r_76⟩) (Or.inr ⟨by omega, rfl, rfl⟩) (Or.inr ⟨by omega, rfl, rfl⟩) (by rw [show J 7 s = J_76 7 s from (((q_76).2.2.2.1.1 s hs.1 hs.2).1).symm]; exact p_174))⟩⟩
        · refine tz_iconst (pc := 50) dX2_commonPart_50 ?_
          refine tz_goto (pc := 51) (tgt := 79) dX2_commonPart_51 (by decide) ?_
          refine tz_istore (pc := 79) (L2 := [_, _, _, _, _, _, _, _, _]) dX2_commonPart_79 (by decide) rfl ?_
          refine tz_iload (pc := 81) dX2_commonPart_81 rfl ?_
          refine tz_iconst (pc := 83) dX2_commonPart_83 ?_
          refine tz_icmp_ge (pc := 84) (tgt := 91) dX2_commonPart_84 (by decide) (by omega) (by decide) (fun h_84 => ?_) (fun h_84 => ?_)
          · refine tz_aload_n (pc := 91) dX2_commonPart_91 rfl rfl ?_
            refine tz_aload_n (pc := 92) dX2_commonPart_92 rfl rfl ?_
            refine tz_fR (pc := 93) dX2_commonPart_93 fl_X2_28 r_141_0 ?_
            refine tz_iload_n (pc := 96) dX2_commonPart_96 rfl rfl ?_
            refine tz_iconst (pc := 97) dX2_commonPart_97 ?_
            refine tz_cV (pc := 98) (c_arg hl n _ _ _ (by omega) (by decide) (by omega)) vl_X2_48 dX2_commonPart_98 o_6 rfl rfl (Nat.le_of_ble_eq_true rfl) ⟨(show 0 + 1 ≤ 4 + 1 * (r9 + 1) by omega), (show 8 + (3 + 11) + 40 * (0) ≤ 40 * (4 + 1 * (r9 + 1)) by omega)⟩ rfl rfl (Nat.le_of_ble_eq_true rfl) (Nat.le_of_ble_eq_true rfl) (fun r9 J_98 hq9 => ?_)
            obtain ⟨z_98, rfl, hz_98, rfl, rfl⟩ := hq9
            refine tz_aload_n (pc := 101) dX2_commonPart_101 rfl rfl ?_
            refine tz_fR (pc := 102) dX2_commonPart_102 fl_X2_28 r_141_0 ?_
            refine tz_iload_n (pc := 105) dX2_commonPart_105 rfl rfl ?_
            refine tz_iconst (pc := 106) dX2_commonPart_106 ?_
            refine tz_cV (pc := 107) (c_arg hl n _ _ _ (by omega) (by decide) (by omega)) vl_X2_48 dX2_commonPart_107 o_6 rfl rfl (Nat.le_of_ble_eq_true rfl) ⟨(show 0 + 1 ≤ 4 + 1 * (r9 + 1) by omega), (show 8 + (3 + 11) + 40 * (0) ≤ 40 * (4 + 1 * (r9 + 1)) by omega)⟩ rfl rfl (Nat.le_of_ble_eq_true rfl) (Nat.le_of_ble_eq_true rfl) (fun r9 J_107 hq9 => ?_)
            obtain ⟨z_107, rfl, hz_107, rfl, rfl⟩ := hq9
            refine tz_iload_n (pc := 110) dX2_commonPart_110 rfl rfl ?_
            refine tz_iconst (pc := 111) dX2_commonPart_111 ?_
            refine tz_iadd (pc := 112) (v := lv + 1) dX2_commonPart_112 rfl ?_
            have b_113 := GX.arg g0 C hs (i := 1) (by omega)
            have b2_113 := GX.arg g0 C ht (i := 1) (by omega)
            have c_113 := (g0).1
            have k_113 := (g0).2.2.2.2 141 rfl
            have a_113 := cpl.gx C g0 ⟨rfl, rfl, rfl⟩ (by omega) (by omega) (hn 1 (by omega) (by omega))
            rw [← b_113.2, ← b2_113.2, show 6 - lv = 7 - (lv + 1) by omega] at a_113
            refine tz_cV (pc := 113) (ih _ _ _ _ (by omega) (by omega) (by omega) m L (g0).2.1 (g0).2.2.1 (by omega) (by omega) (by rw [k_113]; exact h0) a_113 (hL.of ((g0).2.2.2.2 141 rfl) ((g0).2.2.2.2 143 rfl) ((g0).2.2.2.2 144 rfl)) (hk.gx g0) (by omega)) vl_X2_96 dX2_commonPart_113 o_141 rfl rfl (Nat.le_of_ble_eq_true rfl) ⟨(show (4 + 1 * r9) + 1 ≤ 4 + 1 * (r9 + 1) by omega), (show 8 + (9 + 11) + 40 * ((4 + 1 * r9)) ≤ 40 * (4 + 1 * (r9 + 1)) by omega)⟩ rfl rfl (Nat.le_of_ble_eq_true rfl) (Nat.le_of_ble_eq_true rfl) (fun r9 J_113 hq9 => ?_)
            obtain ⟨z_113, rfl, hz_113, m_113, g_113, h_113, x_113⟩ := hq9
            have q_113 := GX.tr g0 g_113
            have d_113 := q_113.1
            have e_113 := g_113.1
            have s8_113 : J 8 s = J 8 s := ((g0).2.2.2.1.1 s hs.1 hs.2).2.1
            have t8_113 : J 8 t = J 8 t := ((g0).2.2.2.1.1 t ht.1 ht.2).2.1
            have r_113 : ∀ S, S 164 21 = 0 → A0 J S → EXO (coO L (6 - lv).toNat S (S 167 (3 * (0 + s) + 1)) (S 167 (3 * (0 + t) + 1))) z_113 J_113 := fun S h9 E9 => by have e9 := co_T (s := s) (t := t) (i := 1) E9 (g0).2.2.1 (by omega) (by omega) (by decide) (by omega) (by omega); rw [e9.1, e9.2, show 6 - lv = 7 - (lv + 1) by omega]; exact x_113 S h9 E9
            refine tz_istore (pc := 116) (L2 := [_, _, _, _, _, _, _, _, _]) dX2_commonPart_116 (by decide) rfl ?_
            refine tz_iload (pc := 118) dX2_commonPart_118 rfl ?_
            refine tz_iconst (pc := 120) dX2_commonPart_120 ?_
            refine tz_icmp_ge (pc := 121) (tgt := 128) dX2_commonPart_121 (by decide) (by omega) (by decide) (fun h_121 => ?_) (fun h_121 => ?_)
            · refine tz_aload_n (pc := 128) dX2_commonPart_128 rfl rfl ?_
              refine tz_aload_n (pc := 129) dX2_commonPart_129 rfl rfl ?_
              refine tz_fR (pc := 130) dX2_commonPart_130 fl_X2_28 r_141_0 ?_
              refine tz_iload_n (pc := 133) dX2_commonPart_133 rfl rfl ?_
              refine tz_iconst (pc := 134) dX2_commonPart_134 ?_
              refine tz_cV (pc := 135) (c_arg hl n _ _ _ (by omega) (by decide) (by omega)) vl_X2_48 dX2_commonPart_135 o_6 rfl rfl (Nat.le_of_ble_eq_true rfl) ⟨(show 0 + 1 ≤ 4 + 1 * (r9 + 1) by omega), (show 8 + (3 + 11) + 40 * (0) ≤ 40 * (4 + 1 * (r9 + 1)) by omega)⟩ rfl rfl (Nat.le_of_ble_eq_true rfl) (Nat.le_of_ble_eq_true rfl) (fun r9 J_135 hq9 => ?_)
              obtain ⟨z_135, rfl, hz_135, rfl, rfl⟩ := hq9
              refine tz_aload_n (pc := 138) dX2_commonPart_138 rfl rfl ?_
              refine tz_fR (pc := 139) dX2_commonPart_139 fl_X2_28 r_141_0 ?_
              refine tz_iload_n (pc := 142) dX2_commonPart_142 rfl rfl ?_
              refine tz_iconst (pc := 143) dX2_commonPart_143 ?_
              refine tz_cV (pc := 144) (c_arg hl n _ _ _ (by omega) (by decide) (by omega)) vl_X2_48 dX2_commonPart_144 o_6 rfl rfl (Nat.le_of_ble_eq_true rfl) ⟨(show 0 + 1 ≤ 4 + 1 * (r9 + 1) by omega), (show 8 + (3 + 11) + 40 * (0) ≤ 40 * (4 + 1 * (r9 + 1)) by omega)⟩ rfl rfl (Nat.le_of_ble_eq_true rfl) (Nat.le_of_ble_eq_true rfl) (fun r9 J_144 hq9 => ?_)
              obtain ⟨z_144, rfl, hz_144, rfl, rfl⟩ := hq9
              refine tz_iload_n (pc := 147) dX2_commonPart_147 rfl rfl ?_
              refine tz_iconst (pc := 148) dX2_commonPart_148 ?_
              refine tz_iadd (pc := 149) (v := lv + 1) dX2_commonPart_149 rfl ?_
              have b_150 := GX.arg q_113 C hs (i := 2) (by omega)
              have b2_150 := GX.arg q_113 C ht (i := 2) (by omega)
              have c_150 := (q_113).1
              have k_150 := (q_113).2.2.2.2 141 rfl
              have a_150 := cpl.gx C q_113 ⟨rfl, rfl, rfl⟩ (by omega) (by omega) (hn 2 (by omega) (by omega))
              rw [← b_150.2, ← b2_150.2, show 6 - lv = 7 - (lv + 1) by omega] at a_150
              refine tz_cV (pc := 150) (ih _ _ _ _ (by omega) (by omega) (by omega) m_113 L (q_113).2.1 (q_113).2.2.1 (by omega) (by omega) (by rw [k_150]; exact h0) a_150 (hL.of ((q_113).2.2.2.2 141 rfl) ((q_113).2.2.2.2 143 rfl) ((q_113).2.2.2.2 144 rfl)) (hk.gx q_113) (by omega)) vl_X2_96 dX2_commonPart_150 o_141 rfl rfl (Nat.le_of_ble_eq_true rfl) ⟨(show (4 + 1 * r9) + 1 ≤ 4 + 1 * (r9 + 1) by omega), (show 8 + (9 + 11) + 40 * ((4 + 1 * r9)) ≤ 40 * (4 + 1 * (r9 + 1)) by omega)⟩ rfl rfl (Nat.le_of_ble_eq_true rfl) (Nat.le_of_ble_eq_true rfl) (fun r9 J_150 hq9 => ?_)
              obtain ⟨z_150, rfl, hz_150, m_150, g_150, h_150, x_150⟩ := hq9
              have q_150 := GX.tr q_113 g_150
              have d_150 := q_150.1
              have e_150 := g_150.1
              have s8_150 : J_113 8 s = J 8 s := ((q_113).2.2.2.1.1 s hs.1 hs.2).2.1
              have t8_150 : J_113 8 t = J 8 t := ((q_113).2.2.2.1.1 t ht.1 ht.2).2.1
              have r_150 : ∀ S, S 164 21 = 0 → A0 J_113 S → EXO (coO L (6 - lv).toNat S (S 167 (3 * (0 + s) + 2)) (S 167 (3 * (0 + t) + 2))) z_150 J_150 := fun S h9 E9 => by have e9 := co_T (s := s) (t := t) (i := 2) E9 (q_113).2.2.1 (by omega) (by omega) (by decide) (by omega) (by omega); rw [e9.1, e9.2, show 6 - lv = 7 - (lv + 1) by omega]; exact x_150 S h9 E9
              refine tz_istore (pc := 153) (L2 := [_, _, _, _, _, _, _, _, _]) dX2_commonPart_153 (by decide) rfl ?_
              refine tz_aload_n (pc := 155) dX2_commonPart_155 rfl rfl ?_
              refine tz_fR (pc := 156) dX2_commonPart_156 fl_X2_28 r_141_0 ?_
              refine tz_aload_n (pc := 159) dX2_commonPart_159 rfl rfl ?_
              refine tz_fR (pc := 160) dX2_commonPart_160 fl_X2_28 r_141_0 ?_
              refine tz_fR (pc := 163) dX2_commonPart_163 fl_X2_42 r_6_1 ?_
              refine tz_iload_n (pc := 166) dX2_commonPart_166 rfl rfl ?_
              refine tz_aL (pc := 167) (z := s) (v := (J_150 7 s)) dX2_commonPart_167 a_7 rfl (by omega) rfl (fun r_167 => ?_)
              refine tz_iload (pc := 168) dX2_commonPart_168 rfl ?_
              refine tz_iload (pc := 170) dX2_commonPart_170 rfl ?_
              refine tz_iload (pc := 172) dX2_commonPart_172 rfl ?_
              refine tz_cV (pc := 174) (c_made hl n _ _ _ _ _ (by omega) (by omega) (by omega) (by omega) m_150 (q_150).2.1 (q_150).2.2.1 (by have := (q_150).2.1.ar (t := s) (by omega) (by have := (q_150).1; omega); omega) (ltA_of (by omega) (by omega) (by omega))) vl_X2_52 dX2_commonPart_174 o_6 rfl rfl (Nat.le_of_ble_eq_true rfl) ⟨(show 2 + 1 ≤ 4 + 1 * (r9 + 1) by omega), (show 8 + (11 + 11) + 40 * (2) ≤ 40 * (4 + 1 * (r9 + 1)) by omega)⟩ rfl rfl (Nat.le_of_ble_eq_true rfl) (Nat.le_of_ble_eq_true rfl) (fun r9 J_174 hq9 => ?_)
              obtain ⟨z_174, rfl, hz_174, p_174⟩ := hq9
              obtain ⟨m_174, g_174, h_174⟩ := GR.made p_174 (by omega)
              have q_174 : GX [] J_174 J m m_174 := GX.tr q_150 (GR.x g_174)
              exact tz_iret (pc := 177) (z := z_174) dX2_commonPart_177 rfl (Nat.le_of_ble_eq_true rfl) (Nat.le_of_ble_eq_true rfl) ⟨Nat.le_refl _, Nat.le_add_right _ _⟩ ⟨_, rfl, (by omega), ⟨m_174, q_174, h_174, fun S hG E => by rw [show (7 - lv).toNat = (6 - lv).toNat + 1 from by omega]; exact co_c hG E hm hs ht ⟨hx.1, hx.2.1⟩ (gp_end (X := []) ⟨rfl, rfl⟩ (fun S i h => coO_f h) hG E C hm ha.2.2 (C.2.1 s hs.1 hs.2).1.1.symm (Or.inr ⟨by omega, rfl, rfl⟩) (Or.inl ⟨by omega, g_113, h_113, r_113⟩) (Or.inl ⟨by omega, g_150, h_150, r_150⟩) (by rw [show J 7 s = J_150 7 s from (((q_150).2.2.2.1.1 s hs.1 hs.2).1).symm]; exact p_174))⟩⟩
            · refine tz_iconst (pc := 124) dX2_commonPart_124 ?_
              refine tz_goto (pc := 125) (tgt := 153) dX2_commonPart_125 (by decide) ?_
              refine tz_istore (pc := 153) (L2 := [_, _, _, _, _, _, _, _, _]) dX2_commonPart_153 (by decide) rfl ?_
              refine tz_aload_n (pc := 155) dX2_commonPart_155 rfl rfl ?_
              refine tz_fR (pc := 156) dX2_commonPart_156 fl_X2_28 r_141_0 ?_
              refine tz_aload_n (pc := 159) dX2_commonPart_159 rfl rfl ?_
              refine tz_fR (pc := 160) dX2_commonPart_160 fl_X2_28 r_141_0 ?_
              refine tz_fR (pc := 163) dX2_commonPart_163 fl_X2_42 r_6_1 ?_
              refine tz_iload_n (pc := 166) dX2_commonPart_166 rfl rfl ?_
              refine tz_aL (pc := 167) (z := s) (v := (J_113 7 s)) dX2_commonPart_167 a_7 rfl (by omega) rfl (fun r_167 => ?_)
              refine tz_iload (pc := 168) dX2_commonPart_168 rfl ?_
              refine tz_iload (pc := 170) dX2_commonPart_170 rfl ?_
              refine tz_iload (pc := 172) dX2_commonPart_172 rfl ?_
              refine tz_cV (pc := 174) (c_made hl n _ _ _ _ _ (by omega) (by omega) (by omega) (by omega) m_113 (q_113).2.1 (q_113).2.2.1 (by have := (q_113).2.1.ar (t := s) (by omega) (by have := (q_113).1; omega); omega) (ltA_of (by omega) (by omega) (by omega))) vl_X2_52 dX2_commonPart_174 o_6 rfl rfl (Nat.le_of_ble_eq_true rfl) ⟨(show 2 + 1 ≤ 4 + 1 * (r9 + 1) by omega), (show 8 + (11 + 11) + 40 * (2) ≤ 40 * (4 + 1 * (r9 + 1)) by omega)⟩ rfl rfl (Nat.le_of_ble_eq_true rfl) (Nat.le_of_ble_eq_true rfl) (fun r9 J_174 hq9 => ?_)
              obtain ⟨z_174, rfl, hz_174, p_174⟩ := hq9
              obtain ⟨m_174, g_174, h_174⟩ := GR.made p_174 (by omega)
              have q_174 : GX [] J_174 J m m_174 := GX.tr q_113 (GR.x g_174)
              exact tz_iret (pc := 177) (z := z_174) dX2_commonPart_177 rfl (Nat.le_of_ble_eq_true rfl) (Nat.le_of_ble_eq_true rfl) ⟨Nat.le_refl _, Nat.le_add_right _ _⟩ ⟨_, rfl, (by omega), ⟨m_174, q_174, h_174, fun S hG E => by rw [show (7 - lv).toNat = (6 - lv).toNat + 1 from by omega]; exact co_c hG E hm hs ht ⟨hx.1, hx.2.1⟩ (gp_end (X := []) ⟨rfl, rfl⟩ (fun S i h => coO_f h) hG E C hm ha.2.2 (C.2.1 s hs.1 hs.2).1.1.symm (Or.inr ⟨by omega, rfl, rfl⟩) (Or.inl ⟨by omega, g_113, h_113, r_113⟩) (Or.inr ⟨by omega, rfl, rfl⟩) (by rw [show J 7 s = J_113 7 s from (((q_113).2.2.2.1.1 s hs.1 hs.2).1).symm]; exact p_174))⟩⟩
          · refine tz_iconst (pc := 87) dX2_commonPart_87 ?_
            refine tz_goto (pc := 88) (tgt := 116) dX2_commonPart_88 (by decide) ?_
            refine tz_istore (pc := 116) (L2 := [_, _, _, _, _, _, _, _, _]) dX2_commonPart_116 (by decide) rfl ?_
            refine tz_iload (pc := 118) dX2_commonPart_118 rfl ?_
            refine tz_iconst (pc := 120) dX2_commonPart_120 ?_
            refine tz_icmp_ge (pc := 121) (tgt := 128) dX2_commonPart_121 (by decide) (by omega) (by decide) (fun h_121 => ?_) (fun h_121 => ?_)
            · refine tz_aload_n (pc := 128) dX2_commonPart_128 rfl rfl ?_
              refine tz_aload_n (pc := 129) dX2_commonPart_129 rfl rfl ?_
              refine tz_fR (pc := 130) dX2_commonPart_130 fl_X2_28 r_141_0 ?_
              refine tz_iload_n (pc := 133) dX2_commonPart_133 rfl rfl ?_
              refine tz_iconst (pc := 134) dX2_commonPart_134 ?_
              refine tz_cV (pc := 135) (c_arg hl n _ _ _ (by omega) (by decide) (by omega)) vl_X2_48 dX2_commonPart_135 o_6 rfl rfl (Nat.le_of_ble_eq_true rfl) ⟨(show 0 + 1 ≤ 4 + 1 * (r9 + 1) by omega), (show 8 + (3 + 11) + 40 * (0) ≤ 40 * (4 + 1 * (r9 + 1)) by omega)⟩ rfl rfl (Nat.le_of_ble_eq_true rfl) (Nat.le_of_ble_eq_true rfl) (fun r9 J_135 hq9 => ?_)
              obtain ⟨z_135, rfl, hz_135, rfl, rfl⟩ := hq9
              refine tz_aload_n (pc := 138) dX2_commonPart_138 rfl rfl ?_
              refine tz_fR (pc := 139) dX2_commonPart_139 fl_X2_28 r_141_0 ?_
              refine tz_iload_n (pc := 142) dX2_commonPart_142 rfl rfl ?_
              refine tz_iconst (pc := 143) dX2_commonPart_143 ?_
              refine tz_cV (pc := 144) (c_arg hl n _ _ _ (by omega) (by decide) (by omega)) vl_X2_48 dX2_commonPart_144 o_6 rfl rfl (Nat.le_of_ble_eq_true rfl) ⟨(show 0 + 1 ≤ 4 + 1 * (r9 + 1) by omega), (show 8 + (3 + 11) + 40 * (0) ≤ 40 * (4 + 1 * (r9 + 1)) by omega)⟩ rfl rfl (Nat.le_of_ble_eq_true rfl) (Nat.le_of_ble_eq_true rfl) (fun r9 J_144 hq9 => ?_)
              obtain ⟨z_144, rfl, hz_144, rfl, rfl⟩ := hq9
              refine tz_iload_n (pc := 147) dX2_commonPart_147 rfl rfl ?_
              refine tz_iconst (pc := 148) dX2_commonPart_148 ?_
              refine tz_iadd (pc := 149) (v := lv + 1) dX2_commonPart_149 rfl ?_
              have b_150 := GX.arg g0 C hs (i := 2) (by omega)
              have b2_150 := GX.arg g0 C ht (i := 2) (by omega)
              have c_150 := (g0).1
              have k_150 := (g0).2.2.2.2 141 rfl
              have a_150 := cpl.gx C g0 ⟨rfl, rfl, rfl⟩ (by omega) (by omega) (hn 2 (by omega) (by omega))
              rw [← b_150.2, ← b2_150.2, show 6 - lv = 7 - (lv + 1) by omega] at a_150
              refine tz_cV (pc := 150) (ih _ _ _ _ (by omega) (by omega) (by omega) m L (g0).2.1 (g0).2.2.1 (by omega) (by omega) (by rw [k_150]; exact h0) a_150 (hL.of ((g0).2.2.2.2 141 rfl) ((g0).2.2.2.2 143 rfl) ((g0).2.2.2.2 144 rfl)) (hk.gx g0) (by omega)) vl_X2_96 dX2_commonPart_150 o_141 rfl rfl (Nat.le_of_ble_eq_true rfl) ⟨(show (4 + 1 * r9) + 1 ≤ 4 + 1 * (r9 + 1) by omega), (show 8 + (9 + 11) + 40 * ((4 + 1 * r9)) ≤ 40 * (4 + 1 * (r9 + 1)) by omega)⟩ rfl rfl (Nat.le_of_ble_eq_true rfl) (Nat.le_of_ble_eq_true rfl) (fun r9 J_150 hq9 => ?_)
              obtain ⟨z_150, rfl, hz_150, m_150, g_150, h_150, x_150⟩ := hq9
              have q_150 := GX.tr g0 g_150
              have d_150 := q_150.1
              have e_150 := g_150.1
              have s8_150 : J 8 s = J 8 s := ((g0).2.2.2.1.1 s hs.1 hs.2).2.1
              have t8_150 : J 8 t = J 8 t := ((g0).2.2.2.1.1 t ht.1 ht.2).2.1
              have r_150 : ∀ S, S 164 21 = 0 → A0 J S → EXO (coO L (6 - lv).toNat S (S 167 (3 * (0 + s) + 2)) (S 167 (3 * (0 + t) + 2))) z_150 J_150 := fun S h9 E9 => by have e9 := co_T (s := s) (t := t) (i := 2) E9 (g0).2.2.1 (by omega) (by omega) (by decide) (by omega) (by omega); rw [e9.1, e9.2, show 6 - lv = 7 - (lv + 1) by omega]; exact x_150 S h9 E9
              refine tz_istore (pc := 153) (L2 := [_, _, _, _, _, _, _, _, _]) dX2_commonPart_153 (by decide) rfl ?_
              refine tz_aload_n (pc := 155) dX2_commonPart_155 rfl rfl ?_
              refine tz_fR (pc := 156) dX2_commonPart_156 fl_X2_28 r_141_0 ?_
              refine tz_aload_n (pc := 159) dX2_commonPart_159 rfl rfl ?_
              refine tz_fR (pc := 160) dX2_commonPart_160 fl_X2_28 r_141_0 ?_
              refine tz_fR (pc := 163) dX2_commonPart_163 fl_X2_42 r_6_1 ?_
              refine tz_iload_n (pc := 166) dX2_commonPart_166 rfl rfl ?_
              refine tz_aL (pc := 167) (z := s) (v := (J_150 7 s)) dX2_commonPart_167 a_7 rfl (by omega) rfl (fun r_167 => ?_)
              refine tz_iload (pc := 168) dX2_commonPart_168 rfl ?_
              refine tz_iload (pc := 170) dX2_commonPart_170 rfl ?_
              refine tz_iload (pc := 172) dX2_commonPart_172 rfl ?_
              refine tz_cV (pc := 174) (c_made hl n _ _ _ _ _ (by omega) (by omega) (by omega) (by omega) m_150 (q_150).2.1 (q_150).2.2.1 (by have := (q_150).2.1.ar (t := s) (by omega) (by have := (q_150).1; omega); omega) (ltA_of (by omega) (by omega) (by omega))) vl_X2_52 dX2_commonPart_174 o_6 rfl rfl (Nat.le_of_ble_eq_true rfl) ⟨(show 2 + 1 ≤ 4 + 1 * (r9 + 1) by omega), (show 8 + (11 + 11) + 40 * (2) ≤ 40 * (4 + 1 * (r9 + 1)) by omega)⟩ rfl rfl (Nat.le_of_ble_eq_true rfl) (Nat.le_of_ble_eq_true rfl) (fun r9 J_174 hq9 => ?_)
              obtain ⟨z_174, rfl, hz_174, p_174⟩ := hq9
              obtain ⟨m_174, g_174, h_174⟩ := GR.made p_174 (by omega)
              have q_174 : GX [] J_174 J m m_174 := GX.tr q_150 (GR.x g_174)
              exact tz_iret (pc := 177) (z := z_174) dX2_commonPart_177 rfl (Nat.le_of_ble_eq_true rfl) (Nat.le_of_ble_eq_true rfl) ⟨Nat.le_refl _, Nat.le_add_right _ _⟩ ⟨_, rfl, (by omega), ⟨m_174, q_174, h_174, fun S hG E => by rw [show (7 - lv).toNat = (6 - lv).toNat + 1 from by omega]; exact co_c hG E hm hs ht ⟨hx.1, hx.2.1⟩ (gp_end (X := []) ⟨rfl, rfl⟩ (fun S i h => coO_f h) hG E C hm ha.2.2 (C.2.1 s hs.1 hs.2).1.1.symm (Or.inr ⟨by omega, rfl, rfl⟩) (Or.inr ⟨by omega, rfl, rfl⟩) (Or.inl ⟨by omega, g_150, h_150, r_150⟩) (by rw [show J 7 s = J_150 7 s from (((q_150).2.2.2.1.1 s hs.1 hs.2).1).symm]; exact p_174))⟩⟩
            · refine tz_iconst (pc := 124) dX2_commonPart_124 ?_
              refine tz_goto (pc := 125) (tgt := 153) dX2_commonPart_125 (by decide) ?_
              refine tz_istore (pc := 153) (L2 := [_, _, _, _, _, _, _, _, _]) dX2_commonPart_153 (by decide) rfl ?_
              refine tz_aload_n (pc := 155) dX2_commonPart_155 rfl rfl ?_
              refine tz_fR (pc := 156) dX2_commonPart_156 fl_X2_28 r_141_0 ?_
              refine tz_aload_n (pc := 159) dX2_commonPart_159 rfl rfl ?_
              refine tz_fR (pc := 160) dX2_commonPart_160 fl_X2_28 r_141_0 ?_
              refine tz_fR (pc := 163) dX2_commonPart_163 fl_X2_42 r_6_1 ?_
              refine tz_iload_n (pc := 166) dX2_commonPart_166 rfl rfl ?_
              refine tz_aL (pc := 167) (z := s) (v := (J 7 s)) dX2_commonPart_167 a_7 rfl (by omega) rfl (fun r_167 => ?_)
              refine tz_iload (pc := 168) dX2_commonPart_168 rfl ?_
              refine tz_iload (pc := 170) dX2_commonPart_170 rfl ?_
              refine tz_iload (pc := 172) dX2_commonPart_172 rfl ?_
              refine tz_cV (pc := 174) (c_made hl n _ _ _ _ _ (by omega) (by omega) (by omega) (by omega) m (g0).2.1 (g0).2.2.1 (by have := (g0).2.1.ar (t := s) (by omega) (by have := (g0).1; omega); omega) (ltA_of (by omega) (by omega) (by omega))) vl_X2_52 dX2_commonPart_174 o_6 rfl rfl (Nat.le_of_ble_eq_true rfl) ⟨(show 2 + 1 ≤ 4 + 1 * (r9 + 1) by omega), (show 8 + (11 + 11) + 40 * (2) ≤ 40 * (4 + 1 * (r9 + 1)) by omega)⟩ rfl rfl (Nat.le_of_ble_eq_true rfl) (Nat.le_of_ble_eq_true rfl) (fun r9 J_174 hq9 => ?_)
              obtain ⟨z_174, rfl, hz_174, p_174⟩ := hq9
              obtain ⟨m_174, g_174, h_174⟩ := GR.made p_174 (by omega)
              have q_174 : GX [] J_174 J m m_174 := GX.tr g0 (GR.x g_174)
              exact tz_iret (pc := 177) (z := z_174) dX2_commonPart_177 rfl (Nat.le_of_ble_eq_true rfl) (Nat.le_of_ble_eq_true rfl) ⟨Nat.le_refl _, Nat.le_add_right _ _⟩ ⟨_, rfl, (by omega), ⟨m_174, q_174, h_174, fun S hG E => by rw [show (7 - lv).toNat = (6 - lv).toNat + 1 from by omega]; exact co_c hG E hm hs ht ⟨hx.1, hx.2.1⟩ (gp_end (X := []) ⟨rfl, rfl⟩ (fun S i h => coO_f h) hG E C hm ha.2.2 (C.2.1 s hs.1 hs.2).1.1.symm (Or.inr ⟨by omega, rfl, rfl⟩) (Or.inr ⟨by omega, rfl, rfl⟩) (Or.inr ⟨by omega, rfl, rfl⟩) (by rw [show J 7 s = J 7 s from (((g0).2.2.2.1.1 s hs.1 hs.2).1).symm]; exact p_174))⟩⟩
      · refine tz_aload_n (pc := 23) dX2_commonPart_23 rfl rfl ?_
        refine tz_fR (pc := 24) dX2_commonPart_24 fl_X2_28 r_141_0 ?_
        refine tz_iload (pc := 27) dX2_commonPart_27 rfl ?_
        refine tz_cV (pc := 29) (c_varTerm hl n _ _ (by omega) m C hm (by omega)) vl_X2_99 dX2_commonPart_29 o_6 rfl rfl (Nat.le_of_ble_eq_true rfl) ⟨(show 3 + 1 ≤ 4 + 1 * (r9 + 1) by omega), (show 8 + (2 + 11) + 40 * (3) ≤ 40 * (4 + 1 * (r9 + 1)) by omega)⟩ rfl rfl (Nat.le_of_ble_eq_true rfl) (Nat.le_of_ble_eq_true rfl) (fun r9 J_29 hq9 => ?_)
        obtain ⟨z_29, rfl, hz_29, p_29⟩ := hq9
        obtain ⟨m_29, g_29, h_29⟩ := GR.made p_29 (by omega)
        have q_29 : GX [] J_29 J m m_29 := GR.x g_29
        exact tz_iret (pc := 32) (z := z_29) dX2_commonPart_32 rfl (Nat.le_of_ble_eq_true rfl) (Nat.le_of_ble_eq_true rfl) ⟨Nat.le_refl _, Nat.le_add_right _ _⟩ ⟨_, rfl, (by omega), ⟨m_29, q_29, h_29, fun S hG E => by rw [show (7 - lv).toNat = (6 - lv).toNat + 1 from by omega]; exact co_v hG E C hm hs ht hL h0.2 hk (p_9.resolve_right (fun q => by omega)) p_29⟩⟩
    · refine tz_bipush (pc := 6) dX2_commonPart_6 (by decide) ?_
      exact tz_iret (pc := 8) (z := (-3)) dX2_commonPart_8 rfl (Nat.le_of_ble_eq_true rfl) (Nat.le_of_ble_eq_true rfl) ⟨Nat.le_refl _, Nat.le_add_right _ _⟩ ⟨_, rfl, (by decide), ⟨m, GX.rf C hm, Or.inl rfl, fun S hG E => by rw [show (7 - lv).toNat = 0 from by omega]; exact Or.inl ⟨rfl, by show ¬ (1 : Int) = 0; decide⟩⟩⟩

set_option maxHeartbeats 4000000 in
set_option maxRecDepth 100000 in
theorem x_commonOf {l : Launch} {G : tb_G} (hl : l.stackTraces = false) (n : Nat) (J : zJ) (s : Int) (t : Int) (hr_s : -2147483648 ≤ s ∧ s < 2147483648) (hr_t : -2147483648 ≤ t ∧ t < 2147483648) (m : Int) (L : List (Int × Int)) (C : CT J m) (hm : J 6 12 = m) (hs : 0 ≤ s ∧ s < m) (ht : 0 ≤ t ∧ t < m) (h0 : 0 ≤ J 141 4 ∧ J 141 4 ≤ 8) (hc : cpl J 6 s t) (hL : cC J L) (hk : cokJ J m L) : tz_Ok l G M_X2_commonOf 12 0 0 [.ref 141, zi s, zi t] n J (zqi (fun z J' => ∃ m', GX [] J' J m m' ∧ (z = -3 ∨ (0 ≤ z ∧ z < m')) ∧ ∀ S, S 164 21 = 0 → A0 J S → EXO (coO L 6 S s t) z J')) zN := by
  refine tz_Ok.of hl (by decide +kernel) rfl (tb_c1 rfl) (Nat.le_of_ble_eq_true rfl) ?_
  show tz_At l G M_X2_commonOf (tb_rm 12 0 0) none (tb_ZM G 0 0 (zQ n 0 (zqi (fun z J' => ∃ m', GX [] J' J m m' ∧ (z = -3 ∨ (0 ≤ z ∧ z < m')) ∧ ∀ S, S 164 21 = 0 → A0 J S → EXO (coO L 6 S s t) z J'))) (zX n 0 zN)) 0 0 n J 0 [some (.ref 141), some (zi s), some (zi t)] []
  refine tz_aload_n (pc := 0) dX2_commonOf_0 rfl rfl ?_
  refine tz_iload_n (pc := 1) dX2_commonOf_1 rfl rfl ?_
  refine tz_iload_n (pc := 2) dX2_commonOf_2 rfl rfl ?_
  refine tz_iconst (pc := 3) dX2_commonOf_3 ?_
  refine tz_cV (pc := 4) (x_commonP hl n 7 _ _ _ 1 (by omega) (by omega) (by omega) m L C hm hs ht h0 hc hL hk (by decide)) vl_X2_96 dX2_commonOf_4 o_141 rfl rfl (Nat.le_of_ble_eq_true rfl) ⟨(Nat.le_of_ble_eq_true rfl), (Nat.le_of_ble_eq_true rfl)⟩ rfl rfl (Nat.le_of_ble_eq_true rfl) (Nat.le_of_ble_eq_true rfl) (fun r9 J_4 hq9 => ?_)
  obtain ⟨z_4, rfl, hz_4, m1, g1, h1, x1⟩ := hq9
  exact tz_iret (pc := 7) (z := z_4) dX2_commonOf_7 rfl (Nat.le_of_ble_eq_true rfl) (Nat.le_of_ble_eq_true rfl) ⟨Nat.le_refl _, Nat.le_add_right _ _⟩ ⟨_, rfl, (by omega), ⟨m1, g1, h1, x1⟩⟩

theorem A0.tcl {J S : zJ} {m : Int} (E : A0 J S) (C : CT J m) (hm : J 6 12 = m) : tcl S m := fun t i ht a b => by
  have hd := C.ar ht.1 ht.2
  rw [co_h E hm ht, E.ar hd.2.2.2, ← (C.2.1 t ht.1 ht.2).1.1] at b
  have := (E.2.2.2 t i ht.1 (by have := E.2.1; omega) a b).symm
  have c := C.arg ht.1 ht.2 a b
  rw [this]
  exact ⟨by omega, c.1.1, by omega⟩
theorem A0.cok {J S : zJ} {m : Int} {L : List (Int × Int)} (E : A0 J S) (hm : J 6 12 = m) (h : cok S m L) : cokJ J m L := fun p hp => by
  obtain ⟨a, b, c⟩ := h p hp
  rw [co_h E hm a, co_h E hm b] at c
  exact ⟨a, b, c⟩
set_option maxHeartbeats 4000000 in
set_option maxRecDepth 100000 in
theorem v_common {l : Launch} {G : tb_G} (hl : l.stackTraces = false) (n : Nat) (J : zJ) (s : Int) (t : Int) (hr_s : -2147483648 ≤ s ∧ s < 2147483648) (hr_t : -2147483648 ≤ t ∧ t < 2147483648) (m : Int) (S : zJ) (pn : Int) (RR : Int → Int → Int) (hI : CI J m) (h9 : J 145 10 < 1000000000) (cc : CAL J S pn RR) (h21 : S 164 21 = 0) : tz_Ok l G M_X11_common 13 0 0 [.ref 0, zi s, zi t] n J (zqi (fun z J' => CQ J' J ∧ ((((0 ≤ s ∧ s < J 6 12) ∧ (0 ≤ t ∧ t < J 6 12)) ∧ (cpO 6 S [] s t).2 = true ∧ ED S pn RR (coO (cpO 6 S [] s t).1 6 S s t) J' z) ∨ (((0 ≤ s ∧ s < J 6 12) ∧ (0 ≤ t ∧ t < J 6 12)) ∧ (cpO 6 S [] s t).2 = false ∧ z = -2 ∧ CAL J' S pn RR) ∨ (¬ ((0 ≤ s ∧ s < J 6 12) ∧ (0 ≤ t ∧ t < J 6 12)) ∧ z = -1 ∧ CAL J' S pn RR)))) zN := by
  refine tz_Ok.of hl (by decide +kernel) rfl (tb_c1 rfl) (Nat.le_of_ble_eq_true rfl) ?_
  show tz_At l G M_X11_common (tb_rm 13 0 0) none (tb_ZM G 0 0 (zQ n 0 (zqi (fun z J' => CQ J' J ∧ ((((0 ≤ s ∧ s < J 6 12) ∧ (0 ≤ t ∧ t < J 6 12)) ∧ (cpO 6 S [] s t).2 = true ∧ ED S pn RR (coO (cpO 6 S [] s t).1 6 S s t) J' z) ∨ (((0 ≤ s ∧ s < J 6 12) ∧ (0 ≤ t ∧ t < J 6 12)) ∧ (cpO 6 S [] s t).2 = false ∧ z = -2 ∧ CAL J' S pn RR) ∨ (¬ ((0 ≤ s ∧ s < J 6 12) ∧ (0 ≤ t ∧ t < J 6 12)) ∧ z = -1 ∧ CAL J' S pn RR))))) (zX n 0 zN)) 0 0 n J 0 [some (.ref 0), some (zi s), some (zi t)] []
  have hC := hI.1.1.1
  have hm := hI.1.1.2.1
  have hL := hI.1.1.2.2
  have hb := hC.told
  have wb := cc.2.1.b hL
  refine tz_aload_n (pc := 0) dX11_common_0 rfl rfl ?_
  refine tz_fR (pc := 1) dX11_common_1 fl_X11_29 r_0_1 ?_
  refine tz_fR (pc := 4) dX11_common_4 fl_X11_49 r_5_0 ?_
  refine tz_iload_n (pc := 7) dX11_common_7 rfl rfl ?_
  refine tz_cV (pc := 8) (c_has hl n _ _ (by omega)) vl_X11_304 dX11_common_8 o_6 rfl rfl (Nat.le_of_ble_eq_true rfl) ⟨(Nat.le_of_ble_eq_true rfl), (Nat.le_of_ble_eq_true rfl)⟩ rfl rfl (Nat.le_of_ble_eq_true rfl) (Nat.le_of_ble_eq_true rfl) (fun r9 J_8 hq9 => ?_)
  obtain ⟨z_8, rfl, hz_8, rfl, rfl⟩ := hq9
  by_cases hw_11 : 0 ≤ s ∧ s < J 6 12
  · rw [show (if 0 ≤ s ∧ s < J 6 12 then 1 else 0 : Int) = 1 from if_pos hw_11]
    refine tz_if_eqF (pc := 11) (tgt := 28) (by decide) dX11_common_11 (by decide) (by decide) ?_
    refine tz_aload_n (pc := 14) dX11_common_14 rfl rfl ?_
    refine tz_fR (pc := 15) dX11_common_15 fl_X11_29 r_0_1 ?_
    refine tz_fR (pc := 18) dX11_common_18 fl_X11_49 r_5_0 ?_
    refine tz_iload_n (pc := 21) dX11_common_21 rfl rfl ?_
    refine tz_cV (pc := 22) (c_has hl n _ _ (by omega)) vl_X11_304 dX11_common_22 o_6 rfl rfl (Nat.le_of_ble_eq_true rfl) ⟨(Nat.le_of_ble_eq_true rfl), (Nat.le_of_ble_eq_true rfl)⟩ rfl rfl (Nat.le_of_ble_eq_true rfl) (Nat.le_of_ble_eq_true rfl) (fun r9 J_22 hq9 => ?_)
    obtain ⟨z_22, rfl, hz_22, rfl, rfl⟩ := hq9
    by_cases hw_25 : 0 ≤ t ∧ t < J 6 12
    · rw [show (if 0 ≤ t ∧ t < J 6 12 then 1 else 0 : Int) = 1 from if_pos hw_25]
      refine tz_if_neT (pc := 25) (tgt := 35) (by decide) dX11_common_25 (by decide) (by decide) ?_
      refine tz_aload_n (pc := 35) dX11_common_35 rfl rfl ?_
      refine tz_fR (pc := 36) dX11_common_36 fl_X11_62 r_0_7 ?_
      refine tz_iload_n (pc := 39) dX11_common_39 rfl rfl ?_
      refine tz_iload_n (pc := 40) dX11_common_40 rfl rfl ?_
      refine tz_cV (pc := 41) (x_haveCommon hl n _ _ _ (by omega) (by omega) m hC hm (by omega) (by omega)) vl_X11_338 dX11_common_41 o_141 rfl rfl (Nat.le_of_ble_eq_true rfl) ⟨(Nat.le_of_ble_eq_true rfl), (Nat.le_of_ble_eq_true rfl)⟩ rfl rfl (Nat.le_of_ble_eq_true rfl) (Nat.le_of_ble_eq_true rfl) (fun r9 J1 hq9 => ?_)
      obtain ⟨zc, rfl, hz_41, ⟨q1, q2, q3, q4⟩, q5⟩ := hq9
      have hw1 := hI.work q1 rfl
      have hI1 := hw1.1
      have cc1 := cc.wk hI q1 rfl
      have x9 := q5 S cc.1
      refine tz_if_ne (pc := 44) (tgt := 55) dX11_common_44 (by decide) (by omega) (fun h_44 => ?_) (fun h_44 => ?_)
      · refine tz_aload_n (pc := 55) dX11_common_55 rfl rfl ?_
        refine tz_fR (pc := 56) dX11_common_56 fl_X11_29 r_0_1 ?_
        refine tz_cV (pc := 59) (c_begin hl n _) vl_X11_287 dX11_common_59 o_5 rfl rfl (Nat.le_of_ble_eq_true rfl) ⟨(Nat.le_of_ble_eq_true rfl), (Nat.le_of_ble_eq_true rfl)⟩ rfl rfl (Nat.le_of_ble_eq_true rfl) (Nat.le_of_ble_eq_true rfl) (fun r9 Jb hq9 => ?_)
        obtain ⟨rfl, hj⟩ := hq9
        have hb9 : zOf (zbut [19, 61]) Jb J1 := by rw [← hj]; exact zOf.cp rfl (zOf.up rfl zOf.rf)
        have hb19 : ∀ k, ¬ k = 0 → Jb 19 k = J1 19 k := fun k hk => by rw [← hj, zcp_nc (by decide), zup_ne hk]
        have a0 : AC Jb m m := by rw [← hj]; exact hI1.begin
        have hb6 := a0.1.1.2.1
        obtain ⟨cb, kb, lb⟩ := cc1.begin hI1 hj
        refine tz_aload_n (pc := 62) dX11_common_62 rfl rfl ?_
        refine tz_aload_n (pc := 63) dX11_common_63 rfl rfl ?_
        refine tz_fR (pc := 64) dX11_common_64 fl_X11_62 r_0_7 ?_
        refine tz_iload_n (pc := 67) dX11_common_67 rfl rfl ?_
        refine tz_iload_n (pc := 68) dX11_common_68 rfl rfl ?_
        have e141 := hb9 141 rfl
        have cp9 : cpl Jb 6 s t := cpl.mono hI1.1.1.1 (fun t _ _ => ⟨congrFun (hb9 7 rfl) t, congrFun (hb9 8 rfl) t⟩) (fun k _ _ => congrFun (hb9 9 rfl) k) (fun s t q => by obtain ⟨i, a, b⟩ := q; exact ⟨i, by rw [hb9 141 rfl]; exact a, by rw [hb9 143 rfl, hb9 144 rfl]; exact b⟩) 6 s t (by omega) (by omega) (q4 (by omega))
        have ck9 : cokJ Jb m (cpO 6 S [] s t).1 := cb.1.cok a0.1.1.2.1 (cpO_k (cb.1.tcl a0.1.1.1 a0.1.1.2.1) 6 [] s t (by omega) (by omega) (fun p hp => absurd hp List.not_mem_nil))
        refine tz_cV (pc := 69) (x_commonOf hl n _ _ _ (by omega) (by omega) m (cpO 6 S [] s t).1 a0.1.1.1 a0.1.1.2.1 (by omega) (by omega) (by rw [e141]; exact q2) cp9 (x9.1.of (hb9 141 rfl) (hb9 143 rfl) (hb9 144 rfl)) ck9) vl_X11_341 dX11_common_69 o_141 rfl rfl (Nat.le_of_ble_eq_true rfl) ⟨(Nat.le_of_ble_eq_true rfl), (Nat.le_of_ble_eq_true rfl)⟩ rfl rfl (Nat.le_of_ble_eq_true rfl) (Nat.le_of_ble_eq_true rfl) (fun r9 J_69 hq9 => ?_)
        obtain ⟨z_69, rfl, hz_69, m1, g1, h1, x1⟩ := hq9
        have a1 := a0.gx0 g1 rfl
        have o1 := (x1 S h21 cb.1).q cb.2.1 a0.1.1.2.2 (g1.2.2.2.2 19 rfl) (fun k h => coO_5 6 S s t k h)
        refine tz_cV (pc := 72) (x_settled hl n _ _ (by omega) m m1 a1) vl_X11_293 dX11_common_72 o_0 rfl rfl (Nat.le_of_ble_eq_true rfl) ⟨(Nat.le_of_ble_eq_true rfl), (Nat.le_of_ble_eq_true rfl)⟩ rfl rfl (Nat.le_of_ble_eq_true rfl) (Nat.le_of_ble_eq_true rfl) (fun r9 J_72 hq9 => ?_)
        obtain ⟨z_72, rfl, hz_72, s9, s8⟩ := hq9
        exact tz_iret (pc := 75) (z := z_72) dX11_common_75 rfl (Nat.le_of_ble_eq_true rfl) (Nat.le_of_ble_eq_true rfl) ⟨Nat.le_refl _, Nat.le_add_right _ _⟩ ⟨_, rfl, (by omega), ⟨(s9.cq (by rw [g1.2.2.2.2 145 rfl, hb9 145 rfl, hw1.2.1]; omega) ((g1.2.2.2.2 0 rfl).trans ((hb9 0 rfl).trans hw1.2.2.1)) ((g1.2.2.2.2.mono (fun c hc => by have := of_decide_eq_true hc; simp [zbut]; omega)).tr ((hb9.mono (fun c hc => by have := of_decide_eq_true hc; simp [zbut]; omega)).tr hw1.2.2.2))), Or.inl ⟨by omega, x9.2.1 (by omega), act_end cc1 hI1 hj g1 rfl o1 s8⟩⟩⟩
      · refine tz_aload_n (pc := 47) dX11_common_47 rfl rfl ?_
        refine tz_iconst (pc := 48) dX11_common_48 ?_
        refine tz_bipush (pc := 49) dX11_common_49 (by decide) ?_
        refine tz_cV (pc := 51) (c_refused hl n _ _ _ (by decide) (by omega) (by decide)) vl_X11_284 dX11_common_51 o_0 rfl rfl (Nat.le_of_ble_eq_true rfl) ⟨(Nat.le_of_ble_eq_true rfl), (Nat.le_of_ble_eq_true rfl)⟩ rfl rfl (Nat.le_of_ble_eq_true rfl) (Nat.le_of_ble_eq_true rfl) (fun r9 J_51 hq9 => ?_)
        obtain ⟨z_51, rfl, hz_51, f9, rfl⟩ := hq9
        exact tz_iret (pc := 54) (z := (-2)) dX11_common_54 rfl (Nat.le_of_ble_eq_true rfl) (Nat.le_of_ble_eq_true rfl) ⟨Nat.le_refl _, Nat.le_add_right _ _⟩ ⟨_, rfl, (by decide), ⟨(SQ.cq ⟨⟨m, hI1.st f9⟩, f9 145 rfl, f9 0 rfl, (f9.mono (fun c hc => by have := of_decide_eq_true hc; simp [zbut]; omega))⟩ (by rw [hw1.2.1]; omega) hw1.2.2.1 hw1.2.2.2), Or.inr (Or.inl ⟨by omega, Bool.eq_false_iff.2 (fun u => by have := x9.2.2 u; omega), rfl, cc1.st hI1 f9⟩)⟩⟩
    · rw [show (if 0 ≤ t ∧ t < J 6 12 then 1 else 0 : Int) = 0 from if_neg hw_25]
      refine tz_if_neF (pc := 25) (tgt := 35) (by decide) dX11_common_25 (by decide) (by decide) ?_
      refine tz_aload_n (pc := 28) dX11_common_28 rfl rfl ?_
      refine tz_iconst (pc := 29) dX11_common_29 ?_
      refine tz_iconst (pc := 30) dX11_common_30 ?_
      refine tz_cV (pc := 31) (c_refused hl n _ _ _ (by decide) (by omega) (by decide)) vl_X11_284 dX11_common_31 o_0 rfl rfl (Nat.le_of_ble_eq_true rfl) ⟨(Nat.le_of_ble_eq_true rfl), (Nat.le_of_ble_eq_true rfl)⟩ rfl rfl (Nat.le_of_ble_eq_true rfl) (Nat.le_of_ble_eq_true rfl) (fun r9 J_31 hq9 => ?_)
      obtain ⟨z_31, rfl, hz_31, f9, rfl⟩ := hq9
      exact tz_iret (pc := 34) (z := (-1)) dX11_common_34 rfl (Nat.le_of_ble_eq_true rfl) (Nat.le_of_ble_eq_true rfl) ⟨Nat.le_refl _, Nat.le_add_right _ _⟩ ⟨_, rfl, (by decide), ⟨(SQ.cq ⟨⟨m, hI.st f9⟩, f9 145 rfl, f9 0 rfl, (f9.mono (fun c hc => by have := of_decide_eq_true hc; simp [zbut]; omega))⟩ (by omega) rfl zOf.rf), Or.inr (Or.inr ⟨by omega, rfl, cc.st hI f9⟩)⟩⟩
  · rw [show (if 0 ≤ s ∧ s < J 6 12 then 1 else 0 : Int) = 0 from if_neg hw_11]
    refine tz_if_eqT (pc := 11) (tgt := 28) (by decide) dX11_common_11 (by decide) (by decide) ?_
    refine tz_aload_n (pc := 28) dX11_common_28 rfl rfl ?_
    refine tz_iconst (pc := 29) dX11_common_29 ?_
    refine tz_iconst (pc := 30) dX11_common_30 ?_
    refine tz_cV (pc := 31) (c_refused hl n _ _ _ (by decide) (by omega) (by decide)) vl_X11_284 dX11_common_31 o_0 rfl rfl (Nat.le_of_ble_eq_true rfl) ⟨(Nat.le_of_ble_eq_true rfl), (Nat.le_of_ble_eq_true rfl)⟩ rfl rfl (Nat.le_of_ble_eq_true rfl) (Nat.le_of_ble_eq_true rfl) (fun r9 J_31 hq9 => ?_)
    obtain ⟨z_31, rfl, hz_31, f9, rfl⟩ := hq9
    exact tz_iret (pc := 34) (z := (-1)) dX11_common_34 rfl (Nat.le_of_ble_eq_true rfl) (Nat.le_of_ble_eq_true rfl) ⟨Nat.le_refl _, Nat.le_add_right _ _⟩ ⟨_, rfl, (by decide), ⟨(SQ.cq ⟨⟨m, hI.st f9⟩, f9 145 rfl, f9 0 rfl, (f9.mono (fun c hc => by have := of_decide_eq_true hc; simp [zbut]; omega))⟩ (by omega) rfl zOf.rf), Or.inr (Or.inr ⟨by omega, rfl, cc.st hI f9⟩)⟩⟩

