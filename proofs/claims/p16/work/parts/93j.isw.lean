set_option maxHeartbeats 4000000 in
set_option maxRecDepth 100000 in
theorem x_isWord {l : Launch} {G : tb_G} (hl : l.stackTraces = false) (n : Nat) (J : zJ)   (bs : List Int32) (hb : bs.length < 1000) (hnb : n ≤ tb_sc) (hD : RD J) : tz_OkP (PS bs) l G M_X5_isWord 4 [.ref 163, .ref tb_sc] n J (zqi (fun z J' => J = J' ∧ ((z = 1 ∧ (J 163 5 = 2 ∧ J 163 7 - J 163 6 = (bs.length : Int) ∧ ∀ q, 0 ≤ q → q < (bs.length : Int) → J 162 (J 163 6 + q) = zch bs q)) ∨ (z = 0 ∧ ¬ (J 163 5 = 2 ∧ J 163 7 - J 163 6 = (bs.length : Int) ∧ ∀ q, 0 ≤ q → q < (bs.length : Int) → J 162 (J 163 6 + q) = zch bs q))))) := by
  refine tz_OkP.of hl (by decide +kernel) rfl (tb_c1 rfl) (Nat.le_of_ble_eq_true rfl) ?_
  show tz_At l G M_X5_isWord (tb_rm 4 0 0) none (ZP (PS bs) (tb_ZM G 0 0 (zQ n 0 (zqi (fun z J' => J = J' ∧ ((z = 1 ∧ (J 163 5 = 2 ∧ J 163 7 - J 163 6 = (bs.length : Int) ∧ ∀ q, 0 ≤ q → q < (bs.length : Int) → J 162 (J 163 6 + q) = zch bs q)) ∨ (z = 0 ∧ ¬ (J 163 5 = 2 ∧ J 163 7 - J 163 6 = (bs.length : Int) ∧ ∀ q, 0 ≤ q → q < (bs.length : Int) → J 162 (J 163 6 + q) = zch bs q)))))) (zX n 0 zN))) 0 0 n J 0 [some (.ref 163), some (.ref tb_sc), none] []
  obtain ⟨⟨hD1, hD2⟩, hD3, hD4⟩ := id hD
  refine tz_aload_n (pc := 0) dX5_isWord_0 rfl rfl ?_
  refine tz_fI (pc := 1) (kz := 5) (v := (J 163 5)) dX5_isWord_1 fl_X5_15 i_163_5 rfl rfl (fun r_1 => ?_)
  refine tz_iconst (pc := 4) dX5_isWord_4 ?_
  refine tz_icmp_ne (pc := 5) (tgt := 24) dX5_isWord_5 (by decide) (by omega) (by decide) (fun h_5 => ?_) (fun h_5 => ?_)
  · refine tz_iconst (pc := 24) dX5_isWord_24 ?_
    refine tz_zp ?_
    exact tz_zret (pc := 25) (z := 0) dX5_isWord_25 rfl (Or.inl rfl) (Nat.le_of_ble_eq_true rfl) (Nat.le_of_ble_eq_true rfl) ⟨Nat.le_refl _, Nat.le_add_right _ _⟩ ⟨_, rfl, (by decide), ⟨rfl, Or.inr ⟨rfl, fun e => by omega⟩⟩⟩
  · refine tz_aload_n (pc := 8) dX5_isWord_8 rfl rfl ?_
    refine tz_fI (pc := 9) (kz := 7) (v := (J 163 7)) dX5_isWord_9 fl_X5_21 i_163_7 rfl rfl (fun r_9 => ?_)
    refine tz_aload_n (pc := 12) dX5_isWord_12 rfl rfl ?_
    refine tz_fI (pc := 13) (kz := 6) (v := (J 163 6)) dX5_isWord_13 fl_X5_18 i_163_6 rfl rfl (fun r_13 => ?_)
    refine tz_isub (pc := 16) (v := (J 163 7) - (J 163 6)) dX5_isWord_16 rfl ?_
    refine tz_aload_n (pc := 17) dX5_isWord_17 rfl rfl ?_
    refine tz_cVP (pc := 18) (as := []) (c_jlen hl n _ bs hb) rfl vr_X5_104 dX5_isWord_18 rfl rfl (Nat.le_of_ble_eq_true rfl) ⟨(Nat.le_of_ble_eq_true rfl), (Nat.le_of_ble_eq_true rfl)⟩ (Nat.le_of_ble_eq_true rfl) (Nat.le_of_ble_eq_true rfl) (fun z_18 J_18 hz_18 hq9 => ?_)
    obtain ⟨rfl, rfl⟩ := hq9
    refine tz_icmp_eq (pc := 21) (tgt := 26) dX5_isWord_21 (by decide) (by omega) (by omega) (fun h_21 => ?_) (fun h_21 => ?_)
    · refine tz_iconst (pc := 26) dX5_isWord_26 ?_
      refine tz_istore_n (pc := 27) (L2 := [_, _, _]) dX5_isWord_27 rfl (by decide) rfl ?_
      have loop28 : ∀ (f9 : Nat) (k : Int), (((bs.length : Int) - k).toNat) < f9 → (0 ≤ k ∧ k ≤ (bs.length : Int)) → (∀ q, 0 ≤ q → q < k → J 162 (J 163 6 + q) = zch bs q) → tz_At l G M_X5_isWord (tb_rm 4 0 0) none (ZP (PS bs) (tb_ZM G 0 0 (zQ n 0 (zqi (fun z J' => J = J' ∧ ((z = 1 ∧ (J 163 5 = 2 ∧ J 163 7 - J 163 6 = (bs.length : Int) ∧ ∀ q, 0 ≤ q → q < (bs.length : Int) → J 162 (J 163 6 + q) = zch bs q)) ∨ (z = 0 ∧ ¬ (J 163 5 = 2 ∧ J 163 7 - J 163 6 = (bs.length : Int) ∧ ∀ q, 0 ≤ q → q < (bs.length : Int) → J 162 (J 163 6 + q) = zch bs q)))))) (zX n 0 zN))) 0 0 n J 28 [some (.ref 163), some (.ref tb_sc), some (zi k)] [] := by
        intro f9
        induction f9 with
        | zero => intro k hm9; exact absurd hm9 (Nat.not_lt_zero _)
        | succ f9 ih28 =>
          intro k hm28 hk hq
          refine tz_iload_n (pc := 28) dX5_isWord_28 rfl rfl ?_
          refine tz_aload_n (pc := 29) dX5_isWord_29 rfl rfl ?_
          refine tz_cVP (pc := 30) (as := []) (c_jlen hl n _ bs hb) rfl vr_X5_104 dX5_isWord_30 rfl rfl (Nat.le_of_ble_eq_true rfl) ⟨(Nat.le_of_ble_eq_true rfl), (Nat.le_of_ble_eq_true rfl)⟩ (Nat.le_of_ble_eq_true rfl) (Nat.le_of_ble_eq_true rfl) (fun z_30 J_30 hz_30 hq9 => ?_)
          obtain ⟨rfl, rfl⟩ := hq9
          refine tz_icmp_ge (pc := 33) (tgt := 63) dX5_isWord_33 (by decide) (by omega) (by omega) (fun h_33 => ?_) (fun h_33 => ?_)
          · refine tz_iconst (pc := 63) dX5_isWord_63 ?_
            refine tz_zp ?_
            exact tz_zret (pc := 64) (z := 1) dX5_isWord_64 rfl (Or.inr rfl) (Nat.le_of_ble_eq_true rfl) (Nat.le_of_ble_eq_true rfl) ⟨Nat.le_refl _, Nat.le_add_right _ _⟩ ⟨_, rfl, (by decide), ⟨rfl, Or.inl ⟨rfl, by omega, by omega, fun q x y => hq q x (by omega)⟩⟩⟩
          · refine tz_aload_n (pc := 36) dX5_isWord_36 rfl rfl ?_
            refine tz_fR (pc := 37) dX5_isWord_37 fl_X5_34 r_163_0 ?_
            refine tz_aload_n (pc := 40) dX5_isWord_40 rfl rfl ?_
            refine tz_fI (pc := 41) (kz := 6) (v := (J 163 6)) dX5_isWord_41 fl_X5_18 i_163_6 rfl rfl (fun r_41 => ?_)
            refine tz_iload_n (pc := 44) dX5_isWord_44 rfl rfl ?_
            refine tz_iadd (pc := 45) (v := (J 163 6) + k) dX5_isWord_45 rfl ?_
            refine tz_aL (pc := 46) (z := ((J 163 6) + k)) (v := (J 162 ((J 163 6) + k))) dX5_isWord_46 a_162 rfl (by omega) rfl (fun r_46 => ?_)
            refine tz_aload_n (pc := 47) dX5_isWord_47 rfl rfl ?_
            refine tz_iload_n (pc := 48) dX5_isWord_48 rfl rfl ?_
            have hc := zch_rg bs k
            refine tz_cVP (pc := 49) (as := [zi k]) (c_jchar hl n _ k (by omega) bs hb hnb (by omega)) rfl vr_X5_109 dX5_isWord_49 rfl rfl (Nat.le_of_ble_eq_true rfl) ⟨(Nat.le_of_ble_eq_true rfl), (Nat.le_of_ble_eq_true rfl)⟩ (Nat.le_of_ble_eq_true rfl) (Nat.le_of_ble_eq_true rfl) (fun z_49 J_49 hz_49 hq9 => ?_)
            obtain ⟨rfl, rfl⟩ := hq9
            refine tz_icmp_eq (pc := 52) (tgt := 57) dX5_isWord_52 (by decide) (by omega) (by omega) (fun h_52 => ?_) (fun h_52 => ?_)
            · refine tz_iinc (pc := 57) (z := k + 1) (L2 := [_, _, _]) dX5_isWord_57 rfl (by omega) rfl ?_
              refine tz_goto (pc := 60) (tgt := 28) dX5_isWord_60 (by decide) ?_
              exact ih28 (k + 1) (by omega) (by omega) (fun q x y => (Decidable.em (q = k)).elim (fun e => by rw [e]; omega) (fun e => hq q x (by omega)))
            · refine tz_iconst (pc := 55) dX5_isWord_55 ?_
              refine tz_zp ?_
              exact tz_zret (pc := 56) (z := 0) dX5_isWord_56 rfl (Or.inl rfl) (Nat.le_of_ble_eq_true rfl) (Nat.le_of_ble_eq_true rfl) ⟨Nat.le_refl _, Nat.le_add_right _ _⟩ ⟨_, rfl, (by decide), ⟨rfl, Or.inr ⟨rfl, fun e => by have := e.2.2 k (by omega) (by omega); omega⟩⟩⟩
      exact loop28 _ 0 (Nat.lt_succ_self _) (by omega) (fun q x y => by omega)
    · refine tz_iconst (pc := 24) dX5_isWord_24 ?_
      refine tz_zp ?_
      exact tz_zret (pc := 25) (z := 0) dX5_isWord_25 rfl (Or.inl rfl) (Nat.le_of_ble_eq_true rfl) (Nat.le_of_ble_eq_true rfl) ⟨Nat.le_refl _, Nat.le_add_right _ _⟩ ⟨_, rfl, (by decide), ⟨rfl, Or.inr ⟨rfl, fun e => by omega⟩⟩⟩

theorem isw_symbol {f : Int → Int} {x y : Int} : (y - x = ((([115, 121, 109, 98, 111, 108] : List Int32).length : Nat) : Int) ∧ ∀ q, 0 ≤ q → q < ((([115, 121, 109, 98, 111, 108] : List Int32).length : Nat) : Int) → f (x + q) = zch ([115, 121, 109, 98, 111, 108] : List Int32) q) ↔ mtB f x y [115, 121, 109, 98, 111, 108] := by
  have hz : ∀ j : Nat, j < 6 → zch ([115, 121, 109, 98, 111, 108] : List Int32) (j : Int) = ([115, 121, 109, 98, 111, 108] : List Int).getD j 0 := fun j hj => by
    rcases (show j = 0 ∨ j = 1 ∨ j = 2 ∨ j = 3 ∨ j = 4 ∨ j = 5 by omega) with e | e | e | e | e | e <;> (subst e; decide)
  constructor
  · rintro ⟨h1, h2⟩
    have h3 : y - x = 6 := h1
    refine ⟨fun j hj => ?_, show y = x + 6 by omega⟩
    have hj9 : j < 6 := hj
    refine ⟨by omega, ?_⟩
    rw [h2 (j : Int) (by omega) (show (j : Int) < 6 by omega)]
    exact hz j hj9
  · rintro ⟨h1, h2⟩
    have h3 : y = x + 6 := h2
    refine ⟨show y - x = 6 by omega, fun q a b => ?_⟩
    have b9 : q < 6 := b
    have := (h1 q.toNat (show q.toNat < 6 by omega)).2
    rw [Int.toNat_of_nonneg a] at this
    rw [this, ← hz q.toNat (by omega), Int.toNat_of_nonneg a]
theorem isw_term {f : Int → Int} {x y : Int} : (y - x = ((([116, 101, 114, 109] : List Int32).length : Nat) : Int) ∧ ∀ q, 0 ≤ q → q < ((([116, 101, 114, 109] : List Int32).length : Nat) : Int) → f (x + q) = zch ([116, 101, 114, 109] : List Int32) q) ↔ mtB f x y [116, 101, 114, 109] := by
  have hz : ∀ j : Nat, j < 4 → zch ([116, 101, 114, 109] : List Int32) (j : Int) = ([116, 101, 114, 109] : List Int).getD j 0 := fun j hj => by
    rcases (show j = 0 ∨ j = 1 ∨ j = 2 ∨ j = 3 by omega) with e | e | e | e <;> (subst e; decide)
  constructor
  · rintro ⟨h1, h2⟩
    have h3 : y - x = 4 := h1
    refine ⟨fun j hj => ?_, show y = x + 4 by omega⟩
    have hj9 : j < 4 := hj
    refine ⟨by omega, ?_⟩
    rw [h2 (j : Int) (by omega) (show (j : Int) < 4 by omega)]
    exact hz j hj9
  · rintro ⟨h1, h2⟩
    have h3 : y = x + 4 := h2
    refine ⟨show y - x = 4 by omega, fun q a b => ?_⟩
    have b9 : q < 4 := b
    have := (h1 q.toNat (show q.toNat < 4 by omega)).2
    rw [Int.toNat_of_nonneg a] at this
    rw [this, ← hz q.toNat (by omega), Int.toNat_of_nonneg a]
theorem isw_rule {f : Int → Int} {x y : Int} : (y - x = ((([114, 117, 108, 101] : List Int32).length : Nat) : Int) ∧ ∀ q, 0 ≤ q → q < ((([114, 117, 108, 101] : List Int32).length : Nat) : Int) → f (x + q) = zch ([114, 117, 108, 101] : List Int32) q) ↔ mtB f x y [114, 117, 108, 101] := by
  have hz : ∀ j : Nat, j < 4 → zch ([114, 117, 108, 101] : List Int32) (j : Int) = ([114, 117, 108, 101] : List Int).getD j 0 := fun j hj => by
    rcases (show j = 0 ∨ j = 1 ∨ j = 2 ∨ j = 3 by omega) with e | e | e | e <;> (subst e; decide)
  constructor
  · rintro ⟨h1, h2⟩
    have h3 : y - x = 4 := h1
    refine ⟨fun j hj => ?_, show y = x + 4 by omega⟩
    have hj9 : j < 4 := hj
    refine ⟨by omega, ?_⟩
    rw [h2 (j : Int) (by omega) (show (j : Int) < 4 by omega)]
    exact hz j hj9
  · rintro ⟨h1, h2⟩
    have h3 : y = x + 4 := h2
    refine ⟨show y - x = 4 by omega, fun q a b => ?_⟩
    have b9 : q < 4 := b
    have := (h1 q.toNat (show q.toNat < 4 by omega)).2
    rw [Int.toNat_of_nonneg a] at this
    rw [this, ← hz q.toNat (by omega), Int.toNat_of_nonneg a]
theorem isw_entry {f : Int → Int} {x y : Int} : (y - x = ((([101, 110, 116, 114, 121] : List Int32).length : Nat) : Int) ∧ ∀ q, 0 ≤ q → q < ((([101, 110, 116, 114, 121] : List Int32).length : Nat) : Int) → f (x + q) = zch ([101, 110, 116, 114, 121] : List Int32) q) ↔ mtB f x y [101, 110, 116, 114, 121] := by
  have hz : ∀ j : Nat, j < 5 → zch ([101, 110, 116, 114, 121] : List Int32) (j : Int) = ([101, 110, 116, 114, 121] : List Int).getD j 0 := fun j hj => by
    rcases (show j = 0 ∨ j = 1 ∨ j = 2 ∨ j = 3 ∨ j = 4 by omega) with e | e | e | e | e <;> (subst e; decide)
  constructor
  · rintro ⟨h1, h2⟩
    have h3 : y - x = 5 := h1
    refine ⟨fun j hj => ?_, show y = x + 5 by omega⟩
    have hj9 : j < 5 := hj
    refine ⟨by omega, ?_⟩
    rw [h2 (j : Int) (by omega) (show (j : Int) < 5 by omega)]
    exact hz j hj9
  · rintro ⟨h1, h2⟩
    have h3 : y = x + 5 := h2
    refine ⟨show y - x = 5 by omega, fun q a b => ?_⟩
    have b9 : q < 5 := b
    have := (h1 q.toNat (show q.toNat < 5 by omega)).2
    rw [Int.toNat_of_nonneg a] at this
    rw [this, ← hz q.toNat (by omega), Int.toNat_of_nonneg a]
theorem isw_room {f : Int → Int} {x y : Int} : (y - x = ((([114, 111, 111, 109] : List Int32).length : Nat) : Int) ∧ ∀ q, 0 ≤ q → q < ((([114, 111, 111, 109] : List Int32).length : Nat) : Int) → f (x + q) = zch ([114, 111, 111, 109] : List Int32) q) ↔ mtB f x y [114, 111, 111, 109] := by
  have hz : ∀ j : Nat, j < 4 → zch ([114, 111, 111, 109] : List Int32) (j : Int) = ([114, 111, 111, 109] : List Int).getD j 0 := fun j hj => by
    rcases (show j = 0 ∨ j = 1 ∨ j = 2 ∨ j = 3 by omega) with e | e | e | e <;> (subst e; decide)
  constructor
  · rintro ⟨h1, h2⟩
    have h3 : y - x = 4 := h1
    refine ⟨fun j hj => ?_, show y = x + 4 by omega⟩
    have hj9 : j < 4 := hj
    refine ⟨by omega, ?_⟩
    rw [h2 (j : Int) (by omega) (show (j : Int) < 4 by omega)]
    exact hz j hj9
  · rintro ⟨h1, h2⟩
    have h3 : y = x + 4 := h2
    refine ⟨show y - x = 4 by omega, fun q a b => ?_⟩
    have b9 : q < 4 := b
    have := (h1 q.toNat (show q.toNat < 4 by omega)).2
    rw [Int.toNat_of_nonneg a] at this
    rw [this, ← hz q.toNat (by omega), Int.toNat_of_nonneg a]
theorem isw_to {f : Int → Int} {x y : Int} : (y - x = ((([116, 111] : List Int32).length : Nat) : Int) ∧ ∀ q, 0 ≤ q → q < ((([116, 111] : List Int32).length : Nat) : Int) → f (x + q) = zch ([116, 111] : List Int32) q) ↔ mtB f x y [116, 111] := by
  have hz : ∀ j : Nat, j < 2 → zch ([116, 111] : List Int32) (j : Int) = ([116, 111] : List Int).getD j 0 := fun j hj => by
    rcases (show j = 0 ∨ j = 1 by omega) with e | e <;> (subst e; decide)
  constructor
  · rintro ⟨h1, h2⟩
    have h3 : y - x = 2 := h1
    refine ⟨fun j hj => ?_, show y = x + 2 by omega⟩
    have hj9 : j < 2 := hj
    refine ⟨by omega, ?_⟩
    rw [h2 (j : Int) (by omega) (show (j : Int) < 2 by omega)]
    exact hz j hj9
  · rintro ⟨h1, h2⟩
    have h3 : y = x + 2 := h2
    refine ⟨show y - x = 2 by omega, fun q a b => ?_⟩
    have b9 : q < 2 := b
    have := (h1 q.toNat (show q.toNat < 2 by omega)).2
    rw [Int.toNat_of_nonneg a] at this
    rw [this, ← hz q.toNat (by omega), Int.toNat_of_nonneg a]
