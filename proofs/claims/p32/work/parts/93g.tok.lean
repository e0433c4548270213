section
/-! ===== tokens, as both sides read them ===== -/
def fnF (p : Int → Bool) (N : Int) : Nat → Int → Int
  | 0, a => a
  | k + 1, a => if a < N ∧ p a = true then fnF p N k (a + 1) else a
def fnB (p : Int → Bool) (N a : Int) : Int := fnF p N (N - a).toNat a
theorem fnF_eq {p : Int → Bool} {N : Int} : ∀ (k : Nat) (a st : Int), a ≤ st → st ≤ N → (st - a).toNat ≤ k → (∀ q, a ≤ q → q < st → p q = true) → (st = N ∨ p st = false) → fnF p N k a = st
  | 0, a, st, h1, h2, h3, h4, h5 => by
    show a = st
    omega
  | k + 1, a, st, h1, h2, h3, h4, h5 => by
    show (if a < N ∧ p a = true then fnF p N k (a + 1) else a) = st
    by_cases e : a = st
    · rw [if_neg, e]
      intro q
      rcases h5 with h5 | h5
      · omega
      · rw [e, h5] at q
        exact absurd q.2 (by decide)
    · rw [if_pos ⟨by omega, h4 a (by omega) (by omega)⟩]
      exact fnF_eq k (a + 1) st (by omega) h2 (by omega) (fun q x y => h4 q (by omega) y) h5
theorem fnB_eq {p : Int → Bool} {N a st : Int} (h1 : a ≤ st) (h2 : st ≤ N) (h4 : ∀ q, a ≤ q → q < st → p q = true) (h5 : st = N ∨ p st = false) : fnB p N a = st := fnF_eq _ a st h1 h2 (by omega) h4 h5
/-- what kind of a byte -/
def kdB (c : Int) : Int := if 97 ≤ c ∧ c ≤ 122 then 2 else if 48 ≤ c ∧ c ≤ 57 then 3 else if c = 63 ∨ c = 40 ∨ c = 41 ∨ c = 44 ∨ c = 59 then c else 1
def spB (f : Int → Int) (q : Int) : Bool := decide (f q = 32 ∨ f q = 10)
/-- a token: where it begins, its kind, where it ends -/
def tkS (f : Int → Int) (N a : Int) : Int := fnB (spB f) N a
def tkK (f : Int → Int) (N a : Int) : Int := if tkS f N a < N then kdB (f (tkS f N a)) else 0
def tkE (f : Int → Int) (N a : Int) : Int := if tkS f N a < N then (if tkK f N a = 2 ∨ tkK f N a = 3 then fnB (fun q => decide (kdB (f q) = tkK f N a)) N (tkS f N a + 1) else tkS f N a + 1) else N
theorem tkS_eq {f : Int → Int} {N a st : Int} (h1 : a ≤ st) (h2 : st ≤ N) (h4 : ∀ q, a ≤ q → q < st → f q = 32 ∨ f q = 10) (h5 : st = N ∨ ¬ (f st = 32 ∨ f st = 10)) : tkS f N a = st := fnB_eq h1 h2 (fun q x y => decide_eq_true (h4 q x y)) (h5.imp id (fun q => decide_eq_false q))
theorem tkK_0 {f : Int → Int} {N a st : Int} (h : tkS f N a = st) (hN : ¬ st < N) : tkK f N a = 0 ∧ tkE f N a = N := by
  unfold tkE tkK
  rw [h, if_neg hN, if_neg hN]
  exact ⟨rfl, rfl⟩
theorem tkK_1 {f : Int → Int} {N a st : Int} (h : tkS f N a = st) (hN : st < N) : tkK f N a = kdB (f st) := by
  unfold tkK
  rw [h, if_pos hN]
theorem tkE_1 {f : Int → Int} {N a st k : Int} (h : tkS f N a = st) (hN : st < N) (hk : kdB (f st) = k) (h2 : ¬ (k = 2 ∨ k = 3)) : tkE f N a = st + 1 := by
  unfold tkE
  rw [tkK_1 h hN, h, if_pos hN, hk, if_neg h2]
theorem tkE_2 {f : Int → Int} {N a st en k : Int} (h : tkS f N a = st) (hN : st < N) (hk : kdB (f st) = k) (h2 : k = 2 ∨ k = 3) (h3 : st + 1 ≤ en) (h4 : en ≤ N) (h5 : ∀ q, st + 1 ≤ q → q < en → kdB (f q) = k) (h6 : en = N ∨ ¬ kdB (f en) = k) : tkE f N a = en := by
  unfold tkE
  rw [tkK_1 h hN, h, if_pos hN, hk, if_pos h2]
  exact fnB_eq h3 h4 (fun q x y => decide_eq_true (h5 q x y)) (h6.imp id (fun q => decide_eq_false q))
set_option maxHeartbeats 4000000 in
set_option maxRecDepth 100000 in
theorem x_kindOf {l : Launch} {G : tb_G} (hl : l.stackTraces = false) (n : Nat) (J : zJ) (x : Int) (hr_x : -2147483648 ≤ x ∧ x < 2147483648)   : tz_Ok l G M_X5_kindOf 0 0 0 [zi x] n J (zqi (fun z J' => J = J' ∧ kdB x = z)) zN := by
  refine tz_Ok.of hl (by decide +kernel) rfl (tb_c1 rfl) (Nat.le_of_ble_eq_true rfl) ?_
  show tz_At l G M_X5_kindOf (tb_rm 0 0 0) none (tb_ZM G 0 0 (zQ n 0 (zqi (fun z J' => J = J' ∧ kdB x = z))) (zX n 0 zN)) 0 0 n J 0 [some (zi x), none] []
  refine tz_iload_n (pc := 0) dX5_kindOf_0 rfl rfl ?_
  refine tz_bipush (pc := 1) dX5_kindOf_1 (by decide) ?_
  refine tz_icmp_lt (pc := 3) (tgt := 14) dX5_kindOf_3 (by decide) (by omega) (by decide) (fun h_3 => ?_) (fun h_3 => ?_)
  · refine tz_iload_n (pc := 14) dX5_kindOf_14 rfl rfl ?_
    refine tz_bipush (pc := 15) dX5_kindOf_15 (by decide) ?_
    refine tz_icmp_lt (pc := 17) (tgt := 28) dX5_kindOf_17 (by decide) (by omega) (by decide) (fun h_17 => ?_) (fun h_17 => ?_)
    · refine tz_iload_n (pc := 28) dX5_kindOf_28 rfl rfl ?_
      refine tz_bipush (pc := 29) dX5_kindOf_29 (by decide) ?_
      refine tz_icmp_eq (pc := 31) (tgt := 58) dX5_kindOf_31 (by decide) (by omega) (by decide) (fun h_31 => ?_) (fun h_31 => ?_)
      · refine tz_iconst (pc := 58) dX5_kindOf_58 ?_
        refine tz_goto (pc := 59) (tgt := 63) dX5_kindOf_59 (by decide) ?_
        refine tz_istore_n (pc := 63) (L2 := [_, _]) dX5_kindOf_63 rfl (by decide) rfl ?_
        refine tz_iload_n (pc := 64) dX5_kindOf_64 rfl rfl ?_
        refine tz_if_eqF (pc := 65) (tgt := 72) (by decide) dX5_kindOf_65 (by decide) (by decide) ?_
        refine tz_iload_n (pc := 68) dX5_kindOf_68 rfl rfl ?_
        refine tz_goto (pc := 69) (tgt := 73) dX5_kindOf_69 (by decide) ?_
        exact tz_iret (pc := 73) (z := x) dX5_kindOf_73 rfl (Nat.le_of_ble_eq_true rfl) (Nat.le_of_ble_eq_true rfl) ⟨Nat.le_refl _, Nat.le_add_right _ _⟩ ⟨_, rfl, (by omega), ⟨rfl, by unfold kdB; (repeat' split) <;> omega⟩⟩
      · refine tz_iload_n (pc := 34) dX5_kindOf_34 rfl rfl ?_
        refine tz_bipush (pc := 35) dX5_kindOf_35 (by decide) ?_
        refine tz_icmp_eq (pc := 37) (tgt := 58) dX5_kindOf_37 (by decide) (by omega) (by decide) (fun h_37 => ?_) (fun h_37 => ?_)
        · refine tz_iconst (pc := 58) dX5_kindOf_58 ?_
          refine tz_goto (pc := 59) (tgt := 63) dX5_kindOf_59 (by decide) ?_
          refine tz_istore_n (pc := 63) (L2 := [_, _]) dX5_kindOf_63 rfl (by decide) rfl ?_
          refine tz_iload_n (pc := 64) dX5_kindOf_64 rfl rfl ?_
          refine tz_if_eqF (pc := 65) (tgt := 72) (by decide) dX5_kindOf_65 (by decide) (by decide) ?_
          refine tz_iload_n (pc := 68) dX5_kindOf_68 rfl rfl ?_
          refine tz_goto (pc := 69) (tgt := 73) dX5_kindOf_69 (by decide) ?_
          exact tz_iret (pc := 73) (z := x) dX5_kindOf_73 rfl (Nat.le_of_ble_eq_true rfl) (Nat.le_of_ble_eq_true rfl) ⟨Nat.le_refl _, Nat.le_add_right _ _⟩ ⟨_, rfl, (by omega), ⟨rfl, by unfold kdB; (repeat' split) <;> omega⟩⟩
        · refine tz_iload_n (pc := 40) dX5_kindOf_40 rfl rfl ?_
          refine tz_bipush (pc := 41) dX5_kindOf_41 (by decide) ?_
          refine tz_icmp_eq (pc := 43) (tgt := 58) dX5_kindOf_43 (by decide) (by omega) (by decide) (fun h_43 => ?_) (fun h_43 => ?_)
          · refine tz_iconst (pc := 58) dX5_kindOf_58 ?_
            refine tz_goto (pc := 59) (tgt := 63) dX5_kindOf_59 (by decide) ?_
            refine tz_istore_n (pc := 63) (L2 := [_, _]) dX5_kindOf_63 rfl (by decide) rfl ?_
            refine tz_iload_n (pc := 64) dX5_kindOf_64 rfl rfl ?_
            refine tz_if_eqF (pc := 65) (tgt := 72) (by decide) dX5_kindOf_65 (by decide) (by decide) ?_
            refine tz_iload_n (pc := 68) dX5_kindOf_68 rfl rfl ?_
            refine tz_goto (pc := 69) (tgt := 73) dX5_kindOf_69 (by decide) ?_
            exact tz_iret (pc := 73) (z := x) dX5_kindOf_73 rfl (Nat.le_of_ble_eq_true rfl) (Nat.le_of_ble_eq_true rfl) ⟨Nat.le_refl _, Nat.le_add_right _ _⟩ ⟨_, rfl, (by omega), ⟨rfl, by unfold kdB; (repeat' split) <;> omega⟩⟩
          · refine tz_iload_n (pc := 46) dX5_kindOf_46 rfl rfl ?_
            refine tz_bipush (pc := 47) dX5_kindOf_47 (by decide) ?_
            refine tz_icmp_eq (pc := 49) (tgt := 58) dX5_kindOf_49 (by decide) (by omega) (by decide) (fun h_49 => ?_) (fun h_49 => ?_)
            · refine tz_iconst (pc := 58) dX5_kindOf_58 ?_
              refine tz_goto (pc := 59) (tgt := 63) dX5_kindOf_59 (by decide) ?_
              refine tz_istore_n (pc := 63) (L2 := [_, _]) dX5_kindOf_63 rfl (by decide) rfl ?_
              refine tz_iload_n (pc := 64) dX5_kindOf_64 rfl rfl ?_
              refine tz_if_eqF (pc := 65) (tgt := 72) (by decide) dX5_kindOf_65 (by decide) (by decide) ?_
              refine tz_iload_n (pc := 68) dX5_kindOf_68 rfl rfl ?_
              refine tz_goto (pc := 69) (tgt := 73) dX5_kindOf_69 (by decide) ?_
              exact tz_iret (pc := 73) (z := x) dX5_kindOf_73 rfl (Nat.le_of_ble_eq_true rfl) (Nat.le_of_ble_eq_true rfl) ⟨Nat.le_refl _, Nat.le_add_right _ _⟩ ⟨_, rfl, (by omega), ⟨rfl, by unfold kdB; (repeat' split) <;> omega⟩⟩
            · refine tz_iload_n (pc := 52) dX5_kindOf_52 rfl rfl ?_
              refine tz_bipush (pc := 53) dX5_kindOf_53 (by decide) ?_
              refine tz_icmp_ne (pc := 55) (tgt := 62) dX5_kindOf_55 (by decide) (by omega) (by decide) (fun h_55 => ?_) (fun h_55 => ?_)
              · refine tz_iconst (pc := 62) dX5_kindOf_62 ?_
                refine tz_istore_n (pc := 63) (L2 := [_, _]) dX5_kindOf_63 rfl (by decide) rfl ?_
                refine tz_iload_n (pc := 64) dX5_kindOf_64 rfl rfl ?_
                refine tz_if_eqT (pc := 65) (tgt := 72) (by decide) dX5_kindOf_65 (by decide) (by decide) ?_
                refine tz_iconst (pc := 72) dX5_kindOf_72 ?_
                exact tz_iret (pc := 73) (z := 1) dX5_kindOf_73 rfl (Nat.le_of_ble_eq_true rfl) (Nat.le_of_ble_eq_true rfl) ⟨Nat.le_refl _, Nat.le_add_right _ _⟩ ⟨_, rfl, (by decide), ⟨rfl, by unfold kdB; (repeat' split) <;> omega⟩⟩
              · refine tz_iconst (pc := 58) dX5_kindOf_58 ?_
                refine tz_goto (pc := 59) (tgt := 63) dX5_kindOf_59 (by decide) ?_
                refine tz_istore_n (pc := 63) (L2 := [_, _]) dX5_kindOf_63 rfl (by decide) rfl ?_
                refine tz_iload_n (pc := 64) dX5_kindOf_64 rfl rfl ?_
                refine tz_if_eqF (pc := 65) (tgt := 72) (by decide) dX5_kindOf_65 (by decide) (by decide) ?_
                refine tz_iload_n (pc := 68) dX5_kindOf_68 rfl rfl ?_
                refine tz_goto (pc := 69) (tgt := 73) dX5_kindOf_69 (by decide) ?_
                exact tz_iret (pc := 73) (z := x) dX5_kindOf_73 rfl (Nat.le_of_ble_eq_true rfl) (Nat.le_of_ble_eq_true rfl) ⟨Nat.le_refl _, Nat.le_add_right _ _⟩ ⟨_, rfl, (by omega), ⟨rfl, by unfold kdB; (repeat' split) <;> omega⟩⟩
    · refine tz_iload_n (pc := 20) dX5_kindOf_20 rfl rfl ?_
      refine tz_bipush (pc := 21) dX5_kindOf_21 (by decide) ?_
      refine tz_icmp_gt (pc := 23) (tgt := 28) dX5_kindOf_23 (by decide) (by omega) (by decide) (fun h_23 => ?_) (fun h_23 => ?_)
      · refine tz_iload_n (pc := 28) dX5_kindOf_28 rfl rfl ?_
        refine tz_bipush (pc := 29) dX5_kindOf_29 (by decide) ?_
        refine tz_icmp_eq (pc := 31) (tgt := 58) dX5_kindOf_31 (by decide) (by omega) (by decide) (fun h_31 => ?_) (fun h_31 => ?_)
        · refine tz_iconst (pc := 58) dX5_kindOf_58 ?_
          refine tz_goto (pc := 59) (tgt := 63) dX5_kindOf_59 (by decide) ?_
          refine tz_istore_n (pc := 63) (L2 := [_, _]) dX5_kindOf_63 rfl (by decide) rfl ?_
          refine tz_iload_n (pc := 64) dX5_kindOf_64 rfl rfl ?_
          refine tz_if_eqF (pc := 65) (tgt := 72) (by decide) dX5_kindOf_65 (by decide) (by decide) ?_
          refine tz_iload_n (pc := 68) dX5_kindOf_68 rfl rfl ?_
          refine tz_goto (pc := 69) (tgt := 73) dX5_kindOf_69 (by decide) ?_
          exact tz_iret (pc := 73) (z := x) dX5_kindOf_73 rfl (Nat.le_of_ble_eq_true rfl) (Nat.le_of_ble_eq_true rfl) ⟨Nat.le_refl _, Nat.le_add_right _ _⟩ ⟨_, rfl, (by omega), ⟨rfl, by unfold kdB; (repeat' split) <;> omega⟩⟩
        · refine tz_iload_n (pc := 34) dX5_kindOf_34 rfl rfl ?_
          refine tz_bipush (pc := 35) dX5_kindOf_35 (by decide) ?_
          refine tz_icmp_eq (pc := 37) (tgt := 58) dX5_kindOf_37 (by decide) (by omega) (by decide) (fun h_37 => ?_) (fun h_37 => ?_)
          · refine tz_iconst (pc := 58) dX5_kindOf_58 ?_
            refine tz_goto (pc := 59) (tgt := 63) dX5_kindOf_59 (by decide) ?_
            refine tz_istore_n (pc := 63) (L2 := [_, _]) dX5_kindOf_63 rfl (by decide) rfl ?_
            refine tz_iload_n (pc := 64) dX5_kindOf_64 rfl rfl ?_
            refine tz_if_eqF (pc := 65) (tgt := 72) (by decide) dX5_kindOf_65 (by decide) (by decide) ?_
            refine tz_iload_n (pc := 68) dX5_kindOf_68 rfl rfl ?_
            refine tz_goto (pc := 69) (tgt := 73) dX5_kindOf_69 (by decide) ?_
            exact tz_iret (pc := 73) (z := x) dX5_kindOf_73 rfl (Nat.le_of_ble_eq_true rfl) (Nat.le_of_ble_eq_true rfl) ⟨Nat.le_refl _, Nat.le_add_right _ _⟩ ⟨_, rfl, (by omega), ⟨rfl, by unfold kdB; (repeat' split) <;> omega⟩⟩
          · refine tz_iload_n (pc := 40) dX5_kindOf_40 rfl rfl ?_
            refine tz_bipush (pc := 41) dX5_kindOf_41 (by decide) ?_
            refine tz_icmp_eq (pc := 43) (tgt := 58) dX5_kindOf_43 (by decide) (by omega) (by decide) (fun h_43 => ?_) (fun h_43 => ?_)
            · refine tz_iconst (pc := 58) dX5_kindOf_58 ?_
              refine tz_goto (pc := 59) (tgt := 63) dX5_kindOf_59 (by decide) ?_
              refine tz_istore_n (pc := 63) (L2 := [_, _]) dX5_kindOf_63 rfl (by decide) rfl ?_
              refine tz_iload_n (pc := 64) dX5_kindOf_64 rfl rfl ?_
              refine tz_if_eqF (pc := 65) (tgt := 72) (by decide) dX5_kindOf_65 (by decide) (by decide) ?_
              refine tz_iload_n (pc := 68) dX5_kindOf_68 rfl rfl ?_
              refine tz_goto (pc := 69) (tgt := 73) dX5_kindOf_69 (by decide) ?_
              exact tz_iret (pc := 73) (z := x) dX5_kindOf_73 rfl (Nat.le_of_ble_eq_true rfl) (Nat.le_of_ble_eq_true rfl) ⟨Nat.le_refl _, Nat.le_add_right _ _⟩ ⟨_, rfl, (by omega), ⟨rfl, by unfold kdB; (repeat' split) <;> omega⟩⟩
            · refine tz_iload_n (pc := 46) dX5_kindOf_46 rfl rfl ?_
              refine tz_bipush (pc := 47) dX5_kindOf_47 (by decide) ?_
              refine tz_icmp_eq (pc := 49) (tgt := 58) dX5_kindOf_49 (by decide) (by omega) (by decide) (fun h_49 => ?_) (fun h_49 => ?_)
              · refine tz_iconst (pc := 58) dX5_kindOf_58 ?_
                refine tz_goto (pc := 59) (tgt := 63) dX5_kindOf_59 (by decide) ?_
                refine tz_istore_n (pc := 63) (L2 := [_, _]) dX5_kindOf_63 rfl (by decide) rfl ?_
                refine tz_iload_n (pc := 64) dX5_kindOf_64 rfl rfl ?_
                refine tz_if_eqF (pc := 65) (tgt := 72) (by decide) dX5_kindOf_65 (by decide) (by decide) ?_
                refine tz_iload_n (pc := 68) dX5_kindOf_68 rfl rfl ?_
                refine tz_goto (pc := 69) (tgt := 73) dX5_kindOf_69 (by decide) ?_
                exact tz_iret (pc := 73) (z := x) dX5_kindOf_73 rfl (Nat.le_of_ble_eq_true rfl) (Nat.le_of_ble_eq_true rfl) ⟨Nat.le_refl _, Nat.le_add_right _ _⟩ ⟨_, rfl, (by omega), ⟨rfl, by unfold kdB; (repeat' split) <;> omega⟩⟩
              · refine tz_iload_n (pc := 52) dX5_kindOf_52 rfl rfl ?_
                refine tz_bipush (pc := 53) dX5_kindOf_53 (by decide) ?_
                refine tz_icmp_ne (pc := 55) (tgt := 62) dX5_kindOf_55 (by decide) (by omega) (by decide) (fun h_55 => ?_) (fun h_55 => ?_)
                · refine tz_iconst (pc := 62) dX5_kindOf_62 ?_
                  refine tz_istore_n (pc := 63) (L2 := [_, _]) dX5_kindOf_63 rfl (by decide) rfl ?_
                  refine tz_iload_n (pc := 64) dX5_kindOf_64 rfl rfl ?_
                  refine tz_if_eqT (pc := 65) (tgt := 72) (by decide) dX5_kindOf_65 (by decide) (by decide) ?_
                  refine tz_iconst (pc := 72) dX5_kindOf_72 ?_
                  exact tz_iret (pc := 73) (z := 1) dX5_kindOf_73 rfl (Nat.le_of_ble_eq_true rfl) (Nat.le_of_ble_eq_true rfl) ⟨Nat.le_refl _, Nat.le_add_right _ _⟩ ⟨_, rfl, (by decide), ⟨rfl, by unfold kdB; (repeat' split) <;> omega⟩⟩
                · refine tz_iconst (pc := 58) dX5_kindOf_58 ?_
                  refine tz_goto (pc := 59) (tgt := 63) dX5_kindOf_59 (by decide) ?_
                  refine tz_istore_n (pc := 63) (L2 := [_, _]) dX5_kindOf_63 rfl (by decide) rfl ?_
                  refine tz_iload_n (pc := 64) dX5_kindOf_64 rfl rfl ?_
                  refine tz_if_eqF (pc := 65) (tgt := 72) (by decide) dX5_kindOf_65 (by decide) (by decide) ?_
                  refine tz_iload_n (pc := 68) dX5_kindOf_68 rfl rfl ?_
                  refine tz_goto (pc := 69) (tgt := 73) dX5_kindOf_69 (by decide) ?_
                  exact tz_iret (pc := 73) (z := x) dX5_kindOf_73 rfl (Nat.le_of_ble_eq_true rfl) (Nat.le_of_ble_eq_true rfl) ⟨Nat.le_refl _, Nat.le_add_right _ _⟩ ⟨_, rfl, (by omega), ⟨rfl, by unfold kdB; (repeat' split) <;> omega⟩⟩
      · refine tz_iconst (pc := 26) dX5_kindOf_26 ?_
        exact tz_iret (pc := 27) (z := 3) dX5_kindOf_27 rfl (Nat.le_of_ble_eq_true rfl) (Nat.le_of_ble_eq_true rfl) ⟨Nat.le_refl _, Nat.le_add_right _ _⟩ ⟨_, rfl, (by decide), ⟨rfl, by unfold kdB; (repeat' split) <;> omega⟩⟩
  · refine tz_iload_n (pc := 6) dX5_kindOf_6 rfl rfl ?_
    refine tz_bipush (pc := 7) dX5_kindOf_7 (by decide) ?_
    refine tz_icmp_gt (pc := 9) (tgt := 14) dX5_kindOf_9 (by decide) (by omega) (by decide) (fun h_9 => ?_) (fun h_9 => ?_)
    · refine tz_iload_n (pc := 14) dX5_kindOf_14 rfl rfl ?_
      refine tz_bipush (pc := 15) dX5_kindOf_15 (by decide) ?_
      refine tz_icmp_lt (pc := 17) (tgt := 28) dX5_kindOf_17 (by decide) (by omega) (by decide) (fun h_17 => ?_) (fun h_17 => ?_)
      · refine tz_iload_n (pc := 28) dX5_kindOf_28 rfl rfl ?_
        refine tz_bipush (pc := 29) dX5_kindOf_29 (by decide) ?_
        refine tz_icmp_eq (pc := 31) (tgt := 58) dX5_kindOf_31 (by decide) (by omega) (by decide) (fun h_31 => ?_) (fun h_31 => ?_)
        · refine tz_iconst (pc := 58) dX5_kindOf_58 ?_
          refine tz_goto (pc := 59) (tgt := 63) dX5_kindOf_59 (by decide) ?_
          refine tz_istore_n (pc := 63) (L2 := [_, _]) dX5_kindOf_63 rfl (by decide) rfl ?_
          refine tz_iload_n (pc := 64) dX5_kindOf_64 rfl rfl ?_
          refine tz_if_eqF (pc := 65) (tgt := 72) (by decide) dX5_kindOf_65 (by decide) (by decide) ?_
          refine tz_iload_n (pc := 68) dX5_kindOf_68 rfl rfl ?_
          refine tz_goto (pc := 69) (tgt := 73) dX5_kindOf_69 (by decide) ?_
          exact tz_iret (pc := 73) (z := x) dX5_kindOf_73 rfl (Nat.le_of_ble_eq_true rfl) (Nat.le_of_ble_eq_true rfl) ⟨Nat.le_refl _, Nat.le_add_right _ _⟩ ⟨_, rfl, (by omega), ⟨rfl, by unfold kdB; (repeat' split) <;> omega⟩⟩
        · refine tz_iload_n (pc := 34) dX5_kindOf_34 rfl rfl ?_
          refine tz_bipush (pc := 35) dX5_kindOf_35 (by decide) ?_
          refine tz_icmp_eq (pc := 37) (tgt := 58) dX5_kindOf_37 (by decide) (by omega) (by decide) (fun h_37 => ?_) (fun h_37 => ?_)
          · refine tz_iconst (pc := 58) dX5_kindOf_58 ?_
            refine tz_goto (pc := 59) (tgt := 63) dX5_kindOf_59 (by decide) ?_
            refine tz_istore_n (pc := 63) (L2 := [_, _]) dX5_kindOf_63 rfl (by decide) rfl ?_
            refine tz_iload_n (pc := 64) dX5_kindOf_64 rfl rfl ?_
            refine tz_if_eqF (pc := 65) (tgt := 72) (by decide) dX5_kindOf_65 (by decide) (by decide) ?_
            refine tz_iload_n (pc := 68) dX5_kindOf_68 rfl rfl ?_
            refine tz_goto (pc := 69) (tgt := 73) dX5_kindOf_69 (by decide) ?_
            exact tz_iret (pc := 73) (z := x) dX5_kindOf_73 rfl (Nat.le_of_ble_eq_true rfl) (Nat.le_of_ble_eq_true rfl) ⟨Nat.le_refl _, Nat.le_add_right _ _⟩ ⟨_, rfl, (by omega), ⟨rfl, by unfold kdB; (repeat' split) <;> omega⟩⟩
          · refine tz_iload_n (pc := 40) dX5_kindOf_40 rfl rfl ?_
            refine tz_bipush (pc := 41) dX5_kindOf_41 (by decide) ?_
            refine tz_icmp_eq (pc := 43) (tgt := 58) dX5_kindOf_43 (by decide) (by omega) (by decide) (fun h_43 => ?_) (fun h_43 => ?_)
            · refine tz_iconst (pc := 58) dX5_kindOf_58 ?_
              refine tz_goto (pc := 59) (tgt := 63) dX5_kindOf_59 (by decide) ?_
              refine tz_istore_n (pc := 63) (L2 := [_, _]) dX5_kindOf_63 rfl (by decide) rfl ?_
              refine tz_iload_n (pc := 64) dX5_kindOf_64 rfl rfl ?_
              refine tz_if_eqF (pc := 65) (tgt := 72) (by decide) dX5_kindOf_65 (by decide) (by decide) ?_
              refine tz_iload_n (pc := 68) dX5_kindOf_68 rfl rfl ?_
              refine tz_goto (pc := 69) (tgt := 73) dX5_kindOf_69 (by decide) ?_
              exact tz_iret (pc := 73) (z := x) dX5_kindOf_73 rfl (Nat.le_of_ble_eq_true rfl) (Nat.le_of_ble_eq_true rfl) ⟨Nat.le_refl _, Nat.le_add_right _ _⟩ ⟨_, rfl, (by omega), ⟨rfl, by unfold kdB; (repeat' split) <;> omega⟩⟩
            · refine tz_iload_n (pc := 46) dX5_kindOf_46 rfl rfl ?_
              refine tz_bipush (pc := 47) dX5_kindOf_47 (by decide) ?_
              refine tz_icmp_eq (pc := 49) (tgt := 58) dX5_kindOf_49 (by decide) (by omega) (by decide) (fun h_49 => ?_) (fun h_49 => ?_)
              · refine tz_iconst (pc := 58) dX5_kindOf_58 ?_
                refine tz_goto (pc := 59) (tgt := 63) dX5_kindOf_59 (by decide) ?_
                refine tz_istore_n (pc := 63) (L2 := [_, _]) dX5_kindOf_63 rfl (by decide) rfl ?_
                refine tz_iload_n (pc := 64) dX5_kindOf_64 rfl rfl ?_
                refine tz_if_eqF (pc := 65) (tgt := 72) (by decide) dX5_kindOf_65 (by decide) (by decide) ?_
                refine tz_iload_n (pc := 68) dX5_kindOf_68 rfl rfl ?_
                refine tz_goto (pc := 69) (tgt := 73) dX5_kindOf_69 (by decide) ?_
                exact tz_iret (pc := 73) (z := x) dX5_kindOf_73 rfl (Nat.le_of_ble_eq_true rfl) (Nat.le_of_ble_eq_true rfl) ⟨Nat.le_refl _, Nat.le_add_right _ _⟩ ⟨_, rfl, (by omega), ⟨rfl, by unfold kdB; (repeat' split) <;> omega⟩⟩
              · refine tz_iload_n (pc := 52) dX5_kindOf_52 rfl rfl ?_
                refine tz_bipush (pc := 53) dX5_kindOf_53 (by decide) ?_
                refine tz_icmp_ne (pc := 55) (tgt := 62) dX5_kindOf_55 (by decide) (by omega) (by decide) (fun h_55 => ?_) (fun h_55 => ?_)
                · refine tz_iconst (pc := 62) dX5_kindOf_62 ?_
                  refine tz_istore_n (pc := 63) (L2 := [_, _]) dX5_kindOf_63 rfl (by decide) rfl ?_
                  refine tz_iload_n (pc := 64) dX5_kindOf_64 rfl rfl ?_
                  refine tz_if_eqT (pc := 65) (tgt := 72) (by decide) dX5_kindOf_65 (by decide) (by decide) ?_
                  refine tz_iconst (pc := 72) dX5_kindOf_72 ?_
                  exact tz_iret (pc := 73) (z := 1) dX5_kindOf_73 rfl (Nat.le_of_ble_eq_true rfl) (Nat.le_of_ble_eq_true rfl) ⟨Nat.le_refl _, Nat.le_add_right _ _⟩ ⟨_, rfl, (by decide), ⟨rfl, by unfold kdB; (repeat' split) <;> omega⟩⟩
                · refine tz_iconst (pc := 58) dX5_kindOf_58 ?_
                  refine tz_goto (pc := 59) (tgt := 63) dX5_kindOf_59 (by decide) ?_
                  refine tz_istore_n (pc := 63) (L2 := [_, _]) dX5_kindOf_63 rfl (by decide) rfl ?_
                  refine tz_iload_n (pc := 64) dX5_kindOf_64 rfl rfl ?_
                  refine tz_if_eqF (pc := 65) (tgt := 72) (by decide) dX5_kindOf_65 (by decide) (by decide) ?_
                  refine tz_iload_n (pc := 68) dX5_kindOf_68 rfl rfl ?_
                  refine tz_goto (pc := 69) (tgt := 73) dX5_kindOf_69 (by decide) ?_
                  exact tz_iret (pc := 73) (z := x) dX5_kindOf_73 rfl (Nat.le_of_ble_eq_true rfl) (Nat.le_of_ble_eq_true rfl) ⟨Nat.le_refl _, Nat.le_add_right _ _⟩ ⟨_, rfl, (by omega), ⟨rfl, by unfold kdB; (repeat' split) <;> omega⟩⟩
      · refine tz_iload_n (pc := 20) dX5_kindOf_20 rfl rfl ?_
        refine tz_bipush (pc := 21) dX5_kindOf_21 (by decide) ?_
        refine tz_icmp_gt (pc := 23) (tgt := 28) dX5_kindOf_23 (by decide) (by omega) (by decide) (fun h_23 => ?_) (fun h_23 => ?_)
        · refine tz_iload_n (pc := 28) dX5_kindOf_28 rfl rfl ?_
          refine tz_bipush (pc := 29) dX5_kindOf_29 (by decide) ?_
          refine tz_icmp_eq (pc := 31) (tgt := 58) dX5_kindOf_31 (by decide) (by omega) (by decide) (fun h_31 => ?_) (fun h_31 => ?_)
          · refine tz_iconst (pc := 58) dX5_kindOf_58 ?_
            refine tz_goto (pc := 59) (tgt := 63) dX5_kindOf_59 (by decide) ?_
            refine tz_istore_n (pc := 63) (L2 := [_, _]) dX5_kindOf_63 rfl (by decide) rfl ?_
            refine tz_iload_n (pc := 64) dX5_kindOf_64 rfl rfl ?_
            refine tz_if_eqF (pc := 65) (tgt := 72) (by decide) dX5_kindOf_65 (by decide) (by decide) ?_
            refine tz_iload_n (pc := 68) dX5_kindOf_68 rfl rfl ?_
            refine tz_goto (pc := 69) (tgt := 73) dX5_kindOf_69 (by decide) ?_
            exact tz_iret (pc := 73) (z := x) dX5_kindOf_73 rfl (Nat.le_of_ble_eq_true rfl) (Nat.le_of_ble_eq_true rfl) ⟨Nat.le_refl _, Nat.le_add_right _ _⟩ ⟨_, rfl, (by omega), ⟨rfl, by unfold kdB; (repeat' split) <;> omega⟩⟩
          · refine tz_iload_n (pc := 34) dX5_kindOf_34 rfl rfl ?_
            refine tz_bipush (pc := 35) dX5_kindOf_35 (by decide) ?_
            refine tz_icmp_eq (pc := 37) (tgt := 58) dX5_kindOf_37 (by decide) (by omega) (by decide) (fun h_37 => ?_) (fun h_37 => ?_)
            · refine tz_iconst (pc := 58) dX5_kindOf_58 ?_
              refine tz_goto (pc := 59) (tgt := 63) dX5_kindOf_59 (by decide) ?_
              refine tz_istore_n (pc := 63) (L2 := [_, _]) dX5_kindOf_63 rfl (by decide) rfl ?_
              refine tz_iload_n (pc := 64) dX5_kindOf_64 rfl rfl ?_
              refine tz_if_eqF (pc := 65) (tgt := 72) (by decide) dX5_kindOf_65 (by decide) (by decide) ?_
              refine tz_iload_n (pc := 68) dX5_kindOf_68 rfl rfl ?_
              refine tz_goto (pc := 69) (tgt := 73) dX5_kindOf_69 (by decide) ?_
              exact tz_iret (pc := 73) (z := x) dX5_kindOf_73 rfl (Nat.le_of_ble_eq_true rfl) (Nat.le_of_ble_eq_true rfl) ⟨Nat.le_refl _, Nat.le_add_right _ _⟩ ⟨_, rfl, (by omega), ⟨rfl, by unfold kdB; (repeat' split) <;> omega⟩⟩
            · refine tz_iload_n (pc := 40) dX5_kindOf_40 rfl rfl ?_
              refine tz_bipush (pc := 41) dX5_kindOf_41 (by decide) ?_
              refine tz_icmp_eq (pc := 43) (tgt := 58) dX5_kindOf_43 (by decide) (by omega) (by decide) (fun h_43 => ?_) (fun h_43 => ?_)
              · refine tz_iconst (pc := 58) dX5_kindOf_58 ?_
                refine tz_goto (pc := 59) (tgt := 63) dX5_kindOf_59 (by decide) ?_
                refine tz_istore_n (pc := 63) (L2 := [_, _]) dX5_kindOf_63 rfl (by decide) rfl ?_
                refine tz_iload_n (pc := 64) dX5_kindOf_64 rfl rfl ?_
                refine tz_if_eqF (pc := 65) (tgt := 72) (by decide) dX5_kindOf_65 (by decide) (by decide) ?_
                refine tz_iload_n (pc := 68) dX5_kindOf_68 rfl rfl ?_
                refine tz_goto (pc := 69) (tgt := 73) dX5_kindOf_69 (by decide) ?_
                exact tz_iret (pc := 73) (z := x) dX5_kindOf_73 rfl (Nat.le_of_ble_eq_true rfl) (Nat.le_of_ble_eq_true rfl) ⟨Nat.le_refl _, Nat.le_add_right _ _⟩ ⟨_, rfl, (by omega), ⟨rfl, by unfold kdB; (repeat' split) <;> omega⟩⟩
              · refine tz_iload_n (pc := 46) dX5_kindOf_46 rfl rfl ?_
                refine tz_bipush (pc := 47) dX5_kindOf_47 (by decide) ?_
                refine tz_icmp_eq (pc := 49) (tgt := 58) dX5_kindOf_49 (by decide) (by omega) (by decide) (fun h_49 => ?_) (fun h_49 => ?_)
                · refine tz_iconst (pc := 58) dX5_kindOf_58 ?_
                  refine tz_goto (pc := 59) (tgt := 63) dX5_kindOf_59 (by decide) ?_
                  refine tz_istore_n (pc := 63) (L2 := [_, _]) dX5_kindOf_63 rfl (by decide) rfl ?_
                  refine tz_iload_n (pc := 64) dX5_kindOf_64 rfl rfl ?_
                  refine tz_if_eqF (pc := 65) (tgt := 72) (by decide) dX5_kindOf_65 (by decide) (by decide) ?_
                  refine tz_iload_n (pc := 68) dX5_kindOf_68 rfl rfl ?_
                  refine tz_goto (pc := 69) (tgt := 73) dX5_kindOf_69 (by decide) ?_
                  exact tz_iret (pc := 73) (z := x) dX5_kindOf_73 rfl (Nat.le_of_ble_eq_true rfl) (Nat.le_of_ble_eq_true rfl) ⟨Nat.le_refl _, Nat.le_add_right _ _⟩ ⟨_, rfl, (by omega), ⟨rfl, by unfold kdB; (repeat' split) <;> omega⟩⟩
                · refine tz_iload_n (pc := 52) dX5_kindOf_52 rfl rfl ?_
                  refine tz_bipush (pc := 53) dX5_kindOf_53 (by decide) ?_
                  refine tz_icmp_ne (pc := 55) (tgt := 62) dX5_kindOf_55 (by decide) (by omega) (by decide) (fun h_55 => ?_) (fun h_55 => ?_)
                  · refine tz_iconst (pc := 62) dX5_kindOf_62 ?_
                    refine tz_istore_n (pc := 63) (L2 := [_, _]) dX5_kindOf_63 rfl (by decide) rfl ?_
                    refine tz_iload_n (pc := 64) dX5_kindOf_64 rfl rfl ?_
                    refine tz_if_eqT (pc := 65) (tgt := 72) (by decide) dX5_kindOf_65 (by decide) (by decide) ?_
                    refine tz_iconst (pc := 72) dX5_kindOf_72 ?_
                    exact tz_iret (pc := 73) (z := 1) dX5_kindOf_73 rfl (Nat.le_of_ble_eq_true rfl) (Nat.le_of_ble_eq_true rfl) ⟨Nat.le_refl _, Nat.le_add_right _ _⟩ ⟨_, rfl, (by decide), ⟨rfl, by unfold kdB; (repeat' split) <;> omega⟩⟩
                  · refine tz_iconst (pc := 58) dX5_kindOf_58 ?_
                    refine tz_goto (pc := 59) (tgt := 63) dX5_kindOf_59 (by decide) ?_
                    refine tz_istore_n (pc := 63) (L2 := [_, _]) dX5_kindOf_63 rfl (by decide) rfl ?_
                    refine tz_iload_n (pc := 64) dX5_kindOf_64 rfl rfl ?_
                    refine tz_if_eqF (pc := 65) (tgt := 72) (by decide) dX5_kindOf_65 (by decide) (by decide) ?_
                    refine tz_iload_n (pc := 68) dX5_kindOf_68 rfl rfl ?_
                    refine tz_goto (pc := 69) (tgt := 73) dX5_kindOf_69 (by decide) ?_
                    exact tz_iret (pc := 73) (z := x) dX5_kindOf_73 rfl (Nat.le_of_ble_eq_true rfl) (Nat.le_of_ble_eq_true rfl) ⟨Nat.le_refl _, Nat.le_add_right _ _⟩ ⟨_, rfl, (by omega), ⟨rfl, by unfold kdB; (repeat' split) <;> omega⟩⟩
        · refine tz_iconst (pc := 26) dX5_kindOf_26 ?_
          exact tz_iret (pc := 27) (z := 3) dX5_kindOf_27 rfl (Nat.le_of_ble_eq_true rfl) (Nat.le_of_ble_eq_true rfl) ⟨Nat.le_refl _, Nat.le_add_right _ _⟩ ⟨_, rfl, (by decide), ⟨rfl, by unfold kdB; (repeat' split) <;> omega⟩⟩
    · refine tz_iconst (pc := 12) dX5_kindOf_12 ?_
      exact tz_iret (pc := 13) (z := 2) dX5_kindOf_13 rfl (Nat.le_of_ble_eq_true rfl) (Nat.le_of_ble_eq_true rfl) ⟨Nat.le_refl _, Nat.le_add_right _ _⟩ ⟨_, rfl, (by decide), ⟨rfl, by unfold kdB; (repeat' split) <;> omega⟩⟩

set_option maxHeartbeats 4000000 in
set_option maxRecDepth 100000 in
theorem x_next {l : Launch} {G : tb_G} (hl : l.stackTraces = false) (n : Nat) (J : zJ)    (h0 : 0 ≤ J 163 7 ∧ J 163 7 ≤ J 163 4) (h4 : J 163 4 ≤ 700) : tz_Ok l G M_X5_next 1 0 0 [.ref 163] n J (zqv (fun J' => (zOf (zbut [163]) J' J ∧ ∀ k, ¬ k = 5 → ¬ k = 6 → ¬ k = 7 → J' 163 k = J 163 k) ∧ J' 163 6 = tkS (J 162) (J 163 4) (J 163 7) ∧ J' 163 5 = tkK (J 162) (J 163 4) (J 163 7) ∧ J' 163 7 = tkE (J 162) (J 163 4) (J 163 7))) zN := by
  refine tz_Ok.of hl (by decide +kernel) rfl (tb_c1 rfl) (Nat.le_of_ble_eq_true rfl) ?_
  show tz_At l G M_X5_next (tb_rm 1 0 0) none (tb_ZM G 0 0 (zQ n 0 (zqv (fun J' => (zOf (zbut [163]) J' J ∧ ∀ k, ¬ k = 5 → ¬ k = 6 → ¬ k = 7 → J' 163 k = J 163 k) ∧ J' 163 6 = tkS (J 162) (J 163 4) (J 163 7) ∧ J' 163 5 = tkK (J 162) (J 163 4) (J 163 7) ∧ J' 163 7 = tkE (J 162) (J 163 4) (J 163 7)))) (zX n 0 zN)) 0 0 n J 0 [some (.ref 163)] []
  refine tz_aload_n (pc := 0) dX5_next_0 rfl rfl ?_
  refine tz_aload_n (pc := 1) dX5_next_1 rfl rfl ?_
  refine tz_fI (pc := 2) (kz := 7) (v := (J 163 7)) dX5_next_2 fl_X5_21 i_163_7 rfl rfl (fun r_2 => ?_)
  refine tz_pI (pc := 5) (kz := 6) dX5_next_5 fl_X5_18 i_163_6 rfl rfl (by omega) ?_
  have loop8 : ∀ (f9 : Nat) (J1 : zJ), ((J 163 4 - J1 163 6).toNat) < f9 → ((zOf (zbut [163]) J1 J ∧ ∀ k, ¬ k = 5 → ¬ k = 6 → ¬ k = 7 → J1 163 k = J 163 k)) → (J 163 7 ≤ J1 163 6 ∧ J1 163 6 ≤ J 163 4) → (∀ q, J 163 7 ≤ q → q < J1 163 6 → J 162 q = 32 ∨ J 162 q = 10) → tz_At l G M_X5_next (tb_rm 1 0 0) none (tb_ZM G 0 0 (zQ n 0 (zqv (fun J' => (zOf (zbut [163]) J' J ∧ ∀ k, ¬ k = 5 → ¬ k = 6 → ¬ k = 7 → J' 163 k = J 163 k) ∧ J' 163 6 = tkS (J 162) (J 163 4) (J 163 7) ∧ J' 163 5 = tkK (J 162) (J 163 4) (J 163 7) ∧ J' 163 7 = tkE (J 162) (J 163 4) (J 163 7)))) (zX n 0 zN)) 0 0 n J1 8 [some (.ref 163)] [] := by
    intro f9
    induction f9 with
    | zero => intro J1 hm9; exact absurd hm9 (Nat.not_lt_zero _)
    | succ f9 ih8 =>
      intro J1 hm8 f1 h1 g1
      refine tz_aload_n (pc := 8) dX5_next_8 rfl rfl ?_
      refine tz_fI (pc := 9) (kz := 6) (v := (J1 163 6)) dX5_next_9 fl_X5_18 i_163_6 rfl rfl (fun r_9 => ?_)
      refine tz_aload_n (pc := 12) dX5_next_12 rfl rfl ?_
      refine tz_fI (pc := 13) (kz := 4) (v := (J 163 4)) dX5_next_13 fl_X5_9 i_163_4 rfl (Eq.trans (f1.2 4 (by decide) (by decide) (by decide)) rfl) (fun r_13 => ?_)
      refine tz_icmp_ge (pc := 16) (tgt := 60) dX5_next_16 (by decide) (by omega) (by omega) (fun h_16 => ?_) (fun h_16 => ?_)
      · refine tz_aload_n (pc := 60) dX5_next_60 rfl rfl ?_
        refine tz_aload_n (pc := 61) dX5_next_61 rfl rfl ?_
        refine tz_fI (pc := 62) (kz := 6) (v := (J1 163 6)) dX5_next_62 fl_X5_18 i_163_6 rfl rfl (fun r_62 => ?_)
        refine tz_aload_n (pc := 65) dX5_next_65 rfl rfl ?_
        refine tz_fI (pc := 66) (kz := 4) (v := (J 163 4)) dX5_next_66 fl_X5_9 i_163_4 rfl (Eq.trans (f1.2 4 (by decide) (by decide) (by decide)) rfl) (fun r_66 => ?_)
        refine tz_icmp_ge (pc := 69) (tgt := 87) dX5_next_69 (by decide) (by omega) (by omega) (fun h_69 => ?_) (fun h_69 => ?_)
        · refine tz_iconst (pc := 87) dX5_next_87 ?_
          refine tz_pI (pc := 88) (kz := 5) dX5_next_88 fl_X5_15 i_163_5 rfl rfl (by decide) ?_
          refine tz_aload_n (pc := 91) dX5_next_91 rfl rfl ?_
          refine tz_aload_n (pc := 92) dX5_next_92 rfl rfl ?_
          refine tz_fI (pc := 93) (kz := 6) (v := (J1 163 6)) dX5_next_93 fl_X5_18 i_163_6 rfl rfl (fun r_93 => ?_)
          refine tz_iconst (pc := 96) dX5_next_96 ?_
          refine tz_iadd (pc := 97) (v := (J1 163 6) + 1) dX5_next_97 rfl ?_
          refine tz_aload_n (pc := 98) dX5_next_98 rfl rfl ?_
          refine tz_fI (pc := 99) (kz := 4) (v := (J 163 4)) dX5_next_99 fl_X5_9 i_163_4 rfl (Eq.trans (f1.2 4 (by decide) (by decide) (by decide)) rfl) (fun r_99 => ?_)
          have hmn : (J1 163 6 < J 163 4 → zmn (J1 163 6 + 1) (J 163 4) = J1 163 6 + 1) ∧ (¬ J1 163 6 < J 163 4 → zmn (J1 163 6 + 1) (J 163 4) = J 163 4) := by unfold zmn; constructor <;> intro q <;> split <;> omega
          have hS : tkS (J 162) (J 163 4) (J 163 7) = J1 163 6 := tkS_eq h1.1 h1.2 g1 (by omega)
          refine tz_mn (pc := 102) (v := zmn (J1 163 6 + 1) (J 163 4)) dX5_next_102 ml_X5_59 (Nat.le_of_ble_eq_true rfl) (Nat.le_of_ble_eq_true rfl) (Nat.le_of_ble_eq_true rfl) (Nat.le_of_ble_eq_true rfl) (by omega) (by omega) rfl ?_
          refine tz_pI (pc := 105) (kz := 7) dX5_next_105 fl_X5_21 i_163_7 rfl rfl (by omega) ?_
          have loop108 : ∀ (f9 : Nat) (J2 : zJ), ((J 163 4 - J2 163 7).toNat) < f9 → ((zOf (zbut [163]) J2 J ∧ ∀ k, ¬ k = 5 → ¬ k = 6 → ¬ k = 7 → J2 163 k = J 163 k)) → (J2 163 6 = J1 163 6) → (J2 163 5 = 0) → (J2 163 7 = J 163 4) → tz_At l G M_X5_next (tb_rm 1 0 0) none (tb_ZM G 0 0 (zQ n 0 (zqv (fun J' => (zOf (zbut [163]) J' J ∧ ∀ k, ¬ k = 5 → ¬ k = 6 → ¬ k = 7 → J' 163 k = J 163 k) ∧ J' 163 6 = tkS (J 162) (J 163 4) (J 163 7) ∧ J' 163 5 = tkK (J 162) (J 163 4) (J 163 7) ∧ J' 163 7 = tkE (J 162) (J 163 4) (J 163 7)))) (zX n 0 zN)) 0 0 n J2 108 [some (.ref 163)] [] := by
            intro f9
            induction f9 with
            | zero => intro J2 hm9; exact absurd hm9 (Nat.not_lt_zero _)
            | succ f9 ih108 =>
              intro J2 hm108 f2 e6 e5 h2
              refine tz_aload_n (pc := 108) dX5_next_108 rfl rfl ?_
              refine tz_fI (pc := 109) (kz := 5) (v := 0) dX5_next_109 fl_X5_15 i_163_5 rfl e5 (fun _ => ?_)
              refine tz_iconst (pc := 112) dX5_next_112 ?_
              refine tz_icmp_eqF (pc := 113) (tgt := 124) (by decide) dX5_next_113 (by decide) (by decide) (by decide) ?_
              refine tz_aload_n (pc := 116) dX5_next_116 rfl rfl ?_
              refine tz_fI (pc := 117) (kz := 5) (v := 0) dX5_next_117 fl_X5_15 i_163_5 rfl e5 (fun _ => ?_)
              refine tz_iconst (pc := 120) dX5_next_120 ?_
              refine tz_icmp_neT (pc := 121) (tgt := 167) (by decide) dX5_next_121 (by decide) (by decide) (by decide) ?_
              exact tz_vret (pc := 167) dX5_next_167 rfl (Nat.le_of_ble_eq_true rfl) (Nat.le_of_ble_eq_true rfl) ⟨Nat.le_refl _, Nat.le_add_right _ _⟩ ⟨rfl, ⟨f2, e6.trans hS.symm, e5.trans (tkK_0 hS (by omega)).1.symm, h2.trans (tkK_0 hS (by omega)).2.symm⟩⟩
          exact loop108 _ _ (Nat.lt_succ_self _) ⟨zOf.up rfl (zOf.up rfl f1.1), fun k x y z => by rw [zup_ne z, zup_ne x]; exact f1.2 k x y z⟩ rfl rfl (by rw [zup_at, hmn.2 (by omega)])
        · refine tz_aload_n (pc := 72) dX5_next_72 rfl rfl ?_
          refine tz_fR (pc := 73) dX5_next_73 fl_X5_34 r_163_0 ?_
          refine tz_aload_n (pc := 76) dX5_next_76 rfl rfl ?_
          refine tz_fI (pc := 77) (kz := 6) (v := (J1 163 6)) dX5_next_77 fl_X5_18 i_163_6 rfl rfl (fun r_77 => ?_)
          refine tz_aL (pc := 80) (z := (J1 163 6)) (v := (J 162 (J1 163 6))) dX5_next_80 a_162 rfl (by omega) (Eq.trans (congrFun (f1.1 162 rfl) (J1 163 6)) rfl) (fun r_80 => ?_)
          refine tz_cS (pc := 81) (x_kindOf hl n _ _ (by omega)) sl_X5_101 dX5_next_81 rfl rfl (Nat.le_of_ble_eq_true rfl) ⟨(Nat.le_of_ble_eq_true rfl), (Nat.le_of_ble_eq_true rfl)⟩ rfl rfl (Nat.le_of_ble_eq_true rfl) (Nat.le_of_ble_eq_true rfl) (fun r9 J_81 hq9 => ?_)
          obtain ⟨z_81, rfl, hz_81, rfl, hk_81⟩ := hq9
          refine tz_goto (pc := 84) (tgt := 88) dX5_next_84 (by decide) ?_
          refine tz_pI (pc := 88) (kz := 5) dX5_next_88 fl_X5_15 i_163_5 rfl rfl (by omega) ?_
          refine tz_aload_n (pc := 91) dX5_next_91 rfl rfl ?_
          refine tz_aload_n (pc := 92) dX5_next_92 rfl rfl ?_
          refine tz_fI (pc := 93) (kz := 6) (v := (J1 163 6)) dX5_next_93 fl_X5_18 i_163_6 rfl rfl (fun r_93 => ?_)
          refine tz_iconst (pc := 96) dX5_next_96 ?_
          refine tz_iadd (pc := 97) (v := (J1 163 6) + 1) dX5_next_97 rfl ?_
          refine tz_aload_n (pc := 98) dX5_next_98 rfl rfl ?_
          refine tz_fI (pc := 99) (kz := 4) (v := (J 163 4)) dX5_next_99 fl_X5_9 i_163_4 rfl (Eq.trans (f1.2 4 (by decide) (by decide) (by decide)) rfl) (fun r_99 => ?_)
          have hmn : (J1 163 6 < J 163 4 → zmn (J1 163 6 + 1) (J 163 4) = J1 163 6 + 1) ∧ (¬ J1 163 6 < J 163 4 → zmn (J1 163 6 + 1) (J 163 4) = J 163 4) := by unfold zmn; constructor <;> intro q <;> split <;> omega
          have hS : tkS (J 162) (J 163 4) (J 163 7) = J1 163 6 := tkS_eq h1.1 h1.2 g1 (by omega)
          refine tz_mn (pc := 102) (v := zmn (J1 163 6 + 1) (J 163 4)) dX5_next_102 ml_X5_59 (Nat.le_of_ble_eq_true rfl) (Nat.le_of_ble_eq_true rfl) (Nat.le_of_ble_eq_true rfl) (Nat.le_of_ble_eq_true rfl) (by omega) (by omega) rfl ?_
          refine tz_pI (pc := 105) (kz := 7) dX5_next_105 fl_X5_21 i_163_7 rfl rfl (by omega) ?_
          have loop108 : ∀ (f9 : Nat) (J2 : zJ), ((J 163 4 - J2 163 7).toNat) < f9 → ((zOf (zbut [163]) J2 J ∧ ∀ k, ¬ k = 5 → ¬ k = 6 → ¬ k = 7 → J2 163 k = J 163 k)) → (J2 163 6 = J1 163 6) → (J2 163 5 = z_81) → (J1 163 6 + 1 ≤ J2 163 7 ∧ J2 163 7 ≤ J 163 4) → (∀ q, J1 163 6 + 1 ≤ q → q < J2 163 7 → kdB (J 162 q) = z_81) → ((z_81 = 2 ∨ z_81 = 3) ∨ J2 163 7 = J1 163 6 + 1) → tz_At l G M_X5_next (tb_rm 1 0 0) none (tb_ZM G 0 0 (zQ n 0 (zqv (fun J' => (zOf (zbut [163]) J' J ∧ ∀ k, ¬ k = 5 → ¬ k = 6 → ¬ k = 7 → J' 163 k = J 163 k) ∧ J' 163 6 = tkS (J 162) (J 163 4) (J 163 7) ∧ J' 163 5 = tkK (J 162) (J 163 4) (J 163 7) ∧ J' 163 7 = tkE (J 162) (J 163 4) (J 163 7)))) (zX n 0 zN)) 0 0 n J2 108 [some (.ref 163)] [] := by
            intro f9
            induction f9 with
            | zero => intro J2 hm9; exact absurd hm9 (Nat.not_lt_zero _)
            | succ f9 ih108 =>
              intro J2 hm108 f2 e6 e5 h2 h3 h5
              refine tz_aload_n (pc := 108) dX5_next_108 rfl rfl ?_
              refine tz_fI (pc := 109) (kz := 5) (v := z_81) dX5_next_109 fl_X5_15 i_163_5 rfl e5 (fun r_109 => ?_)
              refine tz_iconst (pc := 112) dX5_next_112 ?_
              refine tz_icmp_eq (pc := 113) (tgt := 124) dX5_next_113 (by decide) (by omega) (by decide) (fun h_113 => ?_) (fun h_113 => ?_)
              · refine tz_aload_n (pc := 124) dX5_next_124 rfl rfl ?_
                refine tz_fI (pc := 125) (kz := 7) (v := (J2 163 7)) dX5_next_125 fl_X5_21 i_163_7 rfl rfl (fun r_125 => ?_)
                refine tz_aload_n (pc := 128) dX5_next_128 rfl rfl ?_
                refine tz_fI (pc := 129) (kz := 4) (v := (J 163 4)) dX5_next_129 fl_X5_9 i_163_4 rfl (Eq.trans (f2.2 4 (by decide) (by decide) (by decide)) rfl) (fun r_129 => ?_)
                refine tz_icmp_ge (pc := 132) (tgt := 167) dX5_next_132 (by decide) (by omega) (by omega) (fun h_132 => ?_) (fun h_132 => ?_)
                · exact tz_vret (pc := 167) dX5_next_167 rfl (Nat.le_of_ble_eq_true rfl) (Nat.le_of_ble_eq_true rfl) ⟨Nat.le_refl _, Nat.le_add_right _ _⟩ ⟨rfl, ⟨f2, e6.trans hS.symm, (e5.trans (hk_81.symm.trans (tkK_1 hS (by omega)).symm)), (by rcases (show (z_81 = 2 ∨ z_81 = 3) ∨ ¬ (z_81 = 2 ∨ z_81 = 3) by omega) with q | q; exact (tkE_2 hS (by omega) hk_81 q h2.1 h2.2 h3 (by omega)).symm; rw [tkE_1 hS (by omega) hk_81 q]; omega)⟩⟩
                · refine tz_aload_n (pc := 135) dX5_next_135 rfl rfl ?_
                  refine tz_fR (pc := 136) dX5_next_136 fl_X5_34 r_163_0 ?_
                  refine tz_aload_n (pc := 139) dX5_next_139 rfl rfl ?_
                  refine tz_fI (pc := 140) (kz := 7) (v := (J2 163 7)) dX5_next_140 fl_X5_21 i_163_7 rfl rfl (fun r_140 => ?_)
                  refine tz_aL (pc := 143) (z := (J2 163 7)) (v := (J 162 (J2 163 7))) dX5_next_143 a_162 rfl (by omega) (Eq.trans (congrFun (f2.1 162 rfl) (J2 163 7)) rfl) (fun r_143 => ?_)
                  refine tz_cS (pc := 144) (x_kindOf hl n _ _ (by omega)) sl_X5_101 dX5_next_144 rfl rfl (Nat.le_of_ble_eq_true rfl) ⟨(Nat.le_of_ble_eq_true rfl), (Nat.le_of_ble_eq_true rfl)⟩ rfl rfl (Nat.le_of_ble_eq_true rfl) (Nat.le_of_ble_eq_true rfl) (fun r9 J_144 hq9 => ?_)
                  obtain ⟨z_144, rfl, hz_144, rfl, hk_144⟩ := hq9
                  refine tz_aload_n (pc := 147) dX5_next_147 rfl rfl ?_
                  refine tz_fI (pc := 148) (kz := 5) (v := z_81) dX5_next_148 fl_X5_15 i_163_5 rfl e5 (fun r_148 => ?_)
                  refine tz_icmp_ne (pc := 151) (tgt := 167) dX5_next_151 (by decide) (by omega) (by omega) (fun h_151 => ?_) (fun h_151 => ?_)
                  · exact tz_vret (pc := 167) dX5_next_167 rfl (Nat.le_of_ble_eq_true rfl) (Nat.le_of_ble_eq_true rfl) ⟨Nat.le_refl _, Nat.le_add_right _ _⟩ ⟨rfl, ⟨f2, e6.trans hS.symm, (e5.trans (hk_81.symm.trans (tkK_1 hS (by omega)).symm)), (by rcases (show (z_81 = 2 ∨ z_81 = 3) ∨ ¬ (z_81 = 2 ∨ z_81 = 3) by omega) with q | q; exact (tkE_2 hS (by omega) hk_81 q h2.1 h2.2 h3 (by omega)).symm; rw [tkE_1 hS (by omega) hk_81 q]; omega)⟩⟩
                  · refine tz_aload_n (pc := 154) dX5_next_154 rfl rfl ?_
                    refine tz_dup (pc := 155) dX5_next_155 rfl ?_
                    refine tz_fI (pc := 156) (kz := 7) (v := (J2 163 7)) dX5_next_156 fl_X5_21 i_163_7 rfl rfl (fun r_156 => ?_)
                    refine tz_iconst (pc := 159) dX5_next_159 ?_
                    refine tz_iadd (pc := 160) (v := (J2 163 7) + 1) dX5_next_160 rfl ?_
                    refine tz_pI (pc := 161) (kz := 7) dX5_next_161 fl_X5_21 i_163_7 rfl rfl (by omega) ?_
                    refine tz_goto (pc := 164) (tgt := 108) dX5_next_164 (by decide) ?_
                    exact ih108 _ (by rw [zup_at]; omega) ⟨zOf.up rfl f2.1, fun k a b c => (zup_ne c).trans (f2.2 k a b c)⟩ ((zup_ne (by decide)).trans e6) ((zup_ne (by decide)).trans e5) (by rw [zup_at]; omega) (fun q x y => by rw [zup_at] at y; exact (Decidable.em (q = J2 163 7)).elim (fun e => by rw [e]; omega) (fun e => h3 q x (by omega))) (Or.inl (by omega))
              · refine tz_aload_n (pc := 116) dX5_next_116 rfl rfl ?_
                refine tz_fI (pc := 117) (kz := 5) (v := z_81) dX5_next_117 fl_X5_15 i_163_5 rfl e5 (fun r_117 => ?_)
                refine tz_iconst (pc := 120) dX5_next_120 ?_
                refine tz_icmp_ne (pc := 121) (tgt := 167) dX5_next_121 (by decide) (by omega) (by decide) (fun h_121 => ?_) (fun h_121 => ?_)
                · exact tz_vret (pc := 167) dX5_next_167 rfl (Nat.le_of_ble_eq_true rfl) (Nat.le_of_ble_eq_true rfl) ⟨Nat.le_refl _, Nat.le_add_right _ _⟩ ⟨rfl, ⟨f2, e6.trans hS.symm, (e5.trans (hk_81.symm.trans (tkK_1 hS (by omega)).symm)), (by rcases (show (z_81 = 2 ∨ z_81 = 3) ∨ ¬ (z_81 = 2 ∨ z_81 = 3) by omega) with q | q; exact (tkE_2 hS (by omega) hk_81 q h2.1 h2.2 h3 (by omega)).symm; rw [tkE_1 hS (by omega) hk_81 q]; omega)⟩⟩
                · refine tz_aload_n (pc := 124) dX5_next_124 rfl rfl ?_
                  refine tz_fI (pc := 125) (kz := 7) (v := (J2 163 7)) dX5_next_125 fl_X5_21 i_163_7 rfl rfl (fun r_125 => ?_)
                  refine tz_aload_n (pc := 128) dX5_next_128 rfl rfl ?_
                  refine tz_fI (pc := 129) (kz := 4) (v := (J 163 4)) dX5_next_129 fl_X5_9 i_163_4 rfl (Eq.trans (f2.2 4 (by decide) (by decide) (by decide)) rfl) (fun r_129 => ?_)
                  refine tz_icmp_ge (pc := 132) (tgt := 167) dX5_next_132 (by decide) (by omega) (by omega) (fun h_132 => ?_) (fun h_132 => ?_)
                  · exact tz_vret (pc := 167) dX5_next_167 rfl (Nat.le_of_ble_eq_true rfl) (Nat.le_of_ble_eq_true rfl) ⟨Nat.le_refl _, Nat.le_add_right _ _⟩ ⟨rfl, ⟨f2, e6.trans hS.symm, (e5.trans (hk_81.symm.trans (tkK_1 hS (by omega)).symm)), (by rcases (show (z_81 = 2 ∨ z_81 = 3) ∨ ¬ (z_81 = 2 ∨ z_81 = 3) by omega) with q | q; exact (tkE_2 hS (by omega) hk_81 q h2.1 h2.2 h3 (by omega)).symm; rw [tkE_1 hS (by omega) hk_81 q]; omega)⟩⟩
                  · refine tz_aload_n (pc := 135) dX5_next_135 rfl rfl ?_
                    refine tz_fR (pc := 136) dX5_next_136 fl_X5_34 r_163_0 ?_
                    refine tz_aload_n (pc := 139) dX5_next_139 rfl rfl ?_
                    refine tz_fI (pc := 140) (kz := 7) (v := (J2 163 7)) dX5_next_140 fl_X5_21 i_163_7 rfl rfl (fun r_140 => ?_)
                    refine tz_aL (pc := 143) (z := (J2 163 7)) (v := (J 162 (J2 163 7))) dX5_next_143 a_162 rfl (by omega) (Eq.trans (congrFun (f2.1 162 rfl) (J2 163 7)) rfl) (fun r_143 => ?_)
                    refine tz_cS (pc := 144) (x_kindOf hl n _ _ (by omega)) sl_X5_101 dX5_next_144 rfl rfl (Nat.le_of_ble_eq_true rfl) ⟨(Nat.le_of_ble_eq_true rfl), (Nat.le_of_ble_eq_true rfl)⟩ rfl rfl (Nat.le_of_ble_eq_true rfl) (Nat.le_of_ble_eq_true rfl) (fun r9 J_144 hq9 => ?_)
                    obtain ⟨z_144, rfl, hz_144, rfl, hk_144⟩ := hq9
                    refine tz_aload_n (pc := 147) dX5_next_147 rfl rfl ?_
                    refine tz_fI (pc := 148) (kz := 5) (v := z_81) dX5_next_148 fl_X5_15 i_163_5 rfl e5 (fun r_148 => ?_)
                    refine tz_icmp_ne (pc := 151) (tgt := 167) dX5_next_151 (by decide) (by omega) (by omega) (fun h_151 => ?_) (fun h_151 => ?_)
                    · exact tz_vret (pc := 167) dX5_next_167 rfl (Nat.le_of_ble_eq_true rfl) (Nat.le_of_ble_eq_true rfl) ⟨Nat.le_refl _, Nat.le_add_right _ _⟩ ⟨rfl, ⟨f2, e6.trans hS.symm, (e5.trans (hk_81.symm.trans (tkK_1 hS (by omega)).symm)), (by rcases (show (z_81 = 2 ∨ z_81 = 3) ∨ ¬ (z_81 = 2 ∨ z_81 = 3) by omega) with q | q; exact (tkE_2 hS (by omega) hk_81 q h2.1 h2.2 h3 (by omega)).symm; rw [tkE_1 hS (by omega) hk_81 q]; omega)⟩⟩
                    · refine tz_aload_n (pc := 154) dX5_next_154 rfl rfl ?_
                      refine tz_dup (pc := 155) dX5_next_155 rfl ?_
                      refine tz_fI (pc := 156) (kz := 7) (v := (J2 163 7)) dX5_next_156 fl_X5_21 i_163_7 rfl rfl (fun r_156 => ?_)
                      refine tz_iconst (pc := 159) dX5_next_159 ?_
                      refine tz_iadd (pc := 160) (v := (J2 163 7) + 1) dX5_next_160 rfl ?_
                      refine tz_pI (pc := 161) (kz := 7) dX5_next_161 fl_X5_21 i_163_7 rfl rfl (by omega) ?_
                      refine tz_goto (pc := 164) (tgt := 108) dX5_next_164 (by decide) ?_
                      exact ih108 _ (by rw [zup_at]; omega) ⟨zOf.up rfl f2.1, fun k a b c => (zup_ne c).trans (f2.2 k a b c)⟩ ((zup_ne (by decide)).trans e6) ((zup_ne (by decide)).trans e5) (by rw [zup_at]; omega) (fun q x y => by rw [zup_at] at y; exact (Decidable.em (q = J2 163 7)).elim (fun e => by rw [e]; omega) (fun e => h3 q x (by omega))) (Or.inl (by omega))
          exact loop108 _ _ (Nat.lt_succ_self _) ⟨zOf.up rfl (zOf.up rfl f1.1), fun k x y z => by rw [zup_ne z, zup_ne x]; exact f1.2 k x y z⟩ rfl rfl (by rw [zup_at, hmn.1 (by omega)]; omega) (fun q x y => by rw [zup_at, hmn.1 (by omega)] at y; omega) (Or.inr (by rw [zup_at, hmn.1 (by omega)]))
      · refine tz_aload_n (pc := 19) dX5_next_19 rfl rfl ?_
        refine tz_fR (pc := 20) dX5_next_20 fl_X5_34 r_163_0 ?_
        refine tz_aload_n (pc := 23) dX5_next_23 rfl rfl ?_
        refine tz_fI (pc := 24) (kz := 6) (v := (J1 163 6)) dX5_next_24 fl_X5_18 i_163_6 rfl rfl (fun r_24 => ?_)
        refine tz_aL (pc := 27) (z := (J1 163 6)) (v := (J 162 (J1 163 6))) dX5_next_27 a_162 rfl (by omega) (Eq.trans (congrFun (f1.1 162 rfl) (J1 163 6)) rfl) (fun r_27 => ?_)
        refine tz_bipush (pc := 28) dX5_next_28 (by decide) ?_
        refine tz_icmp_eq (pc := 30) (tgt := 47) dX5_next_30 (by decide) (by omega) (by decide) (fun h_30 => ?_) (fun h_30 => ?_)
        · refine tz_aload_n (pc := 47) dX5_next_47 rfl rfl ?_
          refine tz_dup (pc := 48) dX5_next_48 rfl ?_
          refine tz_fI (pc := 49) (kz := 6) (v := (J1 163 6)) dX5_next_49 fl_X5_18 i_163_6 rfl rfl (fun r_49 => ?_)
          refine tz_iconst (pc := 52) dX5_next_52 ?_
          refine tz_iadd (pc := 53) (v := (J1 163 6) + 1) dX5_next_53 rfl ?_
          refine tz_pI (pc := 54) (kz := 6) dX5_next_54 fl_X5_18 i_163_6 rfl rfl (by omega) ?_
          refine tz_goto (pc := 57) (tgt := 8) dX5_next_57 (by decide) ?_
          exact ih8 _ (by rw [zup_at]; omega) ⟨zOf.up rfl f1.1, fun k a b c => (zup_ne b).trans (f1.2 k a b c)⟩ (by rw [zup_at]; omega) (fun q x y => by rw [zup_at] at y; exact (Decidable.em (q = J1 163 6)).elim (fun e => by rw [e]; omega) (fun e => g1 q x (by omega)))
        · refine tz_aload_n (pc := 33) dX5_next_33 rfl rfl ?_
          refine tz_fR (pc := 34) dX5_next_34 fl_X5_34 r_163_0 ?_
          refine tz_aload_n (pc := 37) dX5_next_37 rfl rfl ?_
          refine tz_fI (pc := 38) (kz := 6) (v := (J1 163 6)) dX5_next_38 fl_X5_18 i_163_6 rfl rfl (fun r_38 => ?_)
          refine tz_aL (pc := 41) (z := (J1 163 6)) (v := (J 162 (J1 163 6))) dX5_next_41 a_162 rfl (by omega) (Eq.trans (congrFun (f1.1 162 rfl) (J1 163 6)) rfl) (fun r_41 => ?_)
          refine tz_bipush (pc := 42) dX5_next_42 (by decide) ?_
          refine tz_icmp_ne (pc := 44) (tgt := 60) dX5_next_44 (by decide) (by omega) (by decide) (fun h_44 => ?_) (fun h_44 => ?_)
          · refine tz_aload_n (pc := 60) dX5_next_60 rfl rfl ?_
            refine tz_aload_n (pc := 61) dX5_next_61 rfl rfl ?_
            refine tz_fI (pc := 62) (kz := 6) (v := (J1 163 6)) dX5_next_62 fl_X5_18 i_163_6 rfl rfl (fun r_62 => ?_)
            refine tz_aload_n (pc := 65) dX5_next_65 rfl rfl ?_
            refine tz_fI (pc := 66) (kz := 4) (v := (J 163 4)) dX5_next_66 fl_X5_9 i_163_4 rfl (Eq.trans (f1.2 4 (by decide) (by decide) (by decide)) rfl) (fun r_66 => ?_)
            refine tz_icmp_ge (pc := 69) (tgt := 87) dX5_next_69 (by decide) (by omega) (by omega) (fun h_69 => ?_) (fun h_69 => ?_)
            · refine tz_iconst (pc := 87) dX5_next_87 ?_
              refine tz_pI (pc := 88) (kz := 5) dX5_next_88 fl_X5_15 i_163_5 rfl rfl (by decide) ?_
              refine tz_aload_n (pc := 91) dX5_next_91 rfl rfl ?_
              refine tz_aload_n (pc := 92) dX5_next_92 rfl rfl ?_
              refine tz_fI (pc := 93) (kz := 6) (v := (J1 163 6)) dX5_next_93 fl_X5_18 i_163_6 rfl rfl (fun r_93 => ?_)
              refine tz_iconst (pc := 96) dX5_next_96 ?_
              refine tz_iadd (pc := 97) (v := (J1 163 6) + 1) dX5_next_97 rfl ?_
              refine tz_aload_n (pc := 98) dX5_next_98 rfl rfl ?_
              refine tz_fI (pc := 99) (kz := 4) (v := (J 163 4)) dX5_next_99 fl_X5_9 i_163_4 rfl (Eq.trans (f1.2 4 (by decide) (by decide) (by decide)) rfl) (fun r_99 => ?_)
              have hmn : (J1 163 6 < J 163 4 → zmn (J1 163 6 + 1) (J 163 4) = J1 163 6 + 1) ∧ (¬ J1 163 6 < J 163 4 → zmn (J1 163 6 + 1) (J 163 4) = J 163 4) := by unfold zmn; constructor <;> intro q <;> split <;> omega
              have hS : tkS (J 162) (J 163 4) (J 163 7) = J1 163 6 := tkS_eq h1.1 h1.2 g1 (by omega)
              refine tz_mn (pc := 102) (v := zmn (J1 163 6 + 1) (J 163 4)) dX5_next_102 ml_X5_59 (Nat.le_of_ble_eq_true rfl) (Nat.le_of_ble_eq_true rfl) (Nat.le_of_ble_eq_true rfl) (Nat.le_of_ble_eq_true rfl) (by omega) (by omega) rfl ?_
              refine tz_pI (pc := 105) (kz := 7) dX5_next_105 fl_X5_21 i_163_7 rfl rfl (by omega) ?_
              have loop108 : ∀ (f9 : Nat) (J2 : zJ), ((J 163 4 - J2 163 7).toNat) < f9 → ((zOf (zbut [163]) J2 J ∧ ∀ k, ¬ k = 5 → ¬ k = 6 → ¬ k = 7 → J2 163 k = J 163 k)) → (J2 163 6 = J1 163 6) → (J2 163 5 = 0) → (J2 163 7 = J 163 4) → tz_At l G M_X5_next (tb_rm 1 0 0) none (tb_ZM G 0 0 (zQ n 0 (zqv (fun J' => (zOf (zbut [163]) J' J ∧ ∀ k, ¬ k = 5 → ¬ k = 6 → ¬ k = 7 → J' 163 k = J 163 k) ∧ J' 163 6 = tkS (J 162) (J 163 4) (J 163 7) ∧ J' 163 5 = tkK (J 162) (J 163 4) (J 163 7) ∧ J' 163 7 = tkE (J 162) (J 163 4) (J 163 7)))) (zX n 0 zN)) 0 0 n J2 108 [some (.ref 163)] [] := by
                intro f9
                induction f9 with
                | zero => intro J2 hm9; exact absurd hm9 (Nat.not_lt_zero _)
                | succ f9 ih108 =>
                  intro J2 hm108 f2 e6 e5 h2
                  refine tz_aload_n (pc := 108) dX5_next_108 rfl rfl ?_
                  refine tz_fI (pc := 109) (kz := 5) (v := 0) dX5_next_109 fl_X5_15 i_163_5 rfl e5 (fun _ => ?_)
                  refine tz_iconst (pc := 112) dX5_next_112 ?_
                  refine tz_icmp_eqF (pc := 113) (tgt := 124) (by decide) dX5_next_113 (by decide) (by decide) (by decide) ?_
                  refine tz_aload_n (pc := 116) dX5_next_116 rfl rfl ?_
                  refine tz_fI (pc := 117) (kz := 5) (v := 0) dX5_next_117 fl_X5_15 i_163_5 rfl e5 (fun _ => ?_)
                  refine tz_iconst (pc := 120) dX5_next_120 ?_
                  refine tz_icmp_neT (pc := 121) (tgt := 167) (by decide) dX5_next_121 (by decide) (by decide) (by decide) ?_
                  exact tz_vret (pc := 167) dX5_next_167 rfl (Nat.le_of_ble_eq_true rfl) (Nat.le_of_ble_eq_true rfl) ⟨Nat.le_refl _, Nat.le_add_right _ _⟩ ⟨rfl, ⟨f2, e6.trans hS.symm, e5.trans (tkK_0 hS (by omega)).1.symm, h2.trans (tkK_0 hS (by omega)).2.symm⟩⟩
              exact loop108 _ _ (Nat.lt_succ_self _) ⟨zOf.up rfl (zOf.up rfl f1.1), fun k x y z => by rw [zup_ne z, zup_ne x]; exact f1.2 k x y z⟩ rfl rfl (by rw [zup_at, hmn.2 (by omega)])
            · refine tz_aload_n (pc := 72) dX5_next_72 rfl rfl ?_
              refine tz_fR (pc := 73) dX5_next_73 fl_X5_34 r_163_0 ?_
              refine tz_aload_n (pc := 76) dX5_next_76 rfl rfl ?_
              refine tz_fI (pc := 77) (kz := 6) (v := (J1 163 6)) dX5_next_77 fl_X5_18 i_163_6 rfl rfl (fun r_77 => ?_)
              refine tz_aL (pc := 80) (z := (J1 163 6)) (v := (J 162 (J1 163 6))) dX5_next_80 a_162 rfl (by omega) (Eq.trans (congrFun (f1.1 162 rfl) (J1 163 6)) rfl) (fun r_80 => ?_)
              refine tz_cS (pc := 81) (x_kindOf hl n _ _ (by omega)) sl_X5_101 dX5_next_81 rfl rfl (Nat.le_of_ble_eq_true rfl) ⟨(Nat.le_of_ble_eq_true rfl), (Nat.le_of_ble_eq_true rfl)⟩ rfl rfl (Nat.le_of_ble_eq_true rfl) (Nat.le_of_ble_eq_true rfl) (fun r9 J_81 hq9 => ?_)
              obtain ⟨z_81, rfl, hz_81, rfl, hk_81⟩ := hq9
              refine tz_goto (pc := 84) (tgt := 88) dX5_next_84 (by decide) ?_
              refine tz_pI (pc := 88) (kz := 5) dX5_next_88 fl_X5_15 i_163_5 rfl rfl (by omega) ?_
              refine tz_aload_n (pc := 91) dX5_next_91 rfl rfl ?_
              refine tz_aload_n (pc := 92) dX5_next_92 rfl rfl ?_
              refine tz_fI (pc := 93) (kz := 6) (v := (J1 163 6)) dX5_next_93 fl_X5_18 i_163_6 rfl rfl (fun r_93 => ?_)
              refine tz_iconst (pc := 96) dX5_next_96 ?_
              refine tz_iadd (pc := 97) (v := (J1 163 6) + 1) dX5_next_97 rfl ?_
              refine tz_aload_n (pc := 98) dX5_next_98 rfl rfl ?_
              refine tz_fI (pc := 99) (kz := 4) (v := (J 163 4)) dX5_next_99 fl_X5_9 i_163_4 rfl (Eq.trans (f1.2 4 (by decide) (by decide) (by decide)) rfl) (fun r_99 => ?_)
              have hmn : (J1 163 6 < J 163 4 → zmn (J1 163 6 + 1) (J 163 4) = J1 163 6 + 1) ∧ (¬ J1 163 6 < J 163 4 → zmn (J1 163 6 + 1) (J 163 4) = J 163 4) := by unfold zmn; constructor <;> intro q <;> split <;> omega
              have hS : tkS (J 162) (J 163 4) (J 163 7) = J1 163 6 := tkS_eq h1.1 h1.2 g1 (by omega)
              refine tz_mn (pc := 102) (v := zmn (J1 163 6 + 1) (J 163 4)) dX5_next_102 ml_X5_59 (Nat.le_of_ble_eq_true rfl) (Nat.le_of_ble_eq_true rfl) (Nat.le_of_ble_eq_true rfl) (Nat.le_of_ble_eq_true rfl) (by omega) (by omega) rfl ?_
              refine tz_pI (pc := 105) (kz := 7) dX5_next_105 fl_X5_21 i_163_7 rfl rfl (by omega) ?_
              have loop108 : ∀ (f9 : Nat) (J2 : zJ), ((J 163 4 - J2 163 7).toNat) < f9 → ((zOf (zbut [163]) J2 J ∧ ∀ k, ¬ k = 5 → ¬ k = 6 → ¬ k = 7 → J2 163 k = J 163 k)) → (J2 163 6 = J1 163 6) → (J2 163 5 = z_81) → (J1 163 6 + 1 ≤ J2 163 7 ∧ J2 163 7 ≤ J 163 4) → (∀ q, J1 163 6 + 1 ≤ q → q < J2 163 7 → kdB (J 162 q) = z_81) → ((z_81 = 2 ∨ z_81 = 3) ∨ J2 163 7 = J1 163 6 + 1) → tz_At l G M_X5_next (tb_rm 1 0 0) none (tb_ZM G 0 0 (zQ n 0 (zqv (fun J' => (zOf (zbut [163]) J' J ∧ ∀ k, ¬ k = 5 → ¬ k = 6 → ¬ k = 7 → J' 163 k = J 163 k) ∧ J' 163 6 = tkS (J 162) (J 163 4) (J 163 7) ∧ J' 163 5 = tkK (J 162) (J 163 4) (J 163 7) ∧ J' 163 7 = tkE (J 162) (J 163 4) (J 163 7)))) (zX n 0 zN)) 0 0 n J2 108 [some (.ref 163)] [] := by
                intro f9
                induction f9 with
                | zero => intro J2 hm9; exact absurd hm9 (Nat.not_lt_zero _)
                | succ f9 ih108 =>
                  intro J2 hm108 f2 e6 e5 h2 h3 h5
                  refine tz_aload_n (pc := 108) dX5_next_108 rfl rfl ?_
                  refine tz_fI (pc := 109) (kz := 5) (v := z_81) dX5_next_109 fl_X5_15 i_163_5 rfl e5 (fun r_109 => ?_)
                  refine tz_iconst (pc := 112) dX5_next_112 ?_
                  refine tz_icmp_eq (pc := 113) (tgt := 124) dX5_next_113 (by decide) (by omega) (by decide) (fun h_113 => ?_) (fun h_113 => ?_)
                  · refine tz_aload_n (pc := 124) dX5_next_124 rfl rfl ?_
                    refine tz_fI (pc := 125) (kz := 7) (v := (J2 163 7)) dX5_next_125 fl_X5_21 i_163_7 rfl rfl (fun r_125 => ?_)
                    refine tz_aload_n (pc := 128) dX5_next_128 rfl rfl ?_
                    refine tz_fI (pc := 129) (kz := 4) (v := (J 163 4)) dX5_next_129 fl_X5_9 i_163_4 rfl (Eq.trans (f2.2 4 (by decide) (by decide) (by decide)) rfl) (fun r_129 => ?_)
                    refine tz_icmp_ge (pc := 132) (tgt := 167) dX5_next_132 (by decide) (by omega) (by omega) (fun h_132 => ?_) (fun h_132 => ?_)
                    · exact tz_vret (pc := 167) dX5_next_167 rfl (Nat.le_of_ble_eq_true rfl) (Nat.le_of_ble_eq_true rfl) ⟨Nat.le_refl _, Nat.le_add_right _ _⟩ ⟨rfl, ⟨f2, e6.trans hS.symm, (e5.trans (hk_81.symm.trans (tkK_1 hS (by omega)).symm)), (by rcases (show (z_81 = 2 ∨ z_81 = 3) ∨ ¬ (z_81 = 2 ∨ z_81 = 3) by omega) with q | q; exact (tkE_2 hS (by omega) hk_81 q h2.1 h2.2 h3 (by omega)).symm; rw [tkE_1 hS (by omega) hk_81 q]; omega)⟩⟩
                    · refine tz_aload_n (pc := 135) dX5_next_135 rfl rfl ?_
                      refine tz_fR (pc := 136) dX5_next_136 fl_X5_34 r_163_0 ?_
                      refine tz_aload_n (pc := 139) dX5_next_139 rfl rfl ?_
                      refine tz_fI (pc := 140) (kz := 7) (v := (J2 163 7)) dX5_next_140 fl_X5_21 i_163_7 rfl rfl (fun r_140 => ?_)
                      refine tz_aL (pc := 143) (z := (J2 163 7)) (v := (J 162 (J2 163 7))) dX5_next_143 a_162 rfl (by omega) (Eq.trans (congrFun (f2.1 162 rfl) (J2 163 7)) rfl) (fun r_143 => ?_)
                      refine tz_cS (pc := 144) (x_kindOf hl n _ _ (by omega)) sl_X5_101 dX5_next_144 rfl rfl (Nat.le_of_ble_eq_true rfl) ⟨(Nat.le_of_ble_eq_true rfl), (Nat.le_of_ble_eq_true rfl)⟩ rfl rfl (Nat.le_of_ble_eq_true rfl) (Nat.le_of_ble_eq_true rfl) (fun r9 J_144 hq9 => ?_)
                      obtain ⟨z_144, rfl, hz_144, rfl, hk_144⟩ := hq9
                      refine tz_aload_n (pc := 147) dX5_next_147 rfl rfl ?_
                      refine tz_fI (pc := 148) (kz := 5) (v := z_81) dX5_next_148 fl_X5_15 i_163_5 rfl e5 (fun r_148 => ?_)
                      refine tz_icmp_ne (pc := 151) (tgt := 167) dX5_next_151 (by decide) (by omega) (by omega) (fun h_151 => ?_) (fun h_151 => ?_)
                      · exact tz_vret (pc := 167) dX5_next_167 rfl (Nat.le_of_ble_eq_true rfl) (Nat.le_of_ble_eq_true rfl) ⟨Nat.le_refl _, Nat.le_add_right _ _⟩ ⟨rfl, ⟨f2, e6.trans hS.symm, (e5.trans (hk_81.symm.trans (tkK_1 hS (by omega)).symm)), (by rcases (show (z_81 = 2 ∨ z_81 = 3) ∨ ¬ (z_81 = 2 ∨ z_81 = 3) by omega) with q | q; exact (tkE_2 hS (by omega) hk_81 q h2.1 h2.2 h3 (by omega)).symm; rw [tkE_1 hS (by omega) hk_81 q]; omega)⟩⟩
                      · refine tz_aload_n (pc := 154) dX5_next_154 rfl rfl ?_
                        refine tz_dup (pc := 155) dX5_next_155 rfl ?_
                        refine tz_fI (pc := 156) (kz := 7) (v := (J2 163 7)) dX5_next_156 fl_X5_21 i_163_7 rfl rfl (fun r_156 => ?_)
                        refine tz_iconst (pc := 159) dX5_next_159 ?_
                        refine tz_iadd (pc := 160) (v := (J2 163 7) + 1) dX5_next_160 rfl ?_
                        refine tz_pI (pc := 161) (kz := 7) dX5_next_161 fl_X5_21 i_163_7 rfl rfl (by omega) ?_
                        refine tz_goto (pc := 164) (tgt := 108) dX5_next_164 (by decide) ?_
                        exact ih108 _ (by rw [zup_at]; omega) ⟨zOf.up rfl f2.1, fun k a b c => (zup_ne c).trans (f2.2 k a b c)⟩ ((zup_ne (by decide)).trans e6) ((zup_ne (by decide)).trans e5) (by rw [zup_at]; omega) (fun q x y => by rw [zup_at] at y; exact (Decidable.em (q = J2 163 7)).elim (fun e => by rw [e]; omega) (fun e => h3 q x (by omega))) (Or.inl (by omega))
                  · refine tz_aload_n (pc := 116) dX5_next_116 rfl rfl ?_
                    refine tz_fI (pc := 117) (kz := 5) (v := z_81) dX5_next_117 fl_X5_15 i_163_5 rfl e5 (fun r_117 => ?_)
                    refine tz_iconst (pc := 120) dX5_next_120 ?_
                    refine tz_icmp_ne (pc := 121) (tgt := 167) dX5_next_121 (by decide) (by omega) (by decide) (fun h_121 => ?_) (fun h_121 => ?_)
                    · exact tz_vret (pc := 167) dX5_next_167 rfl (Nat.le_of_ble_eq_true rfl) (Nat.le_of_ble_eq_true rfl) ⟨Nat.le_refl _, Nat.le_add_right _ _⟩ ⟨rfl, ⟨f2, e6.trans hS.symm, (e5.trans (hk_81.symm.trans (tkK_1 hS (by omega)).symm)), (by rcases (show (z_81 = 2 ∨ z_81 = 3) ∨ ¬ (z_81 = 2 ∨ z_81 = 3) by omega) with q | q; exact (tkE_2 hS (by omega) hk_81 q h2.1 h2.2 h3 (by omega)).symm; rw [tkE_1 hS (by omega) hk_81 q]; omega)⟩⟩
                    · refine tz_aload_n (pc := 124) dX5_next_124 rfl rfl ?_
                      refine tz_fI (pc := 125) (kz := 7) (v := (J2 163 7)) dX5_next_125 fl_X5_21 i_163_7 rfl rfl (fun r_125 => ?_)
                      refine tz_aload_n (pc := 128) dX5_next_128 rfl rfl ?_
                      refine tz_fI (pc := 129) (kz := 4) (v := (J 163 4)) dX5_next_129 fl_X5_9 i_163_4 rfl (Eq.trans (f2.2 4 (by decide) (by decide) (by decide)) rfl) (fun r_129 => ?_)
                      refine tz_icmp_ge (pc := 132) (tgt := 167) dX5_next_132 (by decide) (by omega) (by omega) (fun h_132 => ?_) (fun h_132 => ?_)
                      · exact tz_vret (pc := 167) dX5_next_167 rfl (Nat.le_of_ble_eq_true rfl) (Nat.le_of_ble_eq_true rfl) ⟨Nat.le_refl _, Nat.le_add_right _ _⟩ ⟨rfl, ⟨f2, e6.trans hS.symm, (e5.trans (hk_81.symm.trans (tkK_1 hS (by omega)).symm)), (by rcases (show (z_81 = 2 ∨ z_81 = 3) ∨ ¬ (z_81 = 2 ∨ z_81 = 3) by omega) with q | q; exact (tkE_2 hS (by omega) hk_81 q h2.1 h2.2 h3 (by omega)).symm; rw [tkE_1 hS (by omega) hk_81 q]; omega)⟩⟩
                      · refine tz_aload_n (pc := 135) dX5_next_135 rfl rfl ?_
                        refine tz_fR (pc := 136) dX5_next_136 fl_X5_34 r_163_0 ?_
                        refine tz_aload_n (pc := 139) dX5_next_139 rfl rfl ?_
                        refine tz_fI (pc := 140) (kz := 7) (v := (J2 163 7)) dX5_next_140 fl_X5_21 i_163_7 rfl rfl (fun r_140 => ?_)
                        refine tz_aL (pc := 143) (z := (J2 163 7)) (v := (J 162 (J2 163 7))) dX5_next_143 a_162 rfl (by omega) (Eq.trans (congrFun (f2.1 162 rfl) (J2 163 7)) rfl) (fun r_143 => ?_)
                        refine tz_cS (pc := 144) (x_kindOf hl n _ _ (by omega)) sl_X5_101 dX5_next_144 rfl rfl (Nat.le_of_ble_eq_true rfl) ⟨(Nat.le_of_ble_eq_true rfl), (Nat.le_of_ble_eq_true rfl)⟩ rfl rfl (Nat.le_of_ble_eq_true rfl) (Nat.le_of_ble_eq_true rfl) (fun r9 J_144 hq9 => ?_)
                        obtain ⟨z_144, rfl, hz_144, rfl, hk_144⟩ := hq9
                        refine tz_aload_n (pc := 147) dX5_next_147 rfl rfl ?_
                        refine tz_fI (pc := 148) (kz := 5) (v := z_81) dX5_next_148 fl_X5_15 i_163_5 rfl e5 (fun r_148 => ?_)
                        refine tz_icmp_ne (pc := 151) (tgt := 167) dX5_next_151 (by decide) (by omega) (by omega) (fun h_151 => ?_) (fun h_151 => ?_)
                        · exact tz_vret (pc := 167) dX5_next_167 rfl (Nat.le_of_ble_eq_true rfl) (Nat.le_of_ble_eq_true rfl) ⟨Nat.le_refl _, Nat.le_add_right _ _⟩ ⟨rfl, ⟨f2, e6.trans hS.symm, (e5.trans (hk_81.symm.trans (tkK_1 hS (by omega)).symm)), (by rcases (show (z_81 = 2 ∨ z_81 = 3) ∨ ¬ (z_81 = 2 ∨ z_81 = 3) by omega) with q | q; exact (tkE_2 hS (by omega) hk_81 q h2.1 h2.2 h3 (by omega)).symm; rw [tkE_1 hS (by omega) hk_81 q]; omega)⟩⟩
                        · refine tz_aload_n (pc := 154) dX5_next_154 rfl rfl ?_
                          refine tz_dup (pc := 155) dX5_next_155 rfl ?_
                          refine tz_fI (pc := 156) (kz := 7) (v := (J2 163 7)) dX5_next_156 fl_X5_21 i_163_7 rfl rfl (fun r_156 => ?_)
                          refine tz_iconst (pc := 159) dX5_next_159 ?_
                          refine tz_iadd (pc := 160) (v := (J2 163 7) + 1) dX5_next_160 rfl ?_
                          refine tz_pI (pc := 161) (kz := 7) dX5_next_161 fl_X5_21 i_163_7 rfl rfl (by omega) ?_
                          refine tz_goto (pc := 164) (tgt := 108) dX5_next_164 (by decide) ?_
                          exact ih108 _ (by rw [zup_at]; omega) ⟨zOf.up rfl f2.1, fun k a b c => (zup_ne c).trans (f2.2 k a b c)⟩ ((zup_ne (by decide)).trans e6) ((zup_ne (by decide)).trans e5) (by rw [zup_at]; omega) (fun q x y => by rw [zup_at] at y; exact (Decidable.em (q = J2 163 7)).elim (fun e => by rw [e]; omega) (fun e => h3 q x (by omega))) (Or.inl (by omega))
              exact loop108 _ _ (Nat.lt_succ_self _) ⟨zOf.up rfl (zOf.up rfl f1.1), fun k x y z => by rw [zup_ne z, zup_ne x]; exact f1.2 k x y z⟩ rfl rfl (by rw [zup_at, hmn.1 (by omega)]; omega) (fun q x y => by rw [zup_at, hmn.1 (by omega)] at y; omega) (Or.inr (by rw [zup_at, hmn.1 (by omega)]))
          · refine tz_aload_n (pc := 47) dX5_next_47 rfl rfl ?_
            refine tz_dup (pc := 48) dX5_next_48 rfl ?_
            refine tz_fI (pc := 49) (kz := 6) (v := (J1 163 6)) dX5_next_49 fl_X5_18 i_163_6 rfl rfl (fun r_49 => ?_)
            refine tz_iconst (pc := 52) dX5_next_52 ?_
            refine tz_iadd (pc := 53) (v := (J1 163 6) + 1) dX5_next_53 rfl ?_
            refine tz_pI (pc := 54) (kz := 6) dX5_next_54 fl_X5_18 i_163_6 rfl rfl (by omega) ?_
            refine tz_goto (pc := 57) (tgt := 8) dX5_next_57 (by decide) ?_
            exact ih8 _ (by rw [zup_at]; omega) ⟨zOf.up rfl f1.1, fun k a b c => (zup_ne b).trans (f1.2 k a b c)⟩ (by rw [zup_at]; omega) (fun q x y => by rw [zup_at] at y; exact (Decidable.em (q = J1 163 6)).elim (fun e => by rw [e]; omega) (fun e => g1 q x (by omega)))
  exact loop8 _ _ (Nat.lt_succ_self _) ⟨zOf.up rfl zOf.rf, fun k _ b _ => zup_ne b⟩ (by rw [zup_at]; omega) (fun q x y => by rw [zup_at] at y; omega)

end
section
/-! ===== known words ===== -/
def mpB (f : Int → Int) (x y : Int) (w : List Int) (k : Nat) : Prop := ∀ j : Nat, j < k → x + (j : Int) < y ∧ f (x + (j : Int)) = w.getD j 0
def mtB (f : Int → Int) (x y : Int) (w : List Int) : Prop := mpB f x y w w.length ∧ y = x + (w.length : Int)
theorem mp_0 {f : Int → Int} {x y : Int} {w : List Int} : mpB f x y w 0 := fun j h => absurd h (Nat.not_lt_zero _)
theorem mp_s {f : Int → Int} {x y : Int} {w : List Int} {k : Nat} (h : mpB f x y w k) (h1 : x + (k : Int) < y) (h2 : f (x + (k : Int)) = w.getD k 0) : mpB f x y w (k + 1) := fun j hj => by
  by_cases e : j = k
  · subst e; exact ⟨h1, h2⟩
  · exact h j (by omega)
theorem mp_p {f : Int → Int} {x y : Int} {w : List Int} {k : Nat} (h : mpB f x y w (k + 1)) : mpB f x y w k ∧ x + (k : Int) < y ∧ f (x + (k : Int)) = w.getD k 0 := ⟨fun j hj => h j (by omega), h k (by omega)⟩
/-- which of the known words, or none -/
def WD (f : Int → Int) (x y z : Int) : Prop := (mtB f x y [115, 121, 109, 98, 111, 108] ∧ z = 0) ∨ (¬ mtB f x y [115, 121, 109, 98, 111, 108] ∧ ((mtB f x y [116, 101, 114, 109] ∧ z = 1) ∨ (¬ mtB f x y [116, 101, 114, 109] ∧ ((mtB f x y [114, 117, 108, 101] ∧ z = 2) ∨ (¬ mtB f x y [114, 117, 108, 101] ∧ ((mtB f x y [101, 110, 116, 114, 121] ∧ z = 3) ∨ (¬ mtB f x y [101, 110, 116, 114, 121] ∧ ((mtB f x y [114, 111, 111, 109] ∧ z = 4) ∨ (¬ mtB f x y [114, 111, 111, 109] ∧ ((mtB f x y [116, 111] ∧ z = 5) ∨ (¬ mtB f x y [116, 111] ∧ z = -1)))))))))))
set_option maxHeartbeats 4000000 in
set_option maxRecDepth 100000 in
theorem x_wordFrom {l : Launch} {G : tb_G} (hl : l.stackTraces = false) (n : Nat) (J : zJ) (x : Int) (y : Int) (hr_x : -2147483648 ≤ x ∧ x < 2147483648) (hr_y : -2147483648 ≤ y ∧ y < 2147483648) (h0 : 0 ≤ x ∧ x ≤ 700) (h1 : J 164 37 ≤ 700) (h2 : y ≤ J 164 37) : tz_Ok l G M_X12_wordFrom 1 0 0 [.ref 164, zi x, zi y] n J (zqi (fun z J' => J = J' ∧ WD (J 173) x y z)) zN := by
  refine tz_Ok.of hl (by decide +kernel) rfl (tb_c1 rfl) (Nat.le_of_ble_eq_true rfl) ?_
  show tz_At l G M_X12_wordFrom (tb_rm 1 0 0) none (tb_ZM G 0 0 (zQ n 0 (zqi (fun z J' => J = J' ∧ WD (J 173) x y z))) (zX n 0 zN)) 0 0 n J 0 [some (.ref 164), some (zi x), some (zi y), none, none, none, none] []
  have s_30 : ∀ e : Int, (e = 0 ∨ e = 1) → (e = 1 ↔ mpB (J 173) x y [116, 111] 2) → (¬ mtB (J 173) x y [115, 121, 109, 98, 111, 108] ∧ ¬ mtB (J 173) x y [116, 101, 114, 109] ∧ ¬ mtB (J 173) x y [114, 117, 108, 101] ∧ ¬ mtB (J 173) x y [101, 110, 116, 114, 121] ∧ ¬ mtB (J 173) x y [114, 111, 111, 109]) → tz_At l G M_X12_wordFrom (tb_rm 1 0 0) none (tb_ZM G 0 0 (zQ n 0 (zqi (fun z J' => J = J' ∧ WD (J 173) x y z))) (zX n 0 zN)) 0 0 n J 11 [some (.ref 164), some (zi x), some (zi y), some (zi 5), some (zi (x + 2)), some (zi e), some (zi 30)] [] := by
    intro e h01 he nm
    refine tz_iload (pc := 11) dX12_wordFrom_11 rfl ?_
    refine tz_knL (pc := 13) dX12_wordFrom_13 dX12_wordFrom_16 (by decide +kernel) ?_
    refine tz_icmp_geF (pc := 17) (tgt := 98) (by decide) dX12_wordFrom_17 (by decide) (by decide) (by decide) ?_
    refine tz_knD (pc := 20) (k9 := 30) (v := 32) (by decide) (by decide) rfl dX12_wordFrom_20 dX12_wordFrom_23 dX12_wordFrom_25 (by decide +kernel) ?_
    refine tz_bipush (pc := 26) dX12_wordFrom_26 (by decide) ?_
    refine tz_icmp_neF (pc := 28) (tgt := 56) (by decide) dX12_wordFrom_28 (by decide) (by decide) (by decide) ?_
    refine tz_iload (pc := 31) dX12_wordFrom_31 rfl ?_
    refine tz_if_eq (pc := 33) (tgt := 44) dX12_wordFrom_33 (by decide) (by omega) (fun h_33 => ?_) (fun h_33 => ?_)
    · refine tz_iinc (pc := 44) (z := 6) (L2 := [_, _, _, _, _, _, _]) dX12_wordFrom_44 rfl (by decide) rfl ?_
      refine tz_iload_n (pc := 47) dX12_wordFrom_47 rfl rfl ?_
      refine tz_istore (pc := 48) (L2 := [_, _, _, _, _, _, _]) dX12_wordFrom_48 (by decide) rfl ?_
      refine tz_iconst (pc := 50) dX12_wordFrom_50 ?_
      refine tz_istore (pc := 51) (L2 := [_, _, _, _, _, _, _]) dX12_wordFrom_51 (by decide) rfl ?_
      refine tz_goto (pc := 53) (tgt := 92) dX12_wordFrom_53 (by decide) ?_
      refine tz_iinc (pc := 92) (z := 31) (L2 := [_, _, _, _, _, _, _]) dX12_wordFrom_92 rfl (by decide) rfl ?_
      refine tz_goto (pc := 95) (tgt := 11) dX12_wordFrom_95 (by decide) ?_
      have nt : ¬ mtB (J 173) x y [116, 111] := fun q => by
        have q1 := he.2 q.1
        have q2 : y = x + 2 := q.2
        omega
      have nm6 : ¬ mtB (J 173) x y [115, 121, 109, 98, 111, 108] ∧ ¬ mtB (J 173) x y [116, 101, 114, 109] ∧ ¬ mtB (J 173) x y [114, 117, 108, 101] ∧ ¬ mtB (J 173) x y [101, 110, 116, 114, 121] ∧ ¬ mtB (J 173) x y [114, 111, 111, 109] ∧ ¬ mtB (J 173) x y [116, 111] := ⟨nm.1, nm.2.1, nm.2.2.1, nm.2.2.2.1, nm.2.2.2.2, nt⟩
      refine tz_iload (pc := 11) dX12_wordFrom_11 rfl ?_
      refine tz_knL (pc := 13) dX12_wordFrom_13 dX12_wordFrom_16 (by decide +kernel) ?_
      refine tz_icmp_geT (pc := 17) (tgt := 98) (by decide) dX12_wordFrom_17 (by decide) (by decide) (by decide) ?_
      refine tz_iconst (pc := 98) dX12_wordFrom_98 ?_
      exact tz_iret (pc := 99) (z := (-1)) dX12_wordFrom_99 rfl (Nat.le_of_ble_eq_true rfl) (Nat.le_of_ble_eq_true rfl) ⟨Nat.le_refl _, Nat.le_add_right _ _⟩ ⟨_, rfl, (by decide), ⟨rfl, Or.inr ⟨nm6.1, Or.inr ⟨nm6.2.1, Or.inr ⟨nm6.2.2.1, Or.inr ⟨nm6.2.2.2.1, Or.inr ⟨nm6.2.2.2.2.1, Or.inr ⟨nm6.2.2.2.2.2, rfl⟩⟩⟩⟩⟩⟩⟩⟩
    · refine tz_iload (pc := 36) dX12_wordFrom_36 rfl ?_
      refine tz_iload_n (pc := 38) dX12_wordFrom_38 rfl rfl ?_
      refine tz_icmp_ne (pc := 39) (tgt := 44) dX12_wordFrom_39 (by decide) (by omega) (by omega) (fun h_39 => ?_) (fun h_39 => ?_)
      · refine tz_iinc (pc := 44) (z := 6) (L2 := [_, _, _, _, _, _, _]) dX12_wordFrom_44 rfl (by decide) rfl ?_
        refine tz_iload_n (pc := 47) dX12_wordFrom_47 rfl rfl ?_
        refine tz_istore (pc := 48) (L2 := [_, _, _, _, _, _, _]) dX12_wordFrom_48 (by decide) rfl ?_
        refine tz_iconst (pc := 50) dX12_wordFrom_50 ?_
        refine tz_istore (pc := 51) (L2 := [_, _, _, _, _, _, _]) dX12_wordFrom_51 (by decide) rfl ?_
        refine tz_goto (pc := 53) (tgt := 92) dX12_wordFrom_53 (by decide) ?_
        refine tz_iinc (pc := 92) (z := 31) (L2 := [_, _, _, _, _, _, _]) dX12_wordFrom_92 rfl (by decide) rfl ?_
        refine tz_goto (pc := 95) (tgt := 11) dX12_wordFrom_95 (by decide) ?_
        have nt : ¬ mtB (J 173) x y [116, 111] := fun q => by
          have q1 := he.2 q.1
          have q2 : y = x + 2 := q.2
          omega
        have nm6 : ¬ mtB (J 173) x y [115, 121, 109, 98, 111, 108] ∧ ¬ mtB (J 173) x y [116, 101, 114, 109] ∧ ¬ mtB (J 173) x y [114, 117, 108, 101] ∧ ¬ mtB (J 173) x y [101, 110, 116, 114, 121] ∧ ¬ mtB (J 173) x y [114, 111, 111, 109] ∧ ¬ mtB (J 173) x y [116, 111] := ⟨nm.1, nm.2.1, nm.2.2.1, nm.2.2.2.1, nm.2.2.2.2, nt⟩
        refine tz_iload (pc := 11) dX12_wordFrom_11 rfl ?_
        refine tz_knL (pc := 13) dX12_wordFrom_13 dX12_wordFrom_16 (by decide +kernel) ?_
        refine tz_icmp_geT (pc := 17) (tgt := 98) (by decide) dX12_wordFrom_17 (by decide) (by decide) (by decide) ?_
        refine tz_iconst (pc := 98) dX12_wordFrom_98 ?_
        exact tz_iret (pc := 99) (z := (-1)) dX12_wordFrom_99 rfl (Nat.le_of_ble_eq_true rfl) (Nat.le_of_ble_eq_true rfl) ⟨Nat.le_refl _, Nat.le_add_right _ _⟩ ⟨_, rfl, (by decide), ⟨rfl, Or.inr ⟨nm6.1, Or.inr ⟨nm6.2.1, Or.inr ⟨nm6.2.2.1, Or.inr ⟨nm6.2.2.2.1, Or.inr ⟨nm6.2.2.2.2.1, Or.inr ⟨nm6.2.2.2.2.2, rfl⟩⟩⟩⟩⟩⟩⟩⟩
      · refine tz_iload_n (pc := 42) dX12_wordFrom_42 rfl rfl ?_
        exact tz_iret (pc := 43) (z := 5) dX12_wordFrom_43 rfl (Nat.le_of_ble_eq_true rfl) (Nat.le_of_ble_eq_true rfl) ⟨Nat.le_refl _, Nat.le_add_right _ _⟩ ⟨_, rfl, (by decide), ⟨rfl, Or.inr ⟨nm.1, Or.inr ⟨nm.2.1, Or.inr ⟨nm.2.2.1, Or.inr ⟨nm.2.2.2.1, Or.inr ⟨nm.2.2.2.2, Or.inl ⟨(show mtB (J 173) x y [116, 111] from ⟨he.1 (by omega), (show y = x + 2 by omega)⟩), rfl⟩⟩⟩⟩⟩⟩⟩⟩
  have s_29 : ∀ e : Int, (e = 0 ∨ e = 1) → (e = 1 ↔ mpB (J 173) x y [116, 111] 1) → (¬ mtB (J 173) x y [115, 121, 109, 98, 111, 108] ∧ ¬ mtB (J 173) x y [116, 101, 114, 109] ∧ ¬ mtB (J 173) x y [114, 117, 108, 101] ∧ ¬ mtB (J 173) x y [101, 110, 116, 114, 121] ∧ ¬ mtB (J 173) x y [114, 111, 111, 109]) → tz_At l G M_X12_wordFrom (tb_rm 1 0 0) none (tb_ZM G 0 0 (zQ n 0 (zqi (fun z J' => J = J' ∧ WD (J 173) x y z))) (zX n 0 zN)) 0 0 n J 11 [some (.ref 164), some (zi x), some (zi y), some (zi 5), some (zi (x + 1)), some (zi e), some (zi 29)] [] := by
    intro e h01 he nm
    refine tz_iload (pc := 11) dX12_wordFrom_11 rfl ?_
    refine tz_knL (pc := 13) dX12_wordFrom_13 dX12_wordFrom_16 (by decide +kernel) ?_
    refine tz_icmp_geF (pc := 17) (tgt := 98) (by decide) dX12_wordFrom_17 (by decide) (by decide) (by decide) ?_
    refine tz_knD (pc := 20) (k9 := 29) (v := 111) (by decide) (by decide) rfl dX12_wordFrom_20 dX12_wordFrom_23 dX12_wordFrom_25 (by decide +kernel) ?_
    refine tz_bipush (pc := 26) dX12_wordFrom_26 (by decide) ?_
    refine tz_icmp_neT (pc := 28) (tgt := 56) (by decide) dX12_wordFrom_28 (by decide) (by decide) (by decide) ?_
    refine tz_iload (pc := 56) dX12_wordFrom_56 rfl ?_
    refine tz_if_eq (pc := 58) (tgt := 86) dX12_wordFrom_58 (by decide) (by omega) (fun h_58 => ?_) (fun h_58 => ?_)
    · refine tz_iconst (pc := 86) dX12_wordFrom_86 ?_
      refine tz_istore (pc := 87) (L2 := [_, _, _, _, _, _, _]) dX12_wordFrom_87 (by decide) rfl ?_
      refine tz_iinc (pc := 89) (z := (x + 1) + 1) (L2 := [_, _, _, _, _, _, _]) dX12_wordFrom_89 rfl (by omega) rfl ?_
      refine tz_iinc (pc := 92) (z := 30) (L2 := [_, _, _, _, _, _, _]) dX12_wordFrom_92 rfl (by decide) rfl ?_
      refine tz_goto (pc := 95) (tgt := 11) dX12_wordFrom_95 (by decide) ?_
      have g9 := s_30 0 (by decide) ⟨fun q => absurd q (by decide), fun q => by have q1 := mp_p q; have q2 := he.2 q1.1; have q3 : x + 1 < y ∧ J 173 (x + 1) = 111 := q1.2; omega⟩ nm
      rw [show x + 2 = x + 1 + 1 by omega] at g9
      exact g9
    · refine tz_iload (pc := 61) dX12_wordFrom_61 rfl ?_
      refine tz_iload_n (pc := 63) dX12_wordFrom_63 rfl rfl ?_
      refine tz_icmp_ge (pc := 64) (tgt := 86) dX12_wordFrom_64 (by decide) (by omega) (by omega) (fun h_64 => ?_) (fun h_64 => ?_)
      · refine tz_iconst (pc := 86) dX12_wordFrom_86 ?_
        refine tz_istore (pc := 87) (L2 := [_, _, _, _, _, _, _]) dX12_wordFrom_87 (by decide) rfl ?_
        refine tz_iinc (pc := 89) (z := (x + 1) + 1) (L2 := [_, _, _, _, _, _, _]) dX12_wordFrom_89 rfl (by omega) rfl ?_
        refine tz_iinc (pc := 92) (z := 30) (L2 := [_, _, _, _, _, _, _]) dX12_wordFrom_92 rfl (by decide) rfl ?_
        refine tz_goto (pc := 95) (tgt := 11) dX12_wordFrom_95 (by decide) ?_
        have g9 := s_30 0 (by decide) ⟨fun q => absurd q (by decide), fun q => by have q1 := mp_p q; have q2 := he.2 q1.1; have q3 : x + 1 < y ∧ J 173 (x + 1) = 111 := q1.2; omega⟩ nm
        rw [show x + 2 = x + 1 + 1 by omega] at g9
        exact g9
      · refine tz_aload_n (pc := 67) dX12_wordFrom_67 rfl rfl ?_
        refine tz_iload (pc := 68) dX12_wordFrom_68 rfl ?_
        refine tz_cV (pc := 70) (m_byteAt hl n _ _ (by omega) (by omega) (by omega)) vl_X12_240 dX12_wordFrom_70 o_164 rfl rfl (Nat.le_of_ble_eq_true rfl) ⟨(Nat.le_of_ble_eq_true rfl), (Nat.le_of_ble_eq_true rfl)⟩ rfl rfl (Nat.le_of_ble_eq_true rfl) (Nat.le_of_ble_eq_true rfl) (fun r9 J_70 hq9 => ?_)
        obtain ⟨z_70, rfl, hz_70, rfl, hb70, hc70⟩ := hq9
        refine tz_knD (pc := 73) (k9 := 29) (v := 111) (by decide) (by decide) rfl dX12_wordFrom_73 dX12_wordFrom_76 dX12_wordFrom_78 (by decide +kernel) ?_
        refine tz_icmp_ne (pc := 79) (tgt := 86) dX12_wordFrom_79 (by decide) (by omega) (by decide) (fun h_79 => ?_) (fun h_79 => ?_)
        · refine tz_iconst (pc := 86) dX12_wordFrom_86 ?_
          refine tz_istore (pc := 87) (L2 := [_, _, _, _, _, _, _]) dX12_wordFrom_87 (by decide) rfl ?_
          refine tz_iinc (pc := 89) (z := (x + 1) + 1) (L2 := [_, _, _, _, _, _, _]) dX12_wordFrom_89 rfl (by omega) rfl ?_
          refine tz_iinc (pc := 92) (z := 30) (L2 := [_, _, _, _, _, _, _]) dX12_wordFrom_92 rfl (by decide) rfl ?_
          refine tz_goto (pc := 95) (tgt := 11) dX12_wordFrom_95 (by decide) ?_
          have g9 := s_30 0 (by decide) ⟨fun q => absurd q (by decide), fun q => by have q1 := mp_p q; have q2 := he.2 q1.1; have q3 : x + 1 < y ∧ J 173 (x + 1) = 111 := q1.2; omega⟩ nm
          rw [show x + 2 = x + 1 + 1 by omega] at g9
          exact g9
        · refine tz_iconst (pc := 82) dX12_wordFrom_82 ?_
          refine tz_goto (pc := 83) (tgt := 87) dX12_wordFrom_83 (by decide) ?_
          refine tz_istore (pc := 87) (L2 := [_, _, _, _, _, _, _]) dX12_wordFrom_87 (by decide) rfl ?_
          refine tz_iinc (pc := 89) (z := (x + 1) + 1) (L2 := [_, _, _, _, _, _, _]) dX12_wordFrom_89 rfl (by omega) rfl ?_
          refine tz_iinc (pc := 92) (z := 30) (L2 := [_, _, _, _, _, _, _]) dX12_wordFrom_92 rfl (by decide) rfl ?_
          refine tz_goto (pc := 95) (tgt := 11) dX12_wordFrom_95 (by decide) ?_
          have g9 := s_30 1 (by decide) ⟨fun _ => mp_s (he.1 (by omega)) (show x + 1 < y by omega) (show J 173 (x + 1) = 111 by omega), fun _ => rfl⟩ nm
          rw [show x + 2 = x + 1 + 1 by omega] at g9
          exact g9
  have s_28 : ∀ e : Int, (e = 0 ∨ e = 1) → (e = 1 ↔ mpB (J 173) x y [116, 111] 0) → (¬ mtB (J 173) x y [115, 121, 109, 98, 111, 108] ∧ ¬ mtB (J 173) x y [116, 101, 114, 109] ∧ ¬ mtB (J 173) x y [114, 117, 108, 101] ∧ ¬ mtB (J 173) x y [101, 110, 116, 114, 121] ∧ ¬ mtB (J 173) x y [114, 111, 111, 109]) → tz_At l G M_X12_wordFrom (tb_rm 1 0 0) none (tb_ZM G 0 0 (zQ n 0 (zqi (fun z J' => J = J' ∧ WD (J 173) x y z))) (zX n 0 zN)) 0 0 n J 11 [some (.ref 164), some (zi x), some (zi y), some (zi 5), some (zi (x + 0)), some (zi e), some (zi 28)] [] := by
    intro e h01 he nm
    refine tz_iload (pc := 11) dX12_wordFrom_11 rfl ?_
    refine tz_knL (pc := 13) dX12_wordFrom_13 dX12_wordFrom_16 (by decide +kernel) ?_
    refine tz_icmp_geF (pc := 17) (tgt := 98) (by decide) dX12_wordFrom_17 (by decide) (by decide) (by decide) ?_
    refine tz_knD (pc := 20) (k9 := 28) (v := 116) (by decide) (by decide) rfl dX12_wordFrom_20 dX12_wordFrom_23 dX12_wordFrom_25 (by decide +kernel) ?_
    refine tz_bipush (pc := 26) dX12_wordFrom_26 (by decide) ?_
    refine tz_icmp_neT (pc := 28) (tgt := 56) (by decide) dX12_wordFrom_28 (by decide) (by decide) (by decide) ?_
    refine tz_iload (pc := 56) dX12_wordFrom_56 rfl ?_
    refine tz_if_eq (pc := 58) (tgt := 86) dX12_wordFrom_58 (by decide) (by omega) (fun h_58 => ?_) (fun h_58 => ?_)
    · refine tz_iconst (pc := 86) dX12_wordFrom_86 ?_
      refine tz_istore (pc := 87) (L2 := [_, _, _, _, _, _, _]) dX12_wordFrom_87 (by decide) rfl ?_
      refine tz_iinc (pc := 89) (z := (x + 0) + 1) (L2 := [_, _, _, _, _, _, _]) dX12_wordFrom_89 rfl (by omega) rfl ?_
      refine tz_iinc (pc := 92) (z := 29) (L2 := [_, _, _, _, _, _, _]) dX12_wordFrom_92 rfl (by decide) rfl ?_
      refine tz_goto (pc := 95) (tgt := 11) dX12_wordFrom_95 (by decide) ?_
      have g9 := s_29 0 (by decide) ⟨fun q => absurd q (by decide), fun q => by have q1 := mp_p q; have q2 := he.2 q1.1; have q3 : x + 0 < y ∧ J 173 (x + 0) = 116 := q1.2; omega⟩ nm
      rw [show x + 1 = x + 0 + 1 by omega] at g9
      exact g9
    · refine tz_iload (pc := 61) dX12_wordFrom_61 rfl ?_
      refine tz_iload_n (pc := 63) dX12_wordFrom_63 rfl rfl ?_
      refine tz_icmp_ge (pc := 64) (tgt := 86) dX12_wordFrom_64 (by decide) (by omega) (by omega) (fun h_64 => ?_) (fun h_64 => ?_)
      · refine tz_iconst (pc := 86) dX12_wordFrom_86 ?_
        refine tz_istore (pc := 87) (L2 := [_, _, _, _, _, _, _]) dX12_wordFrom_87 (by decide) rfl ?_
        refine tz_iinc (pc := 89) (z := (x + 0) + 1) (L2 := [_, _, _, _, _, _, _]) dX12_wordFrom_89 rfl (by omega) rfl ?_
        refine tz_iinc (pc := 92) (z := 29) (L2 := [_, _, _, _, _, _, _]) dX12_wordFrom_92 rfl (by decide) rfl ?_
        refine tz_goto (pc := 95) (tgt := 11) dX12_wordFrom_95 (by decide) ?_
        have g9 := s_29 0 (by decide) ⟨fun q => absurd q (by decide), fun q => by have q1 := mp_p q; have q2 := he.2 q1.1; have q3 : x + 0 < y ∧ J 173 (x + 0) = 116 := q1.2; omega⟩ nm
        rw [show x + 1 = x + 0 + 1 by omega] at g9
        exact g9
      · refine tz_aload_n (pc := 67) dX12_wordFrom_67 rfl rfl ?_
        refine tz_iload (pc := 68) dX12_wordFrom_68 rfl ?_
        refine tz_cV (pc := 70) (m_byteAt hl n _ _ (by omega) (by omega) (by omega)) vl_X12_240 dX12_wordFrom_70 o_164 rfl rfl (Nat.le_of_ble_eq_true rfl) ⟨(Nat.le_of_ble_eq_true rfl), (Nat.le_of_ble_eq_true rfl)⟩ rfl rfl (Nat.le_of_ble_eq_true rfl) (Nat.le_of_ble_eq_true rfl) (fun r9 J_70 hq9 => ?_)
        obtain ⟨z_70, rfl, hz_70, rfl, hb70, hc70⟩ := hq9
        refine tz_knD (pc := 73) (k9 := 28) (v := 116) (by decide) (by decide) rfl dX12_wordFrom_73 dX12_wordFrom_76 dX12_wordFrom_78 (by decide +kernel) ?_
        refine tz_icmp_ne (pc := 79) (tgt := 86) dX12_wordFrom_79 (by decide) (by omega) (by decide) (fun h_79 => ?_) (fun h_79 => ?_)
        · refine tz_iconst (pc := 86) dX12_wordFrom_86 ?_
          refine tz_istore (pc := 87) (L2 := [_, _, _, _, _, _, _]) dX12_wordFrom_87 (by decide) rfl ?_
          refine tz_iinc (pc := 89) (z := (x + 0) + 1) (L2 := [_, _, _, _, _, _, _]) dX12_wordFrom_89 rfl (by omega) rfl ?_
          refine tz_iinc (pc := 92) (z := 29) (L2 := [_, _, _, _, _, _, _]) dX12_wordFrom_92 rfl (by decide) rfl ?_
          refine tz_goto (pc := 95) (tgt := 11) dX12_wordFrom_95 (by decide) ?_
          have g9 := s_29 0 (by decide) ⟨fun q => absurd q (by decide), fun q => by have q1 := mp_p q; have q2 := he.2 q1.1; have q3 : x + 0 < y ∧ J 173 (x + 0) = 116 := q1.2; omega⟩ nm
          rw [show x + 1 = x + 0 + 1 by omega] at g9
          exact g9
        · refine tz_iconst (pc := 82) dX12_wordFrom_82 ?_
          refine tz_goto (pc := 83) (tgt := 87) dX12_wordFrom_83 (by decide) ?_
          refine tz_istore (pc := 87) (L2 := [_, _, _, _, _, _, _]) dX12_wordFrom_87 (by decide) rfl ?_
          refine tz_iinc (pc := 89) (z := (x + 0) + 1) (L2 := [_, _, _, _, _, _, _]) dX12_wordFrom_89 rfl (by omega) rfl ?_
          refine tz_iinc (pc := 92) (z := 29) (L2 := [_, _, _, _, _, _, _]) dX12_wordFrom_92 rfl (by decide) rfl ?_
          refine tz_goto (pc := 95) (tgt := 11) dX12_wordFrom_95 (by decide) ?_
          have g9 := s_29 1 (by decide) ⟨fun _ => mp_s (he.1 (by omega)) (show x + 0 < y by omega) (show J 173 (x + 0) = 116 by omega), fun _ => rfl⟩ nm
          rw [show x + 1 = x + 0 + 1 by omega] at g9
          exact g9
  have s_27 : ∀ e : Int, (e = 0 ∨ e = 1) → (e = 1 ↔ mpB (J 173) x y [114, 111, 111, 109] 4) → (¬ mtB (J 173) x y [115, 121, 109, 98, 111, 108] ∧ ¬ mtB (J 173) x y [116, 101, 114, 109] ∧ ¬ mtB (J 173) x y [114, 117, 108, 101] ∧ ¬ mtB (J 173) x y [101, 110, 116, 114, 121]) → tz_At l G M_X12_wordFrom (tb_rm 1 0 0) none (tb_ZM G 0 0 (zQ n 0 (zqi (fun z J' => J = J' ∧ WD (J 173) x y z))) (zX n 0 zN)) 0 0 n J 11 [some (.ref 164), some (zi x), some (zi y), some (zi 4), some (zi (x + 4)), some (zi e), some (zi 27)] [] := by
    intro e h01 he nm
    refine tz_iload (pc := 11) dX12_wordFrom_11 rfl ?_
    refine tz_knL (pc := 13) dX12_wordFrom_13 dX12_wordFrom_16 (by decide +kernel) ?_
    refine tz_icmp_geF (pc := 17) (tgt := 98) (by decide) dX12_wordFrom_17 (by decide) (by decide) (by decide) ?_
    refine tz_knD (pc := 20) (k9 := 27) (v := 32) (by decide) (by decide) rfl dX12_wordFrom_20 dX12_wordFrom_23 dX12_wordFrom_25 (by decide +kernel) ?_
    refine tz_bipush (pc := 26) dX12_wordFrom_26 (by decide) ?_
    refine tz_icmp_neF (pc := 28) (tgt := 56) (by decide) dX12_wordFrom_28 (by decide) (by decide) (by decide) ?_
    refine tz_iload (pc := 31) dX12_wordFrom_31 rfl ?_
    refine tz_if_eq (pc := 33) (tgt := 44) dX12_wordFrom_33 (by decide) (by omega) (fun h_33 => ?_) (fun h_33 => ?_)
    · refine tz_iinc (pc := 44) (z := 5) (L2 := [_, _, _, _, _, _, _]) dX12_wordFrom_44 rfl (by decide) rfl ?_
      refine tz_iload_n (pc := 47) dX12_wordFrom_47 rfl rfl ?_
      refine tz_istore (pc := 48) (L2 := [_, _, _, _, _, _, _]) dX12_wordFrom_48 (by decide) rfl ?_
      refine tz_iconst (pc := 50) dX12_wordFrom_50 ?_
      refine tz_istore (pc := 51) (L2 := [_, _, _, _, _, _, _]) dX12_wordFrom_51 (by decide) rfl ?_
      refine tz_goto (pc := 53) (tgt := 92) dX12_wordFrom_53 (by decide) ?_
      refine tz_iinc (pc := 92) (z := 28) (L2 := [_, _, _, _, _, _, _]) dX12_wordFrom_92 rfl (by decide) rfl ?_
      refine tz_goto (pc := 95) (tgt := 11) dX12_wordFrom_95 (by decide) ?_
      have nt : ¬ mtB (J 173) x y [114, 111, 111, 109] := fun q => by
        have q1 := he.2 q.1
        have q2 : y = x + 4 := q.2
        omega
      have g9 := s_28 1 (Or.inr rfl) ⟨fun _ => mp_0, fun _ => rfl⟩ (⟨nm.1, nm.2.1, nm.2.2.1, nm.2.2.2, nt⟩)
      rw [show x + 0 = x from Int.add_zero x] at g9
      exact g9
    · refine tz_iload (pc := 36) dX12_wordFrom_36 rfl ?_
      refine tz_iload_n (pc := 38) dX12_wordFrom_38 rfl rfl ?_
      refine tz_icmp_ne (pc := 39) (tgt := 44) dX12_wordFrom_39 (by decide) (by omega) (by omega) (fun h_39 => ?_) (fun h_39 => ?_)
      · refine tz_iinc (pc := 44) (z := 5) (L2 := [_, _, _, _, _, _, _]) dX12_wordFrom_44 rfl (by decide) rfl ?_
        refine tz_iload_n (pc := 47) dX12_wordFrom_47 rfl rfl ?_
        refine tz_istore (pc := 48) (L2 := [_, _, _, _, _, _, _]) dX12_wordFrom_48 (by decide) rfl ?_
        refine tz_iconst (pc := 50) dX12_wordFrom_50 ?_
        refine tz_istore (pc := 51) (L2 := [_, _, _, _, _, _, _]) dX12_wordFrom_51 (by decide) rfl ?_
        refine tz_goto (pc := 53) (tgt := 92) dX12_wordFrom_53 (by decide) ?_
        refine tz_iinc (pc := 92) (z := 28) (L2 := [_, _, _, _, _, _, _]) dX12_wordFrom_92 rfl (by decide) rfl ?_
        refine tz_goto (pc := 95) (tgt := 11) dX12_wordFrom_95 (by decide) ?_
        have nt : ¬ mtB (J 173) x y [114, 111, 111, 109] := fun q => by
          have q1 := he.2 q.1
          have q2 : y = x + 4 := q.2
          omega
        have g9 := s_28 1 (Or.inr rfl) ⟨fun _ => mp_0, fun _ => rfl⟩ (⟨nm.1, nm.2.1, nm.2.2.1, nm.2.2.2, nt⟩)
        rw [show x + 0 = x from Int.add_zero x] at g9
        exact g9
      · refine tz_iload_n (pc := 42) dX12_wordFrom_42 rfl rfl ?_
        exact tz_iret (pc := 43) (z := 4) dX12_wordFrom_43 rfl (Nat.le_of_ble_eq_true rfl) (Nat.le_of_ble_eq_true rfl) ⟨Nat.le_refl _, Nat.le_add_right _ _⟩ ⟨_, rfl, (by decide), ⟨rfl, Or.inr ⟨nm.1, Or.inr ⟨nm.2.1, Or.inr ⟨nm.2.2.1, Or.inr ⟨nm.2.2.2, Or.inl ⟨(show mtB (J 173) x y [114, 111, 111, 109] from ⟨he.1 (by omega), (show y = x + 4 by omega)⟩), rfl⟩⟩⟩⟩⟩⟩⟩
  have s_26 : ∀ e : Int, (e = 0 ∨ e = 1) → (e = 1 ↔ mpB (J 173) x y [114, 111, 111, 109] 3) → (¬ mtB (J 173) x y [115, 121, 109, 98, 111, 108] ∧ ¬ mtB (J 173) x y [116, 101, 114, 109] ∧ ¬ mtB (J 173) x y [114, 117, 108, 101] ∧ ¬ mtB (J 173) x y [101, 110, 116, 114, 121]) → tz_At l G M_X12_wordFrom (tb_rm 1 0 0) none (tb_ZM G 0 0 (zQ n 0 (zqi (fun z J' => J = J' ∧ WD (J 173) x y z))) (zX n 0 zN)) 0 0 n J 11 [some (.ref 164), some (zi x), some (zi y), some (zi 4), some (zi (x + 3)), some (zi e), some (zi 26)] [] := by
    intro e h01 he nm
    refine tz_iload (pc := 11) dX12_wordFrom_11 rfl ?_
    refine tz_knL (pc := 13) dX12_wordFrom_13 dX12_wordFrom_16 (by decide +kernel) ?_
    refine tz_icmp_geF (pc := 17) (tgt := 98) (by decide) dX12_wordFrom_17 (by decide) (by decide) (by decide) ?_
    refine tz_knD (pc := 20) (k9 := 26) (v := 109) (by decide) (by decide) rfl dX12_wordFrom_20 dX12_wordFrom_23 dX12_wordFrom_25 (by decide +kernel) ?_
    refine tz_bipush (pc := 26) dX12_wordFrom_26 (by decide) ?_
    refine tz_icmp_neT (pc := 28) (tgt := 56) (by decide) dX12_wordFrom_28 (by decide) (by decide) (by decide) ?_
    refine tz_iload (pc := 56) dX12_wordFrom_56 rfl ?_
    refine tz_if_eq (pc := 58) (tgt := 86) dX12_wordFrom_58 (by decide) (by omega) (fun h_58 => ?_) (fun h_58 => ?_)
    · refine tz_iconst (pc := 86) dX12_wordFrom_86 ?_
      refine tz_istore (pc := 87) (L2 := [_, _, _, _, _, _, _]) dX12_wordFrom_87 (by decide) rfl ?_
      refine tz_iinc (pc := 89) (z := (x + 3) + 1) (L2 := [_, _, _, _, _, _, _]) dX12_wordFrom_89 rfl (by omega) rfl ?_
      refine tz_iinc (pc := 92) (z := 27) (L2 := [_, _, _, _, _, _, _]) dX12_wordFrom_92 rfl (by decide) rfl ?_
      refine tz_goto (pc := 95) (tgt := 11) dX12_wordFrom_95 (by decide) ?_
      have g9 := s_27 0 (by decide) ⟨fun q => absurd q (by decide), fun q => by have q1 := mp_p q; have q2 := he.2 q1.1; have q3 : x + 3 < y ∧ J 173 (x + 3) = 109 := q1.2; omega⟩ nm
      rw [show x + 4 = x + 3 + 1 by omega] at g9
      exact g9
    · refine tz_iload (pc := 61) dX12_wordFrom_61 rfl ?_
      refine tz_iload_n (pc := 63) dX12_wordFrom_63 rfl rfl ?_
      refine tz_icmp_ge (pc := 64) (tgt := 86) dX12_wordFrom_64 (by decide) (by omega) (by omega) (fun h_64 => ?_) (fun h_64 => ?_)
      · refine tz_iconst (pc := 86) dX12_wordFrom_86 ?_
        refine tz_istore (pc := 87) (L2 := [_, _, _, _, _, _, _]) dX12_wordFrom_87 (by decide) rfl ?_
        refine tz_iinc (pc := 89) (z := (x + 3) + 1) (L2 := [_, _, _, _, _, _, _]) dX12_wordFrom_89 rfl (by omega) rfl ?_
        refine tz_iinc (pc := 92) (z := 27) (L2 := [_, _, _, _, _, _, _]) dX12_wordFrom_92 rfl (by decide) rfl ?_
        refine tz_goto (pc := 95) (tgt := 11) dX12_wordFrom_95 (by decide) ?_
        have g9 := s_27 0 (by decide) ⟨fun q => absurd q (by decide), fun q => by have q1 := mp_p q; have q2 := he.2 q1.1; have q3 : x + 3 < y ∧ J 173 (x + 3) = 109 := q1.2; omega⟩ nm
        rw [show x + 4 = x + 3 + 1 by omega] at g9
        exact g9
      · refine tz_aload_n (pc := 67) dX12_wordFrom_67 rfl rfl ?_
        refine tz_iload (pc := 68) dX12_wordFrom_68 rfl ?_
        refine tz_cV (pc := 70) (m_byteAt hl n _ _ (by omega) (by omega) (by omega)) vl_X12_240 dX12_wordFrom_70 o_164 rfl rfl (Nat.le_of_ble_eq_true rfl) ⟨(Nat.le_of_ble_eq_true rfl), (Nat.le_of_ble_eq_true rfl)⟩ rfl rfl (Nat.le_of_ble_eq_true rfl) (Nat.le_of_ble_eq_true rfl) (fun r9 J_70 hq9 => ?_)
        obtain ⟨z_70, rfl, hz_70, rfl, hb70, hc70⟩ := hq9
        refine tz_knD (pc := 73) (k9 := 26) (v := 109) (by decide) (by decide) rfl dX12_wordFrom_73 dX12_wordFrom_76 dX12_wordFrom_78 (by decide +kernel) ?_
        refine tz_icmp_ne (pc := 79) (tgt := 86) dX12_wordFrom_79 (by decide) (by omega) (by decide) (fun h_79 => ?_) (fun h_79 => ?_)
        · refine tz_iconst (pc := 86) dX12_wordFrom_86 ?_
          refine tz_istore (pc := 87) (L2 := [_, _, _, _, _, _, _]) dX12_wordFrom_87 (by decide) rfl ?_
          refine tz_iinc (pc := 89) (z := (x + 3) + 1) (L2 := [_, _, _, _, _, _, _]) dX12_wordFrom_89 rfl (by omega) rfl ?_
          refine tz_iinc (pc := 92) (z := 27) (L2 := [_, _, _, _, _, _, _]) dX12_wordFrom_92 rfl (by decide) rfl ?_
          refine tz_goto (pc := 95) (tgt := 11) dX12_wordFrom_95 (by decide) ?_
          have g9 := s_27 0 (by decide) ⟨fun q => absurd q (by decide), fun q => by have q1 := mp_p q; have q2 := he.2 q1.1; have q3 : x + 3 < y ∧ J 173 (x + 3) = 109 := q1.2; omega⟩ nm
          rw [show x + 4 = x + 3 + 1 by omega] at g9
          exact g9
        · refine tz_iconst (pc := 82) dX12_wordFrom_82 ?_
          refine tz_goto (pc := 83) (tgt := 87) dX12_wordFrom_83 (by decide) ?_
          refine tz_istore (pc := 87) (L2 := [_, _, _, _, _, _, _]) dX12_wordFrom_87 (by decide) rfl ?_
          refine tz_iinc (pc := 89) (z := (x + 3) + 1) (L2 := [_, _, _, _, _, _, _]) dX12_wordFrom_89 rfl (by omega) rfl ?_
          refine tz_iinc (pc := 92) (z := 27) (L2 := [_, _, _, _, _, _, _]) dX12_wordFrom_92 rfl (by decide) rfl ?_
          refine tz_goto (pc := 95) (tgt := 11) dX12_wordFrom_95 (by decide) ?_
          have g9 := s_27 1 (by decide) ⟨fun _ => mp_s (he.1 (by omega)) (show x + 3 < y by omega) (show J 173 (x + 3) = 109 by omega), fun _ => rfl⟩ nm
          rw [show x + 4 = x + 3 + 1 by omega] at g9
          exact g9
  have s_25 : ∀ e : Int, (e = 0 ∨ e = 1) → (e = 1 ↔ mpB (J 173) x y [114, 111, 111, 109] 2) → (¬ mtB (J 173) x y [115, 121, 109, 98, 111, 108] ∧ ¬ mtB (J 173) x y [116, 101, 114, 109] ∧ ¬ mtB (J 173) x y [114, 117, 108, 101] ∧ ¬ mtB (J 173) x y [101, 110, 116, 114, 121]) → tz_At l G M_X12_wordFrom (tb_rm 1 0 0) none (tb_ZM G 0 0 (zQ n 0 (zqi (fun z J' => J = J' ∧ WD (J 173) x y z))) (zX n 0 zN)) 0 0 n J 11 [some (.ref 164), some (zi x), some (zi y), some (zi 4), some (zi (x + 2)), some (zi e), some (zi 25)] [] := by
    intro e h01 he nm
    refine tz_iload (pc := 11) dX12_wordFrom_11 rfl ?_
    refine tz_knL (pc := 13) dX12_wordFrom_13 dX12_wordFrom_16 (by decide +kernel) ?_
    refine tz_icmp_geF (pc := 17) (tgt := 98) (by decide) dX12_wordFrom_17 (by decide) (by decide) (by decide) ?_
    refine tz_knD (pc := 20) (k9 := 25) (v := 111) (by decide) (by decide) rfl dX12_wordFrom_20 dX12_wordFrom_23 dX12_wordFrom_25 (by decide +kernel) ?_
    refine tz_bipush (pc := 26) dX12_wordFrom_26 (by decide) ?_
    refine tz_icmp_neT (pc := 28) (tgt := 56) (by decide) dX12_wordFrom_28 (by decide) (by decide) (by decide) ?_
    refine tz_iload (pc := 56) dX12_wordFrom_56 rfl ?_
    refine tz_if_eq (pc := 58) (tgt := 86) dX12_wordFrom_58 (by decide) (by omega) (fun h_58 => ?_) (fun h_58 => ?_)
    · refine tz_iconst (pc := 86) dX12_wordFrom_86 ?_
      refine tz_istore (pc := 87) (L2 := [_, _, _, _, _, _, _]) dX12_wordFrom_87 (by decide) rfl ?_
      refine tz_iinc (pc := 89) (z := (x + 2) + 1) (L2 := [_, _, _, _, _, _, _]) dX12_wordFrom_89 rfl (by omega) rfl ?_
      refine tz_iinc (pc := 92) (z := 26) (L2 := [_, _, _, _, _, _, _]) dX12_wordFrom_92 rfl (by decide) rfl ?_
      refine tz_goto (pc := 95) (tgt := 11) dX12_wordFrom_95 (by decide) ?_
      have g9 := s_26 0 (by decide) ⟨fun q => absurd q (by decide), fun q => by have q1 := mp_p q; have q2 := he.2 q1.1; have q3 : x + 2 < y ∧ J 173 (x + 2) = 111 := q1.2; omega⟩ nm
      rw [show x + 3 = x + 2 + 1 by omega] at g9
      exact g9
    · refine tz_iload (pc := 61) dX12_wordFrom_61 rfl ?_
      refine tz_iload_n (pc := 63) dX12_wordFrom_63 rfl rfl ?_
      refine tz_icmp_ge (pc := 64) (tgt := 86) dX12_wordFrom_64 (by decide) (by omega) (by omega) (fun h_64 => ?_) (fun h_64 => ?_)
      · refine tz_iconst (pc := 86) dX12_wordFrom_86 ?_
        refine tz_istore (pc := 87) (L2 := [_, _, _, _, _, _, _]) dX12_wordFrom_87 (by decide) rfl ?_
        refine tz_iinc (pc := 89) (z := (x + 2) + 1) (L2 := [_, _, _, _, _, _, _]) dX12_wordFrom_89 rfl (by omega) rfl ?_
        refine tz_iinc (pc := 92) (z := 26) (L2 := [_, _, _, _, _, _, _]) dX12_wordFrom_92 rfl (by decide) rfl ?_
        refine tz_goto (pc := 95) (tgt := 11) dX12_wordFrom_95 (by decide) ?_
        have g9 := s_26 0 (by decide) ⟨fun q => absurd q (by decide), fun q => by have q1 := mp_p q; have q2 := he.2 q1.1; have q3 : x + 2 < y ∧ J 173 (x + 2) = 111 := q1.2; omega⟩ nm
        rw [show x + 3 = x + 2 + 1 by omega] at g9
        exact g9
      · refine tz_aload_n (pc := 67) dX12_wordFrom_67 rfl rfl ?_
        refine tz_iload (pc := 68) dX12_wordFrom_68 rfl ?_
        refine tz_cV (pc := 70) (m_byteAt hl n _ _ (by omega) (by omega) (by omega)) vl_X12_240 dX12_wordFrom_70 o_164 rfl rfl (Nat.le_of_ble_eq_true rfl) ⟨(Nat.le_of_ble_eq_true rfl), (Nat.le_of_ble_eq_true rfl)⟩ rfl rfl (Nat.le_of_ble_eq_true rfl) (Nat.le_of_ble_eq_true rfl) (fun r9 J_70 hq9 => ?_)
        obtain ⟨z_70, rfl, hz_70, rfl, hb70, hc70⟩ := hq9
        refine tz_knD (pc := 73) (k9 := 25) (v := 111) (by decide) (by decide) rfl dX12_wordFrom_73 dX12_wordFrom_76 dX12_wordFrom_78 (by decide +kernel) ?_
        refine tz_icmp_ne (pc := 79) (tgt := 86) dX12_wordFrom_79 (by decide) (by omega) (by decide) (fun h_79 => ?_) (fun h_79 => ?_)
        · refine tz_iconst (pc := 86) dX12_wordFrom_86 ?_
          refine tz_istore (pc := 87) (L2 := [_, _, _, _, _, _, _]) dX12_wordFrom_87 (by decide) rfl ?_
          refine tz_iinc (pc := 89) (z := (x + 2) + 1) (L2 := [_, _, _, _, _, _, _]) dX12_wordFrom_89 rfl (by omega) rfl ?_
          refine tz_iinc (pc := 92) (z := 26) (L2 := [_, _, _, _, _, _, _]) dX12_wordFrom_92 rfl (by decide) rfl ?_
          refine tz_goto (pc := 95) (tgt := 11) dX12_wordFrom_95 (by decide) ?_
          have g9 := s_26 0 (by decide) ⟨fun q => absurd q (by decide), fun q => by have q1 := mp_p q; have q2 := he.2 q1.1; have q3 : x + 2 < y ∧ J 173 (x + 2) = 111 := q1.2; omega⟩ nm
          rw [show x + 3 = x + 2 + 1 by omega] at g9
          exact g9
        · refine tz_iconst (pc := 82) dX12_wordFrom_82 ?_
          refine tz_goto (pc := 83) (tgt := 87) dX12_wordFrom_83 (by decide) ?_
          refine tz_istore (pc := 87) (L2 := [_, _, _, _, _, _, _]) dX12_wordFrom_87 (by decide) rfl ?_
          refine tz_iinc (pc := 89) (z := (x + 2) + 1) (L2 := [_, _, _, _, _, _, _]) dX12_wordFrom_89 rfl (by omega) rfl ?_
          refine tz_iinc (pc := 92) (z := 26) (L2 := [_, _, _, _, _, _, _]) dX12_wordFrom_92 rfl (by decide) rfl ?_
          refine tz_goto (pc := 95) (tgt := 11) dX12_wordFrom_95 (by decide) ?_
          have g9 := s_26 1 (by decide) ⟨fun _ => mp_s (he.1 (by omega)) (show x + 2 < y by omega) (show J 173 (x + 2) = 111 by omega), fun _ => rfl⟩ nm
          rw [show x + 3 = x + 2 + 1 by omega] at g9
          exact g9
  have s_24 : ∀ e : Int, (e = 0 ∨ e = 1) → (e = 1 ↔ mpB (J 173) x y [114, 111, 111, 109] 1) → (¬ mtB (J 173) x y [115, 121, 109, 98, 111, 108] ∧ ¬ mtB (J 173) x y [116, 101, 114, 109] ∧ ¬ mtB (J 173) x y [114, 117, 108, 101] ∧ ¬ mtB (J 173) x y [101, 110, 116, 114, 121]) → tz_At l G M_X12_wordFrom (tb_rm 1 0 0) none (tb_ZM G 0 0 (zQ n 0 (zqi (fun z J' => J = J' ∧ WD (J 173) x y z))) (zX n 0 zN)) 0 0 n J 11 [some (.ref 164), some (zi x), some (zi y), some (zi 4), some (zi (x + 1)), some (zi e), some (zi 24)] [] := by
    intro e h01 he nm
    refine tz_iload (pc := 11) dX12_wordFrom_11 rfl ?_
    refine tz_knL (pc := 13) dX12_wordFrom_13 dX12_wordFrom_16 (by decide +kernel) ?_
    refine tz_icmp_geF (pc := 17) (tgt := 98) (by decide) dX12_wordFrom_17 (by decide) (by decide) (by decide) ?_
    refine tz_knD (pc := 20) (k9 := 24) (v := 111) (by decide) (by decide) rfl dX12_wordFrom_20 dX12_wordFrom_23 dX12_wordFrom_25 (by decide +kernel) ?_
    refine tz_bipush (pc := 26) dX12_wordFrom_26 (by decide) ?_
    refine tz_icmp_neT (pc := 28) (tgt := 56) (by decide) dX12_wordFrom_28 (by decide) (by decide) (by decide) ?_
    refine tz_iload (pc := 56) dX12_wordFrom_56 rfl ?_
    refine tz_if_eq (pc := 58) (tgt := 86) dX12_wordFrom_58 (by decide) (by omega) (fun h_58 => ?_) (fun h_58 => ?_)
    · refine tz_iconst (pc := 86) dX12_wordFrom_86 ?_
      refine tz_istore (pc := 87) (L2 := [_, _, _, _, _, _, _]) dX12_wordFrom_87 (by decide) rfl ?_
      refine tz_iinc (pc := 89) (z := (x + 1) + 1) (L2 := [_, _, _, _, _, _, _]) dX12_wordFrom_89 rfl (by omega) rfl ?_
      refine tz_iinc (pc := 92) (z := 25) (L2 := [_, _, _, _, _, _, _]) dX12_wordFrom_92 rfl (by decide) rfl ?_
      refine tz_goto (pc := 95) (tgt := 11) dX12_wordFrom_95 (by decide) ?_
      have g9 := s_25 0 (by decide) ⟨fun q => absurd q (by decide), fun q => by have q1 := mp_p q; have q2 := he.2 q1.1; have q3 : x + 1 < y ∧ J 173 (x + 1) = 111 := q1.2; omega⟩ nm
      rw [show x + 2 = x + 1 + 1 by omega] at g9
      exact g9
    · refine tz_iload (pc := 61) dX12_wordFrom_61 rfl ?_
      refine tz_iload_n (pc := 63) dX12_wordFrom_63 rfl rfl ?_
      refine tz_icmp_ge (pc := 64) (tgt := 86) dX12_wordFrom_64 (by decide) (by omega) (by omega) (fun h_64 => ?_) (fun h_64 => ?_)
      · refine tz_iconst (pc := 86) dX12_wordFrom_86 ?_
        refine tz_istore (pc := 87) (L2 := [_, _, _, _, _, _, _]) dX12_wordFrom_87 (by decide) rfl ?_
        refine tz_iinc (pc := 89) (z := (x + 1) + 1) (L2 := [_, _, _, _, _, _, _]) dX12_wordFrom_89 rfl (by omega) rfl ?_
        refine tz_iinc (pc := 92) (z := 25) (L2 := [_, _, _, _, _, _, _]) dX12_wordFrom_92 rfl (by decide) rfl ?_
        refine tz_goto (pc := 95) (tgt := 11) dX12_wordFrom_95 (by decide) ?_
        have g9 := s_25 0 (by decide) ⟨fun q => absurd q (by decide), fun q => by have q1 := mp_p q; have q2 := he.2 q1.1; have q3 : x + 1 < y ∧ J 173 (x + 1) = 111 := q1.2; omega⟩ nm
        rw [show x + 2 = x + 1 + 1 by omega] at g9
        exact g9
      · refine tz_aload_n (pc := 67) dX12_wordFrom_67 rfl rfl ?_
        refine tz_iload (pc := 68) dX12_wordFrom_68 rfl ?_
        refine tz_cV (pc := 70) (m_byteAt hl n _ _ (by omega) (by omega) (by omega)) vl_X12_240 dX12_wordFrom_70 o_164 rfl rfl (Nat.le_of_ble_eq_true rfl) ⟨(Nat.le_of_ble_eq_true rfl), (Nat.le_of_ble_eq_true rfl)⟩ rfl rfl (Nat.le_of_ble_eq_true rfl) (Nat.le_of_ble_eq_true rfl) (fun r9 J_70 hq9 => ?_)
        obtain ⟨z_70, rfl, hz_70, rfl, hb70, hc70⟩ := hq9
        refine tz_knD (pc := 73) (k9 := 24) (v := 111) (by decide) (by decide) rfl dX12_wordFrom_73 dX12_wordFrom_76 dX12_wordFrom_78 (by decide +kernel) ?_
        refine tz_icmp_ne (pc := 79) (tgt := 86) dX12_wordFrom_79 (by decide) (by omega) (by decide) (fun h_79 => ?_) (fun h_79 => ?_)
        · refine tz_iconst (pc := 86) dX12_wordFrom_86 ?_
          refine tz_istore (pc := 87) (L2 := [_, _, _, _, _, _, _]) dX12_wordFrom_87 (by decide) rfl ?_
          refine tz_iinc (pc := 89) (z := (x + 1) + 1) (L2 := [_, _, _, _, _, _, _]) dX12_wordFrom_89 rfl (by omega) rfl ?_
          refine tz_iinc (pc := 92) (z := 25) (L2 := [_, _, _, _, _, _, _]) dX12_wordFrom_92 rfl (by decide) rfl ?_
          refine tz_goto (pc := 95) (tgt := 11) dX12_wordFrom_95 (by decide) ?_
          have g9 := s_25 0 (by decide) ⟨fun q => absurd q (by decide), fun q => by have q1 := mp_p q; have q2 := he.2 q1.1; have q3 : x + 1 < y ∧ J 173 (x + 1) = 111 := q1.2; omega⟩ nm
          rw [show x + 2 = x + 1 + 1 by omega] at g9
          exact g9
        · refine tz_iconst (pc := 82) dX12_wordFrom_82 ?_
          refine tz_goto (pc := 83) (tgt := 87) dX12_wordFrom_83 (by decide) ?_
          refine tz_istore (pc := 87) (L2 := [_, _, _, _, _, _, _]) dX12_wordFrom_87 (by decide) rfl ?_
          refine tz_iinc (pc := 89) (z := (x + 1) + 1) (L2 := [_, _, _, _, _, _, _]) dX12_wordFrom_89 rfl (by omega) rfl ?_
          refine tz_iinc (pc := 92) (z := 25) (L2 := [_, _, _, _, _, _, _]) dX12_wordFrom_92 rfl (by decide) rfl ?_
          refine tz_goto (pc := 95) (tgt := 11) dX12_wordFrom_95 (by decide) ?_
          have g9 := s_25 1 (by decide) ⟨fun _ => mp_s (he.1 (by omega)) (show x + 1 < y by omega) (show J 173 (x + 1) = 111 by omega), fun _ => rfl⟩ nm
          rw [show x + 2 = x + 1 + 1 by omega] at g9
          exact g9
  have s_23 : ∀ e : Int, (e = 0 ∨ e = 1) → (e = 1 ↔ mpB (J 173) x y [114, 111, 111, 109] 0) → (¬ mtB (J 173) x y [115, 121, 109, 98, 111, 108] ∧ ¬ mtB (J 173) x y [116, 101, 114, 109] ∧ ¬ mtB (J 173) x y [114, 117, 108, 101] ∧ ¬ mtB (J 173) x y [101, 110, 116, 114, 121]) → tz_At l G M_X12_wordFrom (tb_rm 1 0 0) none (tb_ZM G 0 0 (zQ n 0 (zqi (fun z J' => J = J' ∧ WD (J 173) x y z))) (zX n 0 zN)) 0 0 n J 11 [some (.ref 164), some (zi x), some (zi y), some (zi 4), some (zi (x + 0)), some (zi e), some (zi 23)] [] := by
    intro e h01 he nm
    refine tz_iload (pc := 11) dX12_wordFrom_11 rfl ?_
    refine tz_knL (pc := 13) dX12_wordFrom_13 dX12_wordFrom_16 (by decide +kernel) ?_
    refine tz_icmp_geF (pc := 17) (tgt := 98) (by decide) dX12_wordFrom_17 (by decide) (by decide) (by decide) ?_
    refine tz_knD (pc := 20) (k9 := 23) (v := 114) (by decide) (by decide) rfl dX12_wordFrom_20 dX12_wordFrom_23 dX12_wordFrom_25 (by decide +kernel) ?_
    refine tz_bipush (pc := 26) dX12_wordFrom_26 (by decide) ?_
    refine tz_icmp_neT (pc := 28) (tgt := 56) (by decide) dX12_wordFrom_28 (by decide) (by decide) (by decide) ?_
    refine tz_iload (pc := 56) dX12_wordFrom_56 rfl ?_
    refine tz_if_eq (pc := 58) (tgt := 86) dX12_wordFrom_58 (by decide) (by omega) (fun h_58 => ?_) (fun h_58 => ?_)
    · refine tz_iconst (pc := 86) dX12_wordFrom_86 ?_
      refine tz_istore (pc := 87) (L2 := [_, _, _, _, _, _, _]) dX12_wordFrom_87 (by decide) rfl ?_
      refine tz_iinc (pc := 89) (z := (x + 0) + 1) (L2 := [_, _, _, _, _, _, _]) dX12_wordFrom_89 rfl (by omega) rfl ?_
      refine tz_iinc (pc := 92) (z := 24) (L2 := [_, _, _, _, _, _, _]) dX12_wordFrom_92 rfl (by decide) rfl ?_
      refine tz_goto (pc := 95) (tgt := 11) dX12_wordFrom_95 (by decide) ?_
      have g9 := s_24 0 (by decide) ⟨fun q => absurd q (by decide), fun q => by have q1 := mp_p q; have q2 := he.2 q1.1; have q3 : x + 0 < y ∧ J 173 (x + 0) = 114 := q1.2; omega⟩ nm
      rw [show x + 1 = x + 0 + 1 by omega] at g9
      exact g9
    · refine tz_iload (pc := 61) dX12_wordFrom_61 rfl ?_
      refine tz_iload_n (pc := 63) dX12_wordFrom_63 rfl rfl ?_
      refine tz_icmp_ge (pc := 64) (tgt := 86) dX12_wordFrom_64 (by decide) (by omega) (by omega) (fun h_64 => ?_) (fun h_64 => ?_)
      · refine tz_iconst (pc := 86) dX12_wordFrom_86 ?_
        refine tz_istore (pc := 87) (L2 := [_, _, _, _, _, _, _]) dX12_wordFrom_87 (by decide) rfl ?_
        refine tz_iinc (pc := 89) (z := (x + 0) + 1) (L2 := [_, _, _, _, _, _, _]) dX12_wordFrom_89 rfl (by omega) rfl ?_
        refine tz_iinc (pc := 92) (z := 24) (L2 := [_, _, _, _, _, _, _]) dX12_wordFrom_92 rfl (by decide) rfl ?_
        refine tz_goto (pc := 95) (tgt := 11) dX12_wordFrom_95 (by decide) ?_
        have g9 := s_24 0 (by decide) ⟨fun q => absurd q (by decide), fun q => by have q1 := mp_p q; have q2 := he.2 q1.1; have q3 : x + 0 < y ∧ J 173 (x + 0) = 114 := q1.2; omega⟩ nm
        rw [show x + 1 = x + 0 + 1 by omega] at g9
        exact g9
      · refine tz_aload_n (pc := 67) dX12_wordFrom_67 rfl rfl ?_
        refine tz_iload (pc := 68) dX12_wordFrom_68 rfl ?_
        refine tz_cV (pc := 70) (m_byteAt hl n _ _ (by omega) (by omega) (by omega)) vl_X12_240 dX12_wordFrom_70 o_164 rfl rfl (Nat.le_of_ble_eq_true rfl) ⟨(Nat.le_of_ble_eq_true rfl), (Nat.le_of_ble_eq_true rfl)⟩ rfl rfl (Nat.le_of_ble_eq_true rfl) (Nat.le_of_ble_eq_true rfl) (fun r9 J_70 hq9 => ?_)
        obtain ⟨z_70, rfl, hz_70, rfl, hb70, hc70⟩ := hq9
        refine tz_knD (pc := 73) (k9 := 23) (v := 114) (by decide) (by decide) rfl dX12_wordFrom_73 dX12_wordFrom_76 dX12_wordFrom_78 (by decide +kernel) ?_
        refine tz_icmp_ne (pc := 79) (tgt := 86) dX12_wordFrom_79 (by decide) (by omega) (by decide) (fun h_79 => ?_) (fun h_79 => ?_)
        · refine tz_iconst (pc := 86) dX12_wordFrom_86 ?_
          refine tz_istore (pc := 87) (L2 := [_, _, _, _, _, _, _]) dX12_wordFrom_87 (by decide) rfl ?_
          refine tz_iinc (pc := 89) (z := (x + 0) + 1) (L2 := [_, _, _, _, _, _, _]) dX12_wordFrom_89 rfl (by omega) rfl ?_
          refine tz_iinc (pc := 92) (z := 24) (L2 := [_, _, _, _, _, _, _]) dX12_wordFrom_92 rfl (by decide) rfl ?_
          refine tz_goto (pc := 95) (tgt := 11) dX12_wordFrom_95 (by decide) ?_
          have g9 := s_24 0 (by decide) ⟨fun q => absurd q (by decide), fun q => by have q1 := mp_p q; have q2 := he.2 q1.1; have q3 : x + 0 < y ∧ J 173 (x + 0) = 114 := q1.2; omega⟩ nm
          rw [show x + 1 = x + 0 + 1 by omega] at g9
          exact g9
        · refine tz_iconst (pc := 82) dX12_wordFrom_82 ?_
          refine tz_goto (pc := 83) (tgt := 87) dX12_wordFrom_83 (by decide) ?_
          refine tz_istore (pc := 87) (L2 := [_, _, _, _, _, _, _]) dX12_wordFrom_87 (by decide) rfl ?_
          refine tz_iinc (pc := 89) (z := (x + 0) + 1) (L2 := [_, _, _, _, _, _, _]) dX12_wordFrom_89 rfl (by omega) rfl ?_
          refine tz_iinc (pc := 92) (z := 24) (L2 := [_, _, _, _, _, _, _]) dX12_wordFrom_92 rfl (by decide) rfl ?_
          refine tz_goto (pc := 95) (tgt := 11) dX12_wordFrom_95 (by decide) ?_
          have g9 := s_24 1 (by decide) ⟨fun _ => mp_s (he.1 (by omega)) (show x + 0 < y by omega) (show J 173 (x + 0) = 114 by omega), fun _ => rfl⟩ nm
          rw [show x + 1 = x + 0 + 1 by omega] at g9
          exact g9
  have s_22 : ∀ e : Int, (e = 0 ∨ e = 1) → (e = 1 ↔ mpB (J 173) x y [101, 110, 116, 114, 121] 5) → (¬ mtB (J 173) x y [115, 121, 109, 98, 111, 108] ∧ ¬ mtB (J 173) x y [116, 101, 114, 109] ∧ ¬ mtB (J 173) x y [114, 117, 108, 101]) → tz_At l G M_X12_wordFrom (tb_rm 1 0 0) none (tb_ZM G 0 0 (zQ n 0 (zqi (fun z J' => J = J' ∧ WD (J 173) x y z))) (zX n 0 zN)) 0 0 n J 11 [some (.ref 164), some (zi x), some (zi y), some (zi 3), some (zi (x + 5)), some (zi e), some (zi 22)] [] := by
    intro e h01 he nm
    refine tz_iload (pc := 11) dX12_wordFrom_11 rfl ?_
    refine tz_knL (pc := 13) dX12_wordFrom_13 dX12_wordFrom_16 (by decide +kernel) ?_
    refine tz_icmp_geF (pc := 17) (tgt := 98) (by decide) dX12_wordFrom_17 (by decide) (by decide) (by decide) ?_
    refine tz_knD (pc := 20) (k9 := 22) (v := 32) (by decide) (by decide) rfl dX12_wordFrom_20 dX12_wordFrom_23 dX12_wordFrom_25 (by decide +kernel) ?_
    refine tz_bipush (pc := 26) dX12_wordFrom_26 (by decide) ?_
    refine tz_icmp_neF (pc := 28) (tgt := 56) (by decide) dX12_wordFrom_28 (by decide) (by decide) (by decide) ?_
    refine tz_iload (pc := 31) dX12_wordFrom_31 rfl ?_
    refine tz_if_eq (pc := 33) (tgt := 44) dX12_wordFrom_33 (by decide) (by omega) (fun h_33 => ?_) (fun h_33 => ?_)
    · refine tz_iinc (pc := 44) (z := 4) (L2 := [_, _, _, _, _, _, _]) dX12_wordFrom_44 rfl (by decide) rfl ?_
      refine tz_iload_n (pc := 47) dX12_wordFrom_47 rfl rfl ?_
      refine tz_istore (pc := 48) (L2 := [_, _, _, _, _, _, _]) dX12_wordFrom_48 (by decide) rfl ?_
      refine tz_iconst (pc := 50) dX12_wordFrom_50 ?_
      refine tz_istore (pc := 51) (L2 := [_, _, _, _, _, _, _]) dX12_wordFrom_51 (by decide) rfl ?_
      refine tz_goto (pc := 53) (tgt := 92) dX12_wordFrom_53 (by decide) ?_
      refine tz_iinc (pc := 92) (z := 23) (L2 := [_, _, _, _, _, _, _]) dX12_wordFrom_92 rfl (by decide) rfl ?_
      refine tz_goto (pc := 95) (tgt := 11) dX12_wordFrom_95 (by decide) ?_
      have nt : ¬ mtB (J 173) x y [101, 110, 116, 114, 121] := fun q => by
        have q1 := he.2 q.1
        have q2 : y = x + 5 := q.2
        omega
      have g9 := s_23 1 (Or.inr rfl) ⟨fun _ => mp_0, fun _ => rfl⟩ (⟨nm.1, nm.2.1, nm.2.2, nt⟩)
      rw [show x + 0 = x from Int.add_zero x] at g9
      exact g9
    · refine tz_iload (pc := 36) dX12_wordFrom_36 rfl ?_
      refine tz_iload_n (pc := 38) dX12_wordFrom_38 rfl rfl ?_
      refine tz_icmp_ne (pc := 39) (tgt := 44) dX12_wordFrom_39 (by decide) (by omega) (by omega) (fun h_39 => ?_) (fun h_39 => ?_)
      · refine tz_iinc (pc := 44) (z := 4) (L2 := [_, _, _, _, _, _, _]) dX12_wordFrom_44 rfl (by decide) rfl ?_
        refine tz_iload_n (pc := 47) dX12_wordFrom_47 rfl rfl ?_
        refine tz_istore (pc := 48) (L2 := [_, _, _, _, _, _, _]) dX12_wordFrom_48 (by decide) rfl ?_
        refine tz_iconst (pc := 50) dX12_wordFrom_50 ?_
        refine tz_istore (pc := 51) (L2 := [_, _, _, _, _, _, _]) dX12_wordFrom_51 (by decide) rfl ?_
        refine tz_goto (pc := 53) (tgt := 92) dX12_wordFrom_53 (by decide) ?_
        refine tz_iinc (pc := 92) (z := 23) (L2 := [_, _, _, _, _, _, _]) dX12_wordFrom_92 rfl (by decide) rfl ?_
        refine tz_goto (pc := 95) (tgt := 11) dX12_wordFrom_95 (by decide) ?_
        have nt : ¬ mtB (J 173) x y [101, 110, 116, 114, 121] := fun q => by
          have q1 := he.2 q.1
          have q2 : y = x + 5 := q.2
          omega
        have g9 := s_23 1 (Or.inr rfl) ⟨fun _ => mp_0, fun _ => rfl⟩ (⟨nm.1, nm.2.1, nm.2.2, nt⟩)
        rw [show x + 0 = x from Int.add_zero x] at g9
        exact g9
      · refine tz_iload_n (pc := 42) dX12_wordFrom_42 rfl rfl ?_
        exact tz_iret (pc := 43) (z := 3) dX12_wordFrom_43 rfl (Nat.le_of_ble_eq_true rfl) (Nat.le_of_ble_eq_true rfl) ⟨Nat.le_refl _, Nat.le_add_right _ _⟩ ⟨_, rfl, (by decide), ⟨rfl, Or.inr ⟨nm.1, Or.inr ⟨nm.2.1, Or.inr ⟨nm.2.2, Or.inl ⟨(show mtB (J 173) x y [101, 110, 116, 114, 121] from ⟨he.1 (by omega), (show y = x + 5 by omega)⟩), rfl⟩⟩⟩⟩⟩⟩
  have s_21 : ∀ e : Int, (e = 0 ∨ e = 1) → (e = 1 ↔ mpB (J 173) x y [101, 110, 116, 114, 121] 4) → (¬ mtB (J 173) x y [115, 121, 109, 98, 111, 108] ∧ ¬ mtB (J 173) x y [116, 101, 114, 109] ∧ ¬ mtB (J 173) x y [114, 117, 108, 101]) → tz_At l G M_X12_wordFrom (tb_rm 1 0 0) none (tb_ZM G 0 0 (zQ n 0 (zqi (fun z J' => J = J' ∧ WD (J 173) x y z))) (zX n 0 zN)) 0 0 n J 11 [some (.ref 164), some (zi x), some (zi y), some (zi 3), some (zi (x + 4)), some (zi e), some (zi 21)] [] := by
    intro e h01 he nm
    refine tz_iload (pc := 11) dX12_wordFrom_11 rfl ?_
    refine tz_knL (pc := 13) dX12_wordFrom_13 dX12_wordFrom_16 (by decide +kernel) ?_
    refine tz_icmp_geF (pc := 17) (tgt := 98) (by decide) dX12_wordFrom_17 (by decide) (by decide) (by decide) ?_
    refine tz_knD (pc := 20) (k9 := 21) (v := 121) (by decide) (by decide) rfl dX12_wordFrom_20 dX12_wordFrom_23 dX12_wordFrom_25 (by decide +kernel) ?_
    refine tz_bipush (pc := 26) dX12_wordFrom_26 (by decide) ?_
    refine tz_icmp_neT (pc := 28) (tgt := 56) (by decide) dX12_wordFrom_28 (by decide) (by decide) (by decide) ?_
    refine tz_iload (pc := 56) dX12_wordFrom_56 rfl ?_
    refine tz_if_eq (pc := 58) (tgt := 86) dX12_wordFrom_58 (by decide) (by omega) (fun h_58 => ?_) (fun h_58 => ?_)
    · refine tz_iconst (pc := 86) dX12_wordFrom_86 ?_
      refine tz_istore (pc := 87) (L2 := [_, _, _, _, _, _, _]) dX12_wordFrom_87 (by decide) rfl ?_
      refine tz_iinc (pc := 89) (z := (x + 4) + 1) (L2 := [_, _, _, _, _, _, _]) dX12_wordFrom_89 rfl (by omega) rfl ?_
      refine tz_iinc (pc := 92) (z := 22) (L2 := [_, _, _, _, _, _, _]) dX12_wordFrom_92 rfl (by decide) rfl ?_
      refine tz_goto (pc := 95) (tgt := 11) dX12_wordFrom_95 (by decide) ?_
      have g9 := s_22 0 (by decide) ⟨fun q => absurd q (by decide), fun q => by have q1 := mp_p q; have q2 := he.2 q1.1; have q3 : x + 4 < y ∧ J 173 (x + 4) = 121 := q1.2; omega⟩ nm
      rw [show x + 5 = x + 4 + 1 by omega] at g9
      exact g9
    · refine tz_iload (pc := 61) dX12_wordFrom_61 rfl ?_
      refine tz_iload_n (pc := 63) dX12_wordFrom_63 rfl rfl ?_
      refine tz_icmp_ge (pc := 64) (tgt := 86) dX12_wordFrom_64 (by decide) (by omega) (by omega) (fun h_64 => ?_) (fun h_64 => ?_)
      · refine tz_iconst (pc := 86) dX12_wordFrom_86 ?_
        refine tz_istore (pc := 87) (L2 := [_, _, _, _, _, _, _]) dX12_wordFrom_87 (by decide) rfl ?_
        refine tz_iinc (pc := 89) (z := (x + 4) + 1) (L2 := [_, _, _, _, _, _, _]) dX12_wordFrom_89 rfl (by omega) rfl ?_
        refine tz_iinc (pc := 92) (z := 22) (L2 := [_, _, _, _, _, _, _]) dX12_wordFrom_92 rfl (by decide) rfl ?_
        refine tz_goto (pc := 95) (tgt := 11) dX12_wordFrom_95 (by decide) ?_
        have g9 := s_22 0 (by decide) ⟨fun q => absurd q (by decide), fun q => by have q1 := mp_p q; have q2 := he.2 q1.1; have q3 : x + 4 < y ∧ J 173 (x + 4) = 121 := q1.2; omega⟩ nm
        rw [show x + 5 = x + 4 + 1 by omega] at g9
        exact g9
      · refine tz_aload_n (pc := 67) dX12_wordFrom_67 rfl rfl ?_
        refine tz_iload (pc := 68) dX12_wordFrom_68 rfl ?_
        refine tz_cV (pc := 70) (m_byteAt hl n _ _ (by omega) (by omega) (by omega)) vl_X12_240 dX12_wordFrom_70 o_164 rfl rfl (Nat.le_of_ble_eq_true rfl) ⟨(Nat.le_of_ble_eq_true rfl), (Nat.le_of_ble_eq_true rfl)⟩ rfl rfl (Nat.le_of_ble_eq_true rfl) (Nat.le_of_ble_eq_true rfl) (fun r9 J_70 hq9 => ?_)
        obtain ⟨z_70, rfl, hz_70, rfl, hb70, hc70⟩ := hq9
        refine tz_knD (pc := 73) (k9 := 21) (v := 121) (by decide) (by decide) rfl dX12_wordFrom_73 dX12_wordFrom_76 dX12_wordFrom_78 (by decide +kernel) ?_
        refine tz_icmp_ne (pc := 79) (tgt := 86) dX12_wordFrom_79 (by decide) (by omega) (by decide) (fun h_79 => ?_) (fun h_79 => ?_)
        · refine tz_iconst (pc := 86) dX12_wordFrom_86 ?_
          refine tz_istore (pc := 87) (L2 := [_, _, _, _, _, _, _]) dX12_wordFrom_87 (by decide) rfl ?_
          refine tz_iinc (pc := 89) (z := (x + 4) + 1) (L2 := [_, _, _, _, _, _, _]) dX12_wordFrom_89 rfl (by omega) rfl ?_
          refine tz_iinc (pc := 92) (z := 22) (L2 := [_, _, _, _, _, _, _]) dX12_wordFrom_92 rfl (by decide) rfl ?_
          refine tz_goto (pc := 95) (tgt := 11) dX12_wordFrom_95 (by decide) ?_
          have g9 := s_22 0 (by decide) ⟨fun q => absurd q (by decide), fun q => by have q1 := mp_p q; have q2 := he.2 q1.1; have q3 : x + 4 < y ∧ J 173 (x + 4) = 121 := q1.2; omega⟩ nm
          rw [show x + 5 = x + 4 + 1 by omega] at g9
          exact g9
        · refine tz_iconst (pc := 82) dX12_wordFrom_82 ?_
          refine tz_goto (pc := 83) (tgt := 87) dX12_wordFrom_83 (by decide) ?_
          refine tz_istore (pc := 87) (L2 := [_, _, _, _, _, _, _]) dX12_wordFrom_87 (by decide) rfl ?_
          refine tz_iinc (pc := 89) (z := (x + 4) + 1) (L2 := [_, _, _, _, _, _, _]) dX12_wordFrom_89 rfl (by omega) rfl ?_
          refine tz_iinc (pc := 92) (z := 22) (L2 := [_, _, _, _, _, _, _]) dX12_wordFrom_92 rfl (by decide) rfl ?_
          refine tz_goto (pc := 95) (tgt := 11) dX12_wordFrom_95 (by decide) ?_
          have g9 := s_22 1 (by decide) ⟨fun _ => mp_s (he.1 (by omega)) (show x + 4 < y by omega) (show J 173 (x + 4) = 121 by omega), fun _ => rfl⟩ nm
          rw [show x + 5 = x + 4 + 1 by omega] at g9
          exact g9
  have s_20 : ∀ e : Int, (e = 0 ∨ e = 1) → (e = 1 ↔ mpB (J 173) x y [101, 110, 116, 114, 121] 3) → (¬ mtB (J 173) x y [115, 121, 109, 98, 111, 108] ∧ ¬ mtB (J 173) x y [116, 101, 114, 109] ∧ ¬ mtB (J 173) x y [114, 117, 108, 101]) → tz_At l G M_X12_wordFrom (tb_rm 1 0 0) none (tb_ZM G 0 0 (zQ n 0 (zqi (fun z J' => J = J' ∧ WD (J 173) x y z))) (zX n 0 zN)) 0 0 n J 11 [some (.ref 164), some (zi x), some (zi y), some (zi 3), some (zi (x + 3)), some (zi e), some (zi 20)] [] := by
    intro e h01 he nm
    refine tz_iload (pc := 11) dX12_wordFrom_11 rfl ?_
    refine tz_knL (pc := 13) dX12_wordFrom_13 dX12_wordFrom_16 (by decide +kernel) ?_
    refine tz_icmp_geF (pc := 17) (tgt := 98) (by decide) dX12_wordFrom_17 (by decide) (by decide) (by decide) ?_
    refine tz_knD (pc := 20) (k9 := 20) (v := 114) (by decide) (by decide) rfl dX12_wordFrom_20 dX12_wordFrom_23 dX12_wordFrom_25 (by decide +kernel) ?_
    refine tz_bipush (pc := 26) dX12_wordFrom_26 (by decide) ?_
    refine tz_icmp_neT (pc := 28) (tgt := 56) (by decide) dX12_wordFrom_28 (by decide) (by decide) (by decide) ?_
    refine tz_iload (pc := 56) dX12_wordFrom_56 rfl ?_
    refine tz_if_eq (pc := 58) (tgt := 86) dX12_wordFrom_58 (by decide) (by omega) (fun h_58 => ?_) (fun h_58 => ?_)
    · refine tz_iconst (pc := 86) dX12_wordFrom_86 ?_
      refine tz_istore (pc := 87) (L2 := [_, _, _, _, _, _, _]) dX12_wordFrom_87 (by decide) rfl ?_
      refine tz_iinc (pc := 89) (z := (x + 3) + 1) (L2 := [_, _, _, _, _, _, _]) dX12_wordFrom_89 rfl (by omega) rfl ?_
      refine tz_iinc (pc := 92) (z := 21) (L2 := [_, _, _, _, _, _, _]) dX12_wordFrom_92 rfl (by decide) rfl ?_
      refine tz_goto (pc := 95) (tgt := 11) dX12_wordFrom_95 (by decide) ?_
      have g9 := s_21 0 (by decide) ⟨fun q => absurd q (by decide), fun q => by have q1 := mp_p q; have q2 := he.2 q1.1; have q3 : x + 3 < y ∧ J 173 (x + 3) = 114 := q1.2; omega⟩ nm
      rw [show x + 4 = x + 3 + 1 by omega] at g9
      exact g9
    · refine tz_iload (pc := 61) dX12_wordFrom_61 rfl ?_
      refine tz_iload_n (pc := 63) dX12_wordFrom_63 rfl rfl ?_
      refine tz_icmp_ge (pc := 64) (tgt := 86) dX12_wordFrom_64 (by decide) (by omega) (by omega) (fun h_64 => ?_) (fun h_64 => ?_)
      · refine tz_iconst (pc := 86) dX12_wordFrom_86 ?_
        refine tz_istore (pc := 87) (L2 := [_, _, _, _, _, _, _]) dX12_wordFrom_87 (by decide) rfl ?_
        refine tz_iinc (pc := 89) (z := (x + 3) + 1) (L2 := [_, _, _, _, _, _, _]) dX12_wordFrom_89 rfl (by omega) rfl ?_
        refine tz_iinc (pc := 92) (z := 21) (L2 := [_, _, _, _, _, _, _]) dX12_wordFrom_92 rfl (by decide) rfl ?_
        refine tz_goto (pc := 95) (tgt := 11) dX12_wordFrom_95 (by decide) ?_
        have g9 := s_21 0 (by decide) ⟨fun q => absurd q (by decide), fun q => by have q1 := mp_p q; have q2 := he.2 q1.1; have q3 : x + 3 < y ∧ J 173 (x + 3) = 114 := q1.2; omega⟩ nm
        rw [show x + 4 = x + 3 + 1 by omega] at g9
        exact g9
      · refine tz_aload_n (pc := 67) dX12_wordFrom_67 rfl rfl ?_
        refine tz_iload (pc := 68) dX12_wordFrom_68 rfl ?_
        refine tz_cV (pc := 70) (m_byteAt hl n _ _ (by omega) (by omega) (by omega)) vl_X12_240 dX12_wordFrom_70 o_164 rfl rfl (Nat.le_of_ble_eq_true rfl) ⟨(Nat.le_of_ble_eq_true rfl), (Nat.le_of_ble_eq_true rfl)⟩ rfl rfl (Nat.le_of_ble_eq_true rfl) (Nat.le_of_ble_eq_true rfl) (fun r9 J_70 hq9 => ?_)
        obtain ⟨z_70, rfl, hz_70, rfl, hb70, hc70⟩ := hq9
        refine tz_knD (pc := 73) (k9 := 20) (v := 114) (by decide) (by decide) rfl dX12_wordFrom_73 dX12_wordFrom_76 dX12_wordFrom_78 (by decide +kernel) ?_
        refine tz_icmp_ne (pc := 79) (tgt := 86) dX12_wordFrom_79 (by decide) (by omega) (by decide) (fun h_79 => ?_) (fun h_79 => ?_)
        · refine tz_iconst (pc := 86) dX12_wordFrom_86 ?_
          refine tz_istore (pc := 87) (L2 := [_, _, _, _, _, _, _]) dX12_wordFrom_87 (by decide) rfl ?_
          refine tz_iinc (pc := 89) (z := (x + 3) + 1) (L2 := [_, _, _, _, _, _, _]) dX12_wordFrom_89 rfl (by omega) rfl ?_
          refine tz_iinc (pc := 92) (z := 21) (L2 := [_, _, _, _, _, _, _]) dX12_wordFrom_92 rfl (by decide) rfl ?_
          refine tz_goto (pc := 95) (tgt := 11) dX12_wordFrom_95 (by decide) ?_
          have g9 := s_21 0 (by decide) ⟨fun q => absurd q (by decide), fun q => by have q1 := mp_p q; have q2 := he.2 q1.1; have q3 : x + 3 < y ∧ J 173 (x + 3) = 114 := q1.2; omega⟩ nm
          rw [show x + 4 = x + 3 + 1 by omega] at g9
          exact g9
        · refine tz_iconst (pc := 82) dX12_wordFrom_82 ?_
          refine tz_goto (pc := 83) (tgt := 87) dX12_wordFrom_83 (by decide) ?_
          refine tz_istore (pc := 87) (L2 := [_, _, _, _, _, _, _]) dX12_wordFrom_87 (by decide) rfl ?_
          refine tz_iinc (pc := 89) (z := (x + 3) + 1) (L2 := [_, _, _, _, _, _, _]) dX12_wordFrom_89 rfl (by omega) rfl ?_
          refine tz_iinc (pc := 92) (z := 21) (L2 := [_, _, _, _, _, _, _]) dX12_wordFrom_92 rfl (by decide) rfl ?_
          refine tz_goto (pc := 95) (tgt := 11) dX12_wordFrom_95 (by decide) ?_
          have g9 := s_21 1 (by decide) ⟨fun _ => mp_s (he.1 (by omega)) (show x + 3 < y by omega) (show J 173 (x + 3) = 114 by omega), fun _ => rfl⟩ nm
          rw [show x + 4 = x + 3 + 1 by omega] at g9
          exact g9
  have s_19 : ∀ e : Int, (e = 0 ∨ e = 1) → (e = 1 ↔ mpB (J 173) x y [101, 110, 116, 114, 121] 2) → (¬ mtB (J 173) x y [115, 121, 109, 98, 111, 108] ∧ ¬ mtB (J 173) x y [116, 101, 114, 109] ∧ ¬ mtB (J 173) x y [114, 117, 108, 101]) → tz_At l G M_X12_wordFrom (tb_rm 1 0 0) none (tb_ZM G 0 0 (zQ n 0 (zqi (fun z J' => J = J' ∧ WD (J 173) x y z))) (zX n 0 zN)) 0 0 n J 11 [some (.ref 164), some (zi x), some (zi y), some (zi 3), some (zi (x + 2)), some (zi e), some (zi 19)] [] := by
    intro e h01 he nm
    refine tz_iload (pc := 11) dX12_wordFrom_11 rfl ?_
    refine tz_knL (pc := 13) dX12_wordFrom_13 dX12_wordFrom_16 (by decide +kernel) ?_
    refine tz_icmp_geF (pc := 17) (tgt := 98) (by decide) dX12_wordFrom_17 (by decide) (by decide) (by decide) ?_
    refine tz_knD (pc := 20) (k9 := 19) (v := 116) (by decide) (by decide) rfl dX12_wordFrom_20 dX12_wordFrom_23 dX12_wordFrom_25 (by decide +kernel) ?_
    refine tz_bipush (pc := 26) dX12_wordFrom_26 (by decide) ?_
    refine tz_icmp_neT (pc := 28) (tgt := 56) (by decide) dX12_wordFrom_28 (by decide) (by decide) (by decide) ?_
    refine tz_iload (pc := 56) dX12_wordFrom_56 rfl ?_
    refine tz_if_eq (pc := 58) (tgt := 86) dX12_wordFrom_58 (by decide) (by omega) (fun h_58 => ?_) (fun h_58 => ?_)
    · refine tz_iconst (pc := 86) dX12_wordFrom_86 ?_
      refine tz_istore (pc := 87) (L2 := [_, _, _, _, _, _, _]) dX12_wordFrom_87 (by decide) rfl ?_
      refine tz_iinc (pc := 89) (z := (x + 2) + 1) (L2 := [_, _, _, _, _, _, _]) dX12_wordFrom_89 rfl (by omega) rfl ?_
      refine tz_iinc (pc := 92) (z := 20) (L2 := [_, _, _, _, _, _, _]) dX12_wordFrom_92 rfl (by decide) rfl ?_
      refine tz_goto (pc := 95) (tgt := 11) dX12_wordFrom_95 (by decide) ?_
      have g9 := s_20 0 (by decide) ⟨fun q => absurd q (by decide), fun q => by have q1 := mp_p q; have q2 := he.2 q1.1; have q3 : x + 2 < y ∧ J 173 (x + 2) = 116 := q1.2; omega⟩ nm
      rw [show x + 3 = x + 2 + 1 by omega] at g9
      exact g9
    · refine tz_iload (pc := 61) dX12_wordFrom_61 rfl ?_
      refine tz_iload_n (pc := 63) dX12_wordFrom_63 rfl rfl ?_
      refine tz_icmp_ge (pc := 64) (tgt := 86) dX12_wordFrom_64 (by decide) (by omega) (by omega) (fun h_64 => ?_) (fun h_64 => ?_)
      · refine tz_iconst (pc := 86) dX12_wordFrom_86 ?_
        refine tz_istore (pc := 87) (L2 := [_, _, _, _, _, _, _]) dX12_wordFrom_87 (by decide) rfl ?_
        refine tz_iinc (pc := 89) (z := (x + 2) + 1) (L2 := [_, _, _, _, _, _, _]) dX12_wordFrom_89 rfl (by omega) rfl ?_
        refine tz_iinc (pc := 92) (z := 20) (L2 := [_, _, _, _, _, _, _]) dX12_wordFrom_92 rfl (by decide) rfl ?_
        refine tz_goto (pc := 95) (tgt := 11) dX12_wordFrom_95 (by decide) ?_
        have g9 := s_20 0 (by decide) ⟨fun q => absurd q (by decide), fun q => by have q1 := mp_p q; have q2 := he.2 q1.1; have q3 : x + 2 < y ∧ J 173 (x + 2) = 116 := q1.2; omega⟩ nm
        rw [show x + 3 = x + 2 + 1 by omega] at g9
        exact g9
      · refine tz_aload_n (pc := 67) dX12_wordFrom_67 rfl rfl ?_
        refine tz_iload (pc := 68) dX12_wordFrom_68 rfl ?_
        refine tz_cV (pc := 70) (m_byteAt hl n _ _ (by omega) (by omega) (by omega)) vl_X12_240 dX12_wordFrom_70 o_164 rfl rfl (Nat.le_of_ble_eq_true rfl) ⟨(Nat.le_of_ble_eq_true rfl), (Nat.le_of_ble_eq_true rfl)⟩ rfl rfl (Nat.le_of_ble_eq_true rfl) (Nat.le_of_ble_eq_true rfl) (fun r9 J_70 hq9 => ?_)
        obtain ⟨z_70, rfl, hz_70, rfl, hb70, hc70⟩ := hq9
        refine tz_knD (pc := 73) (k9 := 19) (v := 116) (by decide) (by decide) rfl dX12_wordFrom_73 dX12_wordFrom_76 dX12_wordFrom_78 (by decide +kernel) ?_
        refine tz_icmp_ne (pc := 79) (tgt := 86) dX12_wordFrom_79 (by decide) (by omega) (by decide) (fun h_79 => ?_) (fun h_79 => ?_)
        · refine tz_iconst (pc := 86) dX12_wordFrom_86 ?_
          refine tz_istore (pc := 87) (L2 := [_, _, _, _, _, _, _]) dX12_wordFrom_87 (by decide) rfl ?_
          refine tz_iinc (pc := 89) (z := (x + 2) + 1) (L2 := [_, _, _, _, _, _, _]) dX12_wordFrom_89 rfl (by omega) rfl ?_
          refine tz_iinc (pc := 92) (z := 20) (L2 := [_, _, _, _, _, _, _]) dX12_wordFrom_92 rfl (by decide) rfl ?_
          refine tz_goto (pc := 95) (tgt := 11) dX12_wordFrom_95 (by decide) ?_
          have g9 := s_20 0 (by decide) ⟨fun q => absurd q (by decide), fun q => by have q1 := mp_p q; have q2 := he.2 q1.1; have q3 : x + 2 < y ∧ J 173 (x + 2) = 116 := q1.2; omega⟩ nm
          rw [show x + 3 = x + 2 + 1 by omega] at g9
          exact g9
        · refine tz_iconst (pc := 82) dX12_wordFrom_82 ?_
          refine tz_goto (pc := 83) (tgt := 87) dX12_wordFrom_83 (by decide) ?_
          refine tz_istore (pc := 87) (L2 := [_, _, _, _, _, _, _]) dX12_wordFrom_87 (by decide) rfl ?_
          refine tz_iinc (pc := 89) (z := (x + 2) + 1) (L2 := [_, _, _, _, _, _, _]) dX12_wordFrom_89 rfl (by omega) rfl ?_
          refine tz_iinc (pc := 92) (z := 20) (L2 := [_, _, _, _, _, _, _]) dX12_wordFrom_92 rfl (by decide) rfl ?_
          refine tz_goto (pc := 95) (tgt := 11) dX12_wordFrom_95 (by decide) ?_
          have g9 := s_20 1 (by decide) ⟨fun _ => mp_s (he.1 (by omega)) (show x + 2 < y by omega) (show J 173 (x + 2) = 116 by omega), fun _ => rfl⟩ nm
          rw [show x + 3 = x + 2 + 1 by omega] at g9
          exact g9
  have s_18 : ∀ e : Int, (e = 0 ∨ e = 1) → (e = 1 ↔ mpB (J 173) x y [101, 110, 116, 114, 121] 1) → (¬ mtB (J 173) x y [115, 121, 109, 98, 111, 108] ∧ ¬ mtB (J 173) x y [116, 101, 114, 109] ∧ ¬ mtB (J 173) x y [114, 117, 108, 101]) → tz_At l G M_X12_wordFrom (tb_rm 1 0 0) none (tb_ZM G 0 0 (zQ n 0 (zqi (fun z J' => J = J' ∧ WD (J 173) x y z))) (zX n 0 zN)) 0 0 n J 11 [some (.ref 164), some (zi x), some (zi y), some (zi 3), some (zi (x + 1)), some (zi e), some (zi 18)] [] := by
    intro e h01 he nm
    refine tz_iload (pc := 11) dX12_wordFrom_11 rfl ?_
    refine tz_knL (pc := 13) dX12_wordFrom_13 dX12_wordFrom_16 (by decide +kernel) ?_
    refine tz_icmp_geF (pc := 17) (tgt := 98) (by decide) dX12_wordFrom_17 (by decide) (by decide) (by decide) ?_
    refine tz_knD (pc := 20) (k9 := 18) (v := 110) (by decide) (by decide) rfl dX12_wordFrom_20 dX12_wordFrom_23 dX12_wordFrom_25 (by decide +kernel) ?_
    refine tz_bipush (pc := 26) dX12_wordFrom_26 (by decide) ?_
    refine tz_icmp_neT (pc := 28) (tgt := 56) (by decide) dX12_wordFrom_28 (by decide) (by decide) (by decide) ?_
    refine tz_iload (pc := 56) dX12_wordFrom_56 rfl ?_
    refine tz_if_eq (pc := 58) (tgt := 86) dX12_wordFrom_58 (by decide) (by omega) (fun h_58 => ?_) (fun h_58 => ?_)
    · refine tz_iconst (pc := 86) dX12_wordFrom_86 ?_
      refine tz_istore (pc := 87) (L2 := [_, _, _, _, _, _, _]) dX12_wordFrom_87 (by decide) rfl ?_
      refine tz_iinc (pc := 89) (z := (x + 1) + 1) (L2 := [_, _, _, _, _, _, _]) dX12_wordFrom_89 rfl (by omega) rfl ?_
      refine tz_iinc (pc := 92) (z := 19) (L2 := [_, _, _, _, _, _, _]) dX12_wordFrom_92 rfl (by decide) rfl ?_
      refine tz_goto (pc := 95) (tgt := 11) dX12_wordFrom_95 (by decide) ?_
      have g9 := s_19 0 (by decide) ⟨fun q => absurd q (by decide), fun q => by have q1 := mp_p q; have q2 := he.2 q1.1; have q3 : x + 1 < y ∧ J 173 (x + 1) = 110 := q1.2; omega⟩ nm
      rw [show x + 2 = x + 1 + 1 by omega] at g9
      exact g9
    · refine tz_iload (pc := 61) dX12_wordFrom_61 rfl ?_
      refine tz_iload_n (pc := 63) dX12_wordFrom_63 rfl rfl ?_
      refine tz_icmp_ge (pc := 64) (tgt := 86) dX12_wordFrom_64 (by decide) (by omega) (by omega) (fun h_64 => ?_) (fun h_64 => ?_)
      · refine tz_iconst (pc := 86) dX12_wordFrom_86 ?_
        refine tz_istore (pc := 87) (L2 := [_, _, _, _, _, _, _]) dX12_wordFrom_87 (by decide) rfl ?_
        refine tz_iinc (pc := 89) (z := (x + 1) + 1) (L2 := [_, _, _, _, _, _, _]) dX12_wordFrom_89 rfl (by omega) rfl ?_
        refine tz_iinc (pc := 92) (z := 19) (L2 := [_, _, _, _, _, _, _]) dX12_wordFrom_92 rfl (by decide) rfl ?_
        refine tz_goto (pc := 95) (tgt := 11) dX12_wordFrom_95 (by decide) ?_
        have g9 := s_19 0 (by decide) ⟨fun q => absurd q (by decide), fun q => by have q1 := mp_p q; have q2 := he.2 q1.1; have q3 : x + 1 < y ∧ J 173 (x + 1) = 110 := q1.2; omega⟩ nm
        rw [show x + 2 = x + 1 + 1 by omega] at g9
        exact g9
      · refine tz_aload_n (pc := 67) dX12_wordFrom_67 rfl rfl ?_
        refine tz_iload (pc := 68) dX12_wordFrom_68 rfl ?_
        refine tz_cV (pc := 70) (m_byteAt hl n _ _ (by omega) (by omega) (by omega)) vl_X12_240 dX12_wordFrom_70 o_164 rfl rfl (Nat.le_of_ble_eq_true rfl) ⟨(Nat.le_of_ble_eq_true rfl), (Nat.le_of_ble_eq_true rfl)⟩ rfl rfl (Nat.le_of_ble_eq_true rfl) (Nat.le_of_ble_eq_true rfl) (fun r9 J_70 hq9 => ?_)
        obtain ⟨z_70, rfl, hz_70, rfl, hb70, hc70⟩ := hq9
        refine tz_knD (pc := 73) (k9 := 18) (v := 110) (by decide) (by decide) rfl dX12_wordFrom_73 dX12_wordFrom_76 dX12_wordFrom_78 (by decide +kernel) ?_
        refine tz_icmp_ne (pc := 79) (tgt := 86) dX12_wordFrom_79 (by decide) (by omega) (by decide) (fun h_79 => ?_) (fun h_79 => ?_)
        · refine tz_iconst (pc := 86) dX12_wordFrom_86 ?_
          refine tz_istore (pc := 87) (L2 := [_, _, _, _, _, _, _]) dX12_wordFrom_87 (by decide) rfl ?_
          refine tz_iinc (pc := 89) (z := (x + 1) + 1) (L2 := [_, _, _, _, _, _, _]) dX12_wordFrom_89 rfl (by omega) rfl ?_
          refine tz_iinc (pc := 92) (z := 19) (L2 := [_, _, _, _, _, _, _]) dX12_wordFrom_92 rfl (by decide) rfl ?_
          refine tz_goto (pc := 95) (tgt := 11) dX12_wordFrom_95 (by decide) ?_
          have g9 := s_19 0 (by decide) ⟨fun q => absurd q (by decide), fun q => by have q1 := mp_p q; have q2 := he.2 q1.1; have q3 : x + 1 < y ∧ J 173 (x + 1) = 110 := q1.2; omega⟩ nm
          rw [show x + 2 = x + 1 + 1 by omega] at g9
          exact g9
        · refine tz_iconst (pc := 82) dX12_wordFrom_82 ?_
          refine tz_goto (pc := 83) (tgt := 87) dX12_wordFrom_83 (by decide) ?_
          refine tz_istore (pc := 87) (L2 := [_, _, _, _, _, _, _]) dX12_wordFrom_87 (by decide) rfl ?_
          refine tz_iinc (pc := 89) (z := (x + 1) + 1) (L2 := [_, _, _, _, _, _, _]) dX12_wordFrom_89 rfl (by omega) rfl ?_
          refine tz_iinc (pc := 92) (z := 19) (L2 := [_, _, _, _, _, _, _]) dX12_wordFrom_92 rfl (by decide) rfl ?_
          refine tz_goto (pc := 95) (tgt := 11) dX12_wordFrom_95 (by decide) ?_
          have g9 := s_19 1 (by decide) ⟨fun _ => mp_s (he.1 (by omega)) (show x + 1 < y by omega) (show J 173 (x + 1) = 110 by omega), fun _ => rfl⟩ nm
          rw [show x + 2 = x + 1 + 1 by omega] at g9
          exact g9
  have s_17 : ∀ e : Int, (e = 0 ∨ e = 1) → (e = 1 ↔ mpB (J 173) x y [101, 110, 116, 114, 121] 0) → (¬ mtB (J 173) x y [115, 121, 109, 98, 111, 108] ∧ ¬ mtB (J 173) x y [116, 101, 114, 109] ∧ ¬ mtB (J 173) x y [114, 117, 108, 101]) → tz_At l G M_X12_wordFrom (tb_rm 1 0 0) none (tb_ZM G 0 0 (zQ n 0 (zqi (fun z J' => J = J' ∧ WD (J 173) x y z))) (zX n 0 zN)) 0 0 n J 11 [some (.ref 164), some (zi x), some (zi y), some (zi 3), some (zi (x + 0)), some (zi e), some (zi 17)] [] := by
    intro e h01 he nm
    refine tz_iload (pc := 11) dX12_wordFrom_11 rfl ?_
    refine tz_knL (pc := 13) dX12_wordFrom_13 dX12_wordFrom_16 (by decide +kernel) ?_
    refine tz_icmp_geF (pc := 17) (tgt := 98) (by decide) dX12_wordFrom_17 (by decide) (by decide) (by decide) ?_
    refine tz_knD (pc := 20) (k9 := 17) (v := 101) (by decide) (by decide) rfl dX12_wordFrom_20 dX12_wordFrom_23 dX12_wordFrom_25 (by decide +kernel) ?_
    refine tz_bipush (pc := 26) dX12_wordFrom_26 (by decide) ?_
    refine tz_icmp_neT (pc := 28) (tgt := 56) (by decide) dX12_wordFrom_28 (by decide) (by decide) (by decide) ?_
    refine tz_iload (pc := 56) dX12_wordFrom_56 rfl ?_
    refine tz_if_eq (pc := 58) (tgt := 86) dX12_wordFrom_58 (by decide) (by omega) (fun h_58 => ?_) (fun h_58 => ?_)
    · refine tz_iconst (pc := 86) dX12_wordFrom_86 ?_
      refine tz_istore (pc := 87) (L2 := [_, _, _, _, _, _, _]) dX12_wordFrom_87 (by decide) rfl ?_
      refine tz_iinc (pc := 89) (z := (x + 0) + 1) (L2 := [_, _, _, _, _, _, _]) dX12_wordFrom_89 rfl (by omega) rfl ?_
      refine tz_iinc (pc := 92) (z := 18) (L2 := [_, _, _, _, _, _, _]) dX12_wordFrom_92 rfl (by decide) rfl ?_
      refine tz_goto (pc := 95) (tgt := 11) dX12_wordFrom_95 (by decide) ?_
      have g9 := s_18 0 (by decide) ⟨fun q => absurd q (by decide), fun q => by have q1 := mp_p q; have q2 := he.2 q1.1; have q3 : x + 0 < y ∧ J 173 (x + 0) = 101 := q1.2; omega⟩ nm
      rw [show x + 1 = x + 0 + 1 by omega] at g9
      exact g9
    · refine tz_iload (pc := 61) dX12_wordFrom_61 rfl ?_
      refine tz_iload_n (pc := 63) dX12_wordFrom_63 rfl rfl ?_
      refine tz_icmp_ge (pc := 64) (tgt := 86) dX12_wordFrom_64 (by decide) (by omega) (by omega) (fun h_64 => ?_) (fun h_64 => ?_)
      · refine tz_iconst (pc := 86) dX12_wordFrom_86 ?_
        refine tz_istore (pc := 87) (L2 := [_, _, _, _, _, _, _]) dX12_wordFrom_87 (by decide) rfl ?_
        refine tz_iinc (pc := 89) (z := (x + 0) + 1) (L2 := [_, _, _, _, _, _, _]) dX12_wordFrom_89 rfl (by omega) rfl ?_
        refine tz_iinc (pc := 92) (z := 18) (L2 := [_, _, _, _, _, _, _]) dX12_wordFrom_92 rfl (by decide) rfl ?_
        refine tz_goto (pc := 95) (tgt := 11) dX12_wordFrom_95 (by decide) ?_
        have g9 := s_18 0 (by decide) ⟨fun q => absurd q (by decide), fun q => by have q1 := mp_p q; have q2 := he.2 q1.1; have q3 : x + 0 < y ∧ J 173 (x + 0) = 101 := q1.2; omega⟩ nm
        rw [show x + 1 = x + 0 + 1 by omega] at g9
        exact g9
      · refine tz_aload_n (pc := 67) dX12_wordFrom_67 rfl rfl ?_
        refine tz_iload (pc := 68) dX12_wordFrom_68 rfl ?_
        refine tz_cV (pc := 70) (m_byteAt hl n _ _ (by omega) (by omega) (by omega)) vl_X12_240 dX12_wordFrom_70 o_164 rfl rfl (Nat.le_of_ble_eq_true rfl) ⟨(Nat.le_of_ble_eq_true rfl), (Nat.le_of_ble_eq_true rfl)⟩ rfl rfl (Nat.le_of_ble_eq_true rfl) (Nat.le_of_ble_eq_true rfl) (fun r9 J_70 hq9 => ?_)
        obtain ⟨z_70, rfl, hz_70, rfl, hb70, hc70⟩ := hq9
        refine tz_knD (pc := 73) (k9 := 17) (v := 101) (by decide) (by decide) rfl dX12_wordFrom_73 dX12_wordFrom_76 dX12_wordFrom_78 (by decide +kernel) ?_
        refine tz_icmp_ne (pc := 79) (tgt := 86) dX12_wordFrom_79 (by decide) (by omega) (by decide) (fun h_79 => ?_) (fun h_79 => ?_)
        · refine tz_iconst (pc := 86) dX12_wordFrom_86 ?_
          refine tz_istore (pc := 87) (L2 := [_, _, _, _, _, _, _]) dX12_wordFrom_87 (by decide) rfl ?_
          refine tz_iinc (pc := 89) (z := (x + 0) + 1) (L2 := [_, _, _, _, _, _, _]) dX12_wordFrom_89 rfl (by omega) rfl ?_
          refine tz_iinc (pc := 92) (z := 18) (L2 := [_, _, _, _, _, _, _]) dX12_wordFrom_92 rfl (by decide) rfl ?_
          refine tz_goto (pc := 95) (tgt := 11) dX12_wordFrom_95 (by decide) ?_
          have g9 := s_18 0 (by decide) ⟨fun q => absurd q (by decide), fun q => by have q1 := mp_p q; have q2 := he.2 q1.1; have q3 : x + 0 < y ∧ J 173 (x + 0) = 101 := q1.2; omega⟩ nm
          rw [show x + 1 = x + 0 + 1 by omega] at g9
          exact g9
        · refine tz_iconst (pc := 82) dX12_wordFrom_82 ?_
          refine tz_goto (pc := 83) (tgt := 87) dX12_wordFrom_83 (by decide) ?_
          refine tz_istore (pc := 87) (L2 := [_, _, _, _, _, _, _]) dX12_wordFrom_87 (by decide) rfl ?_
          refine tz_iinc (pc := 89) (z := (x + 0) + 1) (L2 := [_, _, _, _, _, _, _]) dX12_wordFrom_89 rfl (by omega) rfl ?_
          refine tz_iinc (pc := 92) (z := 18) (L2 := [_, _, _, _, _, _, _]) dX12_wordFrom_92 rfl (by decide) rfl ?_
          refine tz_goto (pc := 95) (tgt := 11) dX12_wordFrom_95 (by decide) ?_
          have g9 := s_18 1 (by decide) ⟨fun _ => mp_s (he.1 (by omega)) (show x + 0 < y by omega) (show J 173 (x + 0) = 101 by omega), fun _ => rfl⟩ nm
          rw [show x + 1 = x + 0 + 1 by omega] at g9
          exact g9
  have s_16 : ∀ e : Int, (e = 0 ∨ e = 1) → (e = 1 ↔ mpB (J 173) x y [114, 117, 108, 101] 4) → (¬ mtB (J 173) x y [115, 121, 109, 98, 111, 108] ∧ ¬ mtB (J 173) x y [116, 101, 114, 109]) → tz_At l G M_X12_wordFrom (tb_rm 1 0 0) none (tb_ZM G 0 0 (zQ n 0 (zqi (fun z J' => J = J' ∧ WD (J 173) x y z))) (zX n 0 zN)) 0 0 n J 11 [some (.ref 164), some (zi x), some (zi y), some (zi 2), some (zi (x + 4)), some (zi e), some (zi 16)] [] := by
    intro e h01 he nm
    refine tz_iload (pc := 11) dX12_wordFrom_11 rfl ?_
    refine tz_knL (pc := 13) dX12_wordFrom_13 dX12_wordFrom_16 (by decide +kernel) ?_
    refine tz_icmp_geF (pc := 17) (tgt := 98) (by decide) dX12_wordFrom_17 (by decide) (by decide) (by decide) ?_
    refine tz_knD (pc := 20) (k9 := 16) (v := 32) (by decide) (by decide) rfl dX12_wordFrom_20 dX12_wordFrom_23 dX12_wordFrom_25 (by decide +kernel) ?_
    refine tz_bipush (pc := 26) dX12_wordFrom_26 (by decide) ?_
    refine tz_icmp_neF (pc := 28) (tgt := 56) (by decide) dX12_wordFrom_28 (by decide) (by decide) (by decide) ?_
    refine tz_iload (pc := 31) dX12_wordFrom_31 rfl ?_
    refine tz_if_eq (pc := 33) (tgt := 44) dX12_wordFrom_33 (by decide) (by omega) (fun h_33 => ?_) (fun h_33 => ?_)
    · refine tz_iinc (pc := 44) (z := 3) (L2 := [_, _, _, _, _, _, _]) dX12_wordFrom_44 rfl (by decide) rfl ?_
      refine tz_iload_n (pc := 47) dX12_wordFrom_47 rfl rfl ?_
      refine tz_istore (pc := 48) (L2 := [_, _, _, _, _, _, _]) dX12_wordFrom_48 (by decide) rfl ?_
      refine tz_iconst (pc := 50) dX12_wordFrom_50 ?_
      refine tz_istore (pc := 51) (L2 := [_, _, _, _, _, _, _]) dX12_wordFrom_51 (by decide) rfl ?_
      refine tz_goto (pc := 53) (tgt := 92) dX12_wordFrom_53 (by decide) ?_
      refine tz_iinc (pc := 92) (z := 17) (L2 := [_, _, _, _, _, _, _]) dX12_wordFrom_92 rfl (by decide) rfl ?_
      refine tz_goto (pc := 95) (tgt := 11) dX12_wordFrom_95 (by decide) ?_
      have nt : ¬ mtB (J 173) x y [114, 117, 108, 101] := fun q => by
        have q1 := he.2 q.1
        have q2 : y = x + 4 := q.2
        omega
      have g9 := s_17 1 (Or.inr rfl) ⟨fun _ => mp_0, fun _ => rfl⟩ (⟨nm.1, nm.2, nt⟩)
      rw [show x + 0 = x from Int.add_zero x] at g9
      exact g9
    · refine tz_iload (pc := 36) dX12_wordFrom_36 rfl ?_
      refine tz_iload_n (pc := 38) dX12_wordFrom_38 rfl rfl ?_
      refine tz_icmp_ne (pc := 39) (tgt := 44) dX12_wordFrom_39 (by decide) (by omega) (by omega) (fun h_39 => ?_) (fun h_39 => ?_)
      · refine tz_iinc (pc := 44) (z := 3) (L2 := [_, _, _, _, _, _, _]) dX12_wordFrom_44 rfl (by decide) rfl ?_
        refine tz_iload_n (pc := 47) dX12_wordFrom_47 rfl rfl ?_
        refine tz_istore (pc := 48) (L2 := [_, _, _, _, _, _, _]) dX12_wordFrom_48 (by decide) rfl ?_
        refine tz_iconst (pc := 50) dX12_wordFrom_50 ?_
        refine tz_istore (pc := 51) (L2 := [_, _, _, _, _, _, _]) dX12_wordFrom_51 (by decide) rfl ?_
        refine tz_goto (pc := 53) (tgt := 92) dX12_wordFrom_53 (by decide) ?_
        refine tz_iinc (pc := 92) (z := 17) (L2 := [_, _, _, _, _, _, _]) dX12_wordFrom_92 rfl (by decide) rfl ?_
        refine tz_goto (pc := 95) (tgt := 11) dX12_wordFrom_95 (by decide) ?_
        have nt : ¬ mtB (J 173) x y [114, 117, 108, 101] := fun q => by
          have q1 := he.2 q.1
          have q2 : y = x + 4 := q.2
          omega
        have g9 := s_17 1 (Or.inr rfl) ⟨fun _ => mp_0, fun _ => rfl⟩ (⟨nm.1, nm.2, nt⟩)
        rw [show x + 0 = x from Int.add_zero x] at g9
        exact g9
      · refine tz_iload_n (pc := 42) dX12_wordFrom_42 rfl rfl ?_
        exact tz_iret (pc := 43) (z := 2) dX12_wordFrom_43 rfl (Nat.le_of_ble_eq_true rfl) (Nat.le_of_ble_eq_true rfl) ⟨Nat.le_refl _, Nat.le_add_right _ _⟩ ⟨_, rfl, (by decide), ⟨rfl, Or.inr ⟨nm.1, Or.inr ⟨nm.2, Or.inl ⟨(show mtB (J 173) x y [114, 117, 108, 101] from ⟨he.1 (by omega), (show y = x + 4 by omega)⟩), rfl⟩⟩⟩⟩⟩
  have s_15 : ∀ e : Int, (e = 0 ∨ e = 1) → (e = 1 ↔ mpB (J 173) x y [114, 117, 108, 101] 3) → (¬ mtB (J 173) x y [115, 121, 109, 98, 111, 108] ∧ ¬ mtB (J 173) x y [116, 101, 114, 109]) → tz_At l G M_X12_wordFrom (tb_rm 1 0 0) none (tb_ZM G 0 0 (zQ n 0 (zqi (fun z J' => J = J' ∧ WD (J 173) x y z))) (zX n 0 zN)) 0 0 n J 11 [some (.ref 164), some (zi x), some (zi y), some (zi 2), some (zi (x + 3)), some (zi e), some (zi 15)] [] := by
    intro e h01 he nm
    refine tz_iload (pc := 11) dX12_wordFrom_11 rfl ?_
    refine tz_knL (pc := 13) dX12_wordFrom_13 dX12_wordFrom_16 (by decide +kernel) ?_
    refine tz_icmp_geF (pc := 17) (tgt := 98) (by decide) dX12_wordFrom_17 (by decide) (by decide) (by decide) ?_
    refine tz_knD (pc := 20) (k9 := 15) (v := 101) (by decide) (by decide) rfl dX12_wordFrom_20 dX12_wordFrom_23 dX12_wordFrom_25 (by decide +kernel) ?_
    refine tz_bipush (pc := 26) dX12_wordFrom_26 (by decide) ?_
    refine tz_icmp_neT (pc := 28) (tgt := 56) (by decide) dX12_wordFrom_28 (by decide) (by decide) (by decide) ?_
    refine tz_iload (pc := 56) dX12_wordFrom_56 rfl ?_
    refine tz_if_eq (pc := 58) (tgt := 86) dX12_wordFrom_58 (by decide) (by omega) (fun h_58 => ?_) (fun h_58 => ?_)
    · refine tz_iconst (pc := 86) dX12_wordFrom_86 ?_
      refine tz_istore (pc := 87) (L2 := [_, _, _, _, _, _, _]) dX12_wordFrom_87 (by decide) rfl ?_
      refine tz_iinc (pc := 89) (z := (x + 3) + 1) (L2 := [_, _, _, _, _, _, _]) dX12_wordFrom_89 rfl (by omega) rfl ?_
      refine tz_iinc (pc := 92) (z := 16) (L2 := [_, _, _, _, _, _, _]) dX12_wordFrom_92 rfl (by decide) rfl ?_
      refine tz_goto (pc := 95) (tgt := 11) dX12_wordFrom_95 (by decide) ?_
      have g9 := s_16 0 (by decide) ⟨fun q => absurd q (by decide), fun q => by have q1 := mp_p q; have q2 := he.2 q1.1; have q3 : x + 3 < y ∧ J 173 (x + 3) = 101 := q1.2; omega⟩ nm
      rw [show x + 4 = x + 3 + 1 by omega] at g9
      exact g9
    · refine tz_iload (pc := 61) dX12_wordFrom_61 rfl ?_
      refine tz_iload_n (pc := 63) dX12_wordFrom_63 rfl rfl ?_
      refine tz_icmp_ge (pc := 64) (tgt := 86) dX12_wordFrom_64 (by decide) (by omega) (by omega) (fun h_64 => ?_) (fun h_64 => ?_)
      · refine tz_iconst (pc := 86) dX12_wordFrom_86 ?_
        refine tz_istore (pc := 87) (L2 := [_, _, _, _, _, _, _]) dX12_wordFrom_87 (by decide) rfl ?_
        refine tz_iinc (pc := 89) (z := (x + 3) + 1) (L2 := [_, _, _, _, _, _, _]) dX12_wordFrom_89 rfl (by omega) rfl ?_
        refine tz_iinc (pc := 92) (z := 16) (L2 := [_, _, _, _, _, _, _]) dX12_wordFrom_92 rfl (by decide) rfl ?_
        refine tz_goto (pc := 95) (tgt := 11) dX12_wordFrom_95 (by decide) ?_
        have g9 := s_16 0 (by decide) ⟨fun q => absurd q (by decide), fun q => by have q1 := mp_p q; have q2 := he.2 q1.1; have q3 : x + 3 < y ∧ J 173 (x + 3) = 101 := q1.2; omega⟩ nm
        rw [show x + 4 = x + 3 + 1 by omega] at g9
        exact g9
      · refine tz_aload_n (pc := 67) dX12_wordFrom_67 rfl rfl ?_
        refine tz_iload (pc := 68) dX12_wordFrom_68 rfl ?_
        refine tz_cV (pc := 70) (m_byteAt hl n _ _ (by omega) (by omega) (by omega)) vl_X12_240 dX12_wordFrom_70 o_164 rfl rfl (Nat.le_of_ble_eq_true rfl) ⟨(Nat.le_of_ble_eq_true rfl), (Nat.le_of_ble_eq_true rfl)⟩ rfl rfl (Nat.le_of_ble_eq_true rfl) (Nat.le_of_ble_eq_true rfl) (fun r9 J_70 hq9 => ?_)
        obtain ⟨z_70, rfl, hz_70, rfl, hb70, hc70⟩ := hq9
        refine tz_knD (pc := 73) (k9 := 15) (v := 101) (by decide) (by decide) rfl dX12_wordFrom_73 dX12_wordFrom_76 dX12_wordFrom_78 (by decide +kernel) ?_
        refine tz_icmp_ne (pc := 79) (tgt := 86) dX12_wordFrom_79 (by decide) (by omega) (by decide) (fun h_79 => ?_) (fun h_79 => ?_)
        · refine tz_iconst (pc := 86) dX12_wordFrom_86 ?_
          refine tz_istore (pc := 87) (L2 := [_, _, _, _, _, _, _]) dX12_wordFrom_87 (by decide) rfl ?_
          refine tz_iinc (pc := 89) (z := (x + 3) + 1) (L2 := [_, _, _, _, _, _, _]) dX12_wordFrom_89 rfl (by omega) rfl ?_
          refine tz_iinc (pc := 92) (z := 16) (L2 := [_, _, _, _, _, _, _]) dX12_wordFrom_92 rfl (by decide) rfl ?_
          refine tz_goto (pc := 95) (tgt := 11) dX12_wordFrom_95 (by decide) ?_
          have g9 := s_16 0 (by decide) ⟨fun q => absurd q (by decide), fun q => by have q1 := mp_p q; have q2 := he.2 q1.1; have q3 : x + 3 < y ∧ J 173 (x + 3) = 101 := q1.2; omega⟩ nm
          rw [show x + 4 = x + 3 + 1 by omega] at g9
          exact g9
        · refine tz_iconst (pc := 82) dX12_wordFrom_82 ?_
          refine tz_goto (pc := 83) (tgt := 87) dX12_wordFrom_83 (by decide) ?_
          refine tz_istore (pc := 87) (L2 := [_, _, _, _, _, _, _]) dX12_wordFrom_87 (by decide) rfl ?_
          refine tz_iinc (pc := 89) (z := (x + 3) + 1) (L2 := [_, _, _, _, _, _, _]) dX12_wordFrom_89 rfl (by omega) rfl ?_
          refine tz_iinc (pc := 92) (z := 16) (L2 := [_, _, _, _, _, _, _]) dX12_wordFrom_92 rfl (by decide) rfl ?_
          refine tz_goto (pc := 95) (tgt := 11) dX12_wordFrom_95 (by decide) ?_
          have g9 := s_16 1 (by decide) ⟨fun _ => mp_s (he.1 (by omega)) (show x + 3 < y by omega) (show J 173 (x + 3) = 101 by omega), fun _ => rfl⟩ nm
          rw [show x + 4 = x + 3 + 1 by omega] at g9
          exact g9
  have s_14 : ∀ e : Int, (e = 0 ∨ e = 1) → (e = 1 ↔ mpB (J 173) x y [114, 117, 108, 101] 2) → (¬ mtB (J 173) x y [115, 121, 109, 98, 111, 108] ∧ ¬ mtB (J 173) x y [116, 101, 114, 109]) → tz_At l G M_X12_wordFrom (tb_rm 1 0 0) none (tb_ZM G 0 0 (zQ n 0 (zqi (fun z J' => J = J' ∧ WD (J 173) x y z))) (zX n 0 zN)) 0 0 n J 11 [some (.ref 164), some (zi x), some (zi y), some (zi 2), some (zi (x + 2)), some (zi e), some (zi 14)] [] := by
    intro e h01 he nm
    refine tz_iload (pc := 11) dX12_wordFrom_11 rfl ?_
    refine tz_knL (pc := 13) dX12_wordFrom_13 dX12_wordFrom_16 (by decide +kernel) ?_
    refine tz_icmp_geF (pc := 17) (tgt := 98) (by decide) dX12_wordFrom_17 (by decide) (by decide) (by decide) ?_
    refine tz_knD (pc := 20) (k9 := 14) (v := 108) (by decide) (by decide) rfl dX12_wordFrom_20 dX12_wordFrom_23 dX12_wordFrom_25 (by decide +kernel) ?_
    refine tz_bipush (pc := 26) dX12_wordFrom_26 (by decide) ?_
    refine tz_icmp_neT (pc := 28) (tgt := 56) (by decide) dX12_wordFrom_28 (by decide) (by decide) (by decide) ?_
    refine tz_iload (pc := 56) dX12_wordFrom_56 rfl ?_
    refine tz_if_eq (pc := 58) (tgt := 86) dX12_wordFrom_58 (by decide) (by omega) (fun h_58 => ?_) (fun h_58 => ?_)
    · refine tz_iconst (pc := 86) dX12_wordFrom_86 ?_
      refine tz_istore (pc := 87) (L2 := [_, _, _, _, _, _, _]) dX12_wordFrom_87 (by decide) rfl ?_
      refine tz_iinc (pc := 89) (z := (x + 2) + 1) (L2 := [_, _, _, _, _, _, _]) dX12_wordFrom_89 rfl (by omega) rfl ?_
      refine tz_iinc (pc := 92) (z := 15) (L2 := [_, _, _, _, _, _, _]) dX12_wordFrom_92 rfl (by decide) rfl ?_
      refine tz_goto (pc := 95) (tgt := 11) dX12_wordFrom_95 (by decide) ?_
      have g9 := s_15 0 (by decide) ⟨fun q => absurd q (by decide), fun q => by have q1 := mp_p q; have q2 := he.2 q1.1; have q3 : x + 2 < y ∧ J 173 (x + 2) = 108 := q1.2; omega⟩ nm
      rw [show x + 3 = x + 2 + 1 by omega] at g9
      exact g9
    · refine tz_iload (pc := 61) dX12_wordFrom_61 rfl ?_
      refine tz_iload_n (pc := 63) dX12_wordFrom_63 rfl rfl ?_
      refine tz_icmp_ge (pc := 64) (tgt := 86) dX12_wordFrom_64 (by decide) (by omega) (by omega) (fun h_64 => ?_) (fun h_64 => ?_)
      · refine tz_iconst (pc := 86) dX12_wordFrom_86 ?_
        refine tz_istore (pc := 87) (L2 := [_, _, _, _, _, _, _]) dX12_wordFrom_87 (by decide) rfl ?_
        refine tz_iinc (pc := 89) (z := (x + 2) + 1) (L2 := [_, _, _, _, _, _, _]) dX12_wordFrom_89 rfl (by omega) rfl ?_
        refine tz_iinc (pc := 92) (z := 15) (L2 := [_, _, _, _, _, _, _]) dX12_wordFrom_92 rfl (by decide) rfl ?_
        refine tz_goto (pc := 95) (tgt := 11) dX12_wordFrom_95 (by decide) ?_
        have g9 := s_15 0 (by decide) ⟨fun q => absurd q (by decide), fun q => by have q1 := mp_p q; have q2 := he.2 q1.1; have q3 : x + 2 < y ∧ J 173 (x + 2) = 108 := q1.2; omega⟩ nm
        rw [show x + 3 = x + 2 + 1 by omega] at g9
        exact g9
      · refine tz_aload_n (pc := 67) dX12_wordFrom_67 rfl rfl ?_
        refine tz_iload (pc := 68) dX12_wordFrom_68 rfl ?_
        refine tz_cV (pc := 70) (m_byteAt hl n _ _ (by omega) (by omega) (by omega)) vl_X12_240 dX12_wordFrom_70 o_164 rfl rfl (Nat.le_of_ble_eq_true rfl) ⟨(Nat.le_of_ble_eq_true rfl), (Nat.le_of_ble_eq_true rfl)⟩ rfl rfl (Nat.le_of_ble_eq_true rfl) (Nat.le_of_ble_eq_true rfl) (fun r9 J_70 hq9 => ?_)
        obtain ⟨z_70, rfl, hz_70, rfl, hb70, hc70⟩ := hq9
        refine tz_knD (pc := 73) (k9 := 14) (v := 108) (by decide) (by decide) rfl dX12_wordFrom_73 dX12_wordFrom_76 dX12_wordFrom_78 (by decide +kernel) ?_
        refine tz_icmp_ne (pc := 79) (tgt := 86) dX12_wordFrom_79 (by decide) (by omega) (by decide) (fun h_79 => ?_) (fun h_79 => ?_)
        · refine tz_iconst (pc := 86) dX12_wordFrom_86 ?_
          refine tz_istore (pc := 87) (L2 := [_, _, _, _, _, _, _]) dX12_wordFrom_87 (by decide) rfl ?_
          refine tz_iinc (pc := 89) (z := (x + 2) + 1) (L2 := [_, _, _, _, _, _, _]) dX12_wordFrom_89 rfl (by omega) rfl ?_
          refine tz_iinc (pc := 92) (z := 15) (L2 := [_, _, _, _, _, _, _]) dX12_wordFrom_92 rfl (by decide) rfl ?_
          refine tz_goto (pc := 95) (tgt := 11) dX12_wordFrom_95 (by decide) ?_
          have g9 := s_15 0 (by decide) ⟨fun q => absurd q (by decide), fun q => by have q1 := mp_p q; have q2 := he.2 q1.1; have q3 : x + 2 < y ∧ J 173 (x + 2) = 108 := q1.2; omega⟩ nm
          rw [show x + 3 = x + 2 + 1 by omega] at g9
          exact g9
        · refine tz_iconst (pc := 82) dX12_wordFrom_82 ?_
          refine tz_goto (pc := 83) (tgt := 87) dX12_wordFrom_83 (by decide) ?_
          refine tz_istore (pc := 87) (L2 := [_, _, _, _, _, _, _]) dX12_wordFrom_87 (by decide) rfl ?_
          refine tz_iinc (pc := 89) (z := (x + 2) + 1) (L2 := [_, _, _, _, _, _, _]) dX12_wordFrom_89 rfl (by omega) rfl ?_
          refine tz_iinc (pc := 92) (z := 15) (L2 := [_, _, _, _, _, _, _]) dX12_wordFrom_92 rfl (by decide) rfl ?_
          refine tz_goto (pc := 95) (tgt := 11) dX12_wordFrom_95 (by decide) ?_
          have g9 := s_15 1 (by decide) ⟨fun _ => mp_s (he.1 (by omega)) (show x + 2 < y by omega) (show J 173 (x + 2) = 108 by omega), fun _ => rfl⟩ nm
          rw [show x + 3 = x + 2 + 1 by omega] at g9
          exact g9
  have s_13 : ∀ e : Int, (e = 0 ∨ e = 1) → (e = 1 ↔ mpB (J 173) x y [114, 117, 108, 101] 1) → (¬ mtB (J 173) x y [115, 121, 109, 98, 111, 108] ∧ ¬ mtB (J 173) x y [116, 101, 114, 109]) → tz_At l G M_X12_wordFrom (tb_rm 1 0 0) none (tb_ZM G 0 0 (zQ n 0 (zqi (fun z J' => J = J' ∧ WD (J 173) x y z))) (zX n 0 zN)) 0 0 n J 11 [some (.ref 164), some (zi x), some (zi y), some (zi 2), some (zi (x + 1)), some (zi e), some (zi 13)] [] := by
    intro e h01 he nm
    refine tz_iload (pc := 11) dX12_wordFrom_11 rfl ?_
    refine tz_knL (pc := 13) dX12_wordFrom_13 dX12_wordFrom_16 (by decide +kernel) ?_
    refine tz_icmp_geF (pc := 17) (tgt := 98) (by decide) dX12_wordFrom_17 (by decide) (by decide) (by decide) ?_
    refine tz_knD (pc := 20) (k9 := 13) (v := 117) (by decide) (by decide) rfl dX12_wordFrom_20 dX12_wordFrom_23 dX12_wordFrom_25 (by decide +kernel) ?_
    refine tz_bipush (pc := 26) dX12_wordFrom_26 (by decide) ?_
    refine tz_icmp_neT (pc := 28) (tgt := 56) (by decide) dX12_wordFrom_28 (by decide) (by decide) (by decide) ?_
    refine tz_iload (pc := 56) dX12_wordFrom_56 rfl ?_
    refine tz_if_eq (pc := 58) (tgt := 86) dX12_wordFrom_58 (by decide) (by omega) (fun h_58 => ?_) (fun h_58 => ?_)
    · refine tz_iconst (pc := 86) dX12_wordFrom_86 ?_
      refine tz_istore (pc := 87) (L2 := [_, _, _, _, _, _, _]) dX12_wordFrom_87 (by decide) rfl ?_
      refine tz_iinc (pc := 89) (z := (x + 1) + 1) (L2 := [_, _, _, _, _, _, _]) dX12_wordFrom_89 rfl (by omega) rfl ?_
      refine tz_iinc (pc := 92) (z := 14) (L2 := [_, _, _, _, _, _, _]) dX12_wordFrom_92 rfl (by decide) rfl ?_
      refine tz_goto (pc := 95) (tgt := 11) dX12_wordFrom_95 (by decide) ?_
      have g9 := s_14 0 (by decide) ⟨fun q => absurd q (by decide), fun q => by have q1 := mp_p q; have q2 := he.2 q1.1; have q3 : x + 1 < y ∧ J 173 (x + 1) = 117 := q1.2; omega⟩ nm
      rw [show x + 2 = x + 1 + 1 by omega] at g9
      exact g9
    · refine tz_iload (pc := 61) dX12_wordFrom_61 rfl ?_
      refine tz_iload_n (pc := 63) dX12_wordFrom_63 rfl rfl ?_
      refine tz_icmp_ge (pc := 64) (tgt := 86) dX12_wordFrom_64 (by decide) (by omega) (by omega) (fun h_64 => ?_) (fun h_64 => ?_)
      · refine tz_iconst (pc := 86) dX12_wordFrom_86 ?_
        refine tz_istore (pc := 87) (L2 := [_, _, _, _, _, _, _]) dX12_wordFrom_87 (by decide) rfl ?_
        refine tz_iinc (pc := 89) (z := (x + 1) + 1) (L2 := [_, _, _, _, _, _, _]) dX12_wordFrom_89 rfl (by omega) rfl ?_
        refine tz_iinc (pc := 92) (z := 14) (L2 := [_, _, _, _, _, _, _]) dX12_wordFrom_92 rfl (by decide) rfl ?_
        refine tz_goto (pc := 95) (tgt := 11) dX12_wordFrom_95 (by decide) ?_
        have g9 := s_14 0 (by decide) ⟨fun q => absurd q (by decide), fun q => by have q1 := mp_p q; have q2 := he.2 q1.1; have q3 : x + 1 < y ∧ J 173 (x + 1) = 117 := q1.2; omega⟩ nm
        rw [show x + 2 = x + 1 + 1 by omega] at g9
        exact g9
      · refine tz_aload_n (pc := 67) dX12_wordFrom_67 rfl rfl ?_
        refine tz_iload (pc := 68) dX12_wordFrom_68 rfl ?_
        refine tz_cV (pc := 70) (m_byteAt hl n _ _ (by omega) (by omega) (by omega)) vl_X12_240 dX12_wordFrom_70 o_164 rfl rfl (Nat.le_of_ble_eq_true rfl) ⟨(Nat.le_of_ble_eq_true rfl), (Nat.le_of_ble_eq_true rfl)⟩ rfl rfl (Nat.le_of_ble_eq_true rfl) (Nat.le_of_ble_eq_true rfl) (fun r9 J_70 hq9 => ?_)
        obtain ⟨z_70, rfl, hz_70, rfl, hb70, hc70⟩ := hq9
        refine tz_knD (pc := 73) (k9 := 13) (v := 117) (by decide) (by decide) rfl dX12_wordFrom_73 dX12_wordFrom_76 dX12_wordFrom_78 (by decide +kernel) ?_
        refine tz_icmp_ne (pc := 79) (tgt := 86) dX12_wordFrom_79 (by decide) (by omega) (by decide) (fun h_79 => ?_) (fun h_79 => ?_)
        · refine tz_iconst (pc := 86) dX12_wordFrom_86 ?_
          refine tz_istore (pc := 87) (L2 := [_, _, _, _, _, _, _]) dX12_wordFrom_87 (by decide) rfl ?_
          refine tz_iinc (pc := 89) (z := (x + 1) + 1) (L2 := [_, _, _, _, _, _, _]) dX12_wordFrom_89 rfl (by omega) rfl ?_
          refine tz_iinc (pc := 92) (z := 14) (L2 := [_, _, _, _, _, _, _]) dX12_wordFrom_92 rfl (by decide) rfl ?_
          refine tz_goto (pc := 95) (tgt := 11) dX12_wordFrom_95 (by decide) ?_
          have g9 := s_14 0 (by decide) ⟨fun q => absurd q (by decide), fun q => by have q1 := mp_p q; have q2 := he.2 q1.1; have q3 : x + 1 < y ∧ J 173 (x + 1) = 117 := q1.2; omega⟩ nm
          rw [show x + 2 = x + 1 + 1 by omega] at g9
          exact g9
        · refine tz_iconst (pc := 82) dX12_wordFrom_82 ?_
          refine tz_goto (pc := 83) (tgt := 87) dX12_wordFrom_83 (by decide) ?_
          refine tz_istore (pc := 87) (L2 := [_, _, _, _, _, _, _]) dX12_wordFrom_87 (by decide) rfl ?_
          refine tz_iinc (pc := 89) (z := (x + 1) + 1) (L2 := [_, _, _, _, _, _, _]) dX12_wordFrom_89 rfl (by omega) rfl ?_
          refine tz_iinc (pc := 92) (z := 14) (L2 := [_, _, _, _, _, _, _]) dX12_wordFrom_92 rfl (by decide) rfl ?_
          refine tz_goto (pc := 95) (tgt := 11) dX12_wordFrom_95 (by decide) ?_
          have g9 := s_14 1 (by decide) ⟨fun _ => mp_s (he.1 (by omega)) (show x + 1 < y by omega) (show J 173 (x + 1) = 117 by omega), fun _ => rfl⟩ nm
          rw [show x + 2 = x + 1 + 1 by omega] at g9
          exact g9
  have s_12 : ∀ e : Int, (e = 0 ∨ e = 1) → (e = 1 ↔ mpB (J 173) x y [114, 117, 108, 101] 0) → (¬ mtB (J 173) x y [115, 121, 109, 98, 111, 108] ∧ ¬ mtB (J 173) x y [116, 101, 114, 109]) → tz_At l G M_X12_wordFrom (tb_rm 1 0 0) none (tb_ZM G 0 0 (zQ n 0 (zqi (fun z J' => J = J' ∧ WD (J 173) x y z))) (zX n 0 zN)) 0 0 n J 11 [some (.ref 164), some (zi x), some (zi y), some (zi 2), some (zi (x + 0)), some (zi e), some (zi 12)] [] := by
    intro e h01 he nm
    refine tz_iload (pc := 11) dX12_wordFrom_11 rfl ?_
    refine tz_knL (pc := 13) dX12_wordFrom_13 dX12_wordFrom_16 (by decide +kernel) ?_
    refine tz_icmp_geF (pc := 17) (tgt := 98) (by decide) dX12_wordFrom_17 (by decide) (by decide) (by decide) ?_
    refine tz_knD (pc := 20) (k9 := 12) (v := 114) (by decide) (by decide) rfl dX12_wordFrom_20 dX12_wordFrom_23 dX12_wordFrom_25 (by decide +kernel) ?_
    refine tz_bipush (pc := 26) dX12_wordFrom_26 (by decide) ?_
    refine tz_icmp_neT (pc := 28) (tgt := 56) (by decide) dX12_wordFrom_28 (by decide) (by decide) (by decide) ?_
    refine tz_iload (pc := 56) dX12_wordFrom_56 rfl ?_
    refine tz_if_eq (pc := 58) (tgt := 86) dX12_wordFrom_58 (by decide) (by omega) (fun h_58 => ?_) (fun h_58 => ?_)
    · refine tz_iconst (pc := 86) dX12_wordFrom_86 ?_
      refine tz_istore (pc := 87) (L2 := [_, _, _, _, _, _, _]) dX12_wordFrom_87 (by decide) rfl ?_
      refine tz_iinc (pc := 89) (z := (x + 0) + 1) (L2 := [_, _, _, _, _, _, _]) dX12_wordFrom_89 rfl (by omega) rfl ?_
      refine tz_iinc (pc := 92) (z := 13) (L2 := [_, _, _, _, _, _, _]) dX12_wordFrom_92 rfl (by decide) rfl ?_
      refine tz_goto (pc := 95) (tgt := 11) dX12_wordFrom_95 (by decide) ?_
      have g9 := s_13 0 (by decide) ⟨fun q => absurd q (by decide), fun q => by have q1 := mp_p q; have q2 := he.2 q1.1; have q3 : x + 0 < y ∧ J 173 (x + 0) = 114 := q1.2; omega⟩ nm
      rw [show x + 1 = x + 0 + 1 by omega] at g9
      exact g9
    · refine tz_iload (pc := 61) dX12_wordFrom_61 rfl ?_
      refine tz_iload_n (pc := 63) dX12_wordFrom_63 rfl rfl ?_
      refine tz_icmp_ge (pc := 64) (tgt := 86) dX12_wordFrom_64 (by decide) (by omega) (by omega) (fun h_64 => ?_) (fun h_64 => ?_)
      · refine tz_iconst (pc := 86) dX12_wordFrom_86 ?_
        refine tz_istore (pc := 87) (L2 := [_, _, _, _, _, _, _]) dX12_wordFrom_87 (by decide) rfl ?_
        refine tz_iinc (pc := 89) (z := (x + 0) + 1) (L2 := [_, _, _, _, _, _, _]) dX12_wordFrom_89 rfl (by omega) rfl ?_
        refine tz_iinc (pc := 92) (z := 13) (L2 := [_, _, _, _, _, _, _]) dX12_wordFrom_92 rfl (by decide) rfl ?_
        refine tz_goto (pc := 95) (tgt := 11) dX12_wordFrom_95 (by decide) ?_
        have g9 := s_13 0 (by decide) ⟨fun q => absurd q (by decide), fun q => by have q1 := mp_p q; have q2 := he.2 q1.1; have q3 : x + 0 < y ∧ J 173 (x + 0) = 114 := q1.2; omega⟩ nm
        rw [show x + 1 = x + 0 + 1 by omega] at g9
        exact g9
      · refine tz_aload_n (pc := 67) dX12_wordFrom_67 rfl rfl ?_
        refine tz_iload (pc := 68) dX12_wordFrom_68 rfl ?_
        refine tz_cV (pc := 70) (m_byteAt hl n _ _ (by omega) (by omega) (by omega)) vl_X12_240 dX12_wordFrom_70 o_164 rfl rfl (Nat.le_of_ble_eq_true rfl) ⟨(Nat.le_of_ble_eq_true rfl), (Nat.le_of_ble_eq_true rfl)⟩ rfl rfl (Nat.le_of_ble_eq_true rfl) (Nat.le_of_ble_eq_true rfl) (fun r9 J_70 hq9 => ?_)
        obtain ⟨z_70, rfl, hz_70, rfl, hb70, hc70⟩ := hq9
        refine tz_knD (pc := 73) (k9 := 12) (v := 114) (by decide) (by decide) rfl dX12_wordFrom_73 dX12_wordFrom_76 dX12_wordFrom_78 (by decide +kernel) ?_
        refine tz_icmp_ne (pc := 79) (tgt := 86) dX12_wordFrom_79 (by decide) (by omega) (by decide) (fun h_79 => ?_) (fun h_79 => ?_)
        · refine tz_iconst (pc := 86) dX12_wordFrom_86 ?_
          refine tz_istore (pc := 87) (L2 := [_, _, _, _, _, _, _]) dX12_wordFrom_87 (by decide) rfl ?_
          refine tz_iinc (pc := 89) (z := (x + 0) + 1) (L2 := [_, _, _, _, _, _, _]) dX12_wordFrom_89 rfl (by omega) rfl ?_
          refine tz_iinc (pc := 92) (z := 13) (L2 := [_, _, _, _, _, _, _]) dX12_wordFrom_92 rfl (by decide) rfl ?_
          refine tz_goto (pc := 95) (tgt := 11) dX12_wordFrom_95 (by decide) ?_
          have g9 := s_13 0 (by decide) ⟨fun q => absurd q (by decide), fun q => by have q1 := mp_p q; have q2 := he.2 q1.1; have q3 : x + 0 < y ∧ J 173 (x + 0) = 114 := q1.2; omega⟩ nm
          rw [show x + 1 = x + 0 + 1 by omega] at g9
          exact g9
        · refine tz_iconst (pc := 82) dX12_wordFrom_82 ?_
          refine tz_goto (pc := 83) (tgt := 87) dX12_wordFrom_83 (by decide) ?_
          refine tz_istore (pc := 87) (L2 := [_, _, _, _, _, _, _]) dX12_wordFrom_87 (by decide) rfl ?_
          refine tz_iinc (pc := 89) (z := (x + 0) + 1) (L2 := [_, _, _, _, _, _, _]) dX12_wordFrom_89 rfl (by omega) rfl ?_
          refine tz_iinc (pc := 92) (z := 13) (L2 := [_, _, _, _, _, _, _]) dX12_wordFrom_92 rfl (by decide) rfl ?_
          refine tz_goto (pc := 95) (tgt := 11) dX12_wordFrom_95 (by decide) ?_
          have g9 := s_13 1 (by decide) ⟨fun _ => mp_s (he.1 (by omega)) (show x + 0 < y by omega) (show J 173 (x + 0) = 114 by omega), fun _ => rfl⟩ nm
          rw [show x + 1 = x + 0 + 1 by omega] at g9
          exact g9
  have s_11 : ∀ e : Int, (e = 0 ∨ e = 1) → (e = 1 ↔ mpB (J 173) x y [116, 101, 114, 109] 4) → (¬ mtB (J 173) x y [115, 121, 109, 98, 111, 108]) → tz_At l G M_X12_wordFrom (tb_rm 1 0 0) none (tb_ZM G 0 0 (zQ n 0 (zqi (fun z J' => J = J' ∧ WD (J 173) x y z))) (zX n 0 zN)) 0 0 n J 11 [some (.ref 164), some (zi x), some (zi y), some (zi 1), some (zi (x + 4)), some (zi e), some (zi 11)] [] := by
    intro e h01 he nm
    refine tz_iload (pc := 11) dX12_wordFrom_11 rfl ?_
    refine tz_knL (pc := 13) dX12_wordFrom_13 dX12_wordFrom_16 (by decide +kernel) ?_
    refine tz_icmp_geF (pc := 17) (tgt := 98) (by decide) dX12_wordFrom_17 (by decide) (by decide) (by decide) ?_
    refine tz_knD (pc := 20) (k9 := 11) (v := 32) (by decide) (by decide) rfl dX12_wordFrom_20 dX12_wordFrom_23 dX12_wordFrom_25 (by decide +kernel) ?_
    refine tz_bipush (pc := 26) dX12_wordFrom_26 (by decide) ?_
    refine tz_icmp_neF (pc := 28) (tgt := 56) (by decide) dX12_wordFrom_28 (by decide) (by decide) (by decide) ?_
    refine tz_iload (pc := 31) dX12_wordFrom_31 rfl ?_
    refine tz_if_eq (pc := 33) (tgt := 44) dX12_wordFrom_33 (by decide) (by omega) (fun h_33 => ?_) (fun h_33 => ?_)
    · refine tz_iinc (pc := 44) (z := 2) (L2 := [_, _, _, _, _, _, _]) dX12_wordFrom_44 rfl (by decide) rfl ?_
      refine tz_iload_n (pc := 47) dX12_wordFrom_47 rfl rfl ?_
      refine tz_istore (pc := 48) (L2 := [_, _, _, _, _, _, _]) dX12_wordFrom_48 (by decide) rfl ?_
      refine tz_iconst (pc := 50) dX12_wordFrom_50 ?_
      refine tz_istore (pc := 51) (L2 := [_, _, _, _, _, _, _]) dX12_wordFrom_51 (by decide) rfl ?_
      refine tz_goto (pc := 53) (tgt := 92) dX12_wordFrom_53 (by decide) ?_
      refine tz_iinc (pc := 92) (z := 12) (L2 := [_, _, _, _, _, _, _]) dX12_wordFrom_92 rfl (by decide) rfl ?_
      refine tz_goto (pc := 95) (tgt := 11) dX12_wordFrom_95 (by decide) ?_
      have nt : ¬ mtB (J 173) x y [116, 101, 114, 109] := fun q => by
        have q1 := he.2 q.1
        have q2 : y = x + 4 := q.2
        omega
      have g9 := s_12 1 (Or.inr rfl) ⟨fun _ => mp_0, fun _ => rfl⟩ (⟨nm, nt⟩)
      rw [show x + 0 = x from Int.add_zero x] at g9
      exact g9
    · refine tz_iload (pc := 36) dX12_wordFrom_36 rfl ?_
      refine tz_iload_n (pc := 38) dX12_wordFrom_38 rfl rfl ?_
      refine tz_icmp_ne (pc := 39) (tgt := 44) dX12_wordFrom_39 (by decide) (by omega) (by omega) (fun h_39 => ?_) (fun h_39 => ?_)
      · refine tz_iinc (pc := 44) (z := 2) (L2 := [_, _, _, _, _, _, _]) dX12_wordFrom_44 rfl (by decide) rfl ?_
        refine tz_iload_n (pc := 47) dX12_wordFrom_47 rfl rfl ?_
        refine tz_istore (pc := 48) (L2 := [_, _, _, _, _, _, _]) dX12_wordFrom_48 (by decide) rfl ?_
        refine tz_iconst (pc := 50) dX12_wordFrom_50 ?_
        refine tz_istore (pc := 51) (L2 := [_, _, _, _, _, _, _]) dX12_wordFrom_51 (by decide) rfl ?_
        refine tz_goto (pc := 53) (tgt := 92) dX12_wordFrom_53 (by decide) ?_
        refine tz_iinc (pc := 92) (z := 12) (L2 := [_, _, _, _, _, _, _]) dX12_wordFrom_92 rfl (by decide) rfl ?_
        refine tz_goto (pc := 95) (tgt := 11) dX12_wordFrom_95 (by decide) ?_
        have nt : ¬ mtB (J 173) x y [116, 101, 114, 109] := fun q => by
          have q1 := he.2 q.1
          have q2 : y = x + 4 := q.2
          omega
        have g9 := s_12 1 (Or.inr rfl) ⟨fun _ => mp_0, fun _ => rfl⟩ (⟨nm, nt⟩)
        rw [show x + 0 = x from Int.add_zero x] at g9
        exact g9
      · refine tz_iload_n (pc := 42) dX12_wordFrom_42 rfl rfl ?_
        exact tz_iret (pc := 43) (z := 1) dX12_wordFrom_43 rfl (Nat.le_of_ble_eq_true rfl) (Nat.le_of_ble_eq_true rfl) ⟨Nat.le_refl _, Nat.le_add_right _ _⟩ ⟨_, rfl, (by decide), ⟨rfl, Or.inr ⟨nm, Or.inl ⟨(show mtB (J 173) x y [116, 101, 114, 109] from ⟨he.1 (by omega), (show y = x + 4 by omega)⟩), rfl⟩⟩⟩⟩
  have s_10 : ∀ e : Int, (e = 0 ∨ e = 1) → (e = 1 ↔ mpB (J 173) x y [116, 101, 114, 109] 3) → (¬ mtB (J 173) x y [115, 121, 109, 98, 111, 108]) → tz_At l G M_X12_wordFrom (tb_rm 1 0 0) none (tb_ZM G 0 0 (zQ n 0 (zqi (fun z J' => J = J' ∧ WD (J 173) x y z))) (zX n 0 zN)) 0 0 n J 11 [some (.ref 164), some (zi x), some (zi y), some (zi 1), some (zi (x + 3)), some (zi e), some (zi 10)] [] := by
    intro e h01 he nm
    refine tz_iload (pc := 11) dX12_wordFrom_11 rfl ?_
    refine tz_knL (pc := 13) dX12_wordFrom_13 dX12_wordFrom_16 (by decide +kernel) ?_
    refine tz_icmp_geF (pc := 17) (tgt := 98) (by decide) dX12_wordFrom_17 (by decide) (by decide) (by decide) ?_
    refine tz_knD (pc := 20) (k9 := 10) (v := 109) (by decide) (by decide) rfl dX12_wordFrom_20 dX12_wordFrom_23 dX12_wordFrom_25 (by decide +kernel) ?_
    refine tz_bipush (pc := 26) dX12_wordFrom_26 (by decide) ?_
    refine tz_icmp_neT (pc := 28) (tgt := 56) (by decide) dX12_wordFrom_28 (by decide) (by decide) (by decide) ?_
    refine tz_iload (pc := 56) dX12_wordFrom_56 rfl ?_
    refine tz_if_eq (pc := 58) (tgt := 86) dX12_wordFrom_58 (by decide) (by omega) (fun h_58 => ?_) (fun h_58 => ?_)
    · refine tz_iconst (pc := 86) dX12_wordFrom_86 ?_
      refine tz_istore (pc := 87) (L2 := [_, _, _, _, _, _, _]) dX12_wordFrom_87 (by decide) rfl ?_
      refine tz_iinc (pc := 89) (z := (x + 3) + 1) (L2 := [_, _, _, _, _, _, _]) dX12_wordFrom_89 rfl (by omega) rfl ?_
      refine tz_iinc (pc := 92) (z := 11) (L2 := [_, _, _, _, _, _, _]) dX12_wordFrom_92 rfl (by decide) rfl ?_
      refine tz_goto (pc := 95) (tgt := 11) dX12_wordFrom_95 (by decide) ?_
      have g9 := s_11 0 (by decide) ⟨fun q => absurd q (by decide), fun q => by have q1 := mp_p q; have q2 := he.2 q1.1; have q3 : x + 3 < y ∧ J 173 (x + 3) = 109 := q1.2; omega⟩ nm
      rw [show x + 4 = x + 3 + 1 by omega] at g9
      exact g9
    · refine tz_iload (pc := 61) dX12_wordFrom_61 rfl ?_
      refine tz_iload_n (pc := 63) dX12_wordFrom_63 rfl rfl ?_
      refine tz_icmp_ge (pc := 64) (tgt := 86) dX12_wordFrom_64 (by decide) (by omega) (by omega) (fun h_64 => ?_) (fun h_64 => ?_)
      · refine tz_iconst (pc := 86) dX12_wordFrom_86 ?_
        refine tz_istore (pc := 87) (L2 := [_, _, _, _, _, _, _]) dX12_wordFrom_87 (by decide) rfl ?_
        refine tz_iinc (pc := 89) (z := (x + 3) + 1) (L2 := [_, _, _, _, _, _, _]) dX12_wordFrom_89 rfl (by omega) rfl ?_
        refine tz_iinc (pc := 92) (z := 11) (L2 := [_, _, _, _, _, _, _]) dX12_wordFrom_92 rfl (by decide) rfl ?_
        refine tz_goto (pc := 95) (tgt := 11) dX12_wordFrom_95 (by decide) ?_
        have g9 := s_11 0 (by decide) ⟨fun q => absurd q (by decide), fun q => by have q1 := mp_p q; have q2 := he.2 q1.1; have q3 : x + 3 < y ∧ J 173 (x + 3) = 109 := q1.2; omega⟩ nm
        rw [show x + 4 = x + 3 + 1 by omega] at g9
        exact g9
      · refine tz_aload_n (pc := 67) dX12_wordFrom_67 rfl rfl ?_
        refine tz_iload (pc := 68) dX12_wordFrom_68 rfl ?_
        refine tz_cV (pc := 70) (m_byteAt hl n _ _ (by omega) (by omega) (by omega)) vl_X12_240 dX12_wordFrom_70 o_164 rfl rfl (Nat.le_of_ble_eq_true rfl) ⟨(Nat.le_of_ble_eq_true rfl), (Nat.le_of_ble_eq_true rfl)⟩ rfl rfl (Nat.le_of_ble_eq_true rfl) (Nat.le_of_ble_eq_true rfl) (fun r9 J_70 hq9 => ?_)
        obtain ⟨z_70, rfl, hz_70, rfl, hb70, hc70⟩ := hq9
        refine tz_knD (pc := 73) (k9 := 10) (v := 109) (by decide) (by decide) rfl dX12_wordFrom_73 dX12_wordFrom_76 dX12_wordFrom_78 (by decide +kernel) ?_
        refine tz_icmp_ne (pc := 79) (tgt := 86) dX12_wordFrom_79 (by decide) (by omega) (by decide) (fun h_79 => ?_) (fun h_79 => ?_)
        · refine tz_iconst (pc := 86) dX12_wordFrom_86 ?_
          refine tz_istore (pc := 87) (L2 := [_, _, _, _, _, _, _]) dX12_wordFrom_87 (by decide) rfl ?_
          refine tz_iinc (pc := 89) (z := (x + 3) + 1) (L2 := [_, _, _, _, _, _, _]) dX12_wordFrom_89 rfl (by omega) rfl ?_
          refine tz_iinc (pc := 92) (z := 11) (L2 := [_, _, _, _, _, _, _]) dX12_wordFrom_92 rfl (by decide) rfl ?_
          refine tz_goto (pc := 95) (tgt := 11) dX12_wordFrom_95 (by decide) ?_
          have g9 := s_11 0 (by decide) ⟨fun q => absurd q (by decide), fun q => by have q1 := mp_p q; have q2 := he.2 q1.1; have q3 : x + 3 < y ∧ J 173 (x + 3) = 109 := q1.2; omega⟩ nm
          rw [show x + 4 = x + 3 + 1 by omega] at g9
          exact g9
        · refine tz_iconst (pc := 82) dX12_wordFrom_82 ?_
          refine tz_goto (pc := 83) (tgt := 87) dX12_wordFrom_83 (by decide) ?_
          refine tz_istore (pc := 87) (L2 := [_, _, _, _, _, _, _]) dX12_wordFrom_87 (by decide) rfl ?_
          refine tz_iinc (pc := 89) (z := (x + 3) + 1) (L2 := [_, _, _, _, _, _, _]) dX12_wordFrom_89 rfl (by omega) rfl ?_
          refine tz_iinc (pc := 92) (z := 11) (L2 := [_, _, _, _, _, _, _]) dX12_wordFrom_92 rfl (by decide) rfl ?_
          refine tz_goto (pc := 95) (tgt := 11) dX12_wordFrom_95 (by decide) ?_
          have g9 := s_11 1 (by decide) ⟨fun _ => mp_s (he.1 (by omega)) (show x + 3 < y by omega) (show J 173 (x + 3) = 109 by omega), fun _ => rfl⟩ nm
          rw [show x + 4 = x + 3 + 1 by omega] at g9
          exact g9
  have s_9 : ∀ e : Int, (e = 0 ∨ e = 1) → (e = 1 ↔ mpB (J 173) x y [116, 101, 114, 109] 2) → (¬ mtB (J 173) x y [115, 121, 109, 98, 111, 108]) → tz_At l G M_X12_wordFrom (tb_rm 1 0 0) none (tb_ZM G 0 0 (zQ n 0 (zqi (fun z J' => J = J' ∧ WD (J 173) x y z))) (zX n 0 zN)) 0 0 n J 11 [some (.ref 164), some (zi x), some (zi y), some (zi 1), some (zi (x + 2)), some (zi e), some (zi 9)] [] := by
    intro e h01 he nm
    refine tz_iload (pc := 11) dX12_wordFrom_11 rfl ?_
    refine tz_knL (pc := 13) dX12_wordFrom_13 dX12_wordFrom_16 (by decide +kernel) ?_
    refine tz_icmp_geF (pc := 17) (tgt := 98) (by decide) dX12_wordFrom_17 (by decide) (by decide) (by decide) ?_
    refine tz_knD (pc := 20) (k9 := 9) (v := 114) (by decide) (by decide) rfl dX12_wordFrom_20 dX12_wordFrom_23 dX12_wordFrom_25 (by decide +kernel) ?_
    refine tz_bipush (pc := 26) dX12_wordFrom_26 (by decide) ?_
    refine tz_icmp_neT (pc := 28) (tgt := 56) (by decide) dX12_wordFrom_28 (by decide) (by decide) (by decide) ?_
    refine tz_iload (pc := 56) dX12_wordFrom_56 rfl ?_
    refine tz_if_eq (pc := 58) (tgt := 86) dX12_wordFrom_58 (by decide) (by omega) (fun h_58 => ?_) (fun h_58 => ?_)
    · refine tz_iconst (pc := 86) dX12_wordFrom_86 ?_
      refine tz_istore (pc := 87) (L2 := [_, _, _, _, _, _, _]) dX12_wordFrom_87 (by decide) rfl ?_
      refine tz_iinc (pc := 89) (z := (x + 2) + 1) (L2 := [_, _, _, _, _, _, _]) dX12_wordFrom_89 rfl (by omega) rfl ?_
      refine tz_iinc (pc := 92) (z := 10) (L2 := [_, _, _, _, _, _, _]) dX12_wordFrom_92 rfl (by decide) rfl ?_
      refine tz_goto (pc := 95) (tgt := 11) dX12_wordFrom_95 (by decide) ?_
      have g9 := s_10 0 (by decide) ⟨fun q => absurd q (by decide), fun q => by have q1 := mp_p q; have q2 := he.2 q1.1; have q3 : x + 2 < y ∧ J 173 (x + 2) = 114 := q1.2; omega⟩ nm
      rw [show x + 3 = x + 2 + 1 by omega] at g9
      exact g9
    · refine tz_iload (pc := 61) dX12_wordFrom_61 rfl ?_
      refine tz_iload_n (pc := 63) dX12_wordFrom_63 rfl rfl ?_
      refine tz_icmp_ge (pc := 64) (tgt := 86) dX12_wordFrom_64 (by decide) (by omega) (by omega) (fun h_64 => ?_) (fun h_64 => ?_)
      · refine tz_iconst (pc := 86) dX12_wordFrom_86 ?_
        refine tz_istore (pc := 87) (L2 := [_, _, _, _, _, _, _]) dX12_wordFrom_87 (by decide) rfl ?_
        refine tz_iinc (pc := 89) (z := (x + 2) + 1) (L2 := [_, _, _, _, _, _, _]) dX12_wordFrom_89 rfl (by omega) rfl ?_
        refine tz_iinc (pc := 92) (z := 10) (L2 := [_, _, _, _, _, _, _]) dX12_wordFrom_92 rfl (by decide) rfl ?_
        refine tz_goto (pc := 95) (tgt := 11) dX12_wordFrom_95 (by decide) ?_
        have g9 := s_10 0 (by decide) ⟨fun q => absurd q (by decide), fun q => by have q1 := mp_p q; have q2 := he.2 q1.1; have q3 : x + 2 < y ∧ J 173 (x + 2) = 114 := q1.2; omega⟩ nm
        rw [show x + 3 = x + 2 + 1 by omega] at g9
        exact g9
      · refine tz_aload_n (pc := 67) dX12_wordFrom_67 rfl rfl ?_
        refine tz_iload (pc := 68) dX12_wordFrom_68 rfl ?_
        refine tz_cV (pc := 70) (m_byteAt hl n _ _ (by omega) (by omega) (by omega)) vl_X12_240 dX12_wordFrom_70 o_164 rfl rfl (Nat.le_of_ble_eq_true rfl) ⟨(Nat.le_of_ble_eq_true rfl), (Nat.le_of_ble_eq_true rfl)⟩ rfl rfl (Nat.le_of_ble_eq_true rfl) (Nat.le_of_ble_eq_true rfl) (fun r9 J_70 hq9 => ?_)
        obtain ⟨z_70, rfl, hz_70, rfl, hb70, hc70⟩ := hq9
        refine tz_knD (pc := 73) (k9 := 9) (v := 114) (by decide) (by decide) rfl dX12_wordFrom_73 dX12_wordFrom_76 dX12_wordFrom_78 (by decide +kernel) ?_
        refine tz_icmp_ne (pc := 79) (tgt := 86) dX12_wordFrom_79 (by decide) (by omega) (by decide) (fun h_79 => ?_) (fun h_79 => ?_)
        · refine tz_iconst (pc := 86) dX12_wordFrom_86 ?_
          refine tz_istore (pc := 87) (L2 := [_, _, _, _, _, _, _]) dX12_wordFrom_87 (by decide) rfl ?_
          refine tz_iinc (pc := 89) (z := (x + 2) + 1) (L2 := [_, _, _, _, _, _, _]) dX12_wordFrom_89 rfl (by omega) rfl ?_
          refine tz_iinc (pc := 92) (z := 10) (L2 := [_, _, _, _, _, _, _]) dX12_wordFrom_92 rfl (by decide) rfl ?_
          refine tz_goto (pc := 95) (tgt := 11) dX12_wordFrom_95 (by decide) ?_
          have g9 := s_10 0 (by decide) ⟨fun q => absurd q (by decide), fun q => by have q1 := mp_p q; have q2 := he.2 q1.1; have q3 : x + 2 < y ∧ J 173 (x + 2) = 114 := q1.2; omega⟩ nm
          rw [show x + 3 = x + 2 + 1 by omega] at g9
          exact g9
        · refine tz_iconst (pc := 82) dX12_wordFrom_82 ?_
          refine tz_goto (pc := 83) (tgt := 87) dX12_wordFrom_83 (by decide) ?_
          refine tz_istore (pc := 87) (L2 := [_, _, _, _, _, _, _]) dX12_wordFrom_87 (by decide) rfl ?_
          refine tz_iinc (pc := 89) (z := (x + 2) + 1) (L2 := [_, _, _, _, _, _, _]) dX12_wordFrom_89 rfl (by omega) rfl ?_
          refine tz_iinc (pc := 92) (z := 10) (L2 := [_, _, _, _, _, _, _]) dX12_wordFrom_92 rfl (by decide) rfl ?_
          refine tz_goto (pc := 95) (tgt := 11) dX12_wordFrom_95 (by decide) ?_
          have g9 := s_10 1 (by decide) ⟨fun _ => mp_s (he.1 (by omega)) (show x + 2 < y by omega) (show J 173 (x + 2) = 114 by omega), fun _ => rfl⟩ nm
          rw [show x + 3 = x + 2 + 1 by omega] at g9
          exact g9
  have s_8 : ∀ e : Int, (e = 0 ∨ e = 1) → (e = 1 ↔ mpB (J 173) x y [116, 101, 114, 109] 1) → (¬ mtB (J 173) x y [115, 121, 109, 98, 111, 108]) → tz_At l G M_X12_wordFrom (tb_rm 1 0 0) none (tb_ZM G 0 0 (zQ n 0 (zqi (fun z J' => J = J' ∧ WD (J 173) x y z))) (zX n 0 zN)) 0 0 n J 11 [some (.ref 164), some (zi x), some (zi y), some (zi 1), some (zi (x + 1)), some (zi e), some (zi 8)] [] := by
    intro e h01 he nm
    refine tz_iload (pc := 11) dX12_wordFrom_11 rfl ?_
    refine tz_knL (pc := 13) dX12_wordFrom_13 dX12_wordFrom_16 (by decide +kernel) ?_
    refine tz_icmp_geF (pc := 17) (tgt := 98) (by decide) dX12_wordFrom_17 (by decide) (by decide) (by decide) ?_
    refine tz_knD (pc := 20) (k9 := 8) (v := 101) (by decide) (by decide) rfl dX12_wordFrom_20 dX12_wordFrom_23 dX12_wordFrom_25 (by decide +kernel) ?_
    refine tz_bipush (pc := 26) dX12_wordFrom_26 (by decide) ?_
    refine tz_icmp_neT (pc := 28) (tgt := 56) (by decide) dX12_wordFrom_28 (by decide) (by decide) (by decide) ?_
    refine tz_iload (pc := 56) dX12_wordFrom_56 rfl ?_
    refine tz_if_eq (pc := 58) (tgt := 86) dX12_wordFrom_58 (by decide) (by omega) (fun h_58 => ?_) (fun h_58 => ?_)
    · refine tz_iconst (pc := 86) dX12_wordFrom_86 ?_
      refine tz_istore (pc := 87) (L2 := [_, _, _, _, _, _, _]) dX12_wordFrom_87 (by decide) rfl ?_
      refine tz_iinc (pc := 89) (z := (x + 1) + 1) (L2 := [_, _, _, _, _, _, _]) dX12_wordFrom_89 rfl (by omega) rfl ?_
      refine tz_iinc (pc := 92) (z := 9) (L2 := [_, _, _, _, _, _, _]) dX12_wordFrom_92 rfl (by decide) rfl ?_
      refine tz_goto (pc := 95) (tgt := 11) dX12_wordFrom_95 (by decide) ?_
      have g9 := s_9 0 (by decide) ⟨fun q => absurd q (by decide), fun q => by have q1 := mp_p q; have q2 := he.2 q1.1; have q3 : x + 1 < y ∧ J 173 (x + 1) = 101 := q1.2; omega⟩ nm
      rw [show x + 2 = x + 1 + 1 by omega] at g9
      exact g9
    · refine tz_iload (pc := 61) dX12_wordFrom_61 rfl ?_
      refine tz_iload_n (pc := 63) dX12_wordFrom_63 rfl rfl ?_
      refine tz_icmp_ge (pc := 64) (tgt := 86) dX12_wordFrom_64 (by decide) (by omega) (by omega) (fun h_64 => ?_) (fun h_64 => ?_)
      · refine tz_iconst (pc := 86) dX12_wordFrom_86 ?_
        refine tz_istore (pc := 87) (L2 := [_, _, _, _, _, _, _]) dX12_wordFrom_87 (by decide) rfl ?_
        refine tz_iinc (pc := 89) (z := (x + 1) + 1) (L2 := [_, _, _, _, _, _, _]) dX12_wordFrom_89 rfl (by omega) rfl ?_
        refine tz_iinc (pc := 92) (z := 9) (L2 := [_, _, _, _, _, _, _]) dX12_wordFrom_92 rfl (by decide) rfl ?_
        refine tz_goto (pc := 95) (tgt := 11) dX12_wordFrom_95 (by decide) ?_
        have g9 := s_9 0 (by decide) ⟨fun q => absurd q (by decide), fun q => by have q1 := mp_p q; have q2 := he.2 q1.1; have q3 : x + 1 < y ∧ J 173 (x + 1) = 101 := q1.2; omega⟩ nm
        rw [show x + 2 = x + 1 + 1 by omega] at g9
        exact g9
      · refine tz_aload_n (pc := 67) dX12_wordFrom_67 rfl rfl ?_
        refine tz_iload (pc := 68) dX12_wordFrom_68 rfl ?_
        refine tz_cV (pc := 70) (m_byteAt hl n _ _ (by omega) (by omega) (by omega)) vl_X12_240 dX12_wordFrom_70 o_164 rfl rfl (Nat.le_of_ble_eq_true rfl) ⟨(Nat.le_of_ble_eq_true rfl), (Nat.le_of_ble_eq_true rfl)⟩ rfl rfl (Nat.le_of_ble_eq_true rfl) (Nat.le_of_ble_eq_true rfl) (fun r9 J_70 hq9 => ?_)
        obtain ⟨z_70, rfl, hz_70, rfl, hb70, hc70⟩ := hq9
        refine tz_knD (pc := 73) (k9 := 8) (v := 101) (by decide) (by decide) rfl dX12_wordFrom_73 dX12_wordFrom_76 dX12_wordFrom_78 (by decide +kernel) ?_
        refine tz_icmp_ne (pc := 79) (tgt := 86) dX12_wordFrom_79 (by decide) (by omega) (by decide) (fun h_79 => ?_) (fun h_79 => ?_)
        · refine tz_iconst (pc := 86) dX12_wordFrom_86 ?_
          refine tz_istore (pc := 87) (L2 := [_, _, _, _, _, _, _]) dX12_wordFrom_87 (by decide) rfl ?_
          refine tz_iinc (pc := 89) (z := (x + 1) + 1) (L2 := [_, _, _, _, _, _, _]) dX12_wordFrom_89 rfl (by omega) rfl ?_
          refine tz_iinc (pc := 92) (z := 9) (L2 := [_, _, _, _, _, _, _]) dX12_wordFrom_92 rfl (by decide) rfl ?_
          refine tz_goto (pc := 95) (tgt := 11) dX12_wordFrom_95 (by decide) ?_
          have g9 := s_9 0 (by decide) ⟨fun q => absurd q (by decide), fun q => by have q1 := mp_p q; have q2 := he.2 q1.1; have q3 : x + 1 < y ∧ J 173 (x + 1) = 101 := q1.2; omega⟩ nm
          rw [show x + 2 = x + 1 + 1 by omega] at g9
          exact g9
        · refine tz_iconst (pc := 82) dX12_wordFrom_82 ?_
          refine tz_goto (pc := 83) (tgt := 87) dX12_wordFrom_83 (by decide) ?_
          refine tz_istore (pc := 87) (L2 := [_, _, _, _, _, _, _]) dX12_wordFrom_87 (by decide) rfl ?_
          refine tz_iinc (pc := 89) (z := (x + 1) + 1) (L2 := [_, _, _, _, _, _, _]) dX12_wordFrom_89 rfl (by omega) rfl ?_
          refine tz_iinc (pc := 92) (z := 9) (L2 := [_, _, _, _, _, _, _]) dX12_wordFrom_92 rfl (by decide) rfl ?_
          refine tz_goto (pc := 95) (tgt := 11) dX12_wordFrom_95 (by decide) ?_
          have g9 := s_9 1 (by decide) ⟨fun _ => mp_s (he.1 (by omega)) (show x + 1 < y by omega) (show J 173 (x + 1) = 101 by omega), fun _ => rfl⟩ nm
          rw [show x + 2 = x + 1 + 1 by omega] at g9
          exact g9
  have s_7 : ∀ e : Int, (e = 0 ∨ e = 1) → (e = 1 ↔ mpB (J 173) x y [116, 101, 114, 109] 0) → (¬ mtB (J 173) x y [115, 121, 109, 98, 111, 108]) → tz_At l G M_X12_wordFrom (tb_rm 1 0 0) none (tb_ZM G 0 0 (zQ n 0 (zqi (fun z J' => J = J' ∧ WD (J 173) x y z))) (zX n 0 zN)) 0 0 n J 11 [some (.ref 164), some (zi x), some (zi y), some (zi 1), some (zi (x + 0)), some (zi e), some (zi 7)] [] := by
    intro e h01 he nm
    refine tz_iload (pc := 11) dX12_wordFrom_11 rfl ?_
    refine tz_knL (pc := 13) dX12_wordFrom_13 dX12_wordFrom_16 (by decide +kernel) ?_
    refine tz_icmp_geF (pc := 17) (tgt := 98) (by decide) dX12_wordFrom_17 (by decide) (by decide) (by decide) ?_
    refine tz_knD (pc := 20) (k9 := 7) (v := 116) (by decide) (by decide) rfl dX12_wordFrom_20 dX12_wordFrom_23 dX12_wordFrom_25 (by decide +kernel) ?_
    refine tz_bipush (pc := 26) dX12_wordFrom_26 (by decide) ?_
    refine tz_icmp_neT (pc := 28) (tgt := 56) (by decide) dX12_wordFrom_28 (by decide) (by decide) (by decide) ?_
    refine tz_iload (pc := 56) dX12_wordFrom_56 rfl ?_
    refine tz_if_eq (pc := 58) (tgt := 86) dX12_wordFrom_58 (by decide) (by omega) (fun h_58 => ?_) (fun h_58 => ?_)
    · refine tz_iconst (pc := 86) dX12_wordFrom_86 ?_
      refine tz_istore (pc := 87) (L2 := [_, _, _, _, _, _, _]) dX12_wordFrom_87 (by decide) rfl ?_
      refine tz_iinc (pc := 89) (z := (x + 0) + 1) (L2 := [_, _, _, _, _, _, _]) dX12_wordFrom_89 rfl (by omega) rfl ?_
      refine tz_iinc (pc := 92) (z := 8) (L2 := [_, _, _, _, _, _, _]) dX12_wordFrom_92 rfl (by decide) rfl ?_
      refine tz_goto (pc := 95) (tgt := 11) dX12_wordFrom_95 (by decide) ?_
      have g9 := s_8 0 (by decide) ⟨fun q => absurd q (by decide), fun q => by have q1 := mp_p q; have q2 := he.2 q1.1; have q3 : x + 0 < y ∧ J 173 (x + 0) = 116 := q1.2; omega⟩ nm
      rw [show x + 1 = x + 0 + 1 by omega] at g9
      exact g9
    · refine tz_iload (pc := 61) dX12_wordFrom_61 rfl ?_
      refine tz_iload_n (pc := 63) dX12_wordFrom_63 rfl rfl ?_
      refine tz_icmp_ge (pc := 64) (tgt := 86) dX12_wordFrom_64 (by decide) (by omega) (by omega) (fun h_64 => ?_) (fun h_64 => ?_)
      · refine tz_iconst (pc := 86) dX12_wordFrom_86 ?_
        refine tz_istore (pc := 87) (L2 := [_, _, _, _, _, _, _]) dX12_wordFrom_87 (by decide) rfl ?_
        refine tz_iinc (pc := 89) (z := (x + 0) + 1) (L2 := [_, _, _, _, _, _, _]) dX12_wordFrom_89 rfl (by omega) rfl ?_
        refine tz_iinc (pc := 92) (z := 8) (L2 := [_, _, _, _, _, _, _]) dX12_wordFrom_92 rfl (by decide) rfl ?_
        refine tz_goto (pc := 95) (tgt := 11) dX12_wordFrom_95 (by decide) ?_
        have g9 := s_8 0 (by decide) ⟨fun q => absurd q (by decide), fun q => by have q1 := mp_p q; have q2 := he.2 q1.1; have q3 : x + 0 < y ∧ J 173 (x + 0) = 116 := q1.2; omega⟩ nm
        rw [show x + 1 = x + 0 + 1 by omega] at g9
        exact g9
      · refine tz_aload_n (pc := 67) dX12_wordFrom_67 rfl rfl ?_
        refine tz_iload (pc := 68) dX12_wordFrom_68 rfl ?_
        refine tz_cV (pc := 70) (m_byteAt hl n _ _ (by omega) (by omega) (by omega)) vl_X12_240 dX12_wordFrom_70 o_164 rfl rfl (Nat.le_of_ble_eq_true rfl) ⟨(Nat.le_of_ble_eq_true rfl), (Nat.le_of_ble_eq_true rfl)⟩ rfl rfl (Nat.le_of_ble_eq_true rfl) (Nat.le_of_ble_eq_true rfl) (fun r9 J_70 hq9 => ?_)
        obtain ⟨z_70, rfl, hz_70, rfl, hb70, hc70⟩ := hq9
        refine tz_knD (pc := 73) (k9 := 7) (v := 116) (by decide) (by decide) rfl dX12_wordFrom_73 dX12_wordFrom_76 dX12_wordFrom_78 (by decide +kernel) ?_
        refine tz_icmp_ne (pc := 79) (tgt := 86) dX12_wordFrom_79 (by decide) (by omega) (by decide) (fun h_79 => ?_) (fun h_79 => ?_)
        · refine tz_iconst (pc := 86) dX12_wordFrom_86 ?_
          refine tz_istore (pc := 87) (L2 := [_, _, _, _, _, _, _]) dX12_wordFrom_87 (by decide) rfl ?_
          refine tz_iinc (pc := 89) (z := (x + 0) + 1) (L2 := [_, _, _, _, _, _, _]) dX12_wordFrom_89 rfl (by omega) rfl ?_
          refine tz_iinc (pc := 92) (z := 8) (L2 := [_, _, _, _, _, _, _]) dX12_wordFrom_92 rfl (by decide) rfl ?_
          refine tz_goto (pc := 95) (tgt := 11) dX12_wordFrom_95 (by decide) ?_
          have g9 := s_8 0 (by decide) ⟨fun q => absurd q (by decide), fun q => by have q1 := mp_p q; have q2 := he.2 q1.1; have q3 : x + 0 < y ∧ J 173 (x + 0) = 116 := q1.2; omega⟩ nm
          rw [show x + 1 = x + 0 + 1 by omega] at g9
          exact g9
        · refine tz_iconst (pc := 82) dX12_wordFrom_82 ?_
          refine tz_goto (pc := 83) (tgt := 87) dX12_wordFrom_83 (by decide) ?_
          refine tz_istore (pc := 87) (L2 := [_, _, _, _, _, _, _]) dX12_wordFrom_87 (by decide) rfl ?_
          refine tz_iinc (pc := 89) (z := (x + 0) + 1) (L2 := [_, _, _, _, _, _, _]) dX12_wordFrom_89 rfl (by omega) rfl ?_
          refine tz_iinc (pc := 92) (z := 8) (L2 := [_, _, _, _, _, _, _]) dX12_wordFrom_92 rfl (by decide) rfl ?_
          refine tz_goto (pc := 95) (tgt := 11) dX12_wordFrom_95 (by decide) ?_
          have g9 := s_8 1 (by decide) ⟨fun _ => mp_s (he.1 (by omega)) (show x + 0 < y by omega) (show J 173 (x + 0) = 116 by omega), fun _ => rfl⟩ nm
          rw [show x + 1 = x + 0 + 1 by omega] at g9
          exact g9
  have s_6 : ∀ e : Int, (e = 0 ∨ e = 1) → (e = 1 ↔ mpB (J 173) x y [115, 121, 109, 98, 111, 108] 6) → (True) → tz_At l G M_X12_wordFrom (tb_rm 1 0 0) none (tb_ZM G 0 0 (zQ n 0 (zqi (fun z J' => J = J' ∧ WD (J 173) x y z))) (zX n 0 zN)) 0 0 n J 11 [some (.ref 164), some (zi x), some (zi y), some (zi 0), some (zi (x + 6)), some (zi e), some (zi 6)] [] := by
    intro e h01 he nm
    refine tz_iload (pc := 11) dX12_wordFrom_11 rfl ?_
    refine tz_knL (pc := 13) dX12_wordFrom_13 dX12_wordFrom_16 (by decide +kernel) ?_
    refine tz_icmp_geF (pc := 17) (tgt := 98) (by decide) dX12_wordFrom_17 (by decide) (by decide) (by decide) ?_
    refine tz_knD (pc := 20) (k9 := 6) (v := 32) (by decide) (by decide) rfl dX12_wordFrom_20 dX12_wordFrom_23 dX12_wordFrom_25 (by decide +kernel) ?_
    refine tz_bipush (pc := 26) dX12_wordFrom_26 (by decide) ?_
    refine tz_icmp_neF (pc := 28) (tgt := 56) (by decide) dX12_wordFrom_28 (by decide) (by decide) (by decide) ?_
    refine tz_iload (pc := 31) dX12_wordFrom_31 rfl ?_
    refine tz_if_eq (pc := 33) (tgt := 44) dX12_wordFrom_33 (by decide) (by omega) (fun h_33 => ?_) (fun h_33 => ?_)
    · refine tz_iinc (pc := 44) (z := 1) (L2 := [_, _, _, _, _, _, _]) dX12_wordFrom_44 rfl (by decide) rfl ?_
      refine tz_iload_n (pc := 47) dX12_wordFrom_47 rfl rfl ?_
      refine tz_istore (pc := 48) (L2 := [_, _, _, _, _, _, _]) dX12_wordFrom_48 (by decide) rfl ?_
      refine tz_iconst (pc := 50) dX12_wordFrom_50 ?_
      refine tz_istore (pc := 51) (L2 := [_, _, _, _, _, _, _]) dX12_wordFrom_51 (by decide) rfl ?_
      refine tz_goto (pc := 53) (tgt := 92) dX12_wordFrom_53 (by decide) ?_
      refine tz_iinc (pc := 92) (z := 7) (L2 := [_, _, _, _, _, _, _]) dX12_wordFrom_92 rfl (by decide) rfl ?_
      refine tz_goto (pc := 95) (tgt := 11) dX12_wordFrom_95 (by decide) ?_
      have nt : ¬ mtB (J 173) x y [115, 121, 109, 98, 111, 108] := fun q => by
        have q1 := he.2 q.1
        have q2 : y = x + 6 := q.2
        omega
      have g9 := s_7 1 (Or.inr rfl) ⟨fun _ => mp_0, fun _ => rfl⟩ nt
      rw [show x + 0 = x from Int.add_zero x] at g9
      exact g9
    · refine tz_iload (pc := 36) dX12_wordFrom_36 rfl ?_
      refine tz_iload_n (pc := 38) dX12_wordFrom_38 rfl rfl ?_
      refine tz_icmp_ne (pc := 39) (tgt := 44) dX12_wordFrom_39 (by decide) (by omega) (by omega) (fun h_39 => ?_) (fun h_39 => ?_)
      · refine tz_iinc (pc := 44) (z := 1) (L2 := [_, _, _, _, _, _, _]) dX12_wordFrom_44 rfl (by decide) rfl ?_
        refine tz_iload_n (pc := 47) dX12_wordFrom_47 rfl rfl ?_
        refine tz_istore (pc := 48) (L2 := [_, _, _, _, _, _, _]) dX12_wordFrom_48 (by decide) rfl ?_
        refine tz_iconst (pc := 50) dX12_wordFrom_50 ?_
        refine tz_istore (pc := 51) (L2 := [_, _, _, _, _, _, _]) dX12_wordFrom_51 (by decide) rfl ?_
        refine tz_goto (pc := 53) (tgt := 92) dX12_wordFrom_53 (by decide) ?_
        refine tz_iinc (pc := 92) (z := 7) (L2 := [_, _, _, _, _, _, _]) dX12_wordFrom_92 rfl (by decide) rfl ?_
        refine tz_goto (pc := 95) (tgt := 11) dX12_wordFrom_95 (by decide) ?_
        have nt : ¬ mtB (J 173) x y [115, 121, 109, 98, 111, 108] := fun q => by
          have q1 := he.2 q.1
          have q2 : y = x + 6 := q.2
          omega
        have g9 := s_7 1 (Or.inr rfl) ⟨fun _ => mp_0, fun _ => rfl⟩ nt
        rw [show x + 0 = x from Int.add_zero x] at g9
        exact g9
      · refine tz_iload_n (pc := 42) dX12_wordFrom_42 rfl rfl ?_
        exact tz_iret (pc := 43) (z := 0) dX12_wordFrom_43 rfl (Nat.le_of_ble_eq_true rfl) (Nat.le_of_ble_eq_true rfl) ⟨Nat.le_refl _, Nat.le_add_right _ _⟩ ⟨_, rfl, (by decide), ⟨rfl, Or.inl ⟨(show mtB (J 173) x y [115, 121, 109, 98, 111, 108] from ⟨he.1 (by omega), (show y = x + 6 by omega)⟩), rfl⟩⟩⟩
  have s_5 : ∀ e : Int, (e = 0 ∨ e = 1) → (e = 1 ↔ mpB (J 173) x y [115, 121, 109, 98, 111, 108] 5) → (True) → tz_At l G M_X12_wordFrom (tb_rm 1 0 0) none (tb_ZM G 0 0 (zQ n 0 (zqi (fun z J' => J = J' ∧ WD (J 173) x y z))) (zX n 0 zN)) 0 0 n J 11 [some (.ref 164), some (zi x), some (zi y), some (zi 0), some (zi (x + 5)), some (zi e), some (zi 5)] [] := by
    intro e h01 he nm
    refine tz_iload (pc := 11) dX12_wordFrom_11 rfl ?_
    refine tz_knL (pc := 13) dX12_wordFrom_13 dX12_wordFrom_16 (by decide +kernel) ?_
    refine tz_icmp_geF (pc := 17) (tgt := 98) (by decide) dX12_wordFrom_17 (by decide) (by decide) (by decide) ?_
    refine tz_knD (pc := 20) (k9 := 5) (v := 108) (by decide) (by decide) rfl dX12_wordFrom_20 dX12_wordFrom_23 dX12_wordFrom_25 (by decide +kernel) ?_
    refine tz_bipush (pc := 26) dX12_wordFrom_26 (by decide) ?_
    refine tz_icmp_neT (pc := 28) (tgt := 56) (by decide) dX12_wordFrom_28 (by decide) (by decide) (by decide) ?_
    refine tz_iload (pc := 56) dX12_wordFrom_56 rfl ?_
    refine tz_if_eq (pc := 58) (tgt := 86) dX12_wordFrom_58 (by decide) (by omega) (fun h_58 => ?_) (fun h_58 => ?_)
    · refine tz_iconst (pc := 86) dX12_wordFrom_86 ?_
      refine tz_istore (pc := 87) (L2 := [_, _, _, _, _, _, _]) dX12_wordFrom_87 (by decide) rfl ?_
      refine tz_iinc (pc := 89) (z := (x + 5) + 1) (L2 := [_, _, _, _, _, _, _]) dX12_wordFrom_89 rfl (by omega) rfl ?_
      refine tz_iinc (pc := 92) (z := 6) (L2 := [_, _, _, _, _, _, _]) dX12_wordFrom_92 rfl (by decide) rfl ?_
      refine tz_goto (pc := 95) (tgt := 11) dX12_wordFrom_95 (by decide) ?_
      have g9 := s_6 0 (by decide) ⟨fun q => absurd q (by decide), fun q => by have q1 := mp_p q; have q2 := he.2 q1.1; have q3 : x + 5 < y ∧ J 173 (x + 5) = 108 := q1.2; omega⟩ nm
      rw [show x + 6 = x + 5 + 1 by omega] at g9
      exact g9
    · refine tz_iload (pc := 61) dX12_wordFrom_61 rfl ?_
      refine tz_iload_n (pc := 63) dX12_wordFrom_63 rfl rfl ?_
      refine tz_icmp_ge (pc := 64) (tgt := 86) dX12_wordFrom_64 (by decide) (by omega) (by omega) (fun h_64 => ?_) (fun h_64 => ?_)
      · refine tz_iconst (pc := 86) dX12_wordFrom_86 ?_
        refine tz_istore (pc := 87) (L2 := [_, _, _, _, _, _, _]) dX12_wordFrom_87 (by decide) rfl ?_
        refine tz_iinc (pc := 89) (z := (x + 5) + 1) (L2 := [_, _, _, _, _, _, _]) dX12_wordFrom_89 rfl (by omega) rfl ?_
        refine tz_iinc (pc := 92) (z := 6) (L2 := [_, _, _, _, _, _, _]) dX12_wordFrom_92 rfl (by decide) rfl ?_
        refine tz_goto (pc := 95) (tgt := 11) dX12_wordFrom_95 (by decide) ?_
        have g9 := s_6 0 (by decide) ⟨fun q => absurd q (by decide), fun q => by have q1 := mp_p q; have q2 := he.2 q1.1; have q3 : x + 5 < y ∧ J 173 (x + 5) = 108 := q1.2; omega⟩ nm
        rw [show x + 6 = x + 5 + 1 by omega] at g9
        exact g9
      · refine tz_aload_n (pc := 67) dX12_wordFrom_67 rfl rfl ?_
        refine tz_iload (pc := 68) dX12_wordFrom_68 rfl ?_
        refine tz_cV (pc := 70) (m_byteAt hl n _ _ (by omega) (by omega) (by omega)) vl_X12_240 dX12_wordFrom_70 o_164 rfl rfl (Nat.le_of_ble_eq_true rfl) ⟨(Nat.le_of_ble_eq_true rfl), (Nat.le_of_ble_eq_true rfl)⟩ rfl rfl (Nat.le_of_ble_eq_true rfl) (Nat.le_of_ble_eq_true rfl) (fun r9 J_70 hq9 => ?_)
        obtain ⟨z_70, rfl, hz_70, rfl, hb70, hc70⟩ := hq9
        refine tz_knD (pc := 73) (k9 := 5) (v := 108) (by decide) (by decide) rfl dX12_wordFrom_73 dX12_wordFrom_76 dX12_wordFrom_78 (by decide +kernel) ?_
        refine tz_icmp_ne (pc := 79) (tgt := 86) dX12_wordFrom_79 (by decide) (by omega) (by decide) (fun h_79 => ?_) (fun h_79 => ?_)
        · refine tz_iconst (pc := 86) dX12_wordFrom_86 ?_
          refine tz_istore (pc := 87) (L2 := [_, _, _, _, _, _, _]) dX12_wordFrom_87 (by decide) rfl ?_
          refine tz_iinc (pc := 89) (z := (x + 5) + 1) (L2 := [_, _, _, _, _, _, _]) dX12_wordFrom_89 rfl (by omega) rfl ?_
          refine tz_iinc (pc := 92) (z := 6) (L2 := [_, _, _, _, _, _, _]) dX12_wordFrom_92 rfl (by decide) rfl ?_
          refine tz_goto (pc := 95) (tgt := 11) dX12_wordFrom_95 (by decide) ?_
          have g9 := s_6 0 (by decide) ⟨fun q => absurd q (by decide), fun q => by have q1 := mp_p q; have q2 := he.2 q1.1; have q3 : x + 5 < y ∧ J 173 (x + 5) = 108 := q1.2; omega⟩ nm
          rw [show x + 6 = x + 5 + 1 by omega] at g9
          exact g9
        · refine tz_iconst (pc := 82) dX12_wordFrom_82 ?_
          refine tz_goto (pc := 83) (tgt := 87) dX12_wordFrom_83 (by decide) ?_
          refine tz_istore (pc := 87) (L2 := [_, _, _, _, _, _, _]) dX12_wordFrom_87 (by decide) rfl ?_
          refine tz_iinc (pc := 89) (z := (x + 5) + 1) (L2 := [_, _, _, _, _, _, _]) dX12_wordFrom_89 rfl (by omega) rfl ?_
          refine tz_iinc (pc := 92) (z := 6) (L2 := [_, _, _, _, _, _, _]) dX12_wordFrom_92 rfl (by decide) rfl ?_
          refine tz_goto (pc := 95) (tgt := 11) dX12_wordFrom_95 (by decide) ?_
          have g9 := s_6 1 (by decide) ⟨fun _ => mp_s (he.1 (by omega)) (show x + 5 < y by omega) (show J 173 (x + 5) = 108 by omega), fun _ => rfl⟩ nm
          rw [show x + 6 = x + 5 + 1 by omega] at g9
          exact g9
  have s_4 : ∀ e : Int, (e = 0 ∨ e = 1) → (e = 1 ↔ mpB (J 173) x y [115, 121, 109, 98, 111, 108] 4) → (True) → tz_At l G M_X12_wordFrom (tb_rm 1 0 0) none (tb_ZM G 0 0 (zQ n 0 (zqi (fun z J' => J = J' ∧ WD (J 173) x y z))) (zX n 0 zN)) 0 0 n J 11 [some (.ref 164), some (zi x), some (zi y), some (zi 0), some (zi (x + 4)), some (zi e), some (zi 4)] [] := by
    intro e h01 he nm
    refine tz_iload (pc := 11) dX12_wordFrom_11 rfl ?_
    refine tz_knL (pc := 13) dX12_wordFrom_13 dX12_wordFrom_16 (by decide +kernel) ?_
    refine tz_icmp_geF (pc := 17) (tgt := 98) (by decide) dX12_wordFrom_17 (by decide) (by decide) (by decide) ?_
    refine tz_knD (pc := 20) (k9 := 4) (v := 111) (by decide) (by decide) rfl dX12_wordFrom_20 dX12_wordFrom_23 dX12_wordFrom_25 (by decide +kernel) ?_
    refine tz_bipush (pc := 26) dX12_wordFrom_26 (by decide) ?_
    refine tz_icmp_neT (pc := 28) (tgt := 56) (by decide) dX12_wordFrom_28 (by decide) (by decide) (by decide) ?_
    refine tz_iload (pc := 56) dX12_wordFrom_56 rfl ?_
    refine tz_if_eq (pc := 58) (tgt := 86) dX12_wordFrom_58 (by decide) (by omega) (fun h_58 => ?_) (fun h_58 => ?_)
    · refine tz_iconst (pc := 86) dX12_wordFrom_86 ?_
      refine tz_istore (pc := 87) (L2 := [_, _, _, _, _, _, _]) dX12_wordFrom_87 (by decide) rfl ?_
      refine tz_iinc (pc := 89) (z := (x + 4) + 1) (L2 := [_, _, _, _, _, _, _]) dX12_wordFrom_89 rfl (by omega) rfl ?_
      refine tz_iinc (pc := 92) (z := 5) (L2 := [_, _, _, _, _, _, _]) dX12_wordFrom_92 rfl (by decide) rfl ?_
      refine tz_goto (pc := 95) (tgt := 11) dX12_wordFrom_95 (by decide) ?_
      have g9 := s_5 0 (by decide) ⟨fun q => absurd q (by decide), fun q => by have q1 := mp_p q; have q2 := he.2 q1.1; have q3 : x + 4 < y ∧ J 173 (x + 4) = 111 := q1.2; omega⟩ nm
      rw [show x + 5 = x + 4 + 1 by omega] at g9
      exact g9
    · refine tz_iload (pc := 61) dX12_wordFrom_61 rfl ?_
      refine tz_iload_n (pc := 63) dX12_wordFrom_63 rfl rfl ?_
      refine tz_icmp_ge (pc := 64) (tgt := 86) dX12_wordFrom_64 (by decide) (by omega) (by omega) (fun h_64 => ?_) (fun h_64 => ?_)
      · refine tz_iconst (pc := 86) dX12_wordFrom_86 ?_
        refine tz_istore (pc := 87) (L2 := [_, _, _, _, _, _, _]) dX12_wordFrom_87 (by decide) rfl ?_
        refine tz_iinc (pc := 89) (z := (x + 4) + 1) (L2 := [_, _, _, _, _, _, _]) dX12_wordFrom_89 rfl (by omega) rfl ?_
        refine tz_iinc (pc := 92) (z := 5) (L2 := [_, _, _, _, _, _, _]) dX12_wordFrom_92 rfl (by decide) rfl ?_
        refine tz_goto (pc := 95) (tgt := 11) dX12_wordFrom_95 (by decide) ?_
        have g9 := s_5 0 (by decide) ⟨fun q => absurd q (by decide), fun q => by have q1 := mp_p q; have q2 := he.2 q1.1; have q3 : x + 4 < y ∧ J 173 (x + 4) = 111 := q1.2; omega⟩ nm
        rw [show x + 5 = x + 4 + 1 by omega] at g9
        exact g9
      · refine tz_aload_n (pc := 67) dX12_wordFrom_67 rfl rfl ?_
        refine tz_iload (pc := 68) dX12_wordFrom_68 rfl ?_
        refine tz_cV (pc := 70) (m_byteAt hl n _ _ (by omega) (by omega) (by omega)) vl_X12_240 dX12_wordFrom_70 o_164 rfl rfl (Nat.le_of_ble_eq_true rfl) ⟨(Nat.le_of_ble_eq_true rfl), (Nat.le_of_ble_eq_true rfl)⟩ rfl rfl (Nat.le_of_ble_eq_true rfl) (Nat.le_of_ble_eq_true rfl) (fun r9 J_70 hq9 => ?_)
        obtain ⟨z_70, rfl, hz_70, rfl, hb70, hc70⟩ := hq9
        refine tz_knD (pc := 73) (k9 := 4) (v := 111) (by decide) (by decide) rfl dX12_wordFrom_73 dX12_wordFrom_76 dX12_wordFrom_78 (by decide +kernel) ?_
        refine tz_icmp_ne (pc := 79) (tgt := 86) dX12_wordFrom_79 (by decide) (by omega) (by decide) (fun h_79 => ?_) (fun h_79 => ?_)
        · refine tz_iconst (pc := 86) dX12_wordFrom_86 ?_
          refine tz_istore (pc := 87) (L2 := [_, _, _, _, _, _, _]) dX12_wordFrom_87 (by decide) rfl ?_
          refine tz_iinc (pc := 89) (z := (x + 4) + 1) (L2 := [_, _, _, _, _, _, _]) dX12_wordFrom_89 rfl (by omega) rfl ?_
          refine tz_iinc (pc := 92) (z := 5) (L2 := [_, _, _, _, _, _, _]) dX12_wordFrom_92 rfl (by decide) rfl ?_
          refine tz_goto (pc := 95) (tgt := 11) dX12_wordFrom_95 (by decide) ?_
          have g9 := s_5 0 (by decide) ⟨fun q => absurd q (by decide), fun q => by have q1 := mp_p q; have q2 := he.2 q1.1; have q3 : x + 4 < y ∧ J 173 (x + 4) = 111 := q1.2; omega⟩ nm
          rw [show x + 5 = x + 4 + 1 by omega] at g9
          exact g9
        · refine tz_iconst (pc := 82) dX12_wordFrom_82 ?_
          refine tz_goto (pc := 83) (tgt := 87) dX12_wordFrom_83 (by decide) ?_
          refine tz_istore (pc := 87) (L2 := [_, _, _, _, _, _, _]) dX12_wordFrom_87 (by decide) rfl ?_
          refine tz_iinc (pc := 89) (z := (x + 4) + 1) (L2 := [_, _, _, _, _, _, _]) dX12_wordFrom_89 rfl (by omega) rfl ?_
          refine tz_iinc (pc := 92) (z := 5) (L2 := [_, _, _, _, _, _, _]) dX12_wordFrom_92 rfl (by decide) rfl ?_
          refine tz_goto (pc := 95) (tgt := 11) dX12_wordFrom_95 (by decide) ?_
          have g9 := s_5 1 (by decide) ⟨fun _ => mp_s (he.1 (by omega)) (show x + 4 < y by omega) (show J 173 (x + 4) = 111 by omega), fun _ => rfl⟩ nm
          rw [show x + 5 = x + 4 + 1 by omega] at g9
          exact g9
  have s_3 : ∀ e : Int, (e = 0 ∨ e = 1) → (e = 1 ↔ mpB (J 173) x y [115, 121, 109, 98, 111, 108] 3) → (True) → tz_At l G M_X12_wordFrom (tb_rm 1 0 0) none (tb_ZM G 0 0 (zQ n 0 (zqi (fun z J' => J = J' ∧ WD (J 173) x y z))) (zX n 0 zN)) 0 0 n J 11 [some (.ref 164), some (zi x), some (zi y), some (zi 0), some (zi (x + 3)), some (zi e), some (zi 3)] [] := by
    intro e h01 he nm
    refine tz_iload (pc := 11) dX12_wordFrom_11 rfl ?_
    refine tz_knL (pc := 13) dX12_wordFrom_13 dX12_wordFrom_16 (by decide +kernel) ?_
    refine tz_icmp_geF (pc := 17) (tgt := 98) (by decide) dX12_wordFrom_17 (by decide) (by decide) (by decide) ?_
    refine tz_knD (pc := 20) (k9 := 3) (v := 98) (by decide) (by decide) rfl dX12_wordFrom_20 dX12_wordFrom_23 dX12_wordFrom_25 (by decide +kernel) ?_
    refine tz_bipush (pc := 26) dX12_wordFrom_26 (by decide) ?_
    refine tz_icmp_neT (pc := 28) (tgt := 56) (by decide) dX12_wordFrom_28 (by decide) (by decide) (by decide) ?_
    refine tz_iload (pc := 56) dX12_wordFrom_56 rfl ?_
    refine tz_if_eq (pc := 58) (tgt := 86) dX12_wordFrom_58 (by decide) (by omega) (fun h_58 => ?_) (fun h_58 => ?_)
    · refine tz_iconst (pc := 86) dX12_wordFrom_86 ?_
      refine tz_istore (pc := 87) (L2 := [_, _, _, _, _, _, _]) dX12_wordFrom_87 (by decide) rfl ?_
      refine tz_iinc (pc := 89) (z := (x + 3) + 1) (L2 := [_, _, _, _, _, _, _]) dX12_wordFrom_89 rfl (by omega) rfl ?_
      refine tz_iinc (pc := 92) (z := 4) (L2 := [_, _, _, _, _, _, _]) dX12_wordFrom_92 rfl (by decide) rfl ?_
      refine tz_goto (pc := 95) (tgt := 11) dX12_wordFrom_95 (by decide) ?_
      have g9 := s_4 0 (by decide) ⟨fun q => absurd q (by decide), fun q => by have q1 := mp_p q; have q2 := he.2 q1.1; have q3 : x + 3 < y ∧ J 173 (x + 3) = 98 := q1.2; omega⟩ nm
      rw [show x + 4 = x + 3 + 1 by omega] at g9
      exact g9
    · refine tz_iload (pc := 61) dX12_wordFrom_61 rfl ?_
      refine tz_iload_n (pc := 63) dX12_wordFrom_63 rfl rfl ?_
      refine tz_icmp_ge (pc := 64) (tgt := 86) dX12_wordFrom_64 (by decide) (by omega) (by omega) (fun h_64 => ?_) (fun h_64 => ?_)
      · refine tz_iconst (pc := 86) dX12_wordFrom_86 ?_
        refine tz_istore (pc := 87) (L2 := [_, _, _, _, _, _, _]) dX12_wordFrom_87 (by decide) rfl ?_
        refine tz_iinc (pc := 89) (z := (x + 3) + 1) (L2 := [_, _, _, _, _, _, _]) dX12_wordFrom_89 rfl (by omega) rfl ?_
        refine tz_iinc (pc := 92) (z := 4) (L2 := [_, _, _, _, _, _, _]) dX12_wordFrom_92 rfl (by decide) rfl ?_
        refine tz_goto (pc := 95) (tgt := 11) dX12_wordFrom_95 (by decide) ?_
        have g9 := s_4 0 (by decide) ⟨fun q => absurd q (by decide), fun q => by have q1 := mp_p q; have q2 := he.2 q1.1; have q3 : x + 3 < y ∧ J 173 (x + 3) = 98 := q1.2; omega⟩ nm
        rw [show x + 4 = x + 3 + 1 by omega] at g9
        exact g9
      · refine tz_aload_n (pc := 67) dX12_wordFrom_67 rfl rfl ?_
        refine tz_iload (pc := 68) dX12_wordFrom_68 rfl ?_
        refine tz_cV (pc := 70) (m_byteAt hl n _ _ (by omega) (by omega) (by omega)) vl_X12_240 dX12_wordFrom_70 o_164 rfl rfl (Nat.le_of_ble_eq_true rfl) ⟨(Nat.le_of_ble_eq_true rfl), (Nat.le_of_ble_eq_true rfl)⟩ rfl rfl (Nat.le_of_ble_eq_true rfl) (Nat.le_of_ble_eq_true rfl) (fun r9 J_70 hq9 => ?_)
        obtain ⟨z_70, rfl, hz_70, rfl, hb70, hc70⟩ := hq9
        refine tz_knD (pc := 73) (k9 := 3) (v := 98) (by decide) (by decide) rfl dX12_wordFrom_73 dX12_wordFrom_76 dX12_wordFrom_78 (by decide +kernel) ?_
        refine tz_icmp_ne (pc := 79) (tgt := 86) dX12_wordFrom_79 (by decide) (by omega) (by decide) (fun h_79 => ?_) (fun h_79 => ?_)
        · refine tz_iconst (pc := 86) dX12_wordFrom_86 ?_
          refine tz_istore (pc := 87) (L2 := [_, _, _, _, _, _, _]) dX12_wordFrom_87 (by decide) rfl ?_
          refine tz_iinc (pc := 89) (z := (x + 3) + 1) (L2 := [_, _, _, _, _, _, _]) dX12_wordFrom_89 rfl (by omega) rfl ?_
          refine tz_iinc (pc := 92) (z := 4) (L2 := [_, _, _, _, _, _, _]) dX12_wordFrom_92 rfl (by decide) rfl ?_
          refine tz_goto (pc := 95) (tgt := 11) dX12_wordFrom_95 (by decide) ?_
          have g9 := s_4 0 (by decide) ⟨fun q => absurd q (by decide), fun q => by have q1 := mp_p q; have q2 := he.2 q1.1; have q3 : x + 3 < y ∧ J 173 (x + 3) = 98 := q1.2; omega⟩ nm
          rw [show x + 4 = x + 3 + 1 by omega] at g9
          exact g9
        · refine tz_iconst (pc := 82) dX12_wordFrom_82 ?_
          refine tz_goto (pc := 83) (tgt := 87) dX12_wordFrom_83 (by decide) ?_
          refine tz_istore (pc := 87) (L2 := [_, _, _, _, _, _, _]) dX12_wordFrom_87 (by decide) rfl ?_
          refine tz_iinc (pc := 89) (z := (x + 3) + 1) (L2 := [_, _, _, _, _, _, _]) dX12_wordFrom_89 rfl (by omega) rfl ?_
          refine tz_iinc (pc := 92) (z := 4) (L2 := [_, _, _, _, _, _, _]) dX12_wordFrom_92 rfl (by decide) rfl ?_
          refine tz_goto (pc := 95) (tgt := 11) dX12_wordFrom_95 (by decide) ?_
          have g9 := s_4 1 (by decide) ⟨fun _ => mp_s (he.1 (by omega)) (show x + 3 < y by omega) (show J 173 (x + 3) = 98 by omega), fun _ => rfl⟩ nm
          rw [show x + 4 = x + 3 + 1 by omega] at g9
          exact g9
  have s_2 : ∀ e : Int, (e = 0 ∨ e = 1) → (e = 1 ↔ mpB (J 173) x y [115, 121, 109, 98, 111, 108] 2) → (True) → tz_At l G M_X12_wordFrom (tb_rm 1 0 0) none (tb_ZM G 0 0 (zQ n 0 (zqi (fun z J' => J = J' ∧ WD (J 173) x y z))) (zX n 0 zN)) 0 0 n J 11 [some (.ref 164), some (zi x), some (zi y), some (zi 0), some (zi (x + 2)), some (zi e), some (zi 2)] [] := by
    intro e h01 he nm
    refine tz_iload (pc := 11) dX12_wordFrom_11 rfl ?_
    refine tz_knL (pc := 13) dX12_wordFrom_13 dX12_wordFrom_16 (by decide +kernel) ?_
    refine tz_icmp_geF (pc := 17) (tgt := 98) (by decide) dX12_wordFrom_17 (by decide) (by decide) (by decide) ?_
    refine tz_knD (pc := 20) (k9 := 2) (v := 109) (by decide) (by decide) rfl dX12_wordFrom_20 dX12_wordFrom_23 dX12_wordFrom_25 (by decide +kernel) ?_
    refine tz_bipush (pc := 26) dX12_wordFrom_26 (by decide) ?_
    refine tz_icmp_neT (pc := 28) (tgt := 56) (by decide) dX12_wordFrom_28 (by decide) (by decide) (by decide) ?_
    refine tz_iload (pc := 56) dX12_wordFrom_56 rfl ?_
    refine tz_if_eq (pc := 58) (tgt := 86) dX12_wordFrom_58 (by decide) (by omega) (fun h_58 => ?_) (fun h_58 => ?_)
    · refine tz_iconst (pc := 86) dX12_wordFrom_86 ?_
      refine tz_istore (pc := 87) (L2 := [_, _, _, _, _, _, _]) dX12_wordFrom_87 (by decide) rfl ?_
      refine tz_iinc (pc := 89) (z := (x + 2) + 1) (L2 := [_, _, _, _, _, _, _]) dX12_wordFrom_89 rfl (by omega) rfl ?_
      refine tz_iinc (pc := 92) (z := 3) (L2 := [_, _, _, _, _, _, _]) dX12_wordFrom_92 rfl (by decide) rfl ?_
      refine tz_goto (pc := 95) (tgt := 11) dX12_wordFrom_95 (by decide) ?_
      have g9 := s_3 0 (by decide) ⟨fun q => absurd q (by decide), fun q => by have q1 := mp_p q; have q2 := he.2 q1.1; have q3 : x + 2 < y ∧ J 173 (x + 2) = 109 := q1.2; omega⟩ nm
      rw [show x + 3 = x + 2 + 1 by omega] at g9
      exact g9
    · refine tz_iload (pc := 61) dX12_wordFrom_61 rfl ?_
      refine tz_iload_n (pc := 63) dX12_wordFrom_63 rfl rfl ?_
      refine tz_icmp_ge (pc := 64) (tgt := 86) dX12_wordFrom_64 (by decide) (by omega) (by omega) (fun h_64 => ?_) (fun h_64 => ?_)
      · refine tz_iconst (pc := 86) dX12_wordFrom_86 ?_
        refine tz_istore (pc := 87) (L2 := [_, _, _, _, _, _, _]) dX12_wordFrom_87 (by decide) rfl ?_
        refine tz_iinc (pc := 89) (z := (x + 2) + 1) (L2 := [_, _, _, _, _, _, _]) dX12_wordFrom_89 rfl (by omega) rfl ?_
        refine tz_iinc (pc := 92) (z := 3) (L2 := [_, _, _, _, _, _, _]) dX12_wordFrom_92 rfl (by decide) rfl ?_
        refine tz_goto (pc := 95) (tgt := 11) dX12_wordFrom_95 (by decide) ?_
        have g9 := s_3 0 (by decide) ⟨fun q => absurd q (by decide), fun q => by have q1 := mp_p q; have q2 := he.2 q1.1; have q3 : x + 2 < y ∧ J 173 (x + 2) = 109 := q1.2; omega⟩ nm
        rw [show x + 3 = x + 2 + 1 by omega] at g9
        exact g9
      · refine tz_aload_n (pc := 67) dX12_wordFrom_67 rfl rfl ?_
        refine tz_iload (pc := 68) dX12_wordFrom_68 rfl ?_
        refine tz_cV (pc := 70) (m_byteAt hl n _ _ (by omega) (by omega) (by omega)) vl_X12_240 dX12_wordFrom_70 o_164 rfl rfl (Nat.le_of_ble_eq_true rfl) ⟨(Nat.le_of_ble_eq_true rfl), (Nat.le_of_ble_eq_true rfl)⟩ rfl rfl (Nat.le_of_ble_eq_true rfl) (Nat.le_of_ble_eq_true rfl) (fun r9 J_70 hq9 => ?_)
        obtain ⟨z_70, rfl, hz_70, rfl, hb70, hc70⟩ := hq9
        refine tz_knD (pc := 73) (k9 := 2) (v := 109) (by decide) (by decide) rfl dX12_wordFrom_73 dX12_wordFrom_76 dX12_wordFrom_78 (by decide +kernel) ?_
        refine tz_icmp_ne (pc := 79) (tgt := 86) dX12_wordFrom_79 (by decide) (by omega) (by decide) (fun h_79 => ?_) (fun h_79 => ?_)
        · refine tz_iconst (pc := 86) dX12_wordFrom_86 ?_
          refine tz_istore (pc := 87) (L2 := [_, _, _, _, _, _, _]) dX12_wordFrom_87 (by decide) rfl ?_
          refine tz_iinc (pc := 89) (z := (x + 2) + 1) (L2 := [_, _, _, _, _, _, _]) dX12_wordFrom_89 rfl (by omega) rfl ?_
          refine tz_iinc (pc := 92) (z := 3) (L2 := [_, _, _, _, _, _, _]) dX12_wordFrom_92 rfl (by decide) rfl ?_
          refine tz_goto (pc := 95) (tgt := 11) dX12_wordFrom_95 (by decide) ?_
          have g9 := s_3 0 (by decide) ⟨fun q => absurd q (by decide), fun q => by have q1 := mp_p q; have q2 := he.2 q1.1; have q3 : x + 2 < y ∧ J 173 (x + 2) = 109 := q1.2; omega⟩ nm
          rw [show x + 3 = x + 2 + 1 by omega] at g9
          exact g9
        · refine tz_iconst (pc := 82) dX12_wordFrom_82 ?_
          refine tz_goto (pc := 83) (tgt := 87) dX12_wordFrom_83 (by decide) ?_
          refine tz_istore (pc := 87) (L2 := [_, _, _, _, _, _, _]) dX12_wordFrom_87 (by decide) rfl ?_
          refine tz_iinc (pc := 89) (z := (x + 2) + 1) (L2 := [_, _, _, _, _, _, _]) dX12_wordFrom_89 rfl (by omega) rfl ?_
          refine tz_iinc (pc := 92) (z := 3) (L2 := [_, _, _, _, _, _, _]) dX12_wordFrom_92 rfl (by decide) rfl ?_
          refine tz_goto (pc := 95) (tgt := 11) dX12_wordFrom_95 (by decide) ?_
          have g9 := s_3 1 (by decide) ⟨fun _ => mp_s (he.1 (by omega)) (show x + 2 < y by omega) (show J 173 (x + 2) = 109 by omega), fun _ => rfl⟩ nm
          rw [show x + 3 = x + 2 + 1 by omega] at g9
          exact g9
  have s_1 : ∀ e : Int, (e = 0 ∨ e = 1) → (e = 1 ↔ mpB (J 173) x y [115, 121, 109, 98, 111, 108] 1) → (True) → tz_At l G M_X12_wordFrom (tb_rm 1 0 0) none (tb_ZM G 0 0 (zQ n 0 (zqi (fun z J' => J = J' ∧ WD (J 173) x y z))) (zX n 0 zN)) 0 0 n J 11 [some (.ref 164), some (zi x), some (zi y), some (zi 0), some (zi (x + 1)), some (zi e), some (zi 1)] [] := by
    intro e h01 he nm
    refine tz_iload (pc := 11) dX12_wordFrom_11 rfl ?_
    refine tz_knL (pc := 13) dX12_wordFrom_13 dX12_wordFrom_16 (by decide +kernel) ?_
    refine tz_icmp_geF (pc := 17) (tgt := 98) (by decide) dX12_wordFrom_17 (by decide) (by decide) (by decide) ?_
    refine tz_knD (pc := 20) (k9 := 1) (v := 121) (by decide) (by decide) rfl dX12_wordFrom_20 dX12_wordFrom_23 dX12_wordFrom_25 (by decide +kernel) ?_
    refine tz_bipush (pc := 26) dX12_wordFrom_26 (by decide) ?_
    refine tz_icmp_neT (pc := 28) (tgt := 56) (by decide) dX12_wordFrom_28 (by decide) (by decide) (by decide) ?_
    refine tz_iload (pc := 56) dX12_wordFrom_56 rfl ?_
    refine tz_if_eq (pc := 58) (tgt := 86) dX12_wordFrom_58 (by decide) (by omega) (fun h_58 => ?_) (fun h_58 => ?_)
    · refine tz_iconst (pc := 86) dX12_wordFrom_86 ?_
      refine tz_istore (pc := 87) (L2 := [_, _, _, _, _, _, _]) dX12_wordFrom_87 (by decide) rfl ?_
      refine tz_iinc (pc := 89) (z := (x + 1) + 1) (L2 := [_, _, _, _, _, _, _]) dX12_wordFrom_89 rfl (by omega) rfl ?_
      refine tz_iinc (pc := 92) (z := 2) (L2 := [_, _, _, _, _, _, _]) dX12_wordFrom_92 rfl (by decide) rfl ?_
      refine tz_goto (pc := 95) (tgt := 11) dX12_wordFrom_95 (by decide) ?_
      have g9 := s_2 0 (by decide) ⟨fun q => absurd q (by decide), fun q => by have q1 := mp_p q; have q2 := he.2 q1.1; have q3 : x + 1 < y ∧ J 173 (x + 1) = 121 := q1.2; omega⟩ nm
      rw [show x + 2 = x + 1 + 1 by omega] at g9
      exact g9
    · refine tz_iload (pc := 61) dX12_wordFrom_61 rfl ?_
      refine tz_iload_n (pc := 63) dX12_wordFrom_63 rfl rfl ?_
      refine tz_icmp_ge (pc := 64) (tgt := 86) dX12_wordFrom_64 (by decide) (by omega) (by omega) (fun h_64 => ?_) (fun h_64 => ?_)
      · refine tz_iconst (pc := 86) dX12_wordFrom_86 ?_
        refine tz_istore (pc := 87) (L2 := [_, _, _, _, _, _, _]) dX12_wordFrom_87 (by decide) rfl ?_
        refine tz_iinc (pc := 89) (z := (x + 1) + 1) (L2 := [_, _, _, _, _, _, _]) dX12_wordFrom_89 rfl (by omega) rfl ?_
        refine tz_iinc (pc := 92) (z := 2) (L2 := [_, _, _, _, _, _, _]) dX12_wordFrom_92 rfl (by decide) rfl ?_
        refine tz_goto (pc := 95) (tgt := 11) dX12_wordFrom_95 (by decide) ?_
        have g9 := s_2 0 (by decide) ⟨fun q => absurd q (by decide), fun q => by have q1 := mp_p q; have q2 := he.2 q1.1; have q3 : x + 1 < y ∧ J 173 (x + 1) = 121 := q1.2; omega⟩ nm
        rw [show x + 2 = x + 1 + 1 by omega] at g9
        exact g9
      · refine tz_aload_n (pc := 67) dX12_wordFrom_67 rfl rfl ?_
        refine tz_iload (pc := 68) dX12_wordFrom_68 rfl ?_
        refine tz_cV (pc := 70) (m_byteAt hl n _ _ (by omega) (by omega) (by omega)) vl_X12_240 dX12_wordFrom_70 o_164 rfl rfl (Nat.le_of_ble_eq_true rfl) ⟨(Nat.le_of_ble_eq_true rfl), (Nat.le_of_ble_eq_true rfl)⟩ rfl rfl (Nat.le_of_ble_eq_true rfl) (Nat.le_of_ble_eq_true rfl) (fun r9 J_70 hq9 => ?_)
        obtain ⟨z_70, rfl, hz_70, rfl, hb70, hc70⟩ := hq9
        refine tz_knD (pc := 73) (k9 := 1) (v := 121) (by decide) (by decide) rfl dX12_wordFrom_73 dX12_wordFrom_76 dX12_wordFrom_78 (by decide +kernel) ?_
        refine tz_icmp_ne (pc := 79) (tgt := 86) dX12_wordFrom_79 (by decide) (by omega) (by decide) (fun h_79 => ?_) (fun h_79 => ?_)
        · refine tz_iconst (pc := 86) dX12_wordFrom_86 ?_
          refine tz_istore (pc := 87) (L2 := [_, _, _, _, _, _, _]) dX12_wordFrom_87 (by decide) rfl ?_
          refine tz_iinc (pc := 89) (z := (x + 1) + 1) (L2 := [_, _, _, _, _, _, _]) dX12_wordFrom_89 rfl (by omega) rfl ?_
          refine tz_iinc (pc := 92) (z := 2) (L2 := [_, _, _, _, _, _, _]) dX12_wordFrom_92 rfl (by decide) rfl ?_
          refine tz_goto (pc := 95) (tgt := 11) dX12_wordFrom_95 (by decide) ?_
          have g9 := s_2 0 (by decide) ⟨fun q => absurd q (by decide), fun q => by have q1 := mp_p q; have q2 := he.2 q1.1; have q3 : x + 1 < y ∧ J 173 (x + 1) = 121 := q1.2; omega⟩ nm
          rw [show x + 2 = x + 1 + 1 by omega] at g9
          exact g9
        · refine tz_iconst (pc := 82) dX12_wordFrom_82 ?_
          refine tz_goto (pc := 83) (tgt := 87) dX12_wordFrom_83 (by decide) ?_
          refine tz_istore (pc := 87) (L2 := [_, _, _, _, _, _, _]) dX12_wordFrom_87 (by decide) rfl ?_
          refine tz_iinc (pc := 89) (z := (x + 1) + 1) (L2 := [_, _, _, _, _, _, _]) dX12_wordFrom_89 rfl (by omega) rfl ?_
          refine tz_iinc (pc := 92) (z := 2) (L2 := [_, _, _, _, _, _, _]) dX12_wordFrom_92 rfl (by decide) rfl ?_
          refine tz_goto (pc := 95) (tgt := 11) dX12_wordFrom_95 (by decide) ?_
          have g9 := s_2 1 (by decide) ⟨fun _ => mp_s (he.1 (by omega)) (show x + 1 < y by omega) (show J 173 (x + 1) = 121 by omega), fun _ => rfl⟩ nm
          rw [show x + 2 = x + 1 + 1 by omega] at g9
          exact g9
  have s_0 : ∀ e : Int, (e = 0 ∨ e = 1) → (e = 1 ↔ mpB (J 173) x y [115, 121, 109, 98, 111, 108] 0) → (True) → tz_At l G M_X12_wordFrom (tb_rm 1 0 0) none (tb_ZM G 0 0 (zQ n 0 (zqi (fun z J' => J = J' ∧ WD (J 173) x y z))) (zX n 0 zN)) 0 0 n J 11 [some (.ref 164), some (zi x), some (zi y), some (zi 0), some (zi (x + 0)), some (zi e), some (zi 0)] [] := by
    intro e h01 he nm
    refine tz_iload (pc := 11) dX12_wordFrom_11 rfl ?_
    refine tz_knL (pc := 13) dX12_wordFrom_13 dX12_wordFrom_16 (by decide +kernel) ?_
    refine tz_icmp_geF (pc := 17) (tgt := 98) (by decide) dX12_wordFrom_17 (by decide) (by decide) (by decide) ?_
    refine tz_knD (pc := 20) (k9 := 0) (v := 115) (by decide) (by decide) rfl dX12_wordFrom_20 dX12_wordFrom_23 dX12_wordFrom_25 (by decide +kernel) ?_
    refine tz_bipush (pc := 26) dX12_wordFrom_26 (by decide) ?_
    refine tz_icmp_neT (pc := 28) (tgt := 56) (by decide) dX12_wordFrom_28 (by decide) (by decide) (by decide) ?_
    refine tz_iload (pc := 56) dX12_wordFrom_56 rfl ?_
    refine tz_if_eq (pc := 58) (tgt := 86) dX12_wordFrom_58 (by decide) (by omega) (fun h_58 => ?_) (fun h_58 => ?_)
    · refine tz_iconst (pc := 86) dX12_wordFrom_86 ?_
      refine tz_istore (pc := 87) (L2 := [_, _, _, _, _, _, _]) dX12_wordFrom_87 (by decide) rfl ?_
      refine tz_iinc (pc := 89) (z := (x + 0) + 1) (L2 := [_, _, _, _, _, _, _]) dX12_wordFrom_89 rfl (by omega) rfl ?_
      refine tz_iinc (pc := 92) (z := 1) (L2 := [_, _, _, _, _, _, _]) dX12_wordFrom_92 rfl (by decide) rfl ?_
      refine tz_goto (pc := 95) (tgt := 11) dX12_wordFrom_95 (by decide) ?_
      have g9 := s_1 0 (by decide) ⟨fun q => absurd q (by decide), fun q => by have q1 := mp_p q; have q2 := he.2 q1.1; have q3 : x + 0 < y ∧ J 173 (x + 0) = 115 := q1.2; omega⟩ nm
      rw [show x + 1 = x + 0 + 1 by omega] at g9
      exact g9
    · refine tz_iload (pc := 61) dX12_wordFrom_61 rfl ?_
      refine tz_iload_n (pc := 63) dX12_wordFrom_63 rfl rfl ?_
      refine tz_icmp_ge (pc := 64) (tgt := 86) dX12_wordFrom_64 (by decide) (by omega) (by omega) (fun h_64 => ?_) (fun h_64 => ?_)
      · refine tz_iconst (pc := 86) dX12_wordFrom_86 ?_
        refine tz_istore (pc := 87) (L2 := [_, _, _, _, _, _, _]) dX12_wordFrom_87 (by decide) rfl ?_
        refine tz_iinc (pc := 89) (z := (x + 0) + 1) (L2 := [_, _, _, _, _, _, _]) dX12_wordFrom_89 rfl (by omega) rfl ?_
        refine tz_iinc (pc := 92) (z := 1) (L2 := [_, _, _, _, _, _, _]) dX12_wordFrom_92 rfl (by decide) rfl ?_
        refine tz_goto (pc := 95) (tgt := 11) dX12_wordFrom_95 (by decide) ?_
        have g9 := s_1 0 (by decide) ⟨fun q => absurd q (by decide), fun q => by have q1 := mp_p q; have q2 := he.2 q1.1; have q3 : x + 0 < y ∧ J 173 (x + 0) = 115 := q1.2; omega⟩ nm
        rw [show x + 1 = x + 0 + 1 by omega] at g9
        exact g9
      · refine tz_aload_n (pc := 67) dX12_wordFrom_67 rfl rfl ?_
        refine tz_iload (pc := 68) dX12_wordFrom_68 rfl ?_
        refine tz_cV (pc := 70) (m_byteAt hl n _ _ (by omega) (by omega) (by omega)) vl_X12_240 dX12_wordFrom_70 o_164 rfl rfl (Nat.le_of_ble_eq_true rfl) ⟨(Nat.le_of_ble_eq_true rfl), (Nat.le_of_ble_eq_true rfl)⟩ rfl rfl (Nat.le_of_ble_eq_true rfl) (Nat.le_of_ble_eq_true rfl) (fun r9 J_70 hq9 => ?_)
        obtain ⟨z_70, rfl, hz_70, rfl, hb70, hc70⟩ := hq9
        refine tz_knD (pc := 73) (k9 := 0) (v := 115) (by decide) (by decide) rfl dX12_wordFrom_73 dX12_wordFrom_76 dX12_wordFrom_78 (by decide +kernel) ?_
        refine tz_icmp_ne (pc := 79) (tgt := 86) dX12_wordFrom_79 (by decide) (by omega) (by decide) (fun h_79 => ?_) (fun h_79 => ?_)
        · refine tz_iconst (pc := 86) dX12_wordFrom_86 ?_
          refine tz_istore (pc := 87) (L2 := [_, _, _, _, _, _, _]) dX12_wordFrom_87 (by decide) rfl ?_
          refine tz_iinc (pc := 89) (z := (x + 0) + 1) (L2 := [_, _, _, _, _, _, _]) dX12_wordFrom_89 rfl (by omega) rfl ?_
          refine tz_iinc (pc := 92) (z := 1) (L2 := [_, _, _, _, _, _, _]) dX12_wordFrom_92 rfl (by decide) rfl ?_
          refine tz_goto (pc := 95) (tgt := 11) dX12_wordFrom_95 (by decide) ?_
          have g9 := s_1 0 (by decide) ⟨fun q => absurd q (by decide), fun q => by have q1 := mp_p q; have q2 := he.2 q1.1; have q3 : x + 0 < y ∧ J 173 (x + 0) = 115 := q1.2; omega⟩ nm
          rw [show x + 1 = x + 0 + 1 by omega] at g9
          exact g9
        · refine tz_iconst (pc := 82) dX12_wordFrom_82 ?_
          refine tz_goto (pc := 83) (tgt := 87) dX12_wordFrom_83 (by decide) ?_
          refine tz_istore (pc := 87) (L2 := [_, _, _, _, _, _, _]) dX12_wordFrom_87 (by decide) rfl ?_
          refine tz_iinc (pc := 89) (z := (x + 0) + 1) (L2 := [_, _, _, _, _, _, _]) dX12_wordFrom_89 rfl (by omega) rfl ?_
          refine tz_iinc (pc := 92) (z := 1) (L2 := [_, _, _, _, _, _, _]) dX12_wordFrom_92 rfl (by decide) rfl ?_
          refine tz_goto (pc := 95) (tgt := 11) dX12_wordFrom_95 (by decide) ?_
          have g9 := s_1 1 (by decide) ⟨fun _ => mp_s (he.1 (by omega)) (show x + 0 < y by omega) (show J 173 (x + 0) = 115 by omega), fun _ => rfl⟩ nm
          rw [show x + 1 = x + 0 + 1 by omega] at g9
          exact g9
  refine tz_iconst (pc := 0) dX12_wordFrom_0 ?_
  refine tz_istore_n (pc := 1) (L2 := [_, _, _, _, _, _, _]) dX12_wordFrom_1 rfl (by decide) rfl ?_
  refine tz_iload_n (pc := 2) dX12_wordFrom_2 rfl rfl ?_
  refine tz_istore (pc := 3) (L2 := [_, _, _, _, _, _, _]) dX12_wordFrom_3 (by decide) rfl ?_
  refine tz_iconst (pc := 5) dX12_wordFrom_5 ?_
  refine tz_istore (pc := 6) (L2 := [_, _, _, _, _, _, _]) dX12_wordFrom_6 (by decide) rfl ?_
  refine tz_iconst (pc := 8) dX12_wordFrom_8 ?_
  refine tz_istore (pc := 9) (L2 := [_, _, _, _, _, _, _]) dX12_wordFrom_9 (by decide) rfl ?_
  have g9 := s_0 1 (Or.inr rfl) ⟨fun _ => mp_0, fun _ => rfl⟩ trivial
  rw [show x + 0 = x from Int.add_zero x] at g9
  exact g9
end
