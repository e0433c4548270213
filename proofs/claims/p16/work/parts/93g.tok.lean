/-! ===== tokens, as both sides read them ===== -/
def fnF (p : Int → Bool) (N : Int) : Nat → Int → Int
  | 0, a => a
  | k + 1, a => if a < N ∧ p a = true then fnF p N k (a + 1) else a
def fnB (p : Int → Bool) (N a : Int) : Int := fnF p N (N - a).toNat a
theorem fnF_eq {p : Int → Bool} {N : Int} : ∀ (k : Nat) (a st : Int), a ≤ st → st ≤ N → (st - a).toNat ≤ k → (∀ q, a ≤ q → q < st → p q = true) → (st = N ∨ p st = false) → fnF p N k a = st
  | 0, a, st, h1, h2, h3, h4, h5 => by
    show a = st
    omega
  | k + 1, a, st, h1, h2, h3, h4, h5 => by
    show (if a < N ∧ p a = true then fnF p N k (a + 1) else a) = st
    by_cases e : a = st
    · rw [if_neg, e]
      intro q
      rcases h5 with h5 | h5
      · omega
      · rw [e, h5] at q
        exact absurd q.2 (by decide)
    · rw [if_pos ⟨by omega, h4 a (by omega) (by omega)⟩]
      exact fnF_eq k (a + 1) st (by omega) h2 (by omega) (fun q x y => h4 q (by omega) y) h5
theorem fnB_eq {p : Int → Bool} {N a st : Int} (h1 : a ≤ st) (h2 : st ≤ N) (h4 : ∀ q, a ≤ q → q < st → p q = true) (h5 : st = N ∨ p st = false) : fnB p N a = st := fnF_eq _ a st h1 h2 (by omega) h4 h5
/-- what kind of a byte -/
def kdB (c : Int) : Int := if 97 ≤ c ∧ c ≤ 122 then 2 else if 48 ≤ c ∧ c ≤ 57 then 3 else if c = 63 ∨ c = 40 ∨ c = 41 ∨ c = 44 ∨ c = 59 then c else 1
def spB (f : Int → Int) (q : Int) : Bool := decide (f q = 32 ∨ f q = 10)
/-- a token: where it begins, its kind, where it ends -/
def tkS (f : Int → Int) (N a : Int) : Int := fnB (spB f) N a
def tkK (f : Int → Int) (N a : Int) : Int := if tkS f N a < N then kdB (f (tkS f N a)) else 0
def tkE (f : Int → Int) (N a : Int) : Int := if tkS f N a < N then (if tkK f N a = 2 ∨ tkK f N a = 3 then fnB (fun q => decide (kdB (f q) = tkK f N a)) N (tkS f N a + 1) else tkS f N a + 1) else N
theorem tkS_eq {f : Int → Int} {N a st : Int} (h1 : a ≤ st) (h2 : st ≤ N) (h4 : ∀ q, a ≤ q → q < st → f q = 32 ∨ f q = 10) (h5 : st = N ∨ ¬ (f st = 32 ∨ f st = 10)) : tkS f N a = st := fnB_eq h1 h2 (fun q x y => decide_eq_true (h4 q x y)) (h5.imp id (fun q => decide_eq_false q))
theorem tkK_0 {f : Int → Int} {N a st : Int} (h : tkS f N a = st) (hN : ¬ st < N) : tkK f N a = 0 ∧ tkE f N a = N := by
  unfold tkE tkK
  rw [h, if_neg hN, if_neg hN]
  exact ⟨rfl, rfl⟩
theorem tkK_1 {f : Int → Int} {N a st : Int} (h : tkS f N a = st) (hN : st < N) : tkK f N a = kdB (f st) := by
  unfold tkK
  rw [h, if_pos hN]
theorem tkE_1 {f : Int → Int} {N a st k : Int} (h : tkS f N a = st) (hN : st < N) (hk : kdB (f st) = k) (h2 : ¬ (k = 2 ∨ k = 3)) : tkE f N a = st + 1 := by
  unfold tkE
  rw [tkK_1 h hN, h, if_pos hN, hk, if_neg h2]
theorem tkE_2 {f : Int → Int} {N a st en k : Int} (h : tkS f N a = st) (hN : st < N) (hk : kdB (f st) = k) (h2 : k = 2 ∨ k = 3) (h3 : st + 1 ≤ en) (h4 : en ≤ N) (h5 : ∀ q, st + 1 ≤ q → q < en → kdB (f q) = k) (h6 : en = N ∨ ¬ kdB (f en) = k) : tkE f N a = en := by
  unfold tkE
  rw [tkK_1 h hN, h, if_pos hN, hk, if_pos h2]
  exact fnB_eq h3 h4 (fun q x y => decide_eq_true (h5 q x y)) (h6.imp id (fun q => decide_eq_false q))
set_option maxHeartbeats 4000000 in
set_option maxRecDepth 100000 in
theorem x_kindOf {l : Launch} {G : tb_G} (hl : l.stackTraces = false) (n : Nat) (J : zJ) (x : Int) (hr_x : -2147483648 ≤ x ∧ x < 2147483648)   : tz_Ok l G M_X5_kindOf 0 0 0 [zi x] n J (zqi (fun z J' => J = J' ∧ kdB x = z)) zN := by
  refine tz_Ok.of hl (by decide +kernel) rfl (tb_c1 rfl) (Nat.le_of_ble_eq_true rfl) ?_
  show tz_At l G M_X5_kindOf (tb_rm 0 0 0) none (tb_ZM G 0 0 (zQ n 0 (zqi (fun z J' => J = J' ∧ kdB x = z))) (zX n 0 zN)) 0 0 n J 0 [some (zi x), none] []
  refine tz_iload_n (pc := 0) dX5_kindOf_0 rfl rfl ?_
  refine tz_bipush (pc := 1) dX5_kindOf_1 (by decide) ?_
  refine tz_icmp_lt (pc := 3) (tgt := 14) dX5_kindOf_3 (by decide) (by omega) (by decide) (fun h_3 => ?_) (fun h_3 => ?_)
  · refine tz_iload_n (pc := 14) dX5_kindOf_14 rfl rfl ?_
    refine tz_bipush (pc := 15) dX5_kindOf_15 (by decide) ?_
    refine tz_icmp_lt (pc := 17) (tgt := 28) dX5_kindOf_17 (by decide) (by omega) (by decide) (fun h_17 => ?_) (fun h_17 => ?_)
    · refine tz_iload_n (pc := 28) dX5_kindOf_28 rfl rfl ?_
      refine tz_bipush (pc := 29) dX5_kindOf_29 (by decide) ?_
      refine tz_icmp_eq (pc := 31) (tgt := 58) dX5_kindOf_31 (by decide) (by omega) (by decide) (fun h_31 => ?_) (fun h_31 => ?_)
      · refine tz_iconst (pc := 58) dX5_kindOf_58 ?_
        refine tz_goto (pc := 59) (tgt := 63) dX5_kindOf_59 (by decide) ?_
        refine tz_istore_n (pc := 63) (L2 := [_, _]) dX5_kindOf_63 rfl (by decide) rfl ?_
        refine tz_iload_n (pc := 64) dX5_kindOf_64 rfl rfl ?_
        refine tz_if_eqF (pc := 65) (tgt := 72) (by decide) dX5_kindOf_65 (by decide) (by decide) ?_
        refine tz_iload_n (pc := 68) dX5_kindOf_68 rfl rfl ?_
        refine tz_goto (pc := 69) (tgt := 73) dX5_kindOf_69 (by decide) ?_
        exact tz_iret (pc := 73) (z := x) dX5_kindOf_73 rfl (Nat.le_of_ble_eq_true rfl) (Nat.le_of_ble_eq_true rfl) ⟨Nat.le_refl _, Nat.le_add_right _ _⟩ ⟨_, rfl, (by omega), ⟨rfl, by unfold kdB; (repeat' split) <;> omega⟩⟩
      · refine tz_iload_n (pc := 34) dX5_kindOf_34 rfl rfl ?_
        refine tz_bipush (pc := 35) dX5_kindOf_35 (by decide) ?_
        refine tz_icmp_eq (pc := 37) (tgt := 58) dX5_kindOf_37 (by decide) (by omega) (by decide) (fun h_37 => ?_) (fun h_37 => ?_)
        · refine tz_iconst (pc := 58) dX5_kindOf_58 ?_
          refine tz_goto (pc := 59) (tgt := 63) dX5_kindOf_59 (by decide) ?_
          refine tz_istore_n (pc := 63) (L2 := [_, _]) dX5_kindOf_63 rfl (by decide) rfl ?_
          refine tz_iload_n (pc := 64) dX5_kindOf_64 rfl rfl ?_
          refine tz_if_eqF (pc := 65) (tgt := 72) (by decide) dX5_kindOf_65 (by decide) (by decide) ?_
          refine tz_iload_n (pc := 68) dX5_kindOf_68 rfl rfl ?_
          refine tz_goto (pc := 69) (tgt := 73) dX5_kindOf_69 (by decide) ?_
          exact tz_iret (pc := 73) (z := x) dX5_kindOf_73 rfl (Nat.le_of_ble_eq_true rfl) (Nat.le_of_ble_eq_true rfl) ⟨Nat.le_refl _, Nat.le_add_right _ _⟩ ⟨_, rfl, (by omega), ⟨rfl, by unfold kdB; (repeat' split) <;> omega⟩⟩
        · refine tz_iload_n (pc := 40) dX5_kindOf_40 rfl rfl ?_
          refine tz_bipush (pc := 41) dX5_kindOf_41 (by decide) ?_
          refine tz_icmp_eq (pc := 43) (tgt := 58) dX5_kindOf_43 (by decide) (by omega) (by decide) (fun h_43 => ?_) (fun h_43 => ?_)
          · refine tz_iconst (pc := 58) dX5_kindOf_58 ?_
            refine tz_goto (pc := 59) (tgt := 63) dX5_kindOf_59 (by decide) ?_
            refine tz_istore_n (pc := 63) (L2 := [_, _]) dX5_kindOf_63 rfl (by decide) rfl ?_
            refine tz_iload_n (pc := 64) dX5_kindOf_64 rfl rfl ?_
            refine tz_if_eqF (pc := 65) (tgt := 72) (by decide) dX5_kindOf_65 (by decide) (by decide) ?_
            refine tz_iload_n (pc := 68) dX5_kindOf_68 rfl rfl ?_
            refine tz_goto (pc := 69) (tgt := 73) dX5_kindOf_69 (by decide) ?_
            exact tz_iret (pc := 73) (z := x) dX5_kindOf_73 rfl (Nat.le_of_ble_eq_true rfl) (Nat.le_of_ble_eq_true rfl) ⟨Nat.le_refl _, Nat.le_add_right _ _⟩ ⟨_, rfl, (by omega), ⟨rfl, by unfold kdB; (repeat' split) <;> omega⟩⟩
          · refine tz_iload_n (pc := 46) dX5_kindOf_46 rfl rfl ?_
            refine tz_bipush (pc := 47) dX5_kindOf_47 (by decide) ?_
            refine tz_icmp_eq (pc := 49) (tgt := 58) dX5_kindOf_49 (by decide) (by omega) (by decide) (fun h_49 => ?_) (fun h_49 => ?_)
            · refine tz_iconst (pc := 58) dX5_kindOf_58 ?_
              refine tz_goto (pc := 59) (tgt := 63) dX5_kindOf_59 (by decide) ?_
              refine tz_istore_n (pc := 63) (L2 := [_, _]) dX5_kindOf_63 rfl (by decide) rfl ?_
              refine tz_iload_n (pc := 64) dX5_kindOf_64 rfl rfl ?_
              refine tz_if_eqF (pc := 65) (tgt := 72) (by decide) dX5_kindOf_65 (by decide) (by decide) ?_
              refine tz_iload_n (pc := 68) dX5_kindOf_68 rfl rfl ?_
              refine tz_goto (pc := 69) (tgt := 73) dX5_kindOf_69 (by decide) ?_
              exact tz_iret (pc := 73) (z := x) dX5_kindOf_73 rfl (Nat.le_of_ble_eq_true rfl) (Nat.le_of_ble_eq_true rfl) ⟨Nat.le_refl _, Nat.le_add_right _ _⟩ ⟨_, rfl, (by omega), ⟨rfl, by unfold kdB; (repeat' split) <;> omega⟩⟩
            · refine tz_iload_n (pc := 52) dX5_kindOf_52 rfl rfl ?_
              refine tz_bipush (pc := 53) dX5_kindOf_53 (by decide) ?_
              refine tz_icmp_ne (pc := 55) (tgt := 62) dX5_kindOf_55 (by decide) (by omega) (by decide) (fun h_55 => ?_) (fun h_55 => ?_)
              · refine tz_iconst (pc := 62) dX5_kindOf_62 ?_
                refine tz_istore_n (pc := 63) (L2 := [_, _]) dX5_kindOf_63 rfl (by decide) rfl ?_
                refine tz_iload_n (pc := 64) dX5_kindOf_64 rfl rfl ?_
                refine tz_if_eqT (pc := 65) (tgt := 72) (by decide) dX5_kindOf_65 (by decide) (by decide) ?_
                refine tz_iconst (pc := 72) dX5_kindOf_72 ?_
                exact tz_iret (pc := 73) (z := 1) dX5_kindOf_73 rfl (Nat.le_of_ble_eq_true rfl) (Nat.le_of_ble_eq_true rfl) ⟨Nat.le_refl _, Nat.le_add_right _ _⟩ ⟨_, rfl, (by decide), ⟨rfl, by unfold kdB; (repeat' split) <;> omega⟩⟩
              · refine tz_iconst (pc := 58) dX5_kindOf_58 ?_
                refine tz_goto (pc := 59) (tgt := 63) dX5_kindOf_59 (by decide) ?_
                refine tz_istore_n (pc := 63) (L2 := [_, _]) dX5_kindOf_63 rfl (by decide) rfl ?_
                refine tz_iload_n (pc := 64) dX5_kindOf_64 rfl rfl ?_
                refine tz_if_eqF (pc := 65) (tgt := 72) (by decide) dX5_kindOf_65 (by decide) (by decide) ?_
                refine tz_iload_n (pc := 68) dX5_kindOf_68 rfl rfl ?_
                refine tz_goto (pc := 69) (tgt := 73) dX5_kindOf_69 (by decide) ?_
                exact tz_iret (pc := 73) (z := x) dX5_kindOf_73 rfl (Nat.le_of_ble_eq_true rfl) (Nat.le_of_ble_eq_true rfl) ⟨Nat.le_refl _, Nat.le_add_right _ _⟩ ⟨_, rfl, (by omega), ⟨rfl, by unfold kdB; (repeat' split) <;> omega⟩⟩
    · refine tz_iload_n (pc := 20) dX5_kindOf_20 rfl rfl ?_
      refine tz_bipush (pc := 21) dX5_kindOf_21 (by decide) ?_
      refine tz_icmp_gt (pc := 23) (tgt := 28) dX5_kindOf_23 (by decide) (by omega) (by decide) (fun h_23 => ?_) (fun h_23 => ?_)
      · refine tz_iload_n (pc := 28) dX5_kindOf_28 rfl rfl ?_
        refine tz_bipush (pc := 29) dX5_kindOf_29 (by decide) ?_
        refine tz_icmp_eq (pc := 31) (tgt := 58) dX5_kindOf_31 (by decide) (by omega) (by decide) (fun h_31 => ?_) (fun h_31 => ?_)
        · refine tz_iconst (pc := 58) dX5_kindOf_58 ?_
          refine tz_goto (pc := 59) (tgt := 63) dX5_kindOf_59 (by decide) ?_
          refine tz_istore_n (pc := 63) (L2 := [_, _]) dX5_kindOf_63 rfl (by decide) rfl ?_
          refine tz_iload_n (pc := 64) dX5_kindOf_64 rfl rfl ?_
          refine tz_if_eqF (pc := 65) (tgt := 72) (by decide) dX5_kindOf_65 (by decide) (by decide) ?_
          refine tz_iload_n (pc := 68) dX5_kindOf_68 rfl rfl ?_
          refine tz_goto (pc := 69) (tgt := 73) dX5_kindOf_69 (by decide) ?_
          exact tz_iret (pc := 73) (z := x) dX5_kindOf_73 rfl (Nat.le_of_ble_eq_true rfl) (Nat.le_of_ble_eq_true rfl) ⟨Nat.le_refl _, Nat.le_add_right _ _⟩ ⟨_, rfl, (by omega), ⟨rfl, by unfold kdB; (repeat' split) <;> omega⟩⟩
        · refine tz_iload_n (pc := 34) dX5_kindOf_34 rfl rfl ?_
          refine tz_bipush (pc := 35) dX5_kindOf_35 (by decide) ?_
          refine tz_icmp_eq (pc := 37) (tgt := 58) dX5_kindOf_37 (by decide) (by omega) (by decide) (fun h_37 => ?_) (fun h_37 => ?_)
          · refine tz_iconst (pc := 58) dX5_kindOf_58 ?_
            refine tz_goto (pc := 59) (tgt := 63) dX5_kindOf_59 (by decide) ?_
            refine tz_istore_n (pc := 63) (L2 := [_, _]) dX5_kindOf_63 rfl (by decide) rfl ?_
            refine tz_iload_n (pc := 64) dX5_kindOf_64 rfl rfl ?_
            refine tz_if_eqF (pc := 65) (tgt := 72) (by decide) dX5_kindOf_65 (by decide) (by decide) ?_
            refine tz_iload_n (pc := 68) dX5_kindOf_68 rfl rfl ?_
            refine tz_goto (pc := 69) (tgt := 73) dX5_kindOf_69 (by decide) ?_
            exact tz_iret (pc := 73) (z := x) dX5_kindOf_73 rfl (Nat.le_of_ble_eq_true rfl) (Nat.le_of_ble_eq_true rfl) ⟨Nat.le_refl _, Nat.le_add_right _ _⟩ ⟨_, rfl, (by omega), ⟨rfl, by unfold kdB; (repeat' split) <;> omega⟩⟩
          · refine tz_iload_n (pc := 40) dX5_kindOf_40 rfl rfl ?_
            refine tz_bipush (pc := 41) dX5_kindOf_41 (by decide) ?_
            refine tz_icmp_eq (pc := 43) (tgt := 58) dX5_kindOf_43 (by decide) (by omega) (by decide) (fun h_43 => ?_) (fun h_43 => ?_)
            · refine tz_iconst (pc := 58) dX5_kindOf_58 ?_
              refine tz_goto (pc := 59) (tgt := 63) dX5_kindOf_59 (by decide) ?_
              refine tz_istore_n (pc := 63) (L2 := [_, _]) dX5_kindOf_63 rfl (by decide) rfl ?_
              refine tz_iload_n (pc := 64) dX5_kindOf_64 rfl rfl ?_
              refine tz_if_eqF (pc := 65) (tgt := 72) (by decide) dX5_kindOf_65 (by decide) (by decide) ?_
              refine tz_iload_n (pc := 68) dX5_kindOf_68 rfl rfl ?_
              refine tz_goto (pc := 69) (tgt := 73) dX5_kindOf_69 (by decide) ?_
              exact tz_iret (pc := 73) (z := x) dX5_kindOf_73 rfl (Nat.le_of_ble_eq_true rfl) (Nat.le_of_ble_eq_true rfl) ⟨Nat.le_refl _, Nat.le_add_right _ _⟩ ⟨_, rfl, (by omega), ⟨rfl, by unfold kdB; (repeat' split) <;> omega⟩⟩
            · refine tz_iload_n (pc := 46) dX5_kindOf_46 rfl rfl ?_
              refine tz_bipush (pc := 47) dX5_kindOf_47 (by decide) ?_
              refine tz_icmp_eq (pc := 49) (tgt := 58) dX5_kindOf_49 (by decide) (by omega) (by decide) (fun h_49 => ?_) (fun h_49 => ?_)
              · refine tz_iconst (pc := 58) dX5_kindOf_58 ?_
                refine tz_goto (pc := 59) (tgt := 63) dX5_kindOf_59 (by decide) ?_
                refine tz_istore_n (pc := 63) (L2 := [_, _]) dX5_kindOf_63 rfl (by decide) rfl ?_
                refine tz_iload_n (pc := 64) dX5_kindOf_64 rfl rfl ?_
                refine tz_if_eqF (pc := 65) (tgt := 72) (by decide) dX5_kindOf_65 (by decide) (by decide) ?_
                refine tz_iload_n (pc := 68) dX5_kindOf_68 rfl rfl ?_
                refine tz_goto (pc := 69) (tgt := 73) dX5_kindOf_69 (by decide) ?_
                exact tz_iret (pc := 73) (z := x) dX5_kindOf_73 rfl (Nat.le_of_ble_eq_true rfl) (Nat.le_of_ble_eq_true rfl) ⟨Nat.le_refl _, Nat.le_add_right _ _⟩ ⟨_, rfl, (by omega), ⟨rfl, by unfold kdB; (repeat' split) <;> omega⟩⟩
              · refine tz_iload_n (pc := 52) dX5_kindOf_52 rfl rfl ?_
                refine tz_bipush (pc := 53) dX5_kindOf_53 (by decide) ?_
                refine tz_icmp_ne (pc := 55) (tgt := 62) dX5_kindOf_55 (by decide) (by omega) (by decide) (fun h_55 => ?_) (fun h_55 => ?_)
                · refine tz_iconst (pc := 62) dX5_kindOf_62 ?_
                  refine tz_istore_n (pc := 63) (L2 := [_, _]) dX5_kindOf_63 rfl (by decide) rfl ?_
                  refine tz_iload_n (pc := 64) dX5_kindOf_64 rfl rfl ?_
                  refine tz_if_eqT (pc := 65) (tgt := 72) (by decide) dX5_kindOf_65 (by decide) (by decide) ?_
                  refine tz_iconst (pc := 72) dX5_kindOf_72 ?_
                  exact tz_iret (pc := 73) (z := 1) dX5_kindOf_73 rfl (Nat.le_of_ble_eq_true rfl) (Nat.le_of_ble_eq_true rfl) ⟨Nat.le_refl _, Nat.le_add_right _ _⟩ ⟨_, rfl, (by decide), ⟨rfl, by unfold kdB; (repeat' split) <;> omega⟩⟩
                · refine tz_iconst (pc := 58) dX5_kindOf_58 ?_
                  refine tz_goto (pc := 59) (tgt := 63) dX5_kindOf_59 (by decide) ?_
                  refine tz_istore_n (pc := 63) (L2 := [_, _]) dX5_kindOf_63 rfl (by decide) rfl ?_
                  refine tz_iload_n (pc := 64) dX5_kindOf_64 rfl rfl ?_
                  refine tz_if_eqF (pc := 65) (tgt := 72) (by decide) dX5_kindOf_65 (by decide) (by decide) ?_
                  refine tz_iload_n (pc := 68) dX5_kindOf_68 rfl rfl ?_
                  refine tz_goto (pc := 69) (tgt := 73) dX5_kindOf_69 (by decide) ?_
                  exact tz_iret (pc := 73) (z := x) dX5_kindOf_73 rfl (Nat.le_of_ble_eq_true rfl) (Nat.le_of_ble_eq_true rfl) ⟨Nat.le_refl _, Nat.le_add_right _ _⟩ ⟨_, rfl, (by omega), ⟨rfl, by unfold kdB; (repeat' split) <;> omega⟩⟩
      · refine tz_iconst (pc := 26) dX5_kindOf_26 ?_
        exact tz_iret (pc := 27) (z := 3) dX5_kindOf_27 rfl (Nat.le_of_ble_eq_true rfl) (Nat.le_of_ble_eq_true rfl) ⟨Nat.le_refl _, Nat.le_add_right _ _⟩ ⟨_, rfl, (by decide), ⟨rfl, by unfold kdB; (repeat' split) <;> omega⟩⟩
  · refine tz_iload_n (pc := 6) dX5_kindOf_6 rfl rfl ?_
    refine tz_bipush (pc := 7) dX5_kindOf_7 (by decide) ?_
    refine tz_icmp_gt (pc := 9) (tgt := 14) dX5_kindOf_9 (by decide) (by omega) (by decide) (fun h_9 => ?_) (fun h_9 => ?_)
    · refine tz_iload_n (pc := 14) dX5_kindOf_14 rfl rfl ?_
      refine tz_bipush (pc := 15) dX5_kindOf_15 (by decide) ?_
      refine tz_icmp_lt (pc := 17) (tgt := 28) dX5_kindOf_17 (by decide) (by omega) (by decide) (fun h_17 => ?_) (fun h_17 => ?_)
      · refine tz_iload_n (pc := 28) dX5_kindOf_28 rfl rfl ?_
        refine tz_bipush (pc := 29) dX5_kindOf_29 (by decide) ?_
        refine tz_icmp_eq (pc := 31) (tgt := 58) dX5_kindOf_31 (by decide) (by omega) (by decide) (fun h_31 => ?_) (fun h_31 => ?_)
        · refine tz_iconst (pc := 58) dX5_kindOf_58 ?_
          refine tz_goto (pc := 59) (tgt := 63) dX5_kindOf_59 (by decide) ?_
          refine tz_istore_n (pc := 63) (L2 := [_, _]) dX5_kindOf_63 rfl (by decide) rfl ?_
          refine tz_iload_n (pc := 64) dX5_kindOf_64 rfl rfl ?_
          refine tz_if_eqF (pc := 65) (tgt := 72) (by decide) dX5_kindOf_65 (by decide) (by decide) ?_
          refine tz_iload_n (pc := 68) dX5_kindOf_68 rfl rfl ?_
          refine tz_goto (pc := 69) (tgt := 73) dX5_kindOf_69 (by decide) ?_
          exact tz_iret (pc := 73) (z := x) dX5_kindOf_73 rfl (Nat.le_of_ble_eq_true rfl) (Nat.le_of_ble_eq_true rfl) ⟨Nat.le_refl _, Nat.le_add_right _ _⟩ ⟨_, rfl, (by omega), ⟨rfl, by unfold kdB; (repeat' split) <;> omega⟩⟩
        · refine tz_iload_n (pc := 34) dX5_kindOf_34 rfl rfl ?_
          refine tz_bipush (pc := 35) dX5_kindOf_35 (by decide) ?_
          refine tz_icmp_eq (pc := 37) (tgt := 58) dX5_kindOf_37 (by decide) (by omega) (by decide) (fun h_37 => ?_) (fun h_37 => ?_)
          · refine tz_iconst (pc := 58) dX5_kindOf_58 ?_
            refine tz_goto (pc := 59) (tgt := 63) dX5_kindOf_59 (by decide) ?_
            refine tz_istore_n (pc := 63) (L2 := [_, _]) dX5_kindOf_63 rfl (by decide) rfl ?_
            refine tz_iload_n (pc := 64) dX5_kindOf_64 rfl rfl ?_
            refine tz_if_eqF (pc := 65) (tgt := 72) (by decide) dX5_kindOf_65 (by decide) (by decide) ?_
            refine tz_iload_n (pc := 68) dX5_kindOf_68 rfl rfl ?_
            refine tz_goto (pc := 69) (tgt := 73) dX5_kindOf_69 (by decide) ?_
            exact tz_iret (pc := 73) (z := x) dX5_kindOf_73 rfl (Nat.le_of_ble_eq_true rfl) (Nat.le_of_ble_eq_true rfl) ⟨Nat.le_refl _, Nat.le_add_right _ _⟩ ⟨_, rfl, (by omega), ⟨rfl, by unfold kdB; (repeat' split) <;> omega⟩⟩
          · refine tz_iload_n (pc := 40) dX5_kindOf_40 rfl rfl ?_
            refine tz_bipush (pc := 41) dX5_kindOf_41 (by decide) ?_
            refine tz_icmp_eq (pc := 43) (tgt := 58) dX5_kindOf_43 (by decide) (by omega) (by decide) (fun h_43 => ?_) (fun h_43 => ?_)
            · refine tz_iconst (pc := 58) dX5_kindOf_58 ?_
              refine tz_goto (pc := 59) (tgt := 63) dX5_kindOf_59 (by decide) ?_
              refine tz_istore_n (pc := 63) (L2 := [_, _]) dX5_kindOf_63 rfl (by decide) rfl ?_
              refine tz_iload_n (pc := 64) dX5_kindOf_64 rfl rfl ?_
              refine tz_if_eqF (pc := 65) (tgt := 72) (by decide) dX5_kindOf_65 (by decide) (by decide) ?_
              refine tz_iload_n (pc := 68) dX5_kindOf_68 rfl rfl ?_
              refine tz_goto (pc := 69) (tgt := 73) dX5_kindOf_69 (by decide) ?_
              exact tz_iret (pc := 73) (z := x) dX5_kindOf_73 rfl (Nat.le_of_ble_eq_true rfl) (Nat.le_of_ble_eq_true rfl) ⟨Nat.le_refl _, Nat.le_add_right _ _⟩ ⟨_, rfl, (by omega), ⟨rfl, by unfold kdB; (repeat' split) <;> omega⟩⟩
            · refine tz_iload_n (pc := 46) dX5_kindOf_46 rfl rfl ?_
              refine tz_bipush (pc := 47) dX5_kindOf_47 (by decide) ?_
              refine tz_icmp_eq (pc := 49) (tgt := 58) dX5_kindOf_49 (by decide) (by omega) (by decide) (fun h_49 => ?_) (fun h_49 => ?_)
              · refine tz_iconst (pc := 58) dX5_kindOf_58 ?_
                refine tz_goto (pc := 59) (tgt := 63) dX5_kindOf_59 (by decide) ?_
                refine tz_istore_n (pc := 63) (L2 := [_, _]) dX5_kindOf_63 rfl (by decide) rfl ?_
                refine tz_iload_n (pc := 64) dX5_kindOf_64 rfl rfl ?_
                refine tz_if_eqF (pc := 65) (tgt := 72) (by decide) dX5_kindOf_65 (by decide) (by decide) ?_
                refine tz_iload_n (pc := 68) dX5_kindOf_68 rfl rfl ?_
                refine tz_goto (pc := 69) (tgt := 73) dX5_kindOf_69 (by decide) ?_
                exact tz_iret (pc := 73) (z := x) dX5_kindOf_73 rfl (Nat.le_of_ble_eq_true rfl) (Nat.le_of_ble_eq_true rfl) ⟨Nat.le_refl _, Nat.le_add_right _ _⟩ ⟨_, rfl, (by omega), ⟨rfl, by unfold kdB; (repeat' split) <;> omega⟩⟩
              · refine tz_iload_n (pc := 52) dX5_kindOf_52 rfl rfl ?_
                refine tz_bipush (pc := 53) dX5_kindOf_53 (by decide) ?_
                refine tz_icmp_ne (pc := 55) (tgt := 62) dX5_kindOf_55 (by decide) (by omega) (by decide) (fun h_55 => ?_) (fun h_55 => ?_)
                · refine tz_iconst (pc := 62) dX5_kindOf_62 ?_
                  refine tz_istore_n (pc := 63) (L2 := [_, _]) dX5_kindOf_63 rfl (by decide) rfl ?_
                  refine tz_iload_n (pc := 64) dX5_kindOf_64 rfl rfl ?_
                  refine tz_if_eqT (pc := 65) (tgt := 72) (by decide) dX5_kindOf_65 (by decide) (by decide) ?_
                  refine tz_iconst (pc := 72) dX5_kindOf_72 ?_
                  exact tz_iret (pc := 73) (z := 1) dX5_kindOf_73 rfl (Nat.le_of_ble_eq_true rfl) (Nat.le_of_ble_eq_true rfl) ⟨Nat.le_refl _, Nat.le_add_right _ _⟩ ⟨_, rfl, (by decide), ⟨rfl, by unfold kdB; (repeat' split) <;> omega⟩⟩
                · refine tz_iconst (pc := 58) dX5_kindOf_58 ?_
                  refine tz_goto (pc := 59) (tgt := 63) dX5_kindOf_59 (by decide) ?_
                  refine tz_istore_n (pc := 63) (L2 := [_, _]) dX5_kindOf_63 rfl (by decide) rfl ?_
                  refine tz_iload_n (pc := 64) dX5_kindOf_64 rfl rfl ?_
                  refine tz_if_eqF (pc := 65) (tgt := 72) (by decide) dX5_kindOf_65 (by decide) (by decide) ?_
                  refine tz_iload_n (pc := 68) dX5_kindOf_68 rfl rfl ?_
                  refine tz_goto (pc := 69) (tgt := 73) dX5_kindOf_69 (by decide) ?_
                  exact tz_iret (pc := 73) (z := x) dX5_kindOf_73 rfl (Nat.le_of_ble_eq_true rfl) (Nat.le_of_ble_eq_true rfl) ⟨Nat.le_refl _, Nat.le_add_right _ _⟩ ⟨_, rfl, (by omega), ⟨rfl, by unfold kdB; (repeat' split) <;> omega⟩⟩
      · refine tz_iload_n (pc := 20) dX5_kindOf_20 rfl rfl ?_
        refine tz_bipush (pc := 21) dX5_kindOf_21 (by decide) ?_
        refine tz_icmp_gt (pc := 23) (tgt := 28) dX5_kindOf_23 (by decide) (by omega) (by decide) (fun h_23 => ?_) (fun h_23 => ?_)
        · refine tz_iload_n (pc := 28) dX5_kindOf_28 rfl rfl ?_
          refine tz_bipush (pc := 29) dX5_kindOf_29 (by decide) ?_
          refine tz_icmp_eq (pc := 31) (tgt := 58) dX5_kindOf_31 (by decide) (by omega) (by decide) (fun h_31 => ?_) (fun h_31 => ?_)
          · refine tz_iconst (pc := 58) dX5_kindOf_58 ?_
            refine tz_goto (pc := 59) (tgt := 63) dX5_kindOf_59 (by decide) ?_
            refine tz_istore_n (pc := 63) (L2 := [_, _]) dX5_kindOf_63 rfl (by decide) rfl ?_
            refine tz_iload_n (pc := 64) dX5_kindOf_64 rfl rfl ?_
            refine tz_if_eqF (pc := 65) (tgt := 72) (by decide) dX5_kindOf_65 (by decide) (by decide) ?_
            refine tz_iload_n (pc := 68) dX5_kindOf_68 rfl rfl ?_
            refine tz_goto (pc := 69) (tgt := 73) dX5_kindOf_69 (by decide) ?_
            exact tz_iret (pc := 73) (z := x) dX5_kindOf_73 rfl (Nat.le_of_ble_eq_true rfl) (Nat.le_of_ble_eq_true rfl) ⟨Nat.le_refl _, Nat.le_add_right _ _⟩ ⟨_, rfl, (by omega), ⟨rfl, by unfold kdB; (repeat' split) <;> omega⟩⟩
          · refine tz_iload_n (pc := 34) dX5_kindOf_34 rfl rfl ?_
            refine tz_bipush (pc := 35) dX5_kindOf_35 (by decide) ?_
            refine tz_icmp_eq (pc := 37) (tgt := 58) dX5_kindOf_37 (by decide) (by omega) (by decide) (fun h_37 => ?_) (fun h_37 => ?_)
            · refine tz_iconst (pc := 58) dX5_kindOf_58 ?_
              refine tz_goto (pc := 59) (tgt := 63) dX5_kindOf_59 (by decide) ?_
              refine tz_istore_n (pc := 63) (L2 := [_, _]) dX5_kindOf_63 rfl (by decide) rfl ?_
              refine tz_iload_n (pc := 64) dX5_kindOf_64 rfl rfl ?_
              refine tz_if_eqF (pc := 65) (tgt := 72) (by decide) dX5_kindOf_65 (by decide) (by decide) ?_
              refine tz_iload_n (pc := 68) dX5_kindOf_68 rfl rfl ?_
              refine tz_goto (pc := 69) (tgt := 73) dX5_kindOf_69 (by decide) ?_
              exact tz_iret (pc := 73) (z := x) dX5_kindOf_73 rfl (Nat.le_of_ble_eq_true rfl) (Nat.le_of_ble_eq_true rfl) ⟨Nat.le_refl _, Nat.le_add_right _ _⟩ ⟨_, rfl, (by omega), ⟨rfl, by unfold kdB; (repeat' split) <;> omega⟩⟩
            · refine tz_iload_n (pc := 40) dX5_kindOf_40 rfl rfl ?_
              refine tz_bipush (pc := 41) dX5_kindOf_41 (by decide) ?_
              refine tz_icmp_eq (pc := 43) (tgt := 58) dX5_kindOf_43 (by decide) (by omega) (by decide) (fun h_43 => ?_) (fun h_43 => ?_)
              · refine tz_iconst (pc := 58) dX5_kindOf_58 ?_
                refine tz_goto (pc := 59) (tgt := 63) dX5_kindOf_59 (by decide) ?_
                refine tz_istore_n (pc := 63) (L2 := [_, _]) dX5_kindOf_63 rfl (by decide) rfl ?_
                refine tz_iload_n (pc := 64) dX5_kindOf_64 rfl rfl ?_
                refine tz_if_eqF (pc := 65) (tgt := 72) (by decide) dX5_kindOf_65 (by decide) (by decide) ?_
                refine tz_iload_n (pc := 68) dX5_kindOf_68 rfl rfl ?_
                refine tz_goto (pc := 69) (tgt := 73) dX5_kindOf_69 (by decide) ?_
                exact tz_iret (pc := 73) (z := x) dX5_kindOf_73 rfl (Nat.le_of_ble_eq_true rfl) (Nat.le_of_ble_eq_true rfl) ⟨Nat.le_refl _, Nat.le_add_right _ _⟩ ⟨_, rfl, (by omega), ⟨rfl, by unfold kdB; (repeat' split) <;> omega⟩⟩
              · refine tz_iload_n (pc := 46) dX5_kindOf_46 rfl rfl ?_
                refine tz_bipush (pc := 47) dX5_kindOf_47 (by decide) ?_
                refine tz_icmp_eq (pc := 49) (tgt := 58) dX5_kindOf_49 (by decide) (by omega) (by decide) (fun h_49 => ?_) (fun h_49 => ?_)
                · refine tz_iconst (pc := 58) dX5_kindOf_58 ?_
                  refine tz_goto (pc := 59) (tgt := 63) dX5_kindOf_59 (by decide) ?_
                  refine tz_istore_n (pc := 63) (L2 := [_, _]) dX5_kindOf_63 rfl (by decide) rfl ?_
                  refine tz_iload_n (pc := 64) dX5_kindOf_64 rfl rfl ?_
                  refine tz_if_eqF (pc := 65) (tgt := 72) (by decide) dX5_kindOf_65 (by decide) (by decide) ?_
                  refine tz_iload_n (pc := 68) dX5_kindOf_68 rfl rfl ?_
                  refine tz_goto (pc := 69) (tgt := 73) dX5_kindOf_69 (by decide) ?_
                  exact tz_iret (pc := 73) (z := x) dX5_kindOf_73 rfl (Nat.le_of_ble_eq_true rfl) (Nat.le_of_ble_eq_true rfl) ⟨Nat.le_refl _, Nat.le_add_right _ _⟩ ⟨_, rfl, (by omega), ⟨rfl, by unfold kdB; (repeat' split) <;> omega⟩⟩
                · refine tz_iload_n (pc := 52) dX5_kindOf_52 rfl rfl ?_
                  refine tz_bipush (pc := 53) dX5_kindOf_53 (by decide) ?_
                  refine tz_icmp_ne (pc := 55) (tgt := 62) dX5_kindOf_55 (by decide) (by omega) (by decide) (fun h_55 => ?_) (fun h_55 => ?_)
                  · refine tz_iconst (pc := 62) dX5_kindOf_62 ?_
                    refine tz_istore_n (pc := 63) (L2 := [_, _]) dX5_kindOf_63 rfl (by decide) rfl ?_
                    refine tz_iload_n (pc := 64) dX5_kindOf_64 rfl rfl ?_
                    refine tz_if_eqT (pc := 65) (tgt := 72) (by decide) dX5_kindOf_65 (by decide) (by decide) ?_
                    refine tz_iconst (pc := 72) dX5_kindOf_72 ?_
                    exact tz_iret (pc := 73) (z := 1) dX5_kindOf_73 rfl (Nat.le_of_ble_eq_true rfl) (Nat.le_of_ble_eq_true rfl) ⟨Nat.le_refl _, Nat.le_add_right _ _⟩ ⟨_, rfl, (by decide), ⟨rfl, by unfold kdB; (repeat' split) <;> omega⟩⟩
                  · refine tz_iconst (pc := 58) dX5_kindOf_58 ?_
                    refine tz_goto (pc := 59) (tgt := 63) dX5_kindOf_59 (by decide) ?_
                    refine tz_istore_n (pc := 63) (L2 := [_, _]) dX5_kindOf_63 rfl (by decide) rfl ?_
                    refine tz_iload_n (pc := 64) dX5_kindOf_64 rfl rfl ?_
                    refine tz_if_eqF (pc := 65) (tgt := 72) (by decide) dX5_kindOf_65 (by decide) (by decide) ?_
                    refine tz_iload_n (pc := 68) dX5_kindOf_68 rfl rfl ?_
                    refine tz_goto (pc := 69) (tgt := 73) dX5_kindOf_69 (by decide) ?_
                    exact tz_iret (pc := 73) (z := x) dX5_kindOf_73 rfl (Nat.le_of_ble_eq_true rfl) (Nat.le_of_ble_eq_true rfl) ⟨Nat.le_refl _, Nat.le_add_right _ _⟩ ⟨_, rfl, (by omega), ⟨rfl, by unfold kdB; (repeat' split) <;> omega⟩⟩
        · refine tz_iconst (pc := 26) dX5_kindOf_26 ?_
          exact tz_iret (pc := 27) (z := 3) dX5_kindOf_27 rfl (Nat.le_of_ble_eq_true rfl) (Nat.le_of_ble_eq_true rfl) ⟨Nat.le_refl _, Nat.le_add_right _ _⟩ ⟨_, rfl, (by decide), ⟨rfl, by unfold kdB; (repeat' split) <;> omega⟩⟩
    · refine tz_iconst (pc := 12) dX5_kindOf_12 ?_
      exact tz_iret (pc := 13) (z := 2) dX5_kindOf_13 rfl (Nat.le_of_ble_eq_true rfl) (Nat.le_of_ble_eq_true rfl) ⟨Nat.le_refl _, Nat.le_add_right _ _⟩ ⟨_, rfl, (by decide), ⟨rfl, by unfold kdB; (repeat' split) <;> omega⟩⟩

set_option maxHeartbeats 4000000 in
set_option maxRecDepth 100000 in
theorem x_next {l : Launch} {G : tb_G} (hl : l.stackTraces = false) (n : Nat) (J : zJ)    (h0 : 0 ≤ J 163 7 ∧ J 163 7 ≤ J 163 4) (h4 : J 163 4 ≤ 700) : tz_Ok l G M_X5_next 1 0 0 [.ref 163] n J (zqv (fun J' => (zOf (zbut [163]) J' J ∧ ∀ k, ¬ k = 5 → ¬ k = 6 → ¬ k = 7 → J' 163 k = J 163 k) ∧ J' 163 6 = tkS (J 162) (J 163 4) (J 163 7) ∧ J' 163 5 = tkK (J 162) (J 163 4) (J 163 7) ∧ J' 163 7 = tkE (J 162) (J 163 4) (J 163 7))) zN := by
  refine tz_Ok.of hl (by decide +kernel) rfl (tb_c1 rfl) (Nat.le_of_ble_eq_true rfl) ?_
  show tz_At l G M_X5_next (tb_rm 1 0 0) none (tb_ZM G 0 0 (zQ n 0 (zqv (fun J' => (zOf (zbut [163]) J' J ∧ ∀ k, ¬ k = 5 → ¬ k = 6 → ¬ k = 7 → J' 163 k = J 163 k) ∧ J' 163 6 = tkS (J 162) (J 163 4) (J 163 7) ∧ J' 163 5 = tkK (J 162) (J 163 4) (J 163 7) ∧ J' 163 7 = tkE (J 162) (J 163 4) (J 163 7)))) (zX n 0 zN)) 0 0 n J 0 [some (.ref 163)] []
  refine tz_aload_n (pc := 0) dX5_next_0 rfl rfl ?_
  refine tz_aload_n (pc := 1) dX5_next_1 rfl rfl ?_
  refine tz_fI (pc := 2) (kz := 7) (v := (J 163 7)) dX5_next_2 fl_X5_21 i_163_7 rfl rfl (fun r_2 => ?_)
  refine tz_pI (pc := 5) (kz := 6) dX5_next_5 fl_X5_18 i_163_6 rfl rfl (by omega) ?_
  have loop8 : ∀ (f9 : Nat) (J1 : zJ), ((J 163 4 - J1 163 6).toNat) < f9 → ((zOf (zbut [163]) J1 J ∧ ∀ k, ¬ k = 5 → ¬ k = 6 → ¬ k = 7 → J1 163 k = J 163 k)) → (J 163 7 ≤ J1 163 6 ∧ J1 163 6 ≤ J 163 4) → (∀ q, J 163 7 ≤ q → q < J1 163 6 → J 162 q = 32 ∨ J 162 q = 10) → tz_At l G M_X5_next (tb_rm 1 0 0) none (tb_ZM G 0 0 (zQ n 0 (zqv (fun J' => (zOf (zbut [163]) J' J ∧ ∀ k, ¬ k = 5 → ¬ k = 6 → ¬ k = 7 → J' 163 k = J 163 k) ∧ J' 163 6 = tkS (J 162) (J 163 4) (J 163 7) ∧ J' 163 5 = tkK (J 162) (J 163 4) (J 163 7) ∧ J' 163 7 = tkE (J 162) (J 163 4) (J 163 7)))) (zX n 0 zN)) 0 0 n J1 8 [some (.ref 163)] [] := by
    intro f9
    induction f9 with
    | zero => intro J1 hm9; exact absurd hm9 (Nat.not_lt_zero _)
    | succ f9 ih8 =>
      intro J1 hm8 f1 h1 g1
      refine tz_aload_n (pc := 8) dX5_next_8 rfl rfl ?_
      refine tz_fI (pc := 9) (kz := 6) (v := (J1 163 6)) dX5_next_9 fl_X5_18 i_163_6 rfl rfl (fun r_9 => ?_)
      refine tz_aload_n (pc := 12) dX5_next_12 rfl rfl ?_
      refine tz_fI (pc := 13) (kz := 4) (v := (J 163 4)) dX5_next_13 fl_X5_9 i_163_4 rfl (Eq.trans (f1.2 4 (by decide) (by decide) (by decide)) rfl) (fun r_13 => ?_)
      refine tz_icmp_ge (pc := 16) (tgt := 60) dX5_next_16 (by decide) (by omega) (by omega) (fun h_16 => ?_) (fun h_16 => ?_)
      · refine tz_aload_n (pc := 60) dX5_next_60 rfl rfl ?_
        refine tz_aload_n (pc := 61) dX5_next_61 rfl rfl ?_
        refine tz_fI (pc := 62) (kz := 6) (v := (J1 163 6)) dX5_next_62 fl_X5_18 i_163_6 rfl rfl (fun r_62 => ?_)
        refine tz_aload_n (pc := 65) dX5_next_65 rfl rfl ?_
        refine tz_fI (pc := 66) (kz := 4) (v := (J 163 4)) dX5_next_66 fl_X5_9 i_163_4 rfl (Eq.trans (f1.2 4 (by decide) (by decide) (by decide)) rfl) (fun r_66 => ?_)
        refine tz_icmp_ge (pc := 69) (tgt := 87) dX5_next_69 (by decide) (by omega) (by omega) (fun h_69 => ?_) (fun h_69 => ?_)
        · refine tz_iconst (pc := 87) dX5_next_87 ?_
          refine tz_pI (pc := 88) (kz := 5) dX5_next_88 fl_X5_15 i_163_5 rfl rfl (by decide) ?_
          refine tz_aload_n (pc := 91) dX5_next_91 rfl rfl ?_
          refine tz_aload_n (pc := 92) dX5_next_92 rfl rfl ?_
          refine tz_fI (pc := 93) (kz := 6) (v := (J1 163 6)) dX5_next_93 fl_X5_18 i_163_6 rfl rfl (fun r_93 => ?_)
          refine tz_iconst (pc := 96) dX5_next_96 ?_
          refine tz_iadd (pc := 97) (v := (J1 163 6) + 1) dX5_next_97 rfl ?_
          refine tz_aload_n (pc := 98) dX5_next_98 rfl rfl ?_
          refine tz_fI (pc := 99) (kz := 4) (v := (J 163 4)) dX5_next_99 fl_X5_9 i_163_4 rfl (Eq.trans (f1.2 4 (by decide) (by decide) (by decide)) rfl) (fun r_99 => ?_)
          have hmn : (J1 163 6 < J 163 4 → zmn (J1 163 6 + 1) (J 163 4) = J1 163 6 + 1) ∧ (¬ J1 163 6 < J 163 4 → zmn (J1 163 6 + 1) (J 163 4) = J 163 4) := by unfold zmn; constructor <;> intro q <;> split <;> omega
          have hS : tkS (J 162) (J 163 4) (J 163 7) = J1 163 6 := tkS_eq h1.1 h1.2 g1 (by omega)
          refine tz_mn (pc := 102) (v := zmn (J1 163 6 + 1) (J 163 4)) dX5_next_102 ml_X5_59 (Nat.le_of_ble_eq_true rfl) (Nat.le_of_ble_eq_true rfl) (Nat.le_of_ble_eq_true rfl) (Nat.le_of_ble_eq_true rfl) (by omega) (by omega) rfl ?_
          refine tz_pI (pc := 105) (kz := 7) dX5_next_105 fl_X5_21 i_163_7 rfl rfl (by omega) ?_
          have loop108 : ∀ (f9 : Nat) (J2 : zJ), ((J 163 4 - J2 163 7).toNat) < f9 → ((zOf (zbut [163]) J2 J ∧ ∀ k, ¬ k = 5 → ¬ k = 6 → ¬ k = 7 → J2 163 k = J 163 k)) → (J2 163 6 = J1 163 6) → (J2 163 5 = 0) → (J2 163 7 = J 163 4) → tz_At l G M_X5_next (tb_rm 1 0 0) none (tb_ZM G 0 0 (zQ n 0 (zqv (fun J' => (zOf (zbut [163]) J' J ∧ ∀ k, ¬ k = 5 → ¬ k = 6 → ¬ k = 7 → J' 163 k = J 163 k) ∧ J' 163 6 = tkS (J 162) (J 163 4) (J 163 7) ∧ J' 163 5 = tkK (J 162) (J 163 4) (J 163 7) ∧ J' 163 7 = tkE (J 162) (J 163 4) (J 163 7)))) (zX n 0 zN)) 0 0 n J2 108 [some (.ref 163)] [] := by
            intro f9
            induction f9 with
            | zero => intro J2 hm9; exact absurd hm9 (Nat.not_lt_zero _)
            | succ f9 ih108 =>
              intro J2 hm108 f2 e6 e5 h2
              refine tz_aload_n (pc := 108) dX5_next_108 rfl rfl ?_
              refine tz_fI (pc := 109) (kz := 5) (v := 0) dX5_next_109 fl_X5_15 i_163_5 rfl e5 (fun _ => ?_)
              refine tz_iconst (pc := 112) dX5_next_112 ?_
              refine tz_icmp_eqF (pc := 113) (tgt := 124) (by decide) dX5_next_113 (by decide) (by decide) (by decide) ?_
              refine tz_aload_n (pc := 116) dX5_next_116 rfl rfl ?_
              refine tz_fI (pc := 117) (kz := 5) (v := 0) dX5_next_117 fl_X5_15 i_163_5 rfl e5 (fun _ => ?_)
              refine tz_iconst (pc := 120) dX5_next_120 ?_
              refine tz_icmp_neT (pc := 121) (tgt := 167) (by decide) dX5_next_121 (by decide) (by decide) (by decide) ?_
              exact tz_vret (pc := 167) dX5_next_167 rfl (Nat.le_of_ble_eq_true rfl) (Nat.le_of_ble_eq_true rfl) ⟨Nat.le_refl _, Nat.le_add_right _ _⟩ ⟨rfl, ⟨f2, e6.trans hS.symm, e5.trans (tkK_0 hS (by omega)).1.symm, h2.trans (tkK_0 hS (by omega)).2.symm⟩⟩
          exact loop108 _ _ (Nat.lt_succ_self _) ⟨zOf.up rfl (zOf.up rfl f1.1), fun k x y z => by rw [zup_ne z, zup_ne x]; exact f1.2 k x y z⟩ rfl rfl (by rw [zup_at, hmn.2 (by omega)])
        · refine tz_aload_n (pc := 72) dX5_next_72 rfl rfl ?_
          refine tz_fR (pc := 73) dX5_next_73 fl_X5_34 r_163_0 ?_
          refine tz_aload_n (pc := 76) dX5_next_76 rfl rfl ?_
          refine tz_fI (pc := 77) (kz := 6) (v := (J1 163 6)) dX5_next_77 fl_X5_18 i_163_6 rfl rfl (fun r_77 => ?_)
          refine tz_aL (pc := 80) (z := (J1 163 6)) (v := (J 162 (J1 163 6))) dX5_next_80 a_162 rfl (by omega) (Eq.trans (congrFun (f1.1 162 rfl) (J1 163 6)) rfl) (fun r_80 => ?_)
          refine tz_cS (pc := 81) (x_kindOf hl n _ _ (by omega)) sl_X5_101 dX5_next_81 rfl rfl (Nat.le_of_ble_eq_true rfl) ⟨(Nat.le_of_ble_eq_true rfl), (Nat.le_of_ble_eq_true rfl)⟩ rfl rfl (Nat.le_of_ble_eq_true rfl) (Nat.le_of_ble_eq_true rfl) (fun r9 J_81 hq9 => ?_)
          obtain ⟨z_81, rfl, hz_81, rfl, hk_81⟩ := hq9
          refine tz_goto (pc := 84) (tgt := 88) dX5_next_84 (by decide) ?_
          refine tz_pI (pc := 88) (kz := 5) dX5_next_88 fl_X5_15 i_163_5 rfl rfl (by omega) ?_
          refine tz_aload_n (pc := 91) dX5_next_91 rfl rfl ?_
          refine tz_aload_n (pc := 92) dX5_next_92 rfl rfl ?_
          refine tz_fI (pc := 93) (kz := 6) (v := (J1 163 6)) dX5_next_93 fl_X5_18 i_163_6 rfl rfl (fun r_93 => ?_)
          refine tz_iconst (pc := 96) dX5_next_96 ?_
          refine tz_iadd (pc := 97) (v := (J1 163 6) + 1) dX5_next_97 rfl ?_
          refine tz_aload_n (pc := 98) dX5_next_98 rfl rfl ?_
          refine tz_fI (pc := 99) (kz := 4) (v := (J 163 4)) dX5_next_99 fl_X5_9 i_163_4 rfl (Eq.trans (f1.2 4 (by decide) (by decide) (by decide)) rfl) (fun r_99 => ?_)
          have hmn : (J1 163 6 < J 163 4 → zmn (J1 163 6 + 1) (J 163 4) = J1 163 6 + 1) ∧ (¬ J1 163 6 < J 163 4 → zmn (J1 163 6 + 1) (J 163 4) = J 163 4) := by unfold zmn; constructor <;> intro q <;> split <;> omega
          have hS : tkS (J 162) (J 163 4) (J 163 7) = J1 163 6 := tkS_eq h1.1 h1.2 g1 (by omega)
          refine tz_mn (pc := 102) (v := zmn (J1 163 6 + 1) (J 163 4)) dX5_next_102 ml_X5_59 (Nat.le_of_ble_eq_true rfl) (Nat.le_of_ble_eq_true rfl) (Nat.le_of_ble_eq_true rfl) (Nat.le_of_ble_eq_true rfl) (by omega) (by omega) rfl ?_
          refine tz_pI (pc := 105) (kz := 7) dX5_next_105 fl_X5_21 i_163_7 rfl rfl (by omega) ?_
          have loop108 : ∀ (f9 : Nat) (J2 : zJ), ((J 163 4 - J2 163 7).toNat) < f9 → ((zOf (zbut [163]) J2 J ∧ ∀ k, ¬ k = 5 → ¬ k = 6 → ¬ k = 7 → J2 163 k = J 163 k)) → (J2 163 6 = J1 163 6) → (J2 163 5 = z_81) → (J1 163 6 + 1 ≤ J2 163 7 ∧ J2 163 7 ≤ J 163 4) → (∀ q, J1 163 6 + 1 ≤ q → q < J2 163 7 → kdB (J 162 q) = z_81) → ((z_81 = 2 ∨ z_81 = 3) ∨ J2 163 7 = J1 163 6 + 1) → tz_At l G M_X5_next (tb_rm 1 0 0) none (tb_ZM G 0 0 (zQ n 0 (zqv (fun J' => (zOf (zbut [163]) J' J ∧ ∀ k, ¬ k = 5 → ¬ k = 6 → ¬ k = 7 → J' 163 k = J 163 k) ∧ J' 163 6 = tkS (J 162) (J 163 4) (J 163 7) ∧ J' 163 5 = tkK (J 162) (J 163 4) (J 163 7) ∧ J' 163 7 = tkE (J 162) (J 163 4) (J 163 7)))) (zX n 0 zN)) 0 0 n J2 108 [some (.ref 163)] [] := by
            intro f9
            induction f9 with
            | zero => intro J2 hm9; exact absurd hm9 (Nat.not_lt_zero _)
            | succ f9 ih108 =>
              intro J2 hm108 f2 e6 e5 h2 h3 h5
              refine tz_aload_n (pc := 108) dX5_next_108 rfl rfl ?_
              refine tz_fI (pc := 109) (kz := 5) (v := z_81) dX5_next_109 fl_X5_15 i_163_5 rfl e5 (fun r_109 => ?_)
              refine tz_iconst (pc := 112) dX5_next_112 ?_
              refine tz_icmp_eq (pc := 113) (tgt := 124) dX5_next_113 (by decide) (by omega) (by decide) (fun h_113 => ?_) (fun h_113 => ?_)
              · refine tz_aload_n (pc := 124) dX5_next_124 rfl rfl ?_
                refine tz_fI (pc := 125) (kz := 7) (v := (J2 163 7)) dX5_next_125 fl_X5_21 i_163_7 rfl rfl (fun r_125 => ?_)
                refine tz_aload_n (pc := 128) dX5_next_128 rfl rfl ?_
                refine tz_fI (pc := 129) (kz := 4) (v := (J 163 4)) dX5_next_129 fl_X5_9 i_163_4 rfl (Eq.trans (f2.2 4 (by decide) (by decide) (by decide)) rfl) (fun r_129 => ?_)
                refine tz_icmp_ge (pc := 132) (tgt := 167) dX5_next_132 (by decide) (by omega) (by omega) (fun h_132 => ?_) (fun h_132 => ?_)
                · exact tz_vret (pc := 167) dX5_next_167 rfl (Nat.le_of_ble_eq_true rfl) (Nat.le_of_ble_eq_true rfl) ⟨Nat.le_refl _, Nat.le_add_right _ _⟩ ⟨rfl, ⟨f2, e6.trans hS.symm, (e5.trans (hk_81.symm.trans (tkK_1 hS (by omega)).symm)), (by rcases (show (z_81 = 2 ∨ z_81 = 3) ∨ ¬ (z_81 = 2 ∨ z_81 = 3) by omega) with q | q; exact (tkE_2 hS (by omega) hk_81 q h2.1 h2.2 h3 (by omega)).symm; rw [tkE_1 hS (by omega) hk_81 q]; omega)⟩⟩
                · refine tz_aload_n (pc := 135) dX5_next_135 rfl rfl ?_
                  refine tz_fR (pc := 136) dX5_next_136 fl_X5_34 r_163_0 ?_
                  refine tz_aload_n (pc := 139) dX5_next_139 rfl rfl ?_
                  refine tz_fI (pc := 140) (kz := 7) (v := (J2 163 7)) dX5_next_140 fl_X5_21 i_163_7 rfl rfl (fun r_140 => ?_)
                  refine tz_aL (pc := 143) (z := (J2 163 7)) (v := (J 162 (J2 163 7))) dX5_next_143 a_162 rfl (by omega) (Eq.trans (congrFun (f2.1 162 rfl) (J2 163 7)) rfl) (fun r_143 => ?_)
                  refine tz_cS (pc := 144) (x_kindOf hl n _ _ (by omega)) sl_X5_101 dX5_next_144 rfl rfl (Nat.le_of_ble_eq_true rfl) ⟨(Nat.le_of_ble_eq_true rfl), (Nat.le_of_ble_eq_true rfl)⟩ rfl rfl (Nat.le_of_ble_eq_true rfl) (Nat.le_of_ble_eq_true rfl) (fun r9 J_144 hq9 => ?_)
                  obtain ⟨z_144, rfl, hz_144, rfl, hk_144⟩ := hq9
                  refine tz_aload_n (pc := 147) dX5_next_147 rfl rfl ?_
                  refine tz_fI (pc := 148) (kz := 5) (v := z_81) dX5_next_148 fl_X5_15 i_163_5 rfl e5 (fun r_148 => ?_)
                  refine tz_icmp_ne (pc := 151) (tgt := 167) dX5_next_151 (by decide) (by omega) (by omega) (fun h_151 => ?_) (fun h_151 => ?_)
                  · exact tz_vret (pc := 167) dX5_next_167 rfl (Nat.le_of_ble_eq_true rfl) (Nat.le_of_ble_eq_true rfl) ⟨Nat.le_refl _, Nat.le_add_right _ _⟩ ⟨rfl, ⟨f2, e6.trans hS.symm, (e5.trans (hk_81.symm.trans (tkK_1 hS (by omega)).symm)), (by rcases (show (z_81 = 2 ∨ z_81 = 3) ∨ ¬ (z_81 = 2 ∨ z_81 = 3) by omega) with q | q; exact (tkE_2 hS (by omega) hk_81 q h2.1 h2.2 h3 (by omega)).symm; rw [tkE_1 hS (by omega) hk_81 q]; omega)⟩⟩
                  · refine tz_aload_n (pc := 154) dX5_next_154 rfl rfl ?_
                    refine tz_dup (pc := 155) dX5_next_155 rfl ?_
                    refine tz_fI (pc := 156) (kz := 7) (v := (J2 163 7)) dX5_next_156 fl_X5_21 i_163_7 rfl rfl (fun r_156 => ?_)
                    refine tz_iconst (pc := 159) dX5_next_159 ?_
                    refine tz_iadd (pc := 160) (v := (J2 163 7) + 1) dX5_next_160 rfl ?_
                    refine tz_pI (pc := 161) (kz := 7) dX5_next_161 fl_X5_21 i_163_7 rfl rfl (by omega) ?_
                    refine tz_goto (pc := 164) (tgt := 108) dX5_next_164 (by decide) ?_
                    exact ih108 _ (by rw [zup_at]; omega) ⟨zOf.up rfl f2.1, fun k a b c => (zup_ne c).trans (f2.2 k a b c)⟩ ((zup_ne (by decide)).trans e6) ((zup_ne (by decide)).trans e5) (by rw [zup_at]; omega) (fun q x y => by rw [zup_at] at y; exact (Decidable.em (q = J2 163 7)).elim (fun e => by rw [e]; omega) (fun e => h3 q x (by omega))) (Or.inl (by omega))
              · refine tz_aload_n (pc := 116) dX5_next_116 rfl rfl ?_
                refine tz_fI (pc := 117) (kz := 5) (v := z_81) dX5_next_117 fl_X5_15 i_163_5 rfl e5 (fun r_117 => ?_)
                refine tz_iconst (pc := 120) dX5_next_120 ?_
                refine tz_icmp_ne (pc := 121) (tgt := 167) dX5_next_121 (by decide) (by omega) (by decide) (fun h_121 => ?_) (fun h_121 => ?_)
                · exact tz_vret (pc := 167) dX5_next_167 rfl (Nat.le_of_ble_eq_true rfl) (Nat.le_of_ble_eq_true rfl) ⟨Nat.le_refl _, Nat.le_add_right _ _⟩ ⟨rfl, ⟨f2, e6.trans hS.symm, (e5.trans (hk_81.symm.trans (tkK_1 hS (by omega)).symm)), (by rcases (show (z_81 = 2 ∨ z_81 = 3) ∨ ¬ (z_81 = 2 ∨ z_81 = 3) by omega) with q | q; exact (tkE_2 hS (by omega) hk_81 q h2.1 h2.2 h3 (by omega)).symm; rw [tkE_1 hS (by omega) hk_81 q]; omega)⟩⟩
                · refine tz_aload_n (pc := 124) dX5_next_124 rfl rfl ?_
                  refine tz_fI (pc := 125) (kz := 7) (v := (J2 163 7)) dX5_next_125 fl_X5_21 i_163_7 rfl rfl (fun r_125 => ?_)
                  refine tz_aload_n (pc := 128) dX5_next_128 rfl rfl ?_
                  refine tz_fI (pc := 129) (kz := 4) (v := (J 163 4)) dX5_next_129 fl_X5_9 i_163_4 rfl (Eq.trans (f2.2 4 (by decide) (by decide) (by decide)) rfl) (fun r_129 => ?_)
                  refine tz_icmp_ge (pc := 132) (tgt := 167) dX5_next_132 (by decide) (by omega) (by omega) (fun h_132 => ?_) (fun h_132 => ?_)
                  · exact tz_vret (pc := 167) dX5_next_167 rfl (Nat.le_of_ble_eq_true rfl) (Nat.le_of_ble_eq_true rfl) ⟨Nat.le_refl _, Nat.le_add_right _ _⟩ ⟨rfl, ⟨f2, e6.trans hS.symm, (e5.trans (hk_81.symm.trans (tkK_1 hS (by omega)).symm)), (by rcases (show (z_81 = 2 ∨ z_81 = 3) ∨ ¬ (z_81 = 2 ∨ z_81 = 3) by omega) with q | q; exact (tkE_2 hS (by omega) hk_81 q h2.1 h2.2 h3 (by omega)).symm; rw [tkE_1 hS (by omega) hk_81 q]; omega)⟩⟩
                  · refine tz_aload_n (pc := 135) dX5_next_135 rfl rfl ?_
                    refine tz_fR (pc := 136) dX5_next_136 fl_X5_34 r_163_0 ?_
                    refine tz_aload_n (pc := 139) dX5_next_139 rfl rfl ?_
                    refine tz_fI (pc := 140) (kz := 7) (v := (J2 163 7)) dX5_next_140 fl_X5_21 i_163_7 rfl rfl (fun r_140 => ?_)
                    refine tz_aL (pc := 143) (z := (J2 163 7)) (v := (J 162 (J2 163 7))) dX5_next_143 a_162 rfl (by omega) (Eq.trans (congrFun (f2.1 162 rfl) (J2 163 7)) rfl) (fun r_143 => ?_)
                    refine tz_cS (pc := 144) (x_kindOf hl n _ _ (by omega)) sl_X5_101 dX5_next_144 rfl rfl (Nat.le_of_ble_eq_true rfl) ⟨(Nat.le_of_ble_eq_true rfl), (Nat.le_of_ble_eq_true rfl)⟩ rfl rfl (Nat.le_of_ble_eq_true rfl) (Nat.le_of_ble_eq_true rfl) (fun r9 J_144 hq9 => ?_)
                    obtain ⟨z_144, rfl, hz_144, rfl, hk_144⟩ := hq9
                    refine tz_aload_n (pc := 147) dX5_next_147 rfl rfl ?_
                    refine tz_fI (pc := 148) (kz := 5) (v := z_81) dX5_next_148 fl_X5_15 i_163_5 rfl e5 (fun r_148 => ?_)
                    refine tz_icmp_ne (pc := 151) (tgt := 167) dX5_next_151 (by decide) (by omega) (by omega) (fun h_151 => ?_) (fun h_151 => ?_)
                    · exact tz_vret (pc := 167) dX5_next_167 rfl (Nat.le_of_ble_eq_true rfl) (Nat.le_of_ble_eq_true rfl) ⟨Nat.le_refl _, Nat.le_add_right _ _⟩ ⟨rfl, ⟨f2, e6.trans hS.symm, (e5.trans (hk_81.symm.trans (tkK_1 hS (by omega)).symm)), (by rcases (show (z_81 = 2 ∨ z_81 = 3) ∨ ¬ (z_81 = 2 ∨ z_81 = 3) by omega) with q | q; exact (tkE_2 hS (by omega) hk_81 q h2.1 h2.2 h3 (by omega)).symm; rw [tkE_1 hS (by omega) hk_81 q]; omega)⟩⟩
                    · refine tz_aload_n (pc := 154) dX5_next_154 rfl rfl ?_
                      refine tz_dup (pc := 155) dX5_next_155 rfl ?_
                      refine tz_fI (pc := 156) (kz := 7) (v := (J2 163 7)) dX5_next_156 fl_X5_21 i_163_7 rfl rfl (fun r_156 => ?_)
                      refine tz_iconst (pc := 159) dX5_next_159 ?_
                      refine tz_iadd (pc := 160) (v := (J2 163 7) + 1) dX5_next_160 rfl ?_
                      refine tz_pI (pc := 161) (kz := 7) dX5_next_161 fl_X5_21 i_163_7 rfl rfl (by omega) ?_
                      refine tz_goto (pc := 164) (tgt := 108) dX5_next_164 (by decide) ?_
                      exact ih108 _ (by rw [zup_at]; omega) ⟨zOf.up rfl f2.1, fun k a b c => (zup_ne c).trans (f2.2 k a b c)⟩ ((zup_ne (by decide)).trans e6) ((zup_ne (by decide)).trans e5) (by rw [zup_at]; omega) (fun q x y => by rw [zup_at] at y; exact (Decidable.em (q = J2 163 7)).elim (fun e => by rw [e]; omega) (fun e => h3 q x (by omega))) (Or.inl (by omega))
          exact loop108 _ _ (Nat.lt_succ_self _) ⟨zOf.up rfl (zOf.up rfl f1.1), fun k x y z => by rw [zup_ne z, zup_ne x]; exact f1.2 k x y z⟩ rfl rfl (by rw [zup_at, hmn.1 (by omega)]; omega) (fun q x y => by rw [zup_at, hmn.1 (by omega)] at y; omega) (Or.inr (by rw [zup_at, hmn.1 (by omega)]))
      · refine tz_aload_n (pc := 19) dX5_next_19 rfl rfl ?_
        refine tz_fR (pc := 20) dX5_next_20 fl_X5_34 r_163_0 ?_
        refine tz_aload_n (pc := 23) dX5_next_23 rfl rfl ?_
        refine tz_fI (pc := 24) (kz := 6) (v := (J1 163 6)) dX5_next_24 fl_X5_18 i_163_6 rfl rfl (fun r_24 => ?_)
        refine tz_aL (pc := 27) (z := (J1 163 6)) (v := (J 162 (J1 163 6))) dX5_next_27 a_162 rfl (by omega) (Eq.trans (congrFun (f1.1 162 rfl) (J1 163 6)) rfl) (fun r_27 => ?_)
        refine tz_bipush (pc := 28) dX5_next_28 (by decide) ?_
        refine tz_icmp_eq (pc := 30) (tgt := 47) dX5_next_30 (by decide) (by omega) (by decide) (fun h_30 => ?_) (fun h_30 => ?_)
        · refine tz_aload_n (pc := 47) dX5_next_47 rfl rfl ?_
          refine tz_dup (pc := 48) dX5_next_48 rfl ?_
          refine tz_fI (pc := 49) (kz := 6) (v := (J1 163 6)) dX5_next_49 fl_X5_18 i_163_6 rfl rfl (fun r_49 => ?_)
          refine tz_iconst (pc := 52) dX5_next_52 ?_
          refine tz_iadd (pc := 53) (v := (J1 163 6) + 1) dX5_next_53 rfl ?_
          refine tz_pI (pc := 54) (kz := 6) dX5_next_54 fl_X5_18 i_163_6 rfl rfl (by omega) ?_
          refine tz_goto (pc := 57) (tgt := 8) dX5_next_57 (by decide) ?_
          exact ih8 _ (by rw [zup_at]; omega) ⟨zOf.up rfl f1.1, fun k a b c => (zup_ne b).trans (f1.2 k a b c)⟩ (by rw [zup_at]; omega) (fun q x y => by rw [zup_at] at y; exact (Decidable.em (q = J1 163 6)).elim (fun e => by rw [e]; omega) (fun e => g1 q x (by omega)))
        · refine tz_aload_n (pc := 33) dX5_next_33 rfl rfl ?_
          refine tz_fR (pc := 34) dX5_next_34 fl_X5_34 r_163_0 ?_
          refine tz_aload_n (pc := 37) dX5_next_37 rfl rfl ?_
          refine tz_fI (pc := 38) (kz := 6) (v := (J1 163 6)) dX5_next_38 fl_X5_18 i_163_6 rfl rfl (fun r_38 => ?_)
          refine tz_aL (pc := 41) (z := (J1 163 6)) (v := (J 162 (J1 163 6))) dX5_next_41 a_162 rfl (by omega) (Eq.trans (congrFun (f1.1 162 rfl) (J1 163 6)) rfl) (fun r_41 => ?_)
          refine tz_bipush (pc := 42) dX5_next_42 (by decide) ?_
          refine tz_icmp_ne (pc := 44) (tgt := 60) dX5_next_44 (by decide) (by omega) (by decide) (fun h_44 => ?_) (fun h_44 => ?_)
          · refine tz_aload_n (pc := 60) dX5_next_60 rfl rfl ?_
            refine tz_aload_n (pc := 61) dX5_next_61 rfl rfl ?_
            refine tz_fI (pc := 62) (kz := 6) (v := (J1 163 6)) dX5_next_62 fl_X5_18 i_163_6 rfl rfl (fun r_62 => ?_)
            refine tz_aload_n (pc := 65) dX5_next_65 rfl rfl ?_
            refine tz_fI (pc := 66) (kz := 4) (v := (J 163 4)) dX5_next_66 fl_X5_9 i_163_4 rfl (Eq.trans (f1.2 4 (by decide) (by decide) (by decide)) rfl) (fun r_66 => ?_)
            refine tz_icmp_ge (pc := 69) (tgt := 87) dX5_next_69 (by decide) (by omega) (by omega) (fun h_69 => ?_) (fun h_69 => ?_)
            · refine tz_iconst (pc := 87) dX5_next_87 ?_
              refine tz_pI (pc := 88) (kz := 5) dX5_next_88 fl_X5_15 i_163_5 rfl rfl (by decide) ?_
              refine tz_aload_n (pc := 91) dX5_next_91 rfl rfl ?_
              refine tz_aload_n (pc := 92) dX5_next_92 rfl rfl ?_
              refine tz_fI (pc := 93) (kz := 6) (v := (J1 163 6)) dX5_next_93 fl_X5_18 i_163_6 rfl rfl (fun r_93 => ?_)
              refine tz_iconst (pc := 96) dX5_next_96 ?_
              refine tz_iadd (pc := 97) (v := (J1 163 6) + 1) dX5_next_97 rfl ?_
              refine tz_aload_n (pc := 98) dX5_next_98 rfl rfl ?_
              refine tz_fI (pc := 99) (kz := 4) (v := (J 163 4)) dX5_next_99 fl_X5_9 i_163_4 rfl (Eq.trans (f1.2 4 (by decide) (by decide) (by decide)) rfl) (fun r_99 => ?_)
              have hmn : (J1 163 6 < J 163 4 → zmn (J1 163 6 + 1) (J 163 4) = J1 163 6 + 1) ∧ (¬ J1 163 6 < J 163 4 → zmn (J1 163 6 + 1) (J 163 4) = J 163 4) := by unfold zmn; constructor <;> intro q <;> split <;> omega
              have hS : tkS (J 162) (J 163 4) (J 163 7) = J1 163 6 := tkS_eq h1.1 h1.2 g1 (by omega)
              refine tz_mn (pc := 102) (v := zmn (J1 163 6 + 1) (J 163 4)) dX5_next_102 ml_X5_59 (Nat.le_of_ble_eq_true rfl) (Nat.le_of_ble_eq_true rfl) (Nat.le_of_ble_eq_true rfl) (Nat.le_of_ble_eq_true rfl) (by omega) (by omega) rfl ?_
              refine tz_pI (pc := 105) (kz := 7) dX5_next_105 fl_X5_21 i_163_7 rfl rfl (by omega) ?_
              have loop108 : ∀ (f9 : Nat) (J2 : zJ), ((J 163 4 - J2 163 7).toNat) < f9 → ((zOf (zbut [163]) J2 J ∧ ∀ k, ¬ k = 5 → ¬ k = 6 → ¬ k = 7 → J2 163 k = J 163 k)) → (J2 163 6 = J1 163 6) → (J2 163 5 = 0) → (J2 163 7 = J 163 4) → tz_At l G M_X5_next (tb_rm 1 0 0) none (tb_ZM G 0 0 (zQ n 0 (zqv (fun J' => (zOf (zbut [163]) J' J ∧ ∀ k, ¬ k = 5 → ¬ k = 6 → ¬ k = 7 → J' 163 k = J 163 k) ∧ J' 163 6 = tkS (J 162) (J 163 4) (J 163 7) ∧ J' 163 5 = tkK (J 162) (J 163 4) (J 163 7) ∧ J' 163 7 = tkE (J 162) (J 163 4) (J 163 7)))) (zX n 0 zN)) 0 0 n J2 108 [some (.ref 163)] [] := by
                intro f9
                induction f9 with
                | zero => intro J2 hm9; exact absurd hm9 (Nat.not_lt_zero _)
                | succ f9 ih108 =>
                  intro J2 hm108 f2 e6 e5 h2
                  refine tz_aload_n (pc := 108) dX5_next_108 rfl rfl ?_
                  refine tz_fI (pc := 109) (kz := 5) (v := 0) dX5_next_109 fl_X5_15 i_163_5 rfl e5 (fun _ => ?_)
                  refine tz_iconst (pc := 112) dX5_next_112 ?_
                  refine tz_icmp_eqF (pc := 113) (tgt := 124) (by decide) dX5_next_113 (by decide) (by decide) (by decide) ?_
                  refine tz_aload_n (pc := 116) dX5_next_116 rfl rfl ?_
                  refine tz_fI (pc := 117) (kz := 5) (v := 0) dX5_next_117 fl_X5_15 i_163_5 rfl e5 (fun _ => ?_)
                  refine tz_iconst (pc := 120) dX5_next_120 ?_
                  refine tz_icmp_neT (pc := 121) (tgt := 167) (by decide) dX5_next_121 (by decide) (by decide) (by decide) ?_
                  exact tz_vret (pc := 167) dX5_next_167 rfl (Nat.le_of_ble_eq_true rfl) (Nat.le_of_ble_eq_true rfl) ⟨Nat.le_refl _, Nat.le_add_right _ _⟩ ⟨rfl, ⟨f2, e6.trans hS.symm, e5.trans (tkK_0 hS (by omega)).1.symm, h2.trans (tkK_0 hS (by omega)).2.symm⟩⟩
              exact loop108 _ _ (Nat.lt_succ_self _) ⟨zOf.up rfl (zOf.up rfl f1.1), fun k x y z => by rw [zup_ne z, zup_ne x]; exact f1.2 k x y z⟩ rfl rfl (by rw [zup_at, hmn.2 (by omega)])
            · refine tz_aload_n (pc := 72) dX5_next_72 rfl rfl ?_
              refine tz_fR (pc := 73) dX5_next_73 fl_X5_34 r_163_0 ?_
              refine tz_aload_n (pc := 76) dX5_next_76 rfl rfl ?_
              refine tz_fI (pc := 77) (kz := 6) (v := (J1 163 6)) dX5_next_77 fl_X5_18 i_163_6 rfl rfl (fun r_77 => ?_)
              refine tz_aL (pc := 80) (z := (J1 163 6)) (v := (J 162 (J1 163 6))) dX5_next_80 a_162 rfl (by omega) (Eq.trans (congrFun (f1.1 162 rfl) (J1 163 6)) rfl) (fun r_80 => ?_)
              refine tz_cS (pc := 81) (x_kindOf hl n _ _ (by omega)) sl_X5_101 dX5_next_81 rfl rfl (Nat.le_of_ble_eq_true rfl) ⟨(Nat.le_of_ble_eq_true rfl), (Nat.le_of_ble_eq_true rfl)⟩ rfl rfl (Nat.le_of_ble_eq_true rfl) (Nat.le_of_ble_eq_true rfl) (fun r9 J_81 hq9 => ?_)
              obtain ⟨z_81, rfl, hz_81, rfl, hk_81⟩ := hq9
              refine tz_goto (pc := 84) (tgt := 88) dX5_next_84 (by decide) ?_
              refine tz_pI (pc := 88) (kz := 5) dX5_next_88 fl_X5_15 i_163_5 rfl rfl (by omega) ?_
              refine tz_aload_n (pc := 91) dX5_next_91 rfl rfl ?_
              refine tz_aload_n (pc := 92) dX5_next_92 rfl rfl ?_
              refine tz_fI (pc := 93) (kz := 6) (v := (J1 163 6)) dX5_next_93 fl_X5_18 i_163_6 rfl rfl (fun r_93 => ?_)
              refine tz_iconst (pc := 96) dX5_next_96 ?_
              refine tz_iadd (pc := 97) (v := (J1 163 6) + 1) dX5_next_97 rfl ?_
              refine tz_aload_n (pc := 98) dX5_next_98 rfl rfl ?_
              refine tz_fI (pc := 99) (kz := 4) (v := (J 163 4)) dX5_next_99 fl_X5_9 i_163_4 rfl (Eq.trans (f1.2 4 (by decide) (by decide) (by decide)) rfl) (fun r_99 => ?_)
              have hmn : (J1 163 6 < J 163 4 → zmn (J1 163 6 + 1) (J 163 4) = J1 163 6 + 1) ∧ (¬ J1 163 6 < J 163 4 → zmn (J1 163 6 + 1) (J 163 4) = J 163 4) := by unfold zmn; constructor <;> intro q <;> split <;> omega
              have hS : tkS (J 162) (J 163 4) (J 163 7) = J1 163 6 := tkS_eq h1.1 h1.2 g1 (by omega)
              refine tz_mn (pc := 102) (v := zmn (J1 163 6 + 1) (J 163 4)) dX5_next_102 ml_X5_59 (Nat.le_of_ble_eq_true rfl) (Nat.le_of_ble_eq_true rfl) (Nat.le_of_ble_eq_true rfl) (Nat.le_of_ble_eq_true rfl) (by omega) (by omega) rfl ?_
              refine tz_pI (pc := 105) (kz := 7) dX5_next_105 fl_X5_21 i_163_7 rfl rfl (by omega) ?_
              have loop108 : ∀ (f9 : Nat) (J2 : zJ), ((J 163 4 - J2 163 7).toNat) < f9 → ((zOf (zbut [163]) J2 J ∧ ∀ k, ¬ k = 5 → ¬ k = 6 → ¬ k = 7 → J2 163 k = J 163 k)) → (J2 163 6 = J1 163 6) → (J2 163 5 = z_81) → (J1 163 6 + 1 ≤ J2 163 7 ∧ J2 163 7 ≤ J 163 4) → (∀ q, J1 163 6 + 1 ≤ q → q < J2 163 7 → kdB (J 162 q) = z_81) → ((z_81 = 2 ∨ z_81 = 3) ∨ J2 163 7 = J1 163 6 + 1) → tz_At l G M_X5_next (tb_rm 1 0 0) none (tb_ZM G 0 0 (zQ n 0 (zqv (fun J' => (zOf (zbut [163]) J' J ∧ ∀ k, ¬ k = 5 → ¬ k = 6 → ¬ k = 7 → J' 163 k = J 163 k) ∧ J' 163 6 = tkS (J 162) (J 163 4) (J 163 7) ∧ J' 163 5 = tkK (J 162) (J 163 4) (J 163 7) ∧ J' 163 7 = tkE (J 162) (J 163 4) (J 163 7)))) (zX n 0 zN)) 0 0 n J2 108 [some (.ref 163)] [] := by
                intro f9
                induction f9 with
                | zero => intro J2 hm9; exact absurd hm9 (Nat.not_lt_zero _)
                | succ f9 ih108 =>
                  intro J2 hm108 f2 e6 e5 h2 h3 h5
                  refine tz_aload_n (pc := 108) dX5_next_108 rfl rfl ?_
                  refine tz_fI (pc := 109) (kz := 5) (v := z_81) dX5_next_109 fl_X5_15 i_163_5 rfl e5 (fun r_109 => ?_)
                  refine tz_iconst (pc := 112) dX5_next_112 ?_
                  refine tz_icmp_eq (pc := 113) (tgt := 124) dX5_next_113 (by decide) (by omega) (by decide) (fun h_113 => ?_) (fun h_113 => ?_)
                  · refine tz_aload_n (pc := 124) dX5_next_124 rfl rfl ?_
                    refine tz_fI (pc := 125) (kz := 7) (v := (J2 163 7)) dX5_next_125 fl_X5_21 i_163_7 rfl rfl (fun r_125 => ?_)
                    refine tz_aload_n (pc := 128) dX5_next_128 rfl rfl ?_
                    refine tz_fI (pc := 129) (kz := 4) (v := (J 163 4)) dX5_next_129 fl_X5_9 i_163_4 rfl (Eq.trans (f2.2 4 (by decide) (by decide) (by decide)) rfl) (fun r_129 => ?_)
                    refine tz_icmp_ge (pc := 132) (tgt := 167) dX5_next_132 (by decide) (by omega) (by omega) (fun h_132 => ?_) (fun h_132 => ?_)
                    · exact tz_vret (pc := 167) dX5_next_167 rfl (Nat.le_of_ble_eq_true rfl) (Nat.le_of_ble_eq_true rfl) ⟨Nat.le_refl _, Nat.le_add_right _ _⟩ ⟨rfl, ⟨f2, e6.trans hS.symm, (e5.trans (hk_81.symm.trans (tkK_1 hS (by omega)).symm)), (by rcases (show (z_81 = 2 ∨ z_81 = 3) ∨ ¬ (z_81 = 2 ∨ z_81 = 3) by omega) with q | q; exact (tkE_2 hS (by omega) hk_81 q h2.1 h2.2 h3 (by omega)).symm; rw [tkE_1 hS (by omega) hk_81 q]; omega)⟩⟩
                    · refine tz_aload_n (pc := 135) dX5_next_135 rfl rfl ?_
                      refine tz_fR (pc := 136) dX5_next_136 fl_X5_34 r_163_0 ?_
                      refine tz_aload_n (pc := 139) dX5_next_139 rfl rfl ?_
                      refine tz_fI (pc := 140) (kz := 7) (v := (J2 163 7)) dX5_next_140 fl_X5_21 i_163_7 rfl rfl (fun r_140 => ?_)
                      refine tz_aL (pc := 143) (z := (J2 163 7)) (v := (J 162 (J2 163 7))) dX5_next_143 a_162 rfl (by omega) (Eq.trans (congrFun (f2.1 162 rfl) (J2 163 7)) rfl) (fun r_143 => ?_)
                      refine tz_cS (pc := 144) (x_kindOf hl n _ _ (by omega)) sl_X5_101 dX5_next_144 rfl rfl (Nat.le_of_ble_eq_true rfl) ⟨(Nat.le_of_ble_eq_true rfl), (Nat.le_of_ble_eq_true rfl)⟩ rfl rfl (Nat.le_of_ble_eq_true rfl) (Nat.le_of_ble_eq_true rfl) (fun r9 J_144 hq9 => ?_)
                      obtain ⟨z_144, rfl, hz_144, rfl, hk_144⟩ := hq9
                      refine tz_aload_n (pc := 147) dX5_next_147 rfl rfl ?_
                      refine tz_fI (pc := 148) (kz := 5) (v := z_81) dX5_next_148 fl_X5_15 i_163_5 rfl e5 (fun r_148 => ?_)
                      refine tz_icmp_ne (pc := 151) (tgt := 167) dX5_next_151 (by decide) (by omega) (by omega) (fun h_151 => ?_) (fun h_151 => ?_)
                      · exact tz_vret (pc := 167) dX5_next_167 rfl (Nat.le_of_ble_eq_true rfl) (Nat.le_of_ble_eq_true rfl) ⟨Nat.le_refl _, Nat.le_add_right _ _⟩ ⟨rfl, ⟨f2, e6.trans hS.symm, (e5.trans (hk_81.symm.trans (tkK_1 hS (by omega)).symm)), (by rcases (show (z_81 = 2 ∨ z_81 = 3) ∨ ¬ (z_81 = 2 ∨ z_81 = 3) by omega) with q | q; exact (tkE_2 hS (by omega) hk_81 q h2.1 h2.2 h3 (by omega)).symm; rw [tkE_1 hS (by omega) hk_81 q]; omega)⟩⟩
                      · refine tz_aload_n (pc := 154) dX5_next_154 rfl rfl ?_
                        refine tz_dup (pc := 155) dX5_next_155 rfl ?_
                        refine tz_fI (pc := 156) (kz := 7) (v := (J2 163 7)) dX5_next_156 fl_X5_21 i_163_7 rfl rfl (fun r_156 => ?_)
                        refine tz_iconst (pc := 159) dX5_next_159 ?_
                        refine tz_iadd (pc := 160) (v := (J2 163 7) + 1) dX5_next_160 rfl ?_
                        refine tz_pI (pc := 161) (kz := 7) dX5_next_161 fl_X5_21 i_163_7 rfl rfl (by omega) ?_
                        refine tz_goto (pc := 164) (tgt := 108) dX5_next_164 (by decide) ?_
                        exact ih108 _ (by rw [zup_at]; omega) ⟨zOf.up rfl f2.1, fun k a b c => (zup_ne c).trans (f2.2 k a b c)⟩ ((zup_ne (by decide)).trans e6) ((zup_ne (by decide)).trans e5) (by rw [zup_at]; omega) (fun q x y => by rw [zup_at] at y; exact (Decidable.em (q = J2 163 7)).elim (fun e => by rw [e]; omega) (fun e => h3 q x (by omega))) (Or.inl (by omega))
                  · refine tz_aload_n (pc := 116) dX5_next_116 rfl rfl ?_
                    refine tz_fI (pc := 117) (kz := 5) (v := z_81) dX5_next_117 fl_X5_15 i_163_5 rfl e5 (fun r_117 => ?_)
                    refine tz_iconst (pc := 120) dX5_next_120 ?_
                    refine tz_icmp_ne (pc := 121) (tgt := 167) dX5_next_121 (by decide) (by omega) (by decide) (fun h_121 => ?_) (fun h_121 => ?_)
                    · exact tz_vret (pc := 167) dX5_next_167 rfl (Nat.le_of_ble_eq_true rfl) (Nat.le_of_ble_eq_true rfl) ⟨Nat.le_refl _, Nat.le_add_right _ _⟩ ⟨rfl, ⟨f2, e6.trans hS.symm, (e5.trans (hk_81.symm.trans (tkK_1 hS (by omega)).symm)), (by rcases (show (z_81 = 2 ∨ z_81 = 3) ∨ ¬ (z_81 = 2 ∨ z_81 = 3) by omega) with q | q; exact (tkE_2 hS (by omega) hk_81 q h2.1 h2.2 h3 (by omega)).symm; rw [tkE_1 hS (by omega) hk_81 q]; omega)⟩⟩
                    · refine tz_aload_n (pc := 124) dX5_next_124 rfl rfl ?_
                      refine tz_fI (pc := 125) (kz := 7) (v := (J2 163 7)) dX5_next_125 fl_X5_21 i_163_7 rfl rfl (fun r_125 => ?_)
                      refine tz_aload_n (pc := 128) dX5_next_128 rfl rfl ?_
                      refine tz_fI (pc := 129) (kz := 4) (v := (J 163 4)) dX5_next_129 fl_X5_9 i_163_4 rfl (Eq.trans (f2.2 4 (by decide) (by decide) (by decide)) rfl) (fun r_129 => ?_)
                      refine tz_icmp_ge (pc := 132) (tgt := 167) dX5_next_132 (by decide) (by omega) (by omega) (fun h_132 => ?_) (fun h_132 => ?_)
                      · exact tz_vret (pc := 167) dX5_next_167 rfl (Nat.le_of_ble_eq_true rfl) (Nat.le_of_ble_eq_true rfl) ⟨Nat.le_refl _, Nat.le_add_right _ _⟩ ⟨rfl, ⟨f2, e6.trans hS.symm, (e5.trans (hk_81.symm.trans (tkK_1 hS (by omega)).symm)), (by rcases (show (z_81 = 2 ∨ z_81 = 3) ∨ ¬ (z_81 = 2 ∨ z_81 = 3) by omega) with q | q; exact (tkE_2 hS (by omega) hk_81 q h2.1 h2.2 h3 (by omega)).symm; rw [tkE_1 hS (by omega) hk_81 q]; omega)⟩⟩
                      · refine tz_aload_n (pc := 135) dX5_next_135 rfl rfl ?_
                        refine tz_fR (pc := 136) dX5_next_136 fl_X5_34 r_163_0 ?_
                        refine tz_aload_n (pc := 139) dX5_next_139 rfl rfl ?_
                        refine tz_fI (pc := 140) (kz := 7) (v := (J2 163 7)) dX5_next_140 fl_X5_21 i_163_7 rfl rfl (fun r_140 => ?_)
                        refine tz_aL (pc := 143) (z := (J2 163 7)) (v := (J 162 (J2 163 7))) dX5_next_143 a_162 rfl (by omega) (Eq.trans (congrFun (f2.1 162 rfl) (J2 163 7)) rfl) (fun r_143 => ?_)
                        refine tz_cS (pc := 144) (x_kindOf hl n _ _ (by omega)) sl_X5_101 dX5_next_144 rfl rfl (Nat.le_of_ble_eq_true rfl) ⟨(Nat.le_of_ble_eq_true rfl), (Nat.le_of_ble_eq_true rfl)⟩ rfl rfl (Nat.le_of_ble_eq_true rfl) (Nat.le_of_ble_eq_true rfl) (fun r9 J_144 hq9 => ?_)
                        obtain ⟨z_144, rfl, hz_144, rfl, hk_144⟩ := hq9
                        refine tz_aload_n (pc := 147) dX5_next_147 rfl rfl ?_
                        refine tz_fI (pc := 148) (kz := 5) (v := z_81) dX5_next_148 fl_X5_15 i_163_5 rfl e5 (fun r_148 => ?_)
                        refine tz_icmp_ne (pc := 151) (tgt := 167) dX5_next_151 (by decide) (by omega) (by omega) (fun h_151 => ?_) (fun h_151 => ?_)
                        · exact tz_vret (pc := 167) dX5_next_167 rfl (Nat.le_of_ble_eq_true rfl) (Nat.le_of_ble_eq_true rfl) ⟨Nat.le_refl _, Nat.le_add_right _ _⟩ ⟨rfl, ⟨f2, e6.trans hS.symm, (e5.trans (hk_81.symm.trans (tkK_1 hS (by omega)).symm)), (by rcases (show (z_81 = 2 ∨ z_81 = 3) ∨ ¬ (z_81 = 2 ∨ z_81 = 3) by omega) with q | q; exact (tkE_2 hS (by omega) hk_81 q h2.1 h2.2 h3 (by omega)).symm; rw [tkE_1 hS (by omega) hk_81 q]; omega)⟩⟩
                        · refine tz_aload_n (pc := 154) dX5_next_154 rfl rfl ?_
                          refine tz_dup (pc := 155) dX5_next_155 rfl ?_
                          refine tz_fI (pc := 156) (kz := 7) (v := (J2 163 7)) dX5_next_156 fl_X5_21 i_163_7 rfl rfl (fun r_156 => ?_)
                          refine tz_iconst (pc := 159) dX5_next_159 ?_
                          refine tz_iadd (pc := 160) (v := (J2 163 7) + 1) dX5_next_160 rfl ?_
                          refine tz_pI (pc := 161) (kz := 7) dX5_next_161 fl_X5_21 i_163_7 rfl rfl (by omega) ?_
                          refine tz_goto (pc := 164) (tgt := 108) dX5_next_164 (by decide) ?_
                          exact ih108 _ (by rw [zup_at]; omega) ⟨zOf.up rfl f2.1, fun k a b c => (zup_ne c).trans (f2.2 k a b c)⟩ ((zup_ne (by decide)).trans e6) ((zup_ne (by decide)).trans e5) (by rw [zup_at]; omega) (fun q x y => by rw [zup_at] at y; exact (Decidable.em (q = J2 163 7)).elim (fun e => by rw [e]; omega) (fun e => h3 q x (by omega))) (Or.inl (by omega))
              exact loop108 _ _ (Nat.lt_succ_self _) ⟨zOf.up rfl (zOf.up rfl f1.1), fun k x y z => by rw [zup_ne z, zup_ne x]; exact f1.2 k x y z⟩ rfl rfl (by rw [zup_at, hmn.1 (by omega)]; omega) (fun q x y => by rw [zup_at, hmn.1 (by omega)] at y; omega) (Or.inr (by rw [zup_at, hmn.1 (by omega)]))
          · refine tz_aload_n (pc := 47) dX5_next_47 rfl rfl ?_
            refine tz_dup (pc := 48) dX5_next_48 rfl ?_
            refine tz_fI (pc := 49) (kz := 6) (v := (J1 163 6)) dX5_next_49 fl_X5_18 i_163_6 rfl rfl (fun r_49 => ?_)
            refine tz_iconst (pc := 52) dX5_next_52 ?_
            refine tz_iadd (pc := 53) (v := (J1 163 6) + 1) dX5_next_53 rfl ?_
            refine tz_pI (pc := 54) (kz := 6) dX5_next_54 fl_X5_18 i_163_6 rfl rfl (by omega) ?_
            refine tz_goto (pc := 57) (tgt := 8) dX5_next_57 (by decide) ?_
            exact ih8 _ (by rw [zup_at]; omega) ⟨zOf.up rfl f1.1, fun k a b c => (zup_ne b).trans (f1.2 k a b c)⟩ (by rw [zup_at]; omega) (fun q x y => by rw [zup_at] at y; exact (Decidable.em (q = J1 163 6)).elim (fun e => by rw [e]; omega) (fun e => g1 q x (by omega)))
  exact loop8 _ _ (Nat.lt_succ_self _) ⟨zOf.up rfl zOf.rf, fun k _ b _ => zup_ne b⟩ (by rw [zup_at]; omega) (fun q x y => by rw [zup_at] at y; omega)

