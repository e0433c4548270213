/-! ===== known words ===== -/
def mpB (f : Int → Int) (x y : Int) (w : List Int) (k : Nat) : Prop := ∀ j : Nat, j < k → x + (j : Int) < y ∧ f (x + (j : Int)) = w.getD j 0
def mtB (f : Int → Int) (x y : Int) (w : List Int) : Prop := mpB f x y w w.length ∧ y = x + (w.length : Int)
theorem mp_0 {f : Int → Int} {x y : Int} {w : List Int} : mpB f x y w 0 := fun j h => absurd h (Nat.not_lt_zero _)
theorem mp_s {f : Int → Int} {x y : Int} {w : List Int} {k : Nat} (h : mpB f x y w k) (h1 : x + (k : Int) < y) (h2 : f (x + (k : Int)) = w.getD k 0) : mpB f x y w (k + 1) := fun j hj => by
  by_cases e : j = k
  · subst e; exact ⟨h1, h2⟩
  · exact h j (by omega)
theorem mp_p {f : Int → Int} {x y : Int} {w : List Int} {k : Nat} (h : mpB f x y w (k + 1)) : mpB f x y w k ∧ x + (k : Int) < y ∧ f (x + (k : Int)) = w.getD k 0 := ⟨fun j hj => h j (by omega), h k (by omega)⟩
/-- which of the known words, or none -/
def WD (f : Int → Int) (x y z : Int) : Prop := (mtB f x y [115, 121, 109, 98, 111, 108] ∧ z = 0) ∨ (¬ mtB f x y [115, 121, 109, 98, 111, 108] ∧ ((mtB f x y [116, 101, 114, 109] ∧ z = 1) ∨ (¬ mtB f x y [116, 101, 114, 109] ∧ ((mtB f x y [114, 117, 108, 101] ∧ z = 2) ∨ (¬ mtB f x y [114, 117, 108, 101] ∧ ((mtB f x y [101, 110, 116, 114, 121] ∧ z = 3) ∨ (¬ mtB f x y [101, 110, 116, 114, 121] ∧ ((mtB f x y [114, 111, 111, 109] ∧ z = 4) ∨ (¬ mtB f x y [114, 111, 111, 109] ∧ ((mtB f x y [116, 111] ∧ z = 5) ∨ (¬ mtB f x y [116, 111] ∧ z = -1)))))))))))
set_option maxHeartbeats 4000000 in
set_option maxRecDepth 100000 in
theorem x_wordFrom {l : Launch} {G : tb_G} (hl : l.stackTraces = false) (n : Nat) (J : zJ) (x : Int) (y : Int) (hr_x : -2147483648 ≤ x ∧ x < 2147483648) (hr_y : -2147483648 ≤ y ∧ y < 2147483648) (h0 : 0 ≤ x ∧ x ≤ 700) (h1 : J 164 37 ≤ 700) (h2 : y ≤ J 164 37) : tz_Ok l G M_X12_wordFrom 1 0 0 [.ref 164, zi x, zi y] n J (zqi (fun z J' => J = J' ∧ WD (J 173) x y z)) zN := by
  refine tz_Ok.of hl (by decide +kernel) rfl (tb_c1 rfl) (Nat.le_of_ble_eq_true rfl) ?_
  show tz_At l G M_X12_wordFrom (tb_rm 1 0 0) none (tb_ZM G 0 0 (zQ n 0 (zqi (fun z J' => J = J' ∧ WD (J 173) x y z))) (zX n 0 zN)) 0 0 n J 0 [some (.ref 164), some (zi x), some (zi y), none, none, none, none] []
  have s_30 : ∀ e : Int, (e = 0 ∨ e = 1) → (e = 1 ↔ mpB (J 173) x y [116, 111] 2) → (¬ mtB (J 173) x y [115, 121, 109, 98, 111, 108] ∧ ¬ mtB (J 173) x y [116, 101, 114, 109] ∧ ¬ mtB (J 173) x y [114, 117, 108, 101] ∧ ¬ mtB (J 173) x y [101, 110, 116, 114, 121] ∧ ¬ mtB (J 173) x y [114, 111, 111, 109]) → tz_At l G M_X12_wordFrom (tb_rm 1 0 0) none (tb_ZM G 0 0 (zQ n 0 (zqi (fun z J' => J = J' ∧ WD (J 173) x y z))) (zX n 0 zN)) 0 0 n J 11 [some (.ref 164), some (zi x), some (zi y), some (zi 5), some (zi (x + 2)), some (zi e), some (zi 30)] [] := by
    intro e h01 he nm
    refine tz_iload (pc := 11) dX12_wordFrom_11 rfl ?_
    refine tz_knL (pc := 13) dX12_wordFrom_13 dX12_wordFrom_16 (by decide +kernel) ?_
    refine tz_icmp_geF (pc := 17) (tgt := 98) (by decide) dX12_wordFrom_17 (by decide) (by decide) (by decide) ?_
    refine tz_knD (pc := 20) (k9 := 30) (v := 32) (by decide) (by decide) rfl dX12_wordFrom_20 dX12_wordFrom_23 dX12_wordFrom_25 (by decide +kernel) ?_
    refine tz_bipush (pc := 26) dX12_wordFrom_26 (by decide) ?_
    refine tz_icmp_neF (pc := 28) (tgt := 56) (by decide) dX12_wordFrom_28 (by decide) (by decide) (by decide) ?_
    refine tz_iload (pc := 31) dX12_wordFrom_31 rfl ?_
    refine tz_if_eq (pc := 33) (tgt := 44) dX12_wordFrom_33 (by decide) (by omega) (fun h_33 => ?_) (fun h_33 => ?_)
    · refine tz_iinc (pc := 44) (z := 6) (L2 := [_, _, _, _, _, _, _]) dX12_wordFrom_44 rfl (by decide) rfl ?_
      refine tz_iload_n (pc := 47) dX12_wordFrom_47 rfl rfl ?_
      refine tz_istore (pc := 48) (L2 := [_, _, _, _, _, _, _]) dX12_wordFrom_48 (by decide) rfl ?_
      refine tz_iconst (pc := 50) dX12_wordFrom_50 ?_
      refine tz_istore (pc := 51) (L2 := [_, _, _, _, _, _, _]) dX12_wordFrom_51 (by decide) rfl ?_
      refine tz_goto (pc := 53) (tgt := 92) dX12_wordFrom_53 (by decide) ?_
      refine tz_iinc (pc := 92) (z := 31) (L2 := [_, _, _, _, _, _, _]) dX12_wordFrom_92 rfl (by decide) rfl ?_
      refine tz_goto (pc := 95) (tgt := 11) dX12_wordFrom_95 (by decide) ?_
      have nt : ¬ mtB (J 173) x y [116, 111] := fun q => by
        have q1 := he.2 q.1
        have q2 : y = x + 2 := q.2
        omega
      have nm6 : ¬ mtB (J 173) x y [115, 121, 109, 98, 111, 108] ∧ ¬ mtB (J 173) x y [116, 101, 114, 109] ∧ ¬ mtB (J 173) x y [114, 117, 108, 101] ∧ ¬ mtB (J 173) x y [101, 110, 116, 114, 121] ∧ ¬ mtB (J 173) x y [114, 111, 111, 109] ∧ ¬ mtB (J 173) x y [116, 111] := ⟨nm.1, nm.2.1, nm.2.2.1, nm.2.2.2.1, nm.2.2.2.2, nt⟩
      refine tz_iload (pc := 11) dX12_wordFrom_11 rfl ?_
      refine tz_knL (pc := 13) dX12_wordFrom_13 dX12_wordFrom_16 (by decide +kernel) ?_
      refine tz_icmp_geT (pc := 17) (tgt := 98) (by decide) dX12_wordFrom_17 (by decide) (by decide) (by decide) ?_
      refine tz_iconst (pc := 98) dX12_wordFrom_98 ?_
      exact tz_iret (pc := 99) (z := (-1)) dX12_wordFrom_99 rfl (Nat.le_of_ble_eq_true rfl) (Nat.le_of_ble_eq_true rfl) ⟨Nat.le_refl _, Nat.le_add_right _ _⟩ ⟨_, rfl, (by decide), ⟨rfl, Or.inr ⟨nm6.1, Or.inr ⟨nm6.2.1, Or.inr ⟨nm6.2.2.1, Or.inr ⟨nm6.2.2.2.1, Or.inr ⟨nm6.2.2.2.2.1, Or.inr ⟨nm6.2.2.2.2.2, rfl⟩⟩⟩⟩⟩⟩⟩⟩
    · refine tz_iload (pc := 36) dX12_wordFrom_36 rfl ?_
      refine tz_iload_n (pc := 38) dX12_wordFrom_38 rfl rfl ?_
      refine tz_icmp_ne (pc := 39) (tgt := 44) dX12_wordFrom_39 (by decide) (by omega) (by omega) (fun h_39 => ?_) (fun h_39 => ?_)
      · refine tz_iinc (pc := 44) (z := 6) (L2 := [_, _, _, _, _, _, _]) dX12_wordFrom_44 rfl (by decide) rfl ?_
        refine tz_iload_n (pc := 47) dX12_wordFrom_47 rfl rfl ?_
        refine tz_istore (pc := 48) (L2 := [_, _, _, _, _, _, _]) dX12_wordFrom_48 (by decide) rfl ?_
        refine tz_iconst (pc := 50) dX12_wordFrom_50 ?_
        refine tz_istore (pc := 51) (L2 := [_, _, _, _, _, _, _]) dX12_wordFrom_51 (by decide) rfl ?_
        refine tz_goto (pc := 53) (tgt := 92) dX12_wordFrom_53 (by decide) ?_
        refine tz_iinc (pc := 92) (z := 31) (L2 := [_, _, _, _, _, _, _]) dX12_wordFrom_92 rfl (by decide) rfl ?_
        refine tz_goto (pc := 95) (tgt := 11) dX12_wordFrom_95 (by decide) ?_
        have nt : ¬ mtB (J 173) x y [116, 111] := fun q => by
          have q1 := he.2 q.1
          have q2 : y = x + 2 := q.2
          omega
        have nm6 : ¬ mtB (J 173) x y [115, 121, 109, 98, 111, 108] ∧ ¬ mtB (J 173) x y [116, 101, 114, 109] ∧ ¬ mtB (J 173) x y [114, 117, 108, 101] ∧ ¬ mtB (J 173) x y [101, 110, 116, 114, 121] ∧ ¬ mtB (J 173) x y [114, 111, 111, 109] ∧ ¬ mtB (J 173) x y [116, 111] := ⟨nm.1, nm.2.1, nm.2.2.1, nm.2.2.2.1, nm.2.2.2.2, nt⟩
        refine tz_iload (pc := 11) dX12_wordFrom_11 rfl ?_
        refine tz_knL (pc := 13) dX12_wordFrom_13 dX12_wordFrom_16 (by decide +kernel) ?_
        refine tz_icmp_geT (pc := 17) (tgt := 98) (by decide) dX12_wordFrom_17 (by decide) (by decide) (by decide) ?_
        refine tz_iconst (pc := 98) dX12_wordFrom_98 ?_
        exact tz_iret (pc := 99) (z := (-1)) dX12_wordFrom_99 rfl (Nat.le_of_ble_eq_true rfl) (Nat.le_of_ble_eq_true rfl) ⟨Nat.le_refl _, Nat.le_add_right _ _⟩ ⟨_, rfl, (by decide), ⟨rfl, Or.inr ⟨nm6.1, Or.inr ⟨nm6.2.1, Or.inr ⟨nm6.2.2.1, Or.inr ⟨nm6.2.2.2.1, Or.inr ⟨nm6.2.2.2.2.1, Or.inr ⟨nm6.2.2.2.2.2, rfl⟩⟩⟩⟩⟩⟩⟩⟩
      · refine tz_iload_n (pc := 42) dX12_wordFrom_42 rfl rfl ?_
        exact tz_iret (pc := 43) (z := 5) dX12_wordFrom_43 rfl (Nat.le_of_ble_eq_true rfl) (Nat.le_of_ble_eq_true rfl) ⟨Nat.le_refl _, Nat.le_add_right _ _⟩ ⟨_, rfl, (by decide), ⟨rfl, Or.inr ⟨nm.1, Or.inr ⟨nm.2.1, Or.inr ⟨nm.2.2.1, Or.inr ⟨nm.2.2.2.1, Or.inr ⟨nm.2.2.2.2, Or.inl ⟨(show mtB (J 173) x y [116, 111] from ⟨he.1 (by omega), (show y = x + 2 by omega)⟩), rfl⟩⟩⟩⟩⟩⟩⟩⟩
  have s_29 : ∀ e : Int, (e = 0 ∨ e = 1) → (e = 1 ↔ mpB (J 173) x y [116, 111] 1) → (¬ mtB (J 173) x y [115, 121, 109, 98, 111, 108] ∧ ¬ mtB (J 173) x y [116, 101, 114, 109] ∧ ¬ mtB (J 173) x y [114, 117, 108, 101] ∧ ¬ mtB (J 173) x y [101, 110, 116, 114, 121] ∧ ¬ mtB (J 173) x y [114, 111, 111, 109]) → tz_At l G M_X12_wordFrom (tb_rm 1 0 0) none (tb_ZM G 0 0 (zQ n 0 (zqi (fun z J' => J = J' ∧ WD (J 173) x y z))) (zX n 0 zN)) 0 0 n J 11 [some (.ref 164), some (zi x), some (zi y), some (zi 5), some (zi (x + 1)), some (zi e), some (zi 29)] [] := by
    intro e h01 he nm
    refine tz_iload (pc := 11) dX12_wordFrom_11 rfl ?_
    refine tz_knL (pc := 13) dX12_wordFrom_13 dX12_wordFrom_16 (by decide +kernel) ?_
    refine tz_icmp_geF (pc := 17) (tgt := 98) (by decide) dX12_wordFrom_17 (by decide) (by decide) (by decide) ?_
    refine tz_knD (pc := 20) (k9 := 29) (v := 111) (by decide) (by decide) rfl dX12_wordFrom_20 dX12_wordFrom_23 dX12_wordFrom_25 (by decide +kernel) ?_
    refine tz_bipush (pc := 26) dX12_wordFrom_26 (by decide) ?_
    refine tz_icmp_neT (pc := 28) (tgt := 56) (by decide) dX12_wordFrom_28 (by decide) (by decide) (by decide) ?_
    refine tz_iload (pc := 56) dX12_wordFrom_56 rfl ?_
    refine tz_if_eq (pc := 58) (tgt := 86) dX12_wordFrom_58 (by decide) (by omega) (fun h_58 => ?_) (fun h_58 => ?_)
    · refine tz_iconst (pc := 86) dX12_wordFrom_86 ?_
      refine tz_istore (pc := 87) (L2 := [_, _, _, _, _, _, _]) dX12_wordFrom_87 (by decide) rfl ?_
      refine tz_iinc (pc := 89) (z := (x + 1) + 1) (L2 := [_, _, _, _, _, _, _]) dX12_wordFrom_89 rfl (by omega) rfl ?_
      refine tz_iinc (pc := 92) (z := 30) (L2 := [_, _, _, _, _, _, _]) dX12_wordFrom_92 rfl (by decide) rfl ?_
      refine tz_goto (pc := 95) (tgt := 11) dX12_wordFrom_95 (by decide) ?_
      have g9 := s_30 0 (by decide) ⟨fun q => absurd q (by decide), fun q => by have q1 := mp_p q; have q2 := he.2 q1.1; have q3 : x + 1 < y ∧ J 173 (x + 1) = 111 := q1.2; omega⟩ nm
      rw [show x + 2 = x + 1 + 1 by omega] at g9
      exact g9
    · refine tz_iload (pc := 61) dX12_wordFrom_61 rfl ?_
      refine tz_iload_n (pc := 63) dX12_wordFrom_63 rfl rfl ?_
      refine tz_icmp_ge (pc := 64) (tgt := 86) dX12_wordFrom_64 (by decide) (by omega) (by omega) (fun h_64 => ?_) (fun h_64 => ?_)
      · refine tz_iconst (pc := 86) dX12_wordFrom_86 ?_
        refine tz_istore (pc := 87) (L2 := [_, _, _, _, _, _, _]) dX12_wordFrom_87 (by decide) rfl ?_
        refine tz_iinc (pc := 89) (z := (x + 1) + 1) (L2 := [_, _, _, _, _, _, _]) dX12_wordFrom_89 rfl (by omega) rfl ?_
        refine tz_iinc (pc := 92) (z := 30) (L2 := [_, _, _, _, _, _, _]) dX12_wordFrom_92 rfl (by decide) rfl ?_
        refine tz_goto (pc := 95) (tgt := 11) dX12_wordFrom_95 (by decide) ?_
        have g9 := s_30 0 (by decide) ⟨fun q => absurd q (by decide), fun q => by have q1 := mp_p q; have q2 := he.2 q1.1; have q3 : x + 1 < y ∧ J 173 (x + 1) = 111 := q1.2; omega⟩ nm
        rw [show x + 2 = x + 1 + 1 by omega] at g9
        exact g9
      · refine tz_aload_n (pc := 67) dX12_wordFrom_67 rfl rfl ?_
        refine tz_iload (pc := 68) dX12_wordFrom_68 rfl ?_
        refine tz_cV (pc := 70) (m_byteAt hl n _ _ (by omega) (by omega) (by omega)) vl_X12_240 dX12_wordFrom_70 o_164 rfl rfl (Nat.le_of_ble_eq_true rfl) ⟨(Nat.le_of_ble_eq_true rfl), (Nat.le_of_ble_eq_true rfl)⟩ rfl rfl (Nat.le_of_ble_eq_true rfl) (Nat.le_of_ble_eq_true rfl) (fun r9 J_70 hq9 => ?_)
        obtain ⟨z_70, rfl, hz_70, rfl, hb70, hc70⟩ := hq9
        refine tz_knD (pc := 73) (k9 := 29) (v := 111) (by decide) (by decide) rfl dX12_wordFrom_73 dX12_wordFrom_76 dX12_wordFrom_78 (by decide +kernel) ?_
        refine tz_icmp_ne (pc := 79) (tgt := 86) dX12_wordFrom_79 (by decide) (by omega) (by decide) (fun h_79 => ?_) (fun h_79 => ?_)
        · refine tz_iconst (pc := 86) dX12_wordFrom_86 ?_
          refine tz_istore (pc := 87) (L2 := [_, _, _, _, _, _, _]) dX12_wordFrom_87 (by decide) rfl ?_
          refine tz_iinc (pc := 89) (z := (x + 1) + 1) (L2 := [_, _, _, _, _, _, _]) dX12_wordFrom_89 rfl (by omega) rfl ?_
          refine tz_iinc (pc := 92) (z := 30) (L2 := [_, _, _, _, _, _, _]) dX12_wordFrom_92 rfl (by decide) rfl ?_
          refine tz_goto (pc := 95) (tgt := 11) dX12_wordFrom_95 (by decide) ?_
          have g9 := s_30 0 (by decide) ⟨fun q => absurd q (by decide), fun q => by have q1 := mp_p q; have q2 := he.2 q1.1; have q3 : x + 1 < y ∧ J 173 (x + 1) = 111 := q1.2; omega⟩ nm
          rw [show x + 2 = x + 1 + 1 by omega] at g9
          exact g9
        · refine tz_iconst (pc := 82) dX12_wordFrom_82 ?_
          refine tz_goto (pc := 83) (tgt := 87) dX12_wordFrom_83 (by decide) ?_
          refine tz_istore (pc := 87) (L2 := [_, _, _, _, _, _, _]) dX12_wordFrom_87 (by decide) rfl ?_
          refine tz_iinc (pc := 89) (z := (x + 1) + 1) (L2 := [_, _, _, _, _, _, _]) dX12_wordFrom_89 rfl (by omega) rfl ?_
          refine tz_iinc (pc := 92) (z := 30) (L2 := [_, _, _, _, _, _, _]) dX12_wordFrom_92 rfl (by decide) rfl ?_
          refine tz_goto (pc := 95) (tgt := 11) dX12_wordFrom_95 (by decide) ?_
          have g9 := s_30 1 (by decide) ⟨fun _ => mp_s (he.1 (by omega)) (show x + 1 < y by omega) (show J 173 (x + 1) = 111 by omega), fun _ => rfl⟩ nm
          rw [show x + 2 = x + 1 + 1 by omega] at g9
          exact g9
  have s_28 : ∀ e : Int, (e = 0 ∨ e = 1) → (e = 1 ↔ mpB (J 173) x y [116, 111] 0) → (¬ mtB (J 173) x y [115, 121, 109, 98, 111, 108] ∧ ¬ mtB (J 173) x y [116, 101, 114, 109] ∧ ¬ mtB (J 173) x y [114, 117, 108, 101] ∧ ¬ mtB (J 173) x y [101, 110, 116, 114, 121] ∧ ¬ mtB (J 173) x y [114, 111, 111, 109]) → tz_At l G M_X12_wordFrom (tb_rm 1 0 0) none (tb_ZM G 0 0 (zQ n 0 (zqi (fun z J' => J = J' ∧ WD (J 173) x y z))) (zX n 0 zN)) 0 0 n J 11 [some (.ref 164), some (zi x), some (zi y), some (zi 5), some (zi (x + 0)), some (zi e), some (zi 28)] [] := by
    intro e h01 he nm
    refine tz_iload (pc := 11) dX12_wordFrom_11 rfl ?_
    refine tz_knL (pc := 13) dX12_wordFrom_13 dX12_wordFrom_16 (by decide +kernel) ?_
    refine tz_icmp_geF (pc := 17) (tgt := 98) (by decide) dX12_wordFrom_17 (by decide) (by decide) (by decide) ?_
    refine tz_knD (pc := 20) (k9 := 28) (v := 116) (by decide) (by decide) rfl dX12_wordFrom_20 dX12_wordFrom_23 dX12_wordFrom_25 (by decide +kernel) ?_
    refine tz_bipush (pc := 26) dX12_wordFrom_26 (by decide) ?_
    refine tz_icmp_neT (pc := 28) (tgt := 56) (by decide) dX12_wordFrom_28 (by decide) (by decide) (by decide) ?_
    refine tz_iload (pc := 56) dX12_wordFrom_56 rfl ?_
    refine tz_if_eq (pc := 58) (tgt := 86) dX12_wordFrom_58 (by decide) (by omega) (fun h_58 => ?_) (fun h_58 => ?_)
    · refine tz_iconst (pc := 86) dX12_wordFrom_86 ?_
      refine tz_istore (pc := 87) (L2 := [_, _, _, _, _, _, _]) dX12_wordFrom_87 (by decide) rfl ?_
      refine tz_iinc (pc := 89) (z := (x + 0) + 1) (L2 := [_, _, _, _, _, _, _]) dX12_wordFrom_89 rfl (by omega) rfl ?_
      refine tz_iinc (pc := 92) (z := 29) (L2 := [_, _, _, _, _, _, _]) dX12_wordFrom_92 rfl (by decide) rfl ?_
      refine tz_goto (pc := 95) (tgt := 11) dX12_wordFrom_95 (by decide) ?_
      have g9 := s_29 0 (by decide) ⟨fun q => absurd q (by decide), fun q => by have q1 := mp_p q; have q2 := he.2 q1.1; have q3 : x + 0 < y ∧ J 173 (x + 0) = 116 := q1.2; omega⟩ nm
      rw [show x + 1 = x + 0 + 1 by omega] at g9
      exact g9
    · refine tz_iload (pc := 61) dX12_wordFrom_61 rfl ?_
      refine tz_iload_n (pc := 63) dX12_wordFrom_63 rfl rfl ?_
      refine tz_icmp_ge (pc := 64) (tgt := 86) dX12_wordFrom_64 (by decide) (by omega) (by omega) (fun h_64 => ?_) (fun h_64 => ?_)
      · refine tz_iconst (pc := 86) dX12_wordFrom_86 ?_
        refine tz_istore (pc := 87) (L2 := [_, _, _, _, _, _, _]) dX12_wordFrom_87 (by decide) rfl ?_
        refine tz_iinc (pc := 89) (z := (x + 0) + 1) (L2 := [_, _, _, _, _, _, _]) dX12_wordFrom_89 rfl (by omega) rfl ?_
        refine tz_iinc (pc := 92) (z := 29) (L2 := [_, _, _, _, _, _, _]) dX12_wordFrom_92 rfl (by decide) rfl ?_
        refine tz_goto (pc := 95) (tgt := 11) dX12_wordFrom_95 (by decide) ?_
        have g9 := s_29 0 (by decide) ⟨fun q => absurd q (by decide), fun q => by have q1 := mp_p q; have q2 := he.2 q1.1; have q3 : x + 0 < y ∧ J 173 (x + 0) = 116 := q1.2; omega⟩ nm
        rw [show x + 1 = x + 0 + 1 by omega] at g9
        exact g9
      · refine tz_aload_n (pc := 67) dX12_wordFrom_67 rfl rfl ?_
        refine tz_iload (pc := 68) dX12_wordFrom_68 rfl ?_
        refine tz_cV (pc := 70) (m_byteAt hl n _ _ (by omega) (by omega) (by omega)) vl_X12_240 dX12_wordFrom_70 o_164 rfl rfl (Nat.le_of_ble_eq_true rfl) ⟨(Nat.le_of_ble_eq_true rfl), (Nat.le_of_ble_eq_true rfl)⟩ rfl rfl (Nat.le_of_ble_eq_true rfl) (Nat.le_of_ble_eq_true rfl) (fun r9 J_70 hq9 => ?_)
        obtain ⟨z_70, rfl, hz_70, rfl, hb70, hc70⟩ := hq9
        refine tz_knD (pc := 73) (k9 := 28) (v := 116) (by decide) (by decide) rfl dX12_wordFrom_73 dX12_wordFrom_76 dX12_wordFrom_78 (by decide +kernel) ?_
        refine tz_icmp_ne (pc := 79) (tgt := 86) dX12_wordFrom_79 (by decide) (by omega) (by decide) (fun h_79 => ?_) (fun h_79 => ?_)
        · refine tz_iconst (pc := 86) dX12_wordFrom_86 ?_
          refine tz_istore (pc := 87) (L2 := [_, _, _, _, _, _, _]) dX12_wordFrom_87 (by decide) rfl ?_
          refine tz_iinc (pc := 89) (z := (x + 0) + 1) (L2 := [_, _, _, _, _, _, _]) dX12_wordFrom_89 rfl (by omega) rfl ?_
          refine tz_iinc (pc := 92) (z := 29) (L2 := [_, _, _, _, _, _, _]) dX12_wordFrom_92 rfl (by decide) rfl ?_
          refine tz_goto (pc := 95) (tgt := 11) dX12_wordFrom_95 (by decide) ?_
          have g9 := s_29 0 (by decide) ⟨fun q => absurd q (by decide), fun q => by have q1 := mp_p q; have q2 := he.2 q1.1; have q3 : x + 0 < y ∧ J 173 (x + 0) = 116 := q1.2; omega⟩ nm
          rw [show x + 1 = x + 0 + 1 by omega] at g9
          exact g9
        · refine tz_iconst (pc := 82) dX12_wordFrom_82 ?_
          refine tz_goto (pc := 83) (tgt := 87) dX12_wordFrom_83 (by decide) ?_
          refine tz_istore (pc := 87) (L2 := [_, _, _, _, _, _, _]) dX12_wordFrom_87 (by decide) rfl ?_
          refine tz_iinc (pc := 89) (z := (x + 0) + 1) (L2 := [_, _, _, _, _, _, _]) dX12_wordFrom_89 rfl (by omega) rfl ?_
          refine tz_iinc (pc := 92) (z := 29) (L2 := [_, _, _, _, _, _, _]) dX12_wordFrom_92 rfl (by decide) rfl ?_
          refine tz_goto (pc := 95) (tgt := 11) dX12_wordFrom_95 (by decide) ?_
          have g9 := s_29 1 (by decide) ⟨fun _ => mp_s (he.1 (by omega)) (show x + 0 < y by omega) (show J 173 (x + 0) = 116 by omega), fun _ => rfl⟩ nm
          rw [show x + 1 = x + 0 + 1 by omega] at g9
          exact g9
  have s_27 : ∀ e : Int, (e = 0 ∨ e = 1) → (e = 1 ↔ mpB (J 173) x y [114, 111, 111, 109] 4) → (¬ mtB (J 173) x y [115, 121, 109, 98, 111, 108] ∧ ¬ mtB (J 173) x y [116, 101, 114, 109] ∧ ¬ mtB (J 173) x y [114, 117, 108, 101] ∧ ¬ mtB (J 173) x y [101, 110, 116, 114, 121]) → tz_At l G M_X12_wordFrom (tb_rm 1 0 0) none (tb_ZM G 0 0 (zQ n 0 (zqi (fun z J' => J = J' ∧ WD (J 173) x y z))) (zX n 0 zN)) 0 0 n J 11 [some (.ref 164), some (zi x), some (zi y), some (zi 4), some (zi (x + 4)), some (zi e), some (zi 27)] [] := by
    intro e h01 he nm
    refine tz_iload (pc := 11) dX12_wordFrom_11 rfl ?_
    refine tz_knL (pc := 13) dX12_wordFrom_13 dX12_wordFrom_16 (by decide +kernel) ?_
    refine tz_icmp_geF (pc := 17) (tgt := 98) (by decide) dX12_wordFrom_17 (by decide) (by decide) (by decide) ?_
    refine tz_knD (pc := 20) (k9 := 27) (v := 32) (by decide) (by decide) rfl dX12_wordFrom_20 dX12_wordFrom_23 dX12_wordFrom_25 (by decide +kernel) ?_
    refine tz_bipush (pc := 26) dX12_wordFrom_26 (by decide) ?_
    refine tz_icmp_neF (pc := 28) (tgt := 56) (by decide) dX12_wordFrom_28 (by decide) (by decide) (by decide) ?_
    refine tz_iload (pc := 31) dX12_wordFrom_31 rfl ?_
    refine tz_if_eq (pc := 33) (tgt := 44) dX12_wordFrom_33 (by decide) (by omega) (fun h_33 => ?_) (fun h_33 => ?_)
    · refine tz_iinc (pc := 44) (z := 5) (L2 := [_, _, _, _, _, _, _]) dX12_wordFrom_44 rfl (by decide) rfl ?_
      refine tz_iload_n (pc := 47) dX12_wordFrom_47 rfl rfl ?_
      refine tz_istore (pc := 48) (L2 := [_, _, _, _, _, _, _]) dX12_wordFrom_48 (by decide) rfl ?_
      refine tz_iconst (pc := 50) dX12_wordFrom_50 ?_
      refine tz_istore (pc := 51) (L2 := [_, _, _, _, _, _, _]) dX12_wordFrom_51 (by decide) rfl ?_
      refine tz_goto (pc := 53) (tgt := 92) dX12_wordFrom_53 (by decide) ?_
      refine tz_iinc (pc := 92) (z := 28) (L2 := [_, _, _, _, _, _, _]) dX12_wordFrom_92 rfl (by decide) rfl ?_
      refine tz_goto (pc := 95) (tgt := 11) dX12_wordFrom_95 (by decide) ?_
      have nt : ¬ mtB (J 173) x y [114, 111, 111, 109] := fun q => by
        have q1 := he.2 q.1
        have q2 : y = x + 4 := q.2
        omega
      have g9 := s_28 1 (Or.inr rfl) ⟨fun _ => mp_0, fun _ => rfl⟩ (⟨nm.1, nm.2.1, nm.2.2.1, nm.2.2.2, nt⟩)
      rw [show x + 0 = x from Int.add_zero x] at g9
      exact g9
    · refine tz_iload (pc := 36) dX12_wordFrom_36 rfl ?_
      refine tz_iload_n (pc := 38) dX12_wordFrom_38 rfl rfl ?_
      refine tz_icmp_ne (pc := 39) (tgt := 44) dX12_wordFrom_39 (by decide) (by omega) (by omega) (fun h_39 => ?_) (fun h_39 => ?_)
      · refine tz_iinc (pc := 44) (z := 5) (L2 := [_, _, _, _, _, _, _]) dX12_wordFrom_44 rfl (by decide) rfl ?_
        refine tz_iload_n (pc := 47) dX12_wordFrom_47 rfl rfl ?_
        refine tz_istore (pc := 48) (L2 := [_, _, _, _, _, _, _]) dX12_wordFrom_48 (by decide) rfl ?_
        refine tz_iconst (pc := 50) dX12_wordFrom_50 ?_
        refine tz_istore (pc := 51) (L2 := [_, _, _, _, _, _, _]) dX12_wordFrom_51 (by decide) rfl ?_
        refine tz_goto (pc := 53) (tgt := 92) dX12_wordFrom_53 (by decide) ?_
        refine tz_iinc (pc := 92) (z := 28) (L2 := [_, _, _, _, _, _, _]) dX12_wordFrom_92 rfl (by decide) rfl ?_
        refine tz_goto (pc := 95) (tgt := 11) dX12_wordFrom_95 (by decide) ?_
        have nt : ¬ mtB (J 173) x y [114, 111, 111, 109] := fun q => by
          have q1 := he.2 q.1
          have q2 : y = x + 4 := q.2
          omega
        have g9 := s_28 1 (Or.inr rfl) ⟨fun _ => mp_0, fun _ => rfl⟩ (⟨nm.1, nm.2.1, nm.2.2.1, nm.2.2.2, nt⟩)
        rw [show x + 0 = x from Int.add_zero x] at g9
        exact g9
      · refine tz_iload_n (pc := 42) dX12_wordFrom_42 rfl rfl ?_
        exact tz_iret (pc := 43) (z := 4) dX12_wordFrom_43 rfl (Nat.le_of_ble_eq_true rfl) (Nat.le_of_ble_eq_true rfl) ⟨Nat.le_refl _, Nat.le_add_right _ _⟩ ⟨_, rfl, (by decide), ⟨rfl, Or.inr ⟨nm.1, Or.inr ⟨nm.2.1, Or.inr ⟨nm.2.2.1, Or.inr ⟨nm.2.2.2, Or.inl ⟨(show mtB (J 173) x y [114, 111, 111, 109] from ⟨he.1 (by omega), (show y = x + 4 by omega)⟩), rfl⟩⟩⟩⟩⟩⟩⟩
  have s_26 : ∀ e : Int, (e = 0 ∨ e = 1) → (e = 1 ↔ mpB (J 173) x y [114, 111, 111, 109] 3) → (¬ mtB (J 173) x y [115, 121, 109, 98, 111, 108] ∧ ¬ mtB (J 173) x y [116, 101, 114, 109] ∧ ¬ mtB (J 173) x y [114, 117, 108, 101] ∧ ¬ mtB (J 173) x y [101, 110, 116, 114, 121]) → tz_At l G M_X12_wordFrom (tb_rm 1 0 0) none (tb_ZM G 0 0 (zQ n 0 (zqi (fun z J' => J = J' ∧ WD (J 173) x y z))) (zX n 0 zN)) 0 0 n J 11 [some (.ref 164), some (zi x), some (zi y), some (zi 4), some (zi (x + 3)), some (zi e), some (zi 26)] [] := by
    intro e h01 he nm
    refine tz_iload (pc := 11) dX12_wordFrom_11 rfl ?_
    refine tz_knL (pc := 13) dX12_wordFrom_13 dX12_wordFrom_16 (by decide +kernel) ?_
    refine tz_icmp_geF (pc := 17) (tgt := 98) (by decide) dX12_wordFrom_17 (by decide) (by decide) (by decide) ?_
    refine tz_knD (pc := 20) (k9 := 26) (v := 109) (by decide) (by decide) rfl dX12_wordFrom_20 dX12_wordFrom_23 dX12_wordFrom_25 (by decide +kernel) ?_
    refine tz_bipush (pc := 26) dX12_wordFrom_26 (by decide) ?_
    refine tz_icmp_neT (pc := 28) (tgt := 56) (by decide) dX12_wordFrom_28 (by decide) (by decide) (by decide) ?_
    refine tz_iload (pc := 56) dX12_wordFrom_56 rfl ?_
    refine tz_if_eq (pc := 58) (tgt := 86) dX12_wordFrom_58 (by decide) (by omega) (fun h_58 => ?_) (fun h_58 => ?_)
    · refine tz_iconst (pc := 86) dX12_wordFrom_86 ?_
      refine tz_istore (pc := 87) (L2 := [_, _, _, _, _, _, _]) dX12_wordFrom_87 (by decide) rfl ?_
      refine tz_iinc (pc := 89) (z := (x + 3) + 1) (L2 := [_, _, _, _, _, _, _]) dX12_wordFrom_89 rfl (by omega) rfl ?_
      refine tz_iinc (pc := 92) (z := 27) (L2 := [_, _, _, _, _, _, _]) dX12_wordFrom_92 rfl (by decide) rfl ?_
      refine tz_goto (pc := 95) (tgt := 11) dX12_wordFrom_95 (by decide) ?_
      have g9 := s_27 0 (by decide) ⟨fun q => absurd q (by decide), fun q => by have q1 := mp_p q; have q2 := he.2 q1.1; have q3 : x + 3 < y ∧ J 173 (x + 3) = 109 := q1.2; omega⟩ nm
      rw [show x + 4 = x + 3 + 1 by omega] at g9
      exact g9
    · refine tz_iload (pc := 61) dX12_wordFrom_61 rfl ?_
      refine tz_iload_n (pc := 63) dX12_wordFrom_63 rfl rfl ?_
      refine tz_icmp_ge (pc := 64) (tgt := 86) dX12_wordFrom_64 (by decide) (by omega) (by omega) (fun h_64 => ?_) (fun h_64 => ?_)
      · refine tz_iconst (pc := 86) dX12_wordFrom_86 ?_
        refine tz_istore (pc := 87) (L2 := [_, _, _, _, _, _, _]) dX12_wordFrom_87 (by decide) rfl ?_
        refine tz_iinc (pc := 89) (z := (x + 3) + 1) (L2 := [_, _, _, _, _, _, _]) dX12_wordFrom_89 rfl (by omega) rfl ?_
        refine tz_iinc (pc := 92) (z := 27) (L2 := [_, _, _, _, _, _, _]) dX12_wordFrom_92 rfl (by decide) rfl ?_
        refine tz_goto (pc := 95) (tgt := 11) dX12_wordFrom_95 (by decide) ?_
        have g9 := s_27 0 (by decide) ⟨fun q => absurd q (by decide), fun q => by have q1 := mp_p q; have q2 := he.2 q1.1; have q3 : x + 3 < y ∧ J 173 (x + 3) = 109 := q1.2; omega⟩ nm
        rw [show x + 4 = x + 3 + 1 by omega] at g9
        exact g9
      · refine tz_aload_n (pc := 67) dX12_wordFrom_67 rfl rfl ?_
        refine tz_iload (pc := 68) dX12_wordFrom_68 rfl ?_
        refine tz_cV (pc := 70) (m_byteAt hl n _ _ (by omega) (by omega) (by omega)) vl_X12_240 dX12_wordFrom_70 o_164 rfl rfl (Nat.le_of_ble_eq_true rfl) ⟨(Nat.le_of_ble_eq_true rfl), (Nat.le_of_ble_eq_true rfl)⟩ rfl rfl (Nat.le_of_ble_eq_true rfl) (Nat.le_of_ble_eq_true rfl) (fun r9 J_70 hq9 => ?_)
        obtain ⟨z_70, rfl, hz_70, rfl, hb70, hc70⟩ := hq9
        refine tz_knD (pc := 73) (k9 := 26) (v := 109) (by decide) (by decide) rfl dX12_wordFrom_73 dX12_wordFrom_76 dX12_wordFrom_78 (by decide +kernel) ?_
        refine tz_icmp_ne (pc := 79) (tgt := 86) dX12_wordFrom_79 (by decide) (by omega) (by decide) (fun h_79 => ?_) (fun h_79 => ?_)
        · refine tz_iconst (pc := 86) dX12_wordFrom_86 ?_
          refine tz_istore (pc := 87) (L2 := [_, _, _, _, _, _, _]) dX12_wordFrom_87 (by decide) rfl ?_
          refine tz_iinc (pc := 89) (z := (x + 3) + 1) (L2 := [_, _, _, _, _, _, _]) dX12_wordFrom_89 rfl (by omega) rfl ?_
          refine tz_iinc (pc := 92) (z := 27) (L2 := [_, _, _, _, _, _, _]) dX12_wordFrom_92 rfl (by decide) rfl ?_
          refine tz_goto (pc := 95) (tgt := 11) dX12_wordFrom_95 (by decide) ?_
          have g9 := s_27 0 (by decide) ⟨fun q => absurd q (by decide), fun q => by have q1 := mp_p q; have q2 := he.2 q1.1; have q3 : x + 3 < y ∧ J 173 (x + 3) = 109 := q1.2; omega⟩ nm
          rw [show x + 4 = x + 3 + 1 by omega] at g9
          exact g9
        · refine tz_iconst (pc := 82) dX12_wordFrom_82 ?_
          refine tz_goto (pc := 83) (tgt := 87) dX12_wordFrom_83 (by decide) ?_
          refine tz_istore (pc := 87) (L2 := [_, _, _, _, _, _, _]) dX12_wordFrom_87 (by decide) rfl ?_
          refine tz_iinc (pc := 89) (z := (x + 3) + 1) (L2 := [_, _, _, _, _, _, _]) dX12_wordFrom_89 rfl (by omega) rfl ?_
          refine tz_iinc (pc := 92) (z := 27) (L2 := [_, _, _, _, _, _, _]) dX12_wordFrom_92 rfl (by decide) rfl ?_
          refine tz_goto (pc := 95) (tgt := 11) dX12_wordFrom_95 (by decide) ?_
          have g9 := s_27 1 (by decide) ⟨fun _ => mp_s (he.1 (by omega)) (show x + 3 < y by omega) (show J 173 (x + 3) = 109 by omega), fun _ => rfl⟩ nm
          rw [show x + 4 = x + 3 + 1 by omega] at g9
          exact g9
  have s_25 : ∀ e : Int, (e = 0 ∨ e = 1) → (e = 1 ↔ mpB (J 173) x y [114, 111, 111, 109] 2) → (¬ mtB (J 173) x y [115, 121, 109, 98, 111, 108] ∧ ¬ mtB (J 173) x y [116, 101, 114, 109] ∧ ¬ mtB (J 173) x y [114, 117, 108, 101] ∧ ¬ mtB (J 173) x y [101, 110, 116, 114, 121]) → tz_At l G M_X12_wordFrom (tb_rm 1 0 0) none (tb_ZM G 0 0 (zQ n 0 (zqi (fun z J' => J = J' ∧ WD (J 173) x y z))) (zX n 0 zN)) 0 0 n J 11 [some (.ref 164), some (zi x), some (zi y), some (zi 4), some (zi (x + 2)), some (zi e), some (zi 25)] [] := by
    intro e h01 he nm
    refine tz_iload (pc := 11) dX12_wordFrom_11 rfl ?_
    refine tz_knL (pc := 13) dX12_wordFrom_13 dX12_wordFrom_16 (by decide +kernel) ?_
    refine tz_icmp_geF (pc := 17) (tgt := 98) (by decide) dX12_wordFrom_17 (by decide) (by decide) (by decide) ?_
    refine tz_knD (pc := 20) (k9 := 25) (v := 111) (by decide) (by decide) rfl dX12_wordFrom_20 dX12_wordFrom_23 dX12_wordFrom_25 (by decide +kernel) ?_
    refine tz_bipush (pc := 26) dX12_wordFrom_26 (by decide) ?_
    refine tz_icmp_neT (pc := 28) (tgt := 56) (by decide) dX12_wordFrom_28 (by decide) (by decide) (by decide) ?_
    refine tz_iload (pc := 56) dX12_wordFrom_56 rfl ?_
    refine tz_if_eq (pc := 58) (tgt := 86) dX12_wordFrom_58 (by decide) (by omega) (fun h_58 => ?_) (fun h_58 => ?_)
    · refine tz_iconst (pc := 86) dX12_wordFrom_86 ?_
      refine tz_istore (pc := 87) (L2 := [_, _, _, _, _, _, _]) dX12_wordFrom_87 (by decide) rfl ?_
      refine tz_iinc (pc := 89) (z := (x + 2) + 1) (L2 := [_, _, _, _, _, _, _]) dX12_wordFrom_89 rfl (by omega) rfl ?_
      refine tz_iinc (pc := 92) (z := 26) (L2 := [_, _, _, _, _, _, _]) dX12_wordFrom_92 rfl (by decide) rfl ?_
      refine tz_goto (pc := 95) (tgt := 11) dX12_wordFrom_95 (by decide) ?_
      have g9 := s_26 0 (by decide) ⟨fun q => absurd q (by decide), fun q => by have q1 := mp_p q; have q2 := he.2 q1.1; have q3 : x + 2 < y ∧ J 173 (x + 2) = 111 := q1.2; omega⟩ nm
      rw [show x + 3 = x + 2 + 1 by omega] at g9
      exact g9
    · refine tz_iload (pc := 61) dX12_wordFrom_61 rfl ?_
      refine tz_iload_n (pc := 63) dX12_wordFrom_63 rfl rfl ?_
      refine tz_icmp_ge (pc := 64) (tgt := 86) dX12_wordFrom_64 (by decide) (by omega) (by omega) (fun h_64 => ?_) (fun h_64 => ?_)
      · refine tz_iconst (pc := 86) dX12_wordFrom_86 ?_
        refine tz_istore (pc := 87) (L2 := [_, _, _, _, _, _, _]) dX12_wordFrom_87 (by decide) rfl ?_
        refine tz_iinc (pc := 89) (z := (x + 2) + 1) (L2 := [_, _, _, _, _, _, _]) dX12_wordFrom_89 rfl (by omega) rfl ?_
        refine tz_iinc (pc := 92) (z := 26) (L2 := [_, _, _, _, _, _, _]) dX12_wordFrom_92 rfl (by decide) rfl ?_
        refine tz_goto (pc := 95) (tgt := 11) dX12_wordFrom_95 (by decide) ?_
        have g9 := s_26 0 (by decide) ⟨fun q => absurd q (by decide), fun q => by have q1 := mp_p q; have q2 := he.2 q1.1; have q3 : x + 2 < y ∧ J 173 (x + 2) = 111 := q1.2; omega⟩ nm
        rw [show x + 3 = x + 2 + 1 by omega] at g9
        exact g9
      · refine tz_aload_n (pc := 67) dX12_wordFrom_67 rfl rfl ?_
        refine tz_iload (pc := 68) dX12_wordFrom_68 rfl ?_
        refine tz_cV (pc := 70) (m_byteAt hl n _ _ (by omega) (by omega) (by omega)) vl_X12_240 dX12_wordFrom_70 o_164 rfl rfl (Nat.le_of_ble_eq_true rfl) ⟨(Nat.le_of_ble_eq_true rfl), (Nat.le_of_ble_eq_true rfl)⟩ rfl rfl (Nat.le_of_ble_eq_true rfl) (Nat.le_of_ble_eq_true rfl) (fun r9 J_70 hq9 => ?_)
        obtain ⟨z_70, rfl, hz_70, rfl, hb70, hc70⟩ := hq9
        refine tz_knD (pc := 73) (k9 := 25) (v := 111) (by decide) (by decide) rfl dX12_wordFrom_73 dX12_wordFrom_76 dX12_wordFrom_78 (by decide +kernel) ?_
        refine tz_icmp_ne (pc := 79) (tgt := 86) dX12_wordFrom_79 (by decide) (by omega) (by decide) (fun h_79 => ?_) (fun h_79 => ?_)
        · refine tz_iconst (pc := 86) dX12_wordFrom_86 ?_
          refine tz_istore (pc := 87) (L2 := [_, _, _, _, _, _, _]) dX12_wordFrom_87 (by decide) rfl ?_
          refine tz_iinc (pc := 89) (z := (x + 2) + 1) (L2 := [_, _, _, _, _, _, _]) dX12_wordFrom_89 rfl (by omega) rfl ?_
          refine tz_iinc (pc := 92) (z := 26) (L2 := [_, _, _, _, _, _, _]) dX12_wordFrom_92 rfl (by decide) rfl ?_
          refine tz_goto (pc := 95) (tgt := 11) dX12_wordFrom_95 (by decide) ?_
          have g9 := s_26 0 (by decide) ⟨fun q => absurd q (by decide), fun q => by have q1 := mp_p q; have q2 := he.2 q1.1; have q3 : x + 2 < y ∧ J 173 (x + 2) = 111 := q1.2; omega⟩ nm
          rw [show x + 3 = x + 2 + 1 by omega] at g9
          exact g9
        · refine tz_iconst (pc := 82) dX12_wordFrom_82 ?_
          refine tz_goto (pc := 83) (tgt := 87) dX12_wordFrom_83 (by decide) ?_
          refine tz_istore (pc := 87) (L2 := [_, _, _, _, _, _, _]) dX12_wordFrom_87 (by decide) rfl ?_
          refine tz_iinc (pc := 89) (z := (x + 2) + 1) (L2 := [_, _, _, _, _, _, _]) dX12_wordFrom_89 rfl (by omega) rfl ?_
          refine tz_iinc (pc := 92) (z := 26) (L2 := [_, _, _, _, _, _, _]) dX12_wordFrom_92 rfl (by decide) rfl ?_
          refine tz_goto (pc := 95) (tgt := 11) dX12_wordFrom_95 (by decide) ?_
          have g9 := s_26 1 (by decide) ⟨fun _ => mp_s (he.1 (by omega)) (show x + 2 < y by omega) (show J 173 (x + 2) = 111 by omega), fun _ => rfl⟩ nm
          rw [show x + 3 = x + 2 + 1 by omega] at g9
          exact g9
  have s_24 : ∀ e : Int, (e = 0 ∨ e = 1) → (e = 1 ↔ mpB (J 173) x y [114, 111, 111, 109] 1) → (¬ mtB (J 173) x y [115, 121, 109, 98, 111, 108] ∧ ¬ mtB (J 173) x y [116, 101, 114, 109] ∧ ¬ mtB (J 173) x y [114, 117, 108, 101] ∧ ¬ mtB (J 173) x y [101, 110, 116, 114, 121]) → tz_At l G M_X12_wordFrom (tb_rm 1 0 0) none (tb_ZM G 0 0 (zQ n 0 (zqi (fun z J' => J = J' ∧ WD (J 173) x y z))) (zX n 0 zN)) 0 0 n J 11 [some (.ref 164), some (zi x), some (zi y), some (zi 4), some (zi (x + 1)), some (zi e), some (zi 24)] [] := by
    intro e h01 he nm
    refine tz_iload (pc := 11) dX12_wordFrom_11 rfl ?_
    refine tz_knL (pc := 13) dX12_wordFrom_13 dX12_wordFrom_16 (by decide +kernel) ?_
    refine tz_icmp_geF (pc := 17) (tgt := 98) (by decide) dX12_wordFrom_17 (by decide) (by decide) (by decide) ?_
    refine tz_knD (pc := 20) (k9 := 24) (v := 111) (by decide) (by decide) rfl dX12_wordFrom_20 dX12_wordFrom_23 dX12_wordFrom_25 (by decide +kernel) ?_
    refine tz_bipush (pc := 26) dX12_wordFrom_26 (by decide) ?_
    refine tz_icmp_neT (pc := 28) (tgt := 56) (by decide) dX12_wordFrom_28 (by decide) (by decide) (by decide) ?_
    refine tz_iload (pc := 56) dX12_wordFrom_56 rfl ?_
    refine tz_if_eq (pc := 58) (tgt := 86) dX12_wordFrom_58 (by decide) (by omega) (fun h_58 => ?_) (fun h_58 => ?_)
    · refine tz_iconst (pc := 86) dX12_wordFrom_86 ?_
      refine tz_istore (pc := 87) (L2 := [_, _, _, _, _, _, _]) dX12_wordFrom_87 (by decide) rfl ?_
      refine tz_iinc (pc := 89) (z := (x + 1) + 1) (L2 := [_, _, _, _, _, _, _]) dX12_wordFrom_89 rfl (by omega) rfl ?_
      refine tz_iinc (pc := 92) (z := 25) (L2 := [_, _, _, _, _, _, _]) dX12_wordFrom_92 rfl (by decide) rfl ?_
      refine tz_goto (pc := 95) (tgt := 11) dX12_wordFrom_95 (by decide) ?_
      have g9 := s_25 0 (by decide) ⟨fun q => absurd q (by decide), fun q => by have q1 := mp_p q; have q2 := he.2 q1.1; have q3 : x + 1 < y ∧ J 173 (x + 1) = 111 := q1.2; omega⟩ nm
      rw [show x + 2 = x + 1 + 1 by omega] at g9
      exact g9
    · refine tz_iload (pc := 61) dX12_wordFrom_61 rfl ?_
      refine tz_iload_n (pc := 63) dX12_wordFrom_63 rfl rfl ?_
      refine tz_icmp_ge (pc := 64) (tgt := 86) dX12_wordFrom_64 (by decide) (by omega) (by omega) (fun h_64 => ?_) (fun h_64 => ?_)
      · refine tz_iconst (pc := 86) dX12_wordFrom_86 ?_
        refine tz_istore (pc := 87) (L2 := [_, _, _, _, _, _, _]) dX12_wordFrom_87 (by decide) rfl ?_
        refine tz_iinc (pc := 89) (z := (x + 1) + 1) (L2 := [_, _, _, _, _, _, _]) dX12_wordFrom_89 rfl (by omega) rfl ?_
        refine tz_iinc (pc := 92) (z := 25) (L2 := [_, _, _, _, _, _, _]) dX12_wordFrom_92 rfl (by decide) rfl ?_
        refine tz_goto (pc := 95) (tgt := 11) dX12_wordFrom_95 (by decide) ?_
        have g9 := s_25 0 (by decide) ⟨fun q => absurd q (by decide), fun q => by have q1 := mp_p q; have q2 := he.2 q1.1; have q3 : x + 1 < y ∧ J 173 (x + 1) = 111 := q1.2; omega⟩ nm
        rw [show x + 2 = x + 1 + 1 by omega] at g9
        exact g9
      · refine tz_aload_n (pc := 67) dX12_wordFrom_67 rfl rfl ?_
        refine tz_iload (pc := 68) dX12_wordFrom_68 rfl ?_
        refine tz_cV (pc := 70) (m_byteAt hl n _ _ (by omega) (by omega) (by omega)) vl_X12_240 dX12_wordFrom_70 o_164 rfl rfl (Nat.le_of_ble_eq_true rfl) ⟨(Nat.le_of_ble_eq_true rfl), (Nat.le_of_ble_eq_true rfl)⟩ rfl rfl (Nat.le_of_ble_eq_true rfl) (Nat.le_of_ble_eq_true rfl) (fun r9 J_70 hq9 => ?_)
        obtain ⟨z_70, rfl, hz_70, rfl, hb70, hc70⟩ := hq9
        refine tz_knD (pc := 73) (k9 := 24) (v := 111) (by decide) (by decide) rfl dX12_wordFrom_73 dX12_wordFrom_76 dX12_wordFrom_78 (by decide +kernel) ?_
        refine tz_icmp_ne (pc := 79) (tgt := 86) dX12_wordFrom_79 (by decide) (by omega) (by decide) (fun h_79 => ?_) (fun h_79 => ?_)
        · refine tz_iconst (pc := 86) dX12_wordFrom_86 ?_
          refine tz_istore (pc := 87) (L2 := [_, _, _, _, _, _, _]) dX12_wordFrom_87 (by decide) rfl ?_
          refine tz_iinc (pc := 89) (z := (x + 1) + 1) (L2 := [_, _, _, _, _, _, _]) dX12_wordFrom_89 rfl (by omega) rfl ?_
          refine tz_iinc (pc := 92) (z := 25) (L2 := [_, _, _, _, _, _, _]) dX12_wordFrom_92 rfl (by decide) rfl ?_
          refine tz_goto (pc := 95) (tgt := 11) dX12_wordFrom_95 (by decide) ?_
          have g9 := s_25 0 (by decide) ⟨fun q => absurd q (by decide), fun q => by have q1 := mp_p q; have q2 := he.2 q1.1; have q3 : x + 1 < y ∧ J 173 (x + 1) = 111 := q1.2; omega⟩ nm
          rw [show x + 2 = x + 1 + 1 by omega] at g9
          exact g9
        · refine tz_iconst (pc := 82) dX12_wordFrom_82 ?_
          refine tz_goto (pc := 83) (tgt := 87) dX12_wordFrom_83 (by decide) ?_
          refine tz_istore (pc := 87) (L2 := [_, _, _, _, _, _, _]) dX12_wordFrom_87 (by decide) rfl ?_
          refine tz_iinc (pc := 89) (z := (x + 1) + 1) (L2 := [_, _, _, _, _, _, _]) dX12_wordFrom_89 rfl (by omega) rfl ?_
          refine tz_iinc (pc := 92) (z := 25) (L2 := [_, _, _, _, _, _, _]) dX12_wordFrom_92 rfl (by decide) rfl ?_
          refine tz_goto (pc := 95) (tgt := 11) dX12_wordFrom_95 (by decide) ?_
          have g9 := s_25 1 (by decide) ⟨fun _ => mp_s (he.1 (by omega)) (show x + 1 < y by omega) (show J 173 (x + 1) = 111 by omega), fun _ => rfl⟩ nm
          rw [show x + 2 = x + 1 + 1 by omega] at g9
          exact g9
  have s_23 : ∀ e : Int, (e = 0 ∨ e = 1) → (e = 1 ↔ mpB (J 173) x y [114, 111, 111, 109] 0) → (¬ mtB (J 173) x y [115, 121, 109, 98, 111, 108] ∧ ¬ mtB (J 173) x y [116, 101, 114, 109] ∧ ¬ mtB (J 173) x y [114, 117, 108, 101] ∧ ¬ mtB (J 173) x y [101, 110, 116, 114, 121]) → tz_At l G M_X12_wordFrom (tb_rm 1 0 0) none (tb_ZM G 0 0 (zQ n 0 (zqi (fun z J' => J = J' ∧ WD (J 173) x y z))) (zX n 0 zN)) 0 0 n J 11 [some (.ref 164), some (zi x), some (zi y), some (zi 4), some (zi (x + 0)), some (zi e), some (zi 23)] [] := by
    intro e h01 he nm
    refine tz_iload (pc := 11) dX12_wordFrom_11 rfl ?_
    refine tz_knL (pc := 13) dX12_wordFrom_13 dX12_wordFrom_16 (by decide +kernel) ?_
    refine tz_icmp_geF (pc := 17) (tgt := 98) (by decide) dX12_wordFrom_17 (by decide) (by decide) (by decide) ?_
    refine tz_knD (pc := 20) (k9 := 23) (v := 114) (by decide) (by decide) rfl dX12_wordFrom_20 dX12_wordFrom_23 dX12_wordFrom_25 (by decide +kernel) ?_
    refine tz_bipush (pc := 26) dX12_wordFrom_26 (by decide) ?_
    refine tz_icmp_neT (pc := 28) (tgt := 56) (by decide) dX12_wordFrom_28 (by decide) (by decide) (by decide) ?_
    refine tz_iload (pc := 56) dX12_wordFrom_56 rfl ?_
    refine tz_if_eq (pc := 58) (tgt := 86) dX12_wordFrom_58 (by decide) (by omega) (fun h_58 => ?_) (fun h_58 => ?_)
    · refine tz_iconst (pc := 86) dX12_wordFrom_86 ?_
      refine tz_istore (pc := 87) (L2 := [_, _, _, _, _, _, _]) dX12_wordFrom_87 (by decide) rfl ?_
      refine tz_iinc (pc := 89) (z := (x + 0) + 1) (L2 := [_, _, _, _, _, _, _]) dX12_wordFrom_89 rfl (by omega) rfl ?_
      refine tz_iinc (pc := 92) (z := 24) (L2 := [_, _, _, _, _, _, _]) dX12_wordFrom_92 rfl (by decide) rfl ?_
      refine tz_goto (pc := 95) (tgt := 11) dX12_wordFrom_95 (by decide) ?_
      have g9 := s_24 0 (by decide) ⟨fun q => absurd q (by decide), fun q => by have q1 := mp_p q; have q2 := he.2 q1.1; have q3 : x + 0 < y ∧ J 173 (x + 0) = 114 := q1.2; omega⟩ nm
      rw [show x + 1 = x + 0 + 1 by omega] at g9
      exact g9
    · refine tz_iload (pc := 61) dX12_wordFrom_61 rfl ?_
      refine tz_iload_n (pc := 63) dX12_wordFrom_63 rfl rfl ?_
      refine tz_icmp_ge (pc := 64) (tgt := 86) dX12_wordFrom_64 (by decide) (by omega) (by omega) (fun h_64 => ?_) (fun h_64 => ?_)
      · refine tz_iconst (pc := 86) dX12_wordFrom_86 ?_
        refine tz_istore (pc := 87) (L2 := [_, _, _, _, _, _, _]) dX12_wordFrom_87 (by decide) rfl ?_
        refine tz_iinc (pc := 89) (z := (x + 0) + 1) (L2 := [_, _, _, _, _, _, _]) dX12_wordFrom_89 rfl (by omega) rfl ?_
        refine tz_iinc (pc := 92) (z := 24) (L2 := [_, _, _, _, _, _, _]) dX12_wordFrom_92 rfl (by decide) rfl ?_
        refine tz_goto (pc := 95) (tgt := 11) dX12_wordFrom_95 (by decide) ?_
        have g9 := s_24 0 (by decide) ⟨fun q => absurd q (by decide), fun q => by have q1 := mp_p q; have q2 := he.2 q1.1; have q3 : x + 0 < y ∧ J 173 (x + 0) = 114 := q1.2; omega⟩ nm
        rw [show x + 1 = x + 0 + 1 by omega] at g9
        exact g9
      · refine tz_aload_n (pc := 67) dX12_wordFrom_67 rfl rfl ?_
        refine tz_iload (pc := 68) dX12_wordFrom_68 rfl ?_
        refine tz_cV (pc := 70) (m_byteAt hl n _ _ (by omega) (by omega) (by omega)) vl_X12_240 dX12_wordFrom_70 o_164 rfl rfl (Nat.le_of_ble_eq_true rfl) ⟨(Nat.le_of_ble_eq_true rfl), (Nat.le_of_ble_eq_true rfl)⟩ rfl rfl (Nat.le_of_ble_eq_true rfl) (Nat.le_of_ble_eq_true rfl) (fun r9 J_70 hq9 => ?_)
        obtain ⟨z_70, rfl, hz_70, rfl, hb70, hc70⟩ := hq9
        refine tz_knD (pc := 73) (k9 := 23) (v := 114) (by decide) (by decide) rfl dX12_wordFrom_73 dX12_wordFrom_76 dX12_wordFrom_78 (by decide +kernel) ?_
        refine tz_icmp_ne (pc := 79) (tgt := 86) dX12_wordFrom_79 (by decide) (by omega) (by decide) (fun h_79 => ?_) (fun h_79 => ?_)
        · refine tz_iconst (pc := 86) dX12_wordFrom_86 ?_
          refine tz_istore (pc := 87) (L2 := [_, _, _, _, _, _, _]) dX12_wordFrom_87 (by decide) rfl ?_
          refine tz_iinc (pc := 89) (z := (x + 0) + 1) (L2 := [_, _, _, _, _, _, _]) dX12_wordFrom_89 rfl (by omega) rfl ?_
          refine tz_iinc (pc := 92) (z := 24) (L2 := [_, _, _, _, _, _, _]) dX12_wordFrom_92 rfl (by decide) rfl ?_
          refine tz_goto (pc := 95) (tgt := 11) dX12_wordFrom_95 (by decide) ?_
          have g9 := s_24 0 (by decide) ⟨fun q => absurd q (by decide), fun q => by have q1 := mp_p q; have q2 := he.2 q1.1; have q3 : x + 0 < y ∧ J 173 (x + 0) = 114 := q1.2; omega⟩ nm
          rw [show x + 1 = x + 0 + 1 by omega] at g9
          exact g9
        · refine tz_iconst (pc := 82) dX12_wordFrom_82 ?_
          refine tz_goto (pc := 83) (tgt := 87) dX12_wordFrom_83 (by decide) ?_
          refine tz_istore (pc := 87) (L2 := [_, _, _, _, _, _, _]) dX12_wordFrom_87 (by decide) rfl ?_
          refine tz_iinc (pc := 89) (z := (x + 0) + 1) (L2 := [_, _, _, _, _, _, _]) dX12_wordFrom_89 rfl (by omega) rfl ?_
          refine tz_iinc (pc := 92) (z := 24) (L2 := [_, _, _, _, _, _, _]) dX12_wordFrom_92 rfl (by decide) rfl ?_
          refine tz_goto (pc := 95) (tgt := 11) dX12_wordFrom_95 (by decide) ?_
          have g9 := s_24 1 (by decide) ⟨fun _ => mp_s (he.1 (by omega)) (show x + 0 < y by omega) (show J 173 (x + 0) = 114 by omega), fun _ => rfl⟩ nm
          rw [show x + 1 = x + 0 + 1 by omega] at g9
          exact g9
  have s_22 : ∀ e : Int, (e = 0 ∨ e = 1) → (e = 1 ↔ mpB (J 173) x y [101, 110, 116, 114, 121] 5) → (¬ mtB (J 173) x y [115, 121, 109, 98, 111, 108] ∧ ¬ mtB (J 173) x y [116, 101, 114, 109] ∧ ¬ mtB (J 173) x y [114, 117, 108, 101]) → tz_At l G M_X12_wordFrom (tb_rm 1 0 0) none (tb_ZM G 0 0 (zQ n 0 (zqi (fun z J' => J = J' ∧ WD (J 173) x y z))) (zX n 0 zN)) 0 0 n J 11 [some (.ref 164), some (zi x), some (zi y), some (zi 3), some (zi (x + 5)), some (zi e), some (zi 22)] [] := by
    intro e h01 he nm
    refine tz_iload (pc := 11) dX12_wordFrom_11 rfl ?_
    refine tz_knL (pc := 13) dX12_wordFrom_13 dX12_wordFrom_16 (by decide +kernel) ?_
    refine tz_icmp_geF (pc := 17) (tgt := 98) (by decide) dX12_wordFrom_17 (by decide) (by decide) (by decide) ?_
    refine tz_knD (pc := 20) (k9 := 22) (v := 32) (by decide) (by decide) rfl dX12_wordFrom_20 dX12_wordFrom_23 dX12_wordFrom_25 (by decide +kernel) ?_
    refine tz_bipush (pc := 26) dX12_wordFrom_26 (by decide) ?_
    refine tz_icmp_neF (pc := 28) (tgt := 56) (by decide) dX12_wordFrom_28 (by decide) (by decide) (by decide) ?_
    refine tz_iload (pc := 31) dX12_wordFrom_31 rfl ?_
    refine tz_if_eq (pc := 33) (tgt := 44) dX12_wordFrom_33 (by decide) (by omega) (fun h_33 => ?_) (fun h_33 => ?_)
    · refine tz_iinc (pc := 44) (z := 4) (L2 := [_, _, _, _, _, _, _]) dX12_wordFrom_44 rfl (by decide) rfl ?_
      refine tz_iload_n (pc := 47) dX12_wordFrom_47 rfl rfl ?_
      refine tz_istore (pc := 48) (L2 := [_, _, _, _, _, _, _]) dX12_wordFrom_48 (by decide) rfl ?_
      refine tz_iconst (pc := 50) dX12_wordFrom_50 ?_
      refine tz_istore (pc := 51) (L2 := [_, _, _, _, _, _, _]) dX12_wordFrom_51 (by decide) rfl ?_
      refine tz_goto (pc := 53) (tgt := 92) dX12_wordFrom_53 (by decide) ?_
      refine tz_iinc (pc := 92) (z := 23) (L2 := [_, _, _, _, _, _, _]) dX12_wordFrom_92 rfl (by decide) rfl ?_
      refine tz_goto (pc := 95) (tgt := 11) dX12_wordFrom_95 (by decide) ?_
      have nt : ¬ mtB (J 173) x y [101, 110, 116, 114, 121] := fun q => by
        have q1 := he.2 q.1
        have q2 : y = x + 5 := q.2
        omega
      have g9 := s_23 1 (Or.inr rfl) ⟨fun _ => mp_0, fun _ => rfl⟩ (⟨nm.1, nm.2.1, nm.2.2, nt⟩)
      rw [show x + 0 = x from Int.add_zero x] at g9
      exact g9
    · refine tz_iload (pc := 36) dX12_wordFrom_36 rfl ?_
      refine tz_iload_n (pc := 38) dX12_wordFrom_38 rfl rfl ?_
      refine tz_icmp_ne (pc := 39) (tgt := 44) dX12_wordFrom_39 (by decide) (by omega) (by omega) (fun h_39 => ?_) (fun h_39 => ?_)
      · refine tz_iinc (pc := 44) (z := 4) (L2 := [_, _, _, _, _, _, _]) dX12_wordFrom_44 rfl (by decide) rfl ?_
        refine tz_iload_n (pc := 47) dX12_wordFrom_47 rfl rfl ?_
        refine tz_istore (pc := 48) (L2 := [_, _, _, _, _, _, _]) dX12_wordFrom_48 (by decide) rfl ?_
        refine tz_iconst (pc := 50) dX12_wordFrom_50 ?_
        refine tz_istore (pc := 51) (L2 := [_, _, _, _, _, _, _]) dX12_wordFrom_51 (by decide) rfl ?_
        refine tz_goto (pc := 53) (tgt := 92) dX12_wordFrom_53 (by decide) ?_
        refine tz_iinc (pc := 92) (z := 23) (L2 := [_, _, _, _, _, _, _]) dX12_wordFrom_92 rfl (by decide) rfl ?_
        refine tz_goto (pc := 95) (tgt := 11) dX12_wordFrom_95 (by decide) ?_
        have nt : ¬ mtB (J 173) x y [101, 110, 116, 114, 121] := fun q => by
          have q1 := he.2 q.1
          have q2 : y = x + 5 := q.2
          omega
        have g9 := s_23 1 (Or.inr rfl) ⟨fun _ => mp_0, fun _ => rfl⟩ (⟨nm.1, nm.2.1, nm.2.2, nt⟩)
        rw [show x + 0 = x from Int.add_zero x] at g9
        exact g9
      · refine tz_iload_n (pc := 42) dX12_wordFrom_42 rfl rfl ?_
        exact tz_iret (pc := 43) (z := 3) dX12_wordFrom_43 rfl (Nat.le_of_ble_eq_true rfl) (Nat.le_of_ble_eq_true rfl) ⟨Nat.le_refl _, Nat.le_add_right _ _⟩ ⟨_, rfl, (by decide), ⟨rfl, Or.inr ⟨nm.1, Or.inr ⟨nm.2.1, Or.inr ⟨nm.2.2, Or.inl ⟨(show mtB (J 173) x y [101, 110, 116, 114, 121] from ⟨he.1 (by omega), (show y = x + 5 by omega)⟩), rfl⟩⟩⟩⟩⟩⟩
  have s_21 : ∀ e : Int, (e = 0 ∨ e = 1) → (e = 1 ↔ mpB (J 173) x y [101, 110, 116, 114, 121] 4) → (¬ mtB (J 173) x y [115, 121, 109, 98, 111, 108] ∧ ¬ mtB (J 173) x y [116, 101, 114, 109] ∧ ¬ mtB (J 173) x y [114, 117, 108, 101]) → tz_At l G M_X12_wordFrom (tb_rm 1 0 0) none (tb_ZM G 0 0 (zQ n 0 (zqi (fun z J' => J = J' ∧ WD (J 173) x y z))) (zX n 0 zN)) 0 0 n J 11 [some (.ref 164), some (zi x), some (zi y), some (zi 3), some (zi (x + 4)), some (zi e), some (zi 21)] [] := by
    intro e h01 he nm
    refine tz_iload (pc := 11) dX12_wordFrom_11 rfl ?_
    refine tz_knL (pc := 13) dX12_wordFrom_13 dX12_wordFrom_16 (by decide +kernel) ?_
    refine tz_icmp_geF (pc := 17) (tgt := 98) (by decide) dX12_wordFrom_17 (by decide) (by decide) (by decide) ?_
    refine tz_knD (pc := 20) (k9 := 21) (v := 121) (by decide) (by decide) rfl dX12_wordFrom_20 dX12_wordFrom_23 dX12_wordFrom_25 (by decide +kernel) ?_
    refine tz_bipush (pc := 26) dX12_wordFrom_26 (by decide) ?_
    refine tz_icmp_neT (pc := 28) (tgt := 56) (by decide) dX12_wordFrom_28 (by decide) (by decide) (by decide) ?_
    refine tz_iload (pc := 56) dX12_wordFrom_56 rfl ?_
    refine tz_if_eq (pc := 58) (tgt := 86) dX12_wordFrom_58 (by decide) (by omega) (fun h_58 => ?_) (fun h_58 => ?_)
    · refine tz_iconst (pc := 86) dX12_wordFrom_86 ?_
      refine tz_istore (pc := 87) (L2 := [_, _, _, _, _, _, _]) dX12_wordFrom_87 (by decide) rfl ?_
      refine tz_iinc (pc := 89) (z := (x + 4) + 1) (L2 := [_, _, _, _, _, _, _]) dX12_wordFrom_89 rfl (by omega) rfl ?_
      refine tz_iinc (pc := 92) (z := 22) (L2 := [_, _, _, _, _, _, _]) dX12_wordFrom_92 rfl (by decide) rfl ?_
      refine tz_goto (pc := 95) (tgt := 11) dX12_wordFrom_95 (by decide) ?_
      have g9 := s_22 0 (by decide) ⟨fun q => absurd q (by decide), fun q => by have q1 := mp_p q; have q2 := he.2 q1.1; have q3 : x + 4 < y ∧ J 173 (x + 4) = 121 := q1.2; omega⟩ nm
      rw [show x + 5 = x + 4 + 1 by omega] at g9
      exact g9
    · refine tz_iload (pc := 61) dX12_wordFrom_61 rfl ?_
      refine tz_iload_n (pc := 63) dX12_wordFrom_63 rfl rfl ?_
      refine tz_icmp_ge (pc := 64) (tgt := 86) dX12_wordFrom_64 (by decide) (by omega) (by omega) (fun h_64 => ?_) (fun h_64 => ?_)
      · refine tz_iconst (pc := 86) dX12_wordFrom_86 ?_
        refine tz_istore (pc := 87) (L2 := [_, _, _, _, _, _, _]) dX12_wordFrom_87 (by decide) rfl ?_
        refine tz_iinc (pc := 89) (z := (x + 4) + 1) (L2 := [_, _, _, _, _, _, _]) dX12_wordFrom_89 rfl (by omega) rfl ?_
        refine tz_iinc (pc := 92) (z := 22) (L2 := [_, _, _, _, _, _, _]) dX12_wordFrom_92 rfl (by decide) rfl ?_
        refine tz_goto (pc := 95) (tgt := 11) dX12_wordFrom_95 (by decide) ?_
        have g9 := s_22 0 (by decide) ⟨fun q => absurd q (by decide), fun q => by have q1 := mp_p q; have q2 := he.2 q1.1; have q3 : x + 4 < y ∧ J 173 (x + 4) = 121 := q1.2; omega⟩ nm
        rw [show x + 5 = x + 4 + 1 by omega] at g9
        exact g9
      · refine tz_aload_n (pc := 67) dX12_wordFrom_67 rfl rfl ?_
        refine tz_iload (pc := 68) dX12_wordFrom_68 rfl ?_
        refine tz_cV (pc := 70) (m_byteAt hl n _ _ (by omega) (by omega) (by omega)) vl_X12_240 dX12_wordFrom_70 o_164 rfl rfl (Nat.le_of_ble_eq_true rfl) ⟨(Nat.le_of_ble_eq_true rfl), (Nat.le_of_ble_eq_true rfl)⟩ rfl rfl (Nat.le_of_ble_eq_true rfl) (Nat.le_of_ble_eq_true rfl) (fun r9 J_70 hq9 => ?_)
        obtain ⟨z_70, rfl, hz_70, rfl, hb70, hc70⟩ := hq9
        refine tz_knD (pc := 73) (k9 := 21) (v := 121) (by decide) (by decide) rfl dX12_wordFrom_73 dX12_wordFrom_76 dX12_wordFrom_78 (by decide +kernel) ?_
        refine tz_icmp_ne (pc := 79) (tgt := 86) dX12_wordFrom_79 (by decide) (by omega) (by decide) (fun h_79 => ?_) (fun h_79 => ?_)
        · refine tz_iconst (pc := 86) dX12_wordFrom_86 ?_
          refine tz_istore (pc := 87) (L2 := [_, _, _, _, _, _, _]) dX12_wordFrom_87 (by decide) rfl ?_
          refine tz_iinc (pc := 89) (z := (x + 4) + 1) (L2 := [_, _, _, _, _, _, _]) dX12_wordFrom_89 rfl (by omega) rfl ?_
          refine tz_iinc (pc := 92) (z := 22) (L2 := [_, _, _, _, _, _, _]) dX12_wordFrom_92 rfl (by decide) rfl ?_
          refine tz_goto (pc := 95) (tgt := 11) dX12_wordFrom_95 (by decide) ?_
          have g9 := s_22 0 (by decide) ⟨fun q => absurd q (by decide), fun q => by have q1 := mp_p q; have q2 := he.2 q1.1; have q3 : x + 4 < y ∧ J 173 (x + 4) = 121 := q1.2; omega⟩ nm
          rw [show x + 5 = x + 4 + 1 by omega] at g9
          exact g9
        · refine tz_iconst (pc := 82) dX12_wordFrom_82 ?_
          refine tz_goto (pc := 83) (tgt := 87) dX12_wordFrom_83 (by decide) ?_
          refine tz_istore (pc := 87) (L2 := [_, _, _, _, _, _, _]) dX12_wordFrom_87 (by decide) rfl ?_
          refine tz_iinc (pc := 89) (z := (x + 4) + 1) (L2 := [_, _, _, _, _, _, _]) dX12_wordFrom_89 rfl (by omega) rfl ?_
          refine tz_iinc (pc := 92) (z := 22) (L2 := [_, _, _, _, _, _, _]) dX12_wordFrom_92 rfl (by decide) rfl ?_
          refine tz_goto (pc := 95) (tgt := 11) dX12_wordFrom_95 (by decide) ?_
          have g9 := s_22 1 (by decide) ⟨fun _ => mp_s (he.1 (by omega)) (show x + 4 < y by omega) (show J 173 (x + 4) = 121 by omega), fun _ => rfl⟩ nm
          rw [show x + 5 = x + 4 + 1 by omega] at g9
          exact g9
  have s_20 : ∀ e : Int, (e = 0 ∨ e = 1) → (e = 1 ↔ mpB (J 173) x y [101, 110, 116, 114, 121] 3) → (¬ mtB (J 173) x y [115, 121, 109, 98, 111, 108] ∧ ¬ mtB (J 173) x y [116, 101, 114, 109] ∧ ¬ mtB (J 173) x y [114, 117, 108, 101]) → tz_At l G M_X12_wordFrom (tb_rm 1 0 0) none (tb_ZM G 0 0 (zQ n 0 (zqi (fun z J' => J = J' ∧ WD (J 173) x y z))) (zX n 0 zN)) 0 0 n J 11 [some (.ref 164), some (zi x), some (zi y), some (zi 3), some (zi (x + 3)), some (zi e), some (zi 20)] [] := by
    intro e h01 he nm
    refine tz_iload (pc := 11) dX12_wordFrom_11 rfl ?_
    refine tz_knL (pc := 13) dX12_wordFrom_13 dX12_wordFrom_16 (by decide +kernel) ?_
    refine tz_icmp_geF (pc := 17) (tgt := 98) (by decide) dX12_wordFrom_17 (by decide) (by decide) (by decide) ?_
    refine tz_knD (pc := 20) (k9 := 20) (v := 114) (by decide) (by decide) rfl dX12_wordFrom_20 dX12_wordFrom_23 dX12_wordFrom_25 (by decide +kernel) ?_
    refine tz_bipush (pc := 26) dX12_wordFrom_26 (by decide) ?_
    refine tz_icmp_neT (pc := 28) (tgt := 56) (by decide) dX12_wordFrom_28 (by decide) (by decide) (by decide) ?_
    refine tz_iload (pc := 56) dX12_wordFrom_56 rfl ?_
    refine tz_if_eq (pc := 58) (tgt := 86) dX12_wordFrom_58 (by decide) (by omega) (fun h_58 => ?_) (fun h_58 => ?_)
    · refine tz_iconst (pc := 86) dX12_wordFrom_86 ?_
      refine tz_istore (pc := 87) (L2 := [_, _, _, _, _, _, _]) dX12_wordFrom_87 (by decide) rfl ?_
      refine tz_iinc (pc := 89) (z := (x + 3) + 1) (L2 := [_, _, _, _, _, _, _]) dX12_wordFrom_89 rfl (by omega) rfl ?_
      refine tz_iinc (pc := 92) (z := 21) (L2 := [_, _, _, _, _, _, _]) dX12_wordFrom_92 rfl (by decide) rfl ?_
      refine tz_goto (pc := 95) (tgt := 11) dX12_wordFrom_95 (by decide) ?_
      have g9 := s_21 0 (by decide) ⟨fun q => absurd q (by decide), fun q => by have q1 := mp_p q; have q2 := he.2 q1.1; have q3 : x + 3 < y ∧ J 173 (x + 3) = 114 := q1.2; omega⟩ nm
      rw [show x + 4 = x + 3 + 1 by omega] at g9
      exact g9
    · refine tz_iload (pc := 61) dX12_wordFrom_61 rfl ?_
      refine tz_iload_n (pc := 63) dX12_wordFrom_63 rfl rfl ?_
      refine tz_icmp_ge (pc := 64) (tgt := 86) dX12_wordFrom_64 (by decide) (by omega) (by omega) (fun h_64 => ?_) (fun h_64 => ?_)
      · refine tz_iconst (pc := 86) dX12_wordFrom_86 ?_
        refine tz_istore (pc := 87) (L2 := [_, _, _, _, _, _, _]) dX12_wordFrom_87 (by decide) rfl ?_
        refine tz_iinc (pc := 89) (z := (x + 3) + 1) (L2 := [_, _, _, _, _, _, _]) dX12_wordFrom_89 rfl (by omega) rfl ?_
        refine tz_iinc (pc := 92) (z := 21) (L2 := [_, _, _, _, _, _, _]) dX12_wordFrom_92 rfl (by decide) rfl ?_
        refine tz_goto (pc := 95) (tgt := 11) dX12_wordFrom_95 (by decide) ?_
        have g9 := s_21 0 (by decide) ⟨fun q => absurd q (by decide), fun q => by have q1 := mp_p q; have q2 := he.2 q1.1; have q3 : x + 3 < y ∧ J 173 (x + 3) = 114 := q1.2; omega⟩ nm
        rw [show x + 4 = x + 3 + 1 by omega] at g9
        exact g9
      · refine tz_aload_n (pc := 67) dX12_wordFrom_67 rfl rfl ?_
        refine tz_iload (pc := 68) dX12_wordFrom_68 rfl ?_
        refine tz_cV (pc := 70) (m_byteAt hl n _ _ (by omega) (by omega) (by omega)) vl_X12_240 dX12_wordFrom_70 o_164 rfl rfl (Nat.le_of_ble_eq_true rfl) ⟨(Nat.le_of_ble_eq_true rfl), (Nat.le_of_ble_eq_true rfl)⟩ rfl rfl (Nat.le_of_ble_eq_true rfl) (Nat.le_of_ble_eq_true rfl) (fun r9 J_70 hq9 => ?_)
        obtain ⟨z_70, rfl, hz_70, rfl, hb70, hc70⟩ := hq9
        refine tz_knD (pc := 73) (k9 := 20) (v := 114) (by decide) (by decide) rfl dX12_wordFrom_73 dX12_wordFrom_76 dX12_wordFrom_78 (by decide +kernel) ?_
        refine tz_icmp_ne (pc := 79) (tgt := 86) dX12_wordFrom_79 (by decide) (by omega) (by decide) (fun h_79 => ?_) (fun h_79 => ?_)
        · refine tz_iconst (pc := 86) dX12_wordFrom_86 ?_
          refine tz_istore (pc := 87) (L2 := [_, _, _, _, _, _, _]) dX12_wordFrom_87 (by decide) rfl ?_
          refine tz_iinc (pc := 89) (z := (x + 3) + 1) (L2 := [_, _, _, _, _, _, _]) dX12_wordFrom_89 rfl (by omega) rfl ?_
          refine tz_iinc (pc := 92) (z := 21) (L2 := [_, _, _, _, _, _, _]) dX12_wordFrom_92 rfl (by decide) rfl ?_
          refine tz_goto (pc := 95) (tgt := 11) dX12_wordFrom_95 (by decide) ?_
          have g9 := s_21 0 (by decide) ⟨fun q => absurd q (by decide), fun q => by have q1 := mp_p q; have q2 := he.2 q1.1; have q3 : x + 3 < y ∧ J 173 (x + 3) = 114 := q1.2; omega⟩ nm
          rw [show x + 4 = x + 3 + 1 by omega] at g9
          exact g9
        · refine tz_iconst (pc := 82) dX12_wordFrom_82 ?_
          refine tz_goto (pc := 83) (tgt := 87) dX12_wordFrom_83 (by decide) ?_
          refine tz_istore (pc := 87) (L2 := [_, _, _, _, _, _, _]) dX12_wordFrom_87 (by decide) rfl ?_
          refine tz_iinc (pc := 89) (z := (x + 3) + 1) (L2 := [_, _, _, _, _, _, _]) dX12_wordFrom_89 rfl (by omega) rfl ?_
          refine tz_iinc (pc := 92) (z := 21) (L2 := [_, _, _, _, _, _, _]) dX12_wordFrom_92 rfl (by decide) rfl ?_
          refine tz_goto (pc := 95) (tgt := 11) dX12_wordFrom_95 (by decide) ?_
          have g9 := s_21 1 (by decide) ⟨fun _ => mp_s (he.1 (by omega)) (show x + 3 < y by omega) (show J 173 (x + 3) = 114 by omega), fun _ => rfl⟩ nm
          rw [show x + 4 = x + 3 + 1 by omega] at g9
          exact g9
  have s_19 : ∀ e : Int, (e = 0 ∨ e = 1) → (e = 1 ↔ mpB (J 173) x y [101, 110, 116, 114, 121] 2) → (¬ mtB (J 173) x y [115, 121, 109, 98, 111, 108] ∧ ¬ mtB (J 173) x y [116, 101, 114, 109] ∧ ¬ mtB (J 173) x y [114, 117, 108, 101]) → tz_At l G M_X12_wordFrom (tb_rm 1 0 0) none (tb_ZM G 0 0 (zQ n 0 (zqi (fun z J' => J = J' ∧ WD (J 173) x y z))) (zX n 0 zN)) 0 0 n J 11 [some (.ref 164), some (zi x), some (zi y), some (zi 3), some (zi (x + 2)), some (zi e), some (zi 19)] [] := by
    intro e h01 he nm
    refine tz_iload (pc := 11) dX12_wordFrom_11 rfl ?_
    refine tz_knL (pc := 13) dX12_wordFrom_13 dX12_wordFrom_16 (by decide +kernel) ?_
    refine tz_icmp_geF (pc := 17) (tgt := 98) (by decide) dX12_wordFrom_17 (by decide) (by decide) (by decide) ?_
    refine tz_knD (pc := 20) (k9 := 19) (v := 116) (by decide) (by decide) rfl dX12_wordFrom_20 dX12_wordFrom_23 dX12_wordFrom_25 (by decide +kernel) ?_
    refine tz_bipush (pc := 26) dX12_wordFrom_26 (by decide) ?_
    refine tz_icmp_neT (pc := 28) (tgt := 56) (by decide) dX12_wordFrom_28 (by decide) (by decide) (by decide) ?_
    refine tz_iload (pc := 56) dX12_wordFrom_56 rfl ?_
    refine tz_if_eq (pc := 58) (tgt := 86) dX12_wordFrom_58 (by decide) (by omega) (fun h_58 => ?_) (fun h_58 => ?_)
    · refine tz_iconst (pc := 86) dX12_wordFrom_86 ?_
      refine tz_istore (pc := 87) (L2 := [_, _, _, _, _, _, _]) dX12_wordFrom_87 (by decide) rfl ?_
      refine tz_iinc (pc := 89) (z := (x + 2) + 1) (L2 := [_, _, _, _, _, _, _]) dX12_wordFrom_89 rfl (by omega) rfl ?_
      refine tz_iinc (pc := 92) (z := 20) (L2 := [_, _, _, _, _, _, _]) dX12_wordFrom_92 rfl (by decide) rfl ?_
      refine tz_goto (pc := 95) (tgt := 11) dX12_wordFrom_95 (by decide) ?_
      have g9 := s_20 0 (by decide) ⟨fun q => absurd q (by decide), fun q => by have q1 := mp_p q; have q2 := he.2 q1.1; have q3 : x + 2 < y ∧ J 173 (x + 2) = 116 := q1.2; omega⟩ nm
      rw [show x + 3 = x + 2 + 1 by omega] at g9
      exact g9
    · refine tz_iload (pc := 61) dX12_wordFrom_61 rfl ?_
      refine tz_iload_n (pc := 63) dX12_wordFrom_63 rfl rfl ?_
      refine tz_icmp_ge (pc := 64) (tgt := 86) dX12_wordFrom_64 (by decide) (by omega) (by omega) (fun h_64 => ?_) (fun h_64 => ?_)
      · refine tz_iconst (pc := 86) dX12_wordFrom_86 ?_
        refine tz_istore (pc := 87) (L2 := [_, _, _, _, _, _, _]) dX12_wordFrom_87 (by decide) rfl ?_
        refine tz_iinc (pc := 89) (z := (x + 2) + 1) (L2 := [_, _, _, _, _, _, _]) dX12_wordFrom_89 rfl (by omega) rfl ?_
        refine tz_iinc (pc := 92) (z := 20) (L2 := [_, _, _, _, _, _, _]) dX12_wordFrom_92 rfl (by decide) rfl ?_
        refine tz_goto (pc := 95) (tgt := 11) dX12_wordFrom_95 (by decide) ?_
        have g9 := s_20 0 (by decide) ⟨fun q => absurd q (by decide), fun q => by have q1 := mp_p q; have q2 := he.2 q1.1; have q3 : x + 2 < y ∧ J 173 (x + 2) = 116 := q1.2; omega⟩ nm
        rw [show x + 3 = x + 2 + 1 by omega] at g9
        exact g9
      · refine tz_aload_n (pc := 67) dX12_wordFrom_67 rfl rfl ?_
        refine tz_iload (pc := 68) dX12_wordFrom_68 rfl ?_
        refine tz_cV (pc := 70) (m_byteAt hl n _ _ (by omega) (by omega) (by omega)) vl_X12_240 dX12_wordFrom_70 o_164 rfl rfl (Nat.le_of_ble_eq_true rfl) ⟨(Nat.le_of_ble_eq_true rfl), (Nat.le_of_ble_eq_true rfl)⟩ rfl rfl (Nat.le_of_ble_eq_true rfl) (Nat.le_of_ble_eq_true rfl) (fun r9 J_70 hq9 => ?_)
        obtain ⟨z_70, rfl, hz_70, rfl, hb70, hc70⟩ := hq9
        refine tz_knD (pc := 73) (k9 := 19) (v := 116) (by decide) (by decide) rfl dX12_wordFrom_73 dX12_wordFrom_76 dX12_wordFrom_78 (by decide +kernel) ?_
        refine tz_icmp_ne (pc := 79) (tgt := 86) dX12_wordFrom_79 (by decide) (by omega) (by decide) (fun h_79 => ?_) (fun h_79 => ?_)
        · refine tz_iconst (pc := 86) dX12_wordFrom_86 ?_
          refine tz_istore (pc := 87) (L2 := [_, _, _, _, _, _, _]) dX12_wordFrom_87 (by decide) rfl ?_
          refine tz_iinc (pc := 89) (z := (x + 2) + 1) (L2 := [_, _, _, _, _, _, _]) dX12_wordFrom_89 rfl (by omega) rfl ?_
          refine tz_iinc (pc := 92) (z := 20) (L2 := [_, _, _, _, _, _, _]) dX12_wordFrom_92 rfl (by decide) rfl ?_
          refine tz_goto (pc := 95) (tgt := 11) dX12_wordFrom_95 (by decide) ?_
          have g9 := s_20 0 (by decide) ⟨fun q => absurd q (by decide), fun q => by have q1 := mp_p q; have q2 := he.2 q1.1; have q3 : x + 2 < y ∧ J 173 (x + 2) = 116 := q1.2; omega⟩ nm
          rw [show x + 3 = x + 2 + 1 by omega] at g9
          exact g9
        · refine tz_iconst (pc := 82) dX12_wordFrom_82 ?_
          refine tz_goto (pc := 83) (tgt := 87) dX12_wordFrom_83 (by decide) ?_
          refine tz_istore (pc := 87) (L2 := [_, _, _, _, _, _, _]) dX12_wordFrom_87 (by decide) rfl ?_
          refine tz_iinc (pc := 89) (z := (x + 2) + 1) (L2 := [_, _, _, _, _, _, _]) dX12_wordFrom_89 rfl (by omega) rfl ?_
          refine tz_iinc (pc := 92) (z := 20) (L2 := [_, _, _, _, _, _, _]) dX12_wordFrom_92 rfl (by decide) rfl ?_
          refine tz_goto (pc := 95) (tgt := 11) dX12_wordFrom_95 (by decide) ?_
          have g9 := s_20 1 (by decide) ⟨fun _ => mp_s (he.1 (by omega)) (show x + 2 < y by omega) (show J 173 (x + 2) = 116 by omega), fun _ => rfl⟩ nm
          rw [show x + 3 = x + 2 + 1 by omega] at g9
          exact g9
  have s_18 : ∀ e : Int, (e = 0 ∨ e = 1) → (e = 1 ↔ mpB (J 173) x y [101, 110, 116, 114, 121] 1) → (¬ mtB (J 173) x y [115, 121, 109, 98, 111, 108] ∧ ¬ mtB (J 173) x y [116, 101, 114, 109] ∧ ¬ mtB (J 173) x y [114, 117, 108, 101]) → tz_At l G M_X12_wordFrom (tb_rm 1 0 0) none (tb_ZM G 0 0 (zQ n 0 (zqi (fun z J' => J = J' ∧ WD (J 173) x y z))) (zX n 0 zN)) 0 0 n J 11 [some (.ref 164), some (zi x), some (zi y), some (zi 3), some (zi (x + 1)), some (zi e), some (zi 18)] [] := by
    intro e h01 he nm
    refine tz_iload (pc := 11) dX12_wordFrom_11 rfl ?_
    refine tz_knL (pc := 13) dX12_wordFrom_13 dX12_wordFrom_16 (by decide +kernel) ?_
    refine tz_icmp_geF (pc := 17) (tgt := 98) (by decide) dX12_wordFrom_17 (by decide) (by decide) (by decide) ?_
    refine tz_knD (pc := 20) (k9 := 18) (v := 110) (by decide) (by decide) rfl dX12_wordFrom_20 dX12_wordFrom_23 dX12_wordFrom_25 (by decide +kernel) ?_
    refine tz_bipush (pc := 26) dX12_wordFrom_26 (by decide) ?_
    refine tz_icmp_neT (pc := 28) (tgt := 56) (by decide) dX12_wordFrom_28 (by decide) (by decide) (by decide) ?_
    refine tz_iload (pc := 56) dX12_wordFrom_56 rfl ?_
    refine tz_if_eq (pc := 58) (tgt := 86) dX12_wordFrom_58 (by decide) (by omega) (fun h_58 => ?_) (fun h_58 => ?_)
    · refine tz_iconst (pc := 86) dX12_wordFrom_86 ?_
      refine tz_istore (pc := 87) (L2 := [_, _, _, _, _, _, _]) dX12_wordFrom_87 (by decide) rfl ?_
      refine tz_iinc (pc := 89) (z := (x + 1) + 1) (L2 := [_, _, _, _, _, _, _]) dX12_wordFrom_89 rfl (by omega) rfl ?_
      refine tz_iinc (pc := 92) (z := 19) (L2 := [_, _, _, _, _, _, _]) dX12_wordFrom_92 rfl (by decide) rfl ?_
      refine tz_goto (pc := 95) (tgt := 11) dX12_wordFrom_95 (by decide) ?_
      have g9 := s_19 0 (by decide) ⟨fun q => absurd q (by decide), fun q => by have q1 := mp_p q; have q2 := he.2 q1.1; have q3 : x + 1 < y ∧ J 173 (x + 1) = 110 := q1.2; omega⟩ nm
      rw [show x + 2 = x + 1 + 1 by omega] at g9
      exact g9
    · refine tz_iload (pc := 61) dX12_wordFrom_61 rfl ?_
      refine tz_iload_n (pc := 63) dX12_wordFrom_63 rfl rfl ?_
      refine tz_icmp_ge (pc := 64) (tgt := 86) dX12_wordFrom_64 (by decide) (by omega) (by omega) (fun h_64 => ?_) (fun h_64 => ?_)
      · refine tz_iconst (pc := 86) dX12_wordFrom_86 ?_
        refine tz_istore (pc := 87) (L2 := [_, _, _, _, _, _, _]) dX12_wordFrom_87 (by decide) rfl ?_
        refine tz_iinc (pc := 89) (z := (x + 1) + 1) (L2 := [_, _, _, _, _, _, _]) dX12_wordFrom_89 rfl (by omega) rfl ?_
        refine tz_iinc (pc := 92) (z := 19) (L2 := [_, _, _, _, _, _, _]) dX12_wordFrom_92 rfl (by decide) rfl ?_
        refine tz_goto (pc := 95) (tgt := 11) dX12_wordFrom_95 (by decide) ?_
        have g9 := s_19 0 (by decide) ⟨fun q => absurd q (by decide), fun q => by have q1 := mp_p q; have q2 := he.2 q1.1; have q3 : x + 1 < y ∧ J 173 (x + 1) = 110 := q1.2; omega⟩ nm
        rw [show x + 2 = x + 1 + 1 by omega] at g9
        exact g9
      · refine tz_aload_n (pc := 67) dX12_wordFrom_67 rfl rfl ?_
        refine tz_iload (pc := 68) dX12_wordFrom_68 rfl ?_
        refine tz_cV (pc := 70) (m_byteAt hl n _ _ (by omega) (by omega) (by omega)) vl_X12_240 dX12_wordFrom_70 o_164 rfl rfl (Nat.le_of_ble_eq_true rfl) ⟨(Nat.le_of_ble_eq_true rfl), (Nat.le_of_ble_eq_true rfl)⟩ rfl rfl (Nat.le_of_ble_eq_true rfl) (Nat.le_of_ble_eq_true rfl) (fun r9 J_70 hq9 => ?_)
        obtain ⟨z_70, rfl, hz_70, rfl, hb70, hc70⟩ := hq9
        refine tz_knD (pc := 73) (k9 := 18) (v := 110) (by decide) (by decide) rfl dX12_wordFrom_73 dX12_wordFrom_76 dX12_wordFrom_78 (by decide +kernel) ?_
        refine tz_icmp_ne (pc := 79) (tgt := 86) dX12_wordFrom_79 (by decide) (by omega) (by decide) (fun h_79 => ?_) (fun h_79 => ?_)
        · refine tz_iconst (pc := 86) dX12_wordFrom_86 ?_
          refine tz_istore (pc := 87) (L2 := [_, _, _, _, _, _, _]) dX12_wordFrom_87 (by decide) rfl ?_
          refine tz_iinc (pc := 89) (z := (x + 1) + 1) (L2 := [_, _, _, _, _, _, _]) dX12_wordFrom_89 rfl (by omega) rfl ?_
          refine tz_iinc (pc := 92) (z := 19) (L2 := [_, _, _, _, _, _, _]) dX12_wordFrom_92 rfl (by decide) rfl ?_
          refine tz_goto (pc := 95) (tgt := 11) dX12_wordFrom_95 (by decide) ?_
          have g9 := s_19 0 (by decide) ⟨fun q => absurd q (by decide), fun q => by have q1 := mp_p q; have q2 := he.2 q1.1; have q3 : x + 1 < y ∧ J 173 (x + 1) = 110 := q1.2; omega⟩ nm
          rw [show x + 2 = x + 1 + 1 by omega] at g9
          exact g9
        · refine tz_iconst (pc := 82) dX12_wordFrom_82 ?_
          refine tz_goto (pc := 83) (tgt := 87) dX12_wordFrom_83 (by decide) ?_
          refine tz_istore (pc := 87) (L2 := [_, _, _, _, _, _, _]) dX12_wordFrom_87 (by decide) rfl ?_
          refine tz_iinc (pc := 89) (z := (x + 1) + 1) (L2 := [_, _, _, _, _, _, _]) dX12_wordFrom_89 rfl (by omega) rfl ?_
          refine tz_iinc (pc := 92) (z := 19) (L2 := [_, _, _, _, _, _, _]) dX12_wordFrom_92 rfl (by decide) rfl ?_
          refine tz_goto (pc := 95) (tgt := 11) dX12_wordFrom_95 (by decide) ?_
          have g9 := s_19 1 (by decide) ⟨fun _ => mp_s (he.1 (by omega)) (show x + 1 < y by omega) (show J 173 (x + 1) = 110 by omega), fun _ => rfl⟩ nm
          rw [show x + 2 = x + 1 + 1 by omega] at g9
          exact g9
  have s_17 : ∀ e : Int, (e = 0 ∨ e = 1) → (e = 1 ↔ mpB (J 173) x y [101, 110, 116, 114, 121] 0) → (¬ mtB (J 173) x y [115, 121, 109, 98, 111, 108] ∧ ¬ mtB (J 173) x y [116, 101, 114, 109] ∧ ¬ mtB (J 173) x y [114, 117, 108, 101]) → tz_At l G M_X12_wordFrom (tb_rm 1 0 0) none (tb_ZM G 0 0 (zQ n 0 (zqi (fun z J' => J = J' ∧ WD (J 173) x y z))) (zX n 0 zN)) 0 0 n J 11 [some (.ref 164), some (zi x), some (zi y), some (zi 3), some (zi (x + 0)), some (zi e), some (zi 17)] [] := by
    intro e h01 he nm
    refine tz_iload (pc := 11) dX12_wordFrom_11 rfl ?_
    refine tz_knL (pc := 13) dX12_wordFrom_13 dX12_wordFrom_16 (by decide +kernel) ?_
    refine tz_icmp_geF (pc := 17) (tgt := 98) (by decide) dX12_wordFrom_17 (by decide) (by decide) (by decide) ?_
    refine tz_knD (pc := 20) (k9 := 17) (v := 101) (by decide) (by decide) rfl dX12_wordFrom_20 dX12_wordFrom_23 dX12_wordFrom_25 (by decide +kernel) ?_
    refine tz_bipush (pc := 26) dX12_wordFrom_26 (by decide) ?_
    refine tz_icmp_neT (pc := 28) (tgt := 56) (by decide) dX12_wordFrom_28 (by decide) (by decide) (by decide) ?_
    refine tz_iload (pc := 56) dX12_wordFrom_56 rfl ?_
    refine tz_if_eq (pc := 58) (tgt := 86) dX12_wordFrom_58 (by decide) (by omega) (fun h_58 => ?_) (fun h_58 => ?_)
    · refine tz_iconst (pc := 86) dX12_wordFrom_86 ?_
      refine tz_istore (pc := 87) (L2 := [_, _, _, _, _, _, _]) dX12_wordFrom_87 (by decide) rfl ?_
      refine tz_iinc (pc := 89) (z := (x + 0) + 1) (L2 := [_, _, _, _, _, _, _]) dX12_wordFrom_89 rfl (by omega) rfl ?_
      refine tz_iinc (pc := 92) (z := 18) (L2 := [_, _, _, _, _, _, _]) dX12_wordFrom_92 rfl (by decide) rfl ?_
      refine tz_goto (pc := 95) (tgt := 11) dX12_wordFrom_95 (by decide) ?_
      have g9 := s_18 0 (by decide) ⟨fun q => absurd q (by decide), fun q => by have q1 := mp_p q; have q2 := he.2 q1.1; have q3 : x + 0 < y ∧ J 173 (x + 0) = 101 := q1.2; omega⟩ nm
      rw [show x + 1 = x + 0 + 1 by omega] at g9
      exact g9
    · refine tz_iload (pc := 61) dX12_wordFrom_61 rfl ?_
      refine tz_iload_n (pc := 63) dX12_wordFrom_63 rfl rfl ?_
      refine tz_icmp_ge (pc := 64) (tgt := 86) dX12_wordFrom_64 (by decide) (by omega) (by omega) (fun h_64 => ?_) (fun h_64 => ?_)
      · refine tz_iconst (pc := 86) dX12_wordFrom_86 ?_
        refine tz_istore (pc := 87) (L2 := [_, _, _, _, _, _, _]) dX12_wordFrom_87 (by decide) rfl ?_
        refine tz_iinc (pc := 89) (z := (x + 0) + 1) (L2 := [_, _, _, _, _, _, _]) dX12_wordFrom_89 rfl (by omega) rfl ?_
        refine tz_iinc (pc := 92) (z := 18) (L2 := [_, _, _, _, _, _, _]) dX12_wordFrom_92 rfl (by decide) rfl ?_
        refine tz_goto (pc := 95) (tgt := 11) dX12_wordFrom_95 (by decide) ?_
        have g9 := s_18 0 (by decide) ⟨fun q => absurd q (by decide), fun q => by have q1 := mp_p q; have q2 := he.2 q1.1; have q3 : x + 0 < y ∧ J 173 (x + 0) = 101 := q1.2; omega⟩ nm
        rw [show x + 1 = x + 0 + 1 by omega] at g9
        exact g9
      · refine tz_aload_n (pc := 67) dX12_wordFrom_67 rfl rfl ?_
        refine tz_iload (pc := 68) dX12_wordFrom_68 rfl ?_
        refine tz_cV (pc := 70) (m_byteAt hl n _ _ (by omega) (by omega) (by omega)) vl_X12_240 dX12_wordFrom_70 o_164 rfl rfl (Nat.le_of_ble_eq_true rfl) ⟨(Nat.le_of_ble_eq_true rfl), (Nat.le_of_ble_eq_true rfl)⟩ rfl rfl (Nat.le_of_ble_eq_true rfl) (Nat.le_of_ble_eq_true rfl) (fun r9 J_70 hq9 => ?_)
        obtain ⟨z_70, rfl, hz_70, rfl, hb70, hc70⟩ := hq9
        refine tz_knD (pc := 73) (k9 := 17) (v := 101) (by decide) (by decide) rfl dX12_wordFrom_73 dX12_wordFrom_76 dX12_wordFrom_78 (by decide +kernel) ?_
        refine tz_icmp_ne (pc := 79) (tgt := 86) dX12_wordFrom_79 (by decide) (by omega) (by decide) (fun h_79 => ?_) (fun h_79 => ?_)
        · refine tz_iconst (pc := 86) dX12_wordFrom_86 ?_
          refine tz_istore (pc := 87) (L2 := [_, _, _, _, _, _, _]) dX12_wordFrom_87 (by decide) rfl ?_
          refine tz_iinc (pc := 89) (z := (x + 0) + 1) (L2 := [_, _, _, _, _, _, _]) dX12_wordFrom_89 rfl (by omega) rfl ?_
          refine tz_iinc (pc := 92) (z := 18) (L2 := [_, _, _, _, _, _, _]) dX12_wordFrom_92 rfl (by decide) rfl ?_
          refine tz_goto (pc := 95) (tgt := 11) dX12_wordFrom_95 (by decide) ?_
          have g9 := s_18 0 (by decide) ⟨fun q => absurd q (by decide), fun q => by have q1 := mp_p q; have q2 := he.2 q1.1; have q3 : x + 0 < y ∧ J 173 (x + 0) = 101 := q1.2; omega⟩ nm
          rw [show x + 1 = x + 0 + 1 by omega] at g9
          exact g9
        · refine tz_iconst (pc := 82) dX12_wordFrom_82 ?_
          refine tz_goto (pc := 83) (tgt := 87) dX12_wordFrom_83 (by decide) ?_
          refine tz_istore (pc := 87) (L2 := [_, _, _, _, _, _, _]) dX12_wordFrom_87 (by decide) rfl ?_
          refine tz_iinc (pc := 89) (z := (x + 0) + 1) (L2 := [_, _, _, _, _, _, _]) dX12_wordFrom_89 rfl (by omega) rfl ?_
          refine tz_iinc (pc := 92) (z := 18) (L2 := [_, _, _, _, _, _, _]) dX12_wordFrom_92 rfl (by decide) rfl ?_
          refine tz_goto (pc := 95) (tgt := 11) dX12_wordFrom_95 (by decide) ?_
          have g9 := s_18 1 (by decide) ⟨fun _ => mp_s (he.1 (by omega)) (show x + 0 < y by omega) (show J 173 (x + 0) = 101 by omega), fun _ => rfl⟩ nm
          rw [show x + 1 = x + 0 + 1 by omega] at g9
          exact g9
  have s_16 : ∀ e : Int, (e = 0 ∨ e = 1) → (e = 1 ↔ mpB (J 173) x y [114, 117, 108, 101] 4) → (¬ mtB (J 173) x y [115, 121, 109, 98, 111, 108] ∧ ¬ mtB (J 173) x y [116, 101, 114, 109]) → tz_At l G M_X12_wordFrom (tb_rm 1 0 0) none (tb_ZM G 0 0 (zQ n 0 (zqi (fun z J' => J = J' ∧ WD (J 173) x y z))) (zX n 0 zN)) 0 0 n J 11 [some (.ref 164), some (zi x), some (zi y), some (zi 2), some (zi (x + 4)), some (zi e), some (zi 16)] [] := by
    intro e h01 he nm
    refine tz_iload (pc := 11) dX12_wordFrom_11 rfl ?_
    refine tz_knL (pc := 13) dX12_wordFrom_13 dX12_wordFrom_16 (by decide +kernel) ?_
    refine tz_icmp_geF (pc := 17) (tgt := 98) (by decide) dX12_wordFrom_17 (by decide) (by decide) (by decide) ?_
    refine tz_knD (pc := 20) (k9 := 16) (v := 32) (by decide) (by decide) rfl dX12_wordFrom_20 dX12_wordFrom_23 dX12_wordFrom_25 (by decide +kernel) ?_
    refine tz_bipush (pc := 26) dX12_wordFrom_26 (by decide) ?_
    refine tz_icmp_neF (pc := 28) (tgt := 56) (by decide) dX12_wordFrom_28 (by decide) (by decide) (by decide) ?_
    refine tz_iload (pc := 31) dX12_wordFrom_31 rfl ?_
    refine tz_if_eq (pc := 33) (tgt := 44) dX12_wordFrom_33 (by decide) (by omega) (fun h_33 => ?_) (fun h_33 => ?_)
    · refine tz_iinc (pc := 44) (z := 3) (L2 := [_, _, _, _, _, _, _]) dX12_wordFrom_44 rfl (by decide) rfl ?_
      refine tz_iload_n (pc := 47) dX12_wordFrom_47 rfl rfl ?_
      refine tz_istore (pc := 48) (L2 := [_, _, _, _, _, _, _]) dX12_wordFrom_48 (by decide) rfl ?_
      refine tz_iconst (pc := 50) dX12_wordFrom_50 ?_
      refine tz_istore (pc := 51) (L2 := [_, _, _, _, _, _, _]) dX12_wordFrom_51 (by decide) rfl ?_
      refine tz_goto (pc := 53) (tgt := 92) dX12_wordFrom_53 (by decide) ?_
      refine tz_iinc (pc := 92) (z := 17) (L2 := [_, _, _, _, _, _, _]) dX12_wordFrom_92 rfl (by decide) rfl ?_
      refine tz_goto (pc := 95) (tgt := 11) dX12_wordFrom_95 (by decide) ?_
      have nt : ¬ mtB (J 173) x y [114, 117, 108, 101] := fun q => by
        have q1 := he.2 q.1
        have q2 : y = x + 4 := q.2
        omega
      have g9 := s_17 1 (Or.inr rfl) ⟨fun _ => mp_0, fun _ => rfl⟩ (⟨nm.1, nm.2, nt⟩)
      rw [show x + 0 = x from Int.add_zero x] at g9
      exact g9
    · refine tz_iload (pc := 36) dX12_wordFrom_36 rfl ?_
      refine tz_iload_n (pc := 38) dX12_wordFrom_38 rfl rfl ?_
      refine tz_icmp_ne (pc := 39) (tgt := 44) dX12_wordFrom_39 (by decide) (by omega) (by omega) (fun h_39 => ?_) (fun h_39 => ?_)
      · refine tz_iinc (pc := 44) (z := 3) (L2 := [_, _, _, _, _, _, _]) dX12_wordFrom_44 rfl (by decide) rfl ?_
        refine tz_iload_n (pc := 47) dX12_wordFrom_47 rfl rfl ?_
        refine tz_istore (pc := 48) (L2 := [_, _, _, _, _, _, _]) dX12_wordFrom_48 (by decide) rfl ?_
        refine tz_iconst (pc := 50) dX12_wordFrom_50 ?_
        refine tz_istore (pc := 51) (L2 := [_, _, _, _, _, _, _]) dX12_wordFrom_51 (by decide) rfl ?_
        refine tz_goto (pc := 53) (tgt := 92) dX12_wordFrom_53 (by decide) ?_
        refine tz_iinc (pc := 92) (z := 17) (L2 := [_, _, _, _, _, _, _]) dX12_wordFrom_92 rfl (by decide) rfl ?_
        refine tz_goto (pc := 95) (tgt := 11) dX12_wordFrom_95 (by decide) ?_
        have nt : ¬ mtB (J 173) x y [114, 117, 108, 101] := fun q => by
          have q1 := he.2 q.1
          have q2 : y = x + 4 := q.2
          omega
        have g9 := s_17 1 (Or.inr rfl) ⟨fun _ => mp_0, fun _ => rfl⟩ (⟨nm.1, nm.2, nt⟩)
        rw [show x + 0 = x from Int.add_zero x] at g9
        exact g9
      · refine tz_iload_n (pc := 42) dX12_wordFrom_42 rfl rfl ?_
        exact tz_iret (pc := 43) (z := 2) dX12_wordFrom_43 rfl (Nat.le_of_ble_eq_true rfl) (Nat.le_of_ble_eq_true rfl) ⟨Nat.le_refl _, Nat.le_add_right _ _⟩ ⟨_, rfl, (by decide), ⟨rfl, Or.inr ⟨nm.1, Or.inr ⟨nm.2, Or.inl ⟨(show mtB (J 173) x y [114, 117, 108, 101] from ⟨he.1 (by omega), (show y = x + 4 by omega)⟩), rfl⟩⟩⟩⟩⟩
  have s_15 : ∀ e : Int, (e = 0 ∨ e = 1) → (e = 1 ↔ mpB (J 173) x y [114, 117, 108, 101] 3) → (¬ mtB (J 173) x y [115, 121, 109, 98, 111, 108] ∧ ¬ mtB (J 173) x y [116, 101, 114, 109]) → tz_At l G M_X12_wordFrom (tb_rm 1 0 0) none (tb_ZM G 0 0 (zQ n 0 (zqi (fun z J' => J = J' ∧ WD (J 173) x y z))) (zX n 0 zN)) 0 0 n J 11 [some (.ref 164), some (zi x), some (zi y), some (zi 2), some (zi (x + 3)), some (zi e), some (zi 15)] [] := by
    intro e h01 he nm
    refine tz_iload (pc := 11) dX12_wordFrom_11 rfl ?_
    refine tz_knL (pc := 13) dX12_wordFrom_13 dX12_wordFrom_16 (by decide +kernel) ?_
    refine tz_icmp_geF (pc := 17) (tgt := 98) (by decide) dX12_wordFrom_17 (by decide) (by decide) (by decide) ?_
    refine tz_knD (pc := 20) (k9 := 15) (v := 101) (by decide) (by decide) rfl dX12_wordFrom_20 dX12_wordFrom_23 dX12_wordFrom_25 (by decide +kernel) ?_
    refine tz_bipush (pc := 26) dX12_wordFrom_26 (by decide) ?_
    refine tz_icmp_neT (pc := 28) (tgt := 56) (by decide) dX12_wordFrom_28 (by decide) (by decide) (by decide) ?_
    refine tz_iload (pc := 56) dX12_wordFrom_56 rfl ?_
    refine tz_if_eq (pc := 58) (tgt := 86) dX12_wordFrom_58 (by decide) (by omega) (fun h_58 => ?_) (fun h_58 => ?_)
    · refine tz_iconst (pc := 86) dX12_wordFrom_86 ?_
      refine tz_istore (pc := 87) (L2 := [_, _, _, _, _, _, _]) dX12_wordFrom_87 (by decide) rfl ?_
      refine tz_iinc (pc := 89) (z := (x + 3) + 1) (L2 := [_, _, _, _, _, _, _]) dX12_wordFrom_89 rfl (by omega) rfl ?_
      refine tz_iinc (pc := 92) (z := 16) (L2 := [_, _, _, _, _, _, _]) dX12_wordFrom_92 rfl (by decide) rfl ?_
      refine tz_goto (pc := 95) (tgt := 11) dX12_wordFrom_95 (by decide) ?_
      have g9 := s_16 0 (by decide) ⟨fun q => absurd q (by decide), fun q => by have q1 := mp_p q; have q2 := he.2 q1.1; have q3 : x + 3 < y ∧ J 173 (x + 3) = 101 := q1.2; omega⟩ nm
      rw [show x + 4 = x + 3 + 1 by omega] at g9
      exact g9
    · refine tz_iload (pc := 61) dX12_wordFrom_61 rfl ?_
      refine tz_iload_n (pc := 63) dX12_wordFrom_63 rfl rfl ?_
      refine tz_icmp_ge (pc := 64) (tgt := 86) dX12_wordFrom_64 (by decide) (by omega) (by omega) (fun h_64 => ?_) (fun h_64 => ?_)
      · refine tz_iconst (pc := 86) dX12_wordFrom_86 ?_
        refine tz_istore (pc := 87) (L2 := [_, _, _, _, _, _, _]) dX12_wordFrom_87 (by decide) rfl ?_
        refine tz_iinc (pc := 89) (z := (x + 3) + 1) (L2 := [_, _, _, _, _, _, _]) dX12_wordFrom_89 rfl (by omega) rfl ?_
        refine tz_iinc (pc := 92) (z := 16) (L2 := [_, _, _, _, _, _, _]) dX12_wordFrom_92 rfl (by decide) rfl ?_
        refine tz_goto (pc := 95) (tgt := 11) dX12_wordFrom_95 (by decide) ?_
        have g9 := s_16 0 (by decide) ⟨fun q => absurd q (by decide), fun q => by have q1 := mp_p q; have q2 := he.2 q1.1; have q3 : x + 3 < y ∧ J 173 (x + 3) = 101 := q1.2; omega⟩ nm
        rw [show x + 4 = x + 3 + 1 by omega] at g9
        exact g9
      · refine tz_aload_n (pc := 67) dX12_wordFrom_67 rfl rfl ?_
        refine tz_iload (pc := 68) dX12_wordFrom_68 rfl ?_
        refine tz_cV (pc := 70) (m_byteAt hl n _ _ (by omega) (by omega) (by omega)) vl_X12_240 dX12_wordFrom_70 o_164 rfl rfl (Nat.le_of_ble_eq_true rfl) ⟨(Nat.le_of_ble_eq_true rfl), (Nat.le_of_ble_eq_true rfl)⟩ rfl rfl (Nat.le_of_ble_eq_true rfl) (Nat.le_of_ble_eq_true rfl) (fun r9 J_70 hq9 => ?_)
        obtain ⟨z_70, rfl, hz_70, rfl, hb70, hc70⟩ := hq9
        refine tz_knD (pc := 73) (k9 := 15) (v := 101) (by decide) (by decide) rfl dX12_wordFrom_73 dX12_wordFrom_76 dX12_wordFrom_78 (by decide +kernel) ?_
        refine tz_icmp_ne (pc := 79) (tgt := 86) dX12_wordFrom_79 (by decide) (by omega) (by decide) (fun h_79 => ?_) (fun h_79 => ?_)
        · refine tz_iconst (pc := 86) dX12_wordFrom_86 ?_
          refine tz_istore (pc := 87) (L2 := [_, _, _, _, _, _, _]) dX12_wordFrom_87 (by decide) rfl ?_
          refine tz_iinc (pc := 89) (z := (x + 3) + 1) (L2 := [_, _, _, _, _, _, _]) dX12_wordFrom_89 rfl (by omega) rfl ?_
          refine tz_iinc (pc := 92) (z := 16) (L2 := [_, _, _, _, _, _, _]) dX12_wordFrom_92 rfl (by decide) rfl ?_
          refine tz_goto (pc := 95) (tgt := 11) dX12_wordFrom_95 (by decide) ?_
          have g9 := s_16 0 (by decide) ⟨fun q => absurd q (by decide), fun q => by have q1 := mp_p q; have q2 := he.2 q1.1; have q3 : x + 3 < y ∧ J 173 (x + 3) = 101 := q1.2; omega⟩ nm
          rw [show x + 4 = x + 3 + 1 by omega] at g9
          exact g9
        · refine tz_iconst (pc := 82) dX12_wordFrom_82 ?_
          refine tz_goto (pc := 83) (tgt := 87) dX12_wordFrom_83 (by decide) ?_
          refine tz_istore (pc := 87) (L2 := [_, _, _, _, _, _, _]) dX12_wordFrom_87 (by decide) rfl ?_
          refine tz_iinc (pc := 89) (z := (x + 3) + 1) (L2 := [_, _, _, _, _, _, _]) dX12_wordFrom_89 rfl (by omega) rfl ?_
          refine tz_iinc (pc := 92) (z := 16) (L2 := [_, _, _, _, _, _, _]) dX12_wordFrom_92 rfl (by decide) rfl ?_
          refine tz_goto (pc := 95) (tgt := 11) dX12_wordFrom_95 (by decide) ?_
          have g9 := s_16 1 (by decide) ⟨fun _ => mp_s (he.1 (by omega)) (show x + 3 < y by omega) (show J 173 (x + 3) = 101 by omega), fun _ => rfl⟩ nm
          rw [show x + 4 = x + 3 + 1 by omega] at g9
          exact g9
  have s_14 : ∀ e : Int, (e = 0 ∨ e = 1) → (e = 1 ↔ mpB (J 173) x y [114, 117, 108, 101] 2) → (¬ mtB (J 173) x y [115, 121, 109, 98, 111, 108] ∧ ¬ mtB (J 173) x y [116, 101, 114, 109]) → tz_At l G M_X12_wordFrom (tb_rm 1 0 0) none (tb_ZM G 0 0 (zQ n 0 (zqi (fun z J' => J = J' ∧ WD (J 173) x y z))) (zX n 0 zN)) 0 0 n J 11 [some (.ref 164), some (zi x), some (zi y), some (zi 2), some (zi (x + 2)), some (zi e), some (zi 14)] [] := by
    intro e h01 he nm
    refine tz_iload (pc := 11) dX12_wordFrom_11 rfl ?_
    refine tz_knL (pc := 13) dX12_wordFrom_13 dX12_wordFrom_16 (by decide +kernel) ?_
    refine tz_icmp_geF (pc := 17) (tgt := 98) (by decide) dX12_wordFrom_17 (by decide) (by decide) (by decide) ?_
    refine tz_knD (pc := 20) (k9 := 14) (v := 108) (by decide) (by decide) rfl dX12_wordFrom_20 dX12_wordFrom_23 dX12_wordFrom_25 (by decide +kernel) ?_
    refine tz_bipush (pc := 26) dX12_wordFrom_26 (by decide) ?_
    refine tz_icmp_neT (pc := 28) (tgt := 56) (by decide) dX12_wordFrom_28 (by decide) (by decide) (by decide) ?_
    refine tz_iload (pc := 56) dX12_wordFrom_56 rfl ?_
    refine tz_if_eq (pc := 58) (tgt := 86) dX12_wordFrom_58 (by decide) (by omega) (fun h_58 => ?_) (fun h_58 => ?_)
    · refine tz_iconst (pc := 86) dX12_wordFrom_86 ?_
      refine tz_istore (pc := 87) (L2 := [_, _, _, _, _, _, _]) dX12_wordFrom_87 (by decide) rfl ?_
      refine tz_iinc (pc := 89) (z := (x + 2) + 1) (L2 := [_, _, _, _, _, _, _]) dX12_wordFrom_89 rfl (by omega) rfl ?_
      refine tz_iinc (pc := 92) (z := 15) (L2 := [_, _, _, _, _, _, _]) dX12_wordFrom_92 rfl (by decide) rfl ?_
      refine tz_goto (pc := 95) (tgt := 11) dX12_wordFrom_95 (by decide) ?_
      have g9 := s_15 0 (by decide) ⟨fun q => absurd q (by decide), fun q => by have q1 := mp_p q; have q2 := he.2 q1.1; have q3 : x + 2 < y ∧ J 173 (x + 2) = 108 := q1.2; omega⟩ nm
      rw [show x + 3 = x + 2 + 1 by omega] at g9
      exact g9
    · refine tz_iload (pc := 61) dX12_wordFrom_61 rfl ?_
      refine tz_iload_n (pc := 63) dX12_wordFrom_63 rfl rfl ?_
      refine tz_icmp_ge (pc := 64) (tgt := 86) dX12_wordFrom_64 (by decide) (by omega) (by omega) (fun h_64 => ?_) (fun h_64 => ?_)
      · refine tz_iconst (pc := 86) dX12_wordFrom_86 ?_
        refine tz_istore (pc := 87) (L2 := [_, _, _, _, _, _, _]) dX12_wordFrom_87 (by decide) rfl ?_
        refine tz_iinc (pc := 89) (z := (x + 2) + 1) (L2 := [_, _, _, _, _, _, _]) dX12_wordFrom_89 rfl (by omega) rfl ?_
        refine tz_iinc (pc := 92) (z := 15) (L2 := [_, _, _, _, _, _, _]) dX12_wordFrom_92 rfl (by decide) rfl ?_
        refine tz_goto (pc := 95) (tgt := 11) dX12_wordFrom_95 (by decide) ?_
        have g9 := s_15 0 (by decide) ⟨fun q => absurd q (by decide), fun q => by have q1 := mp_p q; have q2 := he.2 q1.1; have q3 : x + 2 < y ∧ J 173 (x + 2) = 108 := q1.2; omega⟩ nm
        rw [show x + 3 = x + 2 + 1 by omega] at g9
        exact g9
      · refine tz_aload_n (pc := 67) dX12_wordFrom_67 rfl rfl ?_
        refine tz_iload (pc := 68) dX12_wordFrom_68 rfl ?_
        refine tz_cV (pc := 70) (m_byteAt hl n _ _ (by omega) (by omega) (by omega)) vl_X12_240 dX12_wordFrom_70 o_164 rfl rfl (Nat.le_of_ble_eq_true rfl) ⟨(Nat.le_of_ble_eq_true rfl), (Nat.le_of_ble_eq_true rfl)⟩ rfl rfl (Nat.le_of_ble_eq_true rfl) (Nat.le_of_ble_eq_true rfl) (fun r9 J_70 hq9 => ?_)
        obtain ⟨z_70, rfl, hz_70, rfl, hb70, hc70⟩ := hq9
        refine tz_knD (pc := 73) (k9 := 14) (v := 108) (by decide) (by decide) rfl dX12_wordFrom_73 dX12_wordFrom_76 dX12_wordFrom_78 (by decide +kernel) ?_
        refine tz_icmp_ne (pc := 79) (tgt := 86) dX12_wordFrom_79 (by decide) (by omega) (by decide) (fun h_79 => ?_) (fun h_79 => ?_)
        · refine tz_iconst (pc := 86) dX12_wordFrom_86 ?_
          refine tz_istore (pc := 87) (L2 := [_, _, _, _, _, _, _]) dX12_wordFrom_87 (by decide) rfl ?_
          refine tz_iinc (pc := 89) (z := (x + 2) + 1) (L2 := [_, _, _, _, _, _, _]) dX12_wordFrom_89 rfl (by omega) rfl ?_
          refine tz_iinc (pc := 92) (z := 15) (L2 := [_, _, _, _, _, _, _]) dX12_wordFrom_92 rfl (by decide) rfl ?_
          refine tz_goto (pc := 95) (tgt := 11) dX12_wordFrom_95 (by decide) ?_
          have g9 := s_15 0 (by decide) ⟨fun q => absurd q (by decide), fun q => by have q1 := mp_p q; have q2 := he.2 q1.1; have q3 : x + 2 < y ∧ J 173 (x + 2) = 108 := q1.2; omega⟩ nm
          rw [show x + 3 = x + 2 + 1 by omega] at g9
          exact g9
        · refine tz_iconst (pc := 82) dX12_wordFrom_82 ?_
          refine tz_goto (pc := 83) (tgt := 87) dX12_wordFrom_83 (by decide) ?_
          refine tz_istore (pc := 87) (L2 := [_, _, _, _, _, _, _]) dX12_wordFrom_87 (by decide) rfl ?_
          refine tz_iinc (pc := 89) (z := (x + 2) + 1) (L2 := [_, _, _, _, _, _, _]) dX12_wordFrom_89 rfl (by omega) rfl ?_
          refine tz_iinc (pc := 92) (z := 15) (L2 := [_, _, _, _, _, _, _]) dX12_wordFrom_92 rfl (by decide) rfl ?_
          refine tz_goto (pc := 95) (tgt := 11) dX12_wordFrom_95 (by decide) ?_
          have g9 := s_15 1 (by decide) ⟨fun _ => mp_s (he.1 (by omega)) (show x + 2 < y by omega) (show J 173 (x + 2) = 108 by omega), fun _ => rfl⟩ nm
          rw [show x + 3 = x + 2 + 1 by omega] at g9
          exact g9
  have s_13 : ∀ e : Int, (e = 0 ∨ e = 1) → (e = 1 ↔ mpB (J 173) x y [114, 117, 108, 101] 1) → (¬ mtB (J 173) x y [115, 121, 109, 98, 111, 108] ∧ ¬ mtB (J 173) x y [116, 101, 114, 109]) → tz_At l G M_X12_wordFrom (tb_rm 1 0 0) none (tb_ZM G 0 0 (zQ n 0 (zqi (fun z J' => J = J' ∧ WD (J 173) x y z))) (zX n 0 zN)) 0 0 n J 11 [some (.ref 164), some (zi x), some (zi y), some (zi 2), some (zi (x + 1)), some (zi e), some (zi 13)] [] := by
    intro e h01 he nm
    refine tz_iload (pc := 11) dX12_wordFrom_11 rfl ?_
    refine tz_knL (pc := 13) dX12_wordFrom_13 dX12_wordFrom_16 (by decide +kernel) ?_
    refine tz_icmp_geF (pc := 17) (tgt := 98) (by decide) dX12_wordFrom_17 (by decide) (by decide) (by decide) ?_
    refine tz_knD (pc := 20) (k9 := 13) (v := 117) (by decide) (by decide) rfl dX12_wordFrom_20 dX12_wordFrom_23 dX12_wordFrom_25 (by decide +kernel) ?_
    refine tz_bipush (pc := 26) dX12_wordFrom_26 (by decide) ?_
    refine tz_icmp_neT (pc := 28) (tgt := 56) (by decide) dX12_wordFrom_28 (by decide) (by decide) (by decide) ?_
    refine tz_iload (pc := 56) dX12_wordFrom_56 rfl ?_
    refine tz_if_eq (pc := 58) (tgt := 86) dX12_wordFrom_58 (by decide) (by omega) (fun h_58 => ?_) (fun h_58 => ?_)
    · refine tz_iconst (pc := 86) dX12_wordFrom_86 ?_
      refine tz_istore (pc := 87) (L2 := [_, _, _, _, _, _, _]) dX12_wordFrom_87 (by decide) rfl ?_
      refine tz_iinc (pc := 89) (z := (x + 1) + 1) (L2 := [_, _, _, _, _, _, _]) dX12_wordFrom_89 rfl (by omega) rfl ?_
      refine tz_iinc (pc := 92) (z := 14) (L2 := [_, _, _, _, _, _, _]) dX12_wordFrom_92 rfl (by decide) rfl ?_
      refine tz_goto (pc := 95) (tgt := 11) dX12_wordFrom_95 (by decide) ?_
      have g9 := s_14 0 (by decide) ⟨fun q => absurd q (by decide), fun q => by have q1 := mp_p q; have q2 := he.2 q1.1; have q3 : x + 1 < y ∧ J 173 (x + 1) = 117 := q1.2; omega⟩ nm
      rw [show x + 2 = x + 1 + 1 by omega] at g9
      exact g9
    · refine tz_iload (pc := 61) dX12_wordFrom_61 rfl ?_
      refine tz_iload_n (pc := 63) dX12_wordFrom_63 rfl rfl ?_
      refine tz_icmp_ge (pc := 64) (tgt := 86) dX12_wordFrom_64 (by decide) (by omega) (by omega) (fun h_64 => ?_) (fun h_64 => ?_)
      · refine tz_iconst (pc := 86) dX12_wordFrom_86 ?_
        refine tz_istore (pc := 87) (L2 := [_, _, _, _, _, _, _]) dX12_wordFrom_87 (by decide) rfl ?_
        refine tz_iinc (pc := 89) (z := (x + 1) + 1) (L2 := [_, _, _, _, _, _, _]) dX12_wordFrom_89 rfl (by omega) rfl ?_
        refine tz_iinc (pc := 92) (z := 14) (L2 := [_, _, _, _, _, _, _]) dX12_wordFrom_92 rfl (by decide) rfl ?_
        refine tz_goto (pc := 95) (tgt := 11) dX12_wordFrom_95 (by decide) ?_
        have g9 := s_14 0 (by decide) ⟨fun q => absurd q (by decide), fun q => by have q1 := mp_p q; have q2 := he.2 q1.1; have q3 : x + 1 < y ∧ J 173 (x + 1) = 117 := q1.2; omega⟩ nm
        rw [show x + 2 = x + 1 + 1 by omega] at g9
        exact g9
      · refine tz_aload_n (pc := 67) dX12_wordFrom_67 rfl rfl ?_
        refine tz_iload (pc := 68) dX12_wordFrom_68 rfl ?_
        refine tz_cV (pc := 70) (m_byteAt hl n _ _ (by omega) (by omega) (by omega)) vl_X12_240 dX12_wordFrom_70 o_164 rfl rfl (Nat.le_of_ble_eq_true rfl) ⟨(Nat.le_of_ble_eq_true rfl), (Nat.le_of_ble_eq_true rfl)⟩ rfl rfl (Nat.le_of_ble_eq_true rfl) (Nat.le_of_ble_eq_true rfl) (fun r9 J_70 hq9 => ?_)
        obtain ⟨z_70, rfl, hz_70, rfl, hb70, hc70⟩ := hq9
        refine tz_knD (pc := 73) (k9 := 13) (v := 117) (by decide) (by decide) rfl dX12_wordFrom_73 dX12_wordFrom_76 dX12_wordFrom_78 (by decide +kernel) ?_
        refine tz_icmp_ne (pc := 79) (tgt := 86) dX12_wordFrom_79 (by decide) (by omega) (by decide) (fun h_79 => ?_) (fun h_79 => ?_)
        · refine tz_iconst (pc := 86) dX12_wordFrom_86 ?_
          refine tz_istore (pc := 87) (L2 := [_, _, _, _, _, _, _]) dX12_wordFrom_87 (by decide) rfl ?_
          refine tz_iinc (pc := 89) (z := (x + 1) + 1) (L2 := [_, _, _, _, _, _, _]) dX12_wordFrom_89 rfl (by omega) rfl ?_
          refine tz_iinc (pc := 92) (z := 14) (L2 := [_, _, _, _, _, _, _]) dX12_wordFrom_92 rfl (by decide) rfl ?_
          refine tz_goto (pc := 95) (tgt := 11) dX12_wordFrom_95 (by decide) ?_
          have g9 := s_14 0 (by decide) ⟨fun q => absurd q (by decide), fun q => by have q1 := mp_p q; have q2 := he.2 q1.1; have q3 : x + 1 < y ∧ J 173 (x + 1) = 117 := q1.2; omega⟩ nm
          rw [show x + 2 = x + 1 + 1 by omega] at g9
          exact g9
        · refine tz_iconst (pc := 82) dX12_wordFrom_82 ?_
          refine tz_goto (pc := 83) (tgt := 87) dX12_wordFrom_83 (by decide) ?_
          refine tz_istore (pc := 87) (L2 := [_, _, _, _, _, _, _]) dX12_wordFrom_87 (by decide) rfl ?_
          refine tz_iinc (pc := 89) (z := (x + 1) + 1) (L2 := [_, _, _, _, _, _, _]) dX12_wordFrom_89 rfl (by omega) rfl ?_
          refine tz_iinc (pc := 92) (z := 14) (L2 := [_, _, _, _, _, _, _]) dX12_wordFrom_92 rfl (by decide) rfl ?_
          refine tz_goto (pc := 95) (tgt := 11) dX12_wordFrom_95 (by decide) ?_
          have g9 := s_14 1 (by decide) ⟨fun _ => mp_s (he.1 (by omega)) (show x + 1 < y by omega) (show J 173 (x + 1) = 117 by omega), fun _ => rfl⟩ nm
          rw [show x + 2 = x + 1 + 1 by omega] at g9
          exact g9
  have s_12 : ∀ e : Int, (e = 0 ∨ e = 1) → (e = 1 ↔ mpB (J 173) x y [114, 117, 108, 101] 0) → (¬ mtB (J 173) x y [115, 121, 109, 98, 111, 108] ∧ ¬ mtB (J 173) x y [116, 101, 114, 109]) → tz_At l G M_X12_wordFrom (tb_rm 1 0 0) none (tb_ZM G 0 0 (zQ n 0 (zqi (fun z J' => J = J' ∧ WD (J 173) x y z))) (zX n 0 zN)) 0 0 n J 11 [some (.ref 164), some (zi x), some (zi y), some (zi 2), some (zi (x + 0)), some (zi e), some (zi 12)] [] := by
    intro e h01 he nm
    refine tz_iload (pc := 11) dX12_wordFrom_11 rfl ?_
    refine tz_knL (pc := 13) dX12_wordFrom_13 dX12_wordFrom_16 (by decide +kernel) ?_
    refine tz_icmp_geF (pc := 17) (tgt := 98) (by decide) dX12_wordFrom_17 (by decide) (by decide) (by decide) ?_
    refine tz_knD (pc := 20) (k9 := 12) (v := 114) (by decide) (by decide) rfl dX12_wordFrom_20 dX12_wordFrom_23 dX12_wordFrom_25 (by decide +kernel) ?_
    refine tz_bipush (pc := 26) dX12_wordFrom_26 (by decide) ?_
    refine tz_icmp_neT (pc := 28) (tgt := 56) (by decide) dX12_wordFrom_28 (by decide) (by decide) (by decide) ?_
    refine tz_iload (pc := 56) dX12_wordFrom_56 rfl ?_
    refine tz_if_eq (pc := 58) (tgt := 86) dX12_wordFrom_58 (by decide) (by omega) (fun h_58 => ?_) (fun h_58 => ?_)
    · refine tz_iconst (pc := 86) dX12_wordFrom_86 ?_
      refine tz_istore (pc := 87) (L2 := [_, _, _, _, _, _, _]) dX12_wordFrom_87 (by decide) rfl ?_
      refine tz_iinc (pc := 89) (z := (x + 0) + 1) (L2 := [_, _, _, _, _, _, _]) dX12_wordFrom_89 rfl (by omega) rfl ?_
      refine tz_iinc (pc := 92) (z := 13) (L2 := [_, _, _, _, _, _, _]) dX12_wordFrom_92 rfl (by decide) rfl ?_
      refine tz_goto (pc := 95) (tgt := 11) dX12_wordFrom_95 (by decide) ?_
      have g9 := s_13 0 (by decide) ⟨fun q => absurd q (by decide), fun q => by have q1 := mp_p q; have q2 := he.2 q1.1; have q3 : x + 0 < y ∧ J 173 (x + 0) = 114 := q1.2; omega⟩ nm
      rw [show x + 1 = x + 0 + 1 by omega] at g9
      exact g9
    · refine tz_iload (pc := 61) dX12_wordFrom_61 rfl ?_
      refine tz_iload_n (pc := 63) dX12_wordFrom_63 rfl rfl ?_
      refine tz_icmp_ge (pc := 64) (tgt := 86) dX12_wordFrom_64 (by decide) (by omega) (by omega) (fun h_64 => ?_) (fun h_64 => ?_)
      · refine tz_iconst (pc := 86) dX12_wordFrom_86 ?_
        refine tz_istore (pc := 87) (L2 := [_, _, _, _, _, _, _]) dX12_wordFrom_87 (by decide) rfl ?_
        refine tz_iinc (pc := 89) (z := (x + 0) + 1) (L2 := [_, _, _, _, _, _, _]) dX12_wordFrom_89 rfl (by omega) rfl ?_
        refine tz_iinc (pc := 92) (z := 13) (L2 := [_, _, _, _, _, _, _]) dX12_wordFrom_92 rfl (by decide) rfl ?_
        refine tz_goto (pc := 95) (tgt := 11) dX12_wordFrom_95 (by decide) ?_
        have g9 := s_13 0 (by decide) ⟨fun q => absurd q (by decide), fun q => by have q1 := mp_p q; have q2 := he.2 q1.1; have q3 : x + 0 < y ∧ J 173 (x + 0) = 114 := q1.2; omega⟩ nm
        rw [show x + 1 = x + 0 + 1 by omega] at g9
        exact g9
      · refine tz_aload_n (pc := 67) dX12_wordFrom_67 rfl rfl ?_
        refine tz_iload (pc := 68) dX12_wordFrom_68 rfl ?_
        refine tz_cV (pc := 70) (m_byteAt hl n _ _ (by omega) (by omega) (by omega)) vl_X12_240 dX12_wordFrom_70 o_164 rfl rfl (Nat.le_of_ble_eq_true rfl) ⟨(Nat.le_of_ble_eq_true rfl), (Nat.le_of_ble_eq_true rfl)⟩ rfl rfl (Nat.le_of_ble_eq_true rfl) (Nat.le_of_ble_eq_true rfl) (fun r9 J_70 hq9 => ?_)
        obtain ⟨z_70, rfl, hz_70, rfl, hb70, hc70⟩ := hq9
        refine tz_knD (pc := 73) (k9 := 12) (v := 114) (by decide) (by decide) rfl dX12_wordFrom_73 dX12_wordFrom_76 dX12_wordFrom_78 (by decide +kernel) ?_
        refine tz_icmp_ne (pc := 79) (tgt := 86) dX12_wordFrom_79 (by decide) (by omega) (by decide) (fun h_79 => ?_) (fun h_79 => ?_)
        · refine tz_iconst (pc := 86) dX12_wordFrom_86 ?_
          refine tz_istore (pc := 87) (L2 := [_, _, _, _, _, _, _]) dX12_wordFrom_87 (by decide) rfl ?_
          refine tz_iinc (pc := 89) (z := (x + 0) + 1) (L2 := [_, _, _, _, _, _, _]) dX12_wordFrom_89 rfl (by omega) rfl ?_
          refine tz_iinc (pc := 92) (z := 13) (L2 := [_, _, _, _, _, _, _]) dX12_wordFrom_92 rfl (by decide) rfl ?_
          refine tz_goto (pc := 95) (tgt := 11) dX12_wordFrom_95 (by decide) ?_
          have g9 := s_13 0 (by decide) ⟨fun q => absurd q (by decide), fun q => by have q1 := mp_p q; have q2 := he.2 q1.1; have q3 : x + 0 < y ∧ J 173 (x + 0) = 114 := q1.2; omega⟩ nm
          rw [show x + 1 = x + 0 + 1 by omega] at g9
          exact g9
        · refine tz_iconst (pc := 82) dX12_wordFrom_82 ?_
          refine tz_goto (pc := 83) (tgt := 87) dX12_wordFrom_83 (by decide) ?_
          refine tz_istore (pc := 87) (L2 := [_, _, _, _, _, _, _]) dX12_wordFrom_87 (by decide) rfl ?_
          refine tz_iinc (pc := 89) (z := (x + 0) + 1) (L2 := [_, _, _, _, _, _, _]) dX12_wordFrom_89 rfl (by omega) rfl ?_
          refine tz_iinc (pc := 92) (z := 13) (L2 := [_, _, _, _, _, _, _]) dX12_wordFrom_92 rfl (by decide) rfl ?_
          refine tz_goto (pc := 95) (tgt := 11) dX12_wordFrom_95 (by decide) ?_
          have g9 := s_13 1 (by decide) ⟨fun _ => mp_s (he.1 (by omega)) (show x + 0 < y by omega) (show J 173 (x + 0) = 114 by omega), fun _ => rfl⟩ nm
          rw [show x + 1 = x + 0 + 1 by omega] at g9
          exact g9
  have s_11 : ∀ e : Int, (e = 0 ∨ e = 1) → (e = 1 ↔ mpB (J 173) x y [116, 101, 114, 109] 4) → (¬ mtB (J 173) x y [115, 121, 109, 98, 111, 108]) → tz_At l G M_X12_wordFrom (tb_rm 1 0 0) none (tb_ZM G 0 0 (zQ n 0 (zqi (fun z J' => J = J' ∧ WD (J 173) x y z))) (zX n 0 zN)) 0 0 n J 11 [some (.ref 164), some (zi x), some (zi y), some (zi 1), some (zi (x + 4)), some (zi e), some (zi 11)] [] := by
    intro e h01 he nm
    refine tz_iload (pc := 11) dX12_wordFrom_11 rfl ?_
    refine tz_knL (pc := 13) dX12_wordFrom_13 dX12_wordFrom_16 (by decide +kernel) ?_
    refine tz_icmp_geF (pc := 17) (tgt := 98) (by decide) dX12_wordFrom_17 (by decide) (by decide) (by decide) ?_
    refine tz_knD (pc := 20) (k9 := 11) (v := 32) (by decide) (by decide) rfl dX12_wordFrom_20 dX12_wordFrom_23 dX12_wordFrom_25 (by decide +kernel) ?_
    refine tz_bipush (pc := 26) dX12_wordFrom_26 (by decide) ?_
    refine tz_icmp_neF (pc := 28) (tgt := 56) (by decide) dX12_wordFrom_28 (by decide) (by decide) (by decide) ?_
    refine tz_iload (pc := 31) dX12_wordFrom_31 rfl ?_
    refine tz_if_eq (pc := 33) (tgt := 44) dX12_wordFrom_33 (by decide) (by omega) (fun h_33 => ?_) (fun h_33 => ?_)
    · refine tz_iinc (pc := 44) (z := 2) (L2 := [_, _, _, _, _, _, _]) dX12_wordFrom_44 rfl (by decide) rfl ?_
      refine tz_iload_n (pc := 47) dX12_wordFrom_47 rfl rfl ?_
      refine tz_istore (pc := 48) (L2 := [_, _, _, _, _, _, _]) dX12_wordFrom_48 (by decide) rfl ?_
      refine tz_iconst (pc := 50) dX12_wordFrom_50 ?_
      refine tz_istore (pc := 51) (L2 := [_, _, _, _, _, _, _]) dX12_wordFrom_51 (by decide) rfl ?_
      refine tz_goto (pc := 53) (tgt := 92) dX12_wordFrom_53 (by decide) ?_
      refine tz_iinc (pc := 92) (z := 12) (L2 := [_, _, _, _, _, _, _]) dX12_wordFrom_92 rfl (by decide) rfl ?_
      refine tz_goto (pc := 95) (tgt := 11) dX12_wordFrom_95 (by decide) ?_
      have nt : ¬ mtB (J 173) x y [116, 101, 114, 109] := fun q => by
        have q1 := he.2 q.1
        have q2 : y = x + 4 := q.2
        omega
      have g9 := s_12 1 (Or.inr rfl) ⟨fun _ => mp_0, fun _ => rfl⟩ (⟨nm, nt⟩)
      rw [show x + 0 = x from Int.add_zero x] at g9
      exact g9
    · refine tz_iload (pc := 36) dX12_wordFrom_36 rfl ?_
      refine tz_iload_n (pc := 38) dX12_wordFrom_38 rfl rfl ?_
      refine tz_icmp_ne (pc := 39) (tgt := 44) dX12_wordFrom_39 (by decide) (by omega) (by omega) (fun h_39 => ?_) (fun h_39 => ?_)
      · refine tz_iinc (pc := 44) (z := 2) (L2 := [_, _, _, _, _, _, _]) dX12_wordFrom_44 rfl (by decide) rfl ?_
        refine tz_iload_n (pc := 47) dX12_wordFrom_47 rfl rfl ?_
        refine tz_istore (pc := 48) (L2 := [_, _, _, _, _, _, _]) dX12_wordFrom_48 (by decide) rfl ?_
        refine tz_iconst (pc := 50) dX12_wordFrom_50 ?_
        refine tz_istore (pc := 51) (L2 := [_, _, _, _, _, _, _]) dX12_wordFrom_51 (by decide) rfl ?_
        refine tz_goto (pc := 53) (tgt := 92) dX12_wordFrom_53 (by decide) ?_
        refine tz_iinc (pc := 92) (z := 12) (L2 := [_, _, _, _, _, _, _]) dX12_wordFrom_92 rfl (by decide) rfl ?_
        refine tz_goto (pc := 95) (tgt := 11) dX12_wordFrom_95 (by decide) ?_
        have nt : ¬ mtB (J 173) x y [116, 101, 114, 109] := fun q => by
          have q1 := he.2 q.1
          have q2 : y = x + 4 := q.2
          omega
        have g9 := s_12 1 (Or.inr rfl) ⟨fun _ => mp_0, fun _ => rfl⟩ (⟨nm, nt⟩)
        rw [show x + 0 = x from Int.add_zero x] at g9
        exact g9
      · refine tz_iload_n (pc := 42) dX12_wordFrom_42 rfl rfl ?_
        exact tz_iret (pc := 43) (z := 1) dX12_wordFrom_43 rfl (Nat.le_of_ble_eq_true rfl) (Nat.le_of_ble_eq_true rfl) ⟨Nat.le_refl _, Nat.le_add_right _ _⟩ ⟨_, rfl, (by decide), ⟨rfl, Or.inr ⟨nm, Or.inl ⟨(show mtB (J 173) x y [116, 101, 114, 109] from ⟨he.1 (by omega), (show y = x + 4 by omega)⟩), rfl⟩⟩⟩⟩
  have s_10 : ∀ e : Int, (e = 0 ∨ e = 1) → (e = 1 ↔ mpB (J 173) x y [116, 101, 114, 109] 3) → (¬ mtB (J 173) x y [115, 121, 109, 98, 111, 108]) → tz_At l G M_X12_wordFrom (tb_rm 1 0 0) none (tb_ZM G 0 0 (zQ n 0 (zqi (fun z J' => J = J' ∧ WD (J 173) x y z))) (zX n 0 zN)) 0 0 n J 11 [some (.ref 164), some (zi x), some (zi y), some (zi 1), some (zi (x + 3)), some (zi e), some (zi 10)] [] := by
    intro e h01 he nm
    refine tz_iload (pc := 11) dX12_wordFrom_11 rfl ?_
    refine tz_knL (pc := 13) dX12_wordFrom_13 dX12_wordFrom_16 (by decide +kernel) ?_
    refine tz_icmp_geF (pc := 17) (tgt := 98) (by decide) dX12_wordFrom_17 (by decide) (by decide) (by decide) ?_
    refine tz_knD (pc := 20) (k9 := 10) (v := 109) (by decide) (by decide) rfl dX12_wordFrom_20 dX12_wordFrom_23 dX12_wordFrom_25 (by decide +kernel) ?_
    refine tz_bipush (pc := 26) dX12_wordFrom_26 (by decide) ?_
    refine tz_icmp_neT (pc := 28) (tgt := 56) (by decide) dX12_wordFrom_28 (by decide) (by decide) (by decide) ?_
    refine tz_iload (pc := 56) dX12_wordFrom_56 rfl ?_
    refine tz_if_eq (pc := 58) (tgt := 86) dX12_wordFrom_58 (by decide) (by omega) (fun h_58 => ?_) (fun h_58 => ?_)
    · refine tz_iconst (pc := 86) dX12_wordFrom_86 ?_
      refine tz_istore (pc := 87) (L2 := [_, _, _, _, _, _, _]) dX12_wordFrom_87 (by decide) rfl ?_
      refine tz_iinc (pc := 89) (z := (x + 3) + 1) (L2 := [_, _, _, _, _, _, _]) dX12_wordFrom_89 rfl (by omega) rfl ?_
      refine tz_iinc (pc := 92) (z := 11) (L2 := [_, _, _, _, _, _, _]) dX12_wordFrom_92 rfl (by decide) rfl ?_
      refine tz_goto (pc := 95) (tgt := 11) dX12_wordFrom_95 (by decide) ?_
      have g9 := s_11 0 (by decide) ⟨fun q => absurd q (by decide), fun q => by have q1 := mp_p q; have q2 := he.2 q1.1; have q3 : x + 3 < y ∧ J 173 (x + 3) = 109 := q1.2; omega⟩ nm
      rw [show x + 4 = x + 3 + 1 by omega] at g9
      exact g9
    · refine tz_iload (pc := 61) dX12_wordFrom_61 rfl ?_
      refine tz_iload_n (pc := 63) dX12_wordFrom_63 rfl rfl ?_
      refine tz_icmp_ge (pc := 64) (tgt := 86) dX12_wordFrom_64 (by decide) (by omega) (by omega) (fun h_64 => ?_) (fun h_64 => ?_)
      · refine tz_iconst (pc := 86) dX12_wordFrom_86 ?_
        refine tz_istore (pc := 87) (L2 := [_, _, _, _, _, _, _]) dX12_wordFrom_87 (by decide) rfl ?_
        refine tz_iinc (pc := 89) (z := (x + 3) + 1) (L2 := [_, _, _, _, _, _, _]) dX12_wordFrom_89 rfl (by omega) rfl ?_
        refine tz_iinc (pc := 92) (z := 11) (L2 := [_, _, _, _, _, _, _]) dX12_wordFrom_92 rfl (by decide) rfl ?_
        refine tz_goto (pc := 95) (tgt := 11) dX12_wordFrom_95 (by decide) ?_
        have g9 := s_11 0 (by decide) ⟨fun q => absurd q (by decide), fun q => by have q1 := mp_p q; have q2 := he.2 q1.1; have q3 : x + 3 < y ∧ J 173 (x + 3) = 109 := q1.2; omega⟩ nm
        rw [show x + 4 = x + 3 + 1 by omega] at g9
        exact g9
      · refine tz_aload_n (pc := 67) dX12_wordFrom_67 rfl rfl ?_
        refine tz_iload (pc := 68) dX12_wordFrom_68 rfl ?_
        refine tz_cV (pc := 70) (m_byteAt hl n _ _ (by omega) (by omega) (by omega)) vl_X12_240 dX12_wordFrom_70 o_164 rfl rfl (Nat.le_of_ble_eq_true rfl) ⟨(Nat.le_of_ble_eq_true rfl), (Nat.le_of_ble_eq_true rfl)⟩ rfl rfl (Nat.le_of_ble_eq_true rfl) (Nat.le_of_ble_eq_true rfl) (fun r9 J_70 hq9 => ?_)
        obtain ⟨z_70, rfl, hz_70, rfl, hb70, hc70⟩ := hq9
        refine tz_knD (pc := 73) (k9 := 10) (v := 109) (by decide) (by decide) rfl dX12_wordFrom_73 dX12_wordFrom_76 dX12_wordFrom_78 (by decide +kernel) ?_
        refine tz_icmp_ne (pc := 79) (tgt := 86) dX12_wordFrom_79 (by decide) (by omega) (by decide) (fun h_79 => ?_) (fun h_79 => ?_)
        · refine tz_iconst (pc := 86) dX12_wordFrom_86 ?_
          refine tz_istore (pc := 87) (L2 := [_, _, _, _, _, _, _]) dX12_wordFrom_87 (by decide) rfl ?_
          refine tz_iinc (pc := 89) (z := (x + 3) + 1) (L2 := [_, _, _, _, _, _, _]) dX12_wordFrom_89 rfl (by omega) rfl ?_
          refine tz_iinc (pc := 92) (z := 11) (L2 := [_, _, _, _, _, _, _]) dX12_wordFrom_92 rfl (by decide) rfl ?_
          refine tz_goto (pc := 95) (tgt := 11) dX12_wordFrom_95 (by decide) ?_
          have g9 := s_11 0 (by decide) ⟨fun q => absurd q (by decide), fun q => by have q1 := mp_p q; have q2 := he.2 q1.1; have q3 : x + 3 < y ∧ J 173 (x + 3) = 109 := q1.2; omega⟩ nm
          rw [show x + 4 = x + 3 + 1 by omega] at g9
          exact g9
        · refine tz_iconst (pc := 82) dX12_wordFrom_82 ?_
          refine tz_goto (pc := 83) (tgt := 87) dX12_wordFrom_83 (by decide) ?_
          refine tz_istore (pc := 87) (L2 := [_, _, _, _, _, _, _]) dX12_wordFrom_87 (by decide) rfl ?_
          refine tz_iinc (pc := 89) (z := (x + 3) + 1) (L2 := [_, _, _, _, _, _, _]) dX12_wordFrom_89 rfl (by omega) rfl ?_
          refine tz_iinc (pc := 92) (z := 11) (L2 := [_, _, _, _, _, _, _]) dX12_wordFrom_92 rfl (by decide) rfl ?_
          refine tz_goto (pc := 95) (tgt := 11) dX12_wordFrom_95 (by decide) ?_
          have g9 := s_11 1 (by decide) ⟨fun _ => mp_s (he.1 (by omega)) (show x + 3 < y by omega) (show J 173 (x + 3) = 109 by omega), fun _ => rfl⟩ nm
          rw [show x + 4 = x + 3 + 1 by omega] at g9
          exact g9
  have s_9 : ∀ e : Int, (e = 0 ∨ e = 1) → (e = 1 ↔ mpB (J 173) x y [116, 101, 114, 109] 2) → (¬ mtB (J 173) x y [115, 121, 109, 98, 111, 108]) → tz_At l G M_X12_wordFrom (tb_rm 1 0 0) none (tb_ZM G 0 0 (zQ n 0 (zqi (fun z J' => J = J' ∧ WD (J 173) x y z))) (zX n 0 zN)) 0 0 n J 11 [some (.ref 164), some (zi x), some (zi y), some (zi 1), some (zi (x + 2)), some (zi e), some (zi 9)] [] := by
    intro e h01 he nm
    refine tz_iload (pc := 11) dX12_wordFrom_11 rfl ?_
    refine tz_knL (pc := 13) dX12_wordFrom_13 dX12_wordFrom_16 (by decide +kernel) ?_
    refine tz_icmp_geF (pc := 17) (tgt := 98) (by decide) dX12_wordFrom_17 (by decide) (by decide) (by decide) ?_
    refine tz_knD (pc := 20) (k9 := 9) (v := 114) (by decide) (by decide) rfl dX12_wordFrom_20 dX12_wordFrom_23 dX12_wordFrom_25 (by decide +kernel) ?_
    refine tz_bipush (pc := 26) dX12_wordFrom_26 (by decide) ?_
    refine tz_icmp_neT (pc := 28) (tgt := 56) (by decide) dX12_wordFrom_28 (by decide) (by decide) (by decide) ?_
    refine tz_iload (pc := 56) dX12_wordFrom_56 rfl ?_
    refine tz_if_eq (pc := 58) (tgt := 86) dX12_wordFrom_58 (by decide) (by omega) (fun h_58 => ?_) (fun h_58 => ?_)
    · refine tz_iconst (pc := 86) dX12_wordFrom_86 ?_
      refine tz_istore (pc := 87) (L2 := [_, _, _, _, _, _, _]) dX12_wordFrom_87 (by decide) rfl ?_
      refine tz_iinc (pc := 89) (z := (x + 2) + 1) (L2 := [_, _, _, _, _, _, _]) dX12_wordFrom_89 rfl (by omega) rfl ?_
      refine tz_iinc (pc := 92) (z := 10) (L2 := [_, _, _, _, _, _, _]) dX12_wordFrom_92 rfl (by decide) rfl ?_
      refine tz_goto (pc := 95) (tgt := 11) dX12_wordFrom_95 (by decide) ?_
      have g9 := s_10 0 (by decide) ⟨fun q => absurd q (by decide), fun q => by have q1 := mp_p q; have q2 := he.2 q1.1; have q3 : x + 2 < y ∧ J 173 (x + 2) = 114 := q1.2; omega⟩ nm
      rw [show x + 3 = x + 2 + 1 by omega] at g9
      exact g9
    · refine tz_iload (pc := 61) dX12_wordFrom_61 rfl ?_
      refine tz_iload_n (pc := 63) dX12_wordFrom_63 rfl rfl ?_
      refine tz_icmp_ge (pc := 64) (tgt := 86) dX12_wordFrom_64 (by decide) (by omega) (by omega) (fun h_64 => ?_) (fun h_64 => ?_)
      · refine tz_iconst (pc := 86) dX12_wordFrom_86 ?_
        refine tz_istore (pc := 87) (L2 := [_, _, _, _, _, _, _]) dX12_wordFrom_87 (by decide) rfl ?_
        refine tz_iinc (pc := 89) (z := (x + 2) + 1) (L2 := [_, _, _, _, _, _, _]) dX12_wordFrom_89 rfl (by omega) rfl ?_
        refine tz_iinc (pc := 92) (z := 10) (L2 := [_, _, _, _, _, _, _]) dX12_wordFrom_92 rfl (by decide) rfl ?_
        refine tz_goto (pc := 95) (tgt := 11) dX12_wordFrom_95 (by decide) ?_
        have g9 := s_10 0 (by decide) ⟨fun q => absurd q (by decide), fun q => by have q1 := mp_p q; have q2 := he.2 q1.1; have q3 : x + 2 < y ∧ J 173 (x + 2) = 114 := q1.2; omega⟩ nm
        rw [show x + 3 = x + 2 + 1 by omega] at g9
        exact g9
      · refine tz_aload_n (pc := 67) dX12_wordFrom_67 rfl rfl ?_
        refine tz_iload (pc := 68) dX12_wordFrom_68 rfl ?_
        refine tz_cV (pc := 70) (m_byteAt hl n _ _ (by omega) (by omega) (by omega)) vl_X12_240 dX12_wordFrom_70 o_164 rfl rfl (Nat.le_of_ble_eq_true rfl) ⟨(Nat.le_of_ble_eq_true rfl), (Nat.le_of_ble_eq_true rfl)⟩ rfl rfl (Nat.le_of_ble_eq_true rfl) (Nat.le_of_ble_eq_true rfl) (fun r9 J_70 hq9 => ?_)
        obtain ⟨z_70, rfl, hz_70, rfl, hb70, hc70⟩ := hq9
        refine tz_knD (pc := 73) (k9 := 9) (v := 114) (by decide) (by decide) rfl dX12_wordFrom_73 dX12_wordFrom_76 dX12_wordFrom_78 (by decide +kernel) ?_
        refine tz_icmp_ne (pc := 79) (tgt := 86) dX12_wordFrom_79 (by decide) (by omega) (by decide) (fun h_79 => ?_) (fun h_79 => ?_)
        · refine tz_iconst (pc := 86) dX12_wordFrom_86 ?_
          refine tz_istore (pc := 87) (L2 := [_, _, _, _, _, _, _]) dX12_wordFrom_87 (by decide) rfl ?_
          refine tz_iinc (pc := 89) (z := (x + 2) + 1) (L2 := [_, _, _, _, _, _, _]) dX12_wordFrom_89 rfl (by omega) rfl ?_
          refine tz_iinc (pc := 92) (z := 10) (L2 := [_, _, _, _, _, _, _]) dX12_wordFrom_92 rfl (by decide) rfl ?_
          refine tz_goto (pc := 95) (tgt := 11) dX12_wordFrom_95 (by decide) ?_
          have g9 := s_10 0 (by decide) ⟨fun q => absurd q (by decide), fun q => by have q1 := mp_p q; have q2 := he.2 q1.1; have q3 : x + 2 < y ∧ J 173 (x + 2) = 114 := q1.2; omega⟩ nm
          rw [show x + 3 = x + 2 + 1 by omega] at g9
          exact g9
        · refine tz_iconst (pc := 82) dX12_wordFrom_82 ?_
          refine tz_goto (pc := 83) (tgt := 87) dX12_wordFrom_83 (by decide) ?_
          refine tz_istore (pc := 87) (L2 := [_, _, _, _, _, _, _]) dX12_wordFrom_87 (by decide) rfl ?_
          refine tz_iinc (pc := 89) (z := (x + 2) + 1) (L2 := [_, _, _, _, _, _, _]) dX12_wordFrom_89 rfl (by omega) rfl ?_
          refine tz_iinc (pc := 92) (z := 10) (L2 := [_, _, _, _, _, _, _]) dX12_wordFrom_92 rfl (by decide) rfl ?_
          refine tz_goto (pc := 95) (tgt := 11) dX12_wordFrom_95 (by decide) ?_
          have g9 := s_10 1 (by decide) ⟨fun _ => mp_s (he.1 (by omega)) (show x + 2 < y by omega) (show J 173 (x + 2) = 114 by omega), fun _ => rfl⟩ nm
          rw [show x + 3 = x + 2 + 1 by omega] at g9
          exact g9
  have s_8 : ∀ e : Int, (e = 0 ∨ e = 1) → (e = 1 ↔ mpB (J 173) x y [116, 101, 114, 109] 1) → (¬ mtB (J 173) x y [115, 121, 109, 98, 111, 108]) → tz_At l G M_X12_wordFrom (tb_rm 1 0 0) none (tb_ZM G 0 0 (zQ n 0 (zqi (fun z J' => J = J' ∧ WD (J 173) x y z))) (zX n 0 zN)) 0 0 n J 11 [some (.ref 164), some (zi x), some (zi y), some (zi 1), some (zi (x + 1)), some (zi e), some (zi 8)] [] := by
    intro e h01 he nm
    refine tz_iload (pc := 11) dX12_wordFrom_11 rfl ?_
    refine tz_knL (pc := 13) dX12_wordFrom_13 dX12_wordFrom_16 (by decide +kernel) ?_
    refine tz_icmp_geF (pc := 17) (tgt := 98) (by decide) dX12_wordFrom_17 (by decide) (by decide) (by decide) ?_
    refine tz_knD (pc := 20) (k9 := 8) (v := 101) (by decide) (by decide) rfl dX12_wordFrom_20 dX12_wordFrom_23 dX12_wordFrom_25 (by decide +kernel) ?_
    refine tz_bipush (pc := 26) dX12_wordFrom_26 (by decide) ?_
    refine tz_icmp_neT (pc := 28) (tgt := 56) (by decide) dX12_wordFrom_28 (by decide) (by decide) (by decide) ?_
    refine tz_iload (pc := 56) dX12_wordFrom_56 rfl ?_
    refine tz_if_eq (pc := 58) (tgt := 86) dX12_wordFrom_58 (by decide) (by omega) (fun h_58 => ?_) (fun h_58 => ?_)
    · refine tz_iconst (pc := 86) dX12_wordFrom_86 ?_
      refine tz_istore (pc := 87) (L2 := [_, _, _, _, _, _, _]) dX12_wordFrom_87 (by decide) rfl ?_
      refine tz_iinc (pc := 89) (z := (x + 1) + 1) (L2 := [_, _, _, _, _, _, _]) dX12_wordFrom_89 rfl (by omega) rfl ?_
      refine tz_iinc (pc := 92) (z := 9) (L2 := [_, _, _, _, _, _, _]) dX12_wordFrom_92 rfl (by decide) rfl ?_
      refine tz_goto (pc := 95) (tgt := 11) dX12_wordFrom_95 (by decide) ?_
      have g9 := s_9 0 (by decide) ⟨fun q => absurd q (by decide), fun q => by have q1 := mp_p q; have q2 := he.2 q1.1; have q3 : x + 1 < y ∧ J 173 (x + 1) = 101 := q1.2; omega⟩ nm
      rw [show x + 2 = x + 1 + 1 by omega] at g9
      exact g9
    · refine tz_iload (pc := 61) dX12_wordFrom_61 rfl ?_
      refine tz_iload_n (pc := 63) dX12_wordFrom_63 rfl rfl ?_
      refine tz_icmp_ge (pc := 64) (tgt := 86) dX12_wordFrom_64 (by decide) (by omega) (by omega) (fun h_64 => ?_) (fun h_64 => ?_)
      · refine tz_iconst (pc := 86) dX12_wordFrom_86 ?_
        refine tz_istore (pc := 87) (L2 := [_, _, _, _, _, _, _]) dX12_wordFrom_87 (by decide) rfl ?_
        refine tz_iinc (pc := 89) (z := (x + 1) + 1) (L2 := [_, _, _, _, _, _, _]) dX12_wordFrom_89 rfl (by omega) rfl ?_
        refine tz_iinc (pc := 92) (z := 9) (L2 := [_, _, _, _, _, _, _]) dX12_wordFrom_92 rfl (by decide) rfl ?_
        refine tz_goto (pc := 95) (tgt := 11) dX12_wordFrom_95 (by decide) ?_
        have g9 := s_9 0 (by decide) ⟨fun q => absurd q (by decide), fun q => by have q1 := mp_p q; have q2 := he.2 q1.1; have q3 : x + 1 < y ∧ J 173 (x + 1) = 101 := q1.2; omega⟩ nm
        rw [show x + 2 = x + 1 + 1 by omega] at g9
        exact g9
      · refine tz_aload_n (pc := 67) dX12_wordFrom_67 rfl rfl ?_
        refine tz_iload (pc := 68) dX12_wordFrom_68 rfl ?_
        refine tz_cV (pc := 70) (m_byteAt hl n _ _ (by omega) (by omega) (by omega)) vl_X12_240 dX12_wordFrom_70 o_164 rfl rfl (Nat.le_of_ble_eq_true rfl) ⟨(Nat.le_of_ble_eq_true rfl), (Nat.le_of_ble_eq_true rfl)⟩ rfl rfl (Nat.le_of_ble_eq_true rfl) (Nat.le_of_ble_eq_true rfl) (fun r9 J_70 hq9 => ?_)
        obtain ⟨z_70, rfl, hz_70, rfl, hb70, hc70⟩ := hq9
        refine tz_knD (pc := 73) (k9 := 8) (v := 101) (by decide) (by decide) rfl dX12_wordFrom_73 dX12_wordFrom_76 dX12_wordFrom_78 (by decide +kernel) ?_
        refine tz_icmp_ne (pc := 79) (tgt := 86) dX12_wordFrom_79 (by decide) (by omega) (by decide) (fun h_79 => ?_) (fun h_79 => ?_)
        · refine tz_iconst (pc := 86) dX12_wordFrom_86 ?_
          refine tz_istore (pc := 87) (L2 := [_, _, _, _, _, _, _]) dX12_wordFrom_87 (by decide) rfl ?_
          refine tz_iinc (pc := 89) (z := (x + 1) + 1) (L2 := [_, _, _, _, _, _, _]) dX12_wordFrom_89 rfl (by omega) rfl ?_
          refine tz_iinc (pc := 92) (z := 9) (L2 := [_, _, _, _, _, _, _]) dX12_wordFrom_92 rfl (by decide) rfl ?_
          refine tz_goto (pc := 95) (tgt := 11) dX12_wordFrom_95 (by decide) ?_
          have g9 := s_9 0 (by decide) ⟨fun q => absurd q (by decide), fun q => by have q1 := mp_p q; have q2 := he.2 q1.1; have q3 : x + 1 < y ∧ J 173 (x + 1) = 101 := q1.2; omega⟩ nm
          rw [show x + 2 = x + 1 + 1 by omega] at g9
          exact g9
        · refine tz_iconst (pc := 82) dX12_wordFrom_82 ?_
          refine tz_goto (pc := 83) (tgt := 87) dX12_wordFrom_83 (by decide) ?_
          refine tz_istore (pc := 87) (L2 := [_, _, _, _, _, _, _]) dX12_wordFrom_87 (by decide) rfl ?_
          refine tz_iinc (pc := 89) (z := (x + 1) + 1) (L2 := [_, _, _, _, _, _, _]) dX12_wordFrom_89 rfl (by omega) rfl ?_
          refine tz_iinc (pc := 92) (z := 9) (L2 := [_, _, _, _, _, _, _]) dX12_wordFrom_92 rfl (by decide) rfl ?_
          refine tz_goto (pc := 95) (tgt := 11) dX12_wordFrom_95 (by decide) ?_
          have g9 := s_9 1 (by decide) ⟨fun _ => mp_s (he.1 (by omega)) (show x + 1 < y by omega) (show J 173 (x + 1) = 101 by omega), fun _ => rfl⟩ nm
          rw [show x + 2 = x + 1 + 1 by omega] at g9
          exact g9
  have s_7 : ∀ e : Int, (e = 0 ∨ e = 1) → (e = 1 ↔ mpB (J 173) x y [116, 101, 114, 109] 0) → (¬ mtB (J 173) x y [115, 121, 109, 98, 111, 108]) → tz_At l G M_X12_wordFrom (tb_rm 1 0 0) none (tb_ZM G 0 0 (zQ n 0 (zqi (fun z J' => J = J' ∧ WD (J 173) x y z))) (zX n 0 zN)) 0 0 n J 11 [some (.ref 164), some (zi x), some (zi y), some (zi 1), some (zi (x + 0)), some (zi e), some (zi 7)] [] := by
    intro e h01 he nm
    refine tz_iload (pc := 11) dX12_wordFrom_11 rfl ?_
    refine tz_knL (pc := 13) dX12_wordFrom_13 dX12_wordFrom_16 (by decide +kernel) ?_
    refine tz_icmp_geF (pc := 17) (tgt := 98) (by decide) dX12_wordFrom_17 (by decide) (by decide) (by decide) ?_
    refine tz_knD (pc := 20) (k9 := 7) (v := 116) (by decide) (by decide) rfl dX12_wordFrom_20 dX12_wordFrom_23 dX12_wordFrom_25 (by decide +kernel) ?_
    refine tz_bipush (pc := 26) dX12_wordFrom_26 (by decide) ?_
    refine tz_icmp_neT (pc := 28) (tgt := 56) (by decide) dX12_wordFrom_28 (by decide) (by decide) (by decide) ?_
    refine tz_iload (pc := 56) dX12_wordFrom_56 rfl ?_
    refine tz_if_eq (pc := 58) (tgt := 86) dX12_wordFrom_58 (by decide) (by omega) (fun h_58 => ?_) (fun h_58 => ?_)
    · refine tz_iconst (pc := 86) dX12_wordFrom_86 ?_
      refine tz_istore (pc := 87) (L2 := [_, _, _, _, _, _, _]) dX12_wordFrom_87 (by decide) rfl ?_
      refine tz_iinc (pc := 89) (z := (x + 0) + 1) (L2 := [_, _, _, _, _, _, _]) dX12_wordFrom_89 rfl (by omega) rfl ?_
      refine tz_iinc (pc := 92) (z := 8) (L2 := [_, _, _, _, _, _, _]) dX12_wordFrom_92 rfl (by decide) rfl ?_
      refine tz_goto (pc := 95) (tgt := 11) dX12_wordFrom_95 (by decide) ?_
      have g9 := s_8 0 (by decide) ⟨fun q => absurd q (by decide), fun q => by have q1 := mp_p q; have q2 := he.2 q1.1; have q3 : x + 0 < y ∧ J 173 (x + 0) = 116 := q1.2; omega⟩ nm
      rw [show x + 1 = x + 0 + 1 by omega] at g9
      exact g9
    · refine tz_iload (pc := 61) dX12_wordFrom_61 rfl ?_
      refine tz_iload_n (pc := 63) dX12_wordFrom_63 rfl rfl ?_
      refine tz_icmp_ge (pc := 64) (tgt := 86) dX12_wordFrom_64 (by decide) (by omega) (by omega) (fun h_64 => ?_) (fun h_64 => ?_)
      · refine tz_iconst (pc := 86) dX12_wordFrom_86 ?_
        refine tz_istore (pc := 87) (L2 := [_, _, _, _, _, _, _]) dX12_wordFrom_87 (by decide) rfl ?_
        refine tz_iinc (pc := 89) (z := (x + 0) + 1) (L2 := [_, _, _, _, _, _, _]) dX12_wordFrom_89 rfl (by omega) rfl ?_
        refine tz_iinc (pc := 92) (z := 8) (L2 := [_, _, _, _, _, _, _]) dX12_wordFrom_92 rfl (by decide) rfl ?_
        refine tz_goto (pc := 95) (tgt := 11) dX12_wordFrom_95 (by decide) ?_
        have g9 := s_8 0 (by decide) ⟨fun q => absurd q (by decide), fun q => by have q1 := mp_p q; have q2 := he.2 q1.1; have q3 : x + 0 < y ∧ J 173 (x + 0) = 116 := q1.2; omega⟩ nm
        rw [show x + 1 = x + 0 + 1 by omega] at g9
        exact g9
      · refine tz_aload_n (pc := 67) dX12_wordFrom_67 rfl rfl ?_
        refine tz_iload (pc := 68) dX12_wordFrom_68 rfl ?_
        refine tz_cV (pc := 70) (m_byteAt hl n _ _ (by omega) (by omega) (by omega)) vl_X12_240 dX12_wordFrom_70 o_164 rfl rfl (Nat.le_of_ble_eq_true rfl) ⟨(Nat.le_of_ble_eq_true rfl), (Nat.le_of_ble_eq_true rfl)⟩ rfl rfl (Nat.le_of_ble_eq_true rfl) (Nat.le_of_ble_eq_true rfl) (fun r9 J_70 hq9 => ?_)
        obtain ⟨z_70, rfl, hz_70, rfl, hb70, hc70⟩ := hq9
        refine tz_knD (pc := 73) (k9 := 7) (v := 116) (by decide) (by decide) rfl dX12_wordFrom_73 dX12_wordFrom_76 dX12_wordFrom_78 (by decide +kernel) ?_
        refine tz_icmp_ne (pc := 79) (tgt := 86) dX12_wordFrom_79 (by decide) (by omega) (by decide) (fun h_79 => ?_) (fun h_79 => ?_)
        · refine tz_iconst (pc := 86) dX12_wordFrom_86 ?_
          refine tz_istore (pc := 87) (L2 := [_, _, _, _, _, _, _]) dX12_wordFrom_87 (by decide) rfl ?_
          refine tz_iinc (pc := 89) (z := (x + 0) + 1) (L2 := [_, _, _, _, _, _, _]) dX12_wordFrom_89 rfl (by omega) rfl ?_
          refine tz_iinc (pc := 92) (z := 8) (L2 := [_, _, _, _, _, _, _]) dX12_wordFrom_92 rfl (by decide) rfl ?_
          refine tz_goto (pc := 95) (tgt := 11) dX12_wordFrom_95 (by decide) ?_
          have g9 := s_8 0 (by decide) ⟨fun q => absurd q (by decide), fun q => by have q1 := mp_p q; have q2 := he.2 q1.1; have q3 : x + 0 < y ∧ J 173 (x + 0) = 116 := q1.2; omega⟩ nm
          rw [show x + 1 = x + 0 + 1 by omega] at g9
          exact g9
        · refine tz_iconst (pc := 82) dX12_wordFrom_82 ?_
          refine tz_goto (pc := 83) (tgt := 87) dX12_wordFrom_83 (by decide) ?_
          refine tz_istore (pc := 87) (L2 := [_, _, _, _, _, _, _]) dX12_wordFrom_87 (by decide) rfl ?_
          refine tz_iinc (pc := 89) (z := (x + 0) + 1) (L2 := [_, _, _, _, _, _, _]) dX12_wordFrom_89 rfl (by omega) rfl ?_
          refine tz_iinc (pc := 92) (z := 8) (L2 := [_, _, _, _, _, _, _]) dX12_wordFrom_92 rfl (by decide) rfl ?_
          refine tz_goto (pc := 95) (tgt := 11) dX12_wordFrom_95 (by decide) ?_
          have g9 := s_8 1 (by decide) ⟨fun _ => mp_s (he.1 (by omega)) (show x + 0 < y by omega) (show J 173 (x + 0) = 116 by omega), fun _ => rfl⟩ nm
          rw [show x + 1 = x + 0 + 1 by omega] at g9
          exact g9
  have s_6 : ∀ e : Int, (e = 0 ∨ e = 1) → (e = 1 ↔ mpB (J 173) x y [115, 121, 109, 98, 111, 108] 6) → (True) → tz_At l G M_X12_wordFrom (tb_rm 1 0 0) none (tb_ZM G 0 0 (zQ n 0 (zqi (fun z J' => J = J' ∧ WD (J 173) x y z))) (zX n 0 zN)) 0 0 n J 11 [some (.ref 164), some (zi x), some (zi y), some (zi 0), some (zi (x + 6)), some (zi e), some (zi 6)] [] := by
    intro e h01 he nm
    refine tz_iload (pc := 11) dX12_wordFrom_11 rfl ?_
    refine tz_knL (pc := 13) dX12_wordFrom_13 dX12_wordFrom_16 (by decide +kernel) ?_
    refine tz_icmp_geF (pc := 17) (tgt := 98) (by decide) dX12_wordFrom_17 (by decide) (by decide) (by decide) ?_
    refine tz_knD (pc := 20) (k9 := 6) (v := 32) (by decide) (by decide) rfl dX12_wordFrom_20 dX12_wordFrom_23 dX12_wordFrom_25 (by decide +kernel) ?_
    refine tz_bipush (pc := 26) dX12_wordFrom_26 (by decide) ?_
    refine tz_icmp_neF (pc := 28) (tgt := 56) (by decide) dX12_wordFrom_28 (by decide) (by decide) (by decide) ?_
    refine tz_iload (pc := 31) dX12_wordFrom_31 rfl ?_
    refine tz_if_eq (pc := 33) (tgt := 44) dX12_wordFrom_33 (by decide) (by omega) (fun h_33 => ?_) (fun h_33 => ?_)
    · refine tz_iinc (pc := 44) (z := 1) (L2 := [_, _, _, _, _, _, _]) dX12_wordFrom_44 rfl (by decide) rfl ?_
      refine tz_iload_n (pc := 47) dX12_wordFrom_47 rfl rfl ?_
      refine tz_istore (pc := 48) (L2 := [_, _, _, _, _, _, _]) dX12_wordFrom_48 (by decide) rfl ?_
      refine tz_iconst (pc := 50) dX12_wordFrom_50 ?_
      refine tz_istore (pc := 51) (L2 := [_, _, _, _, _, _, _]) dX12_wordFrom_51 (by decide) rfl ?_
      refine tz_goto (pc := 53) (tgt := 92) dX12_wordFrom_53 (by decide) ?_
      refine tz_iinc (pc := 92) (z := 7) (L2 := [_, _, _, _, _, _, _]) dX12_wordFrom_92 rfl (by decide) rfl ?_
      refine tz_goto (pc := 95) (tgt := 11) dX12_wordFrom_95 (by decide) ?_
      have nt : ¬ mtB (J 173) x y [115, 121, 109, 98, 111, 108] := fun q => by
        have q1 := he.2 q.1
        have q2 : y = x + 6 := q.2
        omega
      have g9 := s_7 1 (Or.inr rfl) ⟨fun _ => mp_0, fun _ => rfl⟩ nt
      rw [show x + 0 = x from Int.add_zero x] at g9
      exact g9
    · refine tz_iload (pc := 36) dX12_wordFrom_36 rfl ?_
      refine tz_iload_n (pc := 38) dX12_wordFrom_38 rfl rfl ?_
      refine tz_icmp_ne (pc := 39) (tgt := 44) dX12_wordFrom_39 (by decide) (by omega) (by omega) (fun h_39 => ?_) (fun h_39 => ?_)
      · refine tz_iinc (pc := 44) (z := 1) (L2 := [_, _, _, _, _, _, _]) dX12_wordFrom_44 rfl (by decide) rfl ?_
        refine tz_iload_n (pc := 47) dX12_wordFrom_47 rfl rfl ?_
        refine tz_istore (pc := 48) (L2 := [_, _, _, _, _, _, _]) dX12_wordFrom_48 (by decide) rfl ?_
        refine tz_iconst (pc := 50) dX12_wordFrom_50 ?_
        refine tz_istore (pc := 51) (L2 := [_, _, _, _, _, _, _]) dX12_wordFrom_51 (by decide) rfl ?_
        refine tz_goto (pc := 53) (tgt := 92) dX12_wordFrom_53 (by decide) ?_
        refine tz_iinc (pc := 92) (z := 7) (L2 := [_, _, _, _, _, _, _]) dX12_wordFrom_92 rfl (by decide) rfl ?_
        refine tz_goto (pc := 95) (tgt := 11) dX12_wordFrom_95 (by decide) ?_
        have nt : ¬ mtB (J 173) x y [115, 121, 109, 98, 111, 108] := fun q => by
          have q1 := he.2 q.1
          have q2 : y = x + 6 := q.2
          omega
        have g9 := s_7 1 (Or.inr rfl) ⟨fun _ => mp_0, fun _ => rfl⟩ nt
        rw [show x + 0 = x from Int.add_zero x] at g9
        exact g9
      · refine tz_iload_n (pc := 42) dX12_wordFrom_42 rfl rfl ?_
        exact tz_iret (pc := 43) (z := 0) dX12_wordFrom_43 rfl (Nat.le_of_ble_eq_true rfl) (Nat.le_of_ble_eq_true rfl) ⟨Nat.le_refl _, Nat.le_add_right _ _⟩ ⟨_, rfl, (by decide), ⟨rfl, Or.inl ⟨(show mtB (J 173) x y [115, 121, 109, 98, 111, 108] from ⟨he.1 (by omega), (show y = x + 6 by omega)⟩), rfl⟩⟩⟩
  have s_5 : ∀ e : Int, (e = 0 ∨ e = 1) → (e = 1 ↔ mpB (J 173) x y [115, 121, 109, 98, 111, 108] 5) → (True) → tz_At l G M_X12_wordFrom (tb_rm 1 0 0) none (tb_ZM G 0 0 (zQ n 0 (zqi (fun z J' => J = J' ∧ WD (J 173) x y z))) (zX n 0 zN)) 0 0 n J 11 [some (.ref 164), some (zi x), some (zi y), some (zi 0), some (zi (x + 5)), some (zi e), some (zi 5)] [] := by
    intro e h01 he nm
    refine tz_iload (pc := 11) dX12_wordFrom_11 rfl ?_
    refine tz_knL (pc := 13) dX12_wordFrom_13 dX12_wordFrom_16 (by decide +kernel) ?_
    refine tz_icmp_geF (pc := 17) (tgt := 98) (by decide) dX12_wordFrom_17 (by decide) (by decide) (by decide) ?_
    refine tz_knD (pc := 20) (k9 := 5) (v := 108) (by decide) (by decide) rfl dX12_wordFrom_20 dX12_wordFrom_23 dX12_wordFrom_25 (by decide +kernel) ?_
    refine tz_bipush (pc := 26) dX12_wordFrom_26 (by decide) ?_
    refine tz_icmp_neT (pc := 28) (tgt := 56) (by decide) dX12_wordFrom_28 (by decide) (by decide) (by decide) ?_
    refine tz_iload (pc := 56) dX12_wordFrom_56 rfl ?_
    refine tz_if_eq (pc := 58) (tgt := 86) dX12_wordFrom_58 (by decide) (by omega) (fun h_58 => ?_) (fun h_58 => ?_)
    · refine tz_iconst (pc := 86) dX12_wordFrom_86 ?_
      refine tz_istore (pc := 87) (L2 := [_, _, _, _, _, _, _]) dX12_wordFrom_87 (by decide) rfl ?_
      refine tz_iinc (pc := 89) (z := (x + 5) + 1) (L2 := [_, _, _, _, _, _, _]) dX12_wordFrom_89 rfl (by omega) rfl ?_
      refine tz_iinc (pc := 92) (z := 6) (L2 := [_, _, _, _, _, _, _]) dX12_wordFrom_92 rfl (by decide) rfl ?_
      refine tz_goto (pc := 95) (tgt := 11) dX12_wordFrom_95 (by decide) ?_
      have g9 := s_6 0 (by decide) ⟨fun q => absurd q (by decide), fun q => by have q1 := mp_p q; have q2 := he.2 q1.1; have q3 : x + 5 < y ∧ J 173 (x + 5) = 108 := q1.2; omega⟩ nm
      rw [show x + 6 = x + 5 + 1 by omega] at g9
      exact g9
    · refine tz_iload (pc := 61) dX12_wordFrom_61 rfl ?_
      refine tz_iload_n (pc := 63) dX12_wordFrom_63 rfl rfl ?_
      refine tz_icmp_ge (pc := 64) (tgt := 86) dX12_wordFrom_64 (by decide) (by omega) (by omega) (fun h_64 => ?_) (fun h_64 => ?_)
      · refine tz_iconst (pc := 86) dX12_wordFrom_86 ?_
        refine tz_istore (pc := 87) (L2 := [_, _, _, _, _, _, _]) dX12_wordFrom_87 (by decide) rfl ?_
        refine tz_iinc (pc := 89) (z := (x + 5) + 1) (L2 := [_, _, _, _, _, _, _]) dX12_wordFrom_89 rfl (by omega) rfl ?_
        refine tz_iinc (pc := 92) (z := 6) (L2 := [_, _, _, _, _, _, _]) dX12_wordFrom_92 rfl (by decide) rfl ?_
        refine tz_goto (pc := 95) (tgt := 11) dX12_wordFrom_95 (by decide) ?_
        have g9 := s_6 0 (by decide) ⟨fun q => absurd q (by decide), fun q => by have q1 := mp_p q; have q2 := he.2 q1.1; have q3 : x + 5 < y ∧ J 173 (x + 5) = 108 := q1.2; omega⟩ nm
        rw [show x + 6 = x + 5 + 1 by omega] at g9
        exact g9
      · refine tz_aload_n (pc := 67) dX12_wordFrom_67 rfl rfl ?_
        refine tz_iload (pc := 68) dX12_wordFrom_68 rfl ?_
        refine tz_cV (pc := 70) (m_byteAt hl n _ _ (by omega) (by omega) (by omega)) vl_X12_240 dX12_wordFrom_70 o_164 rfl rfl (Nat.le_of_ble_eq_true rfl) ⟨(Nat.le_of_ble_eq_true rfl), (Nat.le_of_ble_eq_true rfl)⟩ rfl rfl (Nat.le_of_ble_eq_true rfl) (Nat.le_of_ble_eq_true rfl) (fun r9 J_70 hq9 => ?_)
        obtain ⟨z_70, rfl, hz_70, rfl, hb70, hc70⟩ := hq9
        refine tz_knD (pc := 73) (k9 := 5) (v := 108) (by decide) (by decide) rfl dX12_wordFrom_73 dX12_wordFrom_76 dX12_wordFrom_78 (by decide +kernel) ?_
        refine tz_icmp_ne (pc := 79) (tgt := 86) dX12_wordFrom_79 (by decide) (by omega) (by decide) (fun h_79 => ?_) (fun h_79 => ?_)
        · refine tz_iconst (pc := 86) dX12_wordFrom_86 ?_
          refine tz_istore (pc := 87) (L2 := [_, _, _, _, _, _, _]) dX12_wordFrom_87 (by decide) rfl ?_
          refine tz_iinc (pc := 89) (z := (x + 5) + 1) (L2 := [_, _, _, _, _, _, _]) dX12_wordFrom_89 rfl (by omega) rfl ?_
          refine tz_iinc (pc := 92) (z := 6) (L2 := [_, _, _, _, _, _, _]) dX12_wordFrom_92 rfl (by decide) rfl ?_
          refine tz_goto (pc := 95) (tgt := 11) dX12_wordFrom_95 (by decide) ?_
          have g9 := s_6 0 (by decide) ⟨fun q => absurd q (by decide), fun q => by have q1 := mp_p q; have q2 := he.2 q1.1; have q3 : x + 5 < y ∧ J 173 (x + 5) = 108 := q1.2; omega⟩ nm
          rw [show x + 6 = x + 5 + 1 by omega] at g9
          exact g9
        · refine tz_iconst (pc := 82) dX12_wordFrom_82 ?_
          refine tz_goto (pc := 83) (tgt := 87) dX12_wordFrom_83 (by decide) ?_
          refine tz_istore (pc := 87) (L2 := [_, _, _, _, _, _, _]) dX12_wordFrom_87 (by decide) rfl ?_
          refine tz_iinc (pc := 89) (z := (x + 5) + 1) (L2 := [_, _, _, _, _, _, _]) dX12_wordFrom_89 rfl (by omega) rfl ?_
          refine tz_iinc (pc := 92) (z := 6) (L2 := [_, _, _, _, _, _, _]) dX12_wordFrom_92 rfl (by decide) rfl ?_
          refine tz_goto (pc := 95) (tgt := 11) dX12_wordFrom_95 (by decide) ?_
          have g9 := s_6 1 (by decide) ⟨fun _ => mp_s (he.1 (by omega)) (show x + 5 < y by omega) (show J 173 (x + 5) = 108 by omega), fun _ => rfl⟩ nm
          rw [show x + 6 = x + 5 + 1 by omega] at g9
          exact g9
  have s_4 : ∀ e : Int, (e = 0 ∨ e = 1) → (e = 1 ↔ mpB (J 173) x y [115, 121, 109, 98, 111, 108] 4) → (True) → tz_At l G M_X12_wordFrom (tb_rm 1 0 0) none (tb_ZM G 0 0 (zQ n 0 (zqi (fun z J' => J = J' ∧ WD (J 173) x y z))) (zX n 0 zN)) 0 0 n J 11 [some (.ref 164), some (zi x), some (zi y), some (zi 0), some (zi (x + 4)), some (zi e), some (zi 4)] [] := by
    intro e h01 he nm
    refine tz_iload (pc := 11) dX12_wordFrom_11 rfl ?_
    refine tz_knL (pc := 13) dX12_wordFrom_13 dX12_wordFrom_16 (by decide +kernel) ?_
    refine tz_icmp_geF (pc := 17) (tgt := 98) (by decide) dX12_wordFrom_17 (by decide) (by decide) (by decide) ?_
    refine tz_knD (pc := 20) (k9 := 4) (v := 111) (by decide) (by decide) rfl dX12_wordFrom_20 dX12_wordFrom_23 dX12_wordFrom_25 (by decide +kernel) ?_
    refine tz_bipush (pc := 26) dX12_wordFrom_26 (by decide) ?_
    refine tz_icmp_neT (pc := 28) (tgt := 56) (by decide) dX12_wordFrom_28 (by decide) (by decide) (by decide) ?_
    refine tz_iload (pc := 56) dX12_wordFrom_56 rfl ?_
    refine tz_if_eq (pc := 58) (tgt := 86) dX12_wordFrom_58 (by decide) (by omega) (fun h_58 => ?_) (fun h_58 => ?_)
    · refine tz_iconst (pc := 86) dX12_wordFrom_86 ?_
      refine tz_istore (pc := 87) (L2 := [_, _, _, _, _, _, _]) dX12_wordFrom_87 (by decide) rfl ?_
      refine tz_iinc (pc := 89) (z := (x + 4) + 1) (L2 := [_, _, _, _, _, _, _]) dX12_wordFrom_89 rfl (by omega) rfl ?_
      refine tz_iinc (pc := 92) (z := 5) (L2 := [_, _, _, _, _, _, _]) dX12_wordFrom_92 rfl (by decide) rfl ?_
      refine tz_goto (pc := 95) (tgt := 11) dX12_wordFrom_95 (by decide) ?_
      have g9 := s_5 0 (by decide) ⟨fun q => absurd q (by decide), fun q => by have q1 := mp_p q; have q2 := he.2 q1.1; have q3 : x + 4 < y ∧ J 173 (x + 4) = 111 := q1.2; omega⟩ nm
      rw [show x + 5 = x + 4 + 1 by omega] at g9
      exact g9
    · refine tz_iload (pc := 61) dX12_wordFrom_61 rfl ?_
      refine tz_iload_n (pc := 63) dX12_wordFrom_63 rfl rfl ?_
      refine tz_icmp_ge (pc := 64) (tgt := 86) dX12_wordFrom_64 (by decide) (by omega) (by omega) (fun h_64 => ?_) (fun h_64 => ?_)
      · refine tz_iconst (pc := 86) dX12_wordFrom_86 ?_
        refine tz_istore (pc := 87) (L2 := [_, _, _, _, _, _, _]) dX12_wordFrom_87 (by decide) rfl ?_
        refine tz_iinc (pc := 89) (z := (x + 4) + 1) (L2 := [_, _, _, _, _, _, _]) dX12_wordFrom_89 rfl (by omega) rfl ?_
        refine tz_iinc (pc := 92) (z := 5) (L2 := [_, _, _, _, _, _, _]) dX12_wordFrom_92 rfl (by decide) rfl ?_
        refine tz_goto (pc := 95) (tgt := 11) dX12_wordFrom_95 (by decide) ?_
        have g9 := s_5 0 (by decide) ⟨fun q => absurd q (by decide), fun q => by have q1 := mp_p q; have q2 := he.2 q1.1; have q3 : x + 4 < y ∧ J 173 (x + 4) = 111 := q1.2; omega⟩ nm
        rw [show x + 5 = x + 4 + 1 by omega] at g9
        exact g9
      · refine tz_aload_n (pc := 67) dX12_wordFrom_67 rfl rfl ?_
        refine tz_iload (pc := 68) dX12_wordFrom_68 rfl ?_
        refine tz_cV (pc := 70) (m_byteAt hl n _ _ (by omega) (by omega) (by omega)) vl_X12_240 dX12_wordFrom_70 o_164 rfl rfl (Nat.le_of_ble_eq_true rfl) ⟨(Nat.le_of_ble_eq_true rfl), (Nat.le_of_ble_eq_true rfl)⟩ rfl rfl (Nat.le_of_ble_eq_true rfl) (Nat.le_of_ble_eq_true rfl) (fun r9 J_70 hq9 => ?_)
        obtain ⟨z_70, rfl, hz_70, rfl, hb70, hc70⟩ := hq9
        refine tz_knD (pc := 73) (k9 := 4) (v := 111) (by decide) (by decide) rfl dX12_wordFrom_73 dX12_wordFrom_76 dX12_wordFrom_78 (by decide +kernel) ?_
        refine tz_icmp_ne (pc := 79) (tgt := 86) dX12_wordFrom_79 (by decide) (by omega) (by decide) (fun h_79 => ?_) (fun h_79 => ?_)
        · refine tz_iconst (pc := 86) dX12_wordFrom_86 ?_
          refine tz_istore (pc := 87) (L2 := [_, _, _, _, _, _, _]) dX12_wordFrom_87 (by decide) rfl ?_
          refine tz_iinc (pc := 89) (z := (x + 4) + 1) (L2 := [_, _, _, _, _, _, _]) dX12_wordFrom_89 rfl (by omega) rfl ?_
          refine tz_iinc (pc := 92) (z := 5) (L2 := [_, _, _, _, _, _, _]) dX12_wordFrom_92 rfl (by decide) rfl ?_
          refine tz_goto (pc := 95) (tgt := 11) dX12_wordFrom_95 (by decide) ?_
          have g9 := s_5 0 (by decide) ⟨fun q => absurd q (by decide), fun q => by have q1 := mp_p q; have q2 := he.2 q1.1; have q3 : x + 4 < y ∧ J 173 (x + 4) = 111 := q1.2; omega⟩ nm
          rw [show x + 5 = x + 4 + 1 by omega] at g9
          exact g9
        · refine tz_iconst (pc := 82) dX12_wordFrom_82 ?_
          refine tz_goto (pc := 83) (tgt := 87) dX12_wordFrom_83 (by decide) ?_
          refine tz_istore (pc := 87) (L2 := [_, _, _, _, _, _, _]) dX12_wordFrom_87 (by decide) rfl ?_
          refine tz_iinc (pc := 89) (z := (x + 4) + 1) (L2 := [_, _, _, _, _, _, _]) dX12_wordFrom_89 rfl (by omega) rfl ?_
          refine tz_iinc (pc := 92) (z := 5) (L2 := [_, _, _, _, _, _, _]) dX12_wordFrom_92 rfl (by decide) rfl ?_
          refine tz_goto (pc := 95) (tgt := 11) dX12_wordFrom_95 (by decide) ?_
          have g9 := s_5 1 (by decide) ⟨fun _ => mp_s (he.1 (by omega)) (show x + 4 < y by omega) (show J 173 (x + 4) = 111 by omega), fun _ => rfl⟩ nm
          rw [show x + 5 = x + 4 + 1 by omega] at g9
          exact g9
  have s_3 : ∀ e : Int, (e = 0 ∨ e = 1) → (e = 1 ↔ mpB (J 173) x y [115, 121, 109, 98, 111, 108] 3) → (True) → tz_At l G M_X12_wordFrom (tb_rm 1 0 0) none (tb_ZM G 0 0 (zQ n 0 (zqi (fun z J' => J = J' ∧ WD (J 173) x y z))) (zX n 0 zN)) 0 0 n J 11 [some (.ref 164), some (zi x), some (zi y), some (zi 0), some (zi (x + 3)), some (zi e), some (zi 3)] [] := by
    intro e h01 he nm
    refine tz_iload (pc := 11) dX12_wordFrom_11 rfl ?_
    refine tz_knL (pc := 13) dX12_wordFrom_13 dX12_wordFrom_16 (by decide +kernel) ?_
    refine tz_icmp_geF (pc := 17) (tgt := 98) (by decide) dX12_wordFrom_17 (by decide) (by decide) (by decide) ?_
    refine tz_knD (pc := 20) (k9 := 3) (v := 98) (by decide) (by decide) rfl dX12_wordFrom_20 dX12_wordFrom_23 dX12_wordFrom_25 (by decide +kernel) ?_
    refine tz_bipush (pc := 26) dX12_wordFrom_26 (by decide) ?_
    refine tz_icmp_neT (pc := 28) (tgt := 56) (by decide) dX12_wordFrom_28 (by decide) (by decide) (by decide) ?_
    refine tz_iload (pc := 56) dX12_wordFrom_56 rfl ?_
    refine tz_if_eq (pc := 58) (tgt := 86) dX12_wordFrom_58 (by decide) (by omega) (fun h_58 => ?_) (fun h_58 => ?_)
    · refine tz_iconst (pc := 86) dX12_wordFrom_86 ?_
      refine tz_istore (pc := 87) (L2 := [_, _, _, _, _, _, _]) dX12_wordFrom_87 (by decide) rfl ?_
      refine tz_iinc (pc := 89) (z := (x + 3) + 1) (L2 := [_, _, _, _, _, _, _]) dX12_wordFrom_89 rfl (by omega) rfl ?_
      refine tz_iinc (pc := 92) (z := 4) (L2 := [_, _, _, _, _, _, _]) dX12_wordFrom_92 rfl (by decide) rfl ?_
      refine tz_goto (pc := 95) (tgt := 11) dX12_wordFrom_95 (by decide) ?_
      have g9 := s_4 0 (by decide) ⟨fun q => absurd q (by decide), fun q => by have q1 := mp_p q; have q2 := he.2 q1.1; have q3 : x + 3 < y ∧ J 173 (x + 3) = 98 := q1.2; omega⟩ nm
      rw [show x + 4 = x + 3 + 1 by omega] at g9
      exact g9
    · refine tz_iload (pc := 61) dX12_wordFrom_61 rfl ?_
      refine tz_iload_n (pc := 63) dX12_wordFrom_63 rfl rfl ?_
      refine tz_icmp_ge (pc := 64) (tgt := 86) dX12_wordFrom_64 (by decide) (by omega) (by omega) (fun h_64 => ?_) (fun h_64 => ?_)
      · refine tz_iconst (pc := 86) dX12_wordFrom_86 ?_
        refine tz_istore (pc := 87) (L2 := [_, _, _, _, _, _, _]) dX12_wordFrom_87 (by decide) rfl ?_
        refine tz_iinc (pc := 89) (z := (x + 3) + 1) (L2 := [_, _, _, _, _, _, _]) dX12_wordFrom_89 rfl (by omega) rfl ?_
        refine tz_iinc (pc := 92) (z := 4) (L2 := [_, _, _, _, _, _, _]) dX12_wordFrom_92 rfl (by decide) rfl ?_
        refine tz_goto (pc := 95) (tgt := 11) dX12_wordFrom_95 (by decide) ?_
        have g9 := s_4 0 (by decide) ⟨fun q => absurd q (by decide), fun q => by have q1 := mp_p q; have q2 := he.2 q1.1; have q3 : x + 3 < y ∧ J 173 (x + 3) = 98 := q1.2; omega⟩ nm
        rw [show x + 4 = x + 3 + 1 by omega] at g9
        exact g9
      · refine tz_aload_n (pc := 67) dX12_wordFrom_67 rfl rfl ?_
        refine tz_iload (pc := 68) dX12_wordFrom_68 rfl ?_
        refine tz_cV (pc := 70) (m_byteAt hl n _ _ (by omega) (by omega) (by omega)) vl_X12_240 dX12_wordFrom_70 o_164 rfl rfl (Nat.le_of_ble_eq_true rfl) ⟨(Nat.le_of_ble_eq_true rfl), (Nat.le_of_ble_eq_true rfl)⟩ rfl rfl (Nat.le_of_ble_eq_true rfl) (Nat.le_of_ble_eq_true rfl) (fun r9 J_70 hq9 => ?_)
        obtain ⟨z_70, rfl, hz_70, rfl, hb70, hc70⟩ := hq9
        refine tz_knD (pc := 73) (k9 := 3) (v := 98) (by decide) (by decide) rfl dX12_wordFrom_73 dX12_wordFrom_76 dX12_wordFrom_78 (by decide +kernel) ?_
        refine tz_icmp_ne (pc := 79) (tgt := 86) dX12_wordFrom_79 (by decide) (by omega) (by decide) (fun h_79 => ?_) (fun h_79 => ?_)
        · refine tz_iconst (pc := 86) dX12_wordFrom_86 ?_
          refine tz_istore (pc := 87) (L2 := [_, _, _, _, _, _, _]) dX12_wordFrom_87 (by decide) rfl ?_
          refine tz_iinc (pc := 89) (z := (x + 3) + 1) (L2 := [_, _, _, _, _, _, _]) dX12_wordFrom_89 rfl (by omega) rfl ?_
          refine tz_iinc (pc := 92) (z := 4) (L2 := [_, _, _, _, _, _, _]) dX12_wordFrom_92 rfl (by decide) rfl ?_
          refine tz_goto (pc := 95) (tgt := 11) dX12_wordFrom_95 (by decide) ?_
          have g9 := s_4 0 (by decide) ⟨fun q => absurd q (by decide), fun q => by have q1 := mp_p q; have q2 := he.2 q1.1; have q3 : x + 3 < y ∧ J 173 (x + 3) = 98 := q1.2; omega⟩ nm
          rw [show x + 4 = x + 3 + 1 by omega] at g9
          exact g9
        · refine tz_iconst (pc := 82) dX12_wordFrom_82 ?_
          refine tz_goto (pc := 83) (tgt := 87) dX12_wordFrom_83 (by decide) ?_
          refine tz_istore (pc := 87) (L2 := [_, _, _, _, _, _, _]) dX12_wordFrom_87 (by decide) rfl ?_
          refine tz_iinc (pc := 89) (z := (x + 3) + 1) (L2 := [_, _, _, _, _, _, _]) dX12_wordFrom_89 rfl (by omega) rfl ?_
          refine tz_iinc (pc := 92) (z := 4) (L2 := [_, _, _, _, _, _, _]) dX12_wordFrom_92 rfl (by decide) rfl ?_
          refine tz_goto (pc := 95) (tgt := 11) dX12_wordFrom_95 (by decide) ?_
          have g9 := s_4 1 (by decide) ⟨fun _ => mp_s (he.1 (by omega)) (show x + 3 < y by omega) (show J 173 (x + 3) = 98 by omega), fun _ => rfl⟩ nm
          rw [show x + 4 = x + 3 + 1 by omega] at g9
          exact g9
  have s_2 : ∀ e : Int, (e = 0 ∨ e = 1) → (e = 1 ↔ mpB (J 173) x y [115, 121, 109, 98, 111, 108] 2) → (True) → tz_At l G M_X12_wordFrom (tb_rm 1 0 0) none (tb_ZM G 0 0 (zQ n 0 (zqi (fun z J' => J = J' ∧ WD (J 173) x y z))) (zX n 0 zN)) 0 0 n J 11 [some (.ref 164), some (zi x), some (zi y), some (zi 0), some (zi (x + 2)), some (zi e), some (zi 2)] [] := by
    intro e h01 he nm
    refine tz_iload (pc := 11) dX12_wordFrom_11 rfl ?_
    refine tz_knL (pc := 13) dX12_wordFrom_13 dX12_wordFrom_16 (by decide +kernel) ?_
    refine tz_icmp_geF (pc := 17) (tgt := 98) (by decide) dX12_wordFrom_17 (by decide) (by decide) (by decide) ?_
    refine tz_knD (pc := 20) (k9 := 2) (v := 109) (by decide) (by decide) rfl dX12_wordFrom_20 dX12_wordFrom_23 dX12_wordFrom_25 (by decide +kernel) ?_
    refine tz_bipush (pc := 26) dX12_wordFrom_26 (by decide) ?_
    refine tz_icmp_neT (pc := 28) (tgt := 56) (by decide) dX12_wordFrom_28 (by decide) (by decide) (by decide) ?_
    refine tz_iload (pc := 56) dX12_wordFrom_56 rfl ?_
    refine tz_if_eq (pc := 58) (tgt := 86) dX12_wordFrom_58 (by decide) (by omega) (fun h_58 => ?_) (fun h_58 => ?_)
    · refine tz_iconst (pc := 86) dX12_wordFrom_86 ?_
      refine tz_istore (pc := 87) (L2 := [_, _, _, _, _, _, _]) dX12_wordFrom_87 (by decide) rfl ?_
      refine tz_iinc (pc := 89) (z := (x + 2) + 1) (L2 := [_, _, _, _, _, _, _]) dX12_wordFrom_89 rfl (by omega) rfl ?_
      refine tz_iinc (pc := 92) (z := 3) (L2 := [_, _, _, _, _, _, _]) dX12_wordFrom_92 rfl (by decide) rfl ?_
      refine tz_goto (pc := 95) (tgt := 11) dX12_wordFrom_95 (by decide) ?_
      have g9 := s_3 0 (by decide) ⟨fun q => absurd q (by decide), fun q => by have q1 := mp_p q; have q2 := he.2 q1.1; have q3 : x + 2 < y ∧ J 173 (x + 2) = 109 := q1.2; omega⟩ nm
      rw [show x + 3 = x + 2 + 1 by omega] at g9
      exact g9
    · refine tz_iload (pc := 61) dX12_wordFrom_61 rfl ?_
      refine tz_iload_n (pc := 63) dX12_wordFrom_63 rfl rfl ?_
      refine tz_icmp_ge (pc := 64) (tgt := 86) dX12_wordFrom_64 (by decide) (by omega) (by omega) (fun h_64 => ?_) (fun h_64 => ?_)
      · refine tz_iconst (pc := 86) dX12_wordFrom_86 ?_
        refine tz_istore (pc := 87) (L2 := [_, _, _, _, _, _, _]) dX12_wordFrom_87 (by decide) rfl ?_
        refine tz_iinc (pc := 89) (z := (x + 2) + 1) (L2 := [_, _, _, _, _, _, _]) dX12_wordFrom_89 rfl (by omega) rfl ?_
        refine tz_iinc (pc := 92) (z := 3) (L2 := [_, _, _, _, _, _, _]) dX12_wordFrom_92 rfl (by decide) rfl ?_
        refine tz_goto (pc := 95) (tgt := 11) dX12_wordFrom_95 (by decide) ?_
        have g9 := s_3 0 (by decide) ⟨fun q => absurd q (by decide), fun q => by have q1 := mp_p q; have q2 := he.2 q1.1; have q3 : x + 2 < y ∧ J 173 (x + 2) = 109 := q1.2; omega⟩ nm
        rw [show x + 3 = x + 2 + 1 by omega] at g9
        exact g9
      · refine tz_aload_n (pc := 67) dX12_wordFrom_67 rfl rfl ?_
        refine tz_iload (pc := 68) dX12_wordFrom_68 rfl ?_
        refine tz_cV (pc := 70) (m_byteAt hl n _ _ (by omega) (by omega) (by omega)) vl_X12_240 dX12_wordFrom_70 o_164 rfl rfl (Nat.le_of_ble_eq_true rfl) ⟨(Nat.le_of_ble_eq_true rfl), (Nat.le_of_ble_eq_true rfl)⟩ rfl rfl (Nat.le_of_ble_eq_true rfl) (Nat.le_of_ble_eq_true rfl) (fun r9 J_70 hq9 => ?_)
        obtain ⟨z_70, rfl, hz_70, rfl, hb70, hc70⟩ := hq9
        refine tz_knD (pc := 73) (k9 := 2) (v := 109) (by decide) (by decide) rfl dX12_wordFrom_73 dX12_wordFrom_76 dX12_wordFrom_78 (by decide +kernel) ?_
        refine tz_icmp_ne (pc := 79) (tgt := 86) dX12_wordFrom_79 (by decide) (by omega) (by decide) (fun h_79 => ?_) (fun h_79 => ?_)
        · refine tz_iconst (pc := 86) dX12_wordFrom_86 ?_
          refine tz_istore (pc := 87) (L2 := [_, _, _, _, _, _, _]) dX12_wordFrom_87 (by decide) rfl ?_
          refine tz_iinc (pc := 89) (z := (x + 2) + 1) (L2 := [_, _, _, _, _, _, _]) dX12_wordFrom_89 rfl (by omega) rfl ?_
          refine tz_iinc (pc := 92) (z := 3) (L2 := [_, _, _, _, _, _, _]) dX12_wordFrom_92 rfl (by decide) rfl ?_
          refine tz_goto (pc := 95) (tgt := 11) dX12_wordFrom_95 (by decide) ?_
          have g9 := s_3 0 (by decide) ⟨fun q => absurd q (by decide), fun q => by have q1 := mp_p q; have q2 := he.2 q1.1; have q3 : x + 2 < y ∧ J 173 (x + 2) = 109 := q1.2; omega⟩ nm
          rw [show x + 3 = x + 2 + 1 by omega] at g9
          exact g9
        · refine tz_iconst (pc := 82) dX12_wordFrom_82 ?_
          refine tz_goto (pc := 83) (tgt := 87) dX12_wordFrom_83 (by decide) ?_
          refine tz_istore (pc := 87) (L2 := [_, _, _, _, _, _, _]) dX12_wordFrom_87 (by decide) rfl ?_
          refine tz_iinc (pc := 89) (z := (x + 2) + 1) (L2 := [_, _, _, _, _, _, _]) dX12_wordFrom_89 rfl (by omega) rfl ?_
          refine tz_iinc (pc := 92) (z := 3) (L2 := [_, _, _, _, _, _, _]) dX12_wordFrom_92 rfl (by decide) rfl ?_
          refine tz_goto (pc := 95) (tgt := 11) dX12_wordFrom_95 (by decide) ?_
          have g9 := s_3 1 (by decide) ⟨fun _ => mp_s (he.1 (by omega)) (show x + 2 < y by omega) (show J 173 (x + 2) = 109 by omega), fun _ => rfl⟩ nm
          rw [show x + 3 = x + 2 + 1 by omega] at g9
          exact g9
  have s_1 : ∀ e : Int, (e = 0 ∨ e = 1) → (e = 1 ↔ mpB (J 173) x y [115, 121, 109, 98, 111, 108] 1) → (True) → tz_At l G M_X12_wordFrom (tb_rm 1 0 0) none (tb_ZM G 0 0 (zQ n 0 (zqi (fun z J' => J = J' ∧ WD (J 173) x y z))) (zX n 0 zN)) 0 0 n J 11 [some (.ref 164), some (zi x), some (zi y), some (zi 0), some (zi (x + 1)), some (zi e), some (zi 1)] [] := by
    intro e h01 he nm
    refine tz_iload (pc := 11) dX12_wordFrom_11 rfl ?_
    refine tz_knL (pc := 13) dX12_wordFrom_13 dX12_wordFrom_16 (by decide +kernel) ?_
    refine tz_icmp_geF (pc := 17) (tgt := 98) (by decide) dX12_wordFrom_17 (by decide) (by decide) (by decide) ?_
    refine tz_knD (pc := 20) (k9 := 1) (v := 121) (by decide) (by decide) rfl dX12_wordFrom_20 dX12_wordFrom_23 dX12_wordFrom_25 (by decide +kernel) ?_
    refine tz_bipush (pc := 26) dX12_wordFrom_26 (by decide) ?_
    refine tz_icmp_neT (pc := 28) (tgt := 56) (by decide) dX12_wordFrom_28 (by decide) (by decide) (by decide) ?_
    refine tz_iload (pc := 56) dX12_wordFrom_56 rfl ?_
    refine tz_if_eq (pc := 58) (tgt := 86) dX12_wordFrom_58 (by decide) (by omega) (fun h_58 => ?_) (fun h_58 => ?_)
    · refine tz_iconst (pc := 86) dX12_wordFrom_86 ?_
      refine tz_istore (pc := 87) (L2 := [_, _, _, _, _, _, _]) dX12_wordFrom_87 (by decide) rfl ?_
      refine tz_iinc (pc := 89) (z := (x + 1) + 1) (L2 := [_, _, _, _, _, _, _]) dX12_wordFrom_89 rfl (by omega) rfl ?_
      refine tz_iinc (pc := 92) (z := 2) (L2 := [_, _, _, _, _, _, _]) dX12_wordFrom_92 rfl (by decide) rfl ?_
      refine tz_goto (pc := 95) (tgt := 11) dX12_wordFrom_95 (by decide) ?_
      have g9 := s_2 0 (by decide) ⟨fun q => absurd q (by decide), fun q => by have q1 := mp_p q; have q2 := he.2 q1.1; have q3 : x + 1 < y ∧ J 173 (x + 1) = 121 := q1.2; omega⟩ nm
      rw [show x + 2 = x + 1 + 1 by omega] at g9
      exact g9
    · refine tz_iload (pc := 61) dX12_wordFrom_61 rfl ?_
      refine tz_iload_n (pc := 63) dX12_wordFrom_63 rfl rfl ?_
      refine tz_icmp_ge (pc := 64) (tgt := 86) dX12_wordFrom_64 (by decide) (by omega) (by omega) (fun h_64 => ?_) (fun h_64 => ?_)
      · refine tz_iconst (pc := 86) dX12_wordFrom_86 ?_
        refine tz_istore (pc := 87) (L2 := [_, _, _, _, _, _, _]) dX12_wordFrom_87 (by decide) rfl ?_
        refine tz_iinc (pc := 89) (z := (x + 1) + 1) (L2 := [_, _, _, _, _, _, _]) dX12_wordFrom_89 rfl (by omega) rfl ?_
        refine tz_iinc (pc := 92) (z := 2) (L2 := [_, _, _, _, _, _, _]) dX12_wordFrom_92 rfl (by decide) rfl ?_
        refine tz_goto (pc := 95) (tgt := 11) dX12_wordFrom_95 (by decide) ?_
        have g9 := s_2 0 (by decide) ⟨fun q => absurd q (by decide), fun q => by have q1 := mp_p q; have q2 := he.2 q1.1; have q3 : x + 1 < y ∧ J 173 (x + 1) = 121 := q1.2; omega⟩ nm
        rw [show x + 2 = x + 1 + 1 by omega] at g9
        exact g9
      · refine tz_aload_n (pc := 67) dX12_wordFrom_67 rfl rfl ?_
        refine tz_iload (pc := 68) dX12_wordFrom_68 rfl ?_
        refine tz_cV (pc := 70) (m_byteAt hl n _ _ (by omega) (by omega) (by omega)) vl_X12_240 dX12_wordFrom_70 o_164 rfl rfl (Nat.le_of_ble_eq_true rfl) ⟨(Nat.le_of_ble_eq_true rfl), (Nat.le_of_ble_eq_true rfl)⟩ rfl rfl (Nat.le_of_ble_eq_true rfl) (Nat.le_of_ble_eq_true rfl) (fun r9 J_70 hq9 => ?_)
        obtain ⟨z_70, rfl, hz_70, rfl, hb70, hc70⟩ := hq9
        refine tz_knD (pc := 73) (k9 := 1) (v := 121) (by decide) (by decide) rfl dX12_wordFrom_73 dX12_wordFrom_76 dX12_wordFrom_78 (by decide +kernel) ?_
        refine tz_icmp_ne (pc := 79) (tgt := 86) dX12_wordFrom_79 (by decide) (by omega) (by decide) (fun h_79 => ?_) (fun h_79 => ?_)
        · refine tz_iconst (pc := 86) dX12_wordFrom_86 ?_
          refine tz_istore (pc := 87) (L2 := [_, _, _, _, _, _, _]) dX12_wordFrom_87 (by decide) rfl ?_
          refine tz_iinc (pc := 89) (z := (x + 1) + 1) (L2 := [_, _, _, _, _, _, _]) dX12_wordFrom_89 rfl (by omega) rfl ?_
          refine tz_iinc (pc := 92) (z := 2) (L2 := [_, _, _, _, _, _, _]) dX12_wordFrom_92 rfl (by decide) rfl ?_
          refine tz_goto (pc := 95) (tgt := 11) dX12_wordFrom_95 (by decide) ?_
          have g9 := s_2 0 (by decide) ⟨fun q => absurd q (by decide), fun q => by have q1 := mp_p q; have q2 := he.2 q1.1; have q3 : x + 1 < y ∧ J 173 (x + 1) = 121 := q1.2; omega⟩ nm
          rw [show x + 2 = x + 1 + 1 by omega] at g9
          exact g9
        · refine tz_iconst (pc := 82) dX12_wordFrom_82 ?_
          refine tz_goto (pc := 83) (tgt := 87) dX12_wordFrom_83 (by decide) ?_
          refine tz_istore (pc := 87) (L2 := [_, _, _, _, _, _, _]) dX12_wordFrom_87 (by decide) rfl ?_
          refine tz_iinc (pc := 89) (z := (x + 1) + 1) (L2 := [_, _, _, _, _, _, _]) dX12_wordFrom_89 rfl (by omega) rfl ?_
          refine tz_iinc (pc := 92) (z := 2) (L2 := [_, _, _, _, _, _, _]) dX12_wordFrom_92 rfl (by decide) rfl ?_
          refine tz_goto (pc := 95) (tgt := 11) dX12_wordFrom_95 (by decide) ?_
          have g9 := s_2 1 (by decide) ⟨fun _ => mp_s (he.1 (by omega)) (show x + 1 < y by omega) (show J 173 (x + 1) = 121 by omega), fun _ => rfl⟩ nm
          rw [show x + 2 = x + 1 + 1 by omega] at g9
          exact g9
  have s_0 : ∀ e : Int, (e = 0 ∨ e = 1) → (e = 1 ↔ mpB (J 173) x y [115, 121, 109, 98, 111, 108] 0) → (True) → tz_At l G M_X12_wordFrom (tb_rm 1 0 0) none (tb_ZM G 0 0 (zQ n 0 (zqi (fun z J' => J = J' ∧ WD (J 173) x y z))) (zX n 0 zN)) 0 0 n J 11 [some (.ref 164), some (zi x), some (zi y), some (zi 0), some (zi (x + 0)), some (zi e), some (zi 0)] [] := by
    intro e h01 he nm
    refine tz_iload (pc := 11) dX12_wordFrom_11 rfl ?_
    refine tz_knL (pc := 13) dX12_wordFrom_13 dX12_wordFrom_16 (by decide +kernel) ?_
    refine tz_icmp_geF (pc := 17) (tgt := 98) (by decide) dX12_wordFrom_17 (by decide) (by decide) (by decide) ?_
    refine tz_knD (pc := 20) (k9 := 0) (v := 115) (by decide) (by decide) rfl dX12_wordFrom_20 dX12_wordFrom_23 dX12_wordFrom_25 (by decide +kernel) ?_
    refine tz_bipush (pc := 26) dX12_wordFrom_26 (by decide) ?_
    refine tz_icmp_neT (pc := 28) (tgt := 56) (by decide) dX12_wordFrom_28 (by decide) (by decide) (by decide) ?_
    refine tz_iload (pc := 56) dX12_wordFrom_56 rfl ?_
    refine tz_if_eq (pc := 58) (tgt := 86) dX12_wordFrom_58 (by decide) (by omega) (fun h_58 => ?_) (fun h_58 => ?_)
    · refine tz_iconst (pc := 86) dX12_wordFrom_86 ?_
      refine tz_istore (pc := 87) (L2 := [_, _, _, _, _, _, _]) dX12_wordFrom_87 (by decide) rfl ?_
      refine tz_iinc (pc := 89) (z := (x + 0) + 1) (L2 := [_, _, _, _, _, _, _]) dX12_wordFrom_89 rfl (by omega) rfl ?_
      refine tz_iinc (pc := 92) (z := 1) (L2 := [_, _, _, _, _, _, _]) dX12_wordFrom_92 rfl (by decide) rfl ?_
      refine tz_goto (pc := 95) (tgt := 11) dX12_wordFrom_95 (by decide) ?_
      have g9 := s_1 0 (by decide) ⟨fun q => absurd q (by decide), fun q => by have q1 := mp_p q; have q2 := he.2 q1.1; have q3 : x + 0 < y ∧ J 173 (x + 0) = 115 := q1.2; omega⟩ nm
      rw [show x + 1 = x + 0 + 1 by omega] at g9
      exact g9
    · refine tz_iload (pc := 61) dX12_wordFrom_61 rfl ?_
      refine tz_iload_n (pc := 63) dX12_wordFrom_63 rfl rfl ?_
      refine tz_icmp_ge (pc := 64) (tgt := 86) dX12_wordFrom_64 (by decide) (by omega) (by omega) (fun h_64 => ?_) (fun h_64 => ?_)
      · refine tz_iconst (pc := 86) dX12_wordFrom_86 ?_
        refine tz_istore (pc := 87) (L2 := [_, _, _, _, _, _, _]) dX12_wordFrom_87 (by decide) rfl ?_
        refine tz_iinc (pc := 89) (z := (x + 0) + 1) (L2 := [_, _, _, _, _, _, _]) dX12_wordFrom_89 rfl (by omega) rfl ?_
        refine tz_iinc (pc := 92) (z := 1) (L2 := [_, _, _, _, _, _, _]) dX12_wordFrom_92 rfl (by decide) rfl ?_
        refine tz_goto (pc := 95) (tgt := 11) dX12_wordFrom_95 (by decide) ?_
        have g9 := s_1 0 (by decide) ⟨fun q => absurd q (by decide), fun q => by have q1 := mp_p q; have q2 := he.2 q1.1; have q3 : x + 0 < y ∧ J 173 (x + 0) = 115 := q1.2; omega⟩ nm
        rw [show x + 1 = x + 0 + 1 by omega] at g9
        exact g9
      · refine tz_aload_n (pc := 67) dX12_wordFrom_67 rfl rfl ?_
        refine tz_iload (pc := 68) dX12_wordFrom_68 rfl ?_
        refine tz_cV (pc := 70) (m_byteAt hl n _ _ (by omega) (by omega) (by omega)) vl_X12_240 dX12_wordFrom_70 o_164 rfl rfl (Nat.le_of_ble_eq_true rfl) ⟨(Nat.le_of_ble_eq_true rfl), (Nat.le_of_ble_eq_true rfl)⟩ rfl rfl (Nat.le_of_ble_eq_true rfl) (Nat.le_of_ble_eq_true rfl) (fun r9 J_70 hq9 => ?_)
        obtain ⟨z_70, rfl, hz_70, rfl, hb70, hc70⟩ := hq9
        refine tz_knD (pc := 73) (k9 := 0) (v := 115) (by decide) (by decide) rfl dX12_wordFrom_73 dX12_wordFrom_76 dX12_wordFrom_78 (by decide +kernel) ?_
        refine tz_icmp_ne (pc := 79) (tgt := 86) dX12_wordFrom_79 (by decide) (by omega) (by decide) (fun h_79 => ?_) (fun h_79 => ?_)
        · refine tz_iconst (pc := 86) dX12_wordFrom_86 ?_
          refine tz_istore (pc := 87) (L2 := [_, _, _, _, _, _, _]) dX12_wordFrom_87 (by decide) rfl ?_
          refine tz_iinc (pc := 89) (z := (x + 0) + 1) (L2 := [_, _, _, _, _, _, _]) dX12_wordFrom_89 rfl (by omega) rfl ?_
          refine tz_iinc (pc := 92) (z := 1) (L2 := [_, _, _, _, _, _, _]) dX12_wordFrom_92 rfl (by decide) rfl ?_
          refine tz_goto (pc := 95) (tgt := 11) dX12_wordFrom_95 (by decide) ?_
          have g9 := s_1 0 (by decide) ⟨fun q => absurd q (by decide), fun q => by have q1 := mp_p q; have q2 := he.2 q1.1; have q3 : x + 0 < y ∧ J 173 (x + 0) = 115 := q1.2; omega⟩ nm
          rw [show x + 1 = x + 0 + 1 by omega] at g9
          exact g9
        · refine tz_iconst (pc := 82) dX12_wordFrom_82 ?_
          refine tz_goto (pc := 83) (tgt := 87) dX12_wordFrom_83 (by decide) ?_
          refine tz_istore (pc := 87) (L2 := [_, _, _, _, _, _, _]) dX12_wordFrom_87 (by decide) rfl ?_
          refine tz_iinc (pc := 89) (z := (x + 0) + 1) (L2 := [_, _, _, _, _, _, _]) dX12_wordFrom_89 rfl (by omega) rfl ?_
          refine tz_iinc (pc := 92) (z := 1) (L2 := [_, _, _, _, _, _, _]) dX12_wordFrom_92 rfl (by decide) rfl ?_
          refine tz_goto (pc := 95) (tgt := 11) dX12_wordFrom_95 (by decide) ?_
          have g9 := s_1 1 (by decide) ⟨fun _ => mp_s (he.1 (by omega)) (show x + 0 < y by omega) (show J 173 (x + 0) = 115 by omega), fun _ => rfl⟩ nm
          rw [show x + 1 = x + 0 + 1 by omega] at g9
          exact g9
  refine tz_iconst (pc := 0) dX12_wordFrom_0 ?_
  refine tz_istore_n (pc := 1) (L2 := [_, _, _, _, _, _, _]) dX12_wordFrom_1 rfl (by decide) rfl ?_
  refine tz_iload_n (pc := 2) dX12_wordFrom_2 rfl rfl ?_
  refine tz_istore (pc := 3) (L2 := [_, _, _, _, _, _, _]) dX12_wordFrom_3 (by decide) rfl ?_
  refine tz_iconst (pc := 5) dX12_wordFrom_5 ?_
  refine tz_istore (pc := 6) (L2 := [_, _, _, _, _, _, _]) dX12_wordFrom_6 (by decide) rfl ?_
  refine tz_iconst (pc := 8) dX12_wordFrom_8 ?_
  refine tz_istore (pc := 9) (L2 := [_, _, _, _, _, _, _]) dX12_wordFrom_9 (by decide) rfl ?_
  have g9 := s_0 1 (Or.inr rfl) ⟨fun _ => mp_0, fun _ => rfl⟩ trivial
  rw [show x + 0 = x from Int.add_zero x] at g9
  exact g9
