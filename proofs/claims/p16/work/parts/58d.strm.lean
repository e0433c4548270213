set_option maxHeartbeats 4000000 in
set_option maxRecDepth 100000 in
theorem c_jcoder {l : Launch} {G : tb_G} (hl : l.stackTraces = false) (n : Nat) (J : zJ)   (bs : List Int32)  : tz_OkP (PS bs) l G M_J0_coder_7d493 0 [.ref tb_sc] n J (zqi (fun z J' => J = J' ∧ 0 = z)) := by
  refine tz_OkP.of hl (by decide +kernel) rfl (tb_c1 rfl) (Nat.le_of_ble_eq_true rfl) ?_
  show tz_At l G M_J0_coder_7d493 (tb_rm 0 0 0) none (ZP (PS bs) (tb_ZM G 0 0 (zQ n 0 (zqi (fun z J' => J = J' ∧ 0 = z))) (zX n 0 zN))) 0 0 n J 0 [some (.ref tb_sc)] []
  refine tz_gCS (pc := 0) dJ0_coder_7d493_0 fs_cs ?_
  refine tz_if_eqF (pc := 3) (tgt := 13) (by decide) dJ0_coder_7d493_3 (by decide) (by decide) ?_
  refine tz_aload_n (pc := 6) dJ0_coder_7d493_6 rfl rfl ?_
  refine tz_gCo (pc := 7) dJ0_coder_7d493_7 fs_co ?_
  refine tz_goto (pc := 10) (tgt := 14) dJ0_coder_7d493_10 (by decide) ?_
  refine tz_zp ?_
  exact tz_nret (pc := 14) (z := 0) (ty := .byte) dJ0_coder_7d493_14 rfl (by decide) (Nat.le_of_ble_eq_true rfl) (Nat.le_of_ble_eq_true rfl) ⟨Nat.le_refl _, Nat.le_add_right _ _⟩ ⟨_, rfl, (by decide), ⟨rfl, rfl⟩⟩

set_option maxHeartbeats 4000000 in
set_option maxRecDepth 100000 in
theorem c_jlatin {l : Launch} {G : tb_G} (hl : l.stackTraces = false) (n : Nat) (J : zJ)   (bs : List Int32)  : tz_OkP (PS bs) l G M_J0_isLatin1_aae02 0 [.ref tb_sc] n J (zqi (fun z J' => J = J' ∧ 1 = z)) := by
  refine tz_OkP.of hl (by decide +kernel) rfl (tb_c1 rfl) (Nat.le_of_ble_eq_true rfl) ?_
  show tz_At l G M_J0_isLatin1_aae02 (tb_rm 0 0 0) none (ZP (PS bs) (tb_ZM G 0 0 (zQ n 0 (zqi (fun z J' => J = J' ∧ 1 = z))) (zX n 0 zN))) 0 0 n J 0 [some (.ref tb_sc)] []
  refine tz_gCS (pc := 0) dJ0_isLatin1_aae02_0 fs_cs ?_
  refine tz_if_eqF (pc := 3) (tgt := 17) (by decide) dJ0_isLatin1_aae02_3 (by decide) (by decide) ?_
  refine tz_aload_n (pc := 6) dJ0_isLatin1_aae02_6 rfl rfl ?_
  refine tz_gCo (pc := 7) dJ0_isLatin1_aae02_7 fs_co ?_
  refine tz_if_neF (pc := 10) (tgt := 17) (by decide) dJ0_isLatin1_aae02_10 (by decide) (by decide) ?_
  refine tz_iconst (pc := 13) dJ0_isLatin1_aae02_13 ?_
  refine tz_goto (pc := 14) (tgt := 18) dJ0_isLatin1_aae02_14 (by decide) ?_
  refine tz_zp ?_
  exact tz_zret (pc := 18) (z := 1) dJ0_isLatin1_aae02_18 rfl (Or.inr rfl) (Nat.le_of_ble_eq_true rfl) (Nat.le_of_ble_eq_true rfl) ⟨Nat.le_refl _, Nat.le_add_right _ _⟩ ⟨_, rfl, (by decide), ⟨rfl, rfl⟩⟩

set_option maxHeartbeats 4000000 in
set_option maxRecDepth 100000 in
theorem c_jlen {l : Launch} {G : tb_G} (hl : l.stackTraces = false) (n : Nat) (J : zJ)   (bs : List Int32) (hb : bs.length < 1000) : tz_OkP (PS bs) l G M_J0_length_8abf5 1 [.ref tb_sc] n J (zqi (fun z J' => J = J' ∧ (bs.length : Int) = z)) := by
  refine tz_OkP.of hl (by decide +kernel) rfl (tb_c1 rfl) (Nat.le_of_ble_eq_true rfl) ?_
  show tz_At l G M_J0_length_8abf5 (tb_rm 1 0 0) none (ZP (PS bs) (tb_ZM G 0 0 (zQ n 0 (zqi (fun z J' => J = J' ∧ (bs.length : Int) = z))) (zX n 0 zN))) 0 0 n J 0 [some (.ref tb_sc)] []
  refine tz_aload_n (pc := 0) dJ0_length_8abf5_0 rfl rfl ?_
  refine tz_gVL (pc := 1) (z := (bs.length : Int)) rfl dJ0_length_8abf5_1 dJ0_length_8abf5_4 fs_va ?_
  refine tz_aload_n (pc := 5) dJ0_length_8abf5_5 rfl rfl ?_
  refine tz_cVP (pc := 6) (as := []) (c_jcoder hl n _ bs) rfl vr_J0_335 dJ0_length_8abf5_6 rfl rfl (Nat.le_of_ble_eq_true rfl) ⟨(Nat.le_of_ble_eq_true rfl), (Nat.le_of_ble_eq_true rfl)⟩ (Nat.le_of_ble_eq_true rfl) (Nat.le_of_ble_eq_true rfl) (fun z_6 J_6 hz_6 hq9 => ?_)
  obtain ⟨rfl, rfl⟩ := hq9
  refine tz_ishr (pc := 9) (v := (bs.length : Int)) dJ0_length_8abf5_9 (zshr0 (by omega)) ?_
  refine tz_zp ?_
  exact tz_iret (pc := 10) (z := (bs.length : Int)) dJ0_length_8abf5_10 rfl (Nat.le_of_ble_eq_true rfl) (Nat.le_of_ble_eq_true rfl) ⟨Nat.le_refl _, Nat.le_add_right _ _⟩ ⟨_, rfl, (by omega), ⟨rfl, rfl⟩⟩

set_option maxHeartbeats 4000000 in
set_option maxRecDepth 100000 in
theorem c_jchk3n {l : Launch} {G : tb_G} (hl : l.stackTraces = false) (n : Nat) (J : zJ) (i : Int) (q : Int) (hr_i : -2147483648 ≤ i ∧ i < 2147483648) (hr_q : -2147483648 ≤ q ∧ q < 2147483648)  (hi : 0 ≤ i ∧ i < q) : tz_OkP (PA) l G M_J3_checkIndex_8e157 0 [zi i, zi q, .null] n J (zqi (fun z J' => J = J' ∧ i = z)) := by
  refine tz_OkP.of hl (by decide +kernel) rfl (tb_c1 rfl) (Nat.le_of_ble_eq_true rfl) ?_
  show tz_At l G M_J3_checkIndex_8e157 (tb_rm 0 0 0) none (ZP (PA) (tb_ZM G 0 0 (zQ n 0 (zqi (fun z J' => J = J' ∧ i = z))) (zX n 0 zN))) 0 0 n J 0 [some (zi i), some (zi q), some (.null)] []
  refine tz_iload_n (pc := 0) dJ3_checkIndex_8e157_0 rfl rfl ?_
  refine tz_if_ltF (pc := 1) (tgt := 9) (by omega) dJ3_checkIndex_8e157_1 (by decide) (by omega) ?_
  refine tz_iload_n (pc := 4) dJ3_checkIndex_8e157_4 rfl rfl ?_
  refine tz_iload_n (pc := 5) dJ3_checkIndex_8e157_5 rfl rfl ?_
  refine tz_icmp_ltT (pc := 6) (tgt := 16) (by omega) dJ3_checkIndex_8e157_6 (by decide) (by omega) (by omega) ?_
  refine tz_iload_n (pc := 16) dJ3_checkIndex_8e157_16 rfl rfl ?_
  refine tz_zp ?_
  exact tz_iret (pc := 17) (z := i) dJ3_checkIndex_8e157_17 rfl (Nat.le_of_ble_eq_true rfl) (Nat.le_of_ble_eq_true rfl) ⟨Nat.le_refl _, Nat.le_add_right _ _⟩ ⟨_, rfl, (by omega), ⟨rfl, rfl⟩⟩

set_option maxHeartbeats 4000000 in
set_option maxRecDepth 100000 in
theorem c_jchk3r {l : Launch} {G : tb_G} (hl : l.stackTraces = false) (n : Nat) (J : zJ) (i : Int) (q : Int) (hr_i : -2147483648 ≤ i ∧ i < 2147483648) (hr_q : -2147483648 ≤ q ∧ q < 2147483648)  (hi : 0 ≤ i ∧ i < q) : tz_OkP (PA) l G M_J3_checkIndex_8e157 0 [zi i, zi q, .ref tb_sc] n J (zqi (fun z J' => J = J' ∧ i = z)) := by
  refine tz_OkP.of hl (by decide +kernel) rfl (tb_c1 rfl) (Nat.le_of_ble_eq_true rfl) ?_
  show tz_At l G M_J3_checkIndex_8e157 (tb_rm 0 0 0) none (ZP (PA) (tb_ZM G 0 0 (zQ n 0 (zqi (fun z J' => J = J' ∧ i = z))) (zX n 0 zN))) 0 0 n J 0 [some (zi i), some (zi q), some (.ref tb_sc)] []
  refine tz_iload_n (pc := 0) dJ3_checkIndex_8e157_0 rfl rfl ?_
  refine tz_if_ltF (pc := 1) (tgt := 9) (by omega) dJ3_checkIndex_8e157_1 (by decide) (by omega) ?_
  refine tz_iload_n (pc := 4) dJ3_checkIndex_8e157_4 rfl rfl ?_
  refine tz_iload_n (pc := 5) dJ3_checkIndex_8e157_5 rfl rfl ?_
  refine tz_icmp_ltT (pc := 6) (tgt := 16) (by omega) dJ3_checkIndex_8e157_6 (by decide) (by omega) (by omega) ?_
  refine tz_iload_n (pc := 16) dJ3_checkIndex_8e157_16 rfl rfl ?_
  refine tz_zp ?_
  exact tz_iret (pc := 17) (z := i) dJ3_checkIndex_8e157_17 rfl (Nat.le_of_ble_eq_true rfl) (Nat.le_of_ble_eq_true rfl) ⟨Nat.le_refl _, Nat.le_add_right _ _⟩ ⟨_, rfl, (by omega), ⟨rfl, rfl⟩⟩

set_option maxHeartbeats 4000000 in
set_option maxRecDepth 100000 in
theorem c_jchk {l : Launch} {G : tb_G} (hl : l.stackTraces = false) (n : Nat) (J : zJ) (i : Int) (q : Int) (hr_i : -2147483648 ≤ i ∧ i < 2147483648) (hr_q : -2147483648 ≤ q ∧ q < 2147483648)  (hnb : n ≤ tb_sc) (hi : 0 ≤ i ∧ i < q) : tz_Ok l G M_J0_checkIndex_df160 1 0 0 [zi i, zi q] n J (zqv (fun J' => J = J')) zN := by
  refine tz_Ok.of hl (by decide +kernel) rfl (tb_c1 rfl) (Nat.le_of_ble_eq_true rfl) ?_
  show tz_At l G M_J0_checkIndex_df160 (tb_rm 1 0 0) none (tb_ZM G 0 0 (zQ n 0 (zqv (fun J' => J = J'))) (zX n 0 zN)) 0 0 n J 0 [some (zi i), some (zi q)] []
  refine tz_iload_n (pc := 0) dJ0_checkIndex_df160_0 rfl rfl ?_
  refine tz_iload_n (pc := 1) dJ0_checkIndex_df160_1 rfl rfl ?_
  refine tz_chk (pc := 2) (fun w9 hw9 => by rcases hw9 with rfl | rfl <;> first | exact c_jchk3n hl n _ i q hr_i hr_q hi | exact c_jchk3r hl n _ i q hr_i hr_q hi) hnb sl_J0_1059 dJ0_checkIndex_df160_2 dJ0_checkIndex_df160_5 fs_si (Nat.le_of_ble_eq_true rfl) ⟨(Nat.le_of_ble_eq_true rfl), (Nat.le_of_ble_eq_true rfl)⟩ (Nat.le_of_ble_eq_true rfl) (Nat.le_of_ble_eq_true rfl) (fun z9 J9 hz9 hq9 => ?_)
  obtain ⟨rfl, rfl⟩ := hq9
  refine tz_pop (pc := 8) dJ0_checkIndex_df160_8 rfl ?_
  exact tz_vret (pc := 9) dJ0_checkIndex_df160_9 rfl (Nat.le_of_ble_eq_true rfl) (Nat.le_of_ble_eq_true rfl) ⟨Nat.le_refl _, Nat.le_add_right _ _⟩ ⟨rfl, rfl⟩

set_option maxHeartbeats 4000000 in
set_option maxRecDepth 100000 in
theorem c_jchar1 {l : Launch} {G : tb_G} (hl : l.stackTraces = false) (n : Nat) (J : zJ) (k : Int) (hr_k : -2147483648 ≤ k ∧ k < 2147483648) (bs : List Int32) (hb : bs.length < 1000) (hnb : n ≤ tb_sc) (hk : 0 ≤ k ∧ k < (bs.length : Int)) : tz_OkP (PB bs) l G M_J1_charAt_3b067 2 [.ref tb_sc, zi k] n J (zqi (fun z J' => J = J' ∧ zch bs k = z)) := by
  refine tz_OkP.of hl (by decide +kernel) rfl (tb_c1 rfl) (Nat.le_of_ble_eq_true rfl) ?_
  show tz_At l G M_J1_charAt_3b067 (tb_rm 2 0 0) none (ZP (PB bs) (tb_ZM G 0 0 (zQ n 0 (zqi (fun z J' => J = J' ∧ zch bs k = z))) (zX n 0 zN))) 0 0 n J 0 [some (.ref tb_sc), some (zi k)] []
  have hc := zch_rg bs k
  refine tz_iload_n (pc := 0) dJ1_charAt_3b067_0 rfl rfl ?_
  refine tz_aload_n (pc := 1) dJ1_charAt_3b067_1 rfl rfl ?_
  refine tz_bLen (pc := 2) (z := (bs.length : Int)) rfl dJ1_charAt_3b067_2 ?_
  refine tz_cS (pc := 3) (c_jchk hl n _ _ _ (by omega) (by omega) hnb hk) sl_J1_9 dJ1_charAt_3b067_3 rfl rfl (Nat.le_of_ble_eq_true rfl) ⟨(Nat.le_of_ble_eq_true rfl), (Nat.le_of_ble_eq_true rfl)⟩ rfl rfl (Nat.le_of_ble_eq_true rfl) (Nat.le_of_ble_eq_true rfl) (fun r9 J_3 hq9 => ?_)
  obtain ⟨rfl, rfl⟩ := hq9
  refine tz_aload_n (pc := 6) dJ1_charAt_3b067_6 rfl rfl ?_
  refine tz_iload_n (pc := 7) dJ1_charAt_3b067_7 rfl rfl ?_
  refine tz_bLd (pc := 8) (k9 := k) (v := (bs.getD k.toNat 0).toInt) hk hb rfl dJ1_charAt_3b067_8 ?_
  refine tz_sipush (pc := 9) dJ1_charAt_3b067_9 (by decide) ?_
  refine tz_iand (pc := 12) (v := zch bs k) dJ1_charAt_3b067_12 rfl ?_
  refine tz_i2c (pc := 13) (v := zch bs k) dJ1_charAt_3b067_13 (zch_c2 bs k) ?_
  refine tz_zp ?_
  exact tz_nret (pc := 14) (z := (zch bs k)) (ty := .char) dJ1_charAt_3b067_14 rfl (zch_nar bs k) (Nat.le_of_ble_eq_true rfl) (Nat.le_of_ble_eq_true rfl) ⟨Nat.le_refl _, Nat.le_add_right _ _⟩ ⟨_, rfl, (by omega), ⟨rfl, rfl⟩⟩

set_option maxHeartbeats 4000000 in
set_option maxRecDepth 100000 in
theorem c_jchar {l : Launch} {G : tb_G} (hl : l.stackTraces = false) (n : Nat) (J : zJ) (k : Int) (hr_k : -2147483648 ≤ k ∧ k < 2147483648) (bs : List Int32) (hb : bs.length < 1000) (hnb : n ≤ tb_sc) (hk : 0 ≤ k ∧ k < (bs.length : Int)) : tz_OkP (PS bs) l G M_J0_charAt_5068e 3 [.ref tb_sc, zi k] n J (zqi (fun z J' => J = J' ∧ zch bs k = z)) := by
  refine tz_OkP.of hl (by decide +kernel) rfl (tb_c1 rfl) (Nat.le_of_ble_eq_true rfl) ?_
  show tz_At l G M_J0_charAt_5068e (tb_rm 3 0 0) none (ZP (PS bs) (tb_ZM G 0 0 (zQ n 0 (zqi (fun z J' => J = J' ∧ zch bs k = z))) (zX n 0 zN))) 0 0 n J 0 [some (.ref tb_sc), some (zi k)] []
  have hc := zch_rg bs k
  refine tz_aload_n (pc := 0) dJ0_charAt_5068e_0 rfl rfl ?_
  refine tz_cVP (pc := 1) (as := []) (c_jlatin hl n _ bs) rfl vr_J0_492 dJ0_charAt_5068e_1 rfl rfl (Nat.le_of_ble_eq_true rfl) ⟨(Nat.le_of_ble_eq_true rfl), (Nat.le_of_ble_eq_true rfl)⟩ (Nat.le_of_ble_eq_true rfl) (Nat.le_of_ble_eq_true rfl) (fun z_1 J_1 hz_1 hq9 => ?_)
  obtain ⟨rfl, rfl⟩ := hq9
  refine tz_if_eqF (pc := 4) (tgt := 16) (by decide) dJ0_charAt_5068e_4 (by decide) (by decide) ?_
  refine tz_aload_n (pc := 7) dJ0_charAt_5068e_7 rfl rfl ?_
  refine tz_chA (pc := 8) (k9 := k) (c_jchar1 hl n _ k hr_k bs hb hnb hk) hnb sl_J0_495 rfl dJ0_charAt_5068e_8 dJ0_charAt_5068e_11 dJ0_charAt_5068e_12 fs_va (Nat.le_of_ble_eq_true rfl) ⟨(Nat.le_of_ble_eq_true rfl), (Nat.le_of_ble_eq_true rfl)⟩ (Nat.le_of_ble_eq_true rfl) (Nat.le_of_ble_eq_true rfl) (fun z9 J9 hz9 hq9 => ?_)
  obtain ⟨rfl, rfl⟩ := hq9
  refine tz_zp ?_
  exact tz_nret (pc := 15) (z := (zch bs k)) (ty := .char) dJ0_charAt_5068e_15 rfl (zch_nar bs k) (Nat.le_of_ble_eq_true rfl) (Nat.le_of_ble_eq_true rfl) ⟨Nat.le_refl _, Nat.le_add_right _ _⟩ ⟨_, rfl, (by omega), ⟨rfl, rfl⟩⟩

def RD (J : zJ) : Prop := (0 ≤ J 163 6 ∧ J 163 6 ≤ J 163 7) ∧ (J 163 7 ≤ J 163 4 ∧ J 163 4 ≤ 700)
