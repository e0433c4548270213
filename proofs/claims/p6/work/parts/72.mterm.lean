section
theorem MS.push {J : zJ} {b r d s m h A x y w a0 a1 a2 dp : Int} (hM : MS J b r d s m) (hm : m < 400) (hh : -8 ≤ h ∧ h < s) (hA : arh (fun k => J 170 (d + k)) h = A) (hA3 : 0 ≤ A ∧ A ≤ 3) (h0 : 0 < A → a0 = x ∧ (0 ≤ x ∧ x < m) ∧ J 168 (b + x) < dp) (h1 : 1 < A → a1 = y ∧ (0 ≤ y ∧ y < m) ∧ J 168 (b + y) < dp) (h2 : 2 < A → a2 = w ∧ (0 ≤ w ∧ w < m) ∧ J 168 (b + w) < dp) (hn : ∀ q, 0 ≤ q → q < m → ¬ (J 166 (b + q) = h ∧ (0 < A → J 167 (3 * (b + q) + 0) = x) ∧ (1 < A → J 167 (3 * (b + q) + 1) = y) ∧ (2 < A → J 167 (3 * (b + q) + 2) = w))) (hdp : 1 ≤ dp ∧ dp ≤ 6) (hd : dp = 1 ∨ (0 < A ∧ dp = J 168 (b + x) + 1) ∨ (1 < A ∧ dp = J 168 (b + y) + 1) ∨ (2 < A ∧ dp = J 168 (b + w) + 1)) (h21 : J 164 21 = 0) : MG [] [] (fun _ => false) (zup (zup (zup (zup (zup (zup (zup J 164 21 0) 166 (b + m) h) 167 (3 * (b + m)) a0) 167 (3 * (b + m) + 1) a1) 167 (3 * (b + m) + 2) a2) 168 (b + m) dp) 165 r (m + 1)) J b r d s m (m + 1) := by
  have hT := hM.told
  obtain ⟨hM1, hM2, hM3, hM4, hM5, hM6⟩ := id hM
  have e6 : ∀ k, (zup (zup (zup (zup (zup (zup (zup J 164 21 0) 166 (b + m) h) 167 (3 * (b + m)) a0) 167 (3 * (b + m) + 1) a1) 167 (3 * (b + m) + 2) a2) 168 (b + m) dp) 165 r (m + 1)) 166 k = if k = b + m then h else J 166 k := fun k => rfl
  have e8 : ∀ k, (zup (zup (zup (zup (zup (zup (zup J 164 21 0) 166 (b + m) h) 167 (3 * (b + m)) a0) 167 (3 * (b + m) + 1) a1) 167 (3 * (b + m) + 2) a2) 168 (b + m) dp) 165 r (m + 1)) 168 k = if k = b + m then dp else J 168 k := fun k => rfl
  have e7 : ∀ k, (zup (zup (zup (zup (zup (zup (zup J 164 21 0) 166 (b + m) h) 167 (3 * (b + m)) a0) 167 (3 * (b + m) + 1) a1) 167 (3 * (b + m) + 2) a2) 168 (b + m) dp) 165 r (m + 1)) 167 k = if k = 3 * (b + m) + 2 then a2 else if k = 3 * (b + m) + 1 then a1 else if k = 3 * (b + m) then a0 else J 167 k := fun k => rfl
  have e5 : ∀ k, (zup (zup (zup (zup (zup (zup (zup J 164 21 0) 166 (b + m) h) 167 (3 * (b + m)) a0) 167 (3 * (b + m) + 1) a1) 167 (3 * (b + m) + 2) a2) 168 (b + m) dp) 165 r (m + 1)) 165 k = if k = r then m + 1 else J 165 k := fun k => rfl
  have e4 : ∀ k, (zup (zup (zup (zup (zup (zup (zup J 164 21 0) 166 (b + m) h) 167 (3 * (b + m)) a0) 167 (3 * (b + m) + 1) a1) 167 (3 * (b + m) + 2) a2) 168 (b + m) dp) 165 r (m + 1)) 164 k = if k = 21 then 0 else J 164 k := fun k => rfl
  have e0 : (zup (zup (zup (zup (zup (zup (zup J 164 21 0) 166 (b + m) h) 167 (3 * (b + m)) a0) 167 (3 * (b + m) + 1) a1) 167 (3 * (b + m) + 2) a2) 168 (b + m) dp) 165 r (m + 1)) 170 = J 170 := rfl
  have ez : zOf (zbut [164, 165, 166, 167, 168]) (zup (zup (zup (zup (zup (zup (zup J 164 21 0) 166 (b + m) h) 167 (3 * (b + m)) a0) 167 (3 * (b + m) + 1) a1) 167 (3 * (b + m) + 2) a2) 168 (b + m) dp) 165 r (m + 1)) J := zOf.up rfl (zOf.up rfl (zOf.up rfl (zOf.up rfl (zOf.up rfl (zOf.up rfl (zOf.up rfl zOf.rf))))))
  generalize (zup (zup (zup (zup (zup (zup (zup J 164 21 0) 166 (b + m) h) 167 (3 * (b + m)) a0) 167 (3 * (b + m) + 1) a1) 167 (3 * (b + m) + 2) a2) 168 (b + m) dp) 165 r (m + 1)) = J9 at *
  have p6 : ∀ t, 0 ≤ t → t < m → J9 166 (b + t) = J 166 (b + t) := fun t a c => by rw [e6, if_neg (by omega)]
  have p8 : ∀ t, 0 ≤ t → t < m → J9 168 (b + t) = J 168 (b + t) := fun t a c => by rw [e8, if_neg (by omega)]
  have p7 : ∀ t, 0 ≤ t → t < m → ∀ i, 0 ≤ i → i < 3 → J9 167 (3 * (b + t) + i) = J 167 (3 * (b + t) + i) := fun t a c i x y => by rw [e7, if_neg (by omega), if_neg (by omega), if_neg (by omega)]
  have q6 : J9 166 (b + m) = h := by rw [e6, if_pos rfl]
  have q8 : J9 168 (b + m) = dp := by rw [e8, if_pos rfl]
  have q70 : J9 167 (3 * (b + m) + 0) = a0 := by rw [e7, if_neg (by omega), if_neg (by omega), if_pos (by omega)]
  have q71 : J9 167 (3 * (b + m) + 1) = a1 := by rw [e7, if_neg (by omega), if_pos rfl]
  have q72 : J9 167 (3 * (b + m) + 2) = a2 := by rw [e7, if_pos rfl]
  have har : ∀ t, 0 ≤ t → t < m → arh (fun k => J 170 (d + k)) (J 166 (b + t)) ≤ 3 := fun t a c => (hM.ar ⟨a, c⟩).1.2
  have hx : ∀ i, 0 ≤ i → i < A → (0 ≤ J9 167 (3 * (b + m) + i) ∧ J9 167 (3 * (b + m) + i) < m) ∧ J9 168 (b + J9 167 (3 * (b + m) + i)) < dp := fun i a c => by
    have hi : i = 0 ∨ i = 1 ∨ i = 2 := by omega
    rcases hi with rfl | rfl | rfl
    · obtain ⟨g1, g2, g3⟩ := h0 c
      rw [q70, g1, p8 x g2.1 g2.2]
      exact ⟨g2, g3⟩
    · obtain ⟨g1, g2, g3⟩ := h1 c
      rw [q71, g1, p8 y g2.1 g2.2]
      exact ⟨g2, g3⟩
    · obtain ⟨g1, g2, g3⟩ := h2 c
      rw [q72, g1, p8 w g2.1 g2.2]
      exact ⟨g2, g3⟩
  refine ⟨⟨⟨hM1, by rw [e4, if_neg (by decide)]; exact hM2, by rw [e4, if_neg (by decide)]; exact hM3, by rw [e4, if_neg (by decide)]; exact hM4, by rw [e5, if_pos rfl], ?_⟩, by omega⟩, fun t a c => ⟨⟨p6 t a c, p8 t a c⟩, p7 t a c⟩, ⟨⟨fun k q => ⟨by rw [e6, if_neg (by omega)], by rw [e8, if_neg (by omega)]⟩, fun k q => by rw [e7, if_neg (by omega), if_neg (by omega), if_neg (by omega)]⟩, fun k q _ => by rw [e5, if_neg q], fun k q => by rw [e4, if_neg (by intro e; subst e; simp at q)], ez⟩, fun _ => h21⟩
  unfold MTT
  rw [e0]
  refine hM6.push hm p6 (fun t a c i u v => p7 t a c i u (by have := har t a c; omega)) p8 ⟨by show -8 ≤ J9 166 (b + m) ∧ J9 166 (b + m) < s; rw [q6]; exact hh, by show 1 ≤ J9 168 (b + m) ∧ J9 168 (b + m) ≤ 6; rw [q8]; exact hdp, fun i u v => ?_, ?_⟩ (fun q a c e => ?_)
  · have v9 : i < arh (fun k => J 170 (d + k)) (J9 166 (b + m)) := v
    rw [q6, hA] at v9
    have := hx i u v9
    show (0 ≤ J9 167 (3 * (b + m) + i) ∧ J9 167 (3 * (b + m) + i) < m) ∧ J9 168 (b + J9 167 (3 * (b + m) + i)) < J9 168 (b + m)
    rw [q8]
    exact this
  · show J9 168 (b + m) = 1 ∨ ∃ i, (0 ≤ i ∧ i < arh (fun k => J 170 (d + k)) (J9 166 (b + m))) ∧ J9 168 (b + m) = J9 168 (b + J9 167 (3 * (b + m) + i)) + 1
    rw [q8, q6, hA]
    rcases hd with hd | ⟨g, hd⟩ | ⟨g, hd⟩ | ⟨g, hd⟩
    · exact Or.inl hd
    · refine Or.inr ⟨0, by omega, ?_⟩
      rw [q70, (h0 g).1, p8 x (h0 g).2.1.1 (h0 g).2.1.2]
      exact hd
    · refine Or.inr ⟨1, by omega, ?_⟩
      rw [q71, (h1 g).1, p8 y (h1 g).2.1.1 (h1 g).2.1.2]
      exact hd
    · refine Or.inr ⟨2, by omega, ?_⟩
      rw [q72, (h2 g).1, p8 w (h2 g).2.1.1 (h2 g).2.1.2]
      exact hd
  · have u1 : J9 166 (b + q) = J9 166 (b + m) := e.1
    have u2 : ∀ i, 0 ≤ i → i < arh (fun k => J 170 (d + k)) (J9 166 (b + m)) → J9 167 (3 * (b + q) + i) = J9 167 (3 * (b + m) + i) := e.2
    rw [p6 q a c, q6] at u1
    refine hn q a c ⟨u1, fun g => ?_, fun g => ?_, fun g => ?_⟩
    · have := u2 0 (by omega) (by rw [q6, hA]; exact g)
      rw [p7 q a c 0 (by omega) (by omega), q70, (h0 g).1] at this
      exact this
    · have := u2 1 (by omega) (by rw [q6, hA]; exact g)
      rw [p7 q a c 1 (by omega) (by omega), q71, (h1 g).1] at this
      exact this
    · have := u2 2 (by omega) (by rw [q6, hA]; exact g)
      rw [p7 q a c 2 (by omega) (by omega), q72, (h2 g).1] at this
      exact this
set_option maxHeartbeats 4000000 in
set_option maxRecDepth 100000 in
theorem m_tmN {l : Launch} {G : tb_G} (hl : l.stackTraces = false) (n : Nat) (J : zJ) (h : Int) (x : Int) (y : Int) (w : Int) (hr_h : -2147483648 ≤ h ∧ h < 2147483648) (hr_x : -2147483648 ≤ x ∧ x < 2147483648) (hr_y : -2147483648 ≤ y ∧ y < 2147483648) (hr_w : -2147483648 ≤ w ∧ w < 2147483648) (b r d s m : Int) (hM : MS J b r d s m) (hh : -8 ≤ h ∧ h < s) (hk : h < 0) (hg : J 164 21 = 0 → (0 < (0 : Int) → 0 ≤ x ∧ x < m) ∧ (1 < (0 : Int) → 0 ≤ y ∧ y < m) ∧ (2 < (0 : Int) → 0 ≤ w ∧ w < m)) : tz_Ok l G M_X12_termOf 2 0 0 [.ref 164, zi h, zi x, zi y, zi w] n J (zqi (fun z J' => ∃ m', MG [] [] (fun _ => false) J' J b r d s m m' ∧ (J' 164 21 = 0 → 0 ≤ z ∧ z < m'))) zN := by
  refine tz_Ok.of hl (by decide +kernel) rfl (tb_c1 rfl) (Nat.le_of_ble_eq_true rfl) ?_
  show tz_At l G M_X12_termOf (tb_rm 2 0 0) none (tb_ZM G 0 0 (zQ n 0 (zqi (fun z J' => ∃ m', MG [] [] (fun _ => false) J' J b r d s m m' ∧ (J' 164 21 = 0 → 0 ≤ z ∧ z < m')))) (zX n 0 zN)) 0 0 n J 0 [some (.ref 164), some (zi h), some (zi x), some (zi y), some (zi w), none, none, none] []
  obtain ⟨hM1, hM2, hM3, hM4, hM5, hM6⟩ := id hM
  have hT := hM.told
  refine tz_aload_n (pc := 0) dX12_termOf_0 rfl rfl ?_
  refine tz_fI (pc := 1) (kz := 21) (v := (J 164 21)) dX12_termOf_1 fl_X12_92 i_164_21 rfl rfl (fun r_1 => ?_)
  refine tz_if_eq (pc := 4) (tgt := 9) dX12_termOf_4 (by decide) (by omega) (fun h_4 => ?_) (fun h_4 => ?_)
  · refine tz_iload_n (pc := 9) dX12_termOf_9 rfl rfl ?_
    refine tz_if_geF (pc := 10) (tgt := 17) (by omega) dX12_termOf_10 (by decide) (by omega) ?_
    refine tz_iconst (pc := 13) dX12_termOf_13 ?_
    refine tz_goto (pc := 14) (tgt := 28) dX12_termOf_14 (by decide) ?_
    refine tz_istore (pc := 28) (L2 := [_, _, _, _, _, _, _, _]) dX12_termOf_28 (by decide) rfl ?_
    refine tz_iconst (pc := 30) dX12_termOf_30 ?_
    refine tz_istore (pc := 31) (L2 := [_, _, _, _, _, _, _, _]) dX12_termOf_31 (by decide) rfl ?_
    have loop33 : ∀ (f9 : Nat) (t : Int), ((m - t).toNat) < f9 → (0 ≤ t ∧ t ≤ m) → (∀ q, 0 ≤ q → q < t → ¬ (J 166 (b + q) = h ∧ (0 < (0 : Int) → J 167 (3 * (b + q) + 0) = x) ∧ (1 < (0 : Int) → J 167 (3 * (b + q) + 1) = y) ∧ (2 < (0 : Int) → J 167 (3 * (b + q) + 2) = w))) → tz_At l G M_X12_termOf (tb_rm 2 0 0) none (tb_ZM G 0 0 (zQ n 0 (zqi (fun z J' => ∃ m', MG [] [] (fun _ => false) J' J b r d s m m' ∧ (J' 164 21 = 0 → 0 ≤ z ∧ z < m')))) (zX n 0 zN)) 0 0 n J 33 [some (.ref 164), some (zi h), some (zi x), some (zi y), some (zi w), some (zi 0), some (zi t), none] [] := by
      intro f9
      induction f9 with
      | zero => intro t hm9; exact absurd hm9 (Nat.not_lt_zero _)
      | succ f9 ih33 =>
        intro t hm33 hq hn
        refine tz_iload (pc := 33) dX12_termOf_33 rfl ?_
        refine tz_aload_n (pc := 35) dX12_termOf_35 rfl rfl ?_
        refine tz_cV (pc := 36) (m_many hl n _ b r d s m hM) vl_X12_96 dX12_termOf_36 o_164 rfl rfl (Nat.le_of_ble_eq_true rfl) ⟨(Nat.le_of_ble_eq_true rfl), (Nat.le_of_ble_eq_true rfl)⟩ rfl rfl (Nat.le_of_ble_eq_true rfl) (Nat.le_of_ble_eq_true rfl) (fun r9 J_36 hq9 => ?_)
        obtain ⟨z_36, rfl, hz_36, rfl, rfl⟩ := hq9
        refine tz_icmp_ge (pc := 39) (tgt := 67) dX12_termOf_39 (by decide) (by omega) (by omega) (fun h_39 => ?_) (fun h_39 => ?_)
        · refine tz_iconst (pc := 67) dX12_termOf_67 ?_
          refine tz_istore (pc := 68) (L2 := [_, _, _, _, _, _, _, _]) dX12_termOf_68 (by decide) rfl ?_
          refine tz_iload (pc := 70) dX12_termOf_70 rfl ?_
          refine tz_if_leT (pc := 72) (tgt := 95) (by decide) dX12_termOf_72 (by decide) (by decide) ?_
          refine tz_iload (pc := 95) dX12_termOf_95 rfl ?_
          refine tz_iconst (pc := 97) dX12_termOf_97 ?_
          refine tz_icmp_leT (pc := 98) (tgt := 121) (by decide) dX12_termOf_98 (by decide) (by decide) (by decide) ?_
          refine tz_iload (pc := 121) dX12_termOf_121 rfl ?_
          refine tz_iconst (pc := 123) dX12_termOf_123 ?_
          refine tz_icmp_leT (pc := 124) (tgt := 148) (by decide) dX12_termOf_124 (by decide) (by decide) (by decide) ?_
          refine tz_aload_n (pc := 148) dX12_termOf_148 rfl rfl ?_
          refine tz_iload (pc := 149) dX12_termOf_149 rfl ?_
          refine tz_bipush (pc := 151) dX12_termOf_151 (by decide) ?_
          refine tz_icmp_gtF (pc := 153) (tgt := 166) (by decide) dX12_termOf_153 (by decide) (by decide) (by decide) ?_
          refine tz_aload_n (pc := 156) dX12_termOf_156 rfl rfl ?_
          refine tz_cV (pc := 157) (m_many hl n _ b r d s m hM) vl_X12_96 dX12_termOf_157 o_164 rfl rfl (Nat.le_of_ble_eq_true rfl) ⟨(Nat.le_of_ble_eq_true rfl), (Nat.le_of_ble_eq_true rfl)⟩ rfl rfl (Nat.le_of_ble_eq_true rfl) (Nat.le_of_ble_eq_true rfl) (fun r9 J_157 hq9 => ?_)
          obtain ⟨z_157, rfl, hz_157, rfl, rfl⟩ := hq9
          refine tz_sipush (pc := 160) dX12_termOf_160 (by decide) ?_
          refine tz_icmp_ne (pc := 163) (tgt := 170) dX12_termOf_163 (by decide) (by omega) (by decide) (fun h_163 => ?_) (fun h_163 => ?_)
          · refine tz_iconst (pc := 170) dX12_termOf_170 ?_
            refine tz_pZ (pc := 171) (kz := 21) dX12_termOf_171 fl_X12_92 i_164_21 rfl rfl (Or.inl rfl) ?_
            refine tz_aload_n (pc := 174) dX12_termOf_174 rfl rfl ?_
            refine tz_fI (pc := 175) (kz := 21) (v := 0) dX12_termOf_175 fl_X12_92 i_164_21 rfl rfl (fun _ => ?_)
            refine tz_if_eqT (pc := 178) (tgt := 183) (by decide) dX12_termOf_178 (by decide) (by decide) ?_
            refine tz_aload_n (pc := 183) dX12_termOf_183 rfl rfl ?_
            refine tz_cV (pc := 184) (m_many hl n _ b r d s m (hM.of ⟨zup_ne (by decide), zup_ne (by decide), zup_ne (by decide)⟩ rfl rfl rfl rfl rfl)) vl_X12_96 dX12_termOf_184 o_164 rfl rfl (Nat.le_of_ble_eq_true rfl) ⟨(Nat.le_of_ble_eq_true rfl), (Nat.le_of_ble_eq_true rfl)⟩ rfl rfl (Nat.le_of_ble_eq_true rfl) (Nat.le_of_ble_eq_true rfl) (fun r9 J_184 hq9 => ?_)
            obtain ⟨z_184, rfl, hz_184, rfl, rfl⟩ := hq9
            refine tz_istore (pc := 187) (L2 := [_, _, _, _, _, _, _, _]) dX12_termOf_187 (by decide) rfl ?_
            refine tz_aload_n (pc := 189) dX12_termOf_189 rfl rfl ?_
            refine tz_fR (pc := 190) dX12_termOf_190 fl_X12_13 r_164_1 ?_
            refine tz_aload_n (pc := 193) dX12_termOf_193 rfl rfl ?_
            refine tz_fI (pc := 194) (kz := 15) (v := b) dX12_termOf_194 fl_X12_71 i_164_15 rfl hM2 (fun r_194 => ?_)
            refine tz_iload (pc := 197) dX12_termOf_197 rfl ?_
            refine tz_iadd (pc := 199) (v := b + m) dX12_termOf_199 rfl ?_
            refine tz_iload_n (pc := 200) dX12_termOf_200 rfl rfl ?_
            refine tz_aS (pc := 201) (z := (b + m)) dX12_termOf_201 a_166 rfl (by omega) (by omega) ?_
            refine tz_aload_n (pc := 202) dX12_termOf_202 rfl rfl ?_
            refine tz_fR (pc := 203) dX12_termOf_203 fl_X12_16 r_164_2 ?_
            refine tz_iconst (pc := 206) dX12_termOf_206 ?_
            refine tz_aload_n (pc := 207) dX12_termOf_207 rfl rfl ?_
            refine tz_fI (pc := 208) (kz := 15) (v := b) dX12_termOf_208 fl_X12_71 i_164_15 rfl hM2 (fun r_208 => ?_)
            refine tz_iload (pc := 211) dX12_termOf_211 rfl ?_
            refine tz_iadd (pc := 213) (v := b + m) dX12_termOf_213 rfl ?_
            refine tz_imul (pc := 214) (v := 3 * (b + m)) dX12_termOf_214 rfl ?_
            refine tz_iload (pc := 215) dX12_termOf_215 rfl ?_
            refine tz_if_leT (pc := 217) (tgt := 224) (by decide) dX12_termOf_217 (by decide) (by decide) ?_
            refine tz_iconst (pc := 224) dX12_termOf_224 ?_
            refine tz_aS (pc := 225) (z := (3 * (b + m))) dX12_termOf_225 a_167 rfl (by omega) (by decide) ?_
            refine tz_aload_n (pc := 226) dX12_termOf_226 rfl rfl ?_
            refine tz_fR (pc := 227) dX12_termOf_227 fl_X12_16 r_164_2 ?_
            refine tz_iconst (pc := 230) dX12_termOf_230 ?_
            refine tz_aload_n (pc := 231) dX12_termOf_231 rfl rfl ?_
            refine tz_fI (pc := 232) (kz := 15) (v := b) dX12_termOf_232 fl_X12_71 i_164_15 rfl hM2 (fun r_232 => ?_)
            refine tz_iload (pc := 235) dX12_termOf_235 rfl ?_
            refine tz_iadd (pc := 237) (v := b + m) dX12_termOf_237 rfl ?_
            refine tz_imul (pc := 238) (v := 3 * (b + m)) dX12_termOf_238 rfl ?_
            refine tz_iconst (pc := 239) dX12_termOf_239 ?_
            refine tz_iadd (pc := 240) (v := (3 * (b + m)) + 1) dX12_termOf_240 rfl ?_
            refine tz_iload (pc := 241) dX12_termOf_241 rfl ?_
            refine tz_iconst (pc := 243) dX12_termOf_243 ?_
            refine tz_icmp_leT (pc := 244) (tgt := 251) (by decide) dX12_termOf_244 (by decide) (by decide) (by decide) ?_
            refine tz_iconst (pc := 251) dX12_termOf_251 ?_
            refine tz_aS (pc := 252) (z := ((3 * (b + m)) + 1)) dX12_termOf_252 a_167 rfl (by omega) (by decide) ?_
            refine tz_aload_n (pc := 253) dX12_termOf_253 rfl rfl ?_
            refine tz_fR (pc := 254) dX12_termOf_254 fl_X12_16 r_164_2 ?_
            refine tz_iconst (pc := 257) dX12_termOf_257 ?_
            refine tz_aload_n (pc := 258) dX12_termOf_258 rfl rfl ?_
            refine tz_fI (pc := 259) (kz := 15) (v := b) dX12_termOf_259 fl_X12_71 i_164_15 rfl hM2 (fun r_259 => ?_)
            refine tz_iload (pc := 262) dX12_termOf_262 rfl ?_
            refine tz_iadd (pc := 264) (v := b + m) dX12_termOf_264 rfl ?_
            refine tz_imul (pc := 265) (v := 3 * (b + m)) dX12_termOf_265 rfl ?_
            refine tz_iconst (pc := 266) dX12_termOf_266 ?_
            refine tz_iadd (pc := 267) (v := (3 * (b + m)) + 2) dX12_termOf_267 rfl ?_
            refine tz_iload (pc := 268) dX12_termOf_268 rfl ?_
            refine tz_iconst (pc := 270) dX12_termOf_270 ?_
            refine tz_icmp_leT (pc := 271) (tgt := 279) (by decide) dX12_termOf_271 (by decide) (by decide) (by decide) ?_
            refine tz_iconst (pc := 279) dX12_termOf_279 ?_
            refine tz_aS (pc := 280) (z := ((3 * (b + m)) + 2)) dX12_termOf_280 a_167 rfl (by omega) (by decide) ?_
            refine tz_aload_n (pc := 281) dX12_termOf_281 rfl rfl ?_
            refine tz_fR (pc := 282) dX12_termOf_282 fl_X12_19 r_164_3 ?_
            refine tz_aload_n (pc := 285) dX12_termOf_285 rfl rfl ?_
            refine tz_fI (pc := 286) (kz := 15) (v := b) dX12_termOf_286 fl_X12_71 i_164_15 rfl hM2 (fun r_286 => ?_)
            refine tz_iload (pc := 289) dX12_termOf_289 rfl ?_
            refine tz_iadd (pc := 291) (v := b + m) dX12_termOf_291 rfl ?_
            refine tz_iload (pc := 292) dX12_termOf_292 rfl ?_
            refine tz_aS (pc := 294) (z := (b + m)) dX12_termOf_294 a_168 rfl (by omega) (by decide) ?_
            refine tz_aload_n (pc := 295) dX12_termOf_295 rfl rfl ?_
            refine tz_fR (pc := 296) dX12_termOf_296 fl_X12_9 r_164_0 ?_
            refine tz_aload_n (pc := 299) dX12_termOf_299 rfl rfl ?_
            refine tz_fI (pc := 300) (kz := 16) (v := r) dX12_termOf_300 fl_X12_85 i_164_16 rfl hM3 (fun r_300 => ?_)
            refine tz_iconst (pc := 303) dX12_termOf_303 ?_
            refine tz_iadd (pc := 304) (v := r) dX12_termOf_304 (Int.add_zero _) ?_
            refine tz_dup2 (pc := 305) dX12_termOf_305 rfl rfl ?_
            refine tz_aL (pc := 306) (z := r) (v := m) dX12_termOf_306 a_165 rfl (by omega) hM5 (fun r_306 => ?_)
            refine tz_iconst (pc := 307) dX12_termOf_307 ?_
            refine tz_iadd (pc := 308) (v := m + 1) dX12_termOf_308 rfl ?_
            refine tz_aS (pc := 309) (z := r) dX12_termOf_309 a_165 rfl (by omega) (by omega) ?_
            refine tz_iload (pc := 310) dX12_termOf_310 rfl ?_
            exact tz_iret (pc := 312) (z := m) dX12_termOf_312 rfl (Nat.le_of_ble_eq_true rfl) (Nat.le_of_ble_eq_true rfl) ⟨Nat.le_refl _, Nat.le_add_right _ _⟩ ⟨_, rfl, (by omega), ⟨m + 1, hM.push (A := 0) (x := x) (y := y) (w := w) (by omega) hh (by unfold arh; rw [if_pos hk]) (by decide) (fun g => absurd g (by decide)) (fun g => absurd g (by decide)) (fun g => absurd g (by decide)) (fun q a c => hn q a (by omega)) (by omega) (by omega) h_4, fun _ => by omega⟩⟩
          · refine tz_iconst (pc := 166) dX12_termOf_166 ?_
            refine tz_goto (pc := 167) (tgt := 171) dX12_termOf_167 (by decide) ?_
            refine tz_pZ (pc := 171) (kz := 21) dX12_termOf_171 fl_X12_92 i_164_21 rfl rfl (Or.inr rfl) ?_
            refine tz_aload_n (pc := 174) dX12_termOf_174 rfl rfl ?_
            refine tz_fI (pc := 175) (kz := 21) (v := 1) dX12_termOf_175 fl_X12_92 i_164_21 rfl rfl (fun _ => ?_)
            refine tz_if_eqF (pc := 178) (tgt := 183) (by decide) dX12_termOf_178 (by decide) (by decide) ?_
            refine tz_iconst (pc := 181) dX12_termOf_181 ?_
            exact tz_iret (pc := 182) (z := 0) dX12_termOf_182 rfl (Nat.le_of_ble_eq_true rfl) (Nat.le_of_ble_eq_true rfl) ⟨Nat.le_refl _, Nat.le_add_right _ _⟩ ⟨_, rfl, (by decide), ⟨m, (MG.rf hM).full (fun q => absurd q (by decide)), fun q => absurd ((zup_at (J := J) (c := 164) (k := 21) (z := 1)).symm.trans q) (by decide)⟩⟩
        · refine tz_aload_n (pc := 42) dX12_termOf_42 rfl rfl ?_
          refine tz_iload (pc := 43) dX12_termOf_43 rfl ?_
          refine tz_iload_n (pc := 45) dX12_termOf_45 rfl rfl ?_
          refine tz_iload (pc := 46) dX12_termOf_46 rfl ?_
          refine tz_iload_n (pc := 48) dX12_termOf_48 rfl rfl ?_
          refine tz_iload_n (pc := 49) dX12_termOf_49 rfl rfl ?_
          refine tz_iload (pc := 50) dX12_termOf_50 rfl ?_
          refine tz_cV (pc := 52) (m_isThat hl n _ _ _ _ _ _ _ (by omega) (by omega) (by decide) (by omega) (by omega) (by omega) b r d s m hM (by omega)) vl_X12_100 dX12_termOf_52 o_164 rfl rfl (Nat.le_of_ble_eq_true rfl) ⟨(Nat.le_of_ble_eq_true rfl), (Nat.le_of_ble_eq_true rfl)⟩ rfl rfl (Nat.le_of_ble_eq_true rfl) (Nat.le_of_ble_eq_true rfl) (fun r9 J_52 hq9 => ?_)
          obtain ⟨zi9, rfl, hz_52, rfl, hi1, hi2⟩ := hq9
          refine tz_if_eq (pc := 55) (tgt := 61) dX12_termOf_55 (by decide) (by omega) (fun h_55 => ?_) (fun h_55 => ?_)
          · refine tz_iinc (pc := 61) (z := t + 1) (L2 := [_, _, _, _, _, _, _, _]) dX12_termOf_61 rfl (by omega) rfl ?_
            refine tz_goto (pc := 64) (tgt := 33) dX12_termOf_64 (by decide) ?_
            exact ih33 (t + 1) (by omega) (by omega) (fun q a c => (Decidable.em (q = t)).elim (fun e => by rw [e]; exact fun e9 => by have := hi2.mpr e9; omega) (fun e => hn q a (by omega)))
          · refine tz_iload (pc := 58) dX12_termOf_58 rfl ?_
            exact tz_iret (pc := 60) (z := t) dX12_termOf_60 rfl (Nat.le_of_ble_eq_true rfl) (Nat.le_of_ble_eq_true rfl) ⟨Nat.le_refl _, Nat.le_add_right _ _⟩ ⟨_, rfl, (by omega), ⟨m, MG.rf hM, fun q => by omega⟩⟩
    exact loop33 _ 0 (Nat.lt_succ_self _) (by omega) (fun q a c => by omega)
  · refine tz_iconst (pc := 7) dX12_termOf_7 ?_
    exact tz_iret (pc := 8) (z := 0) dX12_termOf_8 rfl (Nat.le_of_ble_eq_true rfl) (Nat.le_of_ble_eq_true rfl) ⟨Nat.le_refl _, Nat.le_add_right _ _⟩ ⟨_, rfl, (by decide), ⟨m, MG.rf hM, fun q => by omega⟩⟩

set_option maxHeartbeats 4000000 in
set_option maxRecDepth 100000 in
theorem m_tm0 {l : Launch} {G : tb_G} (hl : l.stackTraces = false) (n : Nat) (J : zJ) (h : Int) (x : Int) (y : Int) (w : Int) (hr_h : -2147483648 ≤ h ∧ h < 2147483648) (hr_x : -2147483648 ≤ x ∧ x < 2147483648) (hr_y : -2147483648 ≤ y ∧ y < 2147483648) (hr_w : -2147483648 ≤ w ∧ w < 2147483648) (b r d s m : Int) (hM : MS J b r d s m) (hh : -8 ≤ h ∧ h < s) (hk : 0 ≤ h ∧ J 170 (d + h) = 0) (hg : J 164 21 = 0 → (0 < (0 : Int) → 0 ≤ x ∧ x < m) ∧ (1 < (0 : Int) → 0 ≤ y ∧ y < m) ∧ (2 < (0 : Int) → 0 ≤ w ∧ w < m)) : tz_Ok l G M_X12_termOf 2 0 0 [.ref 164, zi h, zi x, zi y, zi w] n J (zqi (fun z J' => ∃ m', MG [] [] (fun _ => false) J' J b r d s m m' ∧ (J' 164 21 = 0 → 0 ≤ z ∧ z < m'))) zN := by
  refine tz_Ok.of hl (by decide +kernel) rfl (tb_c1 rfl) (Nat.le_of_ble_eq_true rfl) ?_
  show tz_At l G M_X12_termOf (tb_rm 2 0 0) none (tb_ZM G 0 0 (zQ n 0 (zqi (fun z J' => ∃ m', MG [] [] (fun _ => false) J' J b r d s m m' ∧ (J' 164 21 = 0 → 0 ≤ z ∧ z < m')))) (zX n 0 zN)) 0 0 n J 0 [some (.ref 164), some (zi h), some (zi x), some (zi y), some (zi w), none, none, none] []
  obtain ⟨hM1, hM2, hM3, hM4, hM5, hM6⟩ := id hM
  have hT := hM.told
  refine tz_aload_n (pc := 0) dX12_termOf_0 rfl rfl ?_
  refine tz_fI (pc := 1) (kz := 21) (v := (J 164 21)) dX12_termOf_1 fl_X12_92 i_164_21 rfl rfl (fun r_1 => ?_)
  refine tz_if_eq (pc := 4) (tgt := 9) dX12_termOf_4 (by decide) (by omega) (fun h_4 => ?_) (fun h_4 => ?_)
  · refine tz_iload_n (pc := 9) dX12_termOf_9 rfl rfl ?_
    refine tz_if_geT (pc := 10) (tgt := 17) (by omega) dX12_termOf_10 (by decide) (by omega) ?_
    refine tz_aload_n (pc := 17) dX12_termOf_17 rfl rfl ?_
    refine tz_fR (pc := 18) dX12_termOf_18 fl_X12_25 r_164_5 ?_
    refine tz_aload_n (pc := 21) dX12_termOf_21 rfl rfl ?_
    refine tz_fI (pc := 22) (kz := 17) (v := d) dX12_termOf_22 fl_X12_82 i_164_17 rfl hM4 (fun r_22 => ?_)
    refine tz_iload_n (pc := 25) dX12_termOf_25 rfl rfl ?_
    refine tz_iadd (pc := 26) (v := d + h) dX12_termOf_26 rfl ?_
    refine tz_aL (pc := 27) (z := (d + h)) (v := 0) dX12_termOf_27 a_170 rfl (by omega) hk.2 (fun _ => ?_)
    refine tz_istore (pc := 28) (L2 := [_, _, _, _, _, _, _, _]) dX12_termOf_28 (by decide) rfl ?_
    refine tz_iconst (pc := 30) dX12_termOf_30 ?_
    refine tz_istore (pc := 31) (L2 := [_, _, _, _, _, _, _, _]) dX12_termOf_31 (by decide) rfl ?_
    have loop33 : ∀ (f9 : Nat) (t : Int), ((m - t).toNat) < f9 → (0 ≤ t ∧ t ≤ m) → (∀ q, 0 ≤ q → q < t → ¬ (J 166 (b + q) = h ∧ (0 < (0 : Int) → J 167 (3 * (b + q) + 0) = x) ∧ (1 < (0 : Int) → J 167 (3 * (b + q) + 1) = y) ∧ (2 < (0 : Int) → J 167 (3 * (b + q) + 2) = w))) → tz_At l G M_X12_termOf (tb_rm 2 0 0) none (tb_ZM G 0 0 (zQ n 0 (zqi (fun z J' => ∃ m', MG [] [] (fun _ => false) J' J b r d s m m' ∧ (J' 164 21 = 0 → 0 ≤ z ∧ z < m')))) (zX n 0 zN)) 0 0 n J 33 [some (.ref 164), some (zi h), some (zi x), some (zi y), some (zi w), some (zi 0), some (zi t), none] [] := by
      intro f9
      induction f9 with
      | zero => intro t hm9; exact absurd hm9 (Nat.not_lt_zero _)
      | succ f9 ih33 =>
        intro t hm33 hq hn
        refine tz_iload (pc := 33) dX12_termOf_33 rfl ?_
        refine tz_aload_n (pc := 35) dX12_termOf_35 rfl rfl ?_
        refine tz_cV (pc := 36) (m_many hl n _ b r d s m hM) vl_X12_96 dX12_termOf_36 o_164 rfl rfl (Nat.le_of_ble_eq_true rfl) ⟨(Nat.le_of_ble_eq_true rfl), (Nat.le_of_ble_eq_true rfl)⟩ rfl rfl (Nat.le_of_ble_eq_true rfl) (Nat.le_of_ble_eq_true rfl) (fun r9 J_36 hq9 => ?_)
        obtain ⟨z_36, rfl, hz_36, rfl, rfl⟩ := hq9
        refine tz_icmp_ge (pc := 39) (tgt := 67) dX12_termOf_39 (by decide) (by omega) (by omega) (fun h_39 => ?_) (fun h_39 => ?_)
        · refine tz_iconst (pc := 67) dX12_termOf_67 ?_
          refine tz_istore (pc := 68) (L2 := [_, _, _, _, _, _, _, _]) dX12_termOf_68 (by decide) rfl ?_
          refine tz_iload (pc := 70) dX12_termOf_70 rfl ?_
          refine tz_if_leT (pc := 72) (tgt := 95) (by decide) dX12_termOf_72 (by decide) (by decide) ?_
          refine tz_iload (pc := 95) dX12_termOf_95 rfl ?_
          refine tz_iconst (pc := 97) dX12_termOf_97 ?_
          refine tz_icmp_leT (pc := 98) (tgt := 121) (by decide) dX12_termOf_98 (by decide) (by decide) (by decide) ?_
          refine tz_iload (pc := 121) dX12_termOf_121 rfl ?_
          refine tz_iconst (pc := 123) dX12_termOf_123 ?_
          refine tz_icmp_leT (pc := 124) (tgt := 148) (by decide) dX12_termOf_124 (by decide) (by decide) (by decide) ?_
          refine tz_aload_n (pc := 148) dX12_termOf_148 rfl rfl ?_
          refine tz_iload (pc := 149) dX12_termOf_149 rfl ?_
          refine tz_bipush (pc := 151) dX12_termOf_151 (by decide) ?_
          refine tz_icmp_gtF (pc := 153) (tgt := 166) (by decide) dX12_termOf_153 (by decide) (by decide) (by decide) ?_
          refine tz_aload_n (pc := 156) dX12_termOf_156 rfl rfl ?_
          refine tz_cV (pc := 157) (m_many hl n _ b r d s m hM) vl_X12_96 dX12_termOf_157 o_164 rfl rfl (Nat.le_of_ble_eq_true rfl) ⟨(Nat.le_of_ble_eq_true rfl), (Nat.le_of_ble_eq_true rfl)⟩ rfl rfl (Nat.le_of_ble_eq_true rfl) (Nat.le_of_ble_eq_true rfl) (fun r9 J_157 hq9 => ?_)
          obtain ⟨z_157, rfl, hz_157, rfl, rfl⟩ := hq9
          refine tz_sipush (pc := 160) dX12_termOf_160 (by decide) ?_
          refine tz_icmp_ne (pc := 163) (tgt := 170) dX12_termOf_163 (by decide) (by omega) (by decide) (fun h_163 => ?_) (fun h_163 => ?_)
          · refine tz_iconst (pc := 170) dX12_termOf_170 ?_
            refine tz_pZ (pc := 171) (kz := 21) dX12_termOf_171 fl_X12_92 i_164_21 rfl rfl (Or.inl rfl) ?_
            refine tz_aload_n (pc := 174) dX12_termOf_174 rfl rfl ?_
            refine tz_fI (pc := 175) (kz := 21) (v := 0) dX12_termOf_175 fl_X12_92 i_164_21 rfl rfl (fun _ => ?_)
            refine tz_if_eqT (pc := 178) (tgt := 183) (by decide) dX12_termOf_178 (by decide) (by decide) ?_
            refine tz_aload_n (pc := 183) dX12_termOf_183 rfl rfl ?_
            refine tz_cV (pc := 184) (m_many hl n _ b r d s m (hM.of ⟨zup_ne (by decide), zup_ne (by decide), zup_ne (by decide)⟩ rfl rfl rfl rfl rfl)) vl_X12_96 dX12_termOf_184 o_164 rfl rfl (Nat.le_of_ble_eq_true rfl) ⟨(Nat.le_of_ble_eq_true rfl), (Nat.le_of_ble_eq_true rfl)⟩ rfl rfl (Nat.le_of_ble_eq_true rfl) (Nat.le_of_ble_eq_true rfl) (fun r9 J_184 hq9 => ?_)
            obtain ⟨z_184, rfl, hz_184, rfl, rfl⟩ := hq9
            refine tz_istore (pc := 187) (L2 := [_, _, _, _, _, _, _, _]) dX12_termOf_187 (by decide) rfl ?_
            refine tz_aload_n (pc := 189) dX12_termOf_189 rfl rfl ?_
            refine tz_fR (pc := 190) dX12_termOf_190 fl_X12_13 r_164_1 ?_
            refine tz_aload_n (pc := 193) dX12_termOf_193 rfl rfl ?_
            refine tz_fI (pc := 194) (kz := 15) (v := b) dX12_termOf_194 fl_X12_71 i_164_15 rfl hM2 (fun r_194 => ?_)
            refine tz_iload (pc := 197) dX12_termOf_197 rfl ?_
            refine tz_iadd (pc := 199) (v := b + m) dX12_termOf_199 rfl ?_
            refine tz_iload_n (pc := 200) dX12_termOf_200 rfl rfl ?_
            refine tz_aS (pc := 201) (z := (b + m)) dX12_termOf_201 a_166 rfl (by omega) (by omega) ?_
            refine tz_aload_n (pc := 202) dX12_termOf_202 rfl rfl ?_
            refine tz_fR (pc := 203) dX12_termOf_203 fl_X12_16 r_164_2 ?_
            refine tz_iconst (pc := 206) dX12_termOf_206 ?_
            refine tz_aload_n (pc := 207) dX12_termOf_207 rfl rfl ?_
            refine tz_fI (pc := 208) (kz := 15) (v := b) dX12_termOf_208 fl_X12_71 i_164_15 rfl hM2 (fun r_208 => ?_)
            refine tz_iload (pc := 211) dX12_termOf_211 rfl ?_
            refine tz_iadd (pc := 213) (v := b + m) dX12_termOf_213 rfl ?_
            refine tz_imul (pc := 214) (v := 3 * (b + m)) dX12_termOf_214 rfl ?_
            refine tz_iload (pc := 215) dX12_termOf_215 rfl ?_
            refine tz_if_leT (pc := 217) (tgt := 224) (by decide) dX12_termOf_217 (by decide) (by decide) ?_
            refine tz_iconst (pc := 224) dX12_termOf_224 ?_
            refine tz_aS (pc := 225) (z := (3 * (b + m))) dX12_termOf_225 a_167 rfl (by omega) (by decide) ?_
            refine tz_aload_n (pc := 226) dX12_termOf_226 rfl rfl ?_
            refine tz_fR (pc := 227) dX12_termOf_227 fl_X12_16 r_164_2 ?_
            refine tz_iconst (pc := 230) dX12_termOf_230 ?_
            refine tz_aload_n (pc := 231) dX12_termOf_231 rfl rfl ?_
            refine tz_fI (pc := 232) (kz := 15) (v := b) dX12_termOf_232 fl_X12_71 i_164_15 rfl hM2 (fun r_232 => ?_)
            refine tz_iload (pc := 235) dX12_termOf_235 rfl ?_
            refine tz_iadd (pc := 237) (v := b + m) dX12_termOf_237 rfl ?_
            refine tz_imul (pc := 238) (v := 3 * (b + m)) dX12_termOf_238 rfl ?_
            refine tz_iconst (pc := 239) dX12_termOf_239 ?_
            refine tz_iadd (pc := 240) (v := (3 * (b + m)) + 1) dX12_termOf_240 rfl ?_
            refine tz_iload (pc := 241) dX12_termOf_241 rfl ?_
            refine tz_iconst (pc := 243) dX12_termOf_243 ?_
            refine tz_icmp_leT (pc := 244) (tgt := 251) (by decide) dX12_termOf_244 (by decide) (by decide) (by decide) ?_
            refine tz_iconst (pc := 251) dX12_termOf_251 ?_
            refine tz_aS (pc := 252) (z := ((3 * (b + m)) + 1)) dX12_termOf_252 a_167 rfl (by omega) (by decide) ?_
            refine tz_aload_n (pc := 253) dX12_termOf_253 rfl rfl ?_
            refine tz_fR (pc := 254) dX12_termOf_254 fl_X12_16 r_164_2 ?_
            refine tz_iconst (pc := 257) dX12_termOf_257 ?_
            refine tz_aload_n (pc := 258) dX12_termOf_258 rfl rfl ?_
            refine tz_fI (pc := 259) (kz := 15) (v := b) dX12_termOf_259 fl_X12_71 i_164_15 rfl hM2 (fun r_259 => ?_)
            refine tz_iload (pc := 262) dX12_termOf_262 rfl ?_
            refine tz_iadd (pc := 264) (v := b + m) dX12_termOf_264 rfl ?_
            refine tz_imul (pc := 265) (v := 3 * (b + m)) dX12_termOf_265 rfl ?_
            refine tz_iconst (pc := 266) dX12_termOf_266 ?_
            refine tz_iadd (pc := 267) (v := (3 * (b + m)) + 2) dX12_termOf_267 rfl ?_
            refine tz_iload (pc := 268) dX12_termOf_268 rfl ?_
            refine tz_iconst (pc := 270) dX12_termOf_270 ?_
            refine tz_icmp_leT (pc := 271) (tgt := 279) (by decide) dX12_termOf_271 (by decide) (by decide) (by decide) ?_
            refine tz_iconst (pc := 279) dX12_termOf_279 ?_
            refine tz_aS (pc := 280) (z := ((3 * (b + m)) + 2)) dX12_termOf_280 a_167 rfl (by omega) (by decide) ?_
            refine tz_aload_n (pc := 281) dX12_termOf_281 rfl rfl ?_
            refine tz_fR (pc := 282) dX12_termOf_282 fl_X12_19 r_164_3 ?_
            refine tz_aload_n (pc := 285) dX12_termOf_285 rfl rfl ?_
            refine tz_fI (pc := 286) (kz := 15) (v := b) dX12_termOf_286 fl_X12_71 i_164_15 rfl hM2 (fun r_286 => ?_)
            refine tz_iload (pc := 289) dX12_termOf_289 rfl ?_
            refine tz_iadd (pc := 291) (v := b + m) dX12_termOf_291 rfl ?_
            refine tz_iload (pc := 292) dX12_termOf_292 rfl ?_
            refine tz_aS (pc := 294) (z := (b + m)) dX12_termOf_294 a_168 rfl (by omega) (by decide) ?_
            refine tz_aload_n (pc := 295) dX12_termOf_295 rfl rfl ?_
            refine tz_fR (pc := 296) dX12_termOf_296 fl_X12_9 r_164_0 ?_
            refine tz_aload_n (pc := 299) dX12_termOf_299 rfl rfl ?_
            refine tz_fI (pc := 300) (kz := 16) (v := r) dX12_termOf_300 fl_X12_85 i_164_16 rfl hM3 (fun r_300 => ?_)
            refine tz_iconst (pc := 303) dX12_termOf_303 ?_
            refine tz_iadd (pc := 304) (v := r) dX12_termOf_304 (Int.add_zero _) ?_
            refine tz_dup2 (pc := 305) dX12_termOf_305 rfl rfl ?_
            refine tz_aL (pc := 306) (z := r) (v := m) dX12_termOf_306 a_165 rfl (by omega) hM5 (fun r_306 => ?_)
            refine tz_iconst (pc := 307) dX12_termOf_307 ?_
            refine tz_iadd (pc := 308) (v := m + 1) dX12_termOf_308 rfl ?_
            refine tz_aS (pc := 309) (z := r) dX12_termOf_309 a_165 rfl (by omega) (by omega) ?_
            refine tz_iload (pc := 310) dX12_termOf_310 rfl ?_
            exact tz_iret (pc := 312) (z := m) dX12_termOf_312 rfl (Nat.le_of_ble_eq_true rfl) (Nat.le_of_ble_eq_true rfl) ⟨Nat.le_refl _, Nat.le_add_right _ _⟩ ⟨_, rfl, (by omega), ⟨m + 1, hM.push (A := 0) (x := x) (y := y) (w := w) (by omega) hh (by unfold arh; rw [if_neg (by omega)]; exact hk.2) (by decide) (fun g => absurd g (by decide)) (fun g => absurd g (by decide)) (fun g => absurd g (by decide)) (fun q a c => hn q a (by omega)) (by omega) (by omega) h_4, fun _ => by omega⟩⟩
          · refine tz_iconst (pc := 166) dX12_termOf_166 ?_
            refine tz_goto (pc := 167) (tgt := 171) dX12_termOf_167 (by decide) ?_
            refine tz_pZ (pc := 171) (kz := 21) dX12_termOf_171 fl_X12_92 i_164_21 rfl rfl (Or.inr rfl) ?_
            refine tz_aload_n (pc := 174) dX12_termOf_174 rfl rfl ?_
            refine tz_fI (pc := 175) (kz := 21) (v := 1) dX12_termOf_175 fl_X12_92 i_164_21 rfl rfl (fun _ => ?_)
            refine tz_if_eqF (pc := 178) (tgt := 183) (by decide) dX12_termOf_178 (by decide) (by decide) ?_
            refine tz_iconst (pc := 181) dX12_termOf_181 ?_
            exact tz_iret (pc := 182) (z := 0) dX12_termOf_182 rfl (Nat.le_of_ble_eq_true rfl) (Nat.le_of_ble_eq_true rfl) ⟨Nat.le_refl _, Nat.le_add_right _ _⟩ ⟨_, rfl, (by decide), ⟨m, (MG.rf hM).full (fun q => absurd q (by decide)), fun q => absurd ((zup_at (J := J) (c := 164) (k := 21) (z := 1)).symm.trans q) (by decide)⟩⟩
        · refine tz_aload_n (pc := 42) dX12_termOf_42 rfl rfl ?_
          refine tz_iload (pc := 43) dX12_termOf_43 rfl ?_
          refine tz_iload_n (pc := 45) dX12_termOf_45 rfl rfl ?_
          refine tz_iload (pc := 46) dX12_termOf_46 rfl ?_
          refine tz_iload_n (pc := 48) dX12_termOf_48 rfl rfl ?_
          refine tz_iload_n (pc := 49) dX12_termOf_49 rfl rfl ?_
          refine tz_iload (pc := 50) dX12_termOf_50 rfl ?_
          refine tz_cV (pc := 52) (m_isThat hl n _ _ _ _ _ _ _ (by omega) (by omega) (by decide) (by omega) (by omega) (by omega) b r d s m hM (by omega)) vl_X12_100 dX12_termOf_52 o_164 rfl rfl (Nat.le_of_ble_eq_true rfl) ⟨(Nat.le_of_ble_eq_true rfl), (Nat.le_of_ble_eq_true rfl)⟩ rfl rfl (Nat.le_of_ble_eq_true rfl) (Nat.le_of_ble_eq_true rfl) (fun r9 J_52 hq9 => ?_)
          obtain ⟨zi9, rfl, hz_52, rfl, hi1, hi2⟩ := hq9
          refine tz_if_eq (pc := 55) (tgt := 61) dX12_termOf_55 (by decide) (by omega) (fun h_55 => ?_) (fun h_55 => ?_)
          · refine tz_iinc (pc := 61) (z := t + 1) (L2 := [_, _, _, _, _, _, _, _]) dX12_termOf_61 rfl (by omega) rfl ?_
            refine tz_goto (pc := 64) (tgt := 33) dX12_termOf_64 (by decide) ?_
            exact ih33 (t + 1) (by omega) (by omega) (fun q a c => (Decidable.em (q = t)).elim (fun e => by rw [e]; exact fun e9 => by have := hi2.mpr e9; omega) (fun e => hn q a (by omega)))
          · refine tz_iload (pc := 58) dX12_termOf_58 rfl ?_
            exact tz_iret (pc := 60) (z := t) dX12_termOf_60 rfl (Nat.le_of_ble_eq_true rfl) (Nat.le_of_ble_eq_true rfl) ⟨Nat.le_refl _, Nat.le_add_right _ _⟩ ⟨_, rfl, (by omega), ⟨m, MG.rf hM, fun q => by omega⟩⟩
    exact loop33 _ 0 (Nat.lt_succ_self _) (by omega) (fun q a c => by omega)
  · refine tz_iconst (pc := 7) dX12_termOf_7 ?_
    exact tz_iret (pc := 8) (z := 0) dX12_termOf_8 rfl (Nat.le_of_ble_eq_true rfl) (Nat.le_of_ble_eq_true rfl) ⟨Nat.le_refl _, Nat.le_add_right _ _⟩ ⟨_, rfl, (by decide), ⟨m, MG.rf hM, fun q => by omega⟩⟩

set_option maxHeartbeats 4000000 in
set_option maxRecDepth 100000 in
theorem m_tm1 {l : Launch} {G : tb_G} (hl : l.stackTraces = false) (n : Nat) (J : zJ) (h : Int) (x : Int) (y : Int) (w : Int) (hr_h : -2147483648 ≤ h ∧ h < 2147483648) (hr_x : -2147483648 ≤ x ∧ x < 2147483648) (hr_y : -2147483648 ≤ y ∧ y < 2147483648) (hr_w : -2147483648 ≤ w ∧ w < 2147483648) (b r d s m : Int) (hM : MS J b r d s m) (hh : -8 ≤ h ∧ h < s) (hk : 0 ≤ h ∧ J 170 (d + h) = 1) (hg : J 164 21 = 0 → (0 < (1 : Int) → 0 ≤ x ∧ x < m) ∧ (1 < (1 : Int) → 0 ≤ y ∧ y < m) ∧ (2 < (1 : Int) → 0 ≤ w ∧ w < m)) : tz_Ok l G M_X12_termOf 2 0 0 [.ref 164, zi h, zi x, zi y, zi w] n J (zqi (fun z J' => ∃ m', MG [] [] (fun _ => false) J' J b r d s m m' ∧ (J' 164 21 = 0 → 0 ≤ z ∧ z < m'))) zN := by
  refine tz_Ok.of hl (by decide +kernel) rfl (tb_c1 rfl) (Nat.le_of_ble_eq_true rfl) ?_
  show tz_At l G M_X12_termOf (tb_rm 2 0 0) none (tb_ZM G 0 0 (zQ n 0 (zqi (fun z J' => ∃ m', MG [] [] (fun _ => false) J' J b r d s m m' ∧ (J' 164 21 = 0 → 0 ≤ z ∧ z < m')))) (zX n 0 zN)) 0 0 n J 0 [some (.ref 164), some (zi h), some (zi x), some (zi y), some (zi w), none, none, none] []
  obtain ⟨hM1, hM2, hM3, hM4, hM5, hM6⟩ := id hM
  have hT := hM.told
  refine tz_aload_n (pc := 0) dX12_termOf_0 rfl rfl ?_
  refine tz_fI (pc := 1) (kz := 21) (v := (J 164 21)) dX12_termOf_1 fl_X12_92 i_164_21 rfl rfl (fun r_1 => ?_)
  refine tz_if_eq (pc := 4) (tgt := 9) dX12_termOf_4 (by decide) (by omega) (fun h_4 => ?_) (fun h_4 => ?_)
  · refine tz_iload_n (pc := 9) dX12_termOf_9 rfl rfl ?_
    refine tz_if_geT (pc := 10) (tgt := 17) (by omega) dX12_termOf_10 (by decide) (by omega) ?_
    refine tz_aload_n (pc := 17) dX12_termOf_17 rfl rfl ?_
    refine tz_fR (pc := 18) dX12_termOf_18 fl_X12_25 r_164_5 ?_
    refine tz_aload_n (pc := 21) dX12_termOf_21 rfl rfl ?_
    refine tz_fI (pc := 22) (kz := 17) (v := d) dX12_termOf_22 fl_X12_82 i_164_17 rfl hM4 (fun r_22 => ?_)
    refine tz_iload_n (pc := 25) dX12_termOf_25 rfl rfl ?_
    refine tz_iadd (pc := 26) (v := d + h) dX12_termOf_26 rfl ?_
    refine tz_aL (pc := 27) (z := (d + h)) (v := 1) dX12_termOf_27 a_170 rfl (by omega) hk.2 (fun _ => ?_)
    refine tz_istore (pc := 28) (L2 := [_, _, _, _, _, _, _, _]) dX12_termOf_28 (by decide) rfl ?_
    refine tz_iconst (pc := 30) dX12_termOf_30 ?_
    refine tz_istore (pc := 31) (L2 := [_, _, _, _, _, _, _, _]) dX12_termOf_31 (by decide) rfl ?_
    have loop33 : ∀ (f9 : Nat) (t : Int), ((m - t).toNat) < f9 → (0 ≤ t ∧ t ≤ m) → (∀ q, 0 ≤ q → q < t → ¬ (J 166 (b + q) = h ∧ (0 < (1 : Int) → J 167 (3 * (b + q) + 0) = x) ∧ (1 < (1 : Int) → J 167 (3 * (b + q) + 1) = y) ∧ (2 < (1 : Int) → J 167 (3 * (b + q) + 2) = w))) → tz_At l G M_X12_termOf (tb_rm 2 0 0) none (tb_ZM G 0 0 (zQ n 0 (zqi (fun z J' => ∃ m', MG [] [] (fun _ => false) J' J b r d s m m' ∧ (J' 164 21 = 0 → 0 ≤ z ∧ z < m')))) (zX n 0 zN)) 0 0 n J 33 [some (.ref 164), some (zi h), some (zi x), some (zi y), some (zi w), some (zi 1), some (zi t), none] [] := by
      intro f9
      induction f9 with
      | zero => intro t hm9; exact absurd hm9 (Nat.not_lt_zero _)
      | succ f9 ih33 =>
        intro t hm33 hq hn
        refine tz_iload (pc := 33) dX12_termOf_33 rfl ?_
        refine tz_aload_n (pc := 35) dX12_termOf_35 rfl rfl ?_
        refine tz_cV (pc := 36) (m_many hl n _ b r d s m hM) vl_X12_96 dX12_termOf_36 o_164 rfl rfl (Nat.le_of_ble_eq_true rfl) ⟨(Nat.le_of_ble_eq_true rfl), (Nat.le_of_ble_eq_true rfl)⟩ rfl rfl (Nat.le_of_ble_eq_true rfl) (Nat.le_of_ble_eq_true rfl) (fun r9 J_36 hq9 => ?_)
        obtain ⟨z_36, rfl, hz_36, rfl, rfl⟩ := hq9
        refine tz_icmp_ge (pc := 39) (tgt := 67) dX12_termOf_39 (by decide) (by omega) (by omega) (fun h_39 => ?_) (fun h_39 => ?_)
        · have hx9 := hg h_4
          have hz0 := hM.ar (t := x) (by omega)
          refine tz_iconst (pc := 67) dX12_termOf_67 ?_
          refine tz_istore (pc := 68) (L2 := [_, _, _, _, _, _, _, _]) dX12_termOf_68 (by decide) rfl ?_
          refine tz_iload (pc := 70) dX12_termOf_70 rfl ?_
          refine tz_if_leF (pc := 72) (tgt := 95) (by decide) dX12_termOf_72 (by decide) (by decide) ?_
          refine tz_iload (pc := 75) dX12_termOf_75 rfl ?_
          refine tz_aload_n (pc := 77) dX12_termOf_77 rfl rfl ?_
          refine tz_fR (pc := 78) dX12_termOf_78 fl_X12_19 r_164_3 ?_
          refine tz_aload_n (pc := 81) dX12_termOf_81 rfl rfl ?_
          refine tz_fI (pc := 82) (kz := 15) (v := b) dX12_termOf_82 fl_X12_71 i_164_15 rfl hM2 (fun r_82 => ?_)
          refine tz_iload_n (pc := 85) dX12_termOf_85 rfl rfl ?_
          refine tz_iadd (pc := 86) (v := b + x) dX12_termOf_86 rfl ?_
          refine tz_aL (pc := 87) (z := (b + x)) (v := (J 168 (b + x))) dX12_termOf_87 a_168 rfl (by omega) rfl (fun r_87 => ?_)
          refine tz_iconst (pc := 88) dX12_termOf_88 ?_
          refine tz_iadd (pc := 89) (v := (J 168 (b + x)) + 1) dX12_termOf_89 rfl ?_
          refine tz_cS (pc := 90) (zm_greater hl n _ _ _ (by decide) (by omega)) sl_X12_104 dX12_termOf_90 rfl rfl (Nat.le_of_ble_eq_true rfl) ⟨(Nat.le_of_ble_eq_true rfl), (Nat.le_of_ble_eq_true rfl)⟩ rfl rfl (Nat.le_of_ble_eq_true rfl) (Nat.le_of_ble_eq_true rfl) (fun r9 J_90 hq9 => ?_)
          obtain ⟨z_90, rfl, hz_90, rfl, hg_90⟩ := hq9
          have gz_90 : (1 ≤ z_90 ∧ ((J 168 (b + x)) + 1) ≤ z_90) ∧ (z_90 = 1 ∨ z_90 = ((J 168 (b + x)) + 1)) := by rw [← hg_90]; split <;> omega
          refine tz_istore (pc := 93) (L2 := [_, _, _, _, _, _, _, _]) dX12_termOf_93 (by decide) rfl ?_
          refine tz_iload (pc := 95) dX12_termOf_95 rfl ?_
          refine tz_iconst (pc := 97) dX12_termOf_97 ?_
          refine tz_icmp_leT (pc := 98) (tgt := 121) (by decide) dX12_termOf_98 (by decide) (by decide) (by decide) ?_
          refine tz_iload (pc := 121) dX12_termOf_121 rfl ?_
          refine tz_iconst (pc := 123) dX12_termOf_123 ?_
          refine tz_icmp_leT (pc := 124) (tgt := 148) (by decide) dX12_termOf_124 (by decide) (by decide) (by decide) ?_
          refine tz_aload_n (pc := 148) dX12_termOf_148 rfl rfl ?_
          refine tz_iload (pc := 149) dX12_termOf_149 rfl ?_
          refine tz_bipush (pc := 151) dX12_termOf_151 (by decide) ?_
          refine tz_icmp_gt (pc := 153) (tgt := 166) dX12_termOf_153 (by decide) (by omega) (by decide) (fun h_153 => ?_) (fun h_153 => ?_)
          · refine tz_iconst (pc := 166) dX12_termOf_166 ?_
            refine tz_goto (pc := 167) (tgt := 171) dX12_termOf_167 (by decide) ?_
            refine tz_pZ (pc := 171) (kz := 21) dX12_termOf_171 fl_X12_92 i_164_21 rfl rfl (Or.inr rfl) ?_
            refine tz_aload_n (pc := 174) dX12_termOf_174 rfl rfl ?_
            refine tz_fI (pc := 175) (kz := 21) (v := 1) dX12_termOf_175 fl_X12_92 i_164_21 rfl rfl (fun _ => ?_)
            refine tz_if_eqF (pc := 178) (tgt := 183) (by decide) dX12_termOf_178 (by decide) (by decide) ?_
            refine tz_iconst (pc := 181) dX12_termOf_181 ?_
            exact tz_iret (pc := 182) (z := 0) dX12_termOf_182 rfl (Nat.le_of_ble_eq_true rfl) (Nat.le_of_ble_eq_true rfl) ⟨Nat.le_refl _, Nat.le_add_right _ _⟩ ⟨_, rfl, (by decide), ⟨m, (MG.rf hM).full (fun q => absurd q (by decide)), fun q => absurd ((zup_at (J := J) (c := 164) (k := 21) (z := 1)).symm.trans q) (by decide)⟩⟩
          · refine tz_aload_n (pc := 156) dX12_termOf_156 rfl rfl ?_
            refine tz_cV (pc := 157) (m_many hl n _ b r d s m hM) vl_X12_96 dX12_termOf_157 o_164 rfl rfl (Nat.le_of_ble_eq_true rfl) ⟨(Nat.le_of_ble_eq_true rfl), (Nat.le_of_ble_eq_true rfl)⟩ rfl rfl (Nat.le_of_ble_eq_true rfl) (Nat.le_of_ble_eq_true rfl) (fun r9 J_157 hq9 => ?_)
            obtain ⟨z_157, rfl, hz_157, rfl, rfl⟩ := hq9
            refine tz_sipush (pc := 160) dX12_termOf_160 (by decide) ?_
            refine tz_icmp_ne (pc := 163) (tgt := 170) dX12_termOf_163 (by decide) (by omega) (by decide) (fun h_163 => ?_) (fun h_163 => ?_)
            · refine tz_iconst (pc := 170) dX12_termOf_170 ?_
              refine tz_pZ (pc := 171) (kz := 21) dX12_termOf_171 fl_X12_92 i_164_21 rfl rfl (Or.inl rfl) ?_
              refine tz_aload_n (pc := 174) dX12_termOf_174 rfl rfl ?_
              refine tz_fI (pc := 175) (kz := 21) (v := 0) dX12_termOf_175 fl_X12_92 i_164_21 rfl rfl (fun _ => ?_)
              refine tz_if_eqT (pc := 178) (tgt := 183) (by decide) dX12_termOf_178 (by decide) (by decide) ?_
              refine tz_aload_n (pc := 183) dX12_termOf_183 rfl rfl ?_
              refine tz_cV (pc := 184) (m_many hl n _ b r d s m (hM.of ⟨zup_ne (by decide), zup_ne (by decide), zup_ne (by decide)⟩ rfl rfl rfl rfl rfl)) vl_X12_96 dX12_termOf_184 o_164 rfl rfl (Nat.le_of_ble_eq_true rfl) ⟨(Nat.le_of_ble_eq_true rfl), (Nat.le_of_ble_eq_true rfl)⟩ rfl rfl (Nat.le_of_ble_eq_true rfl) (Nat.le_of_ble_eq_true rfl) (fun r9 J_184 hq9 => ?_)
              obtain ⟨z_184, rfl, hz_184, rfl, rfl⟩ := hq9
              refine tz_istore (pc := 187) (L2 := [_, _, _, _, _, _, _, _]) dX12_termOf_187 (by decide) rfl ?_
              refine tz_aload_n (pc := 189) dX12_termOf_189 rfl rfl ?_
              refine tz_fR (pc := 190) dX12_termOf_190 fl_X12_13 r_164_1 ?_
              refine tz_aload_n (pc := 193) dX12_termOf_193 rfl rfl ?_
              refine tz_fI (pc := 194) (kz := 15) (v := b) dX12_termOf_194 fl_X12_71 i_164_15 rfl hM2 (fun r_194 => ?_)
              refine tz_iload (pc := 197) dX12_termOf_197 rfl ?_
              refine tz_iadd (pc := 199) (v := b + m) dX12_termOf_199 rfl ?_
              refine tz_iload_n (pc := 200) dX12_termOf_200 rfl rfl ?_
              refine tz_aS (pc := 201) (z := (b + m)) dX12_termOf_201 a_166 rfl (by omega) (by omega) ?_
              refine tz_aload_n (pc := 202) dX12_termOf_202 rfl rfl ?_
              refine tz_fR (pc := 203) dX12_termOf_203 fl_X12_16 r_164_2 ?_
              refine tz_iconst (pc := 206) dX12_termOf_206 ?_
              refine tz_aload_n (pc := 207) dX12_termOf_207 rfl rfl ?_
              refine tz_fI (pc := 208) (kz := 15) (v := b) dX12_termOf_208 fl_X12_71 i_164_15 rfl hM2 (fun r_208 => ?_)
              refine tz_iload (pc := 211) dX12_termOf_211 rfl ?_
              refine tz_iadd (pc := 213) (v := b + m) dX12_termOf_213 rfl ?_
              refine tz_imul (pc := 214) (v := 3 * (b + m)) dX12_termOf_214 rfl ?_
              refine tz_iload (pc := 215) dX12_termOf_215 rfl ?_
              refine tz_if_leF (pc := 217) (tgt := 224) (by decide) dX12_termOf_217 (by decide) (by decide) ?_
              refine tz_iload_n (pc := 220) dX12_termOf_220 rfl rfl ?_
              refine tz_goto (pc := 221) (tgt := 225) dX12_termOf_221 (by decide) ?_
              refine tz_aS (pc := 225) (z := (3 * (b + m))) dX12_termOf_225 a_167 rfl (by omega) (by omega) ?_
              refine tz_aload_n (pc := 226) dX12_termOf_226 rfl rfl ?_
              refine tz_fR (pc := 227) dX12_termOf_227 fl_X12_16 r_164_2 ?_
              refine tz_iconst (pc := 230) dX12_termOf_230 ?_
              refine tz_aload_n (pc := 231) dX12_termOf_231 rfl rfl ?_
              refine tz_fI (pc := 232) (kz := 15) (v := b) dX12_termOf_232 fl_X12_71 i_164_15 rfl hM2 (fun r_232 => ?_)
              refine tz_iload (pc := 235) dX12_termOf_235 rfl ?_
              refine tz_iadd (pc := 237) (v := b + m) dX12_termOf_237 rfl ?_
              refine tz_imul (pc := 238) (v := 3 * (b + m)) dX12_termOf_238 rfl ?_
              refine tz_iconst (pc := 239) dX12_termOf_239 ?_
              refine tz_iadd (pc := 240) (v := (3 * (b + m)) + 1) dX12_termOf_240 rfl ?_
              refine tz_iload (pc := 241) dX12_termOf_241 rfl ?_
              refine tz_iconst (pc := 243) dX12_termOf_243 ?_
              refine tz_icmp_leT (pc := 244) (tgt := 251) (by decide) dX12_termOf_244 (by decide) (by decide) (by decide) ?_
              refine tz_iconst (pc := 251) dX12_termOf_251 ?_
              refine tz_aS (pc := 252) (z := ((3 * (b + m)) + 1)) dX12_termOf_252 a_167 rfl (by omega) (by decide) ?_
              refine tz_aload_n (pc := 253) dX12_termOf_253 rfl rfl ?_
              refine tz_fR (pc := 254) dX12_termOf_254 fl_X12_16 r_164_2 ?_
              refine tz_iconst (pc := 257) dX12_termOf_257 ?_
              refine tz_aload_n (pc := 258) dX12_termOf_258 rfl rfl ?_
              refine tz_fI (pc := 259) (kz := 15) (v := b) dX12_termOf_259 fl_X12_71 i_164_15 rfl hM2 (fun r_259 => ?_)
              refine tz_iload (pc := 262) dX12_termOf_262 rfl ?_
              refine tz_iadd (pc := 264) (v := b + m) dX12_termOf_264 rfl ?_
              refine tz_imul (pc := 265) (v := 3 * (b + m)) dX12_termOf_265 rfl ?_
              refine tz_iconst (pc := 266) dX12_termOf_266 ?_
              refine tz_iadd (pc := 267) (v := (3 * (b + m)) + 2) dX12_termOf_267 rfl ?_
              refine tz_iload (pc := 268) dX12_termOf_268 rfl ?_
              refine tz_iconst (pc := 270) dX12_termOf_270 ?_
              refine tz_icmp_leT (pc := 271) (tgt := 279) (by decide) dX12_termOf_271 (by decide) (by decide) (by decide) ?_
              refine tz_iconst (pc := 279) dX12_termOf_279 ?_
              refine tz_aS (pc := 280) (z := ((3 * (b + m)) + 2)) dX12_termOf_280 a_167 rfl (by omega) (by decide) ?_
              refine tz_aload_n (pc := 281) dX12_termOf_281 rfl rfl ?_
              refine tz_fR (pc := 282) dX12_termOf_282 fl_X12_19 r_164_3 ?_
              refine tz_aload_n (pc := 285) dX12_termOf_285 rfl rfl ?_
              refine tz_fI (pc := 286) (kz := 15) (v := b) dX12_termOf_286 fl_X12_71 i_164_15 rfl hM2 (fun r_286 => ?_)
              refine tz_iload (pc := 289) dX12_termOf_289 rfl ?_
              refine tz_iadd (pc := 291) (v := b + m) dX12_termOf_291 rfl ?_
              refine tz_iload (pc := 292) dX12_termOf_292 rfl ?_
              refine tz_aS (pc := 294) (z := (b + m)) dX12_termOf_294 a_168 rfl (by omega) (by omega) ?_
              refine tz_aload_n (pc := 295) dX12_termOf_295 rfl rfl ?_
              refine tz_fR (pc := 296) dX12_termOf_296 fl_X12_9 r_164_0 ?_
              refine tz_aload_n (pc := 299) dX12_termOf_299 rfl rfl ?_
              refine tz_fI (pc := 300) (kz := 16) (v := r) dX12_termOf_300 fl_X12_85 i_164_16 rfl hM3 (fun r_300 => ?_)
              refine tz_iconst (pc := 303) dX12_termOf_303 ?_
              refine tz_iadd (pc := 304) (v := r) dX12_termOf_304 (Int.add_zero _) ?_
              refine tz_dup2 (pc := 305) dX12_termOf_305 rfl rfl ?_
              refine tz_aL (pc := 306) (z := r) (v := m) dX12_termOf_306 a_165 rfl (by omega) hM5 (fun r_306 => ?_)
              refine tz_iconst (pc := 307) dX12_termOf_307 ?_
              refine tz_iadd (pc := 308) (v := m + 1) dX12_termOf_308 rfl ?_
              refine tz_aS (pc := 309) (z := r) dX12_termOf_309 a_165 rfl (by omega) (by omega) ?_
              refine tz_iload (pc := 310) dX12_termOf_310 rfl ?_
              exact tz_iret (pc := 312) (z := m) dX12_termOf_312 rfl (Nat.le_of_ble_eq_true rfl) (Nat.le_of_ble_eq_true rfl) ⟨Nat.le_refl _, Nat.le_add_right _ _⟩ ⟨_, rfl, (by omega), ⟨m + 1, hM.push (A := 1) (x := x) (y := y) (w := w) (by omega) hh (by unfold arh; rw [if_neg (by omega)]; exact hk.2) (by decide) (fun _ => ⟨rfl, by omega, by omega⟩) (fun g => absurd g (by decide)) (fun g => absurd g (by decide)) (fun q a c => hn q a (by omega)) (by omega) (by omega) h_4, fun _ => by omega⟩⟩
            · refine tz_iconst (pc := 166) dX12_termOf_166 ?_
              refine tz_goto (pc := 167) (tgt := 171) dX12_termOf_167 (by decide) ?_
              refine tz_pZ (pc := 171) (kz := 21) dX12_termOf_171 fl_X12_92 i_164_21 rfl rfl (Or.inr rfl) ?_
              refine tz_aload_n (pc := 174) dX12_termOf_174 rfl rfl ?_
              refine tz_fI (pc := 175) (kz := 21) (v := 1) dX12_termOf_175 fl_X12_92 i_164_21 rfl rfl (fun _ => ?_)
              refine tz_if_eqF (pc := 178) (tgt := 183) (by decide) dX12_termOf_178 (by decide) (by decide) ?_
              refine tz_iconst (pc := 181) dX12_termOf_181 ?_
              exact tz_iret (pc := 182) (z := 0) dX12_termOf_182 rfl (Nat.le_of_ble_eq_true rfl) (Nat.le_of_ble_eq_true rfl) ⟨Nat.le_refl _, Nat.le_add_right _ _⟩ ⟨_, rfl, (by decide), ⟨m, (MG.rf hM).full (fun q => absurd q (by decide)), fun q => absurd ((zup_at (J := J) (c := 164) (k := 21) (z := 1)).symm.trans q) (by decide)⟩⟩
        · refine tz_aload_n (pc := 42) dX12_termOf_42 rfl rfl ?_
          refine tz_iload (pc := 43) dX12_termOf_43 rfl ?_
          refine tz_iload_n (pc := 45) dX12_termOf_45 rfl rfl ?_
          refine tz_iload (pc := 46) dX12_termOf_46 rfl ?_
          refine tz_iload_n (pc := 48) dX12_termOf_48 rfl rfl ?_
          refine tz_iload_n (pc := 49) dX12_termOf_49 rfl rfl ?_
          refine tz_iload (pc := 50) dX12_termOf_50 rfl ?_
          refine tz_cV (pc := 52) (m_isThat hl n _ _ _ _ _ _ _ (by omega) (by omega) (by decide) (by omega) (by omega) (by omega) b r d s m hM (by omega)) vl_X12_100 dX12_termOf_52 o_164 rfl rfl (Nat.le_of_ble_eq_true rfl) ⟨(Nat.le_of_ble_eq_true rfl), (Nat.le_of_ble_eq_true rfl)⟩ rfl rfl (Nat.le_of_ble_eq_true rfl) (Nat.le_of_ble_eq_true rfl) (fun r9 J_52 hq9 => ?_)
          obtain ⟨zi9, rfl, hz_52, rfl, hi1, hi2⟩ := hq9
          refine tz_if_eq (pc := 55) (tgt := 61) dX12_termOf_55 (by decide) (by omega) (fun h_55 => ?_) (fun h_55 => ?_)
          · refine tz_iinc (pc := 61) (z := t + 1) (L2 := [_, _, _, _, _, _, _, _]) dX12_termOf_61 rfl (by omega) rfl ?_
            refine tz_goto (pc := 64) (tgt := 33) dX12_termOf_64 (by decide) ?_
            exact ih33 (t + 1) (by omega) (by omega) (fun q a c => (Decidable.em (q = t)).elim (fun e => by rw [e]; exact fun e9 => by have := hi2.mpr e9; omega) (fun e => hn q a (by omega)))
          · refine tz_iload (pc := 58) dX12_termOf_58 rfl ?_
            exact tz_iret (pc := 60) (z := t) dX12_termOf_60 rfl (Nat.le_of_ble_eq_true rfl) (Nat.le_of_ble_eq_true rfl) ⟨Nat.le_refl _, Nat.le_add_right _ _⟩ ⟨_, rfl, (by omega), ⟨m, MG.rf hM, fun q => by omega⟩⟩
    exact loop33 _ 0 (Nat.lt_succ_self _) (by omega) (fun q a c => by omega)
  · refine tz_iconst (pc := 7) dX12_termOf_7 ?_
    exact tz_iret (pc := 8) (z := 0) dX12_termOf_8 rfl (Nat.le_of_ble_eq_true rfl) (Nat.le_of_ble_eq_true rfl) ⟨Nat.le_refl _, Nat.le_add_right _ _⟩ ⟨_, rfl, (by decide), ⟨m, MG.rf hM, fun q => by omega⟩⟩

set_option maxHeartbeats 4000000 in
set_option maxRecDepth 100000 in
theorem m_tm2 {l : Launch} {G : tb_G} (hl : l.stackTraces = false) (n : Nat) (J : zJ) (h : Int) (x : Int) (y : Int) (w : Int) (hr_h : -2147483648 ≤ h ∧ h < 2147483648) (hr_x : -2147483648 ≤ x ∧ x < 2147483648) (hr_y : -2147483648 ≤ y ∧ y < 2147483648) (hr_w : -2147483648 ≤ w ∧ w < 2147483648) (b r d s m : Int) (hM : MS J b r d s m) (hh : -8 ≤ h ∧ h < s) (hk : 0 ≤ h ∧ J 170 (d + h) = 2) (hg : J 164 21 = 0 → (0 < (2 : Int) → 0 ≤ x ∧ x < m) ∧ (1 < (2 : Int) → 0 ≤ y ∧ y < m) ∧ (2 < (2 : Int) → 0 ≤ w ∧ w < m)) : tz_Ok l G M_X12_termOf 2 0 0 [.ref 164, zi h, zi x, zi y, zi w] n J (zqi (fun z J' => ∃ m', MG [] [] (fun _ => false) J' J b r d s m m' ∧ (J' 164 21 = 0 → 0 ≤ z ∧ z < m'))) zN := by
  refine tz_Ok.of hl (by decide +kernel) rfl (tb_c1 rfl) (Nat.le_of_ble_eq_true rfl) ?_
  show tz_At l G M_X12_termOf (tb_rm 2 0 0) none (tb_ZM G 0 0 (zQ n 0 (zqi (fun z J' => ∃ m', MG [] [] (fun _ => false) J' J b r d s m m' ∧ (J' 164 21 = 0 → 0 ≤ z ∧ z < m')))) (zX n 0 zN)) 0 0 n J 0 [some (.ref 164), some (zi h), some (zi x), some (zi y), some (zi w), none, none, none] []
  obtain ⟨hM1, hM2, hM3, hM4, hM5, hM6⟩ := id hM
  have hT := hM.told
  refine tz_aload_n (pc := 0) dX12_termOf_0 rfl rfl ?_
  refine tz_fI (pc := 1) (kz := 21) (v := (J 164 21)) dX12_termOf_1 fl_X12_92 i_164_21 rfl rfl (fun r_1 => ?_)
  refine tz_if_eq (pc := 4) (tgt := 9) dX12_termOf_4 (by decide) (by omega) (fun h_4 => ?_) (fun h_4 => ?_)
  · refine tz_iload_n (pc := 9) dX12_termOf_9 rfl rfl ?_
    refine tz_if_geT (pc := 10) (tgt := 17) (by omega) dX12_termOf_10 (by decide) (by omega) ?_
    refine tz_aload_n (pc := 17) dX12_termOf_17 rfl rfl ?_
    refine tz_fR (pc := 18) dX12_termOf_18 fl_X12_25 r_164_5 ?_
    refine tz_aload_n (pc := 21) dX12_termOf_21 rfl rfl ?_
    refine tz_fI (pc := 22) (kz := 17) (v := d) dX12_termOf_22 fl_X12_82 i_164_17 rfl hM4 (fun r_22 => ?_)
    refine tz_iload_n (pc := 25) dX12_termOf_25 rfl rfl ?_
    refine tz_iadd (pc := 26) (v := d + h) dX12_termOf_26 rfl ?_
    refine tz_aL (pc := 27) (z := (d + h)) (v := 2) dX12_termOf_27 a_170 rfl (by omega) hk.2 (fun _ => ?_)
    refine tz_istore (pc := 28) (L2 := [_, _, _, _, _, _, _, _]) dX12_termOf_28 (by decide) rfl ?_
    refine tz_iconst (pc := 30) dX12_termOf_30 ?_
    refine tz_istore (pc := 31) (L2 := [_, _, _, _, _, _, _, _]) dX12_termOf_31 (by decide) rfl ?_
    have loop33 : ∀ (f9 : Nat) (t : Int), ((m - t).toNat) < f9 → (0 ≤ t ∧ t ≤ m) → (∀ q, 0 ≤ q → q < t → ¬ (J 166 (b + q) = h ∧ (0 < (2 : Int) → J 167 (3 * (b + q) + 0) = x) ∧ (1 < (2 : Int) → J 167 (3 * (b + q) + 1) = y) ∧ (2 < (2 : Int) → J 167 (3 * (b + q) + 2) = w))) → tz_At l G M_X12_termOf (tb_rm 2 0 0) none (tb_ZM G 0 0 (zQ n 0 (zqi (fun z J' => ∃ m', MG [] [] (fun _ => false) J' J b r d s m m' ∧ (J' 164 21 = 0 → 0 ≤ z ∧ z < m')))) (zX n 0 zN)) 0 0 n J 33 [some (.ref 164), some (zi h), some (zi x), some (zi y), some (zi w), some (zi 2), some (zi t), none] [] := by
      intro f9
      induction f9 with
      | zero => intro t hm9; exact absurd hm9 (Nat.not_lt_zero _)
      | succ f9 ih33 =>
        intro t hm33 hq hn
        refine tz_iload (pc := 33) dX12_termOf_33 rfl ?_
        refine tz_aload_n (pc := 35) dX12_termOf_35 rfl rfl ?_
        refine tz_cV (pc := 36) (m_many hl n _ b r d s m hM) vl_X12_96 dX12_termOf_36 o_164 rfl rfl (Nat.le_of_ble_eq_true rfl) ⟨(Nat.le_of_ble_eq_true rfl), (Nat.le_of_ble_eq_true rfl)⟩ rfl rfl (Nat.le_of_ble_eq_true rfl) (Nat.le_of_ble_eq_true rfl) (fun r9 J_36 hq9 => ?_)
        obtain ⟨z_36, rfl, hz_36, rfl, rfl⟩ := hq9
        refine tz_icmp_ge (pc := 39) (tgt := 67) dX12_termOf_39 (by decide) (by omega) (by omega) (fun h_39 => ?_) (fun h_39 => ?_)
        · have hx9 := hg h_4
          have hz0 := hM.ar (t := x) (by omega)
          have hz1 := hM.ar (t := y) (by omega)
          refine tz_iconst (pc := 67) dX12_termOf_67 ?_
          refine tz_istore (pc := 68) (L2 := [_, _, _, _, _, _, _, _]) dX12_termOf_68 (by decide) rfl ?_
          refine tz_iload (pc := 70) dX12_termOf_70 rfl ?_
          refine tz_if_leF (pc := 72) (tgt := 95) (by decide) dX12_termOf_72 (by decide) (by decide) ?_
          refine tz_iload (pc := 75) dX12_termOf_75 rfl ?_
          refine tz_aload_n (pc := 77) dX12_termOf_77 rfl rfl ?_
          refine tz_fR (pc := 78) dX12_termOf_78 fl_X12_19 r_164_3 ?_
          refine tz_aload_n (pc := 81) dX12_termOf_81 rfl rfl ?_
          refine tz_fI (pc := 82) (kz := 15) (v := b) dX12_termOf_82 fl_X12_71 i_164_15 rfl hM2 (fun r_82 => ?_)
          refine tz_iload_n (pc := 85) dX12_termOf_85 rfl rfl ?_
          refine tz_iadd (pc := 86) (v := b + x) dX12_termOf_86 rfl ?_
          refine tz_aL (pc := 87) (z := (b + x)) (v := (J 168 (b + x))) dX12_termOf_87 a_168 rfl (by omega) rfl (fun r_87 => ?_)
          refine tz_iconst (pc := 88) dX12_termOf_88 ?_
          refine tz_iadd (pc := 89) (v := (J 168 (b + x)) + 1) dX12_termOf_89 rfl ?_
          refine tz_cS (pc := 90) (zm_greater hl n _ _ _ (by decide) (by omega)) sl_X12_104 dX12_termOf_90 rfl rfl (Nat.le_of_ble_eq_true rfl) ⟨(Nat.le_of_ble_eq_true rfl), (Nat.le_of_ble_eq_true rfl)⟩ rfl rfl (Nat.le_of_ble_eq_true rfl) (Nat.le_of_ble_eq_true rfl) (fun r9 J_90 hq9 => ?_)
          obtain ⟨z_90, rfl, hz_90, rfl, hg_90⟩ := hq9
          have gz_90 : (1 ≤ z_90 ∧ ((J 168 (b + x)) + 1) ≤ z_90) ∧ (z_90 = 1 ∨ z_90 = ((J 168 (b + x)) + 1)) := by rw [← hg_90]; split <;> omega
          refine tz_istore (pc := 93) (L2 := [_, _, _, _, _, _, _, _]) dX12_termOf_93 (by decide) rfl ?_
          refine tz_iload (pc := 95) dX12_termOf_95 rfl ?_
          refine tz_iconst (pc := 97) dX12_termOf_97 ?_
          refine tz_icmp_leF (pc := 98) (tgt := 121) (by decide) dX12_termOf_98 (by decide) (by decide) (by decide) ?_
          refine tz_iload (pc := 101) dX12_termOf_101 rfl ?_
          refine tz_aload_n (pc := 103) dX12_termOf_103 rfl rfl ?_
          refine tz_fR (pc := 104) dX12_termOf_104 fl_X12_19 r_164_3 ?_
          refine tz_aload_n (pc := 107) dX12_termOf_107 rfl rfl ?_
          refine tz_fI (pc := 108) (kz := 15) (v := b) dX12_termOf_108 fl_X12_71 i_164_15 rfl hM2 (fun r_108 => ?_)
          refine tz_iload_n (pc := 111) dX12_termOf_111 rfl rfl ?_
          refine tz_iadd (pc := 112) (v := b + y) dX12_termOf_112 rfl ?_
          refine tz_aL (pc := 113) (z := (b + y)) (v := (J 168 (b + y))) dX12_termOf_113 a_168 rfl (by omega) rfl (fun r_113 => ?_)
          refine tz_iconst (pc := 114) dX12_termOf_114 ?_
          refine tz_iadd (pc := 115) (v := (J 168 (b + y)) + 1) dX12_termOf_115 rfl ?_
          refine tz_cS (pc := 116) (zm_greater hl n _ _ _ (by omega) (by omega)) sl_X12_104 dX12_termOf_116 rfl rfl (Nat.le_of_ble_eq_true rfl) ⟨(Nat.le_of_ble_eq_true rfl), (Nat.le_of_ble_eq_true rfl)⟩ rfl rfl (Nat.le_of_ble_eq_true rfl) (Nat.le_of_ble_eq_true rfl) (fun r9 J_116 hq9 => ?_)
          obtain ⟨z_116, rfl, hz_116, rfl, hg_116⟩ := hq9
          have gz_116 : (z_90 ≤ z_116 ∧ ((J 168 (b + y)) + 1) ≤ z_116) ∧ (z_116 = z_90 ∨ z_116 = ((J 168 (b + y)) + 1)) := by rw [← hg_116]; split <;> omega
          refine tz_istore (pc := 119) (L2 := [_, _, _, _, _, _, _, _]) dX12_termOf_119 (by decide) rfl ?_
          refine tz_iload (pc := 121) dX12_termOf_121 rfl ?_
          refine tz_iconst (pc := 123) dX12_termOf_123 ?_
          refine tz_icmp_leT (pc := 124) (tgt := 148) (by decide) dX12_termOf_124 (by decide) (by decide) (by decide) ?_
          refine tz_aload_n (pc := 148) dX12_termOf_148 rfl rfl ?_
          refine tz_iload (pc := 149) dX12_termOf_149 rfl ?_
          refine tz_bipush (pc := 151) dX12_termOf_151 (by decide) ?_
          refine tz_icmp_gt (pc := 153) (tgt := 166) dX12_termOf_153 (by decide) (by omega) (by decide) (fun h_153 => ?_) (fun h_153 => ?_)
          · refine tz_iconst (pc := 166) dX12_termOf_166 ?_
            refine tz_goto (pc := 167) (tgt := 171) dX12_termOf_167 (by decide) ?_
            refine tz_pZ (pc := 171) (kz := 21) dX12_termOf_171 fl_X12_92 i_164_21 rfl rfl (Or.inr rfl) ?_
            refine tz_aload_n (pc := 174) dX12_termOf_174 rfl rfl ?_
            refine tz_fI (pc := 175) (kz := 21) (v := 1) dX12_termOf_175 fl_X12_92 i_164_21 rfl rfl (fun _ => ?_)
            refine tz_if_eqF (pc := 178) (tgt := 183) (by decide) dX12_termOf_178 (by decide) (by decide) ?_
            refine tz_iconst (pc := 181) dX12_termOf_181 ?_
            exact tz_iret (pc := 182) (z := 0) dX12_termOf_182 rfl (Nat.le_of_ble_eq_true rfl) (Nat.le_of_ble_eq_true rfl) ⟨Nat.le_refl _, Nat.le_add_right _ _⟩ ⟨_, rfl, (by decide), ⟨m, (MG.rf hM).full (fun q => absurd q (by decide)), fun q => absurd ((zup_at (J := J) (c := 164) (k := 21) (z := 1)).symm.trans q) (by decide)⟩⟩
          · refine tz_aload_n (pc := 156) dX12_termOf_156 rfl rfl ?_
            refine tz_cV (pc := 157) (m_many hl n _ b r d s m hM) vl_X12_96 dX12_termOf_157 o_164 rfl rfl (Nat.le_of_ble_eq_true rfl) ⟨(Nat.le_of_ble_eq_true rfl), (Nat.le_of_ble_eq_true rfl)⟩ rfl rfl (Nat.le_of_ble_eq_true rfl) (Nat.le_of_ble_eq_true rfl) (fun r9 J_157 hq9 => ?_)
            obtain ⟨z_157, rfl, hz_157, rfl, rfl⟩ := hq9
            refine tz_sipush (pc := 160) dX12_termOf_160 (by decide) ?_
            refine tz_icmp_ne (pc := 163) (tgt := 170) dX12_termOf_163 (by decide) (by omega) (by decide) (fun h_163 => ?_) (fun h_163 => ?_)
            · refine tz_iconst (pc := 170) dX12_termOf_170 ?_
              refine tz_pZ (pc := 171) (kz := 21) dX12_termOf_171 fl_X12_92 i_164_21 rfl rfl (Or.inl rfl) ?_
              refine tz_aload_n (pc := 174) dX12_termOf_174 rfl rfl ?_
              refine tz_fI (pc := 175) (kz := 21) (v := 0) dX12_termOf_175 fl_X12_92 i_164_21 rfl rfl (fun _ => ?_)
              refine tz_if_eqT (pc := 178) (tgt := 183) (by decide) dX12_termOf_178 (by decide) (by decide) ?_
              refine tz_aload_n (pc := 183) dX12_termOf_183 rfl rfl ?_
              refine tz_cV (pc := 184) (m_many hl n _ b r d s m (hM.of ⟨zup_ne (by decide), zup_ne (by decide), zup_ne (by decide)⟩ rfl rfl rfl rfl rfl)) vl_X12_96 dX12_termOf_184 o_164 rfl rfl (Nat.le_of_ble_eq_true rfl) ⟨(Nat.le_of_ble_eq_true rfl), (Nat.le_of_ble_eq_true rfl)⟩ rfl rfl (Nat.le_of_ble_eq_true rfl) (Nat.le_of_ble_eq_true rfl) (fun r9 J_184 hq9 => ?_)
              obtain ⟨z_184, rfl, hz_184, rfl, rfl⟩ := hq9
              refine tz_istore (pc := 187) (L2 := [_, _, _, _, _, _, _, _]) dX12_termOf_187 (by decide) rfl ?_
              refine tz_aload_n (pc := 189) dX12_termOf_189 rfl rfl ?_
              refine tz_fR (pc := 190) dX12_termOf_190 fl_X12_13 r_164_1 ?_
              refine tz_aload_n (pc := 193) dX12_termOf_193 rfl rfl ?_
              refine tz_fI (pc := 194) (kz := 15) (v := b) dX12_termOf_194 fl_X12_71 i_164_15 rfl hM2 (fun r_194 => ?_)
              refine tz_iload (pc := 197) dX12_termOf_197 rfl ?_
              refine tz_iadd (pc := 199) (v := b + m) dX12_termOf_199 rfl ?_
              refine tz_iload_n (pc := 200) dX12_termOf_200 rfl rfl ?_
              refine tz_aS (pc := 201) (z := (b + m)) dX12_termOf_201 a_166 rfl (by omega) (by omega) ?_
              refine tz_aload_n (pc := 202) dX12_termOf_202 rfl rfl ?_
              refine tz_fR (pc := 203) dX12_termOf_203 fl_X12_16 r_164_2 ?_
              refine tz_iconst (pc := 206) dX12_termOf_206 ?_
              refine tz_aload_n (pc := 207) dX12_termOf_207 rfl rfl ?_
              refine tz_fI (pc := 208) (kz := 15) (v := b) dX12_termOf_208 fl_X12_71 i_164_15 rfl hM2 (fun r_208 => ?_)
              refine tz_iload (pc := 211) dX12_termOf_211 rfl ?_
              refine tz_iadd (pc := 213) (v := b + m) dX12_termOf_213 rfl ?_
              refine tz_imul (pc := 214) (v := 3 * (b + m)) dX12_termOf_214 rfl ?_
              refine tz_iload (pc := 215) dX12_termOf_215 rfl ?_
              refine tz_if_leF (pc := 217) (tgt := 224) (by decide) dX12_termOf_217 (by decide) (by decide) ?_
              refine tz_iload_n (pc := 220) dX12_termOf_220 rfl rfl ?_
              refine tz_goto (pc := 221) (tgt := 225) dX12_termOf_221 (by decide) ?_
              refine tz_aS (pc := 225) (z := (3 * (b + m))) dX12_termOf_225 a_167 rfl (by omega) (by omega) ?_
              refine tz_aload_n (pc := 226) dX12_termOf_226 rfl rfl ?_
              refine tz_fR (pc := 227) dX12_termOf_227 fl_X12_16 r_164_2 ?_
              refine tz_iconst (pc := 230) dX12_termOf_230 ?_
              refine tz_aload_n (pc := 231) dX12_termOf_231 rfl rfl ?_
              refine tz_fI (pc := 232) (kz := 15) (v := b) dX12_termOf_232 fl_X12_71 i_164_15 rfl hM2 (fun r_232 => ?_)
              refine tz_iload (pc := 235) dX12_termOf_235 rfl ?_
              refine tz_iadd (pc := 237) (v := b + m) dX12_termOf_237 rfl ?_
              refine tz_imul (pc := 238) (v := 3 * (b + m)) dX12_termOf_238 rfl ?_
              refine tz_iconst (pc := 239) dX12_termOf_239 ?_
              refine tz_iadd (pc := 240) (v := (3 * (b + m)) + 1) dX12_termOf_240 rfl ?_
              refine tz_iload (pc := 241) dX12_termOf_241 rfl ?_
              refine tz_iconst (pc := 243) dX12_termOf_243 ?_
              refine tz_icmp_leF (pc := 244) (tgt := 251) (by decide) dX12_termOf_244 (by decide) (by decide) (by decide) ?_
              refine tz_iload_n (pc := 247) dX12_termOf_247 rfl rfl ?_
              refine tz_goto (pc := 248) (tgt := 252) dX12_termOf_248 (by decide) ?_
              refine tz_aS (pc := 252) (z := ((3 * (b + m)) + 1)) dX12_termOf_252 a_167 rfl (by omega) (by omega) ?_
              refine tz_aload_n (pc := 253) dX12_termOf_253 rfl rfl ?_
              refine tz_fR (pc := 254) dX12_termOf_254 fl_X12_16 r_164_2 ?_
              refine tz_iconst (pc := 257) dX12_termOf_257 ?_
              refine tz_aload_n (pc := 258) dX12_termOf_258 rfl rfl ?_
              refine tz_fI (pc := 259) (kz := 15) (v := b) dX12_termOf_259 fl_X12_71 i_164_15 rfl hM2 (fun r_259 => ?_)
              refine tz_iload (pc := 262) dX12_termOf_262 rfl ?_
              refine tz_iadd (pc := 264) (v := b + m) dX12_termOf_264 rfl ?_
              refine tz_imul (pc := 265) (v := 3 * (b + m)) dX12_termOf_265 rfl ?_
              refine tz_iconst (pc := 266) dX12_termOf_266 ?_
              refine tz_iadd (pc := 267) (v := (3 * (b + m)) + 2) dX12_termOf_267 rfl ?_
              refine tz_iload (pc := 268) dX12_termOf_268 rfl ?_
              refine tz_iconst (pc := 270) dX12_termOf_270 ?_
              refine tz_icmp_leT (pc := 271) (tgt := 279) (by decide) dX12_termOf_271 (by decide) (by decide) (by decide) ?_
              refine tz_iconst (pc := 279) dX12_termOf_279 ?_
              refine tz_aS (pc := 280) (z := ((3 * (b + m)) + 2)) dX12_termOf_280 a_167 rfl (by omega) (by decide) ?_
              refine tz_aload_n (pc := 281) dX12_termOf_281 rfl rfl ?_
              refine tz_fR (pc := 282) dX12_termOf_282 fl_X12_19 r_164_3 ?_
              refine tz_aload_n (pc := 285) dX12_termOf_285 rfl rfl ?_
              refine tz_fI (pc := 286) (kz := 15) (v := b) dX12_termOf_286 fl_X12_71 i_164_15 rfl hM2 (fun r_286 => ?_)
              refine tz_iload (pc := 289) dX12_termOf_289 rfl ?_
              refine tz_iadd (pc := 291) (v := b + m) dX12_termOf_291 rfl ?_
              refine tz_iload (pc := 292) dX12_termOf_292 rfl ?_
              refine tz_aS (pc := 294) (z := (b + m)) dX12_termOf_294 a_168 rfl (by omega) (by omega) ?_
              refine tz_aload_n (pc := 295) dX12_termOf_295 rfl rfl ?_
              refine tz_fR (pc := 296) dX12_termOf_296 fl_X12_9 r_164_0 ?_
              refine tz_aload_n (pc := 299) dX12_termOf_299 rfl rfl ?_
              refine tz_fI (pc := 300) (kz := 16) (v := r) dX12_termOf_300 fl_X12_85 i_164_16 rfl hM3 (fun r_300 => ?_)
              refine tz_iconst (pc := 303) dX12_termOf_303 ?_
              refine tz_iadd (pc := 304) (v := r) dX12_termOf_304 (Int.add_zero _) ?_
              refine tz_dup2 (pc := 305) dX12_termOf_305 rfl rfl ?_
              refine tz_aL (pc := 306) (z := r) (v := m) dX12_termOf_306 a_165 rfl (by omega) hM5 (fun r_306 => ?_)
              refine tz_iconst (pc := 307) dX12_termOf_307 ?_
              refine tz_iadd (pc := 308) (v := m + 1) dX12_termOf_308 rfl ?_
              refine tz_aS (pc := 309) (z := r) dX12_termOf_309 a_165 rfl (by omega) (by omega) ?_
              refine tz_iload (pc := 310) dX12_termOf_310 rfl ?_
              exact tz_iret (pc := 312) (z := m) dX12_termOf_312 rfl (Nat.le_of_ble_eq_true rfl) (Nat.le_of_ble_eq_true rfl) ⟨Nat.le_refl _, Nat.le_add_right _ _⟩ ⟨_, rfl, (by omega), ⟨m + 1, hM.push (A := 2) (x := x) (y := y) (w := w) (by omega) hh (by unfold arh; rw [if_neg (by omega)]; exact hk.2) (by decide) (fun _ => ⟨rfl, by omega, by omega⟩) (fun _ => ⟨rfl, by omega, by omega⟩) (fun g => absurd g (by decide)) (fun q a c => hn q a (by omega)) (by omega) (by omega) h_4, fun _ => by omega⟩⟩
            · refine tz_iconst (pc := 166) dX12_termOf_166 ?_
              refine tz_goto (pc := 167) (tgt := 171) dX12_termOf_167 (by decide) ?_
              refine tz_pZ (pc := 171) (kz := 21) dX12_termOf_171 fl_X12_92 i_164_21 rfl rfl (Or.inr rfl) ?_
              refine tz_aload_n (pc := 174) dX12_termOf_174 rfl rfl ?_
              refine tz_fI (pc := 175) (kz := 21) (v := 1) dX12_termOf_175 fl_X12_92 i_164_21 rfl rfl (fun _ => ?_)
              refine tz_if_eqF (pc := 178) (tgt := 183) (by decide) dX12_termOf_178 (by decide) (by decide) ?_
              refine tz_iconst (pc := 181) dX12_termOf_181 ?_
              exact tz_iret (pc := 182) (z := 0) dX12_termOf_182 rfl (Nat.le_of_ble_eq_true rfl) (Nat.le_of_ble_eq_true rfl) ⟨Nat.le_refl _, Nat.le_add_right _ _⟩ ⟨_, rfl, (by decide), ⟨m, (MG.rf hM).full (fun q => absurd q (by decide)), fun q => absurd ((zup_at (J := J) (c := 164) (k := 21) (z := 1)).symm.trans q) (by decide)⟩⟩
        · refine tz_aload_n (pc := 42) dX12_termOf_42 rfl rfl ?_
          refine tz_iload (pc := 43) dX12_termOf_43 rfl ?_
          refine tz_iload_n (pc := 45) dX12_termOf_45 rfl rfl ?_
          refine tz_iload (pc := 46) dX12_termOf_46 rfl ?_
          refine tz_iload_n (pc := 48) dX12_termOf_48 rfl rfl ?_
          refine tz_iload_n (pc := 49) dX12_termOf_49 rfl rfl ?_
          refine tz_iload (pc := 50) dX12_termOf_50 rfl ?_
          refine tz_cV (pc := 52) (m_isThat hl n _ _ _ _ _ _ _ (by omega) (by omega) (by decide) (by omega) (by omega) (by omega) b r d s m hM (by omega)) vl_X12_100 dX12_termOf_52 o_164 rfl rfl (Nat.le_of_ble_eq_true rfl) ⟨(Nat.le_of_ble_eq_true rfl), (Nat.le_of_ble_eq_true rfl)⟩ rfl rfl (Nat.le_of_ble_eq_true rfl) (Nat.le_of_ble_eq_true rfl) (fun r9 J_52 hq9 => ?_)
          obtain ⟨zi9, rfl, hz_52, rfl, hi1, hi2⟩ := hq9
          refine tz_if_eq (pc := 55) (tgt := 61) dX12_termOf_55 (by decide) (by omega) (fun h_55 => ?_) (fun h_55 => ?_)
          · refine tz_iinc (pc := 61) (z := t + 1) (L2 := [_, _, _, _, _, _, _, _]) dX12_termOf_61 rfl (by omega) rfl ?_
            refine tz_goto (pc := 64) (tgt := 33) dX12_termOf_64 (by decide) ?_
            exact ih33 (t + 1) (by omega) (by omega) (fun q a c => (Decidable.em (q = t)).elim (fun e => by rw [e]; exact fun e9 => by have := hi2.mpr e9; omega) (fun e => hn q a (by omega)))
          · refine tz_iload (pc := 58) dX12_termOf_58 rfl ?_
            exact tz_iret (pc := 60) (z := t) dX12_termOf_60 rfl (Nat.le_of_ble_eq_true rfl) (Nat.le_of_ble_eq_true rfl) ⟨Nat.le_refl _, Nat.le_add_right _ _⟩ ⟨_, rfl, (by omega), ⟨m, MG.rf hM, fun q => by omega⟩⟩
    exact loop33 _ 0 (Nat.lt_succ_self _) (by omega) (fun q a c => by omega)
  · refine tz_iconst (pc := 7) dX12_termOf_7 ?_
    exact tz_iret (pc := 8) (z := 0) dX12_termOf_8 rfl (Nat.le_of_ble_eq_true rfl) (Nat.le_of_ble_eq_true rfl) ⟨Nat.le_refl _, Nat.le_add_right _ _⟩ ⟨_, rfl, (by decide), ⟨m, MG.rf hM, fun q => by omega⟩⟩

set_option maxHeartbeats 4000000 in
set_option maxRecDepth 100000 in
theorem m_tm3 {l : Launch} {G : tb_G} (hl : l.stackTraces = false) (n : Nat) (J : zJ) (h : Int) (x : Int) (y : Int) (w : Int) (hr_h : -2147483648 ≤ h ∧ h < 2147483648) (hr_x : -2147483648 ≤ x ∧ x < 2147483648) (hr_y : -2147483648 ≤ y ∧ y < 2147483648) (hr_w : -2147483648 ≤ w ∧ w < 2147483648) (b r d s m : Int) (hM : MS J b r d s m) (hh : -8 ≤ h ∧ h < s) (hk : 0 ≤ h ∧ J 170 (d + h) = 3) (hg : J 164 21 = 0 → (0 < (3 : Int) → 0 ≤ x ∧ x < m) ∧ (1 < (3 : Int) → 0 ≤ y ∧ y < m) ∧ (2 < (3 : Int) → 0 ≤ w ∧ w < m)) : tz_Ok l G M_X12_termOf 2 0 0 [.ref 164, zi h, zi x, zi y, zi w] n J (zqi (fun z J' => ∃ m', MG [] [] (fun _ => false) J' J b r d s m m' ∧ (J' 164 21 = 0 → 0 ≤ z ∧ z < m'))) zN := by
  refine tz_Ok.of hl (by decide +kernel) rfl (tb_c1 rfl) (Nat.le_of_ble_eq_true rfl) ?_
  show tz_At l G M_X12_termOf (tb_rm 2 0 0) none (tb_ZM G 0 0 (zQ n 0 (zqi (fun z J' => ∃ m', MG [] [] (fun _ => false) J' J b r d s m m' ∧ (J' 164 21 = 0 → 0 ≤ z ∧ z < m')))) (zX n 0 zN)) 0 0 n J 0 [some (.ref 164), some (zi h), some (zi x), some (zi y), some (zi w), none, none, none] []
  obtain ⟨hM1, hM2, hM3, hM4, hM5, hM6⟩ := id hM
  have hT := hM.told
  refine tz_aload_n (pc := 0) dX12_termOf_0 rfl rfl ?_
  refine tz_fI (pc := 1) (kz := 21) (v := (J 164 21)) dX12_termOf_1 fl_X12_92 i_164_21 rfl rfl (fun r_1 => ?_)
  refine tz_if_eq (pc := 4) (tgt := 9) dX12_termOf_4 (by decide) (by omega) (fun h_4 => ?_) (fun h_4 => ?_)
  · refine tz_iload_n (pc := 9) dX12_termOf_9 rfl rfl ?_
    refine tz_if_geT (pc := 10) (tgt := 17) (by omega) dX12_termOf_10 (by decide) (by omega) ?_
    refine tz_aload_n (pc := 17) dX12_termOf_17 rfl rfl ?_
    refine tz_fR (pc := 18) dX12_termOf_18 fl_X12_25 r_164_5 ?_
    refine tz_aload_n (pc := 21) dX12_termOf_21 rfl rfl ?_
    refine tz_fI (pc := 22) (kz := 17) (v := d) dX12_termOf_22 fl_X12_82 i_164_17 rfl hM4 (fun r_22 => ?_)
    refine tz_iload_n (pc := 25) dX12_termOf_25 rfl rfl ?_
    refine tz_iadd (pc := 26) (v := d + h) dX12_termOf_26 rfl ?_
    refine tz_aL (pc := 27) (z := (d + h)) (v := 3) dX12_termOf_27 a_170 rfl (by omega) hk.2 (fun _ => ?_)
    refine tz_istore (pc := 28) (L2 := [_, _, _, _, _, _, _, _]) dX12_termOf_28 (by decide) rfl ?_
    refine tz_iconst (pc := 30) dX12_termOf_30 ?_
    refine tz_istore (pc := 31) (L2 := [_, _, _, _, _, _, _, _]) dX12_termOf_31 (by decide) rfl ?_
    have loop33 : ∀ (f9 : Nat) (t : Int), ((m - t).toNat) < f9 → (0 ≤ t ∧ t ≤ m) → (∀ q, 0 ≤ q → q < t → ¬ (J 166 (b + q) = h ∧ (0 < (3 : Int) → J 167 (3 * (b + q) + 0) = x) ∧ (1 < (3 : Int) → J 167 (3 * (b + q) + 1) = y) ∧ (2 < (3 : Int) → J 167 (3 * (b + q) + 2) = w))) → tz_At l G M_X12_termOf (tb_rm 2 0 0) none (tb_ZM G 0 0 (zQ n 0 (zqi (fun z J' => ∃ m', MG [] [] (fun _ => false) J' J b r d s m m' ∧ (J' 164 21 = 0 → 0 ≤ z ∧ z < m')))) (zX n 0 zN)) 0 0 n J 33 [some (.ref 164), some (zi h), some (zi x), some (zi y), some (zi w), some (zi 3), some (zi t), none] [] := by
      intro f9
      induction f9 with
      | zero => intro t hm9; exact absurd hm9 (Nat.not_lt_zero _)
      | succ f9 ih33 =>
        intro t hm33 hq hn
        refine tz_iload (pc := 33) dX12_termOf_33 rfl ?_
        refine tz_aload_n (pc := 35) dX12_termOf_35 rfl rfl ?_
        refine tz_cV (pc := 36) (m_many hl n _ b r d s m hM) vl_X12_96 dX12_termOf_36 o_164 rfl rfl (Nat.le_of_ble_eq_true rfl) ⟨(Nat.le_of_ble_eq_true rfl), (Nat.le_of_ble_eq_true rfl)⟩ rfl rfl (Nat.le_of_ble_eq_true rfl) (Nat.le_of_ble_eq_true rfl) (fun r9 J_36 hq9 => ?_)
        obtain ⟨z_36, rfl, hz_36, rfl, rfl⟩ := hq9
        refine tz_icmp_ge (pc := 39) (tgt := 67) dX12_termOf_39 (by decide) (by omega) (by omega) (fun h_39 => ?_) (fun h_39 => ?_)
        · have hx9 := hg h_4
          have hz0 := hM.ar (t := x) (by omega)
          have hz1 := hM.ar (t := y) (by omega)
          have hz2 := hM.ar (t := w) (by omega)
          refine tz_iconst (pc := 67) dX12_termOf_67 ?_
          refine tz_istore (pc := 68) (L2 := [_, _, _, _, _, _, _, _]) dX12_termOf_68 (by decide) rfl ?_
          refine tz_iload (pc := 70) dX12_termOf_70 rfl ?_
          refine tz_if_leF (pc := 72) (tgt := 95) (by decide) dX12_termOf_72 (by decide) (by decide) ?_
          refine tz_iload (pc := 75) dX12_termOf_75 rfl ?_
          refine tz_aload_n (pc := 77) dX12_termOf_77 rfl rfl ?_
          refine tz_fR (pc := 78) dX12_termOf_78 fl_X12_19 r_164_3 ?_
          refine tz_aload_n (pc := 81) dX12_termOf_81 rfl rfl ?_
          refine tz_fI (pc := 82) (kz := 15) (v := b) dX12_termOf_82 fl_X12_71 i_164_15 rfl hM2 (fun r_82 => ?_)
          refine tz_iload_n (pc := 85) dX12_termOf_85 rfl rfl ?_
          refine tz_iadd (pc := 86) (v := b + x) dX12_termOf_86 rfl ?_
          refine tz_aL (pc := 87) (z := (b + x)) (v := (J 168 (b + x))) dX12_termOf_87 a_168 rfl (by omega) rfl (fun r_87 => ?_)
          refine tz_iconst (pc := 88) dX12_termOf_88 ?_
          refine tz_iadd (pc := 89) (v := (J 168 (b + x)) + 1) dX12_termOf_89 rfl ?_
          refine tz_cS (pc := 90) (zm_greater hl n _ _ _ (by decide) (by omega)) sl_X12_104 dX12_termOf_90 rfl rfl (Nat.le_of_ble_eq_true rfl) ⟨(Nat.le_of_ble_eq_true rfl), (Nat.le_of_ble_eq_true rfl)⟩ rfl rfl (Nat.le_of_ble_eq_true rfl) (Nat.le_of_ble_eq_true rfl) (fun r9 J_90 hq9 => ?_)
          obtain ⟨z_90, rfl, hz_90, rfl, hg_90⟩ := hq9
          have gz_90 : (1 ≤ z_90 ∧ ((J 168 (b + x)) + 1) ≤ z_90) ∧ (z_90 = 1 ∨ z_90 = ((J 168 (b + x)) + 1)) := by rw [← hg_90]; split <;> omega
          refine tz_istore (pc := 93) (L2 := [_, _, _, _, _, _, _, _]) dX12_termOf_93 (by decide) rfl ?_
          refine tz_iload (pc := 95) dX12_termOf_95 rfl ?_
          refine tz_iconst (pc := 97) dX12_termOf_97 ?_
          refine tz_icmp_leF (pc := 98) (tgt := 121) (by decide) dX12_termOf_98 (by decide) (by decide) (by decide) ?_
          refine tz_iload (pc := 101) dX12_termOf_101 rfl ?_
          refine tz_aload_n (pc := 103) dX12_termOf_103 rfl rfl ?_
          refine tz_fR (pc := 104) dX12_termOf_104 fl_X12_19 r_164_3 ?_
          refine tz_aload_n (pc := 107) dX12_termOf_107 rfl rfl ?_
          refine tz_fI (pc := 108) (kz := 15) (v := b) dX12_termOf_108 fl_X12_71 i_164_15 rfl hM2 (fun r_108 => ?_)
          refine tz_iload_n (pc := 111) dX12_termOf_111 rfl rfl ?_
          refine tz_iadd (pc := 112) (v := b + y) dX12_termOf_112 rfl ?_
          refine tz_aL (pc := 113) (z := (b + y)) (v := (J 168 (b + y))) dX12_termOf_113 a_168 rfl (by omega) rfl (fun r_113 => ?_)
          refine tz_iconst (pc := 114) dX12_termOf_114 ?_
          refine tz_iadd (pc := 115) (v := (J 168 (b + y)) + 1) dX12_termOf_115 rfl ?_
          refine tz_cS (pc := 116) (zm_greater hl n _ _ _ (by omega) (by omega)) sl_X12_104 dX12_termOf_116 rfl rfl (Nat.le_of_ble_eq_true rfl) ⟨(Nat.le_of_ble_eq_true rfl), (Nat.le_of_ble_eq_true rfl)⟩ rfl rfl (Nat.le_of_ble_eq_true rfl) (Nat.le_of_ble_eq_true rfl) (fun r9 J_116 hq9 => ?_)
          obtain ⟨z_116, rfl, hz_116, rfl, hg_116⟩ := hq9
          have gz_116 : (z_90 ≤ z_116 ∧ ((J 168 (b + y)) + 1) ≤ z_116) ∧ (z_116 = z_90 ∨ z_116 = ((J 168 (b + y)) + 1)) := by rw [← hg_116]; split <;> omega
          refine tz_istore (pc := 119) (L2 := [_, _, _, _, _, _, _, _]) dX12_termOf_119 (by decide) rfl ?_
          refine tz_iload (pc := 121) dX12_termOf_121 rfl ?_
          refine tz_iconst (pc := 123) dX12_termOf_123 ?_
          refine tz_icmp_leF (pc := 124) (tgt := 148) (by decide) dX12_termOf_124 (by decide) (by decide) (by decide) ?_
          refine tz_iload (pc := 127) dX12_termOf_127 rfl ?_
          refine tz_aload_n (pc := 129) dX12_termOf_129 rfl rfl ?_
          refine tz_fR (pc := 130) dX12_termOf_130 fl_X12_19 r_164_3 ?_
          refine tz_aload_n (pc := 133) dX12_termOf_133 rfl rfl ?_
          refine tz_fI (pc := 134) (kz := 15) (v := b) dX12_termOf_134 fl_X12_71 i_164_15 rfl hM2 (fun r_134 => ?_)
          refine tz_iload (pc := 137) dX12_termOf_137 rfl ?_
          refine tz_iadd (pc := 139) (v := b + w) dX12_termOf_139 rfl ?_
          refine tz_aL (pc := 140) (z := (b + w)) (v := (J 168 (b + w))) dX12_termOf_140 a_168 rfl (by omega) rfl (fun r_140 => ?_)
          refine tz_iconst (pc := 141) dX12_termOf_141 ?_
          refine tz_iadd (pc := 142) (v := (J 168 (b + w)) + 1) dX12_termOf_142 rfl ?_
          refine tz_cS (pc := 143) (zm_greater hl n _ _ _ (by omega) (by omega)) sl_X12_104 dX12_termOf_143 rfl rfl (Nat.le_of_ble_eq_true rfl) ⟨(Nat.le_of_ble_eq_true rfl), (Nat.le_of_ble_eq_true rfl)⟩ rfl rfl (Nat.le_of_ble_eq_true rfl) (Nat.le_of_ble_eq_true rfl) (fun r9 J_143 hq9 => ?_)
          obtain ⟨z_143, rfl, hz_143, rfl, hg_143⟩ := hq9
          have gz_143 : (z_116 ≤ z_143 ∧ ((J 168 (b + w)) + 1) ≤ z_143) ∧ (z_143 = z_116 ∨ z_143 = ((J 168 (b + w)) + 1)) := by rw [← hg_143]; split <;> omega
          refine tz_istore (pc := 146) (L2 := [_, _, _, _, _, _, _, _]) dX12_termOf_146 (by decide) rfl ?_
          refine tz_aload_n (pc := 148) dX12_termOf_148 rfl rfl ?_
          refine tz_iload (pc := 149) dX12_termOf_149 rfl ?_
          refine tz_bipush (pc := 151) dX12_termOf_151 (by decide) ?_
          refine tz_icmp_gt (pc := 153) (tgt := 166) dX12_termOf_153 (by decide) (by omega) (by decide) (fun h_153 => ?_) (fun h_153 => ?_)
          · refine tz_iconst (pc := 166) dX12_termOf_166 ?_
            refine tz_goto (pc := 167) (tgt := 171) dX12_termOf_167 (by decide) ?_
            refine tz_pZ (pc := 171) (kz := 21) dX12_termOf_171 fl_X12_92 i_164_21 rfl rfl (Or.inr rfl) ?_
            refine tz_aload_n (pc := 174) dX12_termOf_174 rfl rfl ?_
            refine tz_fI (pc := 175) (kz := 21) (v := 1) dX12_termOf_175 fl_X12_92 i_164_21 rfl rfl (fun _ => ?_)
            refine tz_if_eqF (pc := 178) (tgt := 183) (by decide) dX12_termOf_178 (by decide) (by decide) ?_
            refine tz_iconst (pc := 181) dX12_termOf_181 ?_
            exact tz_iret (pc := 182) (z := 0) dX12_termOf_182 rfl (Nat.le_of_ble_eq_true rfl) (Nat.le_of_ble_eq_true rfl) ⟨Nat.le_refl _, Nat.le_add_right _ _⟩ ⟨_, rfl, (by decide), ⟨m, (MG.rf hM).full (fun q => absurd q (by decide)), fun q => absurd ((zup_at (J := J) (c := 164) (k := 21) (z := 1)).symm.trans q) (by decide)⟩⟩
          · refine tz_aload_n (pc := 156) dX12_termOf_156 rfl rfl ?_
            refine tz_cV (pc := 157) (m_many hl n _ b r d s m hM) vl_X12_96 dX12_termOf_157 o_164 rfl rfl (Nat.le_of_ble_eq_true rfl) ⟨(Nat.le_of_ble_eq_true rfl), (Nat.le_of_ble_eq_true rfl)⟩ rfl rfl (Nat.le_of_ble_eq_true rfl) (Nat.le_of_ble_eq_true rfl) (fun r9 J_157 hq9 => ?_)
            obtain ⟨z_157, rfl, hz_157, rfl, rfl⟩ := hq9
            refine tz_sipush (pc := 160) dX12_termOf_160 (by decide) ?_
            refine tz_icmp_ne (pc := 163) (tgt := 170) dX12_termOf_163 (by decide) (by omega) (by decide) (fun h_163 => ?_) (fun h_163 => ?_)
            · refine tz_iconst (pc := 170) dX12_termOf_170 ?_
              refine tz_pZ (pc := 171) (kz := 21) dX12_termOf_171 fl_X12_92 i_164_21 rfl rfl (Or.inl rfl) ?_
              refine tz_aload_n (pc := 174) dX12_termOf_174 rfl rfl ?_
              refine tz_fI (pc := 175) (kz := 21) (v := 0) dX12_termOf_175 fl_X12_92 i_164_21 rfl rfl (fun _ => ?_)
              refine tz_if_eqT (pc := 178) (tgt := 183) (by decide) dX12_termOf_178 (by decide) (by decide) ?_
              refine tz_aload_n (pc := 183) dX12_termOf_183 rfl rfl ?_
              refine tz_cV (pc := 184) (m_many hl n _ b r d s m (hM.of ⟨zup_ne (by decide), zup_ne (by decide), zup_ne (by decide)⟩ rfl rfl rfl rfl rfl)) vl_X12_96 dX12_termOf_184 o_164 rfl rfl (Nat.le_of_ble_eq_true rfl) ⟨(Nat.le_of_ble_eq_true rfl), (Nat.le_of_ble_eq_true rfl)⟩ rfl rfl (Nat.le_of_ble_eq_true rfl) (Nat.le_of_ble_eq_true rfl) (fun r9 J_184 hq9 => ?_)
              obtain ⟨z_184, rfl, hz_184, rfl, rfl⟩ := hq9
              refine tz_istore (pc := 187) (L2 := [_, _, _, _, _, _, _, _]) dX12_termOf_187 (by decide) rfl ?_
              refine tz_aload_n (pc := 189) dX12_termOf_189 rfl rfl ?_
              refine tz_fR (pc := 190) dX12_termOf_190 fl_X12_13 r_164_1 ?_
              refine tz_aload_n (pc := 193) dX12_termOf_193 rfl rfl ?_
              refine tz_fI (pc := 194) (kz := 15) (v := b) dX12_termOf_194 fl_X12_71 i_164_15 rfl hM2 (fun r_194 => ?_)
              refine tz_iload (pc := 197) dX12_termOf_197 rfl ?_
              refine tz_iadd (pc := 199) (v := b + m) dX12_termOf_199 rfl ?_
              refine tz_iload_n (pc := 200) dX12_termOf_200 rfl rfl ?_
              refine tz_aS (pc := 201) (z := (b + m)) dX12_termOf_201 a_166 rfl (by omega) (by omega) ?_
              refine tz_aload_n (pc := 202) dX12_termOf_202 rfl rfl ?_
              refine tz_fR (pc := 203) dX12_termOf_203 fl_X12_16 r_164_2 ?_
              refine tz_iconst (pc := 206) dX12_termOf_206 ?_
              refine tz_aload_n (pc := 207) dX12_termOf_207 rfl rfl ?_
              refine tz_fI (pc := 208) (kz := 15) (v := b) dX12_termOf_208 fl_X12_71 i_164_15 rfl hM2 (fun r_208 => ?_)
              refine tz_iload (pc := 211) dX12_termOf_211 rfl ?_
              refine tz_iadd (pc := 213) (v := b + m) dX12_termOf_213 rfl ?_
              refine tz_imul (pc := 214) (v := 3 * (b + m)) dX12_termOf_214 rfl ?_
              refine tz_iload (pc := 215) dX12_termOf_215 rfl ?_
              refine tz_if_leF (pc := 217) (tgt := 224) (by decide) dX12_termOf_217 (by decide) (by decide) ?_
              refine tz_iload_n (pc := 220) dX12_termOf_220 rfl rfl ?_
              refine tz_goto (pc := 221) (tgt := 225) dX12_termOf_221 (by decide) ?_
              refine tz_aS (pc := 225) (z := (3 * (b + m))) dX12_termOf_225 a_167 rfl (by omega) (by omega) ?_
              refine tz_aload_n (pc := 226) dX12_termOf_226 rfl rfl ?_
              refine tz_fR (pc := 227) dX12_termOf_227 fl_X12_16 r_164_2 ?_
              refine tz_iconst (pc := 230) dX12_termOf_230 ?_
              refine tz_aload_n (pc := 231) dX12_termOf_231 rfl rfl ?_
              refine tz_fI (pc := 232) (kz := 15) (v := b) dX12_termOf_232 fl_X12_71 i_164_15 rfl hM2 (fun r_232 => ?_)
              refine tz_iload (pc := 235) dX12_termOf_235 rfl ?_
              refine tz_iadd (pc := 237) (v := b + m) dX12_termOf_237 rfl ?_
              refine tz_imul (pc := 238) (v := 3 * (b + m)) dX12_termOf_238 rfl ?_
              refine tz_iconst (pc := 239) dX12_termOf_239 ?_
              refine tz_iadd (pc := 240) (v := (3 * (b + m)) + 1) dX12_termOf_240 rfl ?_
              refine tz_iload (pc := 241) dX12_termOf_241 rfl ?_
              refine tz_iconst (pc := 243) dX12_termOf_243 ?_
              refine tz_icmp_leF (pc := 244) (tgt := 251) (by decide) dX12_termOf_244 (by decide) (by decide) (by decide) ?_
              refine tz_iload_n (pc := 247) dX12_termOf_247 rfl rfl ?_
              refine tz_goto (pc := 248) (tgt := 252) dX12_termOf_248 (by decide) ?_
              refine tz_aS (pc := 252) (z := ((3 * (b + m)) + 1)) dX12_termOf_252 a_167 rfl (by omega) (by omega) ?_
              refine tz_aload_n (pc := 253) dX12_termOf_253 rfl rfl ?_
              refine tz_fR (pc := 254) dX12_termOf_254 fl_X12_16 r_164_2 ?_
              refine tz_iconst (pc := 257) dX12_termOf_257 ?_
              refine tz_aload_n (pc := 258) dX12_termOf_258 rfl rfl ?_
              refine tz_fI (pc := 259) (kz := 15) (v := b) dX12_termOf_259 fl_X12_71 i_164_15 rfl hM2 (fun r_259 => ?_)
              refine tz_iload (pc := 262) dX12_termOf_262 rfl ?_
              refine tz_iadd (pc := 264) (v := b + m) dX12_termOf_264 rfl ?_
              refine tz_imul (pc := 265) (v := 3 * (b + m)) dX12_termOf_265 rfl ?_
              refine tz_iconst (pc := 266) dX12_termOf_266 ?_
              refine tz_iadd (pc := 267) (v := (3 * (b + m)) + 2) dX12_termOf_267 rfl ?_
              refine tz_iload (pc := 268) dX12_termOf_268 rfl ?_
              refine tz_iconst (pc := 270) dX12_termOf_270 ?_
              refine tz_icmp_leF (pc := 271) (tgt := 279) (by decide) dX12_termOf_271 (by decide) (by decide) (by decide) ?_
              refine tz_iload (pc := 274) dX12_termOf_274 rfl ?_
              refine tz_goto (pc := 276) (tgt := 280) dX12_termOf_276 (by decide) ?_
              refine tz_aS (pc := 280) (z := ((3 * (b + m)) + 2)) dX12_termOf_280 a_167 rfl (by omega) (by omega) ?_
              refine tz_aload_n (pc := 281) dX12_termOf_281 rfl rfl ?_
              refine tz_fR (pc := 282) dX12_termOf_282 fl_X12_19 r_164_3 ?_
              refine tz_aload_n (pc := 285) dX12_termOf_285 rfl rfl ?_
              refine tz_fI (pc := 286) (kz := 15) (v := b) dX12_termOf_286 fl_X12_71 i_164_15 rfl hM2 (fun r_286 => ?_)
              refine tz_iload (pc := 289) dX12_termOf_289 rfl ?_
              refine tz_iadd (pc := 291) (v := b + m) dX12_termOf_291 rfl ?_
              refine tz_iload (pc := 292) dX12_termOf_292 rfl ?_
              refine tz_aS (pc := 294) (z := (b + m)) dX12_termOf_294 a_168 rfl (by omega) (by omega) ?_
              refine tz_aload_n (pc := 295) dX12_termOf_295 rfl rfl ?_
              refine tz_fR (pc := 296) dX12_termOf_296 fl_X12_9 r_164_0 ?_
              refine tz_aload_n (pc := 299) dX12_termOf_299 rfl rfl ?_
              refine tz_fI (pc := 300) (kz := 16) (v := r) dX12_termOf_300 fl_X12_85 i_164_16 rfl hM3 (fun r_300 => ?_)
              refine tz_iconst (pc := 303) dX12_termOf_303 ?_
              refine tz_iadd (pc := 304) (v := r) dX12_termOf_304 (Int.add_zero _) ?_
              refine tz_dup2 (pc := 305) dX12_termOf_305 rfl rfl ?_
              refine tz_aL (pc := 306) (z := r) (v := m) dX12_termOf_306 a_165 rfl (by omega) hM5 (fun r_306 => ?_)
              refine tz_iconst (pc := 307) dX12_termOf_307 ?_
              refine tz_iadd (pc := 308) (v := m + 1) dX12_termOf_308 rfl ?_
              refine tz_aS (pc := 309) (z := r) dX12_termOf_309 a_165 rfl (by omega) (by omega) ?_
              refine tz_iload (pc := 310) dX12_termOf_310 rfl ?_
              exact tz_iret (pc := 312) (z := m) dX12_termOf_312 rfl (Nat.le_of_ble_eq_true rfl) (Nat.le_of_ble_eq_true rfl) ⟨Nat.le_refl _, Nat.le_add_right _ _⟩ ⟨_, rfl, (by omega), ⟨m + 1, hM.push (A := 3) (x := x) (y := y) (w := w) (by omega) hh (by unfold arh; rw [if_neg (by omega)]; exact hk.2) (by decide) (fun _ => ⟨rfl, by omega, by omega⟩) (fun _ => ⟨rfl, by omega, by omega⟩) (fun _ => ⟨rfl, by omega, by omega⟩) (fun q a c => hn q a (by omega)) (by omega) (by omega) h_4, fun _ => by omega⟩⟩
            · refine tz_iconst (pc := 166) dX12_termOf_166 ?_
              refine tz_goto (pc := 167) (tgt := 171) dX12_termOf_167 (by decide) ?_
              refine tz_pZ (pc := 171) (kz := 21) dX12_termOf_171 fl_X12_92 i_164_21 rfl rfl (Or.inr rfl) ?_
              refine tz_aload_n (pc := 174) dX12_termOf_174 rfl rfl ?_
              refine tz_fI (pc := 175) (kz := 21) (v := 1) dX12_termOf_175 fl_X12_92 i_164_21 rfl rfl (fun _ => ?_)
              refine tz_if_eqF (pc := 178) (tgt := 183) (by decide) dX12_termOf_178 (by decide) (by decide) ?_
              refine tz_iconst (pc := 181) dX12_termOf_181 ?_
              exact tz_iret (pc := 182) (z := 0) dX12_termOf_182 rfl (Nat.le_of_ble_eq_true rfl) (Nat.le_of_ble_eq_true rfl) ⟨Nat.le_refl _, Nat.le_add_right _ _⟩ ⟨_, rfl, (by decide), ⟨m, (MG.rf hM).full (fun q => absurd q (by decide)), fun q => absurd ((zup_at (J := J) (c := 164) (k := 21) (z := 1)).symm.trans q) (by decide)⟩⟩
        · refine tz_aload_n (pc := 42) dX12_termOf_42 rfl rfl ?_
          refine tz_iload (pc := 43) dX12_termOf_43 rfl ?_
          refine tz_iload_n (pc := 45) dX12_termOf_45 rfl rfl ?_
          refine tz_iload (pc := 46) dX12_termOf_46 rfl ?_
          refine tz_iload_n (pc := 48) dX12_termOf_48 rfl rfl ?_
          refine tz_iload_n (pc := 49) dX12_termOf_49 rfl rfl ?_
          refine tz_iload (pc := 50) dX12_termOf_50 rfl ?_
          refine tz_cV (pc := 52) (m_isThat hl n _ _ _ _ _ _ _ (by omega) (by omega) (by decide) (by omega) (by omega) (by omega) b r d s m hM (by omega)) vl_X12_100 dX12_termOf_52 o_164 rfl rfl (Nat.le_of_ble_eq_true rfl) ⟨(Nat.le_of_ble_eq_true rfl), (Nat.le_of_ble_eq_true rfl)⟩ rfl rfl (Nat.le_of_ble_eq_true rfl) (Nat.le_of_ble_eq_true rfl) (fun r9 J_52 hq9 => ?_)
          obtain ⟨zi9, rfl, hz_52, rfl, hi1, hi2⟩ := hq9
          refine tz_if_eq (pc := 55) (tgt := 61) dX12_termOf_55 (by decide) (by omega) (fun h_55 => ?_) (fun h_55 => ?_)
          · refine tz_iinc (pc := 61) (z := t + 1) (L2 := [_, _, _, _, _, _, _, _]) dX12_termOf_61 rfl (by omega) rfl ?_
            refine tz_goto (pc := 64) (tgt := 33) dX12_termOf_64 (by decide) ?_
            exact ih33 (t + 1) (by omega) (by omega) (fun q a c => (Decidable.em (q = t)).elim (fun e => by rw [e]; exact fun e9 => by have := hi2.mpr e9; omega) (fun e => hn q a (by omega)))
          · refine tz_iload (pc := 58) dX12_termOf_58 rfl ?_
            exact tz_iret (pc := 60) (z := t) dX12_termOf_60 rfl (Nat.le_of_ble_eq_true rfl) (Nat.le_of_ble_eq_true rfl) ⟨Nat.le_refl _, Nat.le_add_right _ _⟩ ⟨_, rfl, (by omega), ⟨m, MG.rf hM, fun q => by omega⟩⟩
    exact loop33 _ 0 (Nat.lt_succ_self _) (by omega) (fun q a c => by omega)
  · refine tz_iconst (pc := 7) dX12_termOf_7 ?_
    exact tz_iret (pc := 8) (z := 0) dX12_termOf_8 rfl (Nat.le_of_ble_eq_true rfl) (Nat.le_of_ble_eq_true rfl) ⟨Nat.le_refl _, Nat.le_add_right _ _⟩ ⟨_, rfl, (by decide), ⟨m, MG.rf hM, fun q => by omega⟩⟩

theorem m_termOf {l : Launch} {G : tb_G} (hl : l.stackTraces = false) (n : Nat) (J : zJ) (h x y w : Int) (hr_h : -2147483648 ≤ h ∧ h < 2147483648) (hr_x : -2147483648 ≤ x ∧ x < 2147483648) (hr_y : -2147483648 ≤ y ∧ y < 2147483648) (hr_w : -2147483648 ≤ w ∧ w < 2147483648) (b r d s m : Int) (hM : MS J b r d s m) (hh : -8 ≤ h ∧ h < s) (hg : J 164 21 = 0 → (0 < arh (fun k => J 170 (d + k)) h → 0 ≤ x ∧ x < m) ∧ (1 < arh (fun k => J 170 (d + k)) h → 0 ≤ y ∧ y < m) ∧ (2 < arh (fun k => J 170 (d + k)) h → 0 ≤ w ∧ w < m)) : tz_Ok l G M_X12_termOf 2 0 0 [.ref 164, zi h, zi x, zi y, zi w] n J (zqi (fun z J' => ∃ m', MG [] [] (fun _ => false) J' J b r d s m m' ∧ (J' 164 21 = 0 → 0 ≤ z ∧ z < m'))) zN := by
  by_cases hn : h < 0
  · have e : arh (fun k => J 170 (d + k)) h = 0 := by unfold arh; rw [if_pos hn]
    rw [e] at hg
    exact m_tmN hl n J h x y w hr_h hr_x hr_y hr_w b r d s m hM hh hn hg
  · have e : arh (fun k => J 170 (d + k)) h = J 170 (d + h) := by unfold arh; rw [if_neg hn]
    have h3 := arh_rg hM.2.2.2.2.2.1 hh.2
    rw [e] at hg h3
    have hc : J 170 (d + h) = 0 ∨ J 170 (d + h) = 1 ∨ J 170 (d + h) = 2 ∨ J 170 (d + h) = 3 := by omega
    rcases hc with hc | hc | hc | hc <;> rw [hc] at hg
    · exact m_tm0 hl n J h x y w hr_h hr_x hr_y hr_w b r d s m hM hh ⟨by omega, hc⟩ hg
    · exact m_tm1 hl n J h x y w hr_h hr_x hr_y hr_w b r d s m hM hh ⟨by omega, hc⟩ hg
    · exact m_tm2 hl n J h x y w hr_h hr_x hr_y hr_w b r d s m hM hh ⟨by omega, hc⟩ hg
    · exact m_tm3 hl n J h x y w hr_h hr_x hr_y hr_w b r d s m hM hh ⟨by omega, hc⟩ hg
end
section
/-- sizes, of a table of arities and arguments -/
def tps (f : Int → Int) (ag : Int → Int → Int) (t : Int) : Nat → Int
  | 0 => 1
  | i + 1 => tps f ag t i + f (ag t i)
def tsz (ar : Int → Int) (ag : Int → Int → Int) : Nat → Int → Int
  | 0, _ => 1
  | k + 1, t => tps (tsz ar ag k) ag t (ar t).toNat
theorem tps_cg {f g : Int → Int} {ag : Int → Int → Int} {t : Int} : ∀ (n : Nat), (∀ i : Nat, i < n → f (ag t i) = g (ag t i)) → tps f ag t n = tps g ag t n
  | 0, _ => rfl
  | n + 1, h => by
    show tps f ag t n + _ = tps g ag t n + _
    rw [tps_cg n (fun i hi => h i (by omega)), h n (by omega)]
def mag (J : zJ) (b : Int) : Int → Int → Int := fun t i => J 167 (3 * (b + t) + i)
def msz (J : zJ) (b d t : Int) : Int := tsz (mar J b d) (mag J b) 6 t
theorem msz_st {J : zJ} {b r d s m : Int} (h : MS J b r d s m) : ∀ (k k' : Nat) (t : Int), (0 ≤ t ∧ t < m) → J 168 (b + t) ≤ k → J 168 (b + t) ≤ k' → tsz (mar J b d) (mag J b) k t = tsz (mar J b d) (mag J b) k' t
  | 0, _, t, ht, h1, _ => by have := (h.ar ht).2.2.1; omega
  | _ + 1, 0, t, ht, _, h2 => by have := (h.ar ht).2.2.1; omega
  | k + 1, k' + 1, t, ht, h1, h2 => by
    refine tps_cg _ (fun i hi => ?_)
    have ha := (h.ar ht).1
    have hb := h.arg ht (i := i) (by omega)
    exact msz_st h k k' _ ⟨hb.1.1, by have := hb.1.2; show J 167 (3 * (b + t) + i) < m; omega⟩ (by have := hb.2; show J 168 (b + J 167 (3 * (b + t) + i)) ≤ k; omega) (by have := hb.2; show J 168 (b + J 167 (3 * (b + t) + i)) ≤ k'; omega)
theorem msz_un {J : zJ} {b r d s m t : Int} (h : MS J b r d s m) (ht : 0 ≤ t ∧ t < m) : msz J b d t = tps (msz J b d) (mag J b) t (mar J b d t).toNat := by
  have := (h.ar ht).2.2.1
  exact msz_st h 6 7 t ht (by omega) (by omega)
theorem msz_bd {J : zJ} {b r d s m : Int} (h : MS J b r d s m) : ∀ (k : Nat) (t : Int), (0 ≤ t ∧ t < m) → J 168 (b + t) ≤ k → 1 ≤ msz J b d t ∧ msz J b d t ≤ zB (J 168 (b + t))
  | 0, t, ht, h1 => by have := (h.ar ht).2.2.1; omega
  | k + 1, t, ht, h1 => by
    have ha := h.ar ht
    rw [msz_un h ht]
    have hz := zB_rg (J 168 (b + t))
    have hs : ∀ i : Nat, (i : Int) < mar J b d t → 1 ≤ msz J b d (mag J b t i) ∧ 3 * msz J b d (mag J b t i) + 1 ≤ zB (J 168 (b + t)) := fun i hi => by
      have hb := h.arg ht (i := i) (by omega)
      have h8 : 0 ≤ mag J b t i ∧ mag J b t i < m := ⟨hb.1.1, by have := hb.1.2; show J 167 (3 * (b + t) + i) < m; omega⟩
      have h9 : J 168 (b + mag J b t i) < J 168 (b + t) := hb.2
      have h7 := msz_bd h k (mag J b t i) h8 (by omega)
      have h6 := (h.ar h8).2.2.1
      have := zB_step h9 h6.1 (by omega)
      omega
    have hc : mar J b d t = 0 ∨ mar J b d t = 1 ∨ mar J b d t = 2 ∨ mar J b d t = 3 := by omega
    have s0 := hs 0
    have s1 := hs 1
    have s2 := hs 2
    rcases hc with hc | hc | hc | hc <;> rw [hc] at s0 s1 s2 ⊢
    · show 1 ≤ (1 : Int) ∧ (1 : Int) ≤ _
      omega
    · show 1 ≤ (1 : Int) + msz J b d (mag J b t (0 : Nat)) ∧ (1 : Int) + msz J b d (mag J b t (0 : Nat)) ≤ _
      have := s0 (by decide)
      omega
    · show 1 ≤ (1 : Int) + msz J b d (mag J b t (0 : Nat)) + msz J b d (mag J b t (1 : Nat)) ∧ (1 : Int) + msz J b d (mag J b t (0 : Nat)) + msz J b d (mag J b t (1 : Nat)) ≤ _
      have := s0 (by decide)
      have := s1 (by decide)
      omega
    · show 1 ≤ (1 : Int) + msz J b d (mag J b t (0 : Nat)) + msz J b d (mag J b t (1 : Nat)) + msz J b d (mag J b t (2 : Nat)) ∧ (1 : Int) + msz J b d (mag J b t (0 : Nat)) + msz J b d (mag J b t (1 : Nat)) + msz J b d (mag J b t (2 : Nat)) ≤ _
      have := s0 (by decide)
      have := s1 (by decide)
      have := s2 (by decide)
      omega
theorem MS.sz {J : zJ} {b r d s m t : Int} (h : MS J b r d s m) (ht : 0 ≤ t ∧ t < m) : 1 ≤ msz J b d t ∧ msz J b d t ≤ 364 := by
  have h1 := (h.ar ht).2.2.1
  have h2 := msz_bd h 6 t ht (by omega)
  have h3 := zB_rg (J 168 (b + t))
  omega
theorem tps_s {J : zJ} {b d t i : Int} (hi : 0 ≤ i) : tps (msz J b d) (mag J b) t (i + 1).toNat = tps (msz J b d) (mag J b) t i.toNat + msz J b d (J 167 (3 * (b + t) + i)) := by
  have e : (i + 1).toNat = i.toNat + 1 := by omega
  rw [e]
  show _ + msz J b d (mag J b t (i.toNat : Int)) = _
  rw [Int.toNat_of_nonneg hi]
  rfl
theorem tps_bd {J : zJ} {b r d s m t : Int} (h : MS J b r d s m) (ht : 0 ≤ t ∧ t < m) : ∀ (i : Nat), (i : Int) ≤ mar J b d t → 1 ≤ tps (msz J b d) (mag J b) t i ∧ tps (msz J b d) (mag J b) t i ≤ 1 + 364 * i
  | 0, _ => by show 1 ≤ (1 : Int) ∧ (1 : Int) ≤ _; omega
  | i + 1, hi => by
    have h1 := tps_bd h ht i (by omega)
    have hb := h.arg ht (i := i) (by omega)
    have h2 := h.sz (t := mag J b t i) ⟨hb.1.1, by have := hb.1.2; show J 167 (3 * (b + t) + i) < m; omega⟩
    show 1 ≤ tps (msz J b d) (mag J b) t i + msz J b d (mag J b t i) ∧ tps (msz J b d) (mag J b) t i + msz J b d (mag J b t i) ≤ _
    omega
end
section
set_option maxHeartbeats 4000000 in
set_option maxRecDepth 100000 in
theorem m_sizeR {l : Launch} {G : tb_G} (hl : l.stackTraces = false) (n : Nat) : ∀ (r9 : Nat) (J : zJ) (t : Int) (hr_t : -2147483648 ≤ t ∧ t < 2147483648) (b r d s m : Int) (hM : MS J b r d s m) (ht : 0 ≤ t ∧ t < m), ((J 168 (b + t)).toNat) < r9 → tz_Ok l G M_X12_sizeOf (3 + 1 * r9) 0 0 [.ref 164, zi t] n J (zqi (fun z J' => J = J' ∧ msz J b d t = z)) zN := by
  intro r9
  induction r9 with
  | zero => intro J t hr_t b r d s m hM ht hm9; exact absurd hm9 (Nat.not_lt_zero _)
  | succ r9 ih =>
    intro J t hr_t b r d s m hM ht hm9
    refine tz_Ok.of hl (by decide +kernel) rfl (tb_c1 rfl) (Nat.le_of_ble_eq_true rfl) ?_
    show tz_At l G M_X12_sizeOf (tb_rm (3 + 1 * (r9 + 1)) 0 0) none (tb_ZM G 0 0 (zQ n 0 (zqi (fun z J' => J = J' ∧ msz J b d t = z))) (zX n 0 zN)) 0 0 n J 0 [some (.ref 164), some (zi t), none, none] []
    obtain ⟨hM1, hM2, hM3, hM4, hM5, hM6⟩ := id hM
    have hT := hM.told
    have ha := hM.ar ht
    have hz := hM.sz ht
    refine tz_iconst (pc := 0) dX12_sizeOf_0 ?_
    refine tz_istore_n (pc := 1) (L2 := [_, _, _, _]) dX12_sizeOf_1 rfl (by decide) rfl ?_
    refine tz_iconst (pc := 2) dX12_sizeOf_2 ?_
    refine tz_istore_n (pc := 3) (L2 := [_, _, _, _]) dX12_sizeOf_3 rfl (by decide) rfl ?_
    have loop4 : ∀ (f9 : Nat) (q : Int) (i : Int), ((3 - i).toNat) < f9 → (0 ≤ i ∧ i ≤ mar J b d t) → (q = tps (msz J b d) (mag J b) t i.toNat) → tz_At l G M_X12_sizeOf (tb_rm (3 + 1 * (r9 + 1)) 0 0) none (tb_ZM G 0 0 (zQ n 0 (zqi (fun z J' => J = J' ∧ msz J b d t = z))) (zX n 0 zN)) 0 0 n J 4 [some (.ref 164), some (zi t), some (zi q), some (zi i)] [] := by
      intro f9
      induction f9 with
      | zero => intro q i hm9; exact absurd hm9 (Nat.not_lt_zero _)
      | succ f9 ih4 =>
        intro q i hm4 hi hq
        have hb9 := tps_bd hM ht i.toNat (by omega)
        rw [← hq] at hb9
        refine tz_iload_n (pc := 4) dX12_sizeOf_4 rfl rfl ?_
        refine tz_aload_n (pc := 5) dX12_sizeOf_5 rfl rfl ?_
        refine tz_iload_n (pc := 6) dX12_sizeOf_6 rfl rfl ?_
        refine tz_cV (pc := 7) (m_arity hl n _ _ (by omega) b r d s m hM (by omega)) vl_X12_111 dX12_sizeOf_7 o_164 rfl rfl (Nat.le_of_ble_eq_true rfl) ⟨(show 2 + 1 ≤ 3 + 1 * (r9 + 1) by omega), (show 8 + (2 + 11) + 40 * (2) ≤ 40 * (3 + 1 * (r9 + 1)) by omega)⟩ rfl rfl (Nat.le_of_ble_eq_true rfl) (Nat.le_of_ble_eq_true rfl) (fun r9 J_7 hq9 => ?_)
        obtain ⟨z_7, rfl, hz_7, rfl, rfl⟩ := hq9
        refine tz_icmp_ge (pc := 10) (tgt := 32) dX12_sizeOf_10 (by decide) (by omega) (by omega) (fun h_10 => ?_) (fun h_10 => ?_)
        · refine tz_iload_n (pc := 32) dX12_sizeOf_32 rfl rfl ?_
          exact tz_iret (pc := 33) (z := q) dX12_sizeOf_33 rfl (Nat.le_of_ble_eq_true rfl) (Nat.le_of_ble_eq_true rfl) ⟨Nat.le_refl _, Nat.le_add_right _ _⟩ ⟨_, rfl, (by omega), ⟨rfl, by rw [msz_un hM ht, hq]; congr 1; omega⟩⟩
        · refine tz_iload_n (pc := 13) dX12_sizeOf_13 rfl rfl ?_
          refine tz_aload_n (pc := 14) dX12_sizeOf_14 rfl rfl ?_
          refine tz_aload_n (pc := 15) dX12_sizeOf_15 rfl rfl ?_
          refine tz_iload_n (pc := 16) dX12_sizeOf_16 rfl rfl ?_
          refine tz_iload_n (pc := 17) dX12_sizeOf_17 rfl rfl ?_
          refine tz_cV (pc := 18) (m_arg hl n _ _ _ (by omega) (by omega) b r d s m hM (by omega) (by omega)) vl_X12_88 dX12_sizeOf_18 o_164 rfl rfl (Nat.le_of_ble_eq_true rfl) ⟨(show 0 + 1 ≤ 3 + 1 * (r9 + 1) by omega), (show 8 + (3 + 11) + 40 * (0) ≤ 40 * (3 + 1 * (r9 + 1)) by omega)⟩ rfl rfl (Nat.le_of_ble_eq_true rfl) (Nat.le_of_ble_eq_true rfl) (fun r9 J_18 hq9 => ?_)
          obtain ⟨z_18, rfl, hz_18, rfl, rfl⟩ := hq9
          have hg := hM.arg (t := t) (i := i) ht (by omega)
          have hs := hM.sz (t := J 167 (3 * (b + t) + i)) (by omega)
          refine tz_cV (pc := 21) (ih _ _ (by omega) b r d s m hM (by omega) (by omega)) vl_X12_114 dX12_sizeOf_21 o_164 rfl rfl (Nat.le_of_ble_eq_true rfl) ⟨(show (3 + 1 * r9) + 1 ≤ 3 + 1 * (r9 + 1) by omega), (show 8 + (4 + 11) + 40 * ((3 + 1 * r9)) ≤ 40 * (3 + 1 * (r9 + 1)) by omega)⟩ rfl rfl (Nat.le_of_ble_eq_true rfl) (Nat.le_of_ble_eq_true rfl) (fun r9 J_21 hq9 => ?_)
          obtain ⟨z_21, rfl, hz_21, rfl, rfl⟩ := hq9
          refine tz_iadd (pc := 24) (v := q + (msz J b d (J 167 (3 * (b + t) + i)))) dX12_sizeOf_24 rfl ?_
          refine tz_istore_n (pc := 25) (L2 := [_, _, _, _]) dX12_sizeOf_25 rfl (by decide) rfl ?_
          refine tz_iinc (pc := 26) (z := i + 1) (L2 := [_, _, _, _]) dX12_sizeOf_26 rfl (by omega) rfl ?_
          refine tz_goto (pc := 29) (tgt := 4) dX12_sizeOf_29 (by decide) ?_
          exact ih4 _ (i + 1) (by omega) (by omega) (by rw [tps_s (by omega), hq])
    exact loop4 _ 1 0 (Nat.lt_succ_self _) (by omega) rfl

theorem m_size {l : Launch} {G : tb_G} (hl : l.stackTraces = false) (n : Nat) (J : zJ) (t : Int) (hr_t : -2147483648 ≤ t ∧ t < 2147483648) (b r d s m : Int) (hM : MS J b r d s m) (ht : 0 ≤ t ∧ t < m) : tz_Ok l G M_X12_sizeOf 10 0 0 [.ref 164, zi t] n J (zqi (fun z J' => J = J' ∧ msz J b d t = z)) zN := m_sizeR hl n 7 J t hr_t b r d s m hM ht (by have := (hM.ar ht).2.2.1; omega)
set_option maxHeartbeats 4000000 in
set_option maxRecDepth 100000 in
theorem m_weightR {l : Launch} {G : tb_G} (hl : l.stackTraces = false) (n : Nat) : ∀ (r9 : Nat) (J : zJ) (t : Int) (hr_t : -2147483648 ≤ t ∧ t < 2147483648) (b r d s m : Int) (hM : MS J b r d s m) (ht : 0 ≤ t ∧ t < m), ((J 168 (b + t)).toNat) < r9 → tz_Ok l G M_X12_weightOf (3 + 1 * r9) 0 0 [.ref 164, zi t] n J (zqi (fun z J' => J = J')) zN := by
  intro r9
  induction r9 with
  | zero => intro J t hr_t b r d s m hM ht hm9; exact absurd hm9 (Nat.not_lt_zero _)
  | succ r9 ih =>
    intro J t hr_t b r d s m hM ht hm9
    refine tz_Ok.of hl (by decide +kernel) rfl (tb_c1 rfl) (Nat.le_of_ble_eq_true rfl) ?_
    show tz_At l G M_X12_weightOf (tb_rm (3 + 1 * (r9 + 1)) 0 0) none (tb_ZM G 0 0 (zQ n 0 (zqi (fun z J' => J = J'))) (zX n 0 zN)) 0 0 n J 0 [some (.ref 164), some (zi t), none, none] []
    obtain ⟨hM1, hM2, hM3, hM4, hM5, hM6⟩ := id hM
    have hT := hM.told
    have ha := hM.ar ht
    refine tz_aload_n (pc := 0) dX12_weightOf_0 rfl rfl ?_
    refine tz_iload_n (pc := 1) dX12_weightOf_1 rfl rfl ?_
    refine tz_cV (pc := 2) (m_wHead hl n _ _ (by omega) b r d s m hM ht) vl_X12_117 dX12_weightOf_2 o_164 rfl rfl (Nat.le_of_ble_eq_true rfl) ⟨(show 2 + 1 ≤ 3 + 1 * (r9 + 1) by omega), (show 8 + (2 + 11) + 40 * (2) ≤ 40 * (3 + 1 * (r9 + 1)) by omega)⟩ rfl rfl (Nat.le_of_ble_eq_true rfl) (Nat.le_of_ble_eq_true rfl) (fun r9 J_2 hq9 => ?_)
    obtain ⟨z_2, rfl, hz_2, rfl⟩ := hq9
    refine tz_istore_n (pc := 5) (L2 := [_, _, _, _]) dX12_weightOf_5 rfl (by decide) rfl ?_
    refine tz_iconst (pc := 6) dX12_weightOf_6 ?_
    refine tz_istore_n (pc := 7) (L2 := [_, _, _, _]) dX12_weightOf_7 rfl (by decide) rfl ?_
    have loop8 : ∀ (f9 : Nat) (q : Int) (i : Int), ((3 - i).toNat) < f9 → (-2147483648 ≤ q ∧ q < 2147483648) → (0 ≤ i ∧ i ≤ mar J b d t) → tz_At l G M_X12_weightOf (tb_rm (3 + 1 * (r9 + 1)) 0 0) none (tb_ZM G 0 0 (zQ n 0 (zqi (fun z J' => J = J'))) (zX n 0 zN)) 0 0 n J 8 [some (.ref 164), some (zi t), some (zi q), some (zi i)] [] := by
      intro f9
      induction f9 with
      | zero => intro q i hm9; exact absurd hm9 (Nat.not_lt_zero _)
      | succ f9 ih8 =>
        intro q i hm8 hq hi
        refine tz_iload_n (pc := 8) dX12_weightOf_8 rfl rfl ?_
        refine tz_aload_n (pc := 9) dX12_weightOf_9 rfl rfl ?_
        refine tz_iload_n (pc := 10) dX12_weightOf_10 rfl rfl ?_
        refine tz_cV (pc := 11) (m_arity hl n _ _ (by omega) b r d s m hM (by omega)) vl_X12_111 dX12_weightOf_11 o_164 rfl rfl (Nat.le_of_ble_eq_true rfl) ⟨(show 2 + 1 ≤ 3 + 1 * (r9 + 1) by omega), (show 8 + (2 + 11) + 40 * (2) ≤ 40 * (3 + 1 * (r9 + 1)) by omega)⟩ rfl rfl (Nat.le_of_ble_eq_true rfl) (Nat.le_of_ble_eq_true rfl) (fun r9 J_11 hq9 => ?_)
        obtain ⟨z_11, rfl, hz_11, rfl, rfl⟩ := hq9
        refine tz_icmp_ge (pc := 14) (tgt := 36) dX12_weightOf_14 (by decide) (by omega) (by omega) (fun h_14 => ?_) (fun h_14 => ?_)
        · refine tz_iload_n (pc := 36) dX12_weightOf_36 rfl rfl ?_
          exact tz_iret (pc := 37) (z := q) dX12_weightOf_37 rfl (Nat.le_of_ble_eq_true rfl) (Nat.le_of_ble_eq_true rfl) ⟨Nat.le_refl _, Nat.le_add_right _ _⟩ ⟨_, rfl, (by omega), rfl⟩
        · refine tz_iload_n (pc := 17) dX12_weightOf_17 rfl rfl ?_
          refine tz_aload_n (pc := 18) dX12_weightOf_18 rfl rfl ?_
          refine tz_aload_n (pc := 19) dX12_weightOf_19 rfl rfl ?_
          refine tz_iload_n (pc := 20) dX12_weightOf_20 rfl rfl ?_
          refine tz_iload_n (pc := 21) dX12_weightOf_21 rfl rfl ?_
          refine tz_cV (pc := 22) (m_arg hl n _ _ _ (by omega) (by omega) b r d s m hM (by omega) (by omega)) vl_X12_88 dX12_weightOf_22 o_164 rfl rfl (Nat.le_of_ble_eq_true rfl) ⟨(show 0 + 1 ≤ 3 + 1 * (r9 + 1) by omega), (show 8 + (3 + 11) + 40 * (0) ≤ 40 * (3 + 1 * (r9 + 1)) by omega)⟩ rfl rfl (Nat.le_of_ble_eq_true rfl) (Nat.le_of_ble_eq_true rfl) (fun r9 J_22 hq9 => ?_)
          obtain ⟨z_22, rfl, hz_22, rfl, rfl⟩ := hq9
          have hg := hM.arg (t := t) (i := i) ht (by omega)
          refine tz_cV (pc := 25) (ih _ _ (by omega) b r d s m hM (by omega) (by omega)) vl_X12_120 dX12_weightOf_25 o_164 rfl rfl (Nat.le_of_ble_eq_true rfl) ⟨(show (3 + 1 * r9) + 1 ≤ 3 + 1 * (r9 + 1) by omega), (show 8 + (4 + 11) + 40 * ((3 + 1 * r9)) ≤ 40 * (3 + 1 * (r9 + 1)) by omega)⟩ rfl rfl (Nat.le_of_ble_eq_true rfl) (Nat.le_of_ble_eq_true rfl) (fun r9 J_25 hq9 => ?_)
          obtain ⟨z_25, rfl, hz_25, rfl⟩ := hq9
          refine tz_iadd (pc := 28) (v := q + z_25) dX12_weightOf_28 rfl ?_
          refine tz_tw ?_
          have rw_29 := zw_rg (q + z_25)
          refine tz_istore_n (pc := 29) (L2 := [_, _, _, _]) dX12_weightOf_29 rfl (by decide) rfl ?_
          refine tz_iinc (pc := 30) (z := i + 1) (L2 := [_, _, _, _]) dX12_weightOf_30 rfl (by omega) rfl ?_
          refine tz_goto (pc := 33) (tgt := 8) dX12_weightOf_33 (by decide) ?_
          exact ih8 _ (i + 1) (by omega) (by omega) (by omega)
    exact loop8 _ _ 0 (Nat.lt_succ_self _) (by omega) (by omega)

theorem m_weight {l : Launch} {G : tb_G} (hl : l.stackTraces = false) (n : Nat) (J : zJ) (t : Int)  (hr_t : -2147483648 ≤ t ∧ t < 2147483648) (b r d s m : Int) (hM : MS J b r d s m) (ht : 0 ≤ t ∧ t < m) : tz_Ok l G M_X12_weightOf 10 0 0 [.ref 164, zi t] n J (zqi (fun z J' => J = J')) zN := m_weightR hl n 7 J t hr_t b r d s m hM ht (by have := (hM.ar ht).2.2.1; omega)
set_option maxHeartbeats 4000000 in
set_option maxRecDepth 100000 in
theorem m_varsR {l : Launch} {G : tb_G} (hl : l.stackTraces = false) (n : Nat) : ∀ (r9 : Nat) (J : zJ) (t : Int) (hr_t : -2147483648 ≤ t ∧ t < 2147483648) (b r d s m : Int) (hM : MS J b r d s m) (ht : 0 ≤ t ∧ t < m), ((J 168 (b + t)).toNat) < r9 → tz_Ok l G M_X12_variablesIn (3 + 1 * r9) 0 0 [.ref 164, zi t] n J (zqi (fun z J' => J = J')) zN := by
  intro r9
  induction r9 with
  | zero => intro J t hr_t b r d s m hM ht hm9; exact absurd hm9 (Nat.not_lt_zero _)
  | succ r9 ih =>
    intro J t hr_t b r d s m hM ht hm9
    refine tz_Ok.of hl (by decide +kernel) rfl (tb_c1 rfl) (Nat.le_of_ble_eq_true rfl) ?_
    show tz_At l G M_X12_variablesIn (tb_rm (3 + 1 * (r9 + 1)) 0 0) none (tb_ZM G 0 0 (zQ n 0 (zqi (fun z J' => J = J'))) (zX n 0 zN)) 0 0 n J 0 [some (.ref 164), some (zi t), none, none] []
    obtain ⟨hM1, hM2, hM3, hM4, hM5, hM6⟩ := id hM
    have hT := hM.told
    have ha := hM.ar ht
    refine tz_aload_n (pc := 0) dX12_variablesIn_0 rfl rfl ?_
    refine tz_iload_n (pc := 1) dX12_variablesIn_1 rfl rfl ?_
    refine tz_cV (pc := 2) (m_isVar hl n _ _ (by omega) b r d s m hM (by omega)) vl_X12_78 dX12_variablesIn_2 o_164 rfl rfl (Nat.le_of_ble_eq_true rfl) ⟨(show 1 + 1 ≤ 3 + 1 * (r9 + 1) by omega), (show 8 + (2 + 11) + 40 * (1) ≤ 40 * (3 + 1 * (r9 + 1)) by omega)⟩ rfl rfl (Nat.le_of_ble_eq_true rfl) (Nat.le_of_ble_eq_true rfl) (fun r9 J_2 hq9 => ?_)
    obtain ⟨z_2, rfl, hz_2, rfl, rfl⟩ := hq9
    by_cases hw_5 : J 166 (b + t) < 0
    · rw [show (if J 166 (b + t) < 0 then 1 else 0 : Int) = 1 from if_pos hw_5]
      refine tz_if_eqF (pc := 5) (tgt := 18) (by decide) dX12_variablesIn_5 (by decide) (by decide) ?_
      refine tz_iconst (pc := 8) dX12_variablesIn_8 ?_
      refine tz_aload_n (pc := 9) dX12_variablesIn_9 rfl rfl ?_
      refine tz_iload_n (pc := 10) dX12_variablesIn_10 rfl rfl ?_
      refine tz_cV (pc := 11) (m_varOf hl n _ _ (by omega) b r d s m hM (by omega)) vl_X12_123 dX12_variablesIn_11 o_164 rfl rfl (Nat.le_of_ble_eq_true rfl) ⟨(show 1 + 1 ≤ 3 + 1 * (r9 + 1) by omega), (show 8 + (2 + 11) + 40 * (1) ≤ 40 * (3 + 1 * (r9 + 1)) by omega)⟩ rfl rfl (Nat.le_of_ble_eq_true rfl) (Nat.le_of_ble_eq_true rfl) (fun r9 J_11 hq9 => ?_)
      obtain ⟨z_11, rfl, hz_11, rfl, rfl⟩ := hq9
      refine tz_ishl (pc := 14) (v := zshl 1 (-1 - J 166 (b + t))) dX12_variablesIn_14 rfl ?_
      have r_14 := zshl_rg 1 (-1 - J 166 (b + t))
      refine tz_goto (pc := 15) (tgt := 19) dX12_variablesIn_15 (by decide) ?_
      refine tz_istore_n (pc := 19) (L2 := [_, _, _, _]) dX12_variablesIn_19 rfl (by decide) rfl ?_
      refine tz_iconst (pc := 20) dX12_variablesIn_20 ?_
      refine tz_istore_n (pc := 21) (L2 := [_, _, _, _]) dX12_variablesIn_21 rfl (by decide) rfl ?_
      have loop22 : ∀ (f9 : Nat) (q : Int) (i : Int), ((3 - i).toNat) < f9 → (-2147483648 ≤ q ∧ q < 2147483648) → (0 ≤ i ∧ i ≤ mar J b d t) → tz_At l G M_X12_variablesIn (tb_rm (3 + 1 * (r9 + 1)) 0 0) none (tb_ZM G 0 0 (zQ n 0 (zqi (fun z J' => J = J'))) (zX n 0 zN)) 0 0 n J 22 [some (.ref 164), some (zi t), some (zi q), some (zi i)] [] := by
        intro f9
        induction f9 with
        | zero => intro q i hm9; exact absurd hm9 (Nat.not_lt_zero _)
        | succ f9 ih22 =>
          intro q i hm22 hq hi
          refine tz_iload_n (pc := 22) dX12_variablesIn_22 rfl rfl ?_
          refine tz_aload_n (pc := 23) dX12_variablesIn_23 rfl rfl ?_
          refine tz_iload_n (pc := 24) dX12_variablesIn_24 rfl rfl ?_
          refine tz_cV (pc := 25) (m_arity hl n _ _ (by omega) b r d s m hM (by omega)) vl_X12_111 dX12_variablesIn_25 o_164 rfl rfl (Nat.le_of_ble_eq_true rfl) ⟨(show 2 + 1 ≤ 3 + 1 * (r9 + 1) by omega), (show 8 + (2 + 11) + 40 * (2) ≤ 40 * (3 + 1 * (r9 + 1)) by omega)⟩ rfl rfl (Nat.le_of_ble_eq_true rfl) (Nat.le_of_ble_eq_true rfl) (fun r9 J_25 hq9 => ?_)
          obtain ⟨z_25, rfl, hz_25, rfl, rfl⟩ := hq9
          refine tz_icmp_ge (pc := 28) (tgt := 50) dX12_variablesIn_28 (by decide) (by omega) (by omega) (fun h_28 => ?_) (fun h_28 => ?_)
          · refine tz_iload_n (pc := 50) dX12_variablesIn_50 rfl rfl ?_
            exact tz_iret (pc := 51) (z := q) dX12_variablesIn_51 rfl (Nat.le_of_ble_eq_true rfl) (Nat.le_of_ble_eq_true rfl) ⟨Nat.le_refl _, Nat.le_add_right _ _⟩ ⟨_, rfl, (by omega), rfl⟩
          · refine tz_iload_n (pc := 31) dX12_variablesIn_31 rfl rfl ?_
            refine tz_aload_n (pc := 32) dX12_variablesIn_32 rfl rfl ?_
            refine tz_aload_n (pc := 33) dX12_variablesIn_33 rfl rfl ?_
            refine tz_iload_n (pc := 34) dX12_variablesIn_34 rfl rfl ?_
            refine tz_iload_n (pc := 35) dX12_variablesIn_35 rfl rfl ?_
            refine tz_cV (pc := 36) (m_arg hl n _ _ _ (by omega) (by omega) b r d s m hM (by omega) (by omega)) vl_X12_88 dX12_variablesIn_36 o_164 rfl rfl (Nat.le_of_ble_eq_true rfl) ⟨(show 0 + 1 ≤ 3 + 1 * (r9 + 1) by omega), (show 8 + (3 + 11) + 40 * (0) ≤ 40 * (3 + 1 * (r9 + 1)) by omega)⟩ rfl rfl (Nat.le_of_ble_eq_true rfl) (Nat.le_of_ble_eq_true rfl) (fun r9 J_36 hq9 => ?_)
            obtain ⟨z_36, rfl, hz_36, rfl, rfl⟩ := hq9
            have hg := hM.arg (t := t) (i := i) ht (by omega)
            refine tz_cV (pc := 39) (ih _ _ (by omega) b r d s m hM (by omega) (by omega)) vl_X12_126 dX12_variablesIn_39 o_164 rfl rfl (Nat.le_of_ble_eq_true rfl) ⟨(show (3 + 1 * r9) + 1 ≤ 3 + 1 * (r9 + 1) by omega), (show 8 + (4 + 11) + 40 * ((3 + 1 * r9)) ≤ 40 * (3 + 1 * (r9 + 1)) by omega)⟩ rfl rfl (Nat.le_of_ble_eq_true rfl) (Nat.le_of_ble_eq_true rfl) (fun r9 J_39 hq9 => ?_)
            obtain ⟨z_39, rfl, hz_39, rfl⟩ := hq9
            refine tz_ior (pc := 42) (v := zor q z_39) dX12_variablesIn_42 rfl ?_
            have r_42 := zor_rg q z_39
            refine tz_istore_n (pc := 43) (L2 := [_, _, _, _]) dX12_variablesIn_43 rfl (by decide) rfl ?_
            refine tz_iinc (pc := 44) (z := i + 1) (L2 := [_, _, _, _]) dX12_variablesIn_44 rfl (by omega) rfl ?_
            refine tz_goto (pc := 47) (tgt := 22) dX12_variablesIn_47 (by decide) ?_
            exact ih22 _ (i + 1) (by omega) (by omega) (by omega)
      exact loop22 _ _ 0 (Nat.lt_succ_self _) (by first | exact zshl_rg _ _ | decide) (by omega)
    · rw [show (if J 166 (b + t) < 0 then 1 else 0 : Int) = 0 from if_neg hw_5]
      refine tz_if_eqT (pc := 5) (tgt := 18) (by decide) dX12_variablesIn_5 (by decide) (by decide) ?_
      refine tz_iconst (pc := 18) dX12_variablesIn_18 ?_
      refine tz_istore_n (pc := 19) (L2 := [_, _, _, _]) dX12_variablesIn_19 rfl (by decide) rfl ?_
      refine tz_iconst (pc := 20) dX12_variablesIn_20 ?_
      refine tz_istore_n (pc := 21) (L2 := [_, _, _, _]) dX12_variablesIn_21 rfl (by decide) rfl ?_
      have loop22 : ∀ (f9 : Nat) (q : Int) (i : Int), ((3 - i).toNat) < f9 → (-2147483648 ≤ q ∧ q < 2147483648) → (0 ≤ i ∧ i ≤ mar J b d t) → tz_At l G M_X12_variablesIn (tb_rm (3 + 1 * (r9 + 1)) 0 0) none (tb_ZM G 0 0 (zQ n 0 (zqi (fun z J' => J = J'))) (zX n 0 zN)) 0 0 n J 22 [some (.ref 164), some (zi t), some (zi q), some (zi i)] [] := by
        intro f9
        induction f9 with
        | zero => intro q i hm9; exact absurd hm9 (Nat.not_lt_zero _)
        | succ f9 ih22 =>
          intro q i hm22 hq hi
          refine tz_iload_n (pc := 22) dX12_variablesIn_22 rfl rfl ?_
          refine tz_aload_n (pc := 23) dX12_variablesIn_23 rfl rfl ?_
          refine tz_iload_n (pc := 24) dX12_variablesIn_24 rfl rfl ?_
          refine tz_cV (pc := 25) (m_arity hl n _ _ (by omega) b r d s m hM (by omega)) vl_X12_111 dX12_variablesIn_25 o_164 rfl rfl (Nat.le_of_ble_eq_true rfl) ⟨(show 2 + 1 ≤ 3 + 1 * (r9 + 1) by omega), (show 8 + (2 + 11) + 40 * (2) ≤ 40 * (3 + 1 * (r9 + 1)) by omega)⟩ rfl rfl (Nat.le_of_ble_eq_true rfl) (Nat.le_of_ble_eq_true rfl) (fun r9 J_25 hq9 => ?_)
          obtain ⟨z_25, rfl, hz_25, rfl, rfl⟩ := hq9
          refine tz_icmp_ge (pc := 28) (tgt := 50) dX12_variablesIn_28 (by decide) (by omega) (by omega) (fun h_28 => ?_) (fun h_28 => ?_)
          · refine tz_iload_n (pc := 50) dX12_variablesIn_50 rfl rfl ?_
            exact tz_iret (pc := 51) (z := q) dX12_variablesIn_51 rfl (Nat.le_of_ble_eq_true rfl) (Nat.le_of_ble_eq_true rfl) ⟨Nat.le_refl _, Nat.le_add_right _ _⟩ ⟨_, rfl, (by omega), rfl⟩
          · refine tz_iload_n (pc := 31) dX12_variablesIn_31 rfl rfl ?_
            refine tz_aload_n (pc := 32) dX12_variablesIn_32 rfl rfl ?_
            refine tz_aload_n (pc := 33) dX12_variablesIn_33 rfl rfl ?_
            refine tz_iload_n (pc := 34) dX12_variablesIn_34 rfl rfl ?_
            refine tz_iload_n (pc := 35) dX12_variablesIn_35 rfl rfl ?_
            refine tz_cV (pc := 36) (m_arg hl n _ _ _ (by omega) (by omega) b r d s m hM (by omega) (by omega)) vl_X12_88 dX12_variablesIn_36 o_164 rfl rfl (Nat.le_of_ble_eq_true rfl) ⟨(show 0 + 1 ≤ 3 + 1 * (r9 + 1) by omega), (show 8 + (3 + 11) + 40 * (0) ≤ 40 * (3 + 1 * (r9 + 1)) by omega)⟩ rfl rfl (Nat.le_of_ble_eq_true rfl) (Nat.le_of_ble_eq_true rfl) (fun r9 J_36 hq9 => ?_)
            obtain ⟨z_36, rfl, hz_36, rfl, rfl⟩ := hq9
            have hg := hM.arg (t := t) (i := i) ht (by omega)
            refine tz_cV (pc := 39) (ih _ _ (by omega) b r d s m hM (by omega) (by omega)) vl_X12_126 dX12_variablesIn_39 o_164 rfl rfl (Nat.le_of_ble_eq_true rfl) ⟨(show (3 + 1 * r9) + 1 ≤ 3 + 1 * (r9 + 1) by omega), (show 8 + (4 + 11) + 40 * ((3 + 1 * r9)) ≤ 40 * (3 + 1 * (r9 + 1)) by omega)⟩ rfl rfl (Nat.le_of_ble_eq_true rfl) (Nat.le_of_ble_eq_true rfl) (fun r9 J_39 hq9 => ?_)
            obtain ⟨z_39, rfl, hz_39, rfl⟩ := hq9
            refine tz_ior (pc := 42) (v := zor q z_39) dX12_variablesIn_42 rfl ?_
            have r_42 := zor_rg q z_39
            refine tz_istore_n (pc := 43) (L2 := [_, _, _, _]) dX12_variablesIn_43 rfl (by decide) rfl ?_
            refine tz_iinc (pc := 44) (z := i + 1) (L2 := [_, _, _, _]) dX12_variablesIn_44 rfl (by omega) rfl ?_
            refine tz_goto (pc := 47) (tgt := 22) dX12_variablesIn_47 (by decide) ?_
            exact ih22 _ (i + 1) (by omega) (by omega) (by omega)
      exact loop22 _ _ 0 (Nat.lt_succ_self _) (by first | exact zshl_rg _ _ | decide) (by omega)

theorem m_vars {l : Launch} {G : tb_G} (hl : l.stackTraces = false) (n : Nat) (J : zJ) (t : Int)  (hr_t : -2147483648 ≤ t ∧ t < 2147483648) (b r d s m : Int) (hM : MS J b r d s m) (ht : 0 ≤ t ∧ t < m) : tz_Ok l G M_X12_variablesIn 10 0 0 [.ref 164, zi t] n J (zqi (fun z J' => J = J')) zN := m_varsR hl n 7 J t hr_t b r d s m hM ht (by have := (hM.ar ht).2.2.1; omega)
set_option maxHeartbeats 4000000 in
set_option maxRecDepth 100000 in
theorem m_timesR {l : Launch} {G : tb_G} (hl : l.stackTraces = false) (n : Nat) : ∀ (r9 : Nat) (J : zJ) (t : Int) (v : Int) (hr_t : -2147483648 ≤ t ∧ t < 2147483648) (hr_v : -2147483648 ≤ v ∧ v < 2147483648) (b r d s m : Int) (hM : MS J b r d s m) (ht : 0 ≤ t ∧ t < m), ((J 168 (b + t)).toNat) < r9 → tz_Ok l G M_X12_timesOf (3 + 1 * r9) 0 0 [.ref 164, zi t, zi v] n J (zqi (fun z J' => J = J')) zN := by
  intro r9
  induction r9 with
  | zero => intro J t v hr_t hr_v b r d s m hM ht hm9; exact absurd hm9 (Nat.not_lt_zero _)
  | succ r9 ih =>
    intro J t v hr_t hr_v b r d s m hM ht hm9
    refine tz_Ok.of hl (by decide +kernel) rfl (tb_c1 rfl) (Nat.le_of_ble_eq_true rfl) ?_
    show tz_At l G M_X12_timesOf (tb_rm (3 + 1 * (r9 + 1)) 0 0) none (tb_ZM G 0 0 (zQ n 0 (zqi (fun z J' => J = J'))) (zX n 0 zN)) 0 0 n J 0 [some (.ref 164), some (zi t), some (zi v), none, none] []
    obtain ⟨hM1, hM2, hM3, hM4, hM5, hM6⟩ := id hM
    have hT := hM.told
    have ha := hM.ar ht
    refine tz_aload_n (pc := 0) dX12_timesOf_0 rfl rfl ?_
    refine tz_iload_n (pc := 1) dX12_timesOf_1 rfl rfl ?_
    refine tz_cV (pc := 2) (m_isVar hl n _ _ (by omega) b r d s m hM (by omega)) vl_X12_78 dX12_timesOf_2 o_164 rfl rfl (Nat.le_of_ble_eq_true rfl) ⟨(show 1 + 1 ≤ 3 + 1 * (r9 + 1) by omega), (show 8 + (2 + 11) + 40 * (1) ≤ 40 * (3 + 1 * (r9 + 1)) by omega)⟩ rfl rfl (Nat.le_of_ble_eq_true rfl) (Nat.le_of_ble_eq_true rfl) (fun r9 J_2 hq9 => ?_)
    obtain ⟨z_2, rfl, hz_2, rfl, rfl⟩ := hq9
    by_cases hw_5 : J 166 (b + t) < 0
    · rw [show (if J 166 (b + t) < 0 then 1 else 0 : Int) = 1 from if_pos hw_5]
      refine tz_if_eqF (pc := 5) (tgt := 21) (by decide) dX12_timesOf_5 (by decide) (by decide) ?_
      refine tz_aload_n (pc := 8) dX12_timesOf_8 rfl rfl ?_
      refine tz_iload_n (pc := 9) dX12_timesOf_9 rfl rfl ?_
      refine tz_cV (pc := 10) (m_varOf hl n _ _ (by omega) b r d s m hM (by omega)) vl_X12_123 dX12_timesOf_10 o_164 rfl rfl (Nat.le_of_ble_eq_true rfl) ⟨(show 1 + 1 ≤ 3 + 1 * (r9 + 1) by omega), (show 8 + (2 + 11) + 40 * (1) ≤ 40 * (3 + 1 * (r9 + 1)) by omega)⟩ rfl rfl (Nat.le_of_ble_eq_true rfl) (Nat.le_of_ble_eq_true rfl) (fun r9 J_10 hq9 => ?_)
      obtain ⟨z_10, rfl, hz_10, rfl, rfl⟩ := hq9
      refine tz_iload_n (pc := 13) dX12_timesOf_13 rfl rfl ?_
      refine tz_icmp_ne (pc := 14) (tgt := 21) dX12_timesOf_14 (by decide) (by omega) (by omega) (fun h_14 => ?_) (fun h_14 => ?_)
      · refine tz_iconst (pc := 21) dX12_timesOf_21 ?_
        refine tz_istore_n (pc := 22) (L2 := [_, _, _, _, _]) dX12_timesOf_22 rfl (by decide) rfl ?_
        refine tz_iconst (pc := 23) dX12_timesOf_23 ?_
        refine tz_istore (pc := 24) (L2 := [_, _, _, _, _]) dX12_timesOf_24 (by decide) rfl ?_
        have loop26 : ∀ (f9 : Nat) (q : Int) (i : Int), ((3 - i).toNat) < f9 → (-2147483648 ≤ q ∧ q < 2147483648) → (0 ≤ i ∧ i ≤ mar J b d t) → tz_At l G M_X12_timesOf (tb_rm (3 + 1 * (r9 + 1)) 0 0) none (tb_ZM G 0 0 (zQ n 0 (zqi (fun z J' => J = J'))) (zX n 0 zN)) 0 0 n J 26 [some (.ref 164), some (zi t), some (zi v), some (zi q), some (zi i)] [] := by
          intro f9
          induction f9 with
          | zero => intro q i hm9; exact absurd hm9 (Nat.not_lt_zero _)
          | succ f9 ih26 =>
            intro q i hm26 hq hi
            refine tz_iload (pc := 26) dX12_timesOf_26 rfl ?_
            refine tz_aload_n (pc := 28) dX12_timesOf_28 rfl rfl ?_
            refine tz_iload_n (pc := 29) dX12_timesOf_29 rfl rfl ?_
            refine tz_cV (pc := 30) (m_arity hl n _ _ (by omega) b r d s m hM (by omega)) vl_X12_111 dX12_timesOf_30 o_164 rfl rfl (Nat.le_of_ble_eq_true rfl) ⟨(show 2 + 1 ≤ 3 + 1 * (r9 + 1) by omega), (show 8 + (2 + 11) + 40 * (2) ≤ 40 * (3 + 1 * (r9 + 1)) by omega)⟩ rfl rfl (Nat.le_of_ble_eq_true rfl) (Nat.le_of_ble_eq_true rfl) (fun r9 J_30 hq9 => ?_)
            obtain ⟨z_30, rfl, hz_30, rfl, rfl⟩ := hq9
            refine tz_icmp_ge (pc := 33) (tgt := 57) dX12_timesOf_33 (by decide) (by omega) (by omega) (fun h_33 => ?_) (fun h_33 => ?_)
            · refine tz_iload_n (pc := 57) dX12_timesOf_57 rfl rfl ?_
              exact tz_iret (pc := 58) (z := q) dX12_timesOf_58 rfl (Nat.le_of_ble_eq_true rfl) (Nat.le_of_ble_eq_true rfl) ⟨Nat.le_refl _, Nat.le_add_right _ _⟩ ⟨_, rfl, (by omega), rfl⟩
            · refine tz_iload_n (pc := 36) dX12_timesOf_36 rfl rfl ?_
              refine tz_aload_n (pc := 37) dX12_timesOf_37 rfl rfl ?_
              refine tz_aload_n (pc := 38) dX12_timesOf_38 rfl rfl ?_
              refine tz_iload_n (pc := 39) dX12_timesOf_39 rfl rfl ?_
              refine tz_iload (pc := 40) dX12_timesOf_40 rfl ?_
              refine tz_cV (pc := 42) (m_arg hl n _ _ _ (by omega) (by omega) b r d s m hM (by omega) (by omega)) vl_X12_88 dX12_timesOf_42 o_164 rfl rfl (Nat.le_of_ble_eq_true rfl) ⟨(show 0 + 1 ≤ 3 + 1 * (r9 + 1) by omega), (show 8 + (3 + 11) + 40 * (0) ≤ 40 * (3 + 1 * (r9 + 1)) by omega)⟩ rfl rfl (Nat.le_of_ble_eq_true rfl) (Nat.le_of_ble_eq_true rfl) (fun r9 J_42 hq9 => ?_)
              obtain ⟨z_42, rfl, hz_42, rfl, rfl⟩ := hq9
              refine tz_iload_n (pc := 45) dX12_timesOf_45 rfl rfl ?_
              have hg := hM.arg (t := t) (i := i) ht (by omega)
              refine tz_cV (pc := 46) (ih _ _ _ (by omega) (by omega) b r d s m hM (by omega) (by omega)) vl_X12_129 dX12_timesOf_46 o_164 rfl rfl (Nat.le_of_ble_eq_true rfl) ⟨(show (3 + 1 * r9) + 1 ≤ 3 + 1 * (r9 + 1) by omega), (show 8 + (5 + 11) + 40 * ((3 + 1 * r9)) ≤ 40 * (3 + 1 * (r9 + 1)) by omega)⟩ rfl rfl (Nat.le_of_ble_eq_true rfl) (Nat.le_of_ble_eq_true rfl) (fun r9 J_46 hq9 => ?_)
              obtain ⟨z_46, rfl, hz_46, rfl⟩ := hq9
              refine tz_iadd (pc := 49) (v := q + z_46) dX12_timesOf_49 rfl ?_
              refine tz_tw ?_
              have rw_50 := zw_rg (q + z_46)
              refine tz_istore_n (pc := 50) (L2 := [_, _, _, _, _]) dX12_timesOf_50 rfl (by decide) rfl ?_
              refine tz_iinc (pc := 51) (z := i + 1) (L2 := [_, _, _, _, _]) dX12_timesOf_51 rfl (by omega) rfl ?_
              refine tz_goto (pc := 54) (tgt := 26) dX12_timesOf_54 (by decide) ?_
              exact ih26 _ (i + 1) (by omega) (by omega) (by omega)
        exact loop26 _ _ 0 (Nat.lt_succ_self _) (by decide) (by omega)
      · refine tz_iconst (pc := 17) dX12_timesOf_17 ?_
        refine tz_goto (pc := 18) (tgt := 22) dX12_timesOf_18 (by decide) ?_
        refine tz_istore_n (pc := 22) (L2 := [_, _, _, _, _]) dX12_timesOf_22 rfl (by decide) rfl ?_
        refine tz_iconst (pc := 23) dX12_timesOf_23 ?_
        refine tz_istore (pc := 24) (L2 := [_, _, _, _, _]) dX12_timesOf_24 (by decide) rfl ?_
        have loop26 : ∀ (f9 : Nat) (q : Int) (i : Int), ((3 - i).toNat) < f9 → (-2147483648 ≤ q ∧ q < 2147483648) → (0 ≤ i ∧ i ≤ mar J b d t) → tz_At l G M_X12_timesOf (tb_rm (3 + 1 * (r9 + 1)) 0 0) none (tb_ZM G 0 0 (zQ n 0 (zqi (fun z J' => J = J'))) (zX n 0 zN)) 0 0 n J 26 [some (.ref 164), some (zi t), some (zi v), some (zi q), some (zi i)] [] := by
          intro f9
          induction f9 with
          | zero => intro q i hm9; exact absurd hm9 (Nat.not_lt_zero _)
          | succ f9 ih26 =>
            intro q i hm26 hq hi
            refine tz_iload (pc := 26) dX12_timesOf_26 rfl ?_
            refine tz_aload_n (pc := 28) dX12_timesOf_28 rfl rfl ?_
            refine tz_iload_n (pc := 29) dX12_timesOf_29 rfl rfl ?_
            refine tz_cV (pc := 30) (m_arity hl n _ _ (by omega) b r d s m hM (by omega)) vl_X12_111 dX12_timesOf_30 o_164 rfl rfl (Nat.le_of_ble_eq_true rfl) ⟨(show 2 + 1 ≤ 3 + 1 * (r9 + 1) by omega), (show 8 + (2 + 11) + 40 * (2) ≤ 40 * (3 + 1 * (r9 + 1)) by omega)⟩ rfl rfl (Nat.le_of_ble_eq_true rfl) (Nat.le_of_ble_eq_true rfl) (fun r9 J_30 hq9 => ?_)
            obtain ⟨z_30, rfl, hz_30, rfl, rfl⟩ := hq9
            refine tz_icmp_ge (pc := 33) (tgt := 57) dX12_timesOf_33 (by decide) (by omega) (by omega) (fun h_33 => ?_) (fun h_33 => ?_)
            · refine tz_iload_n (pc := 57) dX12_timesOf_57 rfl rfl ?_
              exact tz_iret (pc := 58) (z := q) dX12_timesOf_58 rfl (Nat.le_of_ble_eq_true rfl) (Nat.le_of_ble_eq_true rfl) ⟨Nat.le_refl _, Nat.le_add_right _ _⟩ ⟨_, rfl, (by omega), rfl⟩
            · refine tz_iload_n (pc := 36) dX12_timesOf_36 rfl rfl ?_
              refine tz_aload_n (pc := 37) dX12_timesOf_37 rfl rfl ?_
              refine tz_aload_n (pc := 38) dX12_timesOf_38 rfl rfl ?_
              refine tz_iload_n (pc := 39) dX12_timesOf_39 rfl rfl ?_
              refine tz_iload (pc := 40) dX12_timesOf_40 rfl ?_
              refine tz_cV (pc := 42) (m_arg hl n _ _ _ (by omega) (by omega) b r d s m hM (by omega) (by omega)) vl_X12_88 dX12_timesOf_42 o_164 rfl rfl (Nat.le_of_ble_eq_true rfl) ⟨(show 0 + 1 ≤ 3 + 1 * (r9 + 1) by omega), (show 8 + (3 + 11) + 40 * (0) ≤ 40 * (3 + 1 * (r9 + 1)) by omega)⟩ rfl rfl (Nat.le_of_ble_eq_true rfl) (Nat.le_of_ble_eq_true rfl) (fun r9 J_42 hq9 => ?_)
              obtain ⟨z_42, rfl, hz_42, rfl, rfl⟩ := hq9
              refine tz_iload_n (pc := 45) dX12_timesOf_45 rfl rfl ?_
              have hg := hM.arg (t := t) (i := i) ht (by omega)
              refine tz_cV (pc := 46) (ih _ _ _ (by omega) (by omega) b r d s m hM (by omega) (by omega)) vl_X12_129 dX12_timesOf_46 o_164 rfl rfl (Nat.le_of_ble_eq_true rfl) ⟨(show (3 + 1 * r9) + 1 ≤ 3 + 1 * (r9 + 1) by omega), (show 8 + (5 + 11) + 40 * ((3 + 1 * r9)) ≤ 40 * (3 + 1 * (r9 + 1)) by omega)⟩ rfl rfl (Nat.le_of_ble_eq_true rfl) (Nat.le_of_ble_eq_true rfl) (fun r9 J_46 hq9 => ?_)
              obtain ⟨z_46, rfl, hz_46, rfl⟩ := hq9
              refine tz_iadd (pc := 49) (v := q + z_46) dX12_timesOf_49 rfl ?_
              refine tz_tw ?_
              have rw_50 := zw_rg (q + z_46)
              refine tz_istore_n (pc := 50) (L2 := [_, _, _, _, _]) dX12_timesOf_50 rfl (by decide) rfl ?_
              refine tz_iinc (pc := 51) (z := i + 1) (L2 := [_, _, _, _, _]) dX12_timesOf_51 rfl (by omega) rfl ?_
              refine tz_goto (pc := 54) (tgt := 26) dX12_timesOf_54 (by decide) ?_
              exact ih26 _ (i + 1) (by omega) (by omega) (by omega)
        exact loop26 _ _ 0 (Nat.lt_succ_self _) (by decide) (by omega)
    · rw [show (if J 166 (b + t) < 0 then 1 else 0 : Int) = 0 from if_neg hw_5]
      refine tz_if_eqT (pc := 5) (tgt := 21) (by decide) dX12_timesOf_5 (by decide) (by decide) ?_
      refine tz_iconst (pc := 21) dX12_timesOf_21 ?_
      refine tz_istore_n (pc := 22) (L2 := [_, _, _, _, _]) dX12_timesOf_22 rfl (by decide) rfl ?_
      refine tz_iconst (pc := 23) dX12_timesOf_23 ?_
      refine tz_istore (pc := 24) (L2 := [_, _, _, _, _]) dX12_timesOf_24 (by decide) rfl ?_
      have loop26 : ∀ (f9 : Nat) (q : Int) (i : Int), ((3 - i).toNat) < f9 → (-2147483648 ≤ q ∧ q < 2147483648) → (0 ≤ i ∧ i ≤ mar J b d t) → tz_At l G M_X12_timesOf (tb_rm (3 + 1 * (r9 + 1)) 0 0) none (tb_ZM G 0 0 (zQ n 0 (zqi (fun z J' => J = J'))) (zX n 0 zN)) 0 0 n J 26 [some (.ref 164), some (zi t), some (zi v), some (zi q), some (zi i)] [] := by
        intro f9
        induction f9 with
        | zero => intro q i hm9; exact absurd hm9 (Nat.not_lt_zero _)
        | succ f9 ih26 =>
          intro q i hm26 hq hi
          refine tz_iload (pc := 26) dX12_timesOf_26 rfl ?_
          refine tz_aload_n (pc := 28) dX12_timesOf_28 rfl rfl ?_
          refine tz_iload_n (pc := 29) dX12_timesOf_29 rfl rfl ?_
          refine tz_cV (pc := 30) (m_arity hl n _ _ (by omega) b r d s m hM (by omega)) vl_X12_111 dX12_timesOf_30 o_164 rfl rfl (Nat.le_of_ble_eq_true rfl) ⟨(show 2 + 1 ≤ 3 + 1 * (r9 + 1) by omega), (show 8 + (2 + 11) + 40 * (2) ≤ 40 * (3 + 1 * (r9 + 1)) by omega)⟩ rfl rfl (Nat.le_of_ble_eq_true rfl) (Nat.le_of_ble_eq_true rfl) (fun r9 J_30 hq9 => ?_)
          obtain ⟨z_30, rfl, hz_30, rfl, rfl⟩ := hq9
          refine tz_icmp_ge (pc := 33) (tgt := 57) dX12_timesOf_33 (by decide) (by omega) (by omega) (fun h_33 => ?_) (fun h_33 => ?_)
          · refine tz_iload_n (pc := 57) dX12_timesOf_57 rfl rfl ?_
            exact tz_iret (pc := 58) (z := q) dX12_timesOf_58 rfl (Nat.le_of_ble_eq_true rfl) (Nat.le_of_ble_eq_true rfl) ⟨Nat.le_refl _, Nat.le_add_right _ _⟩ ⟨_, rfl, (by omega), rfl⟩
          · refine tz_iload_n (pc := 36) dX12_timesOf_36 rfl rfl ?_
            refine tz_aload_n (pc := 37) dX12_timesOf_37 rfl rfl ?_
            refine tz_aload_n (pc := 38) dX12_timesOf_38 rfl rfl ?_
            refine tz_iload_n (pc := 39) dX12_timesOf_39 rfl rfl ?_
            refine tz_iload (pc := 40) dX12_timesOf_40 rfl ?_
            refine tz_cV (pc := 42) (m_arg hl n _ _ _ (by omega) (by omega) b r d s m hM (by omega) (by omega)) vl_X12_88 dX12_timesOf_42 o_164 rfl rfl (Nat.le_of_ble_eq_true rfl) ⟨(show 0 + 1 ≤ 3 + 1 * (r9 + 1) by omega), (show 8 + (3 + 11) + 40 * (0) ≤ 40 * (3 + 1 * (r9 + 1)) by omega)⟩ rfl rfl (Nat.le_of_ble_eq_true rfl) (Nat.le_of_ble_eq_true rfl) (fun r9 J_42 hq9 => ?_)
            obtain ⟨z_42, rfl, hz_42, rfl, rfl⟩ := hq9
            refine tz_iload_n (pc := 45) dX12_timesOf_45 rfl rfl ?_
            have hg := hM.arg (t := t) (i := i) ht (by omega)
            refine tz_cV (pc := 46) (ih _ _ _ (by omega) (by omega) b r d s m hM (by omega) (by omega)) vl_X12_129 dX12_timesOf_46 o_164 rfl rfl (Nat.le_of_ble_eq_true rfl) ⟨(show (3 + 1 * r9) + 1 ≤ 3 + 1 * (r9 + 1) by omega), (show 8 + (5 + 11) + 40 * ((3 + 1 * r9)) ≤ 40 * (3 + 1 * (r9 + 1)) by omega)⟩ rfl rfl (Nat.le_of_ble_eq_true rfl) (Nat.le_of_ble_eq_true rfl) (fun r9 J_46 hq9 => ?_)
            obtain ⟨z_46, rfl, hz_46, rfl⟩ := hq9
            refine tz_iadd (pc := 49) (v := q + z_46) dX12_timesOf_49 rfl ?_
            refine tz_tw ?_
            have rw_50 := zw_rg (q + z_46)
            refine tz_istore_n (pc := 50) (L2 := [_, _, _, _, _]) dX12_timesOf_50 rfl (by decide) rfl ?_
            refine tz_iinc (pc := 51) (z := i + 1) (L2 := [_, _, _, _, _]) dX12_timesOf_51 rfl (by omega) rfl ?_
            refine tz_goto (pc := 54) (tgt := 26) dX12_timesOf_54 (by decide) ?_
            exact ih26 _ (i + 1) (by omega) (by omega) (by omega)
      exact loop26 _ _ 0 (Nat.lt_succ_self _) (by decide) (by omega)

theorem m_times {l : Launch} {G : tb_G} (hl : l.stackTraces = false) (n : Nat) (J : zJ) (t : Int)  (v : Int)  (hr_t : -2147483648 ≤ t ∧ t < 2147483648) (hr_v : -2147483648 ≤ v ∧ v < 2147483648) (b r d s m : Int) (hM : MS J b r d s m) (ht : 0 ≤ t ∧ t < m) : tz_Ok l G M_X12_timesOf 10 0 0 [.ref 164, zi t, zi v] n J (zqi (fun z J' => J = J')) zN := m_timesR hl n 7 J t v hr_t hr_v b r d s m hM ht (by have := (hM.ar ht).2.2.1; omega)
set_option maxHeartbeats 4000000 in
set_option maxRecDepth 100000 in
theorem m_isInR {l : Launch} {G : tb_G} (hl : l.stackTraces = false) (n : Nat) : ∀ (r9 : Nat) (J : zJ) (x : Int) (t : Int) (hr_x : -2147483648 ≤ x ∧ x < 2147483648) (hr_t : -2147483648 ≤ t ∧ t < 2147483648) (b r d s m : Int) (hM : MS J b r d s m) (ht : 0 ≤ t ∧ t < m), ((J 168 (b + t)).toNat) < r9 → tz_Ok l G M_X12_isIn (3 + 1 * r9) 0 0 [.ref 164, zi x, zi t] n J (zqi (fun z J' => J = J' ∧ (z = 0 ∨ z = 1))) zN := by
  intro r9
  induction r9 with
  | zero => intro J x t hr_x hr_t b r d s m hM ht hm9; exact absurd hm9 (Nat.not_lt_zero _)
  | succ r9 ih =>
    intro J x t hr_x hr_t b r d s m hM ht hm9
    refine tz_Ok.of hl (by decide +kernel) rfl (tb_c1 rfl) (Nat.le_of_ble_eq_true rfl) ?_
    show tz_At l G M_X12_isIn (tb_rm (3 + 1 * (r9 + 1)) 0 0) none (tb_ZM G 0 0 (zQ n 0 (zqi (fun z J' => J = J' ∧ (z = 0 ∨ z = 1)))) (zX n 0 zN)) 0 0 n J 0 [some (.ref 164), some (zi x), some (zi t), none] []
    obtain ⟨hM1, hM2, hM3, hM4, hM5, hM6⟩ := id hM
    have hT := hM.told
    have ha := hM.ar ht
    refine tz_iload_n (pc := 0) dX12_isIn_0 rfl rfl ?_
    refine tz_iload_n (pc := 1) dX12_isIn_1 rfl rfl ?_
    refine tz_icmp_ne (pc := 2) (tgt := 7) dX12_isIn_2 (by decide) (by omega) (by omega) (fun h_2 => ?_) (fun h_2 => ?_)
    · refine tz_iconst (pc := 7) dX12_isIn_7 ?_
      refine tz_istore_n (pc := 8) (L2 := [_, _, _, _]) dX12_isIn_8 rfl (by decide) rfl ?_
      have loop9 : ∀ (f9 : Nat) (i : Int), ((3 - i).toNat) < f9 → (0 ≤ i ∧ i ≤ mar J b d t) → tz_At l G M_X12_isIn (tb_rm (3 + 1 * (r9 + 1)) 0 0) none (tb_ZM G 0 0 (zQ n 0 (zqi (fun z J' => J = J' ∧ (z = 0 ∨ z = 1)))) (zX n 0 zN)) 0 0 n J 9 [some (.ref 164), some (zi x), some (zi t), some (zi i)] [] := by
        intro f9
        induction f9 with
        | zero => intro i hm9; exact absurd hm9 (Nat.not_lt_zero _)
        | succ f9 ih9 =>
          intro i hm9 hi
          refine tz_iload_n (pc := 9) dX12_isIn_9 rfl rfl ?_
          refine tz_aload_n (pc := 10) dX12_isIn_10 rfl rfl ?_
          refine tz_iload_n (pc := 11) dX12_isIn_11 rfl rfl ?_
          refine tz_cV (pc := 12) (m_arity hl n _ _ (by omega) b r d s m hM (by omega)) vl_X12_111 dX12_isIn_12 o_164 rfl rfl (Nat.le_of_ble_eq_true rfl) ⟨(show 2 + 1 ≤ 3 + 1 * (r9 + 1) by omega), (show 8 + (2 + 11) + 40 * (2) ≤ 40 * (3 + 1 * (r9 + 1)) by omega)⟩ rfl rfl (Nat.le_of_ble_eq_true rfl) (Nat.le_of_ble_eq_true rfl) (fun r9 J_12 hq9 => ?_)
          obtain ⟨z_12, rfl, hz_12, rfl, rfl⟩ := hq9
          refine tz_icmp_ge (pc := 15) (tgt := 40) dX12_isIn_15 (by decide) (by omega) (by omega) (fun h_15 => ?_) (fun h_15 => ?_)
          · refine tz_iconst (pc := 40) dX12_isIn_40 ?_
            exact tz_zret (pc := 41) (z := 0) dX12_isIn_41 rfl (Or.inl rfl) (Nat.le_of_ble_eq_true rfl) (Nat.le_of_ble_eq_true rfl) ⟨Nat.le_refl _, Nat.le_add_right _ _⟩ ⟨_, rfl, (by decide), ⟨rfl, by omega⟩⟩
          · refine tz_aload_n (pc := 18) dX12_isIn_18 rfl rfl ?_
            refine tz_iload_n (pc := 19) dX12_isIn_19 rfl rfl ?_
            refine tz_aload_n (pc := 20) dX12_isIn_20 rfl rfl ?_
            refine tz_iload_n (pc := 21) dX12_isIn_21 rfl rfl ?_
            refine tz_iload_n (pc := 22) dX12_isIn_22 rfl rfl ?_
            refine tz_cV (pc := 23) (m_arg hl n _ _ _ (by omega) (by omega) b r d s m hM (by omega) (by omega)) vl_X12_88 dX12_isIn_23 o_164 rfl rfl (Nat.le_of_ble_eq_true rfl) ⟨(show 0 + 1 ≤ 3 + 1 * (r9 + 1) by omega), (show 8 + (3 + 11) + 40 * (0) ≤ 40 * (3 + 1 * (r9 + 1)) by omega)⟩ rfl rfl (Nat.le_of_ble_eq_true rfl) (Nat.le_of_ble_eq_true rfl) (fun r9 J_23 hq9 => ?_)
            obtain ⟨z_23, rfl, hz_23, rfl, rfl⟩ := hq9
            have hg := hM.arg (t := t) (i := i) ht (by omega)
            refine tz_cV (pc := 26) (ih _ _ _ (by omega) (by omega) b r d s m hM (by omega) (by omega)) vl_X12_132 dX12_isIn_26 o_164 rfl rfl (Nat.le_of_ble_eq_true rfl) ⟨(show (3 + 1 * r9) + 1 ≤ 3 + 1 * (r9 + 1) by omega), (show 8 + (4 + 11) + 40 * ((3 + 1 * r9)) ≤ 40 * (3 + 1 * (r9 + 1)) by omega)⟩ rfl rfl (Nat.le_of_ble_eq_true rfl) (Nat.le_of_ble_eq_true rfl) (fun r9 J_26 hq9 => ?_)
            obtain ⟨z_26, rfl, hz_26, rfl, hz1⟩ := hq9
            refine tz_if_eq (pc := 29) (tgt := 34) dX12_isIn_29 (by decide) (by omega) (fun h_29 => ?_) (fun h_29 => ?_)
            · refine tz_iinc (pc := 34) (z := i + 1) (L2 := [_, _, _, _]) dX12_isIn_34 rfl (by omega) rfl ?_
              refine tz_goto (pc := 37) (tgt := 9) dX12_isIn_37 (by decide) ?_
              exact ih9 (i + 1) (by omega) (by omega)
            · refine tz_iconst (pc := 32) dX12_isIn_32 ?_
              exact tz_zret (pc := 33) (z := 1) dX12_isIn_33 rfl (Or.inr rfl) (Nat.le_of_ble_eq_true rfl) (Nat.le_of_ble_eq_true rfl) ⟨Nat.le_refl _, Nat.le_add_right _ _⟩ ⟨_, rfl, (by decide), ⟨rfl, by omega⟩⟩
      exact loop9 _ 0 (Nat.lt_succ_self _) (by omega)
    · refine tz_iconst (pc := 5) dX12_isIn_5 ?_
      exact tz_zret (pc := 6) (z := 1) dX12_isIn_6 rfl (Or.inr rfl) (Nat.le_of_ble_eq_true rfl) (Nat.le_of_ble_eq_true rfl) ⟨Nat.le_refl _, Nat.le_add_right _ _⟩ ⟨_, rfl, (by decide), ⟨rfl, by omega⟩⟩

theorem m_isIn {l : Launch} {G : tb_G} (hl : l.stackTraces = false) (n : Nat) (J : zJ) (x : Int)  (t : Int)  (hr_x : -2147483648 ≤ x ∧ x < 2147483648) (hr_t : -2147483648 ≤ t ∧ t < 2147483648) (b r d s m : Int) (hM : MS J b r d s m) (ht : 0 ≤ t ∧ t < m) : tz_Ok l G M_X12_isIn 10 0 0 [.ref 164, zi x, zi t] n J (zqi (fun z J' => J = J' ∧ (z = 0 ∨ z = 1))) zN := m_isInR hl n 7 J x t hr_x hr_t b r d s m hM ht (by have := (hM.ar ht).2.2.1; omega)
set_option maxHeartbeats 4000000 in
set_option maxRecDepth 100000 in
theorem m_shapeR {l : Launch} {G : tb_G} (hl : l.stackTraces = false) (n : Nat) : ∀ (r9 : Nat) (J : zJ) (u : Int) (t : Int) (hr_u : -2147483648 ≤ u ∧ u < 2147483648) (hr_t : -2147483648 ≤ t ∧ t < 2147483648) (b r d s m : Int) (hM : MS J b r d s m) (hs : 0 ≤ u ∧ u < m) (ht : 0 ≤ t ∧ t < m), ((J 168 (b + u)).toNat) < r9 → tz_Ok l G M_X12_isShape (3 + 1 * r9) 0 0 [.ref 164, zi u, zi t] n J (zqi (fun z J' => J = J' ∧ (z = 0 ∨ z = 1))) zN := by
  intro r9
  induction r9 with
  | zero => intro J u t hr_u hr_t b r d s m hM hs ht hm9; exact absurd hm9 (Nat.not_lt_zero _)
  | succ r9 ih =>
    intro J u t hr_u hr_t b r d s m hM hs ht hm9
    refine tz_Ok.of hl (by decide +kernel) rfl (tb_c1 rfl) (Nat.le_of_ble_eq_true rfl) ?_
    show tz_At l G M_X12_isShape (tb_rm (3 + 1 * (r9 + 1)) 0 0) none (tb_ZM G 0 0 (zQ n 0 (zqi (fun z J' => J = J' ∧ (z = 0 ∨ z = 1)))) (zX n 0 zN)) 0 0 n J 0 [some (.ref 164), some (zi u), some (zi t), none] []
    obtain ⟨hM1, hM2, hM3, hM4, hM5, hM6⟩ := id hM
    have hT := hM.told
    have ha := hM.ar hs
    have hb := hM.ar ht
    refine tz_aload_n (pc := 0) dX12_isShape_0 rfl rfl ?_
    refine tz_iload_n (pc := 1) dX12_isShape_1 rfl rfl ?_
    refine tz_cV (pc := 2) (m_isVar hl n _ _ (by omega) b r d s m hM (by omega)) vl_X12_78 dX12_isShape_2 o_164 rfl rfl (Nat.le_of_ble_eq_true rfl) ⟨(show 1 + 1 ≤ 3 + 1 * (r9 + 1) by omega), (show 8 + (2 + 11) + 40 * (1) ≤ 40 * (3 + 1 * (r9 + 1)) by omega)⟩ rfl rfl (Nat.le_of_ble_eq_true rfl) (Nat.le_of_ble_eq_true rfl) (fun r9 J_2 hq9 => ?_)
    obtain ⟨z_2, rfl, hz_2, rfl, rfl⟩ := hq9
    by_cases hw_5 : J 166 (b + u) < 0
    · rw [show (if J 166 (b + u) < 0 then 1 else 0 : Int) = 1 from if_pos hw_5]
      refine tz_if_neT (pc := 5) (tgt := 16) (by decide) dX12_isShape_5 (by decide) (by decide) ?_
      refine tz_aload_n (pc := 16) dX12_isShape_16 rfl rfl ?_
      refine tz_iload_n (pc := 17) dX12_isShape_17 rfl rfl ?_
      refine tz_cV (pc := 18) (m_isVar hl n _ _ (by omega) b r d s m hM (by omega)) vl_X12_78 dX12_isShape_18 o_164 rfl rfl (Nat.le_of_ble_eq_true rfl) ⟨(show 1 + 1 ≤ 3 + 1 * (r9 + 1) by omega), (show 8 + (2 + 11) + 40 * (1) ≤ 40 * (3 + 1 * (r9 + 1)) by omega)⟩ rfl rfl (Nat.le_of_ble_eq_true rfl) (Nat.le_of_ble_eq_true rfl) (fun r9 J_18 hq9 => ?_)
      obtain ⟨z_18, rfl, hz_18, rfl, rfl⟩ := hq9
      by_cases hw_21 : J 166 (b + u) < 0
      · rw [show (if J 166 (b + u) < 0 then 1 else 0 : Int) = 1 from if_pos hw_21]
        refine tz_if_eqF (pc := 21) (tgt := 36) (by decide) dX12_isShape_21 (by decide) (by decide) ?_
        refine tz_aload_n (pc := 24) dX12_isShape_24 rfl rfl ?_
        refine tz_iload_n (pc := 25) dX12_isShape_25 rfl rfl ?_
        refine tz_cV (pc := 26) (m_isVar hl n _ _ (by omega) b r d s m hM (by omega)) vl_X12_78 dX12_isShape_26 o_164 rfl rfl (Nat.le_of_ble_eq_true rfl) ⟨(show 1 + 1 ≤ 3 + 1 * (r9 + 1) by omega), (show 8 + (2 + 11) + 40 * (1) ≤ 40 * (3 + 1 * (r9 + 1)) by omega)⟩ rfl rfl (Nat.le_of_ble_eq_true rfl) (Nat.le_of_ble_eq_true rfl) (fun r9 J_26 hq9 => ?_)
        obtain ⟨z_26, rfl, hz_26, rfl, rfl⟩ := hq9
        by_cases hw_29 : J 166 (b + t) < 0
        · rw [show (if J 166 (b + t) < 0 then 1 else 0 : Int) = 1 from if_pos hw_29]
          refine tz_if_eqF (pc := 29) (tgt := 36) (by decide) dX12_isShape_29 (by decide) (by decide) ?_
          refine tz_iconst (pc := 32) dX12_isShape_32 ?_
          refine tz_goto (pc := 33) (tgt := 37) dX12_isShape_33 (by decide) ?_
          exact tz_zret (pc := 37) (z := 1) dX12_isShape_37 rfl (Or.inr rfl) (Nat.le_of_ble_eq_true rfl) (Nat.le_of_ble_eq_true rfl) ⟨Nat.le_refl _, Nat.le_add_right _ _⟩ ⟨_, rfl, (by decide), ⟨rfl, by omega⟩⟩
        · rw [show (if J 166 (b + t) < 0 then 1 else 0 : Int) = 0 from if_neg hw_29]
          refine tz_if_eqT (pc := 29) (tgt := 36) (by decide) dX12_isShape_29 (by decide) (by decide) ?_
          refine tz_iconst (pc := 36) dX12_isShape_36 ?_
          exact tz_zret (pc := 37) (z := 0) dX12_isShape_37 rfl (Or.inl rfl) (Nat.le_of_ble_eq_true rfl) (Nat.le_of_ble_eq_true rfl) ⟨Nat.le_refl _, Nat.le_add_right _ _⟩ ⟨_, rfl, (by decide), ⟨rfl, by omega⟩⟩
      · rw [show (if J 166 (b + u) < 0 then 1 else 0 : Int) = 0 from if_neg hw_21]
        refine tz_if_eqT (pc := 21) (tgt := 36) (by decide) dX12_isShape_21 (by decide) (by decide) ?_
        refine tz_iconst (pc := 36) dX12_isShape_36 ?_
        exact tz_zret (pc := 37) (z := 0) dX12_isShape_37 rfl (Or.inl rfl) (Nat.le_of_ble_eq_true rfl) (Nat.le_of_ble_eq_true rfl) ⟨Nat.le_refl _, Nat.le_add_right _ _⟩ ⟨_, rfl, (by decide), ⟨rfl, by omega⟩⟩
    · rw [show (if J 166 (b + u) < 0 then 1 else 0 : Int) = 0 from if_neg hw_5]
      refine tz_if_neF (pc := 5) (tgt := 16) (by decide) dX12_isShape_5 (by decide) (by decide) ?_
      refine tz_aload_n (pc := 8) dX12_isShape_8 rfl rfl ?_
      refine tz_iload_n (pc := 9) dX12_isShape_9 rfl rfl ?_
      refine tz_cV (pc := 10) (m_isVar hl n _ _ (by omega) b r d s m hM (by omega)) vl_X12_78 dX12_isShape_10 o_164 rfl rfl (Nat.le_of_ble_eq_true rfl) ⟨(show 1 + 1 ≤ 3 + 1 * (r9 + 1) by omega), (show 8 + (2 + 11) + 40 * (1) ≤ 40 * (3 + 1 * (r9 + 1)) by omega)⟩ rfl rfl (Nat.le_of_ble_eq_true rfl) (Nat.le_of_ble_eq_true rfl) (fun r9 J_10 hq9 => ?_)
      obtain ⟨z_10, rfl, hz_10, rfl, rfl⟩ := hq9
      by_cases hw_13 : J 166 (b + t) < 0
      · rw [show (if J 166 (b + t) < 0 then 1 else 0 : Int) = 1 from if_pos hw_13]
        refine tz_if_eqF (pc := 13) (tgt := 38) (by decide) dX12_isShape_13 (by decide) (by decide) ?_
        refine tz_aload_n (pc := 16) dX12_isShape_16 rfl rfl ?_
        refine tz_iload_n (pc := 17) dX12_isShape_17 rfl rfl ?_
        refine tz_cV (pc := 18) (m_isVar hl n _ _ (by omega) b r d s m hM (by omega)) vl_X12_78 dX12_isShape_18 o_164 rfl rfl (Nat.le_of_ble_eq_true rfl) ⟨(show 1 + 1 ≤ 3 + 1 * (r9 + 1) by omega), (show 8 + (2 + 11) + 40 * (1) ≤ 40 * (3 + 1 * (r9 + 1)) by omega)⟩ rfl rfl (Nat.le_of_ble_eq_true rfl) (Nat.le_of_ble_eq_true rfl) (fun r9 J_18 hq9 => ?_)
        obtain ⟨z_18, rfl, hz_18, rfl, rfl⟩ := hq9
        by_cases hw_21 : J 166 (b + u) < 0
        · rw [show (if J 166 (b + u) < 0 then 1 else 0 : Int) = 1 from if_pos hw_21]
          refine tz_if_eqF (pc := 21) (tgt := 36) (by decide) dX12_isShape_21 (by decide) (by decide) ?_
          refine tz_aload_n (pc := 24) dX12_isShape_24 rfl rfl ?_
          refine tz_iload_n (pc := 25) dX12_isShape_25 rfl rfl ?_
          refine tz_cV (pc := 26) (m_isVar hl n _ _ (by omega) b r d s m hM (by omega)) vl_X12_78 dX12_isShape_26 o_164 rfl rfl (Nat.le_of_ble_eq_true rfl) ⟨(show 1 + 1 ≤ 3 + 1 * (r9 + 1) by omega), (show 8 + (2 + 11) + 40 * (1) ≤ 40 * (3 + 1 * (r9 + 1)) by omega)⟩ rfl rfl (Nat.le_of_ble_eq_true rfl) (Nat.le_of_ble_eq_true rfl) (fun r9 J_26 hq9 => ?_)
          obtain ⟨z_26, rfl, hz_26, rfl, rfl⟩ := hq9
          by_cases hw_29 : J 166 (b + t) < 0
          · rw [show (if J 166 (b + t) < 0 then 1 else 0 : Int) = 1 from if_pos hw_29]
            refine tz_if_eqF (pc := 29) (tgt := 36) (by decide) dX12_isShape_29 (by decide) (by decide) ?_
            refine tz_iconst (pc := 32) dX12_isShape_32 ?_
            refine tz_goto (pc := 33) (tgt := 37) dX12_isShape_33 (by decide) ?_
            exact tz_zret (pc := 37) (z := 1) dX12_isShape_37 rfl (Or.inr rfl) (Nat.le_of_ble_eq_true rfl) (Nat.le_of_ble_eq_true rfl) ⟨Nat.le_refl _, Nat.le_add_right _ _⟩ ⟨_, rfl, (by decide), ⟨rfl, by omega⟩⟩
          · rw [show (if J 166 (b + t) < 0 then 1 else 0 : Int) = 0 from if_neg hw_29]
            refine tz_if_eqT (pc := 29) (tgt := 36) (by decide) dX12_isShape_29 (by decide) (by decide) ?_
            refine tz_iconst (pc := 36) dX12_isShape_36 ?_
            exact tz_zret (pc := 37) (z := 0) dX12_isShape_37 rfl (Or.inl rfl) (Nat.le_of_ble_eq_true rfl) (Nat.le_of_ble_eq_true rfl) ⟨Nat.le_refl _, Nat.le_add_right _ _⟩ ⟨_, rfl, (by decide), ⟨rfl, by omega⟩⟩
        · rw [show (if J 166 (b + u) < 0 then 1 else 0 : Int) = 0 from if_neg hw_21]
          refine tz_if_eqT (pc := 21) (tgt := 36) (by decide) dX12_isShape_21 (by decide) (by decide) ?_
          refine tz_iconst (pc := 36) dX12_isShape_36 ?_
          exact tz_zret (pc := 37) (z := 0) dX12_isShape_37 rfl (Or.inl rfl) (Nat.le_of_ble_eq_true rfl) (Nat.le_of_ble_eq_true rfl) ⟨Nat.le_refl _, Nat.le_add_right _ _⟩ ⟨_, rfl, (by decide), ⟨rfl, by omega⟩⟩
      · rw [show (if J 166 (b + t) < 0 then 1 else 0 : Int) = 0 from if_neg hw_13]
        refine tz_if_eqT (pc := 13) (tgt := 38) (by decide) dX12_isShape_13 (by decide) (by decide) ?_
        refine tz_aload_n (pc := 38) dX12_isShape_38 rfl rfl ?_
        refine tz_iload_n (pc := 39) dX12_isShape_39 rfl rfl ?_
        refine tz_cV (pc := 40) (m_head hl n _ _ (by omega) b r d s m hM (by omega)) vl_X12_74 dX12_isShape_40 o_164 rfl rfl (Nat.le_of_ble_eq_true rfl) ⟨(show 0 + 1 ≤ 3 + 1 * (r9 + 1) by omega), (show 8 + (2 + 11) + 40 * (0) ≤ 40 * (3 + 1 * (r9 + 1)) by omega)⟩ rfl rfl (Nat.le_of_ble_eq_true rfl) (Nat.le_of_ble_eq_true rfl) (fun r9 J_40 hq9 => ?_)
        obtain ⟨z_40, rfl, hz_40, rfl, rfl⟩ := hq9
        refine tz_aload_n (pc := 43) dX12_isShape_43 rfl rfl ?_
        refine tz_iload_n (pc := 44) dX12_isShape_44 rfl rfl ?_
        refine tz_cV (pc := 45) (m_head hl n _ _ (by omega) b r d s m hM (by omega)) vl_X12_74 dX12_isShape_45 o_164 rfl rfl (Nat.le_of_ble_eq_true rfl) ⟨(show 0 + 1 ≤ 3 + 1 * (r9 + 1) by omega), (show 8 + (2 + 11) + 40 * (0) ≤ 40 * (3 + 1 * (r9 + 1)) by omega)⟩ rfl rfl (Nat.le_of_ble_eq_true rfl) (Nat.le_of_ble_eq_true rfl) (fun r9 J_45 hq9 => ?_)
        obtain ⟨z_45, rfl, hz_45, rfl, rfl⟩ := hq9
        refine tz_icmp_eq (pc := 48) (tgt := 53) dX12_isShape_48 (by decide) (by omega) (by omega) (fun h_48 => ?_) (fun h_48 => ?_)
        · refine tz_iconst (pc := 53) dX12_isShape_53 ?_
          refine tz_istore_n (pc := 54) (L2 := [_, _, _, _]) dX12_isShape_54 rfl (by decide) rfl ?_
          have loop55 : ∀ (f9 : Nat) (i : Int), ((3 - i).toNat) < f9 → (0 ≤ i ∧ i ≤ mar J b d u) → tz_At l G M_X12_isShape (tb_rm (3 + 1 * (r9 + 1)) 0 0) none (tb_ZM G 0 0 (zQ n 0 (zqi (fun z J' => J = J' ∧ (z = 0 ∨ z = 1)))) (zX n 0 zN)) 0 0 n J 55 [some (.ref 164), some (zi u), some (zi t), some (zi i)] [] := by
            intro f9
            induction f9 with
            | zero => intro i hm9; exact absurd hm9 (Nat.not_lt_zero _)
            | succ f9 ih55 =>
              intro i hm55 hi
              have he := MS.hd8 (J := J) (b := b) (d := d) (t := u) (u := t) (by omega)
              refine tz_iload_n (pc := 55) dX12_isShape_55 rfl rfl ?_
              refine tz_aload_n (pc := 56) dX12_isShape_56 rfl rfl ?_
              refine tz_iload_n (pc := 57) dX12_isShape_57 rfl rfl ?_
              refine tz_cV (pc := 58) (m_arity hl n _ _ (by omega) b r d s m hM (by omega)) vl_X12_111 dX12_isShape_58 o_164 rfl rfl (Nat.le_of_ble_eq_true rfl) ⟨(show 2 + 1 ≤ 3 + 1 * (r9 + 1) by omega), (show 8 + (2 + 11) + 40 * (2) ≤ 40 * (3 + 1 * (r9 + 1)) by omega)⟩ rfl rfl (Nat.le_of_ble_eq_true rfl) (Nat.le_of_ble_eq_true rfl) (fun r9 J_58 hq9 => ?_)
              obtain ⟨z_58, rfl, hz_58, rfl, rfl⟩ := hq9
              refine tz_icmp_ge (pc := 61) (tgt := 91) dX12_isShape_61 (by decide) (by omega) (by omega) (fun h_61 => ?_) (fun h_61 => ?_)
              · refine tz_iconst (pc := 91) dX12_isShape_91 ?_
                exact tz_zret (pc := 92) (z := 1) dX12_isShape_92 rfl (Or.inr rfl) (Nat.le_of_ble_eq_true rfl) (Nat.le_of_ble_eq_true rfl) ⟨Nat.le_refl _, Nat.le_add_right _ _⟩ ⟨_, rfl, (by decide), ⟨rfl, by omega⟩⟩
              · refine tz_aload_n (pc := 64) dX12_isShape_64 rfl rfl ?_
                refine tz_aload_n (pc := 65) dX12_isShape_65 rfl rfl ?_
                refine tz_iload_n (pc := 66) dX12_isShape_66 rfl rfl ?_
                refine tz_iload_n (pc := 67) dX12_isShape_67 rfl rfl ?_
                refine tz_cV (pc := 68) (m_arg hl n _ _ _ (by omega) (by omega) b r d s m hM (by omega) (by omega)) vl_X12_88 dX12_isShape_68 o_164 rfl rfl (Nat.le_of_ble_eq_true rfl) ⟨(show 0 + 1 ≤ 3 + 1 * (r9 + 1) by omega), (show 8 + (3 + 11) + 40 * (0) ≤ 40 * (3 + 1 * (r9 + 1)) by omega)⟩ rfl rfl (Nat.le_of_ble_eq_true rfl) (Nat.le_of_ble_eq_true rfl) (fun r9 J_68 hq9 => ?_)
                obtain ⟨z_68, rfl, hz_68, rfl, rfl⟩ := hq9
                refine tz_aload_n (pc := 71) dX12_isShape_71 rfl rfl ?_
                refine tz_iload_n (pc := 72) dX12_isShape_72 rfl rfl ?_
                refine tz_iload_n (pc := 73) dX12_isShape_73 rfl rfl ?_
                refine tz_cV (pc := 74) (m_arg hl n _ _ _ (by omega) (by omega) b r d s m hM (by omega) (by omega)) vl_X12_88 dX12_isShape_74 o_164 rfl rfl (Nat.le_of_ble_eq_true rfl) ⟨(show 0 + 1 ≤ 3 + 1 * (r9 + 1) by omega), (show 8 + (3 + 11) + 40 * (0) ≤ 40 * (3 + 1 * (r9 + 1)) by omega)⟩ rfl rfl (Nat.le_of_ble_eq_true rfl) (Nat.le_of_ble_eq_true rfl) (fun r9 J_74 hq9 => ?_)
                obtain ⟨z_74, rfl, hz_74, rfl, rfl⟩ := hq9
                have hg := hM.arg (t := u) (i := i) hs (by omega)
                have hg2 := hM.arg (t := t) (i := i) ht (by omega)
                refine tz_cV (pc := 77) (ih _ _ _ (by omega) (by omega) b r d s m hM (by omega) (by omega) (by omega)) vl_X12_136 dX12_isShape_77 o_164 rfl rfl (Nat.le_of_ble_eq_true rfl) ⟨(show (3 + 1 * r9) + 1 ≤ 3 + 1 * (r9 + 1) by omega), (show 8 + (4 + 11) + 40 * ((3 + 1 * r9)) ≤ 40 * (3 + 1 * (r9 + 1)) by omega)⟩ rfl rfl (Nat.le_of_ble_eq_true rfl) (Nat.le_of_ble_eq_true rfl) (fun r9 J_77 hq9 => ?_)
                obtain ⟨z_77, rfl, hz_77, rfl, hz1⟩ := hq9
                refine tz_if_ne (pc := 80) (tgt := 85) dX12_isShape_80 (by decide) (by omega) (fun h_80 => ?_) (fun h_80 => ?_)
                · refine tz_iinc (pc := 85) (z := i + 1) (L2 := [_, _, _, _]) dX12_isShape_85 rfl (by omega) rfl ?_
                  refine tz_goto (pc := 88) (tgt := 55) dX12_isShape_88 (by decide) ?_
                  exact ih55 (i + 1) (by omega) (by omega)
                · refine tz_iconst (pc := 83) dX12_isShape_83 ?_
                  exact tz_zret (pc := 84) (z := 0) dX12_isShape_84 rfl (Or.inl rfl) (Nat.le_of_ble_eq_true rfl) (Nat.le_of_ble_eq_true rfl) ⟨Nat.le_refl _, Nat.le_add_right _ _⟩ ⟨_, rfl, (by decide), ⟨rfl, by omega⟩⟩
          exact loop55 _ 0 (Nat.lt_succ_self _) (by omega)
        · refine tz_iconst (pc := 51) dX12_isShape_51 ?_
          exact tz_zret (pc := 52) (z := 0) dX12_isShape_52 rfl (Or.inl rfl) (Nat.le_of_ble_eq_true rfl) (Nat.le_of_ble_eq_true rfl) ⟨Nat.le_refl _, Nat.le_add_right _ _⟩ ⟨_, rfl, (by decide), ⟨rfl, by omega⟩⟩

theorem m_shape {l : Launch} {G : tb_G} (hl : l.stackTraces = false) (n : Nat) (J : zJ) (u : Int)  (t : Int)  (hr_u : -2147483648 ≤ u ∧ u < 2147483648) (hr_t : -2147483648 ≤ t ∧ t < 2147483648) (b r d s m : Int) (hM : MS J b r d s m) (hs : 0 ≤ u ∧ u < m) (ht : 0 ≤ t ∧ t < m) : tz_Ok l G M_X12_isShape 10 0 0 [.ref 164, zi u, zi t] n J (zqi (fun z J' => J = J' ∧ (z = 0 ∨ z = 1))) zN := m_shapeR hl n 7 J u t hr_u hr_t b r d s m hM hs ht (by have := (hM.ar hs).2.2.1; omega)
set_option maxHeartbeats 4000000 in
set_option maxRecDepth 100000 in
theorem m_shared {l : Launch} {G : tb_G} (hl : l.stackTraces = false) (n : Nat) (J : zJ) (t : Int) (hr_t : -2147483648 ≤ t ∧ t < 2147483648) (b r d s m : Int) (hM : MS J b r d s m) (ht : 0 ≤ t ∧ t < m) : tz_Ok l G M_X12_sharedOf 11 0 0 [.ref 164, zi t] n J (zqi (fun z J' => J = J')) zN := by
  refine tz_Ok.of hl (by decide +kernel) rfl (tb_c1 rfl) (Nat.le_of_ble_eq_true rfl) ?_
  show tz_At l G M_X12_sharedOf (tb_rm 11 0 0) none (tb_ZM G 0 0 (zQ n 0 (zqi (fun z J' => J = J'))) (zX n 0 zN)) 0 0 n J 0 [some (.ref 164), some (zi t), none, none] []
  obtain ⟨hM1, hM2, hM3, hM4, hM5, hM6⟩ := id hM
  have hT := hM.told
  refine tz_iconst (pc := 0) dX12_sharedOf_0 ?_
  refine tz_istore_n (pc := 1) (L2 := [_, _, _, _]) dX12_sharedOf_1 rfl (by decide) rfl ?_
  refine tz_iconst (pc := 2) dX12_sharedOf_2 ?_
  refine tz_istore_n (pc := 3) (L2 := [_, _, _, _]) dX12_sharedOf_3 rfl (by decide) rfl ?_
  have loop4 : ∀ (f9 : Nat) (q : Int) (i : Int), ((m - i).toNat) < f9 → ((0 ≤ i ∧ i ≤ m) ∧ 0 ≤ q ∧ q ≤ i) → tz_At l G M_X12_sharedOf (tb_rm 11 0 0) none (tb_ZM G 0 0 (zQ n 0 (zqi (fun z J' => J = J'))) (zX n 0 zN)) 0 0 n J 4 [some (.ref 164), some (zi t), some (zi q), some (zi i)] [] := by
    intro f9
    induction f9 with
    | zero => intro q i hm9; exact absurd hm9 (Nat.not_lt_zero _)
    | succ f9 ih4 =>
      intro q i hm4 hi
      refine tz_iload_n (pc := 4) dX12_sharedOf_4 rfl rfl ?_
      refine tz_aload_n (pc := 5) dX12_sharedOf_5 rfl rfl ?_
      refine tz_cV (pc := 6) (m_many hl n _ b r d s m hM) vl_X12_96 dX12_sharedOf_6 o_164 rfl rfl (Nat.le_of_ble_eq_true rfl) ⟨(Nat.le_of_ble_eq_true rfl), (Nat.le_of_ble_eq_true rfl)⟩ rfl rfl (Nat.le_of_ble_eq_true rfl) (Nat.le_of_ble_eq_true rfl) (fun r9 J_6 hq9 => ?_)
      obtain ⟨z_6, rfl, hz_6, rfl, rfl⟩ := hq9
      refine tz_icmp_ge (pc := 9) (tgt := 30) dX12_sharedOf_9 (by decide) (by omega) (by omega) (fun h_9 => ?_) (fun h_9 => ?_)
      · refine tz_iload_n (pc := 30) dX12_sharedOf_30 rfl rfl ?_
        exact tz_iret (pc := 31) (z := q) dX12_sharedOf_31 rfl (Nat.le_of_ble_eq_true rfl) (Nat.le_of_ble_eq_true rfl) ⟨Nat.le_refl _, Nat.le_add_right _ _⟩ ⟨_, rfl, (by omega), rfl⟩
      · refine tz_aload_n (pc := 12) dX12_sharedOf_12 rfl rfl ?_
        refine tz_iload_n (pc := 13) dX12_sharedOf_13 rfl rfl ?_
        refine tz_iload_n (pc := 14) dX12_sharedOf_14 rfl rfl ?_
        refine tz_cV (pc := 15) (m_isIn hl n _ _ _ (by omega) (by omega) b r d s m hM ht) vl_X12_132 dX12_sharedOf_15 o_164 rfl rfl (Nat.le_of_ble_eq_true rfl) ⟨(Nat.le_of_ble_eq_true rfl), (Nat.le_of_ble_eq_true rfl)⟩ rfl rfl (Nat.le_of_ble_eq_true rfl) (Nat.le_of_ble_eq_true rfl) (fun r9 J_15 hq9 => ?_)
        obtain ⟨z_15, rfl, hz_15, rfl, hz1⟩ := hq9
        refine tz_if_eq (pc := 18) (tgt := 24) dX12_sharedOf_18 (by decide) (by omega) (fun h_18 => ?_) (fun h_18 => ?_)
        · refine tz_iinc (pc := 24) (z := i + 1) (L2 := [_, _, _, _]) dX12_sharedOf_24 rfl (by omega) rfl ?_
          refine tz_goto (pc := 27) (tgt := 4) dX12_sharedOf_27 (by decide) ?_
          exact ih4 _ (i + 1) (by omega) (by omega)
        · refine tz_iinc (pc := 21) (z := q + 1) (L2 := [_, _, _, _]) dX12_sharedOf_21 rfl (by omega) rfl ?_
          refine tz_iinc (pc := 24) (z := i + 1) (L2 := [_, _, _, _]) dX12_sharedOf_24 rfl (by omega) rfl ?_
          refine tz_goto (pc := 27) (tgt := 4) dX12_sharedOf_27 (by decide) ?_
          exact ih4 _ (i + 1) (by omega) (by omega)
  exact loop4 _ 0 0 (Nat.lt_succ_self _) (by omega)

set_option maxHeartbeats 4000000 in
set_option maxRecDepth 100000 in
theorem m_shapes {l : Launch} {G : tb_G} (hl : l.stackTraces = false) (n : Nat) (J : zJ)   (b r d s m : Int) (hM : MS J b r d s m)  : tz_Ok l G M_X12_shapes 11 0 0 [.ref 164] n J (zqi (fun z J' => J = J')) zN := by
  refine tz_Ok.of hl (by decide +kernel) rfl (tb_c1 rfl) (Nat.le_of_ble_eq_true rfl) ?_
  show tz_At l G M_X12_shapes (tb_rm 11 0 0) none (tb_ZM G 0 0 (zQ n 0 (zqi (fun z J' => J = J'))) (zX n 0 zN)) 0 0 n J 0 [some (.ref 164), none, none, none, none] []
  obtain ⟨hM1, hM2, hM3, hM4, hM5, hM6⟩ := id hM
  have hT := hM.told
  refine tz_iconst (pc := 0) dX12_shapes_0 ?_
  refine tz_istore_n (pc := 1) (L2 := [_, _, _, _, _]) dX12_shapes_1 rfl (by decide) rfl ?_
  refine tz_iconst (pc := 2) dX12_shapes_2 ?_
  refine tz_istore_n (pc := 3) (L2 := [_, _, _, _, _]) dX12_shapes_3 rfl (by decide) rfl ?_
  have loop4 : ∀ (f9 : Nat) (q : Int) (i : Int) (d3 : Option Value) (d4 : Option Value), ((m - i).toNat) < f9 → ((0 ≤ i ∧ i ≤ m) ∧ 0 ≤ q ∧ q ≤ i) → tz_At l G M_X12_shapes (tb_rm 11 0 0) none (tb_ZM G 0 0 (zQ n 0 (zqi (fun z J' => J = J'))) (zX n 0 zN)) 0 0 n J 4 [some (.ref 164), some (zi q), some (zi i), d3, d4] [] := by
    intro f9
    induction f9 with
    | zero => intro q i d3 d4 hm9; exact absurd hm9 (Nat.not_lt_zero _)
    | succ f9 ih4 =>
      intro q i d3 d4 hm4 hi
      refine tz_iload_n (pc := 4) dX12_shapes_4 rfl rfl ?_
      refine tz_aload_n (pc := 5) dX12_shapes_5 rfl rfl ?_
      refine tz_cV (pc := 6) (m_many hl n _ b r d s m hM) vl_X12_96 dX12_shapes_6 o_164 rfl rfl (Nat.le_of_ble_eq_true rfl) ⟨(Nat.le_of_ble_eq_true rfl), (Nat.le_of_ble_eq_true rfl)⟩ rfl rfl (Nat.le_of_ble_eq_true rfl) (Nat.le_of_ble_eq_true rfl) (fun r9 J_6 hq9 => ?_)
      obtain ⟨z_6, rfl, hz_6, rfl, rfl⟩ := hq9
      refine tz_icmp_ge (pc := 9) (tgt := 67) dX12_shapes_9 (by decide) (by omega) (by omega) (fun h_9 => ?_) (fun h_9 => ?_)
      · refine tz_iload_n (pc := 67) dX12_shapes_67 rfl rfl ?_
        exact tz_iret (pc := 68) (z := q) dX12_shapes_68 rfl (Nat.le_of_ble_eq_true rfl) (Nat.le_of_ble_eq_true rfl) ⟨Nat.le_refl _, Nat.le_add_right _ _⟩ ⟨_, rfl, (by omega), rfl⟩
      · refine tz_iconst (pc := 12) dX12_shapes_12 ?_
        refine tz_istore_n (pc := 13) (L2 := [_, _, _, _, _]) dX12_shapes_13 rfl (by decide) rfl ?_
        refine tz_iconst (pc := 14) dX12_shapes_14 ?_
        refine tz_istore (pc := 15) (L2 := [_, _, _, _, _]) dX12_shapes_15 (by decide) rfl ?_
        have loop17 : ∀ (f9 : Nat) (p : Int) (k : Int), ((i - k).toNat) < f9 → ((p = 0 ∨ p = 1) ∧ 0 ≤ k ∧ k ≤ i) → tz_At l G M_X12_shapes (tb_rm 11 0 0) none (tb_ZM G 0 0 (zQ n 0 (zqi (fun z J' => J = J'))) (zX n 0 zN)) 0 0 n J 17 [some (.ref 164), some (zi q), some (zi i), some (zi p), some (zi k)] [] := by
          intro f9
          induction f9 with
          | zero => intro p k hm9; exact absurd hm9 (Nat.not_lt_zero _)
          | succ f9 ih17 =>
            intro p k hm17 hp
            refine tz_iload (pc := 17) dX12_shapes_17 rfl ?_
            refine tz_iload_n (pc := 19) dX12_shapes_19 rfl rfl ?_
            refine tz_icmp_ge (pc := 20) (tgt := 49) dX12_shapes_20 (by decide) (by omega) (by omega) (fun h_20 => ?_) (fun h_20 => ?_)
            · refine tz_iload_n (pc := 49) dX12_shapes_49 rfl rfl ?_
              refine tz_iload_n (pc := 50) dX12_shapes_50 rfl rfl ?_
              refine tz_if_eq (pc := 51) (tgt := 58) dX12_shapes_51 (by decide) (by omega) (fun h_51 => ?_) (fun h_51 => ?_)
              · refine tz_iconst (pc := 58) dX12_shapes_58 ?_
                refine tz_iadd (pc := 59) (v := q + 0) dX12_shapes_59 rfl ?_
                refine tz_istore_n (pc := 60) (L2 := [_, _, _, _, _]) dX12_shapes_60 rfl (by decide) rfl ?_
                refine tz_iinc (pc := 61) (z := i + 1) (L2 := [_, _, _, _, _]) dX12_shapes_61 rfl (by omega) rfl ?_
                refine tz_goto (pc := 64) (tgt := 4) dX12_shapes_64 (by decide) ?_
                exact ih4 _ (i + 1) _ _ (by omega) (by omega)
              · refine tz_iconst (pc := 54) dX12_shapes_54 ?_
                refine tz_goto (pc := 55) (tgt := 59) dX12_shapes_55 (by decide) ?_
                refine tz_iadd (pc := 59) (v := q + 1) dX12_shapes_59 rfl ?_
                refine tz_istore_n (pc := 60) (L2 := [_, _, _, _, _]) dX12_shapes_60 rfl (by decide) rfl ?_
                refine tz_iinc (pc := 61) (z := i + 1) (L2 := [_, _, _, _, _]) dX12_shapes_61 rfl (by omega) rfl ?_
                refine tz_goto (pc := 64) (tgt := 4) dX12_shapes_64 (by decide) ?_
                exact ih4 _ (i + 1) _ _ (by omega) (by omega)
            · refine tz_iload_n (pc := 23) dX12_shapes_23 rfl rfl ?_
              refine tz_if_eq (pc := 24) (tgt := 49) dX12_shapes_24 (by decide) (by omega) (fun h_24 => ?_) (fun h_24 => ?_)
              · refine tz_iload_n (pc := 49) dX12_shapes_49 rfl rfl ?_
                refine tz_iload_n (pc := 50) dX12_shapes_50 rfl rfl ?_
                refine tz_if_eq (pc := 51) (tgt := 58) dX12_shapes_51 (by decide) (by omega) (fun h_51 => ?_) (fun h_51 => ?_)
                · refine tz_iconst (pc := 58) dX12_shapes_58 ?_
                  refine tz_iadd (pc := 59) (v := q + 0) dX12_shapes_59 rfl ?_
                  refine tz_istore_n (pc := 60) (L2 := [_, _, _, _, _]) dX12_shapes_60 rfl (by decide) rfl ?_
                  refine tz_iinc (pc := 61) (z := i + 1) (L2 := [_, _, _, _, _]) dX12_shapes_61 rfl (by omega) rfl ?_
                  refine tz_goto (pc := 64) (tgt := 4) dX12_shapes_64 (by decide) ?_
                  exact ih4 _ (i + 1) _ _ (by omega) (by omega)
                · refine tz_iconst (pc := 54) dX12_shapes_54 ?_
                  refine tz_goto (pc := 55) (tgt := 59) dX12_shapes_55 (by decide) ?_
                  refine tz_iadd (pc := 59) (v := q + 1) dX12_shapes_59 rfl ?_
                  refine tz_istore_n (pc := 60) (L2 := [_, _, _, _, _]) dX12_shapes_60 rfl (by decide) rfl ?_
                  refine tz_iinc (pc := 61) (z := i + 1) (L2 := [_, _, _, _, _]) dX12_shapes_61 rfl (by omega) rfl ?_
                  refine tz_goto (pc := 64) (tgt := 4) dX12_shapes_64 (by decide) ?_
                  exact ih4 _ (i + 1) _ _ (by omega) (by omega)
              · refine tz_aload_n (pc := 27) dX12_shapes_27 rfl rfl ?_
                refine tz_iload (pc := 28) dX12_shapes_28 rfl ?_
                refine tz_iload_n (pc := 30) dX12_shapes_30 rfl rfl ?_
                refine tz_cV (pc := 31) (m_shape hl n _ _ _ (by omega) (by omega) b r d s m hM (by omega) (by omega)) vl_X12_136 dX12_shapes_31 o_164 rfl rfl (Nat.le_of_ble_eq_true rfl) ⟨(Nat.le_of_ble_eq_true rfl), (Nat.le_of_ble_eq_true rfl)⟩ rfl rfl (Nat.le_of_ble_eq_true rfl) (Nat.le_of_ble_eq_true rfl) (fun r9 J_31 hq9 => ?_)
                obtain ⟨z_31, rfl, hz_31, rfl, hz1⟩ := hq9
                refine tz_if_ne (pc := 34) (tgt := 41) dX12_shapes_34 (by decide) (by omega) (fun h_34 => ?_) (fun h_34 => ?_)
                · refine tz_iconst (pc := 41) dX12_shapes_41 ?_
                  refine tz_istore_n (pc := 42) (L2 := [_, _, _, _, _]) dX12_shapes_42 rfl (by decide) rfl ?_
                  refine tz_iinc (pc := 43) (z := k + 1) (L2 := [_, _, _, _, _]) dX12_shapes_43 rfl (by omega) rfl ?_
                  refine tz_goto (pc := 46) (tgt := 17) dX12_shapes_46 (by decide) ?_
                  exact ih17 _ (k + 1) (by omega) (by omega)
                · refine tz_iconst (pc := 37) dX12_shapes_37 ?_
                  refine tz_goto (pc := 38) (tgt := 42) dX12_shapes_38 (by decide) ?_
                  refine tz_istore_n (pc := 42) (L2 := [_, _, _, _, _]) dX12_shapes_42 rfl (by decide) rfl ?_
                  refine tz_iinc (pc := 43) (z := k + 1) (L2 := [_, _, _, _, _]) dX12_shapes_43 rfl (by omega) rfl ?_
                  refine tz_goto (pc := 46) (tgt := 17) dX12_shapes_46 (by decide) ?_
                  exact ih17 _ (k + 1) (by omega) (by omega)
        exact loop17 _ 1 0 (Nat.lt_succ_self _) (by omega)
  exact loop4 _ 0 0 none none (Nat.lt_succ_self _) (by omega)

set_option maxHeartbeats 4000000 in
set_option maxRecDepth 100000 in
theorem m_placeR {l : Launch} {G : tb_G} (hl : l.stackTraces = false) (n : Nat) : ∀ (r9 : Nat) (J : zJ) (t : Int) (p : Int) (hr_t : -2147483648 ≤ t ∧ t < 2147483648) (hr_p : -2147483648 ≤ p ∧ p < 2147483648) (b r d s m : Int) (hM : MS J b r d s m) (ht : 0 ≤ t ∧ t < m), ((J 168 (b + t)).toNat) < r9 → tz_Ok l G M_X12_placeOf (12 + 1 * r9) 0 0 [.ref 164, zi t, zi p] n J (zqi (fun z J' => J = J' ∧ (z = -1 ∨ (0 ≤ z ∧ z < m)) ∧ (0 ≤ p → p < msz J b d t → 0 ≤ z))) zN := by
  intro r9
  induction r9 with
  | zero => intro J t p hr_t hr_p b r d s m hM ht hm9; exact absurd hm9 (Nat.not_lt_zero _)
  | succ r9 ih =>
    intro J t p hr_t hr_p b r d s m hM ht hm9
    refine tz_Ok.of hl (by decide +kernel) rfl (tb_c1 rfl) (Nat.le_of_ble_eq_true rfl) ?_
    show tz_At l G M_X12_placeOf (tb_rm (12 + 1 * (r9 + 1)) 0 0) none (tb_ZM G 0 0 (zQ n 0 (zqi (fun z J' => J = J' ∧ (z = -1 ∨ (0 ≤ z ∧ z < m)) ∧ (0 ≤ p → p < msz J b d t → 0 ≤ z)))) (zX n 0 zN)) 0 0 n J 0 [some (.ref 164), some (zi t), some (zi p), none, none, none] []
    obtain ⟨hM1, hM2, hM3, hM4, hM5, hM6⟩ := id hM
    have hT := hM.told
    have ha := hM.ar ht
    have hz := hM.sz ht
    have hu := msz_un hM ht
    refine tz_iload_n (pc := 0) dX12_placeOf_0 rfl rfl ?_
    refine tz_if_ge (pc := 1) (tgt := 6) dX12_placeOf_1 (by decide) (by omega) (fun h_1 => ?_) (fun h_1 => ?_)
    · refine tz_iload_n (pc := 6) dX12_placeOf_6 rfl rfl ?_
      refine tz_if_ne (pc := 7) (tgt := 12) dX12_placeOf_7 (by decide) (by omega) (fun h_7 => ?_) (fun h_7 => ?_)
      · refine tz_iload_n (pc := 12) dX12_placeOf_12 rfl rfl ?_
        refine tz_iconst (pc := 13) dX12_placeOf_13 ?_
        refine tz_isub (pc := 14) (v := p - 1) dX12_placeOf_14 rfl ?_
        refine tz_istore_n (pc := 15) (L2 := [_, _, _, _, _, _]) dX12_placeOf_15 rfl (by decide) rfl ?_
        refine tz_iconst (pc := 16) dX12_placeOf_16 ?_
        refine tz_istore (pc := 17) (L2 := [_, _, _, _, _, _]) dX12_placeOf_17 (by decide) rfl ?_
        have loop19 : ∀ (f9 : Nat) (q : Int) (i : Int) (d5 : Option Value), ((3 - i).toNat) < f9 → ((0 ≤ i ∧ i ≤ mar J b d t) ∧ 0 ≤ q) → (q = p - tps (msz J b d) (mag J b) t i.toNat) → tz_At l G M_X12_placeOf (tb_rm (12 + 1 * (r9 + 1)) 0 0) none (tb_ZM G 0 0 (zQ n 0 (zqi (fun z J' => J = J' ∧ (z = -1 ∨ (0 ≤ z ∧ z < m)) ∧ (0 ≤ p → p < msz J b d t → 0 ≤ z)))) (zX n 0 zN)) 0 0 n J 19 [some (.ref 164), some (zi t), some (zi p), some (zi q), some (zi i), d5] [] := by
          intro f9
          induction f9 with
          | zero => intro q i d5 hm9; exact absurd hm9 (Nat.not_lt_zero _)
          | succ f9 ih19 =>
            intro q i d5 hm19 hi hq
            have hb9 := tps_bd hM ht i.toNat (by omega)
            refine tz_iload (pc := 19) dX12_placeOf_19 rfl ?_
            refine tz_aload_n (pc := 21) dX12_placeOf_21 rfl rfl ?_
            refine tz_iload_n (pc := 22) dX12_placeOf_22 rfl rfl ?_
            refine tz_cV (pc := 23) (m_arity hl n _ _ (by omega) b r d s m hM (by omega)) vl_X12_111 dX12_placeOf_23 o_164 rfl rfl (Nat.le_of_ble_eq_true rfl) ⟨(show 2 + 1 ≤ 12 + 1 * (r9 + 1) by omega), (show 8 + (2 + 11) + 40 * (2) ≤ 40 * (12 + 1 * (r9 + 1)) by omega)⟩ rfl rfl (Nat.le_of_ble_eq_true rfl) (Nat.le_of_ble_eq_true rfl) (fun r9 J_23 hq9 => ?_)
            obtain ⟨z_23, rfl, hz_23, rfl, rfl⟩ := hq9
            refine tz_icmp_ge (pc := 26) (tgt := 72) dX12_placeOf_26 (by decide) (by omega) (by omega) (fun h_26 => ?_) (fun h_26 => ?_)
            · refine tz_iconst (pc := 72) dX12_placeOf_72 ?_
              exact tz_iret (pc := 73) (z := (-1)) dX12_placeOf_73 rfl (Nat.le_of_ble_eq_true rfl) (Nat.le_of_ble_eq_true rfl) ⟨Nat.le_refl _, Nat.le_add_right _ _⟩ ⟨_, rfl, (by decide), (by first | exact ⟨rfl, hz1, fun _ _ => hz2 (by omega) (by omega)⟩ | exact ⟨rfl, by omega, fun _ _ => by omega⟩ | exact ⟨rfl, Or.inl rfl, fun _ w9 => by rw [hu, show (mar J b d t).toNat = i.toNat by omega] at w9; omega⟩)⟩
            · refine tz_aload_n (pc := 29) dX12_placeOf_29 rfl rfl ?_
              refine tz_aload_n (pc := 30) dX12_placeOf_30 rfl rfl ?_
              refine tz_iload_n (pc := 31) dX12_placeOf_31 rfl rfl ?_
              refine tz_iload (pc := 32) dX12_placeOf_32 rfl ?_
              refine tz_cV (pc := 34) (m_arg hl n _ _ _ (by omega) (by omega) b r d s m hM (by omega) (by omega)) vl_X12_88 dX12_placeOf_34 o_164 rfl rfl (Nat.le_of_ble_eq_true rfl) ⟨(show 0 + 1 ≤ 12 + 1 * (r9 + 1) by omega), (show 8 + (3 + 11) + 40 * (0) ≤ 40 * (12 + 1 * (r9 + 1)) by omega)⟩ rfl rfl (Nat.le_of_ble_eq_true rfl) (Nat.le_of_ble_eq_true rfl) (fun r9 J_34 hq9 => ?_)
              obtain ⟨z_34, rfl, hz_34, rfl, rfl⟩ := hq9
              have hg := hM.arg (t := t) (i := i) ht (by omega)
              have hs := hM.sz (t := J 167 (3 * (b + t) + i)) (by omega)
              refine tz_cV (pc := 37) (m_size hl n _ _ (by omega) b r d s m hM (by omega)) vl_X12_114 dX12_placeOf_37 o_164 rfl rfl (Nat.le_of_ble_eq_true rfl) ⟨(show 10 + 1 ≤ 12 + 1 * (r9 + 1) by omega), (show 8 + (4 + 11) + 40 * (10) ≤ 40 * (12 + 1 * (r9 + 1)) by omega)⟩ rfl rfl (Nat.le_of_ble_eq_true rfl) (Nat.le_of_ble_eq_true rfl) (fun r9 J_37 hq9 => ?_)
              obtain ⟨z_37, rfl, hz_37, rfl, rfl⟩ := hq9
              refine tz_istore (pc := 40) (L2 := [_, _, _, _, _, _]) dX12_placeOf_40 (by decide) rfl ?_
              refine tz_iload_n (pc := 42) dX12_placeOf_42 rfl rfl ?_
              refine tz_iload (pc := 43) dX12_placeOf_43 rfl ?_
              refine tz_icmp_ge (pc := 45) (tgt := 61) dX12_placeOf_45 (by decide) (by omega) (by omega) (fun h_45 => ?_) (fun h_45 => ?_)
              · refine tz_iload_n (pc := 61) dX12_placeOf_61 rfl rfl ?_
                refine tz_iload (pc := 62) dX12_placeOf_62 rfl ?_
                refine tz_isub (pc := 64) (v := q - (msz J b d (J 167 (3 * (b + t) + i)))) dX12_placeOf_64 rfl ?_
                refine tz_istore_n (pc := 65) (L2 := [_, _, _, _, _, _]) dX12_placeOf_65 rfl (by decide) rfl ?_
                refine tz_iinc (pc := 66) (z := i + 1) (L2 := [_, _, _, _, _, _]) dX12_placeOf_66 rfl (by omega) rfl ?_
                refine tz_goto (pc := 69) (tgt := 19) dX12_placeOf_69 (by decide) ?_
                exact ih19 _ (i + 1) _ (by omega) (by omega) (by rw [tps_s (by omega)]; omega)
              · refine tz_aload_n (pc := 48) dX12_placeOf_48 rfl rfl ?_
                refine tz_aload_n (pc := 49) dX12_placeOf_49 rfl rfl ?_
                refine tz_iload_n (pc := 50) dX12_placeOf_50 rfl rfl ?_
                refine tz_iload (pc := 51) dX12_placeOf_51 rfl ?_
                refine tz_cV (pc := 53) (m_arg hl n _ _ _ (by omega) (by omega) b r d s m hM (by omega) (by omega)) vl_X12_88 dX12_placeOf_53 o_164 rfl rfl (Nat.le_of_ble_eq_true rfl) ⟨(show 0 + 1 ≤ 12 + 1 * (r9 + 1) by omega), (show 8 + (3 + 11) + 40 * (0) ≤ 40 * (12 + 1 * (r9 + 1)) by omega)⟩ rfl rfl (Nat.le_of_ble_eq_true rfl) (Nat.le_of_ble_eq_true rfl) (fun r9 J_53 hq9 => ?_)
                obtain ⟨z_53, rfl, hz_53, rfl, rfl⟩ := hq9
                refine tz_iload_n (pc := 56) dX12_placeOf_56 rfl rfl ?_
                refine tz_cV (pc := 57) (ih _ _ _ (by omega) (by omega) b r d s m hM (by omega) (by omega)) vl_X12_139 dX12_placeOf_57 o_164 rfl rfl (Nat.le_of_ble_eq_true rfl) ⟨(show (12 + 1 * r9) + 1 ≤ 12 + 1 * (r9 + 1) by omega), (show 8 + (6 + 11) + 40 * ((12 + 1 * r9)) ≤ 40 * (12 + 1 * (r9 + 1)) by omega)⟩ rfl rfl (Nat.le_of_ble_eq_true rfl) (Nat.le_of_ble_eq_true rfl) (fun r9 J_57 hq9 => ?_)
                obtain ⟨z_57, rfl, hz_57, rfl, hz1, hz2⟩ := hq9
                exact tz_iret (pc := 60) (z := z_57) dX12_placeOf_60 rfl (Nat.le_of_ble_eq_true rfl) (Nat.le_of_ble_eq_true rfl) ⟨Nat.le_refl _, Nat.le_add_right _ _⟩ ⟨_, rfl, (by omega), (by first | exact ⟨rfl, hz1, fun _ _ => hz2 (by omega) (by omega)⟩ | exact ⟨rfl, by omega, fun _ _ => by omega⟩ | exact ⟨rfl, Or.inl rfl, fun _ w9 => by rw [hu, show (mar J b d t).toNat = i.toNat by omega] at w9; omega⟩)⟩
        exact loop19 _ _ 0 none (Nat.lt_succ_self _) (by omega) rfl
      · refine tz_iload_n (pc := 10) dX12_placeOf_10 rfl rfl ?_
        exact tz_iret (pc := 11) (z := t) dX12_placeOf_11 rfl (Nat.le_of_ble_eq_true rfl) (Nat.le_of_ble_eq_true rfl) ⟨Nat.le_refl _, Nat.le_add_right _ _⟩ ⟨_, rfl, (by omega), (by first | exact ⟨rfl, hz1, fun _ _ => hz2 (by omega) (by omega)⟩ | exact ⟨rfl, by omega, fun _ _ => by omega⟩ | exact ⟨rfl, Or.inl rfl, fun _ w9 => by rw [hu, show (mar J b d t).toNat = i.toNat by omega] at w9; omega⟩)⟩
    · refine tz_iconst (pc := 4) dX12_placeOf_4 ?_
      exact tz_iret (pc := 5) (z := (-1)) dX12_placeOf_5 rfl (Nat.le_of_ble_eq_true rfl) (Nat.le_of_ble_eq_true rfl) ⟨Nat.le_refl _, Nat.le_add_right _ _⟩ ⟨_, rfl, (by decide), (by first | exact ⟨rfl, hz1, fun _ _ => hz2 (by omega) (by omega)⟩ | exact ⟨rfl, by omega, fun _ _ => by omega⟩ | exact ⟨rfl, Or.inl rfl, fun _ w9 => by rw [hu, show (mar J b d t).toNat = i.toNat by omega] at w9; omega⟩)⟩

theorem m_place {l : Launch} {G : tb_G} (hl : l.stackTraces = false) (n : Nat) (J : zJ) (t : Int)  (p : Int)  (hr_t : -2147483648 ≤ t ∧ t < 2147483648) (hr_p : -2147483648 ≤ p ∧ p < 2147483648) (b r d s m : Int) (hM : MS J b r d s m) (ht : 0 ≤ t ∧ t < m) : tz_Ok l G M_X12_placeOf 19 0 0 [.ref 164, zi t, zi p] n J (zqi (fun z J' => J = J' ∧ (z = -1 ∨ (0 ≤ z ∧ z < m)) ∧ (0 ≤ p → p < msz J b d t → 0 ≤ z))) zN := m_placeR hl n 7 J t p hr_t hr_p b r d s m hM ht (by have := (hM.ar ht).2.2.1; omega)
set_option maxHeartbeats 4000000 in
set_option maxRecDepth 100000 in
theorem m_greaterR {l : Launch} {G : tb_G} (hl : l.stackTraces = false) (n : Nat) : ∀ (r9 : Nat) (J : zJ) (u : Int) (t : Int) (hr_u : -2147483648 ≤ u ∧ u < 2147483648) (hr_t : -2147483648 ≤ t ∧ t < 2147483648) (b r d s m : Int) (hM : MS J b r d s m) (hs : 0 ≤ u ∧ u < m) (ht : 0 ≤ t ∧ t < m), ((J 168 (b + u)).toNat) < r9 → tz_Ok l G M_X12_isGreater (12 + 1 * r9) 0 0 [.ref 164, zi u, zi t] n J (zqi (fun z J' => J = J' ∧ (z = 0 ∨ z = 1))) zN := by
  intro r9
  induction r9 with
  | zero => intro J u t hr_u hr_t b r d s m hM hs ht hm9; exact absurd hm9 (Nat.not_lt_zero _)
  | succ r9 ih =>
    intro J u t hr_u hr_t b r d s m hM hs ht hm9
    refine tz_Ok.of hl (by decide +kernel) rfl (tb_c1 rfl) (Nat.le_of_ble_eq_true rfl) ?_
    show tz_At l G M_X12_isGreater (tb_rm (12 + 1 * (r9 + 1)) 0 0) none (tb_ZM G 0 0 (zQ n 0 (zqi (fun z J' => J = J' ∧ (z = 0 ∨ z = 1)))) (zX n 0 zN)) 0 0 n J 0 [some (.ref 164), some (zi u), some (zi t), none, none] []
    obtain ⟨hM1, hM2, hM3, hM4, hM5, hM6⟩ := id hM
    have hT := hM.told
    have ha := hM.ar hs
    have hb := hM.ar ht
    refine tz_iload_n (pc := 0) dX12_isGreater_0 rfl rfl ?_
    refine tz_iload_n (pc := 1) dX12_isGreater_1 rfl rfl ?_
    refine tz_icmp_ne (pc := 2) (tgt := 7) dX12_isGreater_2 (by decide) (by omega) (by omega) (fun h_2 => ?_) (fun h_2 => ?_)
    · refine tz_iconst (pc := 7) dX12_isGreater_7 ?_
      refine tz_istore_n (pc := 8) (L2 := [_, _, _, _, _]) dX12_isGreater_8 rfl (by decide) rfl ?_
      have loop9 : ∀ (f9 : Nat) (v : Int), ((8 - v).toNat) < f9 → (0 ≤ v ∧ v ≤ 8) → tz_At l G M_X12_isGreater (tb_rm (12 + 1 * (r9 + 1)) 0 0) none (tb_ZM G 0 0 (zQ n 0 (zqi (fun z J' => J = J' ∧ (z = 0 ∨ z = 1)))) (zX n 0 zN)) 0 0 n J 9 [some (.ref 164), some (zi u), some (zi t), some (zi v), none] [] := by
        intro f9
        induction f9 with
        | zero => intro v hm9; exact absurd hm9 (Nat.not_lt_zero _)
        | succ f9 ih9 =>
          intro v hm9 hv
          refine tz_iload_n (pc := 9) dX12_isGreater_9 rfl rfl ?_
          refine tz_bipush (pc := 10) dX12_isGreater_10 (by decide) ?_
          refine tz_icmp_ge (pc := 12) (tgt := 38) dX12_isGreater_12 (by decide) (by omega) (by decide) (fun h_12 => ?_) (fun h_12 => ?_)
          · refine tz_aload_n (pc := 38) dX12_isGreater_38 rfl rfl ?_
            refine tz_iload_n (pc := 39) dX12_isGreater_39 rfl rfl ?_
            refine tz_cV (pc := 40) (m_weight hl n _ _ (by omega) b r d s m hM (by omega)) vl_X12_120 dX12_isGreater_40 o_164 rfl rfl (Nat.le_of_ble_eq_true rfl) ⟨(show 10 + 1 ≤ 12 + 1 * (r9 + 1) by omega), (show 8 + (4 + 11) + 40 * (10) ≤ 40 * (12 + 1 * (r9 + 1)) by omega)⟩ rfl rfl (Nat.le_of_ble_eq_true rfl) (Nat.le_of_ble_eq_true rfl) (fun r9 J_40 hq9 => ?_)
            obtain ⟨z_40, rfl, hz_40, rfl⟩ := hq9
            refine tz_aload_n (pc := 43) dX12_isGreater_43 rfl rfl ?_
            refine tz_iload_n (pc := 44) dX12_isGreater_44 rfl rfl ?_
            refine tz_cV (pc := 45) (m_weight hl n _ _ (by omega) b r d s m hM (by omega)) vl_X12_120 dX12_isGreater_45 o_164 rfl rfl (Nat.le_of_ble_eq_true rfl) ⟨(show 10 + 1 ≤ 12 + 1 * (r9 + 1) by omega), (show 8 + (4 + 11) + 40 * (10) ≤ 40 * (12 + 1 * (r9 + 1)) by omega)⟩ rfl rfl (Nat.le_of_ble_eq_true rfl) (Nat.le_of_ble_eq_true rfl) (fun r9 J_45 hq9 => ?_)
            obtain ⟨z_45, rfl, hz_45, rfl⟩ := hq9
            refine tz_isub (pc := 48) (v := z_40 - z_45) dX12_isGreater_48 rfl ?_
            refine tz_tw ?_
            have rw_49 := zw_rg (z_40 - z_45)
            refine tz_istore_n (pc := 49) (L2 := [_, _, _, _, _]) dX12_isGreater_49 rfl (by decide) rfl ?_
            refine tz_iload_n (pc := 50) dX12_isGreater_50 rfl rfl ?_
            refine tz_if_eq (pc := 51) (tgt := 64) dX12_isGreater_51 (by decide) (zw_rg _) (fun h_51 => ?_) (fun h_51 => ?_)
            · refine tz_aload_n (pc := 64) dX12_isGreater_64 rfl rfl ?_
              refine tz_iload_n (pc := 65) dX12_isGreater_65 rfl rfl ?_
              refine tz_cV (pc := 66) (m_isVar hl n _ _ (by omega) b r d s m hM (by omega)) vl_X12_78 dX12_isGreater_66 o_164 rfl rfl (Nat.le_of_ble_eq_true rfl) ⟨(show 1 + 1 ≤ 12 + 1 * (r9 + 1) by omega), (show 8 + (2 + 11) + 40 * (1) ≤ 40 * (12 + 1 * (r9 + 1)) by omega)⟩ rfl rfl (Nat.le_of_ble_eq_true rfl) (Nat.le_of_ble_eq_true rfl) (fun r9 J_66 hq9 => ?_)
              obtain ⟨z_66, rfl, hz_66, rfl, rfl⟩ := hq9
              by_cases hw_69 : J 166 (b + t) < 0
              · rw [show (if J 166 (b + t) < 0 then 1 else 0 : Int) = 1 from if_pos hw_69]
                refine tz_if_eqF (pc := 69) (tgt := 74) (by decide) dX12_isGreater_69 (by decide) (by decide) ?_
                refine tz_iconst (pc := 72) dX12_isGreater_72 ?_
                exact tz_zret (pc := 73) (z := 1) dX12_isGreater_73 rfl (Or.inr rfl) (Nat.le_of_ble_eq_true rfl) (Nat.le_of_ble_eq_true rfl) ⟨Nat.le_refl _, Nat.le_add_right _ _⟩ ⟨_, rfl, (by decide), ⟨rfl, by omega⟩⟩
              · rw [show (if J 166 (b + t) < 0 then 1 else 0 : Int) = 0 from if_neg hw_69]
                refine tz_if_eqT (pc := 69) (tgt := 74) (by decide) dX12_isGreater_69 (by decide) (by decide) ?_
                refine tz_aload_n (pc := 74) dX12_isGreater_74 rfl rfl ?_
                refine tz_iload_n (pc := 75) dX12_isGreater_75 rfl rfl ?_
                refine tz_cV (pc := 76) (m_isVar hl n _ _ (by omega) b r d s m hM (by omega)) vl_X12_78 dX12_isGreater_76 o_164 rfl rfl (Nat.le_of_ble_eq_true rfl) ⟨(show 1 + 1 ≤ 12 + 1 * (r9 + 1) by omega), (show 8 + (2 + 11) + 40 * (1) ≤ 40 * (12 + 1 * (r9 + 1)) by omega)⟩ rfl rfl (Nat.le_of_ble_eq_true rfl) (Nat.le_of_ble_eq_true rfl) (fun r9 J_76 hq9 => ?_)
                obtain ⟨z_76, rfl, hz_76, rfl, rfl⟩ := hq9
                by_cases hw_79 : J 166 (b + u) < 0
                · rw [show (if J 166 (b + u) < 0 then 1 else 0 : Int) = 1 from if_pos hw_79]
                  refine tz_if_eqF (pc := 79) (tgt := 84) (by decide) dX12_isGreater_79 (by decide) (by decide) ?_
                  refine tz_iconst (pc := 82) dX12_isGreater_82 ?_
                  exact tz_zret (pc := 83) (z := 0) dX12_isGreater_83 rfl (Or.inl rfl) (Nat.le_of_ble_eq_true rfl) (Nat.le_of_ble_eq_true rfl) ⟨Nat.le_refl _, Nat.le_add_right _ _⟩ ⟨_, rfl, (by decide), ⟨rfl, by omega⟩⟩
                · rw [show (if J 166 (b + u) < 0 then 1 else 0 : Int) = 0 from if_neg hw_79]
                  refine tz_if_eqT (pc := 79) (tgt := 84) (by decide) dX12_isGreater_79 (by decide) (by decide) ?_
                  refine tz_aload_n (pc := 84) dX12_isGreater_84 rfl rfl ?_
                  refine tz_iload_n (pc := 85) dX12_isGreater_85 rfl rfl ?_
                  refine tz_cV (pc := 86) (m_head hl n _ _ (by omega) b r d s m hM (by omega)) vl_X12_74 dX12_isGreater_86 o_164 rfl rfl (Nat.le_of_ble_eq_true rfl) ⟨(show 0 + 1 ≤ 12 + 1 * (r9 + 1) by omega), (show 8 + (2 + 11) + 40 * (0) ≤ 40 * (12 + 1 * (r9 + 1)) by omega)⟩ rfl rfl (Nat.le_of_ble_eq_true rfl) (Nat.le_of_ble_eq_true rfl) (fun r9 J_86 hq9 => ?_)
                  obtain ⟨z_86, rfl, hz_86, rfl, rfl⟩ := hq9
                  refine tz_aload_n (pc := 89) dX12_isGreater_89 rfl rfl ?_
                  refine tz_iload_n (pc := 90) dX12_isGreater_90 rfl rfl ?_
                  refine tz_cV (pc := 91) (m_head hl n _ _ (by omega) b r d s m hM (by omega)) vl_X12_74 dX12_isGreater_91 o_164 rfl rfl (Nat.le_of_ble_eq_true rfl) ⟨(show 0 + 1 ≤ 12 + 1 * (r9 + 1) by omega), (show 8 + (2 + 11) + 40 * (0) ≤ 40 * (12 + 1 * (r9 + 1)) by omega)⟩ rfl rfl (Nat.le_of_ble_eq_true rfl) (Nat.le_of_ble_eq_true rfl) (fun r9 J_91 hq9 => ?_)
                  obtain ⟨z_91, rfl, hz_91, rfl, rfl⟩ := hq9
                  refine tz_icmp_eq (pc := 94) (tgt := 116) dX12_isGreater_94 (by decide) (by omega) (by omega) (fun h_94 => ?_) (fun h_94 => ?_)
                  · obtain ⟨i0, hi0, hn0⟩ := hM.unl hs ht (by omega) (by omega)
                    have he := MS.hd8 (J := J) (b := b) (d := d) (t := u) (u := t) (by omega)
                    refine tz_iconst (pc := 116) dX12_isGreater_116 ?_
                    refine tz_istore (pc := 117) (L2 := [_, _, _, _, _]) dX12_isGreater_117 (by decide) rfl ?_
                    have loop119 : ∀ (f9 : Nat) (i : Int), ((3 - i).toNat) < f9 → (0 ≤ i) → (∀ q, 0 ≤ q → q < i → J 167 (3 * (b + u) + q) = J 167 (3 * (b + t) + q)) → tz_At l G M_X12_isGreater (tb_rm (12 + 1 * (r9 + 1)) 0 0) none (tb_ZM G 0 0 (zQ n 0 (zqi (fun z J' => J = J' ∧ (z = 0 ∨ z = 1)))) (zX n 0 zN)) 0 0 n J 119 [some (.ref 164), some (zi u), some (zi t), some (zi (zw (z_40 - z_45))), some (zi i)] [] := by
                      intro f9
                      induction f9 with
                      | zero => intro i hm9; exact absurd hm9 (Nat.not_lt_zero _)
                      | succ f9 ih119 =>
                        intro i hm119 hi hq
                        have hi9 : i ≤ i0 := Classical.byContradiction (fun e => hn0 (hq i0 hi0.1 (by omega)))
                        refine tz_aload_n (pc := 119) dX12_isGreater_119 rfl rfl ?_
                        refine tz_iload_n (pc := 120) dX12_isGreater_120 rfl rfl ?_
                        refine tz_iload (pc := 121) dX12_isGreater_121 rfl ?_
                        refine tz_cV (pc := 123) (m_arg hl n _ _ _ (by omega) (by omega) b r d s m hM (by omega) (by omega)) vl_X12_88 dX12_isGreater_123 o_164 rfl rfl (Nat.le_of_ble_eq_true rfl) ⟨(show 0 + 1 ≤ 12 + 1 * (r9 + 1) by omega), (show 8 + (3 + 11) + 40 * (0) ≤ 40 * (12 + 1 * (r9 + 1)) by omega)⟩ rfl rfl (Nat.le_of_ble_eq_true rfl) (Nat.le_of_ble_eq_true rfl) (fun r9 J_123 hq9 => ?_)
                        obtain ⟨z_123, rfl, hz_123, rfl, rfl⟩ := hq9
                        refine tz_aload_n (pc := 126) dX12_isGreater_126 rfl rfl ?_
                        refine tz_iload_n (pc := 127) dX12_isGreater_127 rfl rfl ?_
                        refine tz_iload (pc := 128) dX12_isGreater_128 rfl ?_
                        refine tz_cV (pc := 130) (m_arg hl n _ _ _ (by omega) (by omega) b r d s m hM (by omega) (by omega)) vl_X12_88 dX12_isGreater_130 o_164 rfl rfl (Nat.le_of_ble_eq_true rfl) ⟨(show 0 + 1 ≤ 12 + 1 * (r9 + 1) by omega), (show 8 + (3 + 11) + 40 * (0) ≤ 40 * (12 + 1 * (r9 + 1)) by omega)⟩ rfl rfl (Nat.le_of_ble_eq_true rfl) (Nat.le_of_ble_eq_true rfl) (fun r9 J_130 hq9 => ?_)
                        obtain ⟨z_130, rfl, hz_130, rfl, rfl⟩ := hq9
                        refine tz_icmp_ne (pc := 133) (tgt := 142) dX12_isGreater_133 (by decide) (by omega) (by omega) (fun h_133 => ?_) (fun h_133 => ?_)
                        · refine tz_aload_n (pc := 142) dX12_isGreater_142 rfl rfl ?_
                          refine tz_aload_n (pc := 143) dX12_isGreater_143 rfl rfl ?_
                          refine tz_iload_n (pc := 144) dX12_isGreater_144 rfl rfl ?_
                          refine tz_iload (pc := 145) dX12_isGreater_145 rfl ?_
                          refine tz_cV (pc := 147) (m_arg hl n _ _ _ (by omega) (by omega) b r d s m hM (by omega) (by omega)) vl_X12_88 dX12_isGreater_147 o_164 rfl rfl (Nat.le_of_ble_eq_true rfl) ⟨(show 0 + 1 ≤ 12 + 1 * (r9 + 1) by omega), (show 8 + (3 + 11) + 40 * (0) ≤ 40 * (12 + 1 * (r9 + 1)) by omega)⟩ rfl rfl (Nat.le_of_ble_eq_true rfl) (Nat.le_of_ble_eq_true rfl) (fun r9 J_147 hq9 => ?_)
                          obtain ⟨z_147, rfl, hz_147, rfl, rfl⟩ := hq9
                          refine tz_aload_n (pc := 150) dX12_isGreater_150 rfl rfl ?_
                          refine tz_iload_n (pc := 151) dX12_isGreater_151 rfl rfl ?_
                          refine tz_iload (pc := 152) dX12_isGreater_152 rfl ?_
                          refine tz_cV (pc := 154) (m_arg hl n _ _ _ (by omega) (by omega) b r d s m hM (by omega) (by omega)) vl_X12_88 dX12_isGreater_154 o_164 rfl rfl (Nat.le_of_ble_eq_true rfl) ⟨(show 0 + 1 ≤ 12 + 1 * (r9 + 1) by omega), (show 8 + (3 + 11) + 40 * (0) ≤ 40 * (12 + 1 * (r9 + 1)) by omega)⟩ rfl rfl (Nat.le_of_ble_eq_true rfl) (Nat.le_of_ble_eq_true rfl) (fun r9 J_154 hq9 => ?_)
                          obtain ⟨z_154, rfl, hz_154, rfl, rfl⟩ := hq9
                          have hg := hM.arg (t := u) (i := i) hs (by omega)
                          have hg2 := hM.arg (t := t) (i := i) ht (by omega)
                          refine tz_cV (pc := 157) (ih _ _ _ (by omega) (by omega) b r d s m hM (by omega) (by omega) (by omega)) vl_X12_142 dX12_isGreater_157 o_164 rfl rfl (Nat.le_of_ble_eq_true rfl) ⟨(show (12 + 1 * r9) + 1 ≤ 12 + 1 * (r9 + 1) by omega), (show 8 + (5 + 11) + 40 * ((12 + 1 * r9)) ≤ 40 * (12 + 1 * (r9 + 1)) by omega)⟩ rfl rfl (Nat.le_of_ble_eq_true rfl) (Nat.le_of_ble_eq_true rfl) (fun r9 J_157 hq9 => ?_)
                          obtain ⟨z_157, rfl, hz_157, rfl, hz1⟩ := hq9
                          exact tz_zret (pc := 160) (z := z_157) dX12_isGreater_160 rfl (by omega) (Nat.le_of_ble_eq_true rfl) (Nat.le_of_ble_eq_true rfl) ⟨Nat.le_refl _, Nat.le_add_right _ _⟩ ⟨_, rfl, (by omega), ⟨rfl, by omega⟩⟩
                        · refine tz_iinc (pc := 136) (z := i + 1) (L2 := [_, _, _, _, _]) dX12_isGreater_136 rfl (by omega) rfl ?_
                          refine tz_goto (pc := 139) (tgt := 119) dX12_isGreater_139 (by decide) ?_
                          exact ih119 (i + 1) (by omega) (by omega) (fun q x y => (Decidable.em (q = i)).elim (fun e => by rw [e]; omega) (fun e => hq q x (by omega)))
                    exact loop119 _ 0 (Nat.lt_succ_self _) (by omega) (fun q x y => by omega)
                  · refine tz_aload_n (pc := 97) dX12_isGreater_97 rfl rfl ?_
                    refine tz_iload_n (pc := 98) dX12_isGreater_98 rfl rfl ?_
                    refine tz_cV (pc := 99) (m_head hl n _ _ (by omega) b r d s m hM (by omega)) vl_X12_74 dX12_isGreater_99 o_164 rfl rfl (Nat.le_of_ble_eq_true rfl) ⟨(show 0 + 1 ≤ 12 + 1 * (r9 + 1) by omega), (show 8 + (2 + 11) + 40 * (0) ≤ 40 * (12 + 1 * (r9 + 1)) by omega)⟩ rfl rfl (Nat.le_of_ble_eq_true rfl) (Nat.le_of_ble_eq_true rfl) (fun r9 J_99 hq9 => ?_)
                    obtain ⟨z_99, rfl, hz_99, rfl, rfl⟩ := hq9
                    refine tz_aload_n (pc := 102) dX12_isGreater_102 rfl rfl ?_
                    refine tz_iload_n (pc := 103) dX12_isGreater_103 rfl rfl ?_
                    refine tz_cV (pc := 104) (m_head hl n _ _ (by omega) b r d s m hM (by omega)) vl_X12_74 dX12_isGreater_104 o_164 rfl rfl (Nat.le_of_ble_eq_true rfl) ⟨(show 0 + 1 ≤ 12 + 1 * (r9 + 1) by omega), (show 8 + (2 + 11) + 40 * (0) ≤ 40 * (12 + 1 * (r9 + 1)) by omega)⟩ rfl rfl (Nat.le_of_ble_eq_true rfl) (Nat.le_of_ble_eq_true rfl) (fun r9 J_104 hq9 => ?_)
                    obtain ⟨z_104, rfl, hz_104, rfl, rfl⟩ := hq9
                    refine tz_icmp_le (pc := 107) (tgt := 114) dX12_isGreater_107 (by decide) (by omega) (by omega) (fun h_107 => ?_) (fun h_107 => ?_)
                    · refine tz_iconst (pc := 114) dX12_isGreater_114 ?_
                      exact tz_zret (pc := 115) (z := 0) dX12_isGreater_115 rfl (Or.inl rfl) (Nat.le_of_ble_eq_true rfl) (Nat.le_of_ble_eq_true rfl) ⟨Nat.le_refl _, Nat.le_add_right _ _⟩ ⟨_, rfl, (by decide), ⟨rfl, by omega⟩⟩
                    · refine tz_iconst (pc := 110) dX12_isGreater_110 ?_
                      refine tz_goto (pc := 111) (tgt := 115) dX12_isGreater_111 (by decide) ?_
                      exact tz_zret (pc := 115) (z := 1) dX12_isGreater_115 rfl (Or.inr rfl) (Nat.le_of_ble_eq_true rfl) (Nat.le_of_ble_eq_true rfl) ⟨Nat.le_refl _, Nat.le_add_right _ _⟩ ⟨_, rfl, (by decide), ⟨rfl, by omega⟩⟩
            · refine tz_iload_n (pc := 54) dX12_isGreater_54 rfl rfl ?_
              refine tz_if_le (pc := 55) (tgt := 62) dX12_isGreater_55 (by decide) (zw_rg _) (fun h_55 => ?_) (fun h_55 => ?_)
              · refine tz_iconst (pc := 62) dX12_isGreater_62 ?_
                exact tz_zret (pc := 63) (z := 0) dX12_isGreater_63 rfl (Or.inl rfl) (Nat.le_of_ble_eq_true rfl) (Nat.le_of_ble_eq_true rfl) ⟨Nat.le_refl _, Nat.le_add_right _ _⟩ ⟨_, rfl, (by decide), ⟨rfl, by omega⟩⟩
              · refine tz_iconst (pc := 58) dX12_isGreater_58 ?_
                refine tz_goto (pc := 59) (tgt := 63) dX12_isGreater_59 (by decide) ?_
                exact tz_zret (pc := 63) (z := 1) dX12_isGreater_63 rfl (Or.inr rfl) (Nat.le_of_ble_eq_true rfl) (Nat.le_of_ble_eq_true rfl) ⟨Nat.le_refl _, Nat.le_add_right _ _⟩ ⟨_, rfl, (by decide), ⟨rfl, by omega⟩⟩
          · refine tz_aload_n (pc := 15) dX12_isGreater_15 rfl rfl ?_
            refine tz_iload_n (pc := 16) dX12_isGreater_16 rfl rfl ?_
            refine tz_iload_n (pc := 17) dX12_isGreater_17 rfl rfl ?_
            refine tz_cV (pc := 18) (m_times hl n _ _ _ (by omega) (by omega) b r d s m hM (by omega)) vl_X12_129 dX12_isGreater_18 o_164 rfl rfl (Nat.le_of_ble_eq_true rfl) ⟨(show 10 + 1 ≤ 12 + 1 * (r9 + 1) by omega), (show 8 + (5 + 11) + 40 * (10) ≤ 40 * (12 + 1 * (r9 + 1)) by omega)⟩ rfl rfl (Nat.le_of_ble_eq_true rfl) (Nat.le_of_ble_eq_true rfl) (fun r9 J_18 hq9 => ?_)
            obtain ⟨z_18, rfl, hz_18, rfl⟩ := hq9
            refine tz_aload_n (pc := 21) dX12_isGreater_21 rfl rfl ?_
            refine tz_iload_n (pc := 22) dX12_isGreater_22 rfl rfl ?_
            refine tz_iload_n (pc := 23) dX12_isGreater_23 rfl rfl ?_
            refine tz_cV (pc := 24) (m_times hl n _ _ _ (by omega) (by omega) b r d s m hM (by omega)) vl_X12_129 dX12_isGreater_24 o_164 rfl rfl (Nat.le_of_ble_eq_true rfl) ⟨(show 10 + 1 ≤ 12 + 1 * (r9 + 1) by omega), (show 8 + (5 + 11) + 40 * (10) ≤ 40 * (12 + 1 * (r9 + 1)) by omega)⟩ rfl rfl (Nat.le_of_ble_eq_true rfl) (Nat.le_of_ble_eq_true rfl) (fun r9 J_24 hq9 => ?_)
            obtain ⟨z_24, rfl, hz_24, rfl⟩ := hq9
            refine tz_icmp_ge (pc := 27) (tgt := 32) dX12_isGreater_27 (by decide) (by omega) (by omega) (fun h_27 => ?_) (fun h_27 => ?_)
            · refine tz_iinc (pc := 32) (z := v + 1) (L2 := [_, _, _, _, _]) dX12_isGreater_32 rfl (by omega) rfl ?_
              refine tz_goto (pc := 35) (tgt := 9) dX12_isGreater_35 (by decide) ?_
              exact ih9 (v + 1) (by omega) (by omega)
            · refine tz_iconst (pc := 30) dX12_isGreater_30 ?_
              exact tz_zret (pc := 31) (z := 0) dX12_isGreater_31 rfl (Or.inl rfl) (Nat.le_of_ble_eq_true rfl) (Nat.le_of_ble_eq_true rfl) ⟨Nat.le_refl _, Nat.le_add_right _ _⟩ ⟨_, rfl, (by decide), ⟨rfl, by omega⟩⟩
      exact loop9 _ 0 (Nat.lt_succ_self _) (by omega)
    · refine tz_iconst (pc := 5) dX12_isGreater_5 ?_
      exact tz_zret (pc := 6) (z := 0) dX12_isGreater_6 rfl (Or.inl rfl) (Nat.le_of_ble_eq_true rfl) (Nat.le_of_ble_eq_true rfl) ⟨Nat.le_refl _, Nat.le_add_right _ _⟩ ⟨_, rfl, (by decide), ⟨rfl, by omega⟩⟩

theorem m_greater {l : Launch} {G : tb_G} (hl : l.stackTraces = false) (n : Nat) (J : zJ) (u : Int)  (t : Int)  (hr_u : -2147483648 ≤ u ∧ u < 2147483648) (hr_t : -2147483648 ≤ t ∧ t < 2147483648) (b r d s m : Int) (hM : MS J b r d s m) (hs : 0 ≤ u ∧ u < m) (ht : 0 ≤ t ∧ t < m) : tz_Ok l G M_X12_isGreater 19 0 0 [.ref 164, zi u, zi t] n J (zqi (fun z J' => J = J' ∧ (z = 0 ∨ z = 1))) zN := m_greaterR hl n 7 J u t hr_u hr_t b r d s m hM hs ht (by have := (hM.ar hs).2.2.1; omega)
set_option maxHeartbeats 4000000 in
set_option maxRecDepth 100000 in
theorem m_isRule {l : Launch} {G : tb_G} (hl : l.stackTraces = false) (n : Nat) (J : zJ) (u : Int) (t : Int) (hr_u : -2147483648 ≤ u ∧ u < 2147483648) (hr_t : -2147483648 ≤ t ∧ t < 2147483648) (b r d s m : Int) (hM : MS J b r d s m) (hs : 0 ≤ u ∧ u < m) (ht : 0 ≤ t ∧ t < m) : tz_Ok l G M_X12_isRule 20 0 0 [.ref 164, zi u, zi t] n J (zqi (fun z J' => J = J' ∧ (z = 0 ∨ z = 1))) zN := by
  refine tz_Ok.of hl (by decide +kernel) rfl (tb_c1 rfl) (Nat.le_of_ble_eq_true rfl) ?_
  show tz_At l G M_X12_isRule (tb_rm 20 0 0) none (tb_ZM G 0 0 (zQ n 0 (zqi (fun z J' => J = J' ∧ (z = 0 ∨ z = 1)))) (zX n 0 zN)) 0 0 n J 0 [some (.ref 164), some (zi u), some (zi t)] []
  obtain ⟨hM1, hM2, hM3, hM4, hM5, hM6⟩ := id hM
  have hT := hM.told
  refine tz_aload_n (pc := 0) dX12_isRule_0 rfl rfl ?_
  refine tz_iload_n (pc := 1) dX12_isRule_1 rfl rfl ?_
  refine tz_cV (pc := 2) (m_isVar hl n _ _ (by omega) b r d s m hM (by omega)) vl_X12_78 dX12_isRule_2 o_164 rfl rfl (Nat.le_of_ble_eq_true rfl) ⟨(Nat.le_of_ble_eq_true rfl), (Nat.le_of_ble_eq_true rfl)⟩ rfl rfl (Nat.le_of_ble_eq_true rfl) (Nat.le_of_ble_eq_true rfl) (fun r9 J_2 hq9 => ?_)
  obtain ⟨z_2, rfl, hz_2, rfl, rfl⟩ := hq9
  by_cases hw_5 : J 166 (b + u) < 0
  · rw [show (if J 166 (b + u) < 0 then 1 else 0 : Int) = 1 from if_pos hw_5]
    refine tz_if_neT (pc := 5) (tgt := 41) (by decide) dX12_isRule_5 (by decide) (by decide) ?_
    refine tz_iconst (pc := 41) dX12_isRule_41 ?_
    exact tz_zret (pc := 42) (z := 0) dX12_isRule_42 rfl (Or.inl rfl) (Nat.le_of_ble_eq_true rfl) (Nat.le_of_ble_eq_true rfl) ⟨Nat.le_refl _, Nat.le_add_right _ _⟩ ⟨_, rfl, (by decide), ⟨rfl, by omega⟩⟩
  · rw [show (if J 166 (b + u) < 0 then 1 else 0 : Int) = 0 from if_neg hw_5]
    refine tz_if_neF (pc := 5) (tgt := 41) (by decide) dX12_isRule_5 (by decide) (by decide) ?_
    refine tz_aload_n (pc := 8) dX12_isRule_8 rfl rfl ?_
    refine tz_iload_n (pc := 9) dX12_isRule_9 rfl rfl ?_
    refine tz_iload_n (pc := 10) dX12_isRule_10 rfl rfl ?_
    refine tz_cV (pc := 11) (m_greater hl n _ _ _ (by omega) (by omega) b r d s m hM hs ht) vl_X12_142 dX12_isRule_11 o_164 rfl rfl (Nat.le_of_ble_eq_true rfl) ⟨(Nat.le_of_ble_eq_true rfl), (Nat.le_of_ble_eq_true rfl)⟩ rfl rfl (Nat.le_of_ble_eq_true rfl) (Nat.le_of_ble_eq_true rfl) (fun r9 J_11 hq9 => ?_)
    obtain ⟨z_11, rfl, hz_11, rfl, hz1⟩ := hq9
    refine tz_if_eq (pc := 14) (tgt := 41) dX12_isRule_14 (by decide) (by omega) (fun h_14 => ?_) (fun h_14 => ?_)
    · refine tz_iconst (pc := 41) dX12_isRule_41 ?_
      exact tz_zret (pc := 42) (z := 0) dX12_isRule_42 rfl (Or.inl rfl) (Nat.le_of_ble_eq_true rfl) (Nat.le_of_ble_eq_true rfl) ⟨Nat.le_refl _, Nat.le_add_right _ _⟩ ⟨_, rfl, (by decide), ⟨rfl, by omega⟩⟩
    · refine tz_aload_n (pc := 17) dX12_isRule_17 rfl rfl ?_
      refine tz_iload_n (pc := 18) dX12_isRule_18 rfl rfl ?_
      have hs_19 := hM.sz (t := u) (by omega)
      refine tz_cV (pc := 19) (m_size hl n _ _ (by omega) b r d s m hM (by omega)) vl_X12_114 dX12_isRule_19 o_164 rfl rfl (Nat.le_of_ble_eq_true rfl) ⟨(Nat.le_of_ble_eq_true rfl), (Nat.le_of_ble_eq_true rfl)⟩ rfl rfl (Nat.le_of_ble_eq_true rfl) (Nat.le_of_ble_eq_true rfl) (fun r9 J_19 hq9 => ?_)
      obtain ⟨z_19, rfl, hz_19, rfl, rfl⟩ := hq9
      refine tz_bipush (pc := 22) dX12_isRule_22 (by decide) ?_
      refine tz_icmp_gt (pc := 24) (tgt := 41) dX12_isRule_24 (by decide) (by omega) (by decide) (fun h_24 => ?_) (fun h_24 => ?_)
      · refine tz_iconst (pc := 41) dX12_isRule_41 ?_
        exact tz_zret (pc := 42) (z := 0) dX12_isRule_42 rfl (Or.inl rfl) (Nat.le_of_ble_eq_true rfl) (Nat.le_of_ble_eq_true rfl) ⟨Nat.le_refl _, Nat.le_add_right _ _⟩ ⟨_, rfl, (by decide), ⟨rfl, by omega⟩⟩
      · refine tz_aload_n (pc := 27) dX12_isRule_27 rfl rfl ?_
        refine tz_iload_n (pc := 28) dX12_isRule_28 rfl rfl ?_
        have hs_29 := hM.sz (t := t) (by omega)
        refine tz_cV (pc := 29) (m_size hl n _ _ (by omega) b r d s m hM (by omega)) vl_X12_114 dX12_isRule_29 o_164 rfl rfl (Nat.le_of_ble_eq_true rfl) ⟨(Nat.le_of_ble_eq_true rfl), (Nat.le_of_ble_eq_true rfl)⟩ rfl rfl (Nat.le_of_ble_eq_true rfl) (Nat.le_of_ble_eq_true rfl) (fun r9 J_29 hq9 => ?_)
        obtain ⟨z_29, rfl, hz_29, rfl, rfl⟩ := hq9
        refine tz_bipush (pc := 32) dX12_isRule_32 (by decide) ?_
        refine tz_icmp_gt (pc := 34) (tgt := 41) dX12_isRule_34 (by decide) (by omega) (by decide) (fun h_34 => ?_) (fun h_34 => ?_)
        · refine tz_iconst (pc := 41) dX12_isRule_41 ?_
          exact tz_zret (pc := 42) (z := 0) dX12_isRule_42 rfl (Or.inl rfl) (Nat.le_of_ble_eq_true rfl) (Nat.le_of_ble_eq_true rfl) ⟨Nat.le_refl _, Nat.le_add_right _ _⟩ ⟨_, rfl, (by decide), ⟨rfl, by omega⟩⟩
        · refine tz_iconst (pc := 37) dX12_isRule_37 ?_
          refine tz_goto (pc := 38) (tgt := 42) dX12_isRule_38 (by decide) ?_
          exact tz_zret (pc := 42) (z := 1) dX12_isRule_42 rfl (Or.inr rfl) (Nat.le_of_ble_eq_true rfl) (Nat.le_of_ble_eq_true rfl) ⟨Nat.le_refl _, Nat.le_add_right _ _⟩ ⟨_, rfl, (by decide), ⟨rfl, by omega⟩⟩

theorem MS.c1 {J' J : zJ} {b r d s m : Int} (h : MS J b r d s m) {c : Nat} (f : zOf (zbut [c]) J' J) (hc : ¬ c = 164 ∧ ¬ c = 165 ∧ ¬ c = 166 ∧ ¬ c = 167 ∧ ¬ c = 168 ∧ ¬ c = 170) : MS J' b r d s m := by
  have g : ∀ k, ¬ k = c → J' k = J k := fun k a => f k (by simp [zbut]; omega)
  exact h.of ⟨by rw [g 164 (by omega)], by rw [g 164 (by omega)], by rw [g 164 (by omega)]⟩ (by rw [g 165 (by omega)]) (g _ (by omega)) (g _ (by omega)) (g _ (by omega)) (g _ (by omega))
theorem gok_up {J : zJ} {m v t : Int} (h : gOK (J 174) m) (ht : 0 ≤ t ∧ t < m) : gOK (zup J 174 v t 174) m := fun u a c => by
  by_cases e : u = v
  · rw [e, zup_at]; omega
  · rw [zup_ne e]; exact h u a c
set_option maxHeartbeats 4000000 in
set_option maxRecDepth 100000 in
theorem m_matchR {l : Launch} {G : tb_G} (hl : l.stackTraces = false) (n : Nat) : ∀ (r9 : Nat) (J : zJ) (u : Int) (t : Int) (hr_u : -2147483648 ≤ u ∧ u < 2147483648) (hr_t : -2147483648 ≤ t ∧ t < 2147483648) (b r d s m : Int) (hM : MS J b r d s m) (hs : 0 ≤ u ∧ u < m) (ht : 0 ≤ t ∧ t < m) (hg0 : gOK (J 174) m), ((J 168 (b + u)).toNat) < r9 → tz_Ok l G M_X12_matches (3 + 1 * r9) 0 0 [.ref 164, zi u, zi t] n J (zqi (fun z J' => (z = 0 ∨ z = 1) ∧ zOf (zbut [174]) J' J ∧ gOK (J' 174) m)) zN := by
  intro r9
  induction r9 with
  | zero => intro J u t hr_u hr_t b r d s m hM hs ht hg0 hm9; exact absurd hm9 (Nat.not_lt_zero _)
  | succ r9 ih =>
    intro J u t hr_u hr_t b r d s m hM hs ht hg0 hm9
    refine tz_Ok.of hl (by decide +kernel) rfl (tb_c1 rfl) (Nat.le_of_ble_eq_true rfl) ?_
    show tz_At l G M_X12_matches (tb_rm (3 + 1 * (r9 + 1)) 0 0) none (tb_ZM G 0 0 (zQ n 0 (zqi (fun z J' => (z = 0 ∨ z = 1) ∧ zOf (zbut [174]) J' J ∧ gOK (J' 174) m))) (zX n 0 zN)) 0 0 n J 0 [some (.ref 164), some (zi u), some (zi t), none] []
    obtain ⟨hM1, hM2, hM3, hM4, hM5, hM6⟩ := id hM
    have hT := hM.told
    have ha := hM.ar hs
    have hb := hM.ar ht
    refine tz_aload_n (pc := 0) dX12_matches_0 rfl rfl ?_
    refine tz_iload_n (pc := 1) dX12_matches_1 rfl rfl ?_
    refine tz_cV (pc := 2) (m_isVar hl n _ _ (by omega) b r d s m hM (by omega)) vl_X12_78 dX12_matches_2 o_164 rfl rfl (Nat.le_of_ble_eq_true rfl) ⟨(show 1 + 1 ≤ 3 + 1 * (r9 + 1) by omega), (show 8 + (2 + 11) + 40 * (1) ≤ 40 * (3 + 1 * (r9 + 1)) by omega)⟩ rfl rfl (Nat.le_of_ble_eq_true rfl) (Nat.le_of_ble_eq_true rfl) (fun r9 J_2 hq9 => ?_)
    obtain ⟨z_2, rfl, hz_2, rfl, rfl⟩ := hq9
    by_cases hw_5 : J 166 (b + u) < 0
    · rw [show (if J 166 (b + u) < 0 then 1 else 0 : Int) = 1 from if_pos hw_5]
      refine tz_if_eqF (pc := 5) (tgt := 47) (by decide) dX12_matches_5 (by decide) (by decide) ?_
      refine tz_aload_n (pc := 8) dX12_matches_8 rfl rfl ?_
      refine tz_iload_n (pc := 9) dX12_matches_9 rfl rfl ?_
      refine tz_cV (pc := 10) (m_varOf hl n _ _ (by omega) b r d s m hM (by omega)) vl_X12_123 dX12_matches_10 o_164 rfl rfl (Nat.le_of_ble_eq_true rfl) ⟨(show 1 + 1 ≤ 3 + 1 * (r9 + 1) by omega), (show 8 + (2 + 11) + 40 * (1) ≤ 40 * (3 + 1 * (r9 + 1)) by omega)⟩ rfl rfl (Nat.le_of_ble_eq_true rfl) (Nat.le_of_ble_eq_true rfl) (fun r9 J_10 hq9 => ?_)
      obtain ⟨z_10, rfl, hz_10, rfl, rfl⟩ := hq9
      refine tz_istore_n (pc := 13) (L2 := [_, _, _, _]) dX12_matches_13 rfl (by decide) rfl ?_
      refine tz_aload_n (pc := 14) dX12_matches_14 rfl rfl ?_
      refine tz_fR (pc := 15) dX12_matches_15 fl_X12_41 r_164_22 ?_
      refine tz_iload_n (pc := 18) dX12_matches_18 rfl rfl ?_
      refine tz_aL (pc := 19) (z := (-1 - J 166 (b + u))) (v := (J 174 (-1 - J 166 (b + u)))) dX12_matches_19 a_174 rfl (by omega) rfl (fun r_19 => ?_)
      refine tz_iconst (pc := 20) dX12_matches_20 ?_
      refine tz_icmp_ne (pc := 21) (tgt := 31) dX12_matches_21 (by decide) (by omega) (by decide) (fun h_21 => ?_) (fun h_21 => ?_)
      · refine tz_aload_n (pc := 31) dX12_matches_31 rfl rfl ?_
        refine tz_fR (pc := 32) dX12_matches_32 fl_X12_41 r_164_22 ?_
        refine tz_iload_n (pc := 35) dX12_matches_35 rfl rfl ?_
        refine tz_aL (pc := 36) (z := (-1 - J 166 (b + u))) (v := (J 174 (-1 - J 166 (b + u)))) dX12_matches_36 a_174 rfl (by omega) rfl (fun r_36 => ?_)
        refine tz_iload_n (pc := 37) dX12_matches_37 rfl rfl ?_
        refine tz_icmp_ne (pc := 38) (tgt := 45) dX12_matches_38 (by decide) (by omega) (by omega) (fun h_38 => ?_) (fun h_38 => ?_)
        · refine tz_iconst (pc := 45) dX12_matches_45 ?_
          exact tz_zret (pc := 46) (z := 0) dX12_matches_46 rfl (Or.inl rfl) (Nat.le_of_ble_eq_true rfl) (Nat.le_of_ble_eq_true rfl) ⟨Nat.le_refl _, Nat.le_add_right _ _⟩ ⟨_, rfl, (by decide), (by first | exact ⟨by omega, f1, g1⟩ | exact ⟨by omega, f2.tr f1, g2⟩ | exact ⟨by omega, zOf.rf, hg0⟩ | exact ⟨by omega, zOf.up rfl zOf.rf, gok_up hg0 ht⟩)⟩
        · refine tz_iconst (pc := 41) dX12_matches_41 ?_
          refine tz_goto (pc := 42) (tgt := 46) dX12_matches_42 (by decide) ?_
          exact tz_zret (pc := 46) (z := 1) dX12_matches_46 rfl (Or.inr rfl) (Nat.le_of_ble_eq_true rfl) (Nat.le_of_ble_eq_true rfl) ⟨Nat.le_refl _, Nat.le_add_right _ _⟩ ⟨_, rfl, (by decide), (by first | exact ⟨by omega, f1, g1⟩ | exact ⟨by omega, f2.tr f1, g2⟩ | exact ⟨by omega, zOf.rf, hg0⟩ | exact ⟨by omega, zOf.up rfl zOf.rf, gok_up hg0 ht⟩)⟩
      · refine tz_aload_n (pc := 24) dX12_matches_24 rfl rfl ?_
        refine tz_fR (pc := 25) dX12_matches_25 fl_X12_41 r_164_22 ?_
        refine tz_iload_n (pc := 28) dX12_matches_28 rfl rfl ?_
        refine tz_iload_n (pc := 29) dX12_matches_29 rfl rfl ?_
        refine tz_aS (pc := 30) (z := (-1 - J 166 (b + u))) dX12_matches_30 a_174 rfl (by omega) (by omega) ?_
        refine tz_aload_n (pc := 31) dX12_matches_31 rfl rfl ?_
        refine tz_fR (pc := 32) dX12_matches_32 fl_X12_41 r_164_22 ?_
        refine tz_iload_n (pc := 35) dX12_matches_35 rfl rfl ?_
        refine tz_aL (pc := 36) (z := (-1 - J 166 (b + u))) (v := t) dX12_matches_36 a_174 rfl (by omega) (by simp [zup]) (fun r_36 => ?_)
        refine tz_iload_n (pc := 37) dX12_matches_37 rfl rfl ?_
        refine tz_icmp_ne (pc := 38) (tgt := 45) dX12_matches_38 (by decide) (by omega) (by omega) (fun h_38 => ?_) (fun h_38 => ?_)
        · refine tz_iconst (pc := 45) dX12_matches_45 ?_
          exact tz_zret (pc := 46) (z := 0) dX12_matches_46 rfl (Or.inl rfl) (Nat.le_of_ble_eq_true rfl) (Nat.le_of_ble_eq_true rfl) ⟨Nat.le_refl _, Nat.le_add_right _ _⟩ ⟨_, rfl, (by decide), (by first | exact ⟨by omega, f1, g1⟩ | exact ⟨by omega, f2.tr f1, g2⟩ | exact ⟨by omega, zOf.rf, hg0⟩ | exact ⟨by omega, zOf.up rfl zOf.rf, gok_up hg0 ht⟩)⟩
        · refine tz_iconst (pc := 41) dX12_matches_41 ?_
          refine tz_goto (pc := 42) (tgt := 46) dX12_matches_42 (by decide) ?_
          exact tz_zret (pc := 46) (z := 1) dX12_matches_46 rfl (Or.inr rfl) (Nat.le_of_ble_eq_true rfl) (Nat.le_of_ble_eq_true rfl) ⟨Nat.le_refl _, Nat.le_add_right _ _⟩ ⟨_, rfl, (by decide), (by first | exact ⟨by omega, f1, g1⟩ | exact ⟨by omega, f2.tr f1, g2⟩ | exact ⟨by omega, zOf.rf, hg0⟩ | exact ⟨by omega, zOf.up rfl zOf.rf, gok_up hg0 ht⟩)⟩
    · rw [show (if J 166 (b + u) < 0 then 1 else 0 : Int) = 0 from if_neg hw_5]
      refine tz_if_eqT (pc := 5) (tgt := 47) (by decide) dX12_matches_5 (by decide) (by decide) ?_
      refine tz_aload_n (pc := 47) dX12_matches_47 rfl rfl ?_
      refine tz_iload_n (pc := 48) dX12_matches_48 rfl rfl ?_
      refine tz_cV (pc := 49) (m_head hl n _ _ (by omega) b r d s m hM (by omega)) vl_X12_74 dX12_matches_49 o_164 rfl rfl (Nat.le_of_ble_eq_true rfl) ⟨(show 0 + 1 ≤ 3 + 1 * (r9 + 1) by omega), (show 8 + (2 + 11) + 40 * (0) ≤ 40 * (3 + 1 * (r9 + 1)) by omega)⟩ rfl rfl (Nat.le_of_ble_eq_true rfl) (Nat.le_of_ble_eq_true rfl) (fun r9 J_49 hq9 => ?_)
      obtain ⟨z_49, rfl, hz_49, rfl, rfl⟩ := hq9
      refine tz_aload_n (pc := 52) dX12_matches_52 rfl rfl ?_
      refine tz_iload_n (pc := 53) dX12_matches_53 rfl rfl ?_
      refine tz_cV (pc := 54) (m_head hl n _ _ (by omega) b r d s m hM (by omega)) vl_X12_74 dX12_matches_54 o_164 rfl rfl (Nat.le_of_ble_eq_true rfl) ⟨(show 0 + 1 ≤ 3 + 1 * (r9 + 1) by omega), (show 8 + (2 + 11) + 40 * (0) ≤ 40 * (3 + 1 * (r9 + 1)) by omega)⟩ rfl rfl (Nat.le_of_ble_eq_true rfl) (Nat.le_of_ble_eq_true rfl) (fun r9 J_54 hq9 => ?_)
      obtain ⟨z_54, rfl, hz_54, rfl, rfl⟩ := hq9
      refine tz_icmp_eq (pc := 57) (tgt := 62) dX12_matches_57 (by decide) (by omega) (by omega) (fun h_57 => ?_) (fun h_57 => ?_)
      · refine tz_iconst (pc := 62) dX12_matches_62 ?_
        refine tz_istore_n (pc := 63) (L2 := [_, _, _, _]) dX12_matches_63 rfl (by decide) rfl ?_
        have loop64 : ∀ (f9 : Nat) (i : Int) (J1 : zJ), ((3 - i).toNat) < f9 → (0 ≤ i ∧ i ≤ mar J b d u) → (zOf (zbut [174]) J1 J) → (gOK (J1 174) m) → tz_At l G M_X12_matches (tb_rm (3 + 1 * (r9 + 1)) 0 0) none (tb_ZM G 0 0 (zQ n 0 (zqi (fun z J' => (z = 0 ∨ z = 1) ∧ zOf (zbut [174]) J' J ∧ gOK (J' 174) m))) (zX n 0 zN)) 0 0 n J1 64 [some (.ref 164), some (zi u), some (zi t), some (zi i)] [] := by
          intro f9
          induction f9 with
          | zero => intro i J1 hm9; exact absurd hm9 (Nat.not_lt_zero _)
          | succ f9 ih64 =>
            intro i J1 hm64 hi f1 g1
            have he := MS.hd8 (J := J) (b := b) (d := d) (t := u) (u := t) (by omega)
            refine tz_iload_n (pc := 64) dX12_matches_64 rfl rfl ?_
            refine tz_aload_n (pc := 65) dX12_matches_65 rfl rfl ?_
            refine tz_iload_n (pc := 66) dX12_matches_66 rfl rfl ?_
            refine tz_cV (pc := 67) (m_arity hl n _ _ (by omega) b r d s m (hM.c1 f1 (by decide)) (by omega)) vl_X12_111 dX12_matches_67 o_164 rfl rfl (Nat.le_of_ble_eq_true rfl) ⟨(show 2 + 1 ≤ 3 + 1 * (r9 + 1) by omega), (show 8 + (2 + 11) + 40 * (2) ≤ 40 * (3 + 1 * (r9 + 1)) by omega)⟩ rfl rfl (Nat.le_of_ble_eq_true rfl) (Nat.le_of_ble_eq_true rfl) (fun r9 J_67 hq9 => ?_)
            obtain ⟨z_67, rfl, hz_67, rfl, hv_67⟩ := hq9
            have he_67 : mar J1 b d u = mar J b d u := by unfold mar; rw [f1 166 rfl, f1 170 rfl]
            rw [he_67] at hv_67
            obtain rfl : mar J b d u = z_67 := hv_67
            refine tz_icmp_ge (pc := 70) (tgt := 100) dX12_matches_70 (by decide) (by omega) (by omega) (fun h_70 => ?_) (fun h_70 => ?_)
            · refine tz_iconst (pc := 100) dX12_matches_100 ?_
              exact tz_zret (pc := 101) (z := 1) dX12_matches_101 rfl (Or.inr rfl) (Nat.le_of_ble_eq_true rfl) (Nat.le_of_ble_eq_true rfl) ⟨Nat.le_refl _, Nat.le_add_right _ _⟩ ⟨_, rfl, (by decide), (by first | exact ⟨by omega, f1, g1⟩ | exact ⟨by omega, f2.tr f1, g2⟩ | exact ⟨by omega, zOf.rf, hg0⟩ | exact ⟨by omega, zOf.up rfl zOf.rf, gok_up hg0 ht⟩)⟩
            · refine tz_aload_n (pc := 73) dX12_matches_73 rfl rfl ?_
              refine tz_aload_n (pc := 74) dX12_matches_74 rfl rfl ?_
              refine tz_iload_n (pc := 75) dX12_matches_75 rfl rfl ?_
              refine tz_iload_n (pc := 76) dX12_matches_76 rfl rfl ?_
              refine tz_cV (pc := 77) (m_arg hl n _ _ _ (by omega) (by omega) b r d s m (hM.c1 f1 (by decide)) (by omega) (by omega)) vl_X12_88 dX12_matches_77 o_164 rfl rfl (Nat.le_of_ble_eq_true rfl) ⟨(show 0 + 1 ≤ 3 + 1 * (r9 + 1) by omega), (show 8 + (3 + 11) + 40 * (0) ≤ 40 * (3 + 1 * (r9 + 1)) by omega)⟩ rfl rfl (Nat.le_of_ble_eq_true rfl) (Nat.le_of_ble_eq_true rfl) (fun r9 J_77 hq9 => ?_)
              obtain ⟨z_77, rfl, hz_77, rfl, hv_77⟩ := hq9
              have he_77 : J1 167 (3 * (b + u) + i) = J 167 (3 * (b + u) + i) := by rw [f1 167 rfl]
              rw [he_77] at hv_77
              obtain rfl : J 167 (3 * (b + u) + i) = z_77 := hv_77
              refine tz_aload_n (pc := 80) dX12_matches_80 rfl rfl ?_
              refine tz_iload_n (pc := 81) dX12_matches_81 rfl rfl ?_
              refine tz_iload_n (pc := 82) dX12_matches_82 rfl rfl ?_
              refine tz_cV (pc := 83) (m_arg hl n _ _ _ (by omega) (by omega) b r d s m (hM.c1 f1 (by decide)) (by omega) (by omega)) vl_X12_88 dX12_matches_83 o_164 rfl rfl (Nat.le_of_ble_eq_true rfl) ⟨(show 0 + 1 ≤ 3 + 1 * (r9 + 1) by omega), (show 8 + (3 + 11) + 40 * (0) ≤ 40 * (3 + 1 * (r9 + 1)) by omega)⟩ rfl rfl (Nat.le_of_ble_eq_true rfl) (Nat.le_of_ble_eq_true rfl) (fun r9 J_83 hq9 => ?_)
              obtain ⟨z_83, rfl, hz_83, rfl, hv_83⟩ := hq9
              have he_83 : J1 167 (3 * (b + t) + i) = J 167 (3 * (b + t) + i) := by rw [f1 167 rfl]
              rw [he_83] at hv_83
              obtain rfl : J 167 (3 * (b + t) + i) = z_83 := hv_83
              have hg := hM.arg (t := u) (i := i) hs (by omega)
              have hg2 := hM.arg (t := t) (i := i) ht (by omega)
              have e168 := f1 168 rfl
              refine tz_cV (pc := 86) (ih _ _ _ (by omega) (by omega) b r d s m (hM.c1 f1 (by decide)) (by omega) (by omega) g1 (by rw [e168]; omega)) vl_X12_145 dX12_matches_86 o_164 rfl rfl (Nat.le_of_ble_eq_true rfl) ⟨(show (3 + 1 * r9) + 1 ≤ 3 + 1 * (r9 + 1) by omega), (show 8 + (4 + 11) + 40 * ((3 + 1 * r9)) ≤ 40 * (3 + 1 * (r9 + 1)) by omega)⟩ rfl rfl (Nat.le_of_ble_eq_true rfl) (Nat.le_of_ble_eq_true rfl) (fun r9 J2 hq9 => ?_)
              obtain ⟨z_86, rfl, hz_86, hz1, f2, g2⟩ := hq9
              refine tz_if_ne (pc := 89) (tgt := 94) dX12_matches_89 (by decide) (by omega) (fun h_89 => ?_) (fun h_89 => ?_)
              · refine tz_iinc (pc := 94) (z := i + 1) (L2 := [_, _, _, _]) dX12_matches_94 rfl (by omega) rfl ?_
                refine tz_goto (pc := 97) (tgt := 64) dX12_matches_97 (by decide) ?_
                exact ih64 (i + 1) _ (by omega) (by omega) (f2.tr f1) g2
              · refine tz_iconst (pc := 92) dX12_matches_92 ?_
                exact tz_zret (pc := 93) (z := 0) dX12_matches_93 rfl (Or.inl rfl) (Nat.le_of_ble_eq_true rfl) (Nat.le_of_ble_eq_true rfl) ⟨Nat.le_refl _, Nat.le_add_right _ _⟩ ⟨_, rfl, (by decide), (by first | exact ⟨by omega, f1, g1⟩ | exact ⟨by omega, f2.tr f1, g2⟩ | exact ⟨by omega, zOf.rf, hg0⟩ | exact ⟨by omega, zOf.up rfl zOf.rf, gok_up hg0 ht⟩)⟩
        exact loop64 _ 0 _ (Nat.lt_succ_self _) (by omega) zOf.rf hg0
      · refine tz_iconst (pc := 60) dX12_matches_60 ?_
        exact tz_zret (pc := 61) (z := 0) dX12_matches_61 rfl (Or.inl rfl) (Nat.le_of_ble_eq_true rfl) (Nat.le_of_ble_eq_true rfl) ⟨Nat.le_refl _, Nat.le_add_right _ _⟩ ⟨_, rfl, (by decide), (by first | exact ⟨by omega, f1, g1⟩ | exact ⟨by omega, f2.tr f1, g2⟩ | exact ⟨by omega, zOf.rf, hg0⟩ | exact ⟨by omega, zOf.up rfl zOf.rf, gok_up hg0 ht⟩)⟩

theorem m_match {l : Launch} {G : tb_G} (hl : l.stackTraces = false) (n : Nat) (J : zJ) (u t : Int) (hr_u : -2147483648 ≤ u ∧ u < 2147483648) (hr_t : -2147483648 ≤ t ∧ t < 2147483648) (b r d s m : Int) (hM : MS J b r d s m) (hs : 0 ≤ u ∧ u < m) (ht : 0 ≤ t ∧ t < m) (hg0 : gOK (J 174) m) : tz_Ok l G M_X12_matches 10 0 0 [.ref 164, zi u, zi t] n J (zqi (fun z J' => (z = 0 ∨ z = 1) ∧ zOf (zbut [174]) J' J ∧ gOK (J' 174) m)) zN := m_matchR hl n 7 J u t hr_u hr_t b r d s m hM hs ht hg0 (by have := (hM.ar hs).2.2.1; omega)
set_option maxHeartbeats 4000000 in
set_option maxRecDepth 100000 in
theorem m_doesMatch {l : Launch} {G : tb_G} (hl : l.stackTraces = false) (n : Nat) (J : zJ) (u : Int) (t : Int) (hr_u : -2147483648 ≤ u ∧ u < 2147483648) (hr_t : -2147483648 ≤ t ∧ t < 2147483648) (b r d s m : Int) (hM : MS J b r d s m) (hs : 0 ≤ u ∧ u < m) (ht : 0 ≤ t ∧ t < m) : tz_Ok l G M_X12_doesMatch 11 0 0 [.ref 164, zi u, zi t] n J (zqi (fun z J' => (z = 0 ∨ z = 1) ∧ zOf (zbut [174]) J' J ∧ gOK (J' 174) m)) zN := by
  refine tz_Ok.of hl (by decide +kernel) rfl (tb_c1 rfl) (Nat.le_of_ble_eq_true rfl) ?_
  show tz_At l G M_X12_doesMatch (tb_rm 11 0 0) none (tb_ZM G 0 0 (zQ n 0 (zqi (fun z J' => (z = 0 ∨ z = 1) ∧ zOf (zbut [174]) J' J ∧ gOK (J' 174) m))) (zX n 0 zN)) 0 0 n J 0 [some (.ref 164), some (zi u), some (zi t), none] []
  obtain ⟨hM1, hM2, hM3, hM4, hM5, hM6⟩ := id hM
  have hT := hM.told
  refine tz_iconst (pc := 0) dX12_doesMatch_0 ?_
  refine tz_istore_n (pc := 1) (L2 := [_, _, _, _]) dX12_doesMatch_1 rfl (by decide) rfl ?_
  have loop2 : ∀ (f9 : Nat) (v : Int) (J1 : zJ), ((8 - v).toNat) < f9 → (0 ≤ v ∧ v ≤ 8) → (zOf (zbut [174]) J1 J) → (∀ q, 0 ≤ q → q < v → J1 174 q = -1) → tz_At l G M_X12_doesMatch (tb_rm 11 0 0) none (tb_ZM G 0 0 (zQ n 0 (zqi (fun z J' => (z = 0 ∨ z = 1) ∧ zOf (zbut [174]) J' J ∧ gOK (J' 174) m))) (zX n 0 zN)) 0 0 n J1 2 [some (.ref 164), some (zi u), some (zi t), some (zi v)] [] := by
    intro f9
    induction f9 with
    | zero => intro v J1 hm9; exact absurd hm9 (Nat.not_lt_zero _)
    | succ f9 ih2 =>
      intro v J1 hm2 hv f1 g1
      refine tz_iload_n (pc := 2) dX12_doesMatch_2 rfl rfl ?_
      refine tz_bipush (pc := 3) dX12_doesMatch_3 (by decide) ?_
      refine tz_icmp_ge (pc := 5) (tgt := 21) dX12_doesMatch_5 (by decide) (by omega) (by decide) (fun h_5 => ?_) (fun h_5 => ?_)
      · refine tz_aload_n (pc := 21) dX12_doesMatch_21 rfl rfl ?_
        refine tz_iload_n (pc := 22) dX12_doesMatch_22 rfl rfl ?_
        refine tz_iload_n (pc := 23) dX12_doesMatch_23 rfl rfl ?_
        refine tz_cV (pc := 24) (m_match hl n _ _ _ (by omega) (by omega) b r d s m (hM.c1 f1 (by decide)) hs ht (fun q x y => by rw [g1 q x (by omega)]; omega)) vl_X12_145 dX12_doesMatch_24 o_164 rfl rfl (Nat.le_of_ble_eq_true rfl) ⟨(Nat.le_of_ble_eq_true rfl), (Nat.le_of_ble_eq_true rfl)⟩ rfl rfl (Nat.le_of_ble_eq_true rfl) (Nat.le_of_ble_eq_true rfl) (fun r9 J2 hq9 => ?_)
        obtain ⟨z_24, rfl, hz_24, hz1, f2, g2⟩ := hq9
        exact tz_zret (pc := 27) (z := z_24) dX12_doesMatch_27 rfl (by omega) (Nat.le_of_ble_eq_true rfl) (Nat.le_of_ble_eq_true rfl) ⟨Nat.le_refl _, Nat.le_add_right _ _⟩ ⟨_, rfl, (by omega), ⟨hz1, f2.tr f1, g2⟩⟩
      · refine tz_aload_n (pc := 8) dX12_doesMatch_8 rfl rfl ?_
        refine tz_fR (pc := 9) dX12_doesMatch_9 fl_X12_41 r_164_22 ?_
        refine tz_iload_n (pc := 12) dX12_doesMatch_12 rfl rfl ?_
        refine tz_iconst (pc := 13) dX12_doesMatch_13 ?_
        refine tz_aS (pc := 14) (z := v) dX12_doesMatch_14 a_174 rfl (by omega) (by decide) ?_
        refine tz_iinc (pc := 15) (z := v + 1) (L2 := [_, _, _, _]) dX12_doesMatch_15 rfl (by omega) rfl ?_
        refine tz_goto (pc := 18) (tgt := 2) dX12_doesMatch_18 (by decide) ?_
        exact ih2 (v + 1) _ (by omega) (by omega) (zOf.up rfl f1) (fun q x y => (Decidable.em (q = v)).elim (fun e => by rw [e, zup_at]) (fun e => by rw [zup_ne e]; exact g1 q x (by omega)))
  exact loop2 _ 0 _ (Nat.lt_succ_self _) (by omega) zOf.rf (fun q x y => by omega)

end
section
theorem arh_neg {ar : Int → Int} {h : Int} (hh : h < 0) : arh ar h = 0 := by unfold arh; rw [if_pos hh]
theorem arh_pos {ar : Int → Int} {h : Int} (hh : 0 ≤ h) : arh ar h = ar h := by unfold arh; rw [if_neg (by omega)]
set_option maxHeartbeats 4000000 in
set_option maxRecDepth 100000 in
theorem m_varTerm {l : Launch} {G : tb_G} (hl : l.stackTraces = false) (n : Nat) (J : zJ) (v : Int) (hr_v : -2147483648 ≤ v ∧ v < 2147483648) (b r d s m : Int) (hM : MS J b r d s m) (hv : 0 ≤ v ∧ v < 8) : tz_Ok l G M_X12_variableTerm 3 0 0 [.ref 164, zi v] n J (zqi (fun z J' => ∃ m', MG [] [] (fun _ => false) J' J b r d s m m' ∧ (J' 164 21 = 0 → 0 ≤ z ∧ z < m'))) zN := by
  refine tz_Ok.of hl (by decide +kernel) rfl (tb_c1 rfl) (Nat.le_of_ble_eq_true rfl) ?_
  show tz_At l G M_X12_variableTerm (tb_rm 3 0 0) none (tb_ZM G 0 0 (zQ n 0 (zqi (fun z J' => ∃ m', MG [] [] (fun _ => false) J' J b r d s m m' ∧ (J' 164 21 = 0 → 0 ≤ z ∧ z < m')))) (zX n 0 zN)) 0 0 n J 0 [some (.ref 164), some (zi v)] []
  obtain ⟨hM1, hM2, hM3, hM4, hM5, hM6⟩ := id hM
  have hT := hM.told
  refine tz_aload_n (pc := 0) dX12_variableTerm_0 rfl rfl ?_
  refine tz_iconst (pc := 1) dX12_variableTerm_1 ?_
  refine tz_iload_n (pc := 2) dX12_variableTerm_2 rfl rfl ?_
  refine tz_isub (pc := 3) (v := (-1) - v) dX12_variableTerm_3 rfl ?_
  refine tz_iconst (pc := 4) dX12_variableTerm_4 ?_
  refine tz_iconst (pc := 5) dX12_variableTerm_5 ?_
  refine tz_iconst (pc := 6) dX12_variableTerm_6 ?_
  refine tz_cV (pc := 7) (m_termOf hl n _ _ _ _ _ (by omega) (by decide) (by decide) (by decide) b r d s m hM (by omega) (fun _ => by rw [arh_neg (by omega)]; omega)) vl_X12_107 dX12_variableTerm_7 o_164 rfl rfl (Nat.le_of_ble_eq_true rfl) ⟨(Nat.le_of_ble_eq_true rfl), (Nat.le_of_ble_eq_true rfl)⟩ rfl rfl (Nat.le_of_ble_eq_true rfl) (Nat.le_of_ble_eq_true rfl) (fun r9 J_7 hq9 => ?_)
  obtain ⟨z_7, rfl, hz_7, m1, g1, h1⟩ := hq9
  exact tz_iret (pc := 10) (z := z_7) dX12_variableTerm_10 rfl (Nat.le_of_ble_eq_true rfl) (Nat.le_of_ble_eq_true rfl) ⟨Nat.le_refl _, Nat.le_add_right _ _⟩ ⟨_, rfl, (by omega), ⟨m1, g1, h1⟩⟩

set_option maxHeartbeats 4000000 in
set_option maxRecDepth 100000 in
theorem m_remade {l : Launch} {G : tb_G} (hl : l.stackTraces = false) (n : Nat) (J : zJ) (t : Int) (x : Int) (y : Int) (w : Int) (hr_t : -2147483648 ≤ t ∧ t < 2147483648) (hr_x : -2147483648 ≤ x ∧ x < 2147483648) (hr_y : -2147483648 ≤ y ∧ y < 2147483648) (hr_w : -2147483648 ≤ w ∧ w < 2147483648) (b r d s m : Int) (hM : MS J b r d s m) (ht : 0 ≤ t ∧ t < m) (hg : J 164 21 = 0 → (0 < mar J b d t → 0 ≤ x ∧ x < m) ∧ (1 < mar J b d t → 0 ≤ y ∧ y < m) ∧ (2 < mar J b d t → 0 ≤ w ∧ w < m)) : tz_Ok l G M_X12_remade 3 0 0 [.ref 164, zi t, zi x, zi y, zi w] n J (zqi (fun z J' => ∃ m', MG [] [] (fun _ => false) J' J b r d s m m' ∧ (J' 164 21 = 0 → 0 ≤ z ∧ z < m'))) zN := by
  refine tz_Ok.of hl (by decide +kernel) rfl (tb_c1 rfl) (Nat.le_of_ble_eq_true rfl) ?_
  show tz_At l G M_X12_remade (tb_rm 3 0 0) none (tb_ZM G 0 0 (zQ n 0 (zqi (fun z J' => ∃ m', MG [] [] (fun _ => false) J' J b r d s m m' ∧ (J' 164 21 = 0 → 0 ≤ z ∧ z < m')))) (zX n 0 zN)) 0 0 n J 0 [some (.ref 164), some (zi t), some (zi x), some (zi y), some (zi w)] []
  obtain ⟨hM1, hM2, hM3, hM4, hM5, hM6⟩ := id hM
  have hT := hM.told
  have ha := hM.ar ht
  refine tz_aload_n (pc := 0) dX12_remade_0 rfl rfl ?_
  refine tz_aload_n (pc := 1) dX12_remade_1 rfl rfl ?_
  refine tz_iload_n (pc := 2) dX12_remade_2 rfl rfl ?_
  refine tz_cV (pc := 3) (m_head hl n _ _ (by omega) b r d s m hM (by omega)) vl_X12_74 dX12_remade_3 o_164 rfl rfl (Nat.le_of_ble_eq_true rfl) ⟨(Nat.le_of_ble_eq_true rfl), (Nat.le_of_ble_eq_true rfl)⟩ rfl rfl (Nat.le_of_ble_eq_true rfl) (Nat.le_of_ble_eq_true rfl) (fun r9 J_3 hq9 => ?_)
  obtain ⟨z_3, rfl, hz_3, rfl, rfl⟩ := hq9
  refine tz_iload_n (pc := 6) dX12_remade_6 rfl rfl ?_
  refine tz_iload_n (pc := 7) dX12_remade_7 rfl rfl ?_
  refine tz_iload (pc := 8) dX12_remade_8 rfl ?_
  refine tz_cV (pc := 10) (m_termOf hl n _ _ _ _ _ (by omega) (by omega) (by omega) (by omega) b r d s m hM (by omega) hg) vl_X12_107 dX12_remade_10 o_164 rfl rfl (Nat.le_of_ble_eq_true rfl) ⟨(Nat.le_of_ble_eq_true rfl), (Nat.le_of_ble_eq_true rfl)⟩ rfl rfl (Nat.le_of_ble_eq_true rfl) (Nat.le_of_ble_eq_true rfl) (fun r9 J_10 hq9 => ?_)
  obtain ⟨z_10, rfl, hz_10, m1, g1, h1⟩ := hq9
  exact tz_iret (pc := 13) (z := z_10) dX12_remade_13 rfl (Nat.le_of_ble_eq_true rfl) (Nat.le_of_ble_eq_true rfl) ⟨Nat.le_refl _, Nat.le_add_right _ _⟩ ⟨_, rfl, (by omega), ⟨m1, g1, h1⟩⟩

set_option maxHeartbeats 4000000 in
set_option maxRecDepth 100000 in
theorem m_appMR {l : Launch} {G : tb_G} (hl : l.stackTraces = false) (n : Nat) : ∀ (r9 : Nat) (J : zJ) (t : Int) (hr_t : -2147483648 ≤ t ∧ t < 2147483648) (b r d s m : Int) (hM : MS J b r d s m) (ht : 0 ≤ t ∧ t < m) (hy : gOK (J 174) m), ((J 168 (b + t)).toNat) < r9 → tz_Ok l G M_X12_appliedBy (4 + 1 * r9) 0 0 [.ref 164, zi t, .ref 174] n J (zqi (fun z J' => ∃ m', MG [] [] (fun _ => false) J' J b r d s m m' ∧ (J' 164 21 = 0 → 0 ≤ z ∧ z < m'))) zN := by
  intro r9
  induction r9 with
  | zero => intro J t hr_t b r d s m hM ht hy hm9; exact absurd hm9 (Nat.not_lt_zero _)
  | succ r9 ih =>
    intro J t hr_t b r d s m hM ht hy hm9
    refine tz_Ok.of hl (by decide +kernel) rfl (tb_c1 rfl) (Nat.le_of_ble_eq_true rfl) ?_
    show tz_At l G M_X12_appliedBy (tb_rm (4 + 1 * (r9 + 1)) 0 0) none (tb_ZM G 0 0 (zQ n 0 (zqi (fun z J' => ∃ m', MG [] [] (fun _ => false) J' J b r d s m m' ∧ (J' 164 21 = 0 → 0 ≤ z ∧ z < m')))) (zX n 0 zN)) 0 0 n J 0 [some (.ref 164), some (zi t), some (.ref 174), none, none, none, none] []
    obtain ⟨hM1, hM2, hM3, hM4, hM5, hM6⟩ := id hM
    have hT := hM.told
    have ha := hM.ar ht
    have g0 : MG [] [] (fun _ => false) J J b r d s m m := MG.rf hM
    refine tz_aload_n (pc := 0) dX12_appliedBy_0 rfl rfl ?_
    refine tz_fI (pc := 1) (kz := 21) (v := (J 164 21)) dX12_appliedBy_1 fl_X12_92 i_164_21 rfl rfl (fun r_1 => ?_)
    refine tz_if_eq (pc := 4) (tgt := 9) dX12_appliedBy_4 (by decide) (by omega) (fun h_4 => ?_) (fun h_4 => ?_)
    · refine tz_aload_n (pc := 9) dX12_appliedBy_9 rfl rfl ?_
      refine tz_iload_n (pc := 10) dX12_appliedBy_10 rfl rfl ?_
      refine tz_cV (pc := 11) (m_isVar hl n _ _ (by omega) b r d s m hM (by omega)) vl_X12_78 dX12_appliedBy_11 o_164 rfl rfl (Nat.le_of_ble_eq_true rfl) ⟨(show 1 + 1 ≤ 4 + 1 * (r9 + 1) by omega), (show 8 + (2 + 11) + 40 * (1) ≤ 40 * (4 + 1 * (r9 + 1)) by omega)⟩ rfl rfl (Nat.le_of_ble_eq_true rfl) (Nat.le_of_ble_eq_true rfl) (fun r9 J_11 hq9 => ?_)
      obtain ⟨z_11, rfl, hz_11, rfl, rfl⟩ := hq9
      by_cases hw_14 : J 166 (b + t) < 0
      · rw [show (if J 166 (b + t) < 0 then 1 else 0 : Int) = 1 from if_pos hw_14]
        refine tz_if_eqF (pc := 14) (tgt := 40) (by decide) dX12_appliedBy_14 (by decide) (by decide) ?_
        refine tz_aload_n (pc := 17) dX12_appliedBy_17 rfl rfl ?_
        refine tz_aload_n (pc := 18) dX12_appliedBy_18 rfl rfl ?_
        refine tz_iload_n (pc := 19) dX12_appliedBy_19 rfl rfl ?_
        refine tz_cV (pc := 20) (m_varOf hl n _ _ (by omega) b r d s m hM (by omega)) vl_X12_123 dX12_appliedBy_20 o_164 rfl rfl (Nat.le_of_ble_eq_true rfl) ⟨(show 1 + 1 ≤ 4 + 1 * (r9 + 1) by omega), (show 8 + (2 + 11) + 40 * (1) ≤ 40 * (4 + 1 * (r9 + 1)) by omega)⟩ rfl rfl (Nat.le_of_ble_eq_true rfl) (Nat.le_of_ble_eq_true rfl) (fun r9 J_20 hq9 => ?_)
        obtain ⟨z_20, rfl, hz_20, rfl, rfl⟩ := hq9
        have hv9 := hy (-1 - J 166 (b + t)) (by omega) (by omega)
        refine tz_aL (pc := 23) (z := (-1 - J 166 (b + t))) (v := (J 174 (-1 - J 166 (b + t)))) dX12_appliedBy_23 a_174 rfl (by omega) rfl (fun r_23 => ?_)
        refine tz_iconst (pc := 24) dX12_appliedBy_24 ?_
        refine tz_icmp_ne (pc := 25) (tgt := 32) dX12_appliedBy_25 (by decide) (by omega) (by decide) (fun h_25 => ?_) (fun h_25 => ?_)
        · refine tz_aload_n (pc := 32) dX12_appliedBy_32 rfl rfl ?_
          refine tz_aload_n (pc := 33) dX12_appliedBy_33 rfl rfl ?_
          refine tz_iload_n (pc := 34) dX12_appliedBy_34 rfl rfl ?_
          refine tz_cV (pc := 35) (m_varOf hl n _ _ (by omega) b r d s m hM (by omega)) vl_X12_123 dX12_appliedBy_35 o_164 rfl rfl (Nat.le_of_ble_eq_true rfl) ⟨(show 1 + 1 ≤ 4 + 1 * (r9 + 1) by omega), (show 8 + (2 + 11) + 40 * (1) ≤ 40 * (4 + 1 * (r9 + 1)) by omega)⟩ rfl rfl (Nat.le_of_ble_eq_true rfl) (Nat.le_of_ble_eq_true rfl) (fun r9 J_35 hq9 => ?_)
          obtain ⟨z_35, rfl, hz_35, rfl, rfl⟩ := hq9
          refine tz_aL (pc := 38) (z := (-1 - J 166 (b + t))) (v := (J 174 (-1 - J 166 (b + t)))) dX12_appliedBy_38 a_174 rfl (by omega) rfl (fun r_38 => ?_)
          exact tz_iret (pc := 39) (z := (J 174 (-1 - J 166 (b + t)))) dX12_appliedBy_39 rfl (Nat.le_of_ble_eq_true rfl) (Nat.le_of_ble_eq_true rfl) ⟨Nat.le_refl _, Nat.le_add_right _ _⟩ ⟨_, rfl, (by omega), ⟨m, g0, fun q9 => by omega⟩⟩
        · refine tz_iload_n (pc := 28) dX12_appliedBy_28 rfl rfl ?_
          refine tz_goto (pc := 29) (tgt := 39) dX12_appliedBy_29 (by decide) ?_
          exact tz_iret (pc := 39) (z := t) dX12_appliedBy_39 rfl (Nat.le_of_ble_eq_true rfl) (Nat.le_of_ble_eq_true rfl) ⟨Nat.le_refl _, Nat.le_add_right _ _⟩ ⟨_, rfl, (by omega), ⟨m, g0, fun q9 => by omega⟩⟩
      · rw [show (if J 166 (b + t) < 0 then 1 else 0 : Int) = 0 from if_neg hw_14]
        refine tz_if_eqT (pc := 14) (tgt := 40) (by decide) dX12_appliedBy_14 (by decide) (by decide) ?_
        refine tz_aload_n (pc := 40) dX12_appliedBy_40 rfl rfl ?_
        refine tz_iload_n (pc := 41) dX12_appliedBy_41 rfl rfl ?_
        refine tz_cV (pc := 42) (m_arity hl n _ _ (by omega) b r d s m hM (by omega)) vl_X12_111 dX12_appliedBy_42 o_164 rfl rfl (Nat.le_of_ble_eq_true rfl) ⟨(show 2 + 1 ≤ 4 + 1 * (r9 + 1) by omega), (show 8 + (2 + 11) + 40 * (2) ≤ 40 * (4 + 1 * (r9 + 1)) by omega)⟩ rfl rfl (Nat.le_of_ble_eq_true rfl) (Nat.le_of_ble_eq_true rfl) (fun r9 J_42 hq9 => ?_)
        obtain ⟨z_42, rfl, hz_42, rfl, rfl⟩ := hq9
        refine tz_istore_n (pc := 45) (L2 := [_, _, _, _, _, _, _]) dX12_appliedBy_45 rfl (by decide) rfl ?_
        refine tz_iload_n (pc := 46) dX12_appliedBy_46 rfl rfl ?_
        refine tz_if_le (pc := 47) (tgt := 64) dX12_appliedBy_47 (by decide) (by omega) (fun h_47 => ?_) (fun h_47 => ?_)
        · refine tz_iconst (pc := 64) dX12_appliedBy_64 ?_
          refine tz_istore (pc := 65) (L2 := [_, _, _, _, _, _, _]) dX12_appliedBy_65 (by decide) rfl ?_
          refine tz_iload_n (pc := 67) dX12_appliedBy_67 rfl rfl ?_
          refine tz_iconst (pc := 68) dX12_appliedBy_68 ?_
          refine tz_icmp_le (pc := 69) (tgt := 86) dX12_appliedBy_69 (by decide) (by omega) (by decide) (fun h_69 => ?_) (fun h_69 => ?_)
          · refine tz_iconst (pc := 86) dX12_appliedBy_86 ?_
            refine tz_istore (pc := 87) (L2 := [_, _, _, _, _, _, _]) dX12_appliedBy_87 (by decide) rfl ?_
            refine tz_iload_n (pc := 89) dX12_appliedBy_89 rfl rfl ?_
            refine tz_iconst (pc := 90) dX12_appliedBy_90 ?_
            refine tz_icmp_le (pc := 91) (tgt := 108) dX12_appliedBy_91 (by decide) (by omega) (by decide) (fun h_91 => ?_) (fun h_91 => ?_)
            · refine tz_iconst (pc := 108) dX12_appliedBy_108 ?_
              refine tz_istore (pc := 109) (L2 := [_, _, _, _, _, _, _]) dX12_appliedBy_109 (by decide) rfl ?_
              refine tz_aload_n (pc := 111) dX12_appliedBy_111 rfl rfl ?_
              refine tz_iload_n (pc := 112) dX12_appliedBy_112 rfl rfl ?_
              refine tz_iload (pc := 113) dX12_appliedBy_113 rfl ?_
              refine tz_iload (pc := 115) dX12_appliedBy_115 rfl ?_
              refine tz_iload (pc := 117) dX12_appliedBy_117 rfl ?_
              have l0_119 := (g0).1.2
              have t0_119 := (g0).1.1.told
              refine tz_cV (pc := 119) (m_remade hl n _ _ _ _ _ (by omega) (by omega) (by omega) (by omega) b r d s m (g0).1.1 (by omega) (fun q9 => by have e9 := (g0).ar ht ((g0).2.2.1.2.2.2 170 rfl); rw [e9]; omega)) vl_X12_152 dX12_appliedBy_119 o_164 rfl rfl (Nat.le_of_ble_eq_true rfl) ⟨(show 3 + 1 ≤ 4 + 1 * (r9 + 1) by omega), (show 8 + (5 + 11) + 40 * (3) ≤ 40 * (4 + 1 * (r9 + 1)) by omega)⟩ rfl rfl (Nat.le_of_ble_eq_true rfl) (Nat.le_of_ble_eq_true rfl) (fun r9 J_119 hq9 => ?_)
              obtain ⟨z_119, rfl, hz_119, m_119, g_119, h_119⟩ := hq9
              have q_119 := MG.tr g0 g_119
              have f_119 := g_119.2.2.2
              have l_119 := g_119.1.2
              exact tz_iret (pc := 122) (z := z_119) dX12_appliedBy_122 rfl (Nat.le_of_ble_eq_true rfl) (Nat.le_of_ble_eq_true rfl) ⟨Nat.le_refl _, Nat.le_add_right _ _⟩ ⟨_, rfl, (by omega), ⟨m_119, q_119, h_119⟩⟩
            · refine tz_aload_n (pc := 94) dX12_appliedBy_94 rfl rfl ?_
              refine tz_aload_n (pc := 95) dX12_appliedBy_95 rfl rfl ?_
              refine tz_iload_n (pc := 96) dX12_appliedBy_96 rfl rfl ?_
              refine tz_iconst (pc := 97) dX12_appliedBy_97 ?_
              refine tz_cV (pc := 98) (m_arg hl n _ _ _ (by omega) (by decide) b r d s m hM (by omega) (by omega)) vl_X12_88 dX12_appliedBy_98 o_164 rfl rfl (Nat.le_of_ble_eq_true rfl) ⟨(show 0 + 1 ≤ 4 + 1 * (r9 + 1) by omega), (show 8 + (3 + 11) + 40 * (0) ≤ 40 * (4 + 1 * (r9 + 1)) by omega)⟩ rfl rfl (Nat.le_of_ble_eq_true rfl) (Nat.le_of_ble_eq_true rfl) (fun r9 J_98 hq9 => ?_)
              obtain ⟨z_98, rfl, hz_98, rfl, rfl⟩ := hq9
              refine tz_aload_n (pc := 101) dX12_appliedBy_101 rfl rfl ?_
              have l0_102 := (g0).1.2
              have t0_102 := (g0).1.1.told
              have a_102 := hM.arg (t := t) (i := 2) ht (by omega)
              refine tz_cV (pc := 102) (ih _ _ (by omega) b r d s m (g0).1.1 (by omega) (fun v x9 y9 => by have := hy v x9 y9; rw [(g0).2.2.1.2.2.2 174 rfl]; omega) (by rw [((g0).2.1 _ (by omega) (by omega)).1.2]; omega)) vl_X12_148 dX12_appliedBy_102 o_164 rfl rfl (Nat.le_of_ble_eq_true rfl) ⟨(show (4 + 1 * r9) + 1 ≤ 4 + 1 * (r9 + 1) by omega), (show 8 + (7 + 11) + 40 * ((4 + 1 * r9)) ≤ 40 * (4 + 1 * (r9 + 1)) by omega)⟩ rfl rfl (Nat.le_of_ble_eq_true rfl) (Nat.le_of_ble_eq_true rfl) (fun r9 J_102 hq9 => ?_)
              obtain ⟨z_102, rfl, hz_102, m_102, g_102, h_102⟩ := hq9
              have q_102 := MG.tr g0 g_102
              have f_102 := g_102.2.2.2
              have l_102 := g_102.1.2
              refine tz_goto (pc := 105) (tgt := 109) dX12_appliedBy_105 (by decide) ?_
              refine tz_istore (pc := 109) (L2 := [_, _, _, _, _, _, _]) dX12_appliedBy_109 (by decide) rfl ?_
              refine tz_aload_n (pc := 111) dX12_appliedBy_111 rfl rfl ?_
              refine tz_iload_n (pc := 112) dX12_appliedBy_112 rfl rfl ?_
              refine tz_iload (pc := 113) dX12_appliedBy_113 rfl ?_
              refine tz_iload (pc := 115) dX12_appliedBy_115 rfl ?_
              refine tz_iload (pc := 117) dX12_appliedBy_117 rfl ?_
              have l0_119 := (q_102).1.2
              have t0_119 := (q_102).1.1.told
              refine tz_cV (pc := 119) (m_remade hl n _ _ _ _ _ (by omega) (by omega) (by omega) (by omega) b r d s m_102 (q_102).1.1 (by omega) (fun q9 => by have e9 := (q_102).ar ht ((q_102).2.2.1.2.2.2 170 rfl); rw [e9]; omega)) vl_X12_152 dX12_appliedBy_119 o_164 rfl rfl (Nat.le_of_ble_eq_true rfl) ⟨(show 3 + 1 ≤ 4 + 1 * (r9 + 1) by omega), (show 8 + (5 + 11) + 40 * (3) ≤ 40 * (4 + 1 * (r9 + 1)) by omega)⟩ rfl rfl (Nat.le_of_ble_eq_true rfl) (Nat.le_of_ble_eq_true rfl) (fun r9 J_119 hq9 => ?_)
              obtain ⟨z_119, rfl, hz_119, m_119, g_119, h_119⟩ := hq9
              have q_119 := MG.tr q_102 g_119
              have f_119 := g_119.2.2.2
              have l_119 := g_119.1.2
              exact tz_iret (pc := 122) (z := z_119) dX12_appliedBy_122 rfl (Nat.le_of_ble_eq_true rfl) (Nat.le_of_ble_eq_true rfl) ⟨Nat.le_refl _, Nat.le_add_right _ _⟩ ⟨_, rfl, (by omega), ⟨m_119, q_119, h_119⟩⟩
          · refine tz_aload_n (pc := 72) dX12_appliedBy_72 rfl rfl ?_
            refine tz_aload_n (pc := 73) dX12_appliedBy_73 rfl rfl ?_
            refine tz_iload_n (pc := 74) dX12_appliedBy_74 rfl rfl ?_
            refine tz_iconst (pc := 75) dX12_appliedBy_75 ?_
            refine tz_cV (pc := 76) (m_arg hl n _ _ _ (by omega) (by decide) b r d s m hM (by omega) (by omega)) vl_X12_88 dX12_appliedBy_76 o_164 rfl rfl (Nat.le_of_ble_eq_true rfl) ⟨(show 0 + 1 ≤ 4 + 1 * (r9 + 1) by omega), (show 8 + (3 + 11) + 40 * (0) ≤ 40 * (4 + 1 * (r9 + 1)) by omega)⟩ rfl rfl (Nat.le_of_ble_eq_true rfl) (Nat.le_of_ble_eq_true rfl) (fun r9 J_76 hq9 => ?_)
            obtain ⟨z_76, rfl, hz_76, rfl, rfl⟩ := hq9
            refine tz_aload_n (pc := 79) dX12_appliedBy_79 rfl rfl ?_
            have l0_80 := (g0).1.2
            have t0_80 := (g0).1.1.told
            have a_80 := hM.arg (t := t) (i := 1) ht (by omega)
            refine tz_cV (pc := 80) (ih _ _ (by omega) b r d s m (g0).1.1 (by omega) (fun v x9 y9 => by have := hy v x9 y9; rw [(g0).2.2.1.2.2.2 174 rfl]; omega) (by rw [((g0).2.1 _ (by omega) (by omega)).1.2]; omega)) vl_X12_148 dX12_appliedBy_80 o_164 rfl rfl (Nat.le_of_ble_eq_true rfl) ⟨(show (4 + 1 * r9) + 1 ≤ 4 + 1 * (r9 + 1) by omega), (show 8 + (7 + 11) + 40 * ((4 + 1 * r9)) ≤ 40 * (4 + 1 * (r9 + 1)) by omega)⟩ rfl rfl (Nat.le_of_ble_eq_true rfl) (Nat.le_of_ble_eq_true rfl) (fun r9 J_80 hq9 => ?_)
            obtain ⟨z_80, rfl, hz_80, m_80, g_80, h_80⟩ := hq9
            have q_80 := MG.tr g0 g_80
            have f_80 := g_80.2.2.2
            have l_80 := g_80.1.2
            refine tz_goto (pc := 83) (tgt := 87) dX12_appliedBy_83 (by decide) ?_
            refine tz_istore (pc := 87) (L2 := [_, _, _, _, _, _, _]) dX12_appliedBy_87 (by decide) rfl ?_
            refine tz_iload_n (pc := 89) dX12_appliedBy_89 rfl rfl ?_
            refine tz_iconst (pc := 90) dX12_appliedBy_90 ?_
            refine tz_icmp_le (pc := 91) (tgt := 108) dX12_appliedBy_91 (by decide) (by omega) (by decide) (fun h_91 => ?_) (fun h_91 => ?_)
            · refine tz_iconst (pc := 108) dX12_appliedBy_108 ?_
              refine tz_istore (pc := 109) (L2 := [_, _, _, _, _, _, _]) dX12_appliedBy_109 (by decide) rfl ?_
              refine tz_aload_n (pc := 111) dX12_appliedBy_111 rfl rfl ?_
              refine tz_iload_n (pc := 112) dX12_appliedBy_112 rfl rfl ?_
              refine tz_iload (pc := 113) dX12_appliedBy_113 rfl ?_
              refine tz_iload (pc := 115) dX12_appliedBy_115 rfl ?_
              refine tz_iload (pc := 117) dX12_appliedBy_117 rfl ?_
              have l0_119 := (q_80).1.2
              have t0_119 := (q_80).1.1.told
              refine tz_cV (pc := 119) (m_remade hl n _ _ _ _ _ (by omega) (by omega) (by omega) (by omega) b r d s m_80 (q_80).1.1 (by omega) (fun q9 => by have e9 := (q_80).ar ht ((q_80).2.2.1.2.2.2 170 rfl); rw [e9]; omega)) vl_X12_152 dX12_appliedBy_119 o_164 rfl rfl (Nat.le_of_ble_eq_true rfl) ⟨(show 3 + 1 ≤ 4 + 1 * (r9 + 1) by omega), (show 8 + (5 + 11) + 40 * (3) ≤ 40 * (4 + 1 * (r9 + 1)) by omega)⟩ rfl rfl (Nat.le_of_ble_eq_true rfl) (Nat.le_of_ble_eq_true rfl) (fun r9 J_119 hq9 => ?_)
              obtain ⟨z_119, rfl, hz_119, m_119, g_119, h_119⟩ := hq9
              have q_119 := MG.tr q_80 g_119
              have f_119 := g_119.2.2.2
              have l_119 := g_119.1.2
              exact tz_iret (pc := 122) (z := z_119) dX12_appliedBy_122 rfl (Nat.le_of_ble_eq_true rfl) (Nat.le_of_ble_eq_true rfl) ⟨Nat.le_refl _, Nat.le_add_right _ _⟩ ⟨_, rfl, (by omega), ⟨m_119, q_119, h_119⟩⟩
            · refine tz_aload_n (pc := 94) dX12_appliedBy_94 rfl rfl ?_
              refine tz_aload_n (pc := 95) dX12_appliedBy_95 rfl rfl ?_
              refine tz_iload_n (pc := 96) dX12_appliedBy_96 rfl rfl ?_
              refine tz_iconst (pc := 97) dX12_appliedBy_97 ?_
              have l_98 := (q_80).1.2
              have tt_98 := (q_80).1.1.told
              refine tz_cV (pc := 98) (m_arg hl n _ _ _ (by omega) (by decide) b r d s m_80 (q_80).1.1 (by omega) (by omega)) vl_X12_88 dX12_appliedBy_98 o_164 rfl rfl (Nat.le_of_ble_eq_true rfl) ⟨(show 0 + 1 ≤ 4 + 1 * (r9 + 1) by omega), (show 8 + (3 + 11) + 40 * (0) ≤ 40 * (4 + 1 * (r9 + 1)) by omega)⟩ rfl rfl (Nat.le_of_ble_eq_true rfl) (Nat.le_of_ble_eq_true rfl) (fun r9 J_98 hq9 => ?_)
              obtain ⟨z_98, rfl, hz_98, rfl, hv_98⟩ := hq9
              have he_98 : J_80 167 (3 * (b + t) + 2) = J 167 (3 * (b + t) + 2) := ((q_80).2.1 t ht.1 ht.2).2 2 (by omega) (by omega)
              rw [he_98] at hv_98
              obtain rfl : J 167 (3 * (b + t) + 2) = z_98 := hv_98
              refine tz_aload_n (pc := 101) dX12_appliedBy_101 rfl rfl ?_
              have l0_102 := (q_80).1.2
              have t0_102 := (q_80).1.1.told
              have a_102 := hM.arg (t := t) (i := 2) ht (by omega)
              refine tz_cV (pc := 102) (ih _ _ (by omega) b r d s m_80 (q_80).1.1 (by omega) (fun v x9 y9 => by have := hy v x9 y9; rw [(q_80).2.2.1.2.2.2 174 rfl]; omega) (by rw [((q_80).2.1 _ (by omega) (by omega)).1.2]; omega)) vl_X12_148 dX12_appliedBy_102 o_164 rfl rfl (Nat.le_of_ble_eq_true rfl) ⟨(show (4 + 1 * r9) + 1 ≤ 4 + 1 * (r9 + 1) by omega), (show 8 + (7 + 11) + 40 * ((4 + 1 * r9)) ≤ 40 * (4 + 1 * (r9 + 1)) by omega)⟩ rfl rfl (Nat.le_of_ble_eq_true rfl) (Nat.le_of_ble_eq_true rfl) (fun r9 J_102 hq9 => ?_)
              obtain ⟨z_102, rfl, hz_102, m_102, g_102, h_102⟩ := hq9
              have q_102 := MG.tr q_80 g_102
              have f_102 := g_102.2.2.2
              have l_102 := g_102.1.2
              refine tz_goto (pc := 105) (tgt := 109) dX12_appliedBy_105 (by decide) ?_
              refine tz_istore (pc := 109) (L2 := [_, _, _, _, _, _, _]) dX12_appliedBy_109 (by decide) rfl ?_
              refine tz_aload_n (pc := 111) dX12_appliedBy_111 rfl rfl ?_
              refine tz_iload_n (pc := 112) dX12_appliedBy_112 rfl rfl ?_
              refine tz_iload (pc := 113) dX12_appliedBy_113 rfl ?_
              refine tz_iload (pc := 115) dX12_appliedBy_115 rfl ?_
              refine tz_iload (pc := 117) dX12_appliedBy_117 rfl ?_
              have l0_119 := (q_102).1.2
              have t0_119 := (q_102).1.1.told
              refine tz_cV (pc := 119) (m_remade hl n _ _ _ _ _ (by omega) (by omega) (by omega) (by omega) b r d s m_102 (q_102).1.1 (by omega) (fun q9 => by have e9 := (q_102).ar ht ((q_102).2.2.1.2.2.2 170 rfl); rw [e9]; omega)) vl_X12_152 dX12_appliedBy_119 o_164 rfl rfl (Nat.le_of_ble_eq_true rfl) ⟨(show 3 + 1 ≤ 4 + 1 * (r9 + 1) by omega), (show 8 + (5 + 11) + 40 * (3) ≤ 40 * (4 + 1 * (r9 + 1)) by omega)⟩ rfl rfl (Nat.le_of_ble_eq_true rfl) (Nat.le_of_ble_eq_true rfl) (fun r9 J_119 hq9 => ?_)
              obtain ⟨z_119, rfl, hz_119, m_119, g_119, h_119⟩ := hq9
              have q_119 := MG.tr q_102 g_119
              have f_119 := g_119.2.2.2
              have l_119 := g_119.1.2
              exact tz_iret (pc := 122) (z := z_119) dX12_appliedBy_122 rfl (Nat.le_of_ble_eq_true rfl) (Nat.le_of_ble_eq_true rfl) ⟨Nat.le_refl _, Nat.le_add_right _ _⟩ ⟨_, rfl, (by omega), ⟨m_119, q_119, h_119⟩⟩
        · refine tz_aload_n (pc := 50) dX12_appliedBy_50 rfl rfl ?_
          refine tz_aload_n (pc := 51) dX12_appliedBy_51 rfl rfl ?_
          refine tz_iload_n (pc := 52) dX12_appliedBy_52 rfl rfl ?_
          refine tz_iconst (pc := 53) dX12_appliedBy_53 ?_
          refine tz_cV (pc := 54) (m_arg hl n _ _ _ (by omega) (by decide) b r d s m hM (by omega) (by omega)) vl_X12_88 dX12_appliedBy_54 o_164 rfl rfl (Nat.le_of_ble_eq_true rfl) ⟨(show 0 + 1 ≤ 4 + 1 * (r9 + 1) by omega), (show 8 + (3 + 11) + 40 * (0) ≤ 40 * (4 + 1 * (r9 + 1)) by omega)⟩ rfl rfl (Nat.le_of_ble_eq_true rfl) (Nat.le_of_ble_eq_true rfl) (fun r9 J_54 hq9 => ?_)
          obtain ⟨z_54, rfl, hz_54, rfl, rfl⟩ := hq9
          refine tz_aload_n (pc := 57) dX12_appliedBy_57 rfl rfl ?_
          have l0_58 := (g0).1.2
          have t0_58 := (g0).1.1.told
          have a_58 := hM.arg (t := t) (i := 0) ht (by omega)
          refine tz_cV (pc := 58) (ih _ _ (by omega) b r d s m (g0).1.1 (by omega) (fun v x9 y9 => by have := hy v x9 y9; rw [(g0).2.2.1.2.2.2 174 rfl]; omega) (by rw [((g0).2.1 _ (by omega) (by omega)).1.2]; omega)) vl_X12_148 dX12_appliedBy_58 o_164 rfl rfl (Nat.le_of_ble_eq_true rfl) ⟨(show (4 + 1 * r9) + 1 ≤ 4 + 1 * (r9 + 1) by omega), (show 8 + (7 + 11) + 40 * ((4 + 1 * r9)) ≤ 40 * (4 + 1 * (r9 + 1)) by omega)⟩ rfl rfl (Nat.le_of_ble_eq_true rfl) (Nat.le_of_ble_eq_true rfl) (fun r9 J_58 hq9 => ?_)
          obtain ⟨z_58, rfl, hz_58, m_58, g_58, h_58⟩ := hq9
          have q_58 := MG.tr g0 g_58
          have f_58 := g_58.2.2.2
          have l_58 := g_58.1.2
          refine tz_goto (pc := 61) (tgt := 65) dX12_appliedBy_61 (by decide) ?_
          refine tz_istore (pc := 65) (L2 := [_, _, _, _, _, _, _]) dX12_appliedBy_65 (by decide) rfl ?_
          refine tz_iload_n (pc := 67) dX12_appliedBy_67 rfl rfl ?_
          refine tz_iconst (pc := 68) dX12_appliedBy_68 ?_
          refine tz_icmp_le (pc := 69) (tgt := 86) dX12_appliedBy_69 (by decide) (by omega) (by decide) (fun h_69 => ?_) (fun h_69 => ?_)
          · refine tz_iconst (pc := 86) dX12_appliedBy_86 ?_
            refine tz_istore (pc := 87) (L2 := [_, _, _, _, _, _, _]) dX12_appliedBy_87 (by decide) rfl ?_
            refine tz_iload_n (pc := 89) dX12_appliedBy_89 rfl rfl ?_
            refine tz_iconst (pc := 90) dX12_appliedBy_90 ?_
            refine tz_icmp_le (pc := 91) (tgt := 108) dX12_appliedBy_91 (by decide) (by omega) (by decide) (fun h_91 => ?_) (fun h_91 => ?_)
            · refine tz_iconst (pc := 108) dX12_appliedBy_108 ?_
              refine tz_istore (pc := 109) (L2 := [_, _, _, _, _, _, _]) dX12_appliedBy_109 (by decide) rfl ?_
              refine tz_aload_n (pc := 111) dX12_appliedBy_111 rfl rfl ?_
              refine tz_iload_n (pc := 112) dX12_appliedBy_112 rfl rfl ?_
              refine tz_iload (pc := 113) dX12_appliedBy_113 rfl ?_
              refine tz_iload (pc := 115) dX12_appliedBy_115 rfl ?_
              refine tz_iload (pc := 117) dX12_appliedBy_117 rfl ?_
              have l0_119 := (q_58).1.2
              have t0_119 := (q_58).1.1.told
              refine tz_cV (pc := 119) (m_remade hl n _ _ _ _ _ (by omega) (by omega) (by omega) (by omega) b r d s m_58 (q_58).1.1 (by omega) (fun q9 => by have e9 := (q_58).ar ht ((q_58).2.2.1.2.2.2 170 rfl); rw [e9]; omega)) vl_X12_152 dX12_appliedBy_119 o_164 rfl rfl (Nat.le_of_ble_eq_true rfl) ⟨(show 3 + 1 ≤ 4 + 1 * (r9 + 1) by omega), (show 8 + (5 + 11) + 40 * (3) ≤ 40 * (4 + 1 * (r9 + 1)) by omega)⟩ rfl rfl (Nat.le_of_ble_eq_true rfl) (Nat.le_of_ble_eq_true rfl) (fun r9 J_119 hq9 => ?_)
              obtain ⟨z_119, rfl, hz_119, m_119, g_119, h_119⟩ := hq9
              have q_119 := MG.tr q_58 g_119
              have f_119 := g_119.2.2.2
              have l_119 := g_119.1.2
              exact tz_iret (pc := 122) (z := z_119) dX12_appliedBy_122 rfl (Nat.le_of_ble_eq_true rfl) (Nat.le_of_ble_eq_true rfl) ⟨Nat.le_refl _, Nat.le_add_right _ _⟩ ⟨_, rfl, (by omega), ⟨m_119, q_119, h_119⟩⟩
            · refine tz_aload_n (pc := 94) dX12_appliedBy_94 rfl rfl ?_
              refine tz_aload_n (pc := 95) dX12_appliedBy_95 rfl rfl ?_
              refine tz_iload_n (pc := 96) dX12_appliedBy_96 rfl rfl ?_
              refine tz_iconst (pc := 97) dX12_appliedBy_97 ?_
              have l_98 := (q_58).1.2
              have tt_98 := (q_58).1.1.told
              refine tz_cV (pc := 98) (m_arg hl n _ _ _ (by omega) (by decide) b r d s m_58 (q_58).1.1 (by omega) (by omega)) vl_X12_88 dX12_appliedBy_98 o_164 rfl rfl (Nat.le_of_ble_eq_true rfl) ⟨(show 0 + 1 ≤ 4 + 1 * (r9 + 1) by omega), (show 8 + (3 + 11) + 40 * (0) ≤ 40 * (4 + 1 * (r9 + 1)) by omega)⟩ rfl rfl (Nat.le_of_ble_eq_true rfl) (Nat.le_of_ble_eq_true rfl) (fun r9 J_98 hq9 => ?_)
              obtain ⟨z_98, rfl, hz_98, rfl, hv_98⟩ := hq9
              have he_98 : J_58 167 (3 * (b + t) + 2) = J 167 (3 * (b + t) + 2) := ((q_58).2.1 t ht.1 ht.2).2 2 (by omega) (by omega)
              rw [he_98] at hv_98
              obtain rfl : J 167 (3 * (b + t) + 2) = z_98 := hv_98
              refine tz_aload_n (pc := 101) dX12_appliedBy_101 rfl rfl ?_
              have l0_102 := (q_58).1.2
              have t0_102 := (q_58).1.1.told
              have a_102 := hM.arg (t := t) (i := 2) ht (by omega)
              refine tz_cV (pc := 102) (ih _ _ (by omega) b r d s m_58 (q_58).1.1 (by omega) (fun v x9 y9 => by have := hy v x9 y9; rw [(q_58).2.2.1.2.2.2 174 rfl]; omega) (by rw [((q_58).2.1 _ (by omega) (by omega)).1.2]; omega)) vl_X12_148 dX12_appliedBy_102 o_164 rfl rfl (Nat.le_of_ble_eq_true rfl) ⟨(show (4 + 1 * r9) + 1 ≤ 4 + 1 * (r9 + 1) by omega), (show 8 + (7 + 11) + 40 * ((4 + 1 * r9)) ≤ 40 * (4 + 1 * (r9 + 1)) by omega)⟩ rfl rfl (Nat.le_of_ble_eq_true rfl) (Nat.le_of_ble_eq_true rfl) (fun r9 J_102 hq9 => ?_)
              obtain ⟨z_102, rfl, hz_102, m_102, g_102, h_102⟩ := hq9
              have q_102 := MG.tr q_58 g_102
              have f_102 := g_102.2.2.2
              have l_102 := g_102.1.2
              refine tz_goto (pc := 105) (tgt := 109) dX12_appliedBy_105 (by decide) ?_
              refine tz_istore (pc := 109) (L2 := [_, _, _, _, _, _, _]) dX12_appliedBy_109 (by decide) rfl ?_
              refine tz_aload_n (pc := 111) dX12_appliedBy_111 rfl rfl ?_
              refine tz_iload_n (pc := 112) dX12_appliedBy_112 rfl rfl ?_
              refine tz_iload (pc := 113) dX12_appliedBy_113 rfl ?_
              refine tz_iload (pc := 115) dX12_appliedBy_115 rfl ?_
              refine tz_iload (pc := 117) dX12_appliedBy_117 rfl ?_
              have l0_119 := (q_102).1.2
              have t0_119 := (q_102).1.1.told
              refine tz_cV (pc := 119) (m_remade hl n _ _ _ _ _ (by omega) (by omega) (by omega) (by omega) b r d s m_102 (q_102).1.1 (by omega) (fun q9 => by have e9 := (q_102).ar ht ((q_102).2.2.1.2.2.2 170 rfl); rw [e9]; omega)) vl_X12_152 dX12_appliedBy_119 o_164 rfl rfl (Nat.le_of_ble_eq_true rfl) ⟨(show 3 + 1 ≤ 4 + 1 * (r9 + 1) by omega), (show 8 + (5 + 11) + 40 * (3) ≤ 40 * (4 + 1 * (r9 + 1)) by omega)⟩ rfl rfl (Nat.le_of_ble_eq_true rfl) (Nat.le_of_ble_eq_true rfl) (fun r9 J_119 hq9 => ?_)
              obtain ⟨z_119, rfl, hz_119, m_119, g_119, h_119⟩ := hq9
              have q_119 := MG.tr q_102 g_119
              have f_119 := g_119.2.2.2
              have l_119 := g_119.1.2
              exact tz_iret (pc := 122) (z := z_119) dX12_appliedBy_122 rfl (Nat.le_of_ble_eq_true rfl) (Nat.le_of_ble_eq_true rfl) ⟨Nat.le_refl _, Nat.le_add_right _ _⟩ ⟨_, rfl, (by omega), ⟨m_119, q_119, h_119⟩⟩
          · refine tz_aload_n (pc := 72) dX12_appliedBy_72 rfl rfl ?_
            refine tz_aload_n (pc := 73) dX12_appliedBy_73 rfl rfl ?_
            refine tz_iload_n (pc := 74) dX12_appliedBy_74 rfl rfl ?_
            refine tz_iconst (pc := 75) dX12_appliedBy_75 ?_
            have l_76 := (q_58).1.2
            have tt_76 := (q_58).1.1.told
            refine tz_cV (pc := 76) (m_arg hl n _ _ _ (by omega) (by decide) b r d s m_58 (q_58).1.1 (by omega) (by omega)) vl_X12_88 dX12_appliedBy_76 o_164 rfl rfl (Nat.le_of_ble_eq_true rfl) ⟨(show 0 + 1 ≤ 4 + 1 * (r9 + 1) by omega), (show 8 + (3 + 11) + 40 * (0) ≤ 40 * (4 + 1 * (r9 + 1)) by omega)⟩ rfl rfl (Nat.le_of_ble_eq_true rfl) (Nat.le_of_ble_eq_true rfl) (fun r9 J_76 hq9 => ?_)
            obtain ⟨z_76, rfl, hz_76, rfl, hv_76⟩ := hq9
            have he_76 : J_58 167 (3 * (b + t) + 1) = J 167 (3 * (b + t) + 1) := ((q_58).2.1 t ht.1 ht.2).2 1 (by omega) (by omega)
            rw [he_76] at hv_76
            obtain rfl : J 167 (3 * (b + t) + 1) = z_76 := hv_76
            refine tz_aload_n (pc := 79) dX12_appliedBy_79 rfl rfl ?_
            have l0_80 := (q_58).1.2
            have t0_80 := (q_58).1.1.told
            have a_80 := hM.arg (t := t) (i := 1) ht (by omega)
            refine tz_cV (pc := 80) (ih _ _ (by omega) b r d s m_58 (q_58).1.1 (by omega) (fun v x9 y9 => by have := hy v x9 y9; rw [(q_58).2.2.1.2.2.2 174 rfl]; omega) (by rw [((q_58).2.1 _ (by omega) (by omega)).1.2]; omega)) vl_X12_148 dX12_appliedBy_80 o_164 rfl rfl (Nat.le_of_ble_eq_true rfl) ⟨(show (4 + 1 * r9) + 1 ≤ 4 + 1 * (r9 + 1) by omega), (show 8 + (7 + 11) + 40 * ((4 + 1 * r9)) ≤ 40 * (4 + 1 * (r9 + 1)) by omega)⟩ rfl rfl (Nat.le_of_ble_eq_true rfl) (Nat.le_of_ble_eq_true rfl) (fun r9 J_80 hq9 => ?_)
            obtain ⟨z_80, rfl, hz_80, m_80, g_80, h_80⟩ := hq9
            have q_80 := MG.tr q_58 g_80
            have f_80 := g_80.2.2.2
            have l_80 := g_80.1.2
            refine tz_goto (pc := 83) (tgt := 87) dX12_appliedBy_83 (by decide) ?_
            refine tz_istore (pc := 87) (L2 := [_, _, _, _, _, _, _]) dX12_appliedBy_87 (by decide) rfl ?_
            refine tz_iload_n (pc := 89) dX12_appliedBy_89 rfl rfl ?_
            refine tz_iconst (pc := 90) dX12_appliedBy_90 ?_
            refine tz_icmp_le (pc := 91) (tgt := 108) dX12_appliedBy_91 (by decide) (by omega) (by decide) (fun h_91 => ?_) (fun h_91 => ?_)
            · refine tz_iconst (pc := 108) dX12_appliedBy_108 ?_
              refine tz_istore (pc := 109) (L2 := [_, _, _, _, _, _, _]) dX12_appliedBy_109 (by decide) rfl ?_
              refine tz_aload_n (pc := 111) dX12_appliedBy_111 rfl rfl ?_
              refine tz_iload_n (pc := 112) dX12_appliedBy_112 rfl rfl ?_
              refine tz_iload (pc := 113) dX12_appliedBy_113 rfl ?_
              refine tz_iload (pc := 115) dX12_appliedBy_115 rfl ?_
              refine tz_iload (pc := 117) dX12_appliedBy_117 rfl ?_
              have l0_119 := (q_80).1.2
              have t0_119 := (q_80).1.1.told
              refine tz_cV (pc := 119) (m_remade hl n _ _ _ _ _ (by omega) (by omega) (by omega) (by omega) b r d s m_80 (q_80).1.1 (by omega) (fun q9 => by have e9 := (q_80).ar ht ((q_80).2.2.1.2.2.2 170 rfl); rw [e9]; omega)) vl_X12_152 dX12_appliedBy_119 o_164 rfl rfl (Nat.le_of_ble_eq_true rfl) ⟨(show 3 + 1 ≤ 4 + 1 * (r9 + 1) by omega), (show 8 + (5 + 11) + 40 * (3) ≤ 40 * (4 + 1 * (r9 + 1)) by omega)⟩ rfl rfl (Nat.le_of_ble_eq_true rfl) (Nat.le_of_ble_eq_true rfl) (fun r9 J_119 hq9 => ?_)
              obtain ⟨z_119, rfl, hz_119, m_119, g_119, h_119⟩ := hq9
              have q_119 := MG.tr q_80 g_119
              have f_119 := g_119.2.2.2
              have l_119 := g_119.1.2
              exact tz_iret (pc := 122) (z := z_119) dX12_appliedBy_122 rfl (Nat.le_of_ble_eq_true rfl) (Nat.le_of_ble_eq_true rfl) ⟨Nat.le_refl _, Nat.le_add_right _ _⟩ ⟨_, rfl, (by omega), ⟨m_119, q_119, h_119⟩⟩
            · refine tz_aload_n (pc := 94) dX12_appliedBy_94 rfl rfl ?_
              refine tz_aload_n (pc := 95) dX12_appliedBy_95 rfl rfl ?_
              refine tz_iload_n (pc := 96) dX12_appliedBy_96 rfl rfl ?_
              refine tz_iconst (pc := 97) dX12_appliedBy_97 ?_
              have l_98 := (q_80).1.2
              have tt_98 := (q_80).1.1.told
              refine tz_cV (pc := 98) (m_arg hl n _ _ _ (by omega) (by decide) b r d s m_80 (q_80).1.1 (by omega) (by omega)) vl_X12_88 dX12_appliedBy_98 o_164 rfl rfl (Nat.le_of_ble_eq_true rfl) ⟨(show 0 + 1 ≤ 4 + 1 * (r9 + 1) by omega), (show 8 + (3 + 11) + 40 * (0) ≤ 40 * (4 + 1 * (r9 + 1)) by omega)⟩ rfl rfl (Nat.le_of_ble_eq_true rfl) (Nat.le_of_ble_eq_true rfl) (fun r9 J_98 hq9 => ?_)
              obtain ⟨z_98, rfl, hz_98, rfl, hv_98⟩ := hq9
              have he_98 : J_80 167 (3 * (b + t) + 2) = J 167 (3 * (b + t) + 2) := ((q_80).2.1 t ht.1 ht.2).2 2 (by omega) (by omega)
              rw [he_98] at hv_98
              obtain rfl : J 167 (3 * (b + t) + 2) = z_98 := hv_98
              refine tz_aload_n (pc := 101) dX12_appliedBy_101 rfl rfl ?_
              have l0_102 := (q_80).1.2
              have t0_102 := (q_80).1.1.told
              have a_102 := hM.arg (t := t) (i := 2) ht (by omega)
              refine tz_cV (pc := 102) (ih _ _ (by omega) b r d s m_80 (q_80).1.1 (by omega) (fun v x9 y9 => by have := hy v x9 y9; rw [(q_80).2.2.1.2.2.2 174 rfl]; omega) (by rw [((q_80).2.1 _ (by omega) (by omega)).1.2]; omega)) vl_X12_148 dX12_appliedBy_102 o_164 rfl rfl (Nat.le_of_ble_eq_true rfl) ⟨(show (4 + 1 * r9) + 1 ≤ 4 + 1 * (r9 + 1) by omega), (show 8 + (7 + 11) + 40 * ((4 + 1 * r9)) ≤ 40 * (4 + 1 * (r9 + 1)) by omega)⟩ rfl rfl (Nat.le_of_ble_eq_true rfl) (Nat.le_of_ble_eq_true rfl) (fun r9 J_102 hq9 => ?_)
              obtain ⟨z_102, rfl, hz_102, m_102, g_102, h_102⟩ := hq9
              have q_102 := MG.tr q_80 g_102
              have f_102 := g_102.2.2.2
              have l_102 := g_102.1.2
              refine tz_goto (pc := 105) (tgt := 109) dX12_appliedBy_105 (by decide) ?_
              refine tz_istore (pc := 109) (L2 := [_, _, _, _, _, _, _]) dX12_appliedBy_109 (by decide) rfl ?_
              refine tz_aload_n (pc := 111) dX12_appliedBy_111 rfl rfl ?_
              refine tz_iload_n (pc := 112) dX12_appliedBy_112 rfl rfl ?_
              refine tz_iload (pc := 113) dX12_appliedBy_113 rfl ?_
              refine tz_iload (pc := 115) dX12_appliedBy_115 rfl ?_
              refine tz_iload (pc := 117) dX12_appliedBy_117 rfl ?_
              have l0_119 := (q_102).1.2
              have t0_119 := (q_102).1.1.told
              refine tz_cV (pc := 119) (m_remade hl n _ _ _ _ _ (by omega) (by omega) (by omega) (by omega) b r d s m_102 (q_102).1.1 (by omega) (fun q9 => by have e9 := (q_102).ar ht ((q_102).2.2.1.2.2.2 170 rfl); rw [e9]; omega)) vl_X12_152 dX12_appliedBy_119 o_164 rfl rfl (Nat.le_of_ble_eq_true rfl) ⟨(show 3 + 1 ≤ 4 + 1 * (r9 + 1) by omega), (show 8 + (5 + 11) + 40 * (3) ≤ 40 * (4 + 1 * (r9 + 1)) by omega)⟩ rfl rfl (Nat.le_of_ble_eq_true rfl) (Nat.le_of_ble_eq_true rfl) (fun r9 J_119 hq9 => ?_)
              obtain ⟨z_119, rfl, hz_119, m_119, g_119, h_119⟩ := hq9
              have q_119 := MG.tr q_102 g_119
              have f_119 := g_119.2.2.2
              have l_119 := g_119.1.2
              exact tz_iret (pc := 122) (z := z_119) dX12_appliedBy_122 rfl (Nat.le_of_ble_eq_true rfl) (Nat.le_of_ble_eq_true rfl) ⟨Nat.le_refl _, Nat.le_add_right _ _⟩ ⟨_, rfl, (by omega), ⟨m_119, q_119, h_119⟩⟩
    · refine tz_iconst (pc := 7) dX12_appliedBy_7 ?_
      exact tz_iret (pc := 8) (z := 0) dX12_appliedBy_8 rfl (Nat.le_of_ble_eq_true rfl) (Nat.le_of_ble_eq_true rfl) ⟨Nat.le_refl _, Nat.le_add_right _ _⟩ ⟨_, rfl, (by decide), ⟨m, g0, fun q9 => by omega⟩⟩

theorem m_appM {l : Launch} {G : tb_G} (hl : l.stackTraces = false) (n : Nat) (J : zJ) (t : Int) (hr_t : -2147483648 ≤ t ∧ t < 2147483648) (b r d s m : Int) (hM : MS J b r d s m) (ht : 0 ≤ t ∧ t < m) (hy : gOK (J 174) m) : tz_Ok l G M_X12_appliedBy 11 0 0 [.ref 164, zi t, .ref 174] n J (zqi (fun z J' => ∃ m', MG [] [] (fun _ => false) J' J b r d s m m' ∧ (J' 164 21 = 0 → 0 ≤ z ∧ z < m'))) zN := m_appMR hl n 7 J t hr_t b r d s m hM ht hy (by have := (hM.ar ht).2.2.1; omega)
end
section
set_option maxHeartbeats 4000000 in
set_option maxRecDepth 100000 in
theorem m_drawOf {l : Launch} {G : tb_G} (hl : l.stackTraces = false) (n : Nat) (J : zJ) (k : Int) (hr_k : -2147483648 ≤ k ∧ k < 2147483648)  (h0 : 0 < k) : tz_Ok l G M_X12_drawOf 0 0 0 [.ref 164, zi k] n J (zqi (fun z J' => zup J 164 46 (zw (J 164 46 * 1103515245 + 12345)) = J' ∧ (0 ≤ z ∧ z < k))) zN := by
  refine tz_Ok.of hl (by decide +kernel) rfl (tb_c1 rfl) (Nat.le_of_ble_eq_true rfl) ?_
  show tz_At l G M_X12_drawOf (tb_rm 0 0 0) none (tb_ZM G 0 0 (zQ n 0 (zqi (fun z J' => zup J 164 46 (zw (J 164 46 * 1103515245 + 12345)) = J' ∧ (0 ≤ z ∧ z < k)))) (zX n 0 zN)) 0 0 n J 0 [some (.ref 164), some (zi k)] []
  refine tz_aload_n (pc := 0) dX12_drawOf_0 rfl rfl ?_
  refine tz_aload_n (pc := 1) dX12_drawOf_1 rfl rfl ?_
  refine tz_fI (pc := 2) (kz := 46) (v := (J 164 46)) dX12_drawOf_2 fl_X12_423 i_164_46 rfl rfl (fun r_2 => ?_)
  refine tz_ldcw (pc := 5) (z := 1103515245) dX12_drawOf_5 ct_X12_426 (by decide) ?_
  refine tz_imul (pc := 8) (v := (J 164 46) * 1103515245) dX12_drawOf_8 rfl ?_
  refine tz_sipush (pc := 9) dX12_drawOf_9 (by decide) ?_
  refine tz_iadd (pc := 12) (v := ((J 164 46) * 1103515245) + 12345) dX12_drawOf_12 rfl ?_
  refine tz_tw ?_
  have rw_13 := zw_rg (((J 164 46) * 1103515245) + 12345)
  refine tz_pI (pc := 13) (kz := 46) dX12_drawOf_13 fl_X12_423 i_164_46 rfl rfl (zw_rg _) ?_
  refine tz_aload_n (pc := 16) dX12_drawOf_16 rfl rfl ?_
  refine tz_fI (pc := 17) (kz := 46) (v := (zw (((J 164 46) * 1103515245) + 12345))) dX12_drawOf_17 fl_X12_423 i_164_46 rfl rfl (fun r_17 => ?_)
  refine tz_bipush (pc := 20) dX12_drawOf_20 (by decide) ?_
  refine tz_ishr (pc := 22) (v := zshr (zw (((J 164 46) * 1103515245) + 12345)) 16) dX12_drawOf_22 rfl ?_
  refine tz_sipush (pc := 23) dX12_drawOf_23 (by decide) ?_
  refine tz_iand (pc := 26) (v := zand (zshr (zw (((J 164 46) * 1103515245) + 12345)) 16) 32767) dX12_drawOf_26 rfl ?_
  refine tz_iload_n (pc := 27) dX12_drawOf_27 rfl rfl ?_
  have ha9 := z_and (zshr (zw (J 164 46 * 1103515245 + 12345)) 16) (m := 32767) 15 (by decide) (by decide)
  refine tz_irem (pc := 28) (a := (zand (zshr (zw (((J 164 46) * 1103515245) + 12345)) 16) 32767)) (b := k) (v := ((zand (zshr (zw (((J 164 46) * 1103515245) + 12345)) 16) 32767) % k)) dX12_drawOf_28 (by omega) (by omega) rfl ?_
  exact tz_iret (pc := 29) (z := ((zand (zshr (zw (((J 164 46) * 1103515245) + 12345)) 16) 32767) % k)) dX12_drawOf_29 rfl (Nat.le_of_ble_eq_true rfl) (Nat.le_of_ble_eq_true rfl) ⟨Nat.le_refl _, Nat.le_add_right _ _⟩ ⟨_, rfl, (by have := Int.emod_nonneg (zand (zshr (zw (J 164 46 * 1103515245 + 12345)) 16) 32767) (show k ≠ 0 by omega); have := Int.emod_lt_of_pos (zand (zshr (zw (J 164 46 * 1103515245 + 12345)) 16) 32767) h0; omega), ⟨rfl, Int.emod_nonneg _ (by omega), Int.emod_lt_of_pos _ h0⟩⟩

set_option maxHeartbeats 4000000 in
set_option maxRecDepth 100000 in
theorem m_drawnR {l : Launch} {G : tb_G} (hl : l.stackTraces = false) (n : Nat) : ∀ (r9 : Nat) (J : zJ) (x : Int) (hr_x : -2147483648 ≤ x ∧ x < 2147483648) (s m : Int) (hM : MS J 0 0 0 s m) (h9 : J 164 9 = s) (hx : 1 ≤ x), (x.toNat) < r9 → tz_Ok l G M_X12_drawn (6 + 1 * r9) 0 0 [.ref 164, zi x] n J (zqi (fun z J' => ∃ m', MG [] [46] (fun _ => false) J' J 0 0 0 s m m' ∧ (J' 164 21 = 0 → 0 ≤ z ∧ z < m'))) zN := by
  intro r9
  induction r9 with
  | zero => intro J x hr_x s m hM h9 hx hm9; exact absurd hm9 (Nat.not_lt_zero _)
  | succ r9 ih =>
    intro J x hr_x s m hM h9 hx hm9
    refine tz_Ok.of hl (by decide +kernel) rfl (tb_c1 rfl) (Nat.le_of_ble_eq_true rfl) ?_
    show tz_At l G M_X12_drawn (tb_rm (6 + 1 * (r9 + 1)) 0 0) none (tb_ZM G 0 0 (zQ n 0 (zqi (fun z J' => ∃ m', MG [] [46] (fun _ => false) J' J 0 0 0 s m m' ∧ (J' 164 21 = 0 → 0 ≤ z ∧ z < m')))) (zX n 0 zN)) 0 0 n J 0 [some (.ref 164), some (zi x), none, none, none, none, none] []
    have hT := hM.told
    have g0 : MG [] [46] (fun _ => false) J J 0 0 0 s m m := MG.rf hM
    refine tz_aload_n (pc := 0) dX12_drawn_0 rfl rfl ?_
    refine tz_bipush (pc := 1) dX12_drawn_1 (by decide) ?_
    refine tz_cV (pc := 3) (m_drawOf hl n _ _ (by omega) (by omega)) vl_X12_427 dX12_drawn_3 o_164 rfl rfl (Nat.le_of_ble_eq_true rfl) ⟨(show 0 + 1 ≤ 6 + 1 * (r9 + 1) by omega), (show 8 + (2 + 11) + 40 * (0) ≤ 40 * (6 + 1 * (r9 + 1)) by omega)⟩ rfl rfl (Nat.le_of_ble_eq_true rfl) (Nat.le_of_ble_eq_true rfl) (fun r9 J_3 hq9 => ?_)
    obtain ⟨z_3, rfl, hz_3, hj_3, hz_3⟩ := hq9
    have e_3 : zOf (zbut [164]) J_3 J := by rw [← hj_3]; exact zOf.up rfl zOf.rf
    have k_3 : ∀ k, ¬ k = 46 → J_3 164 k = J 164 k := fun k hk => by rw [← hj_3]; exact zup_ne hk
    have q_3 : MG [] [46] (fun _ => false) J_3 J 0 0 0 s m m := (g0).off (fun k hk => k_3 k (by simp at hk; omega)) (fun k _ => congrFun (e_3 165 rfl) k) (e_3.mono (zbut_sub (fun c hc => by simp at hc ⊢; omega))) ⟨rfl, rfl, rfl, rfl⟩ rfl ⟨rfl, rfl, rfl, rfl⟩
    refine tz_istore_n (pc := 6) (L2 := [_, _, _, _, _, _, _]) dX12_drawn_6 rfl (by decide) rfl ?_
    refine tz_iload_n (pc := 7) dX12_drawn_7 rfl rfl ?_
    refine tz_if_eq (pc := 8) (tgt := 23) dX12_drawn_8 (by decide) (by omega) (fun h_8 => ?_) (fun h_8 => ?_)
    · refine tz_aload_n (pc := 23) dX12_drawn_23 rfl rfl ?_
      refine tz_aload_n (pc := 24) dX12_drawn_24 rfl rfl ?_
      refine tz_iconst (pc := 25) dX12_drawn_25 ?_
      refine tz_cV (pc := 26) (m_drawOf hl n _ _ (by omega) (by omega)) vl_X12_427 dX12_drawn_26 o_164 rfl rfl (Nat.le_of_ble_eq_true rfl) ⟨(show 0 + 1 ≤ 6 + 1 * (r9 + 1) by omega), (show 8 + (2 + 11) + 40 * (0) ≤ 40 * (6 + 1 * (r9 + 1)) by omega)⟩ rfl rfl (Nat.le_of_ble_eq_true rfl) (Nat.le_of_ble_eq_true rfl) (fun r9 J_26 hq9 => ?_)
      obtain ⟨z_26, rfl, hz_26, hj_26, hz_26⟩ := hq9
      have e_26 : zOf (zbut [164]) J_26 J_3 := by rw [← hj_26]; exact zOf.up rfl zOf.rf
      have k_26 : ∀ k, ¬ k = 46 → J_26 164 k = J_3 164 k := fun k hk => by rw [← hj_26]; exact zup_ne hk
      have q_26 : MG [] [46] (fun _ => false) J_26 J 0 0 0 s m m := (q_3).off (fun k hk => k_26 k (by simp at hk; omega)) (fun k _ => congrFun (e_26 165 rfl) k) (e_26.mono (zbut_sub (fun c hc => by simp at hc ⊢; omega))) ⟨rfl, rfl, rfl, rfl⟩ rfl ⟨rfl, rfl, rfl, rfl⟩
      have l0_29 := (q_26).1.2
      have t0_29 := (q_26).1.1.told
      refine tz_cV (pc := 29) (m_varTerm hl n _ _ (by omega) 0 0 0 s m (q_26).1.1 (by omega)) vl_X12_180 dX12_drawn_29 o_164 rfl rfl (Nat.le_of_ble_eq_true rfl) ⟨(show 3 + 1 ≤ 6 + 1 * (r9 + 1) by omega), (show 8 + (2 + 11) + 40 * (3) ≤ 40 * (6 + 1 * (r9 + 1)) by omega)⟩ rfl rfl (Nat.le_of_ble_eq_true rfl) (Nat.le_of_ble_eq_true rfl) (fun r9 J_29 hq9 => ?_)
      obtain ⟨z_29, rfl, hz_29, m_29, g_29, h_29⟩ := hq9
      have q_29 := MG.tr q_26 (MG.mono g_29 (fun _ h => by simp at h) (fun _ h => by simp at h) (fun _ h => h))
      have f_29 := g_29.2.2.2
      have l_29 := g_29.1.2
      exact tz_iret (pc := 32) (z := z_29) dX12_drawn_32 rfl (Nat.le_of_ble_eq_true rfl) (Nat.le_of_ble_eq_true rfl) ⟨Nat.le_refl _, Nat.le_add_right _ _⟩ ⟨_, rfl, (by omega), ⟨m_29, q_29, h_29⟩⟩
    · refine tz_iload_n (pc := 11) dX12_drawn_11 rfl rfl ?_
      refine tz_iconst (pc := 12) dX12_drawn_12 ?_
      refine tz_icmp_eq (pc := 13) (tgt := 23) dX12_drawn_13 (by decide) (by omega) (by decide) (fun h_13 => ?_) (fun h_13 => ?_)
      · refine tz_aload_n (pc := 23) dX12_drawn_23 rfl rfl ?_
        refine tz_aload_n (pc := 24) dX12_drawn_24 rfl rfl ?_
        refine tz_iconst (pc := 25) dX12_drawn_25 ?_
        refine tz_cV (pc := 26) (m_drawOf hl n _ _ (by omega) (by omega)) vl_X12_427 dX12_drawn_26 o_164 rfl rfl (Nat.le_of_ble_eq_true rfl) ⟨(show 0 + 1 ≤ 6 + 1 * (r9 + 1) by omega), (show 8 + (2 + 11) + 40 * (0) ≤ 40 * (6 + 1 * (r9 + 1)) by omega)⟩ rfl rfl (Nat.le_of_ble_eq_true rfl) (Nat.le_of_ble_eq_true rfl) (fun r9 J_26 hq9 => ?_)
        obtain ⟨z_26, rfl, hz_26, hj_26, hz_26⟩ := hq9
        have e_26 : zOf (zbut [164]) J_26 J_3 := by rw [← hj_26]; exact zOf.up rfl zOf.rf
        have k_26 : ∀ k, ¬ k = 46 → J_26 164 k = J_3 164 k := fun k hk => by rw [← hj_26]; exact zup_ne hk
        have q_26 : MG [] [46] (fun _ => false) J_26 J 0 0 0 s m m := (q_3).off (fun k hk => k_26 k (by simp at hk; omega)) (fun k _ => congrFun (e_26 165 rfl) k) (e_26.mono (zbut_sub (fun c hc => by simp at hc ⊢; omega))) ⟨rfl, rfl, rfl, rfl⟩ rfl ⟨rfl, rfl, rfl, rfl⟩
        have l0_29 := (q_26).1.2
        have t0_29 := (q_26).1.1.told
        refine tz_cV (pc := 29) (m_varTerm hl n _ _ (by omega) 0 0 0 s m (q_26).1.1 (by omega)) vl_X12_180 dX12_drawn_29 o_164 rfl rfl (Nat.le_of_ble_eq_true rfl) ⟨(show 3 + 1 ≤ 6 + 1 * (r9 + 1) by omega), (show 8 + (2 + 11) + 40 * (3) ≤ 40 * (6 + 1 * (r9 + 1)) by omega)⟩ rfl rfl (Nat.le_of_ble_eq_true rfl) (Nat.le_of_ble_eq_true rfl) (fun r9 J_29 hq9 => ?_)
        obtain ⟨z_29, rfl, hz_29, m_29, g_29, h_29⟩ := hq9
        have q_29 := MG.tr q_26 (MG.mono g_29 (fun _ h => by simp at h) (fun _ h => by simp at h) (fun _ h => h))
        have f_29 := g_29.2.2.2
        have l_29 := g_29.1.2
        exact tz_iret (pc := 32) (z := z_29) dX12_drawn_32 rfl (Nat.le_of_ble_eq_true rfl) (Nat.le_of_ble_eq_true rfl) ⟨Nat.le_refl _, Nat.le_add_right _ _⟩ ⟨_, rfl, (by omega), ⟨m_29, q_29, h_29⟩⟩
      · refine tz_aload_n (pc := 16) dX12_drawn_16 rfl rfl ?_
        refine tz_fI (pc := 17) (kz := 9) (v := s) dX12_drawn_17 fl_X12_347 i_164_9 rfl (Eq.trans (k_3 9 (by decide)) h9) (fun r_17 => ?_)
        refine tz_if_ne (pc := 20) (tgt := 33) dX12_drawn_20 (by decide) (by omega) (fun h_20 => ?_) (fun h_20 => ?_)
        · refine tz_aload_n (pc := 33) dX12_drawn_33 rfl rfl ?_
          refine tz_aload_n (pc := 34) dX12_drawn_34 rfl rfl ?_
          refine tz_fI (pc := 35) (kz := 9) (v := s) dX12_drawn_35 fl_X12_347 i_164_9 rfl (Eq.trans (k_3 9 (by decide)) h9) (fun r_35 => ?_)
          refine tz_cV (pc := 38) (m_drawOf hl n _ _ (by omega) (by omega)) vl_X12_427 dX12_drawn_38 o_164 rfl rfl (Nat.le_of_ble_eq_true rfl) ⟨(show 0 + 1 ≤ 6 + 1 * (r9 + 1) by omega), (show 8 + (2 + 11) + 40 * (0) ≤ 40 * (6 + 1 * (r9 + 1)) by omega)⟩ rfl rfl (Nat.le_of_ble_eq_true rfl) (Nat.le_of_ble_eq_true rfl) (fun r9 J_38 hq9 => ?_)
          obtain ⟨z_38, rfl, hz_38, hj_38, hz_38⟩ := hq9
          have e_38 : zOf (zbut [164]) J_38 J_3 := by rw [← hj_38]; exact zOf.up rfl zOf.rf
          have k_38 : ∀ k, ¬ k = 46 → J_38 164 k = J_3 164 k := fun k hk => by rw [← hj_38]; exact zup_ne hk
          have q_38 : MG [] [46] (fun _ => false) J_38 J 0 0 0 s m m := (q_3).off (fun k hk => k_38 k (by simp at hk; omega)) (fun k _ => congrFun (e_38 165 rfl) k) (e_38.mono (zbut_sub (fun c hc => by simp at hc ⊢; omega))) ⟨rfl, rfl, rfl, rfl⟩ rfl ⟨rfl, rfl, rfl, rfl⟩
          refine tz_istore_n (pc := 41) (L2 := [_, _, _, _, _, _, _]) dX12_drawn_41 rfl (by decide) rfl ?_
          refine tz_aload_n (pc := 42) dX12_drawn_42 rfl rfl ?_
          refine tz_fR (pc := 43) dX12_drawn_43 fl_X12_25 r_164_5 ?_
          refine tz_iload_n (pc := 46) dX12_drawn_46 rfl rfl ?_
          have hA := hM.2.2.2.2.2.1.2 z_38 (by omega) (by omega)
          simp only [Int.zero_add] at hA
          refine tz_aL (pc := 47) (z := z_38) (v := (J 170 z_38)) dX12_drawn_47 a_170 rfl (by omega) (Eq.trans (congrFun (e_38 170 rfl) z_38) (Eq.trans (congrFun (e_3 170 rfl) z_38) rfl)) (fun r_47 => ?_)
          refine tz_if_le (pc := 48) (tgt := 61) dX12_drawn_48 (by decide) (by omega) (fun h_48 => ?_) (fun h_48 => ?_)
          · refine tz_iconst (pc := 61) dX12_drawn_61 ?_
            refine tz_istore (pc := 62) (L2 := [_, _, _, _, _, _, _]) dX12_drawn_62 (by decide) rfl ?_
            refine tz_aload_n (pc := 64) dX12_drawn_64 rfl rfl ?_
            refine tz_fR (pc := 65) dX12_drawn_65 fl_X12_25 r_164_5 ?_
            refine tz_iload_n (pc := 68) dX12_drawn_68 rfl rfl ?_
            refine tz_aL (pc := 69) (z := z_38) (v := (J 170 z_38)) dX12_drawn_69 a_170 rfl (by omega) (Eq.trans (congrFun (e_38 170 rfl) z_38) (Eq.trans (congrFun (e_3 170 rfl) z_38) rfl)) (fun r_69 => ?_)
            refine tz_iconst (pc := 70) dX12_drawn_70 ?_
            refine tz_icmp_le (pc := 71) (tgt := 84) dX12_drawn_71 (by decide) (by omega) (by decide) (fun h_71 => ?_) (fun h_71 => ?_)
            · refine tz_iconst (pc := 84) dX12_drawn_84 ?_
              refine tz_istore (pc := 85) (L2 := [_, _, _, _, _, _, _]) dX12_drawn_85 (by decide) rfl ?_
              refine tz_aload_n (pc := 87) dX12_drawn_87 rfl rfl ?_
              refine tz_fR (pc := 88) dX12_drawn_88 fl_X12_25 r_164_5 ?_
              refine tz_iload_n (pc := 91) dX12_drawn_91 rfl rfl ?_
              refine tz_aL (pc := 92) (z := z_38) (v := (J 170 z_38)) dX12_drawn_92 a_170 rfl (by omega) (Eq.trans (congrFun (e_38 170 rfl) z_38) (Eq.trans (congrFun (e_3 170 rfl) z_38) rfl)) (fun r_92 => ?_)
              refine tz_iconst (pc := 93) dX12_drawn_93 ?_
              refine tz_icmp_le (pc := 94) (tgt := 107) dX12_drawn_94 (by decide) (by omega) (by decide) (fun h_94 => ?_) (fun h_94 => ?_)
              · refine tz_iconst (pc := 107) dX12_drawn_107 ?_
                refine tz_istore (pc := 108) (L2 := [_, _, _, _, _, _, _]) dX12_drawn_108 (by decide) rfl ?_
                refine tz_aload_n (pc := 110) dX12_drawn_110 rfl rfl ?_
                refine tz_iload_n (pc := 111) dX12_drawn_111 rfl rfl ?_
                refine tz_iload (pc := 112) dX12_drawn_112 rfl ?_
                refine tz_iload (pc := 114) dX12_drawn_114 rfl ?_
                refine tz_iload (pc := 116) dX12_drawn_116 rfl ?_
                have l0_118 := (q_38).1.2
                have t0_118 := (q_38).1.1.told
                refine tz_cV (pc := 118) (m_termOf hl n _ _ _ _ _ (by omega) (by omega) (by omega) (by omega) 0 0 0 s m (q_38).1.1 (by omega) (fun q9 => by simp only [arh_pos (show 0 ≤ z_38 by omega), Int.zero_add, (q_38).2.2.1.2.2.2 170 rfl]; omega)) vl_X12_107 dX12_drawn_118 o_164 rfl rfl (Nat.le_of_ble_eq_true rfl) ⟨(show 2 + 1 ≤ 6 + 1 * (r9 + 1) by omega), (show 8 + (8 + 11) + 40 * (2) ≤ 40 * (6 + 1 * (r9 + 1)) by omega)⟩ rfl rfl (Nat.le_of_ble_eq_true rfl) (Nat.le_of_ble_eq_true rfl) (fun r9 J_118 hq9 => ?_)
                obtain ⟨z_118, rfl, hz_118, m_118, g_118, h_118⟩ := hq9
                have q_118 := MG.tr q_38 (MG.mono g_118 (fun _ h => by simp at h) (fun _ h => by simp at h) (fun _ h => h))
                have f_118 := g_118.2.2.2
                have l_118 := g_118.1.2
                exact tz_iret (pc := 121) (z := z_118) dX12_drawn_121 rfl (Nat.le_of_ble_eq_true rfl) (Nat.le_of_ble_eq_true rfl) ⟨Nat.le_refl _, Nat.le_add_right _ _⟩ ⟨_, rfl, (by omega), ⟨m_118, q_118, h_118⟩⟩
              · refine tz_aload_n (pc := 97) dX12_drawn_97 rfl rfl ?_
                refine tz_iload_n (pc := 98) dX12_drawn_98 rfl rfl ?_
                refine tz_iconst (pc := 99) dX12_drawn_99 ?_
                refine tz_isub (pc := 100) (v := x - 1) dX12_drawn_100 rfl ?_
                have l0_101 := (q_38).1.2
                have t0_101 := (q_38).1.1.told
                refine tz_cV (pc := 101) (ih _ _ (by omega) s m (q_38).1.1 (by rw [(q_38).2.2.1.2.2.1 9 (by decide)]; exact h9) (by omega) (by omega)) vl_X12_430 dX12_drawn_101 o_164 rfl rfl (Nat.le_of_ble_eq_true rfl) ⟨(show (6 + 1 * r9) + 1 ≤ 6 + 1 * (r9 + 1) by omega), (show 8 + (7 + 11) + 40 * ((6 + 1 * r9)) ≤ 40 * (6 + 1 * (r9 + 1)) by omega)⟩ rfl rfl (Nat.le_of_ble_eq_true rfl) (Nat.le_of_ble_eq_true rfl) (fun r9 J_101 hq9 => ?_)
                obtain ⟨z_101, rfl, hz_101, m_101, g_101, h_101⟩ := hq9
                have q_101 := MG.tr q_38 g_101
                have f_101 := g_101.2.2.2
                have l_101 := g_101.1.2
                refine tz_goto (pc := 104) (tgt := 108) dX12_drawn_104 (by decide) ?_
                refine tz_istore (pc := 108) (L2 := [_, _, _, _, _, _, _]) dX12_drawn_108 (by decide) rfl ?_
                refine tz_aload_n (pc := 110) dX12_drawn_110 rfl rfl ?_
                refine tz_iload_n (pc := 111) dX12_drawn_111 rfl rfl ?_
                refine tz_iload (pc := 112) dX12_drawn_112 rfl ?_
                refine tz_iload (pc := 114) dX12_drawn_114 rfl ?_
                refine tz_iload (pc := 116) dX12_drawn_116 rfl ?_
                have l0_118 := (q_101).1.2
                have t0_118 := (q_101).1.1.told
                refine tz_cV (pc := 118) (m_termOf hl n _ _ _ _ _ (by omega) (by omega) (by omega) (by omega) 0 0 0 s m_101 (q_101).1.1 (by omega) (fun q9 => by simp only [arh_pos (show 0 ≤ z_38 by omega), Int.zero_add, (q_101).2.2.1.2.2.2 170 rfl]; omega)) vl_X12_107 dX12_drawn_118 o_164 rfl rfl (Nat.le_of_ble_eq_true rfl) ⟨(show 2 + 1 ≤ 6 + 1 * (r9 + 1) by omega), (show 8 + (8 + 11) + 40 * (2) ≤ 40 * (6 + 1 * (r9 + 1)) by omega)⟩ rfl rfl (Nat.le_of_ble_eq_true rfl) (Nat.le_of_ble_eq_true rfl) (fun r9 J_118 hq9 => ?_)
                obtain ⟨z_118, rfl, hz_118, m_118, g_118, h_118⟩ := hq9
                have q_118 := MG.tr q_101 (MG.mono g_118 (fun _ h => by simp at h) (fun _ h => by simp at h) (fun _ h => h))
                have f_118 := g_118.2.2.2
                have l_118 := g_118.1.2
                exact tz_iret (pc := 121) (z := z_118) dX12_drawn_121 rfl (Nat.le_of_ble_eq_true rfl) (Nat.le_of_ble_eq_true rfl) ⟨Nat.le_refl _, Nat.le_add_right _ _⟩ ⟨_, rfl, (by omega), ⟨m_118, q_118, h_118⟩⟩
            · refine tz_aload_n (pc := 74) dX12_drawn_74 rfl rfl ?_
              refine tz_iload_n (pc := 75) dX12_drawn_75 rfl rfl ?_
              refine tz_iconst (pc := 76) dX12_drawn_76 ?_
              refine tz_isub (pc := 77) (v := x - 1) dX12_drawn_77 rfl ?_
              have l0_78 := (q_38).1.2
              have t0_78 := (q_38).1.1.told
              refine tz_cV (pc := 78) (ih _ _ (by omega) s m (q_38).1.1 (by rw [(q_38).2.2.1.2.2.1 9 (by decide)]; exact h9) (by omega) (by omega)) vl_X12_430 dX12_drawn_78 o_164 rfl rfl (Nat.le_of_ble_eq_true rfl) ⟨(show (6 + 1 * r9) + 1 ≤ 6 + 1 * (r9 + 1) by omega), (show 8 + (7 + 11) + 40 * ((6 + 1 * r9)) ≤ 40 * (6 + 1 * (r9 + 1)) by omega)⟩ rfl rfl (Nat.le_of_ble_eq_true rfl) (Nat.le_of_ble_eq_true rfl) (fun r9 J_78 hq9 => ?_)
              obtain ⟨z_78, rfl, hz_78, m_78, g_78, h_78⟩ := hq9
              have q_78 := MG.tr q_38 g_78
              have f_78 := g_78.2.2.2
              have l_78 := g_78.1.2
              refine tz_goto (pc := 81) (tgt := 85) dX12_drawn_81 (by decide) ?_
              refine tz_istore (pc := 85) (L2 := [_, _, _, _, _, _, _]) dX12_drawn_85 (by decide) rfl ?_
              refine tz_aload_n (pc := 87) dX12_drawn_87 rfl rfl ?_
              refine tz_fR (pc := 88) dX12_drawn_88 fl_X12_25 r_164_5 ?_
              refine tz_iload_n (pc := 91) dX12_drawn_91 rfl rfl ?_
              refine tz_aL (pc := 92) (z := z_38) (v := (J 170 z_38)) dX12_drawn_92 a_170 rfl (by omega) (Eq.trans (congrFun (g_78.2.2.1.2.2.2 170 rfl) z_38) (Eq.trans (congrFun (e_38 170 rfl) z_38) (Eq.trans (congrFun (e_3 170 rfl) z_38) rfl))) (fun r_92 => ?_)
              refine tz_iconst (pc := 93) dX12_drawn_93 ?_
              refine tz_icmp_le (pc := 94) (tgt := 107) dX12_drawn_94 (by decide) (by omega) (by decide) (fun h_94 => ?_) (fun h_94 => ?_)
              · refine tz_iconst (pc := 107) dX12_drawn_107 ?_
                refine tz_istore (pc := 108) (L2 := [_, _, _, _, _, _, _]) dX12_drawn_108 (by decide) rfl ?_
                refine tz_aload_n (pc := 110) dX12_drawn_110 rfl rfl ?_
                refine tz_iload_n (pc := 111) dX12_drawn_111 rfl rfl ?_
                refine tz_iload (pc := 112) dX12_drawn_112 rfl ?_
                refine tz_iload (pc := 114) dX12_drawn_114 rfl ?_
                refine tz_iload (pc := 116) dX12_drawn_116 rfl ?_
                have l0_118 := (q_78).1.2
                have t0_118 := (q_78).1.1.told
                refine tz_cV (pc := 118) (m_termOf hl n _ _ _ _ _ (by omega) (by omega) (by omega) (by omega) 0 0 0 s m_78 (q_78).1.1 (by omega) (fun q9 => by simp only [arh_pos (show 0 ≤ z_38 by omega), Int.zero_add, (q_78).2.2.1.2.2.2 170 rfl]; omega)) vl_X12_107 dX12_drawn_118 o_164 rfl rfl (Nat.le_of_ble_eq_true rfl) ⟨(show 2 + 1 ≤ 6 + 1 * (r9 + 1) by omega), (show 8 + (8 + 11) + 40 * (2) ≤ 40 * (6 + 1 * (r9 + 1)) by omega)⟩ rfl rfl (Nat.le_of_ble_eq_true rfl) (Nat.le_of_ble_eq_true rfl) (fun r9 J_118 hq9 => ?_)
                obtain ⟨z_118, rfl, hz_118, m_118, g_118, h_118⟩ := hq9
                have q_118 := MG.tr q_78 (MG.mono g_118 (fun _ h => by simp at h) (fun _ h => by simp at h) (fun _ h => h))
                have f_118 := g_118.2.2.2
                have l_118 := g_118.1.2
                exact tz_iret (pc := 121) (z := z_118) dX12_drawn_121 rfl (Nat.le_of_ble_eq_true rfl) (Nat.le_of_ble_eq_true rfl) ⟨Nat.le_refl _, Nat.le_add_right _ _⟩ ⟨_, rfl, (by omega), ⟨m_118, q_118, h_118⟩⟩
              · refine tz_aload_n (pc := 97) dX12_drawn_97 rfl rfl ?_
                refine tz_iload_n (pc := 98) dX12_drawn_98 rfl rfl ?_
                refine tz_iconst (pc := 99) dX12_drawn_99 ?_
                refine tz_isub (pc := 100) (v := x - 1) dX12_drawn_100 rfl ?_
                have l0_101 := (q_78).1.2
                have t0_101 := (q_78).1.1.told
                refine tz_cV (pc := 101) (ih _ _ (by omega) s m_78 (q_78).1.1 (by rw [(q_78).2.2.1.2.2.1 9 (by decide)]; exact h9) (by omega) (by omega)) vl_X12_430 dX12_drawn_101 o_164 rfl rfl (Nat.le_of_ble_eq_true rfl) ⟨(show (6 + 1 * r9) + 1 ≤ 6 + 1 * (r9 + 1) by omega), (show 8 + (7 + 11) + 40 * ((6 + 1 * r9)) ≤ 40 * (6 + 1 * (r9 + 1)) by omega)⟩ rfl rfl (Nat.le_of_ble_eq_true rfl) (Nat.le_of_ble_eq_true rfl) (fun r9 J_101 hq9 => ?_)
                obtain ⟨z_101, rfl, hz_101, m_101, g_101, h_101⟩ := hq9
                have q_101 := MG.tr q_78 g_101
                have f_101 := g_101.2.2.2
                have l_101 := g_101.1.2
                refine tz_goto (pc := 104) (tgt := 108) dX12_drawn_104 (by decide) ?_
                refine tz_istore (pc := 108) (L2 := [_, _, _, _, _, _, _]) dX12_drawn_108 (by decide) rfl ?_
                refine tz_aload_n (pc := 110) dX12_drawn_110 rfl rfl ?_
                refine tz_iload_n (pc := 111) dX12_drawn_111 rfl rfl ?_
                refine tz_iload (pc := 112) dX12_drawn_112 rfl ?_
                refine tz_iload (pc := 114) dX12_drawn_114 rfl ?_
                refine tz_iload (pc := 116) dX12_drawn_116 rfl ?_
                have l0_118 := (q_101).1.2
                have t0_118 := (q_101).1.1.told
                refine tz_cV (pc := 118) (m_termOf hl n _ _ _ _ _ (by omega) (by omega) (by omega) (by omega) 0 0 0 s m_101 (q_101).1.1 (by omega) (fun q9 => by simp only [arh_pos (show 0 ≤ z_38 by omega), Int.zero_add, (q_101).2.2.1.2.2.2 170 rfl]; omega)) vl_X12_107 dX12_drawn_118 o_164 rfl rfl (Nat.le_of_ble_eq_true rfl) ⟨(show 2 + 1 ≤ 6 + 1 * (r9 + 1) by omega), (show 8 + (8 + 11) + 40 * (2) ≤ 40 * (6 + 1 * (r9 + 1)) by omega)⟩ rfl rfl (Nat.le_of_ble_eq_true rfl) (Nat.le_of_ble_eq_true rfl) (fun r9 J_118 hq9 => ?_)
                obtain ⟨z_118, rfl, hz_118, m_118, g_118, h_118⟩ := hq9
                have q_118 := MG.tr q_101 (MG.mono g_118 (fun _ h => by simp at h) (fun _ h => by simp at h) (fun _ h => h))
                have f_118 := g_118.2.2.2
                have l_118 := g_118.1.2
                exact tz_iret (pc := 121) (z := z_118) dX12_drawn_121 rfl (Nat.le_of_ble_eq_true rfl) (Nat.le_of_ble_eq_true rfl) ⟨Nat.le_refl _, Nat.le_add_right _ _⟩ ⟨_, rfl, (by omega), ⟨m_118, q_118, h_118⟩⟩
          · refine tz_aload_n (pc := 51) dX12_drawn_51 rfl rfl ?_
            refine tz_iload_n (pc := 52) dX12_drawn_52 rfl rfl ?_
            refine tz_iconst (pc := 53) dX12_drawn_53 ?_
            refine tz_isub (pc := 54) (v := x - 1) dX12_drawn_54 rfl ?_
            have l0_55 := (q_38).1.2
            have t0_55 := (q_38).1.1.told
            refine tz_cV (pc := 55) (ih _ _ (by omega) s m (q_38).1.1 (by rw [(q_38).2.2.1.2.2.1 9 (by decide)]; exact h9) (by omega) (by omega)) vl_X12_430 dX12_drawn_55 o_164 rfl rfl (Nat.le_of_ble_eq_true rfl) ⟨(show (6 + 1 * r9) + 1 ≤ 6 + 1 * (r9 + 1) by omega), (show 8 + (7 + 11) + 40 * ((6 + 1 * r9)) ≤ 40 * (6 + 1 * (r9 + 1)) by omega)⟩ rfl rfl (Nat.le_of_ble_eq_true rfl) (Nat.le_of_ble_eq_true rfl) (fun r9 J_55 hq9 => ?_)
            obtain ⟨z_55, rfl, hz_55, m_55, g_55, h_55⟩ := hq9
            have q_55 := MG.tr q_38 g_55
            have f_55 := g_55.2.2.2
            have l_55 := g_55.1.2
            refine tz_goto (pc := 58) (tgt := 62) dX12_drawn_58 (by decide) ?_
            refine tz_istore (pc := 62) (L2 := [_, _, _, _, _, _, _]) dX12_drawn_62 (by decide) rfl ?_
            refine tz_aload_n (pc := 64) dX12_drawn_64 rfl rfl ?_
            refine tz_fR (pc := 65) dX12_drawn_65 fl_X12_25 r_164_5 ?_
            refine tz_iload_n (pc := 68) dX12_drawn_68 rfl rfl ?_
            refine tz_aL (pc := 69) (z := z_38) (v := (J 170 z_38)) dX12_drawn_69 a_170 rfl (by omega) (Eq.trans (congrFun (g_55.2.2.1.2.2.2 170 rfl) z_38) (Eq.trans (congrFun (e_38 170 rfl) z_38) (Eq.trans (congrFun (e_3 170 rfl) z_38) rfl))) (fun r_69 => ?_)
            refine tz_iconst (pc := 70) dX12_drawn_70 ?_
            refine tz_icmp_le (pc := 71) (tgt := 84) dX12_drawn_71 (by decide) (by omega) (by decide) (fun h_71 => ?_) (fun h_71 => ?_)
            · refine tz_iconst (pc := 84) dX12_drawn_84 ?_
              refine tz_istore (pc := 85) (L2 := [_, _, _, _, _, _, _]) dX12_drawn_85 (by decide) rfl ?_
              refine tz_aload_n (pc := 87) dX12_drawn_87 rfl rfl ?_
              refine tz_fR (pc := 88) dX12_drawn_88 fl_X12_25 r_164_5 ?_
              refine tz_iload_n (pc := 91) dX12_drawn_91 rfl rfl ?_
              refine tz_aL (pc := 92) (z := z_38) (v := (J 170 z_38)) dX12_drawn_92 a_170 rfl (by omega) (Eq.trans (congrFun (g_55.2.2.1.2.2.2 170 rfl) z_38) (Eq.trans (congrFun (e_38 170 rfl) z_38) (Eq.trans (congrFun (e_3 170 rfl) z_38) rfl))) (fun r_92 => ?_)
              refine tz_iconst (pc := 93) dX12_drawn_93 ?_
              refine tz_icmp_le (pc := 94) (tgt := 107) dX12_drawn_94 (by decide) (by omega) (by decide) (fun h_94 => ?_) (fun h_94 => ?_)
              · refine tz_iconst (pc := 107) dX12_drawn_107 ?_
                refine tz_istore (pc := 108) (L2 := [_, _, _, _, _, _, _]) dX12_drawn_108 (by decide) rfl ?_
                refine tz_aload_n (pc := 110) dX12_drawn_110 rfl rfl ?_
                refine tz_iload_n (pc := 111) dX12_drawn_111 rfl rfl ?_
                refine tz_iload (pc := 112) dX12_drawn_112 rfl ?_
                refine tz_iload (pc := 114) dX12_drawn_114 rfl ?_
                refine tz_iload (pc := 116) dX12_drawn_116 rfl ?_
                have l0_118 := (q_55).1.2
                have t0_118 := (q_55).1.1.told
                refine tz_cV (pc := 118) (m_termOf hl n _ _ _ _ _ (by omega) (by omega) (by omega) (by omega) 0 0 0 s m_55 (q_55).1.1 (by omega) (fun q9 => by simp only [arh_pos (show 0 ≤ z_38 by omega), Int.zero_add, (q_55).2.2.1.2.2.2 170 rfl]; omega)) vl_X12_107 dX12_drawn_118 o_164 rfl rfl (Nat.le_of_ble_eq_true rfl) ⟨(show 2 + 1 ≤ 6 + 1 * (r9 + 1) by omega), (show 8 + (8 + 11) + 40 * (2) ≤ 40 * (6 + 1 * (r9 + 1)) by omega)⟩ rfl rfl (Nat.le_of_ble_eq_true rfl) (Nat.le_of_ble_eq_true rfl) (fun r9 J_118 hq9 => ?_)
                obtain ⟨z_118, rfl, hz_118, m_118, g_118, h_118⟩ := hq9
                have q_118 := MG.tr q_55 (MG.mono g_118 (fun _ h => by simp at h) (fun _ h => by simp at h) (fun _ h => h))
                have f_118 := g_118.2.2.2
                have l_118 := g_118.1.2
                exact tz_iret (pc := 121) (z := z_118) dX12_drawn_121 rfl (Nat.le_of_ble_eq_true rfl) (Nat.le_of_ble_eq_true rfl) ⟨Nat.le_refl _, Nat.le_add_right _ _⟩ ⟨_, rfl, (by omega), ⟨m_118, q_118, h_118⟩⟩
              · refine tz_aload_n (pc := 97) dX12_drawn_97 rfl rfl ?_
                refine tz_iload_n (pc := 98) dX12_drawn_98 rfl rfl ?_
                refine tz_iconst (pc := 99) dX12_drawn_99 ?_
                refine tz_isub (pc := 100) (v := x - 1) dX12_drawn_100 rfl ?_
                have l0_101 := (q_55).1.2
                have t0_101 := (q_55).1.1.told
                refine tz_cV (pc := 101) (ih _ _ (by omega) s m_55 (q_55).1.1 (by rw [(q_55).2.2.1.2.2.1 9 (by decide)]; exact h9) (by omega) (by omega)) vl_X12_430 dX12_drawn_101 o_164 rfl rfl (Nat.le_of_ble_eq_true rfl) ⟨(show (6 + 1 * r9) + 1 ≤ 6 + 1 * (r9 + 1) by omega), (show 8 + (7 + 11) + 40 * ((6 + 1 * r9)) ≤ 40 * (6 + 1 * (r9 + 1)) by omega)⟩ rfl rfl (Nat.le_of_ble_eq_true rfl) (Nat.le_of_ble_eq_true rfl) (fun r9 J_101 hq9 => ?_)
                obtain ⟨z_101, rfl, hz_101, m_101, g_101, h_101⟩ := hq9
                have q_101 := MG.tr q_55 g_101
                have f_101 := g_101.2.2.2
                have l_101 := g_101.1.2
                refine tz_goto (pc := 104) (tgt := 108) dX12_drawn_104 (by decide) ?_
                refine tz_istore (pc := 108) (L2 := [_, _, _, _, _, _, _]) dX12_drawn_108 (by decide) rfl ?_
                refine tz_aload_n (pc := 110) dX12_drawn_110 rfl rfl ?_
                refine tz_iload_n (pc := 111) dX12_drawn_111 rfl rfl ?_
                refine tz_iload (pc := 112) dX12_drawn_112 rfl ?_
                refine tz_iload (pc := 114) dX12_drawn_114 rfl ?_
                refine tz_iload (pc := 116) dX12_drawn_116 rfl ?_
                have l0_118 := (q_101).1.2
                have t0_118 := (q_101).1.1.told
                refine tz_cV (pc := 118) (m_termOf hl n _ _ _ _ _ (by omega) (by omega) (by omega) (by omega) 0 0 0 s m_101 (q_101).1.1 (by omega) (fun q9 => by simp only [arh_pos (show 0 ≤ z_38 by omega), Int.zero_add, (q_101).2.2.1.2.2.2 170 rfl]; omega)) vl_X12_107 dX12_drawn_118 o_164 rfl rfl (Nat.le_of_ble_eq_true rfl) ⟨(show 2 + 1 ≤ 6 + 1 * (r9 + 1) by omega), (show 8 + (8 + 11) + 40 * (2) ≤ 40 * (6 + 1 * (r9 + 1)) by omega)⟩ rfl rfl (Nat.le_of_ble_eq_true rfl) (Nat.le_of_ble_eq_true rfl) (fun r9 J_118 hq9 => ?_)
                obtain ⟨z_118, rfl, hz_118, m_118, g_118, h_118⟩ := hq9
                have q_118 := MG.tr q_101 (MG.mono g_118 (fun _ h => by simp at h) (fun _ h => by simp at h) (fun _ h => h))
                have f_118 := g_118.2.2.2
                have l_118 := g_118.1.2
                exact tz_iret (pc := 121) (z := z_118) dX12_drawn_121 rfl (Nat.le_of_ble_eq_true rfl) (Nat.le_of_ble_eq_true rfl) ⟨Nat.le_refl _, Nat.le_add_right _ _⟩ ⟨_, rfl, (by omega), ⟨m_118, q_118, h_118⟩⟩
            · refine tz_aload_n (pc := 74) dX12_drawn_74 rfl rfl ?_
              refine tz_iload_n (pc := 75) dX12_drawn_75 rfl rfl ?_
              refine tz_iconst (pc := 76) dX12_drawn_76 ?_
              refine tz_isub (pc := 77) (v := x - 1) dX12_drawn_77 rfl ?_
              have l0_78 := (q_55).1.2
              have t0_78 := (q_55).1.1.told
              refine tz_cV (pc := 78) (ih _ _ (by omega) s m_55 (q_55).1.1 (by rw [(q_55).2.2.1.2.2.1 9 (by decide)]; exact h9) (by omega) (by omega)) vl_X12_430 dX12_drawn_78 o_164 rfl rfl (Nat.le_of_ble_eq_true rfl) ⟨(show (6 + 1 * r9) + 1 ≤ 6 + 1 * (r9 + 1) by omega), (show 8 + (7 + 11) + 40 * ((6 + 1 * r9)) ≤ 40 * (6 + 1 * (r9 + 1)) by omega)⟩ rfl rfl (Nat.le_of_ble_eq_true rfl) (Nat.le_of_ble_eq_true rfl) (fun r9 J_78 hq9 => ?_)
              obtain ⟨z_78, rfl, hz_78, m_78, g_78, h_78⟩ := hq9
              have q_78 := MG.tr q_55 g_78
              have f_78 := g_78.2.2.2
              have l_78 := g_78.1.2
              refine tz_goto (pc := 81) (tgt := 85) dX12_drawn_81 (by decide) ?_
              refine tz_istore (pc := 85) (L2 := [_, _, _, _, _, _, _]) dX12_drawn_85 (by decide) rfl ?_
              refine tz_aload_n (pc := 87) dX12_drawn_87 rfl rfl ?_
              refine tz_fR (pc := 88) dX12_drawn_88 fl_X12_25 r_164_5 ?_
              refine tz_iload_n (pc := 91) dX12_drawn_91 rfl rfl ?_
              refine tz_aL (pc := 92) (z := z_38) (v := (J 170 z_38)) dX12_drawn_92 a_170 rfl (by omega) (Eq.trans (congrFun (g_78.2.2.1.2.2.2 170 rfl) z_38) (Eq.trans (congrFun (g_55.2.2.1.2.2.2 170 rfl) z_38) (Eq.trans (congrFun (e_38 170 rfl) z_38) (Eq.trans (congrFun (e_3 170 rfl) z_38) rfl)))) (fun r_92 => ?_)
              refine tz_iconst (pc := 93) dX12_drawn_93 ?_
              refine tz_icmp_le (pc := 94) (tgt := 107) dX12_drawn_94 (by decide) (by omega) (by decide) (fun h_94 => ?_) (fun h_94 => ?_)
              · refine tz_iconst (pc := 107) dX12_drawn_107 ?_
                refine tz_istore (pc := 108) (L2 := [_, _, _, _, _, _, _]) dX12_drawn_108 (by decide) rfl ?_
                refine tz_aload_n (pc := 110) dX12_drawn_110 rfl rfl ?_
                refine tz_iload_n (pc := 111) dX12_drawn_111 rfl rfl ?_
                refine tz_iload (pc := 112) dX12_drawn_112 rfl ?_
                refine tz_iload (pc := 114) dX12_drawn_114 rfl ?_
                refine tz_iload (pc := 116) dX12_drawn_116 rfl ?_
                have l0_118 := (q_78).1.2
                have t0_118 := (q_78).1.1.told
                refine tz_cV (pc := 118) (m_termOf hl n _ _ _ _ _ (by omega) (by omega) (by omega) (by omega) 0 0 0 s m_78 (q_78).1.1 (by omega) (fun q9 => by simp only [arh_pos (show 0 ≤ z_38 by omega), Int.zero_add, (q_78).2.2.1.2.2.2 170 rfl]; omega)) vl_X12_107 dX12_drawn_118 o_164 rfl rfl (Nat.le_of_ble_eq_true rfl) ⟨(show 2 + 1 ≤ 6 + 1 * (r9 + 1) by omega), (show 8 + (8 + 11) + 40 * (2) ≤ 40 * (6 + 1 * (r9 + 1)) by omega)⟩ rfl rfl (Nat.le_of_ble_eq_true rfl) (Nat.le_of_ble_eq_true rfl) (fun r9 J_118 hq9 => ?_)
                obtain ⟨z_118, rfl, hz_118, m_118, g_118, h_118⟩ := hq9
                have q_118 := MG.tr q_78 (MG.mono g_118 (fun _ h => by simp at h) (fun _ h => by simp at h) (fun _ h => h))
                have f_118 := g_118.2.2.2
                have l_118 := g_118.1.2
                exact tz_iret (pc := 121) (z := z_118) dX12_drawn_121 rfl (Nat.le_of_ble_eq_true rfl) (Nat.le_of_ble_eq_true rfl) ⟨Nat.le_refl _, Nat.le_add_right _ _⟩ ⟨_, rfl, (by omega), ⟨m_118, q_118, h_118⟩⟩
              · refine tz_aload_n (pc := 97) dX12_drawn_97 rfl rfl ?_
                refine tz_iload_n (pc := 98) dX12_drawn_98 rfl rfl ?_
                refine tz_iconst (pc := 99) dX12_drawn_99 ?_
                refine tz_isub (pc := 100) (v := x - 1) dX12_drawn_100 rfl ?_
                have l0_101 := (q_78).1.2
                have t0_101 := (q_78).1.1.told
                refine tz_cV (pc := 101) (ih _ _ (by omega) s m_78 (q_78).1.1 (by rw [(q_78).2.2.1.2.2.1 9 (by decide)]; exact h9) (by omega) (by omega)) vl_X12_430 dX12_drawn_101 o_164 rfl rfl (Nat.le_of_ble_eq_true rfl) ⟨(show (6 + 1 * r9) + 1 ≤ 6 + 1 * (r9 + 1) by omega), (show 8 + (7 + 11) + 40 * ((6 + 1 * r9)) ≤ 40 * (6 + 1 * (r9 + 1)) by omega)⟩ rfl rfl (Nat.le_of_ble_eq_true rfl) (Nat.le_of_ble_eq_true rfl) (fun r9 J_101 hq9 => ?_)
                obtain ⟨z_101, rfl, hz_101, m_101, g_101, h_101⟩ := hq9
                have q_101 := MG.tr q_78 g_101
                have f_101 := g_101.2.2.2
                have l_101 := g_101.1.2
                refine tz_goto (pc := 104) (tgt := 108) dX12_drawn_104 (by decide) ?_
                refine tz_istore (pc := 108) (L2 := [_, _, _, _, _, _, _]) dX12_drawn_108 (by decide) rfl ?_
                refine tz_aload_n (pc := 110) dX12_drawn_110 rfl rfl ?_
                refine tz_iload_n (pc := 111) dX12_drawn_111 rfl rfl ?_
                refine tz_iload (pc := 112) dX12_drawn_112 rfl ?_
                refine tz_iload (pc := 114) dX12_drawn_114 rfl ?_
                refine tz_iload (pc := 116) dX12_drawn_116 rfl ?_
                have l0_118 := (q_101).1.2
                have t0_118 := (q_101).1.1.told
                refine tz_cV (pc := 118) (m_termOf hl n _ _ _ _ _ (by omega) (by omega) (by omega) (by omega) 0 0 0 s m_101 (q_101).1.1 (by omega) (fun q9 => by simp only [arh_pos (show 0 ≤ z_38 by omega), Int.zero_add, (q_101).2.2.1.2.2.2 170 rfl]; omega)) vl_X12_107 dX12_drawn_118 o_164 rfl rfl (Nat.le_of_ble_eq_true rfl) ⟨(show 2 + 1 ≤ 6 + 1 * (r9 + 1) by omega), (show 8 + (8 + 11) + 40 * (2) ≤ 40 * (6 + 1 * (r9 + 1)) by omega)⟩ rfl rfl (Nat.le_of_ble_eq_true rfl) (Nat.le_of_ble_eq_true rfl) (fun r9 J_118 hq9 => ?_)
                obtain ⟨z_118, rfl, hz_118, m_118, g_118, h_118⟩ := hq9
                have q_118 := MG.tr q_101 (MG.mono g_118 (fun _ h => by simp at h) (fun _ h => by simp at h) (fun _ h => h))
                have f_118 := g_118.2.2.2
                have l_118 := g_118.1.2
                exact tz_iret (pc := 121) (z := z_118) dX12_drawn_121 rfl (Nat.le_of_ble_eq_true rfl) (Nat.le_of_ble_eq_true rfl) ⟨Nat.le_refl _, Nat.le_add_right _ _⟩ ⟨_, rfl, (by omega), ⟨m_118, q_118, h_118⟩⟩
        · refine tz_aload_n (pc := 23) dX12_drawn_23 rfl rfl ?_
          refine tz_aload_n (pc := 24) dX12_drawn_24 rfl rfl ?_
          refine tz_iconst (pc := 25) dX12_drawn_25 ?_
          refine tz_cV (pc := 26) (m_drawOf hl n _ _ (by omega) (by omega)) vl_X12_427 dX12_drawn_26 o_164 rfl rfl (Nat.le_of_ble_eq_true rfl) ⟨(show 0 + 1 ≤ 6 + 1 * (r9 + 1) by omega), (show 8 + (2 + 11) + 40 * (0) ≤ 40 * (6 + 1 * (r9 + 1)) by omega)⟩ rfl rfl (Nat.le_of_ble_eq_true rfl) (Nat.le_of_ble_eq_true rfl) (fun r9 J_26 hq9 => ?_)
          obtain ⟨z_26, rfl, hz_26, hj_26, hz_26⟩ := hq9
          have e_26 : zOf (zbut [164]) J_26 J_3 := by rw [← hj_26]; exact zOf.up rfl zOf.rf
          have k_26 : ∀ k, ¬ k = 46 → J_26 164 k = J_3 164 k := fun k hk => by rw [← hj_26]; exact zup_ne hk
          have q_26 : MG [] [46] (fun _ => false) J_26 J 0 0 0 s m m := (q_3).off (fun k hk => k_26 k (by simp at hk; omega)) (fun k _ => congrFun (e_26 165 rfl) k) (e_26.mono (zbut_sub (fun c hc => by simp at hc ⊢; omega))) ⟨rfl, rfl, rfl, rfl⟩ rfl ⟨rfl, rfl, rfl, rfl⟩
          have l0_29 := (q_26).1.2
          have t0_29 := (q_26).1.1.told
          refine tz_cV (pc := 29) (m_varTerm hl n _ _ (by omega) 0 0 0 s m (q_26).1.1 (by omega)) vl_X12_180 dX12_drawn_29 o_164 rfl rfl (Nat.le_of_ble_eq_true rfl) ⟨(show 3 + 1 ≤ 6 + 1 * (r9 + 1) by omega), (show 8 + (2 + 11) + 40 * (3) ≤ 40 * (6 + 1 * (r9 + 1)) by omega)⟩ rfl rfl (Nat.le_of_ble_eq_true rfl) (Nat.le_of_ble_eq_true rfl) (fun r9 J_29 hq9 => ?_)
          obtain ⟨z_29, rfl, hz_29, m_29, g_29, h_29⟩ := hq9
          have q_29 := MG.tr q_26 (MG.mono g_29 (fun _ h => by simp at h) (fun _ h => by simp at h) (fun _ h => h))
          have f_29 := g_29.2.2.2
          have l_29 := g_29.1.2
          exact tz_iret (pc := 32) (z := z_29) dX12_drawn_32 rfl (Nat.le_of_ble_eq_true rfl) (Nat.le_of_ble_eq_true rfl) ⟨Nat.le_refl _, Nat.le_add_right _ _⟩ ⟨_, rfl, (by omega), ⟨m_29, q_29, h_29⟩⟩

theorem m_drawn {l : Launch} {G : tb_G} (hl : l.stackTraces = false) (n : Nat) (J : zJ) (x : Int) (hr_x : -2147483648 ≤ x ∧ x < 2147483648) (s m : Int) (hM : MS J 0 0 0 s m) (h9 : J 164 9 = s) (hx : 1 ≤ x ∧ x ≤ 4) : tz_Ok l G M_X12_drawn 11 0 0 [.ref 164, zi x] n J (zqi (fun z J' => ∃ m', MG [] [46] (fun _ => false) J' J 0 0 0 s m m' ∧ (J' 164 21 = 0 → 0 ≤ z ∧ z < m'))) zN := m_drawnR hl n 5 J x hr_x s m hM h9 hx.1 (by omega)
end
