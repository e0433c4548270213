/-! ===== the law ===== -/
def tb_Iz : tb_I := fun _ _ => 0
def tb_I0 : tb_I := tb_row (i_kc_mo (tb_row (i_kc_tb (tb_row tb_Iz 0 (fun _ => 0))) 164 (fun _ => 0))) 183 (fun _ => 0)
theorem law_sh : ∀ c, c < 184 → tb_sup (s_kc_mo (tb_sup (s_kc_tb (tb_sup (fun _ => ((100, 3, []) : tb_Sh)) 0 (11, 16, List.replicate 16 none))) 164 (12, 47, List.replicate 47 none))) 183 (102, 1, []) c = tb_shT c := by
  have h : (List.range 184).all (fun c => decide (tb_sup (s_kc_mo (tb_sup (s_kc_tb (tb_sup (fun _ => ((100, 3, []) : tb_Sh)) 0 (11, 16, List.replicate 16 none))) 164 (12, 47, List.replicate 47 none))) 183 (102, 1, []) c = tb_shT c)) = true := by decide +kernel
  intro c hc
  exact of_decide_eq_true (List.all_eq_true.mp h c (List.mem_range.mpr hc))
set_option maxHeartbeats 4000000 in
set_option maxRecDepth 100000 in
theorem law_new {l : Launch} {G : tb_G} {Lx : Nat} {xs : Nat → Int32} (hl : l.stackTraces = false) (h : tb_At l G M_L_law room_1 (some (Lx, xs)) tb_LZ 184 54325 184 tb_shT tb_I0 20 [some (.ref tb_sc), some (.ref 0), some (.ref 164), some (.ref 183), none, none, none] []) : tb_At l G M_L_law room_1 (some (Lx, xs)) tb_LZ 0 0 0 (fun _ => (100, 3, [])) (fun _ _ => 0) 0 [some (.ref tb_sc), none, none, none, none, none, none] [] := by
  refine tb_new (pc := 0) dL_law_0 nw_L_8 (by decide) rfl rfl rfl (Nat.le_of_ble_eq_true rfl) (Nat.le_of_ble_eq_true rfl) ?_
  refine tb_dup (pc := 3) dL_law_3 rfl ?_
  refine tb_callI (pc := 4) (kc_tb hl _ _ rfl) il_L_55 dL_law_4 rfl rfl (Nat.le_of_ble_eq_true rfl) ⟨(Nat.le_of_ble_eq_true rfl), (Nat.le_of_ble_eq_true rfl)⟩ rfl rfl (Nat.le_of_ble_eq_true rfl) (Nat.le_of_ble_eq_true rfl) (fun r9 n9 sh9 I9 hq9 => ?_)
  obtain ⟨rfl, rfl, rfl, rfl⟩ := hq9
  refine tb_astore_n (pc := 7) (L2 := [_, _, _, _, _, _, _]) dL_law_7 rfl (by decide) rfl ?_
  refine tb_new (pc := 8) dL_law_8 nw_L_56 (by decide) rfl rfl rfl (Nat.le_of_ble_eq_true rfl) (Nat.le_of_ble_eq_true rfl) ?_
  refine tb_dup (pc := 11) dL_law_11 rfl ?_
  refine tb_callI (pc := 12) (kc_mo hl _ _ rfl) il_L_58 dL_law_12 rfl rfl (Nat.le_of_ble_eq_true rfl) ⟨(Nat.le_of_ble_eq_true rfl), (Nat.le_of_ble_eq_true rfl)⟩ rfl rfl (Nat.le_of_ble_eq_true rfl) (Nat.le_of_ble_eq_true rfl) (fun r9 n9 sh9 I9 hq9 => ?_)
  obtain ⟨rfl, rfl, rfl, rfl⟩ := hq9
  refine tb_astore_n (pc := 15) (L2 := [_, _, _, _, _, _, _]) dL_law_15 rfl (by decide) rfl ?_
  refine tb_iconst (pc := 16) (v := 1) dL_law_16 (by decide) ?_
  refine tb_newl (pc := 17) (len := 1) dL_law_17 wk_arr_long (by decide) (by decide) (Nat.le_of_ble_eq_true rfl) rfl rfl rfl (Nat.le_of_ble_eq_true rfl) (Nat.le_of_ble_eq_true rfl) ?_
  refine tb_astore_n (pc := 19) (L2 := [_, _, _, _, _, _, _]) dL_law_19 rfl (by decide) rfl ?_
  exact tb_shcong law_sh h
/-- what is alike on both sides -/
def SM (J : zJ) : Prop := J 0 13 = J 164 19 ∧ J 162 = J 173 ∧ J 0 15 = J 164 14
/-- what holds as a turn of the law begins, at the place i of the script -/
def LV (J : zJ) (n k1 k2 : Nat) (i : Int) : Prop := (∃ m, CI J m) ∧ (∃ m, MI J m) ∧ SM J ∧ 6 * J 145 10 ≤ 24000 * i ∧ (184 ≤ n ∧ 6 * (n : Int) ≤ 1104 + 7 * i) ∧ 6 * (k1 : Int) ≤ 1104 + 7 * i ∧ 6 * (k2 : Int) ≤ 325950 + 21 * i
theorem LV.q {J2 J1 J : zJ} {n n' k1 k2 k1' k2' : Nat} {i : Int} (h : LV J n k1 k2 i) (c : CW J1 J) (q : MQr J2 J1) (hn : n ≤ n' ∧ n' ≤ n + 7) (h1 : k1' ≤ k1 + 7) (h2 : k2' ≤ k2 + 21) : LV J2 n' k1' k2' (i + 6) := by
  obtain ⟨a1, a2, ⟨a3, a8, a9⟩, a4, a5, a6, a7⟩ := h
  obtain ⟨⟨m, c1⟩, c2, ⟨c3, c5⟩, c4⟩ := c
  have e1 : J1 164 = J 164 := c4 164 (by decide)
  obtain ⟨q1, q2, q3, q4, q5⟩ := q
  refine ⟨⟨m, c1.lo (fun c hc => q2 c (Or.inl hc))⟩, q1, ⟨?_, ?_, ?_⟩, ?_, by omega, by omega, by omega⟩
  · rw [q2 0 (by decide), q3, c3, e1]; exact a3
  · rw [q2 162 (by decide), q2 173 (by decide), c4 162 (by decide), c4 173 (by decide)]; exact a8
  · rw [q2 0 (by decide), q5, c5, e1]; exact a9
  · rw [q2 145 (by decide)]; omega
theorem LV.i {J2 J1 J : zJ} {n n' k1 k2 k1' k2' : Nat} {i : Int} (h : LV J n k1 k2 i) (c : (∃ m', CI J1 m') ∧ J1 145 10 ≤ J 145 10 + 24000 ∧ (J1 0 13 = J 0 13 ∧ J1 0 14 = J 0 14 ∧ J1 0 15 = 1) ∧ zOf fou J1 J) (q : MQi J2 J1) (hn : n ≤ n' ∧ n' ≤ n + 7) (h1 : k1' ≤ k1 + 7) (h2 : k2' ≤ k2 + 21) : LV J2 n' k1' k2' (i + 6) := by
  obtain ⟨a1, a2, ⟨a3, a8, a9⟩, a4, a5, a6, a7⟩ := h
  obtain ⟨⟨m, c1⟩, c2, ⟨c3, c5, c6⟩, c4⟩ := c
  have e1 : J1 164 = J 164 := c4 164 rfl
  obtain ⟨q1, q2, q3, q4, q5⟩ := q
  refine ⟨⟨m, c1.lo (fun c hc => q2 c (Or.inl hc))⟩, q1, ⟨?_, ?_, ?_⟩, ?_, by omega, by omega, by omega⟩
  · rw [q2 0 (by decide), q3, c3, e1]; exact a3
  · rw [q2 162 (by decide), q2 173 (by decide), c4 162 rfl, c4 173 rfl]; exact a8
  · rw [q2 0 (by decide), q5, c6]
  · rw [q2 145 (by decide)]; omega
/-- bank: the answers are alike -/
theorem LV.b {J2 J1 J : zJ} {n n' k1 k2 k1' k2' : Nat} {i x z k : Int} (h : LV J n k1 k2 i) (c : CB3 x k J1 J) (q : (∃ m, MI J2 m) ∧ (∀ c, c < 164 ∨ c = 173 → J2 c = J1 c) ∧ J2 183 = J1 183 ∧ ((0 ≤ x ∧ x ≤ J1 164 19 ∧ J2 164 19 = 0 ∧ J2 164 8 = 0 ∧ z = (pAl 703 (pN (pG J1 x))) 0 4 ∧ (¬ (pAl 703 (pN (pG J1 x))) 0 4 = 0 → J2 164 20 = (pAl 703 (pN (pG J1 x))) 0 5 ∧ J2 164 14 = J1 164 14) ∧ ((pAl 703 (pN (pG J1 x))) 0 4 = 0 → J2 164 14 = 0)) ∨ (¬ (0 ≤ x ∧ x ≤ J1 164 19) ∧ J2 164 19 = J1 164 19 ∧ J2 164 8 = 1 ∧ J2 164 20 = J1 164 20 ∧ J2 164 14 = J1 164 14))) (hn : n ≤ n' ∧ n' ≤ n + 7) (h1 : k1' ≤ k1 + 7) (h2 : k2' ≤ k2 + 21) : LV J2 n' k1' k2' (i + 6) ∧ J2 164 8 = k ∧ (k = 0 → J2 183 0 = z) := by
  obtain ⟨a1, a2, ⟨a3, a8, a9⟩, a4, a5, a6, a7⟩ := h
  obtain ⟨⟨m, c1⟩, c2, c4, c3⟩ := c
  have e1 : J1 164 = J 164 := c4 164 (by decide)
  obtain ⟨q1, q2, q8, q3⟩ := q
  rw [show pG J1 x = pG J x from pG_e (fun c u v => c4 c (by omega)), e1] at q3
  have t9 : J2 162 = J2 173 := by rw [q2 162 (by decide), q2 173 (by decide), c4 162 (by decide), c4 173 (by decide)]; exact a8
  have e0 := q2 0 (by decide)
  generalize pAl 703 (pN (pG J x)) = r at *
  rcases c3 with ⟨b1, b2, b3, b4, b5, b6⟩ | ⟨b1, b2, b3, b4⟩
  · rcases q3 with ⟨d1, d2, d3, d4, d5, d6, d7⟩ | ⟨d1, _⟩
    · refine ⟨⟨⟨m, c1.lo (fun c hc => q2 c (Or.inl hc))⟩, q1, ⟨by rw [e0]; omega, t9, ?_⟩, by rw [q2 145 (by decide)]; omega, by omega, by omega, by omega⟩, by omega, fun _ => by rw [q8]; omega⟩
      rw [e0]
      by_cases hr : r 0 4 = 0
      · rw [b6 hr, d7 hr]
      · rw [b5 hr, (d6 hr).2]; exact a9
    · exact absurd ⟨b2.1, by omega⟩ d1
  · rcases q3 with ⟨d1, d2, _⟩ | ⟨d1, d2, d3, d4, d5⟩
    · exact absurd ⟨d1, by omega⟩ b2
    · exact ⟨⟨⟨m, c1.lo (fun c hc => q2 c (Or.inl hc))⟩, q1, ⟨by rw [e0]; omega, t9, by rw [e0, b4, d5]; exact a9⟩, by rw [q2 145 (by decide)]; omega, by omega, by omega, by omega⟩, by omega, fun _ => by omega⟩
theorem LV.f {J2 J1 J : zJ} {n k1 k2 : Nat} {i z1 z2 a b c d e : Int} (h : LV J n k1 k2 i) (x : (∃ m', CI J1 m') ∧ J1 145 10 ≤ J 145 10 + 24000 ∧ zOf fo4 J1 J ∧ (J1 0 14 = J 0 14 ∧ J1 0 15 = J 0 15) ∧ ((J 0 13 + 20 ≤ 700 ∧ z1 = J 0 13 + 20 ∧ J1 0 13 = J 0 13 + 20 ∧ ∀ x, J1 162 x = if J 0 13 ≤ x ∧ x < J 0 13 + 20 then fB a b c d e (x - J 0 13) else J 162 x) ∨ (700 < J 0 13 + 20 ∧ z1 = -1 ∧ J1 0 13 = J 0 13 ∧ J1 162 = J 162))) (q : (∃ m, MI J2 m) ∧ (∀ c, c < 164 → J2 c = J1 c) ∧ (J2 164 20 = J1 164 20 ∧ J2 164 14 = J1 164 14) ∧ ((700 < J1 164 19 + 20 ∧ z2 = -1 ∧ J2 164 19 = J1 164 19 ∧ J2 173 = J1 173) ∨ (J1 164 19 + 20 ≤ 700 ∧ z2 = J1 164 19 + 20 ∧ J2 164 19 = J1 164 19 + 20 ∧ ∀ x, J2 173 x = if J1 164 19 ≤ x ∧ x < J1 164 19 + 20 then fB a b c d e (x - J1 164 19) else J1 173 x))) : z1 = z2 ∧ LV J2 n k1 k2 (i + 6) := by
  obtain ⟨a1, a2, ⟨a3, a8, a9⟩, a4, a5, a6, a7⟩ := h
  obtain ⟨⟨m, c1⟩, c2, c3, ⟨_, c5⟩, c4⟩ := x
  have e1 : J1 164 = J 164 := c3 164 rfl
  have e3 : J1 173 = J 173 := c3 173 rfl
  obtain ⟨q1, q2, ⟨_, q5⟩, q3⟩ := q
  rw [e1, e3] at q3
  have e0 := q2 0 (by decide)
  have f : J2 162 = J1 162 := q2 162 (by decide)
  have g5 : J2 0 15 = J2 164 14 := by rw [e0, q5, c5, e1]; exact a9
  rcases c4 with ⟨b1, b2, b3, b4⟩ | ⟨b1, b2, b3, b4⟩
  · rcases q3 with ⟨d1, _⟩ | ⟨d1, d2, d3, d4⟩
    · omega
    · refine ⟨by omega, ⟨m, c1.lo q2⟩, q1, ⟨by rw [e0]; omega, ?_, g5⟩, by rw [q2 145 (by decide)]; omega, by omega, by omega, by omega⟩
      rw [f]
      funext y
      rw [b4 y, d4 y, ← a3, ← a8]
  · rcases q3 with ⟨d1, d2, d3, d4⟩ | ⟨d1, _⟩
    · exact ⟨by omega, ⟨m, c1.lo q2⟩, q1, ⟨by rw [e0]; omega, by rw [f, b4, d4]; exact a8, g5⟩, by rw [q2 145 (by decide)]; omega, by omega, by omega, by omega⟩
    · omega
set_option maxHeartbeats 4000000 in
set_option maxRecDepth 100000 in
theorem law_feed {l : Launch} {G : tb_G} {Lx : Nat} {xs : Nat → Int32} {k1 k2 n : Nat} {J : zJ} (hl : l.stackTraces = false) (i : Int) (hi : 0 ≤ i ∧ i + 6 ≤ (Lx : Int)) (hx : Lx ≤ 3072) (d5 d6 : Option Value) (h : LV J n k1 k2 i) (nx : ∀ (k1 k2 n : Nat) (J : zJ) (d5 d6 : Option Value), LV J n k1 k2 (i + 6) → tz_At l G M_L_law room_1 (some (Lx, xs)) tb_LZ k1 k2 n J 1330 [some (.ref tb_sc), some (.ref 0), some (.ref 164), some (.ref 183), some (zi i), d5, d6] []) : tz_At l G M_L_law room_1 (some (Lx, xs)) tb_LZ k1 k2 n J 188 [some (.ref tb_sc), some (.ref 0), some (.ref 164), some (.ref 183), some (zi i), d5, d6] [] := by
  obtain ⟨⟨m, hC⟩, ⟨m2, hM⟩, h3, h4, h5, h6, h7⟩ := id h
  have h9 : J 145 10 < 1000000000 := by omega
  have hnb : n ≤ tb_sc := by show n ≤ 1000000; omega
  refine tz_aload_n (pc := 188) dL_law_188 rfl rfl ?_
  refine tz_aload_n (pc := 189) dL_law_189 rfl rfl ?_
  refine tz_iload (pc := 190) dL_law_190 rfl ?_
  refine tz_iconst (pc := 192) dL_law_192 ?_
  refine tz_iadd (pc := 193) (v := i + 1) dL_law_193 rfl ?_
  refine tz_sld (pc := 194) (z := (i + 1)) rfl dL_law_194 (by omega) (by omega) (fun r_194 => ?_)
  refine tz_aload_n (pc := 195) dL_law_195 rfl rfl ?_
  refine tz_iload (pc := 196) dL_law_196 rfl ?_
  refine tz_iconst (pc := 198) dL_law_198 ?_
  refine tz_iadd (pc := 199) (v := i + 2) dL_law_199 rfl ?_
  refine tz_sld (pc := 200) (z := (i + 2)) rfl dL_law_200 (by omega) (by omega) (fun r_200 => ?_)
  refine tz_aload_n (pc := 201) dL_law_201 rfl rfl ?_
  refine tz_iload (pc := 202) dL_law_202 rfl ?_
  refine tz_iconst (pc := 204) dL_law_204 ?_
  refine tz_iadd (pc := 205) (v := i + 3) dL_law_205 rfl ?_
  refine tz_sld (pc := 206) (z := (i + 3)) rfl dL_law_206 (by omega) (by omega) (fun r_206 => ?_)
  refine tz_aload_n (pc := 207) dL_law_207 rfl rfl ?_
  refine tz_iload (pc := 208) dL_law_208 rfl ?_
  refine tz_iconst (pc := 210) dL_law_210 ?_
  refine tz_iadd (pc := 211) (v := i + 4) dL_law_211 rfl ?_
  refine tz_sld (pc := 212) (z := (i + 4)) rfl dL_law_212 (by omega) (by omega) (fun r_212 => ?_)
  refine tz_aload_n (pc := 213) dL_law_213 rfl rfl ?_
  refine tz_iload (pc := 214) dL_law_214 rfl ?_
  refine tz_iconst (pc := 216) dL_law_216 ?_
  refine tz_iadd (pc := 217) (v := i + 5) dL_law_217 rfl ?_
  refine tz_sld (pc := 218) (z := (i + 5)) rfl dL_law_218 (by omega) (by omega) (fun r_218 => ?_)
  refine tz_cV (pc := 219) (v_feed hl _ _ _ _ _ _ _ (z_rg _) (z_rg _) (z_rg _) (z_rg _) (z_rg _) m hC h9) vl_L_59 dL_law_219 o_0 rfl rfl (Nat.le_of_ble_eq_true rfl) ⟨(Nat.le_of_ble_eq_true rfl), (Nat.le_of_ble_eq_true rfl)⟩ rfl rfl (show k1 ≤ 601024 by omega) (show k2 ≤ 7293034 by omega) (fun r9 J_219 hq9 => ?_)
  obtain ⟨z_219, rfl, hz_219, x_219⟩ := hq9
  have hM2 := hM.mid (fun c x _ => x_219.2.2.1 c (decide_eq_true x))
  refine tz_pop (pc := 222) dL_law_222 rfl ?_
  refine tz_aload_n (pc := 223) dL_law_223 rfl rfl ?_
  refine tz_aload_n (pc := 224) dL_law_224 rfl rfl ?_
  refine tz_iload (pc := 225) dL_law_225 rfl ?_
  refine tz_iconst (pc := 227) dL_law_227 ?_
  refine tz_iadd (pc := 228) (v := i + 1) dL_law_228 rfl ?_
  refine tz_sld (pc := 229) (z := (i + 1)) rfl dL_law_229 (by omega) (by omega) (fun r_229 => ?_)
  refine tz_aload_n (pc := 230) dL_law_230 rfl rfl ?_
  refine tz_iload (pc := 231) dL_law_231 rfl ?_
  refine tz_iconst (pc := 233) dL_law_233 ?_
  refine tz_iadd (pc := 234) (v := i + 2) dL_law_234 rfl ?_
  refine tz_sld (pc := 235) (z := (i + 2)) rfl dL_law_235 (by omega) (by omega) (fun r_235 => ?_)
  refine tz_aload_n (pc := 236) dL_law_236 rfl rfl ?_
  refine tz_iload (pc := 237) dL_law_237 rfl ?_
  refine tz_iconst (pc := 239) dL_law_239 ?_
  refine tz_iadd (pc := 240) (v := i + 3) dL_law_240 rfl ?_
  refine tz_sld (pc := 241) (z := (i + 3)) rfl dL_law_241 (by omega) (by omega) (fun r_241 => ?_)
  refine tz_aload_n (pc := 242) dL_law_242 rfl rfl ?_
  refine tz_iload (pc := 243) dL_law_243 rfl ?_
  refine tz_iconst (pc := 245) dL_law_245 ?_
  refine tz_iadd (pc := 246) (v := i + 4) dL_law_246 rfl ?_
  refine tz_sld (pc := 247) (z := (i + 4)) rfl dL_law_247 (by omega) (by omega) (fun r_247 => ?_)
  refine tz_aload_n (pc := 248) dL_law_248 rfl rfl ?_
  refine tz_iload (pc := 249) dL_law_249 rfl ?_
  refine tz_iconst (pc := 251) dL_law_251 ?_
  refine tz_iadd (pc := 252) (v := i + 5) dL_law_252 rfl ?_
  refine tz_sld (pc := 253) (z := (i + 5)) rfl dL_law_253 (by omega) (by omega) (fun r_253 => ?_)
  refine tz_cV (pc := 254) (v_qfeed hl _ _ _ _ _ _ _ (z_rg _) (z_rg _) (z_rg _) (z_rg _) (z_rg _) m2 hM2) vl_L_63 dL_law_254 o_164 rfl rfl (Nat.le_of_ble_eq_true rfl) ⟨(Nat.le_of_ble_eq_true rfl), (Nat.le_of_ble_eq_true rfl)⟩ rfl rfl (show k1 ≤ 601024 by omega) (show k2 ≤ 7293034 by omega) (fun r9 J_254 hq9 => ?_)
  obtain ⟨z_254, rfl, hz_254, y_254⟩ := hq9
  obtain ⟨ez9, lv9⟩ := LV.f h x_219 y_254
  refine tz_pop (pc := 257) dL_law_257 rfl ?_
  refine tz_goto (pc := 258) (tgt := 1330) dL_law_258 (by decide) ?_
  exact nx _ _ _ _ _ _ lv9

set_option maxHeartbeats 4000000 in
set_option maxRecDepth 100000 in
theorem law_bank {l : Launch} {G : tb_G} {Lx : Nat} {xs : Nat → Int32} {k1 k2 n : Nat} {J : zJ} (hl : l.stackTraces = false) (i : Int) (hi : 0 ≤ i ∧ i + 6 ≤ (Lx : Int)) (hx : Lx ≤ 3072) (d5 d6 : Option Value) (h : LV J n k1 k2 i) (nx : ∀ (k1 k2 n : Nat) (J : zJ) (d5 d6 : Option Value), LV J n k1 k2 (i + 6) → tz_At l G M_L_law room_1 (some (Lx, xs)) tb_LZ k1 k2 n J 1330 [some (.ref tb_sc), some (.ref 0), some (.ref 164), some (.ref 183), some (zi i), d5, d6] []) : tz_At l G M_L_law room_1 (some (Lx, xs)) tb_LZ k1 k2 n J 261 [some (.ref tb_sc), some (.ref 0), some (.ref 164), some (.ref 183), some (zi i), d5, d6] [] := by
  obtain ⟨⟨m, hC⟩, ⟨m2, hM⟩, h3, h4, h5, h6, h7⟩ := id h
  have h9 : J 145 10 < 1000000000 := by omega
  have hnb : n ≤ tb_sc := by show n ≤ 1000000; omega
  refine tz_aload_n (pc := 261) dL_law_261 rfl rfl ?_
  refine tz_aload_n (pc := 262) dL_law_262 rfl rfl ?_
  refine tz_iload (pc := 263) dL_law_263 rfl ?_
  refine tz_iconst (pc := 265) dL_law_265 ?_
  refine tz_iadd (pc := 266) (v := i + 1) dL_law_266 rfl ?_
  refine tz_sld (pc := 267) (z := (i + 1)) rfl dL_law_267 (by omega) (by omega) (fun r_267 => ?_)
  refine tz_aload_n (pc := 268) dL_law_268 rfl rfl ?_
  refine tz_cH (pc := 269) (nA := 3) (lw_bank hl _ _ _ (z_rg _) m hnb hC h9 h3.2.1) ml_L_64 ms_L_bank ch_L_bank wk_ini_L (by decide +kernel) dL_law_269 rfl rfl (Nat.le_of_ble_eq_true rfl) ⟨(Nat.le_of_ble_eq_true rfl), (Nat.le_of_ble_eq_true rfl)⟩ rfl rfl (show k1 + 1 ≤ 601024 by omega) (show k2 + 6 ≤ 7293034 by omega) (fun r9 n_269 J_269 hn1_269 hn2_269 hq9 => ?_)
  obtain ⟨z_269, rfl, hz_269, cw_269⟩ := hq9
  have hM2 := hM.mid (fun c x y => cw_269.2.2.1 c (Or.inr ⟨x, y⟩))
  refine tz_istore (pc := 272) (L2 := [_, _, _, _, _, _, _]) dL_law_272 (by decide) rfl ?_
  refine tz_aload_n (pc := 274) dL_law_274 rfl rfl ?_
  refine tz_aload_n (pc := 275) dL_law_275 rfl rfl ?_
  refine tz_iload (pc := 276) dL_law_276 rfl ?_
  refine tz_iconst (pc := 278) dL_law_278 ?_
  refine tz_iadd (pc := 279) (v := i + 1) dL_law_279 rfl ?_
  refine tz_sld (pc := 280) (z := (i + 1)) rfl dL_law_280 (by omega) (by omega) (fun r_280 => ?_)
  refine tz_cV (pc := 281) (v_qbank hl _ _ _ (z_rg _) m2 hM2) vl_L_69 dL_law_281 o_164 rfl rfl (Nat.le_of_ble_eq_true rfl) ⟨(Nat.le_of_ble_eq_true rfl), (Nat.le_of_ble_eq_true rfl)⟩ rfl rfl (show k1 + 1 ≤ 601024 by omega) (show k2 + 6 ≤ 7293034 by omega) (fun r9 J_281 hq9 => ?_)
  obtain ⟨z_281, rfl, hz_281, y_281⟩ := hq9
  obtain ⟨lv9, et9, eo9⟩ := LV.b (n' := n_269) (k1' := k1 + 1) (k2' := k2 + 6) h cw_269 y_281 ⟨by omega, by omega⟩ (by omega) (by omega)
  refine tz_istore (pc := 284) (L2 := [_, _, _, _, _, _, _]) dL_law_284 (by decide) rfl ?_
  refine tz_aload_n (pc := 286) dL_law_286 rfl rfl ?_
  refine tz_cV (pc := 287) (x_thrown hl _ _) vl_L_70 dL_law_287 o_164 rfl rfl (Nat.le_of_ble_eq_true rfl) ⟨(Nat.le_of_ble_eq_true rfl), (Nat.le_of_ble_eq_true rfl)⟩ rfl rfl (show k1 + 1 ≤ 601024 by omega) (show k2 + 6 ≤ 7293034 by omega) (fun r9 J_287 hq9 => ?_)
  obtain ⟨z_287, rfl, hz_287, rfl, rfl⟩ := hq9
  refine tz_iload (pc := 290) dL_law_290 rfl ?_
  refine tz_icmp_eqT (pc := 292) (tgt := 297) et9 dL_law_292 (by decide) (by omega) hz_269 ?_
  refine tz_iload (pc := 297) dL_law_297 rfl ?_
  refine tz_if_ne (pc := 299) (tgt := 314) dL_law_299 (by decide) (by omega) (fun h_299 => ?_) (fun h_299 => ?_)
  · refine tz_goto (pc := 314) (tgt := 1330) dL_law_314 (by decide) ?_
    exact nx _ _ _ _ _ _ lv9
  · refine tz_aload_n (pc := 302) dL_law_302 rfl rfl ?_
    refine tz_iconst (pc := 303) dL_law_303 ?_
    refine tz_lald (pc := 304) (z := 0) (v := _) dL_law_304 l_183 rfl (by decide) (eo9 (by omega)) (fun r_304 => ?_)
    refine tz_iload (pc := 305) dL_law_305 rfl ?_
    refine tz_i2l (pc := 307) dL_law_307 ?_
    refine tz_lcmp (pc := 308) (v := 0) dL_law_308 hz_281 hz_281 (by simp) ?_
    refine tz_if_eqT (pc := 309) (tgt := 314) (by decide) dL_law_309 (by decide) (by decide) ?_
    refine tz_goto (pc := 314) (tgt := 1330) dL_law_314 (by decide) ?_
    exact nx _ _ _ _ _ _ lv9

set_option maxHeartbeats 4000000 in
set_option maxRecDepth 100000 in
theorem law_fault {l : Launch} {G : tb_G} {Lx : Nat} {xs : Nat → Int32} {k1 k2 n : Nat} {J : zJ} (hl : l.stackTraces = false) (i : Int) (hi : 0 ≤ i ∧ i + 6 ≤ (Lx : Int)) (hx : Lx ≤ 3072) (d5 d6 : Option Value) (h : LV J n k1 k2 i) (nx : ∀ (k1 k2 n : Nat) (J : zJ) (d5 d6 : Option Value), LV J n k1 k2 (i + 6) → tz_At l G M_L_law room_1 (some (Lx, xs)) tb_LZ k1 k2 n J 1330 [some (.ref tb_sc), some (.ref 0), some (.ref 164), some (.ref 183), some (zi i), d5, d6] []) : tz_At l G M_L_law room_1 (some (Lx, xs)) tb_LZ k1 k2 n J 317 [some (.ref tb_sc), some (.ref 0), some (.ref 164), some (.ref 183), some (zi i), d5, d6] [] := by
  obtain ⟨⟨m, hC⟩, ⟨m2, hM⟩, h3, h4, h5, h6, h7⟩ := id h
  have h9 : J 145 10 < 1000000000 := by omega
  have hnb : n ≤ tb_sc := by show n ≤ 1000000; omega
  refine tz_aload_n (pc := 317) dL_law_317 rfl rfl ?_
  refine tz_cV (pc := 318) (t_fault hl _ _   m hC h9) vl_L_74 dL_law_318 o_0 rfl rfl (Nat.le_of_ble_eq_true rfl) ⟨(Nat.le_of_ble_eq_true rfl), (Nat.le_of_ble_eq_true rfl)⟩ rfl rfl (show k1 ≤ 601024 by omega) (show k2 ≤ 7293034 by omega) (fun r9 J_318 hq9 => ?_)
  obtain ⟨z_318, rfl, hz_318, x_318⟩ := hq9
  have cw_318 : CW J_318 J := CW.c x_318
  have hM2 := hM.mid (fun c x y => cw_318.2.2.2 c (Or.inr ⟨x, y⟩))
  refine tz_pop (pc := 321) dL_law_321 rfl ?_
  refine tz_aload_n (pc := 322) dL_law_322 rfl rfl ?_
  refine tz_cV (pc := 323) (q_fault hl _ _   m2 hM2) vl_L_77 dL_law_323 o_164 rfl rfl (Nat.le_of_ble_eq_true rfl) ⟨(Nat.le_of_ble_eq_true rfl), (Nat.le_of_ble_eq_true rfl)⟩ rfl rfl (show k1 ≤ 601024 by omega) (show k2 ≤ 7293034 by omega) (fun r9 J_323 hq9 => ?_)
  obtain ⟨z_323, rfl, hz_323, y_323⟩ := hq9
  refine tz_pop (pc := 326) dL_law_326 rfl ?_
  refine tz_goto (pc := 327) (tgt := 1330) dL_law_327 (by decide) ?_
  exact nx _ _ _ _ _ _ (LV.q h cw_318 y_323 ⟨by omega, by omega⟩ (by omega) (by omega))

set_option maxHeartbeats 4000000 in
set_option maxRecDepth 100000 in
theorem law_count {l : Launch} {G : tb_G} {Lx : Nat} {xs : Nat → Int32} {k1 k2 n : Nat} {J : zJ} (hl : l.stackTraces = false) (i : Int) (hi : 0 ≤ i ∧ i + 6 ≤ (Lx : Int)) (hx : Lx ≤ 3072) (d5 d6 : Option Value) (h : LV J n k1 k2 i) (nx : ∀ (k1 k2 n : Nat) (J : zJ) (d5 d6 : Option Value), LV J n k1 k2 (i + 6) → tz_At l G M_L_law room_1 (some (Lx, xs)) tb_LZ k1 k2 n J 1330 [some (.ref tb_sc), some (.ref 0), some (.ref 164), some (.ref 183), some (zi i), d5, d6] []) : tz_At l G M_L_law room_1 (some (Lx, xs)) tb_LZ k1 k2 n J 330 [some (.ref tb_sc), some (.ref 0), some (.ref 164), some (.ref 183), some (zi i), d5, d6] [] := by
  obtain ⟨⟨m, hC⟩, ⟨m2, hM⟩, h3, h4, h5, h6, h7⟩ := id h
  have h9 : J 145 10 < 1000000000 := by omega
  have hnb : n ≤ tb_sc := by show n ≤ 1000000; omega
  refine tz_aload_n (pc := 330) dL_law_330 rfl rfl ?_
  refine tz_aload_n (pc := 331) dL_law_331 rfl rfl ?_
  refine tz_iload (pc := 332) dL_law_332 rfl ?_
  refine tz_iconst (pc := 334) dL_law_334 ?_
  refine tz_iadd (pc := 335) (v := i + 1) dL_law_335 rfl ?_
  refine tz_sld (pc := 336) (z := (i + 1)) rfl dL_law_336 (by omega) (by omega) (fun r_336 => ?_)
  refine tz_aload_n (pc := 337) dL_law_337 rfl rfl ?_
  refine tz_cH (pc := 338) (nA := 3) (lw_count hl _ _ _ (z_rg _) m hC h9) ml_L_78 ms_L_count ch_L_count wk_ini_L (by decide +kernel) dL_law_338 rfl rfl (Nat.le_of_ble_eq_true rfl) ⟨(Nat.le_of_ble_eq_true rfl), (Nat.le_of_ble_eq_true rfl)⟩ rfl rfl (show k1 + 1 ≤ 601024 by omega) (show k2 + 6 ≤ 7293034 by omega) (fun r9 n_338 J_338 hn1_338 hn2_338 hq9 => ?_)
  obtain ⟨z_338, rfl, hz_338, cw_338⟩ := hq9
  have hM2 := hM.mid (fun c x y => cw_338.2.2.2 c (Or.inr ⟨x, y⟩))
  refine tz_istore (pc := 341) (L2 := [_, _, _, _, _, _, _]) dL_law_341 (by decide) rfl ?_
  refine tz_aload_n (pc := 343) dL_law_343 rfl rfl ?_
  refine tz_aload_n (pc := 344) dL_law_344 rfl rfl ?_
  refine tz_iload (pc := 345) dL_law_345 rfl ?_
  refine tz_iconst (pc := 347) dL_law_347 ?_
  refine tz_iadd (pc := 348) (v := i + 1) dL_law_348 rfl ?_
  refine tz_sld (pc := 349) (z := (i + 1)) rfl dL_law_349 (by omega) (by omega) (fun r_349 => ?_)
  refine tz_cV (pc := 350) (q_count hl _ _ _ (z_rg _) m2 hM2) vl_L_80 dL_law_350 o_164 rfl rfl (Nat.le_of_ble_eq_true rfl) ⟨(Nat.le_of_ble_eq_true rfl), (Nat.le_of_ble_eq_true rfl)⟩ rfl rfl (show k1 + 1 ≤ 601024 by omega) (show k2 + 6 ≤ 7293034 by omega) (fun r9 J_350 hq9 => ?_)
  obtain ⟨z_350, rfl, hz_350, y_350⟩ := hq9
  refine tz_istore (pc := 353) (L2 := [_, _, _, _, _, _, _]) dL_law_353 (by decide) rfl ?_
  refine tz_goto (pc := 355) (tgt := 1330) dL_law_355 (by decide) ?_
  exact nx _ _ _ _ _ _ (LV.q h cw_338 y_350 ⟨by omega, by omega⟩ (by omega) (by omega))

set_option maxHeartbeats 4000000 in
set_option maxRecDepth 100000 in
theorem law_symbol {l : Launch} {G : tb_G} {Lx : Nat} {xs : Nat → Int32} {k1 k2 n : Nat} {J : zJ} (hl : l.stackTraces = false) (i : Int) (hi : 0 ≤ i ∧ i + 6 ≤ (Lx : Int)) (hx : Lx ≤ 3072) (d5 d6 : Option Value) (h : LV J n k1 k2 i) (nx : ∀ (k1 k2 n : Nat) (J : zJ) (d5 d6 : Option Value), LV J n k1 k2 (i + 6) → tz_At l G M_L_law room_1 (some (Lx, xs)) tb_LZ k1 k2 n J 1330 [some (.ref tb_sc), some (.ref 0), some (.ref 164), some (.ref 183), some (zi i), d5, d6] []) : tz_At l G M_L_law room_1 (some (Lx, xs)) tb_LZ k1 k2 n J 358 [some (.ref tb_sc), some (.ref 0), some (.ref 164), some (.ref 183), some (zi i), d5, d6] [] := by
  obtain ⟨⟨m, hC⟩, ⟨m2, hM⟩, h3, h4, h5, h6, h7⟩ := id h
  have h9 : J 145 10 < 1000000000 := by omega
  have hnb : n ≤ tb_sc := by show n ≤ 1000000; omega
  refine tz_aload_n (pc := 358) dL_law_358 rfl rfl ?_
  refine tz_aload_n (pc := 359) dL_law_359 rfl rfl ?_
  refine tz_iload (pc := 360) dL_law_360 rfl ?_
  refine tz_iconst (pc := 362) dL_law_362 ?_
  refine tz_iadd (pc := 363) (v := i + 1) dL_law_363 rfl ?_
  refine tz_sld (pc := 364) (z := (i + 1)) rfl dL_law_364 (by omega) (by omega) (fun r_364 => ?_)
  refine tz_aload_n (pc := 365) dL_law_365 rfl rfl ?_
  refine tz_iload (pc := 366) dL_law_366 rfl ?_
  refine tz_iconst (pc := 368) dL_law_368 ?_
  refine tz_iadd (pc := 369) (v := i + 2) dL_law_369 rfl ?_
  refine tz_sld (pc := 370) (z := (i + 2)) rfl dL_law_370 (by omega) (by omega) (fun r_370 => ?_)
  refine tz_aload_n (pc := 371) dL_law_371 rfl rfl ?_
  refine tz_cH (pc := 372) (nA := 4) (lw_symbol hl _ _ _ _ (z_rg _) (z_rg _) m hC h9) ml_L_81 ms_L_symbol ch_L_symbol wk_ini_L (by decide +kernel) dL_law_372 rfl rfl (Nat.le_of_ble_eq_true rfl) ⟨(Nat.le_of_ble_eq_true rfl), (Nat.le_of_ble_eq_true rfl)⟩ rfl rfl (show k1 + 1 ≤ 601024 by omega) (show k2 + 6 ≤ 7293034 by omega) (fun r9 n_372 J_372 hn1_372 hn2_372 hq9 => ?_)
  obtain ⟨z_372, rfl, hz_372, cw_372⟩ := hq9
  have hM2 := hM.mid (fun c x y => cw_372.2.2.2 c (Or.inr ⟨x, y⟩))
  refine tz_istore (pc := 375) (L2 := [_, _, _, _, _, _, _]) dL_law_375 (by decide) rfl ?_
  refine tz_aload_n (pc := 377) dL_law_377 rfl rfl ?_
  refine tz_aload_n (pc := 378) dL_law_378 rfl rfl ?_
  refine tz_iload (pc := 379) dL_law_379 rfl ?_
  refine tz_iconst (pc := 381) dL_law_381 ?_
  refine tz_iadd (pc := 382) (v := i + 1) dL_law_382 rfl ?_
  refine tz_sld (pc := 383) (z := (i + 1)) rfl dL_law_383 (by omega) (by omega) (fun r_383 => ?_)
  refine tz_aload_n (pc := 384) dL_law_384 rfl rfl ?_
  refine tz_iload (pc := 385) dL_law_385 rfl ?_
  refine tz_iconst (pc := 387) dL_law_387 ?_
  refine tz_iadd (pc := 388) (v := i + 2) dL_law_388 rfl ?_
  refine tz_sld (pc := 389) (z := (i + 2)) rfl dL_law_389 (by omega) (by omega) (fun r_389 => ?_)
  refine tz_cV (pc := 390) (q_symbol hl _ _ _ _ (z_rg _) (z_rg _) m2 hM2) vl_L_84 dL_law_390 o_164 rfl rfl (Nat.le_of_ble_eq_true rfl) ⟨(Nat.le_of_ble_eq_true rfl), (Nat.le_of_ble_eq_true rfl)⟩ rfl rfl (show k1 + 1 ≤ 601024 by omega) (show k2 + 6 ≤ 7293034 by omega) (fun r9 J_390 hq9 => ?_)
  obtain ⟨z_390, rfl, hz_390, y_390⟩ := hq9
  refine tz_istore (pc := 393) (L2 := [_, _, _, _, _, _, _]) dL_law_393 (by decide) rfl ?_
  refine tz_goto (pc := 395) (tgt := 1330) dL_law_395 (by decide) ?_
  exact nx _ _ _ _ _ _ (LV.q h cw_372 y_390 ⟨by omega, by omega⟩ (by omega) (by omega))

set_option maxHeartbeats 4000000 in
set_option maxRecDepth 100000 in
theorem law_term {l : Launch} {G : tb_G} {Lx : Nat} {xs : Nat → Int32} {k1 k2 n : Nat} {J : zJ} (hl : l.stackTraces = false) (i : Int) (hi : 0 ≤ i ∧ i + 6 ≤ (Lx : Int)) (hx : Lx ≤ 3072) (d5 d6 : Option Value) (h : LV J n k1 k2 i) (nx : ∀ (k1 k2 n : Nat) (J : zJ) (d5 d6 : Option Value), LV J n k1 k2 (i + 6) → tz_At l G M_L_law room_1 (some (Lx, xs)) tb_LZ k1 k2 n J 1330 [some (.ref tb_sc), some (.ref 0), some (.ref 164), some (.ref 183), some (zi i), d5, d6] []) : tz_At l G M_L_law room_1 (some (Lx, xs)) tb_LZ k1 k2 n J 398 [some (.ref tb_sc), some (.ref 0), some (.ref 164), some (.ref 183), some (zi i), d5, d6] [] := by
  obtain ⟨⟨m, hC⟩, ⟨m2, hM⟩, h3, h4, h5, h6, h7⟩ := id h
  have h9 : J 145 10 < 1000000000 := by omega
  have hnb : n ≤ tb_sc := by show n ≤ 1000000; omega
  refine tz_aload_n (pc := 398) dL_law_398 rfl rfl ?_
  refine tz_aload_n (pc := 399) dL_law_399 rfl rfl ?_
  refine tz_iload (pc := 400) dL_law_400 rfl ?_
  refine tz_iconst (pc := 402) dL_law_402 ?_
  refine tz_iadd (pc := 403) (v := i + 1) dL_law_403 rfl ?_
  refine tz_sld (pc := 404) (z := (i + 1)) rfl dL_law_404 (by omega) (by omega) (fun r_404 => ?_)
  refine tz_aload_n (pc := 405) dL_law_405 rfl rfl ?_
  refine tz_iload (pc := 406) dL_law_406 rfl ?_
  refine tz_iconst (pc := 408) dL_law_408 ?_
  refine tz_iadd (pc := 409) (v := i + 2) dL_law_409 rfl ?_
  refine tz_sld (pc := 410) (z := (i + 2)) rfl dL_law_410 (by omega) (by omega) (fun r_410 => ?_)
  refine tz_aload_n (pc := 411) dL_law_411 rfl rfl ?_
  refine tz_cH (pc := 412) (nA := 4) (lw_term hl _ _ _ _ (z_rg _) (z_rg _) m hC h9) ml_L_85 ms_L_term ch_L_term wk_ini_L (by decide +kernel) dL_law_412 rfl rfl (Nat.le_of_ble_eq_true rfl) ⟨(Nat.le_of_ble_eq_true rfl), (Nat.le_of_ble_eq_true rfl)⟩ rfl rfl (show k1 + 1 ≤ 601024 by omega) (show k2 + 6 ≤ 7293034 by omega) (fun r9 n_412 J_412 hn1_412 hn2_412 hq9 => ?_)
  obtain ⟨z_412, rfl, hz_412, cw_412⟩ := hq9
  have hM2 := hM.mid (fun c x y => cw_412.2.2.2 c (Or.inr ⟨x, y⟩))
  refine tz_istore (pc := 415) (L2 := [_, _, _, _, _, _, _]) dL_law_415 (by decide) rfl ?_
  refine tz_aload_n (pc := 417) dL_law_417 rfl rfl ?_
  refine tz_aload_n (pc := 418) dL_law_418 rfl rfl ?_
  refine tz_iload (pc := 419) dL_law_419 rfl ?_
  refine tz_iconst (pc := 421) dL_law_421 ?_
  refine tz_iadd (pc := 422) (v := i + 1) dL_law_422 rfl ?_
  refine tz_sld (pc := 423) (z := (i + 1)) rfl dL_law_423 (by omega) (by omega) (fun r_423 => ?_)
  refine tz_aload_n (pc := 424) dL_law_424 rfl rfl ?_
  refine tz_iload (pc := 425) dL_law_425 rfl ?_
  refine tz_iconst (pc := 427) dL_law_427 ?_
  refine tz_iadd (pc := 428) (v := i + 2) dL_law_428 rfl ?_
  refine tz_sld (pc := 429) (z := (i + 2)) rfl dL_law_429 (by omega) (by omega) (fun r_429 => ?_)
  refine tz_cV (pc := 430) (q_term hl _ _ _ _ (z_rg _) (z_rg _) m2 hM2) vl_L_87 dL_law_430 o_164 rfl rfl (Nat.le_of_ble_eq_true rfl) ⟨(Nat.le_of_ble_eq_true rfl), (Nat.le_of_ble_eq_true rfl)⟩ rfl rfl (show k1 + 1 ≤ 601024 by omega) (show k2 + 6 ≤ 7293034 by omega) (fun r9 J_430 hq9 => ?_)
  obtain ⟨z_430, rfl, hz_430, y_430⟩ := hq9
  refine tz_istore (pc := 433) (L2 := [_, _, _, _, _, _, _]) dL_law_433 (by decide) rfl ?_
  refine tz_goto (pc := 435) (tgt := 1330) dL_law_435 (by decide) ?_
  exact nx _ _ _ _ _ _ (LV.q h cw_412 y_430 ⟨by omega, by omega⟩ (by omega) (by omega))

set_option maxHeartbeats 4000000 in
set_option maxRecDepth 100000 in
theorem law_argument {l : Launch} {G : tb_G} {Lx : Nat} {xs : Nat → Int32} {k1 k2 n : Nat} {J : zJ} (hl : l.stackTraces = false) (i : Int) (hi : 0 ≤ i ∧ i + 6 ≤ (Lx : Int)) (hx : Lx ≤ 3072) (d5 d6 : Option Value) (h : LV J n k1 k2 i) (nx : ∀ (k1 k2 n : Nat) (J : zJ) (d5 d6 : Option Value), LV J n k1 k2 (i + 6) → tz_At l G M_L_law room_1 (some (Lx, xs)) tb_LZ k1 k2 n J 1330 [some (.ref tb_sc), some (.ref 0), some (.ref 164), some (.ref 183), some (zi i), d5, d6] []) : tz_At l G M_L_law room_1 (some (Lx, xs)) tb_LZ k1 k2 n J 438 [some (.ref tb_sc), some (.ref 0), some (.ref 164), some (.ref 183), some (zi i), d5, d6] [] := by
  obtain ⟨⟨m, hC⟩, ⟨m2, hM⟩, h3, h4, h5, h6, h7⟩ := id h
  have h9 : J 145 10 < 1000000000 := by omega
  have hnb : n ≤ tb_sc := by show n ≤ 1000000; omega
  refine tz_aload_n (pc := 438) dL_law_438 rfl rfl ?_
  refine tz_aload_n (pc := 439) dL_law_439 rfl rfl ?_
  refine tz_iload (pc := 440) dL_law_440 rfl ?_
  refine tz_iconst (pc := 442) dL_law_442 ?_
  refine tz_iadd (pc := 443) (v := i + 1) dL_law_443 rfl ?_
  refine tz_sld (pc := 444) (z := (i + 1)) rfl dL_law_444 (by omega) (by omega) (fun r_444 => ?_)
  refine tz_aload_n (pc := 445) dL_law_445 rfl rfl ?_
  refine tz_iload (pc := 446) dL_law_446 rfl ?_
  refine tz_iconst (pc := 448) dL_law_448 ?_
  refine tz_iadd (pc := 449) (v := i + 2) dL_law_449 rfl ?_
  refine tz_sld (pc := 450) (z := (i + 2)) rfl dL_law_450 (by omega) (by omega) (fun r_450 => ?_)
  refine tz_aload_n (pc := 451) dL_law_451 rfl rfl ?_
  refine tz_cH (pc := 452) (nA := 4) (lw_argument hl _ _ _ _ (z_rg _) (z_rg _) m hC h9) ml_L_88 ms_L_argument ch_L_argument wk_ini_L (by decide +kernel) dL_law_452 rfl rfl (Nat.le_of_ble_eq_true rfl) ⟨(Nat.le_of_ble_eq_true rfl), (Nat.le_of_ble_eq_true rfl)⟩ rfl rfl (show k1 + 1 ≤ 601024 by omega) (show k2 + 6 ≤ 7293034 by omega) (fun r9 n_452 J_452 hn1_452 hn2_452 hq9 => ?_)
  obtain ⟨z_452, rfl, hz_452, cw_452⟩ := hq9
  have hM2 := hM.mid (fun c x y => cw_452.2.2.2 c (Or.inr ⟨x, y⟩))
  refine tz_istore (pc := 455) (L2 := [_, _, _, _, _, _, _]) dL_law_455 (by decide) rfl ?_
  refine tz_aload_n (pc := 457) dL_law_457 rfl rfl ?_
  refine tz_aload_n (pc := 458) dL_law_458 rfl rfl ?_
  refine tz_iload (pc := 459) dL_law_459 rfl ?_
  refine tz_iconst (pc := 461) dL_law_461 ?_
  refine tz_iadd (pc := 462) (v := i + 1) dL_law_462 rfl ?_
  refine tz_sld (pc := 463) (z := (i + 1)) rfl dL_law_463 (by omega) (by omega) (fun r_463 => ?_)
  refine tz_aload_n (pc := 464) dL_law_464 rfl rfl ?_
  refine tz_iload (pc := 465) dL_law_465 rfl ?_
  refine tz_iconst (pc := 467) dL_law_467 ?_
  refine tz_iadd (pc := 468) (v := i + 2) dL_law_468 rfl ?_
  refine tz_sld (pc := 469) (z := (i + 2)) rfl dL_law_469 (by omega) (by omega) (fun r_469 => ?_)
  refine tz_cV (pc := 470) (q_argument hl _ _ _ _ (z_rg _) (z_rg _) m2 hM2) vl_L_90 dL_law_470 o_164 rfl rfl (Nat.le_of_ble_eq_true rfl) ⟨(Nat.le_of_ble_eq_true rfl), (Nat.le_of_ble_eq_true rfl)⟩ rfl rfl (show k1 + 1 ≤ 601024 by omega) (show k2 + 6 ≤ 7293034 by omega) (fun r9 J_470 hq9 => ?_)
  obtain ⟨z_470, rfl, hz_470, y_470⟩ := hq9
  refine tz_istore (pc := 473) (L2 := [_, _, _, _, _, _, _]) dL_law_473 (by decide) rfl ?_
  refine tz_goto (pc := 475) (tgt := 1330) dL_law_475 (by decide) ?_
  exact nx _ _ _ _ _ _ (LV.q h cw_452 y_470 ⟨by omega, by omega⟩ (by omega) (by omega))

set_option maxHeartbeats 4000000 in
set_option maxRecDepth 100000 in
theorem law_place {l : Launch} {G : tb_G} {Lx : Nat} {xs : Nat → Int32} {k1 k2 n : Nat} {J : zJ} (hl : l.stackTraces = false) (i : Int) (hi : 0 ≤ i ∧ i + 6 ≤ (Lx : Int)) (hx : Lx ≤ 3072) (d5 d6 : Option Value) (h : LV J n k1 k2 i) (nx : ∀ (k1 k2 n : Nat) (J : zJ) (d5 d6 : Option Value), LV J n k1 k2 (i + 6) → tz_At l G M_L_law room_1 (some (Lx, xs)) tb_LZ k1 k2 n J 1330 [some (.ref tb_sc), some (.ref 0), some (.ref 164), some (.ref 183), some (zi i), d5, d6] []) : tz_At l G M_L_law room_1 (some (Lx, xs)) tb_LZ k1 k2 n J 478 [some (.ref tb_sc), some (.ref 0), some (.ref 164), some (.ref 183), some (zi i), d5, d6] [] := by
  obtain ⟨⟨m, hC⟩, ⟨m2, hM⟩, h3, h4, h5, h6, h7⟩ := id h
  have h9 : J 145 10 < 1000000000 := by omega
  have hnb : n ≤ tb_sc := by show n ≤ 1000000; omega
  refine tz_aload_n (pc := 478) dL_law_478 rfl rfl ?_
  refine tz_aload_n (pc := 479) dL_law_479 rfl rfl ?_
  refine tz_iload (pc := 480) dL_law_480 rfl ?_
  refine tz_iconst (pc := 482) dL_law_482 ?_
  refine tz_iadd (pc := 483) (v := i + 1) dL_law_483 rfl ?_
  refine tz_sld (pc := 484) (z := (i + 1)) rfl dL_law_484 (by omega) (by omega) (fun r_484 => ?_)
  refine tz_aload_n (pc := 485) dL_law_485 rfl rfl ?_
  refine tz_iload (pc := 486) dL_law_486 rfl ?_
  refine tz_iconst (pc := 488) dL_law_488 ?_
  refine tz_iadd (pc := 489) (v := i + 2) dL_law_489 rfl ?_
  refine tz_sld (pc := 490) (z := (i + 2)) rfl dL_law_490 (by omega) (by omega) (fun r_490 => ?_)
  refine tz_aload_n (pc := 491) dL_law_491 rfl rfl ?_
  refine tz_cH (pc := 492) (nA := 4) (lw_place hl _ _ _ _ (z_rg _) (z_rg _) m hC h9) ml_L_91 ms_L_place ch_L_place wk_ini_L (by decide +kernel) dL_law_492 rfl rfl (Nat.le_of_ble_eq_true rfl) ⟨(Nat.le_of_ble_eq_true rfl), (Nat.le_of_ble_eq_true rfl)⟩ rfl rfl (show k1 + 1 ≤ 601024 by omega) (show k2 + 6 ≤ 7293034 by omega) (fun r9 n_492 J_492 hn1_492 hn2_492 hq9 => ?_)
  obtain ⟨z_492, rfl, hz_492, cw_492⟩ := hq9
  have hM2 := hM.mid (fun c x y => cw_492.2.2.2 c (Or.inr ⟨x, y⟩))
  refine tz_istore (pc := 495) (L2 := [_, _, _, _, _, _, _]) dL_law_495 (by decide) rfl ?_
  refine tz_aload_n (pc := 497) dL_law_497 rfl rfl ?_
  refine tz_aload_n (pc := 498) dL_law_498 rfl rfl ?_
  refine tz_iload (pc := 499) dL_law_499 rfl ?_
  refine tz_iconst (pc := 501) dL_law_501 ?_
  refine tz_iadd (pc := 502) (v := i + 1) dL_law_502 rfl ?_
  refine tz_sld (pc := 503) (z := (i + 1)) rfl dL_law_503 (by omega) (by omega) (fun r_503 => ?_)
  refine tz_aload_n (pc := 504) dL_law_504 rfl rfl ?_
  refine tz_iload (pc := 505) dL_law_505 rfl ?_
  refine tz_iconst (pc := 507) dL_law_507 ?_
  refine tz_iadd (pc := 508) (v := i + 2) dL_law_508 rfl ?_
  refine tz_sld (pc := 509) (z := (i + 2)) rfl dL_law_509 (by omega) (by omega) (fun r_509 => ?_)
  refine tz_cV (pc := 510) (q_place hl _ _ _ _ (z_rg _) (z_rg _) m2 hM2) vl_L_93 dL_law_510 o_164 rfl rfl (Nat.le_of_ble_eq_true rfl) ⟨(Nat.le_of_ble_eq_true rfl), (Nat.le_of_ble_eq_true rfl)⟩ rfl rfl (show k1 + 1 ≤ 601024 by omega) (show k2 + 6 ≤ 7293034 by omega) (fun r9 J_510 hq9 => ?_)
  obtain ⟨z_510, rfl, hz_510, y_510⟩ := hq9
  refine tz_istore (pc := 513) (L2 := [_, _, _, _, _, _, _]) dL_law_513 (by decide) rfl ?_
  refine tz_goto (pc := 515) (tgt := 1330) dL_law_515 (by decide) ?_
  exact nx _ _ _ _ _ _ (LV.q h cw_492 y_510 ⟨by omega, by omega⟩ (by omega) (by omega))

set_option maxHeartbeats 4000000 in
set_option maxRecDepth 100000 in
theorem law_order {l : Launch} {G : tb_G} {Lx : Nat} {xs : Nat → Int32} {k1 k2 n : Nat} {J : zJ} (hl : l.stackTraces = false) (i : Int) (hi : 0 ≤ i ∧ i + 6 ≤ (Lx : Int)) (hx : Lx ≤ 3072) (d5 d6 : Option Value) (h : LV J n k1 k2 i) (nx : ∀ (k1 k2 n : Nat) (J : zJ) (d5 d6 : Option Value), LV J n k1 k2 (i + 6) → tz_At l G M_L_law room_1 (some (Lx, xs)) tb_LZ k1 k2 n J 1330 [some (.ref tb_sc), some (.ref 0), some (.ref 164), some (.ref 183), some (zi i), d5, d6] []) : tz_At l G M_L_law room_1 (some (Lx, xs)) tb_LZ k1 k2 n J 518 [some (.ref tb_sc), some (.ref 0), some (.ref 164), some (.ref 183), some (zi i), d5, d6] [] := by
  obtain ⟨⟨m, hC⟩, ⟨m2, hM⟩, h3, h4, h5, h6, h7⟩ := id h
  have h9 : J 145 10 < 1000000000 := by omega
  have hnb : n ≤ tb_sc := by show n ≤ 1000000; omega
  refine tz_aload_n (pc := 518) dL_law_518 rfl rfl ?_
  refine tz_aload_n (pc := 519) dL_law_519 rfl rfl ?_
  refine tz_iload (pc := 520) dL_law_520 rfl ?_
  refine tz_iconst (pc := 522) dL_law_522 ?_
  refine tz_iadd (pc := 523) (v := i + 1) dL_law_523 rfl ?_
  refine tz_sld (pc := 524) (z := (i + 1)) rfl dL_law_524 (by omega) (by omega) (fun r_524 => ?_)
  refine tz_aload_n (pc := 525) dL_law_525 rfl rfl ?_
  refine tz_iload (pc := 526) dL_law_526 rfl ?_
  refine tz_iconst (pc := 528) dL_law_528 ?_
  refine tz_iadd (pc := 529) (v := i + 2) dL_law_529 rfl ?_
  refine tz_sld (pc := 530) (z := (i + 2)) rfl dL_law_530 (by omega) (by omega) (fun r_530 => ?_)
  refine tz_aload_n (pc := 531) dL_law_531 rfl rfl ?_
  refine tz_cH (pc := 532) (nA := 4) (lw_order hl _ _ _ _ (z_rg _) (z_rg _) m hC h9) ml_L_94 ms_L_order ch_L_order wk_ini_L (by decide +kernel) dL_law_532 rfl rfl (Nat.le_of_ble_eq_true rfl) ⟨(Nat.le_of_ble_eq_true rfl), (Nat.le_of_ble_eq_true rfl)⟩ rfl rfl (show k1 + 1 ≤ 601024 by omega) (show k2 + 6 ≤ 7293034 by omega) (fun r9 n_532 J_532 hn1_532 hn2_532 hq9 => ?_)
  obtain ⟨z_532, rfl, hz_532, cw_532⟩ := hq9
  have hM2 := hM.mid (fun c x y => cw_532.2.2.2 c (Or.inr ⟨x, y⟩))
  refine tz_istore (pc := 535) (L2 := [_, _, _, _, _, _, _]) dL_law_535 (by decide) rfl ?_
  refine tz_aload_n (pc := 537) dL_law_537 rfl rfl ?_
  refine tz_aload_n (pc := 538) dL_law_538 rfl rfl ?_
  refine tz_iload (pc := 539) dL_law_539 rfl ?_
  refine tz_iconst (pc := 541) dL_law_541 ?_
  refine tz_iadd (pc := 542) (v := i + 1) dL_law_542 rfl ?_
  refine tz_sld (pc := 543) (z := (i + 1)) rfl dL_law_543 (by omega) (by omega) (fun r_543 => ?_)
  refine tz_aload_n (pc := 544) dL_law_544 rfl rfl ?_
  refine tz_iload (pc := 545) dL_law_545 rfl ?_
  refine tz_iconst (pc := 547) dL_law_547 ?_
  refine tz_iadd (pc := 548) (v := i + 2) dL_law_548 rfl ?_
  refine tz_sld (pc := 549) (z := (i + 2)) rfl dL_law_549 (by omega) (by omega) (fun r_549 => ?_)
  refine tz_cV (pc := 550) (q_order hl _ _ _ _ (z_rg _) (z_rg _) m2 hM2) vl_L_96 dL_law_550 o_164 rfl rfl (Nat.le_of_ble_eq_true rfl) ⟨(Nat.le_of_ble_eq_true rfl), (Nat.le_of_ble_eq_true rfl)⟩ rfl rfl (show k1 + 1 ≤ 601024 by omega) (show k2 + 6 ≤ 7293034 by omega) (fun r9 J_550 hq9 => ?_)
  obtain ⟨z_550, rfl, hz_550, y_550⟩ := hq9
  refine tz_istore (pc := 553) (L2 := [_, _, _, _, _, _, _]) dL_law_553 (by decide) rfl ?_
  refine tz_goto (pc := 555) (tgt := 1330) dL_law_555 (by decide) ?_
  exact nx _ _ _ _ _ _ (LV.q h cw_532 y_550 ⟨by omega, by omega⟩ (by omega) (by omega))

set_option maxHeartbeats 4000000 in
set_option maxRecDepth 100000 in
theorem law_find {l : Launch} {G : tb_G} {Lx : Nat} {xs : Nat → Int32} {k1 k2 n : Nat} {J : zJ} (hl : l.stackTraces = false) (i : Int) (hi : 0 ≤ i ∧ i + 6 ≤ (Lx : Int)) (hx : Lx ≤ 3072) (d5 d6 : Option Value) (h : LV J n k1 k2 i) (nx : ∀ (k1 k2 n : Nat) (J : zJ) (d5 d6 : Option Value), LV J n k1 k2 (i + 6) → tz_At l G M_L_law room_1 (some (Lx, xs)) tb_LZ k1 k2 n J 1330 [some (.ref tb_sc), some (.ref 0), some (.ref 164), some (.ref 183), some (zi i), d5, d6] []) : tz_At l G M_L_law room_1 (some (Lx, xs)) tb_LZ k1 k2 n J 558 [some (.ref tb_sc), some (.ref 0), some (.ref 164), some (.ref 183), some (zi i), d5, d6] [] := by
  obtain ⟨⟨m, hC⟩, ⟨m2, hM⟩, h3, h4, h5, h6, h7⟩ := id h
  have h9 : J 145 10 < 1000000000 := by omega
  have hnb : n ≤ tb_sc := by show n ≤ 1000000; omega
  refine tz_aload_n (pc := 558) dL_law_558 rfl rfl ?_
  refine tz_aload_n (pc := 559) dL_law_559 rfl rfl ?_
  refine tz_iload (pc := 560) dL_law_560 rfl ?_
  refine tz_iconst (pc := 562) dL_law_562 ?_
  refine tz_iadd (pc := 563) (v := i + 1) dL_law_563 rfl ?_
  refine tz_sld (pc := 564) (z := (i + 1)) rfl dL_law_564 (by omega) (by omega) (fun r_564 => ?_)
  refine tz_aload_n (pc := 565) dL_law_565 rfl rfl ?_
  refine tz_iload (pc := 566) dL_law_566 rfl ?_
  refine tz_iconst (pc := 568) dL_law_568 ?_
  refine tz_iadd (pc := 569) (v := i + 2) dL_law_569 rfl ?_
  refine tz_sld (pc := 570) (z := (i + 2)) rfl dL_law_570 (by omega) (by omega) (fun r_570 => ?_)
  refine tz_aload_n (pc := 571) dL_law_571 rfl rfl ?_
  refine tz_cH (pc := 572) (nA := 4) (lw_find hl _ _ _ _ (z_rg _) (z_rg _) m hC h9) ml_L_97 ms_L_find ch_L_find wk_ini_L (by decide +kernel) dL_law_572 rfl rfl (Nat.le_of_ble_eq_true rfl) ⟨(Nat.le_of_ble_eq_true rfl), (Nat.le_of_ble_eq_true rfl)⟩ rfl rfl (show k1 + 1 ≤ 601024 by omega) (show k2 + 6 ≤ 7293034 by omega) (fun r9 n_572 J_572 hn1_572 hn2_572 hq9 => ?_)
  obtain ⟨z_572, rfl, hz_572, cw_572⟩ := hq9
  have hM2 := hM.mid (fun c x y => cw_572.2.2.2 c (Or.inr ⟨x, y⟩))
  refine tz_istore (pc := 575) (L2 := [_, _, _, _, _, _, _]) dL_law_575 (by decide) rfl ?_
  refine tz_aload_n (pc := 577) dL_law_577 rfl rfl ?_
  refine tz_aload_n (pc := 578) dL_law_578 rfl rfl ?_
  refine tz_iload (pc := 579) dL_law_579 rfl ?_
  refine tz_iconst (pc := 581) dL_law_581 ?_
  refine tz_iadd (pc := 582) (v := i + 1) dL_law_582 rfl ?_
  refine tz_sld (pc := 583) (z := (i + 1)) rfl dL_law_583 (by omega) (by omega) (fun r_583 => ?_)
  refine tz_aload_n (pc := 584) dL_law_584 rfl rfl ?_
  refine tz_iload (pc := 585) dL_law_585 rfl ?_
  refine tz_iconst (pc := 587) dL_law_587 ?_
  refine tz_iadd (pc := 588) (v := i + 2) dL_law_588 rfl ?_
  refine tz_sld (pc := 589) (z := (i + 2)) rfl dL_law_589 (by omega) (by omega) (fun r_589 => ?_)
  refine tz_cV (pc := 590) (q_find hl _ _ _ _ (z_rg _) (z_rg _) m2 hM2) vl_L_99 dL_law_590 o_164 rfl rfl (Nat.le_of_ble_eq_true rfl) ⟨(Nat.le_of_ble_eq_true rfl), (Nat.le_of_ble_eq_true rfl)⟩ rfl rfl (show k1 + 1 ≤ 601024 by omega) (show k2 + 6 ≤ 7293034 by omega) (fun r9 J_590 hq9 => ?_)
  obtain ⟨z_590, rfl, hz_590, y_590⟩ := hq9
  refine tz_istore (pc := 593) (L2 := [_, _, _, _, _, _, _]) dL_law_593 (by decide) rfl ?_
  refine tz_goto (pc := 595) (tgt := 1330) dL_law_595 (by decide) ?_
  exact nx _ _ _ _ _ _ (LV.q h cw_572 y_590 ⟨by omega, by omega⟩ (by omega) (by omega))

set_option maxHeartbeats 4000000 in
set_option maxRecDepth 100000 in
theorem law_rule {l : Launch} {G : tb_G} {Lx : Nat} {xs : Nat → Int32} {k1 k2 n : Nat} {J : zJ} (hl : l.stackTraces = false) (i : Int) (hi : 0 ≤ i ∧ i + 6 ≤ (Lx : Int)) (hx : Lx ≤ 3072) (d5 d6 : Option Value) (h : LV J n k1 k2 i) (nx : ∀ (k1 k2 n : Nat) (J : zJ) (d5 d6 : Option Value), LV J n k1 k2 (i + 6) → tz_At l G M_L_law room_1 (some (Lx, xs)) tb_LZ k1 k2 n J 1330 [some (.ref tb_sc), some (.ref 0), some (.ref 164), some (.ref 183), some (zi i), d5, d6] []) : tz_At l G M_L_law room_1 (some (Lx, xs)) tb_LZ k1 k2 n J 598 [some (.ref tb_sc), some (.ref 0), some (.ref 164), some (.ref 183), some (zi i), d5, d6] [] := by
  obtain ⟨⟨m, hC⟩, ⟨m2, hM⟩, h3, h4, h5, h6, h7⟩ := id h
  have h9 : J 145 10 < 1000000000 := by omega
  have hnb : n ≤ tb_sc := by show n ≤ 1000000; omega
  refine tz_aload_n (pc := 598) dL_law_598 rfl rfl ?_
  refine tz_aload_n (pc := 599) dL_law_599 rfl rfl ?_
  refine tz_iload (pc := 600) dL_law_600 rfl ?_
  refine tz_iconst (pc := 602) dL_law_602 ?_
  refine tz_iadd (pc := 603) (v := i + 1) dL_law_603 rfl ?_
  refine tz_sld (pc := 604) (z := (i + 1)) rfl dL_law_604 (by omega) (by omega) (fun r_604 => ?_)
  refine tz_aload_n (pc := 605) dL_law_605 rfl rfl ?_
  refine tz_iload (pc := 606) dL_law_606 rfl ?_
  refine tz_iconst (pc := 608) dL_law_608 ?_
  refine tz_iadd (pc := 609) (v := i + 2) dL_law_609 rfl ?_
  refine tz_sld (pc := 610) (z := (i + 2)) rfl dL_law_610 (by omega) (by omega) (fun r_610 => ?_)
  refine tz_aload_n (pc := 611) dL_law_611 rfl rfl ?_
  refine tz_cH (pc := 612) (nA := 4) (lw_rule hl _ _ _ _ (z_rg _) (z_rg _) m hC h9) ml_L_100 ms_L_rule ch_L_rule wk_ini_L (by decide +kernel) dL_law_612 rfl rfl (Nat.le_of_ble_eq_true rfl) ⟨(Nat.le_of_ble_eq_true rfl), (Nat.le_of_ble_eq_true rfl)⟩ rfl rfl (show k1 + 1 ≤ 601024 by omega) (show k2 + 6 ≤ 7293034 by omega) (fun r9 n_612 J_612 hn1_612 hn2_612 hq9 => ?_)
  obtain ⟨z_612, rfl, hz_612, cw_612⟩ := hq9
  have hM2 := hM.mid (fun c x y => cw_612.2.2.2 c (Or.inr ⟨x, y⟩))
  refine tz_istore (pc := 615) (L2 := [_, _, _, _, _, _, _]) dL_law_615 (by decide) rfl ?_
  refine tz_aload_n (pc := 617) dL_law_617 rfl rfl ?_
  refine tz_aload_n (pc := 618) dL_law_618 rfl rfl ?_
  refine tz_iload (pc := 619) dL_law_619 rfl ?_
  refine tz_iconst (pc := 621) dL_law_621 ?_
  refine tz_iadd (pc := 622) (v := i + 1) dL_law_622 rfl ?_
  refine tz_sld (pc := 623) (z := (i + 1)) rfl dL_law_623 (by omega) (by omega) (fun r_623 => ?_)
  refine tz_aload_n (pc := 624) dL_law_624 rfl rfl ?_
  refine tz_iload (pc := 625) dL_law_625 rfl ?_
  refine tz_iconst (pc := 627) dL_law_627 ?_
  refine tz_iadd (pc := 628) (v := i + 2) dL_law_628 rfl ?_
  refine tz_sld (pc := 629) (z := (i + 2)) rfl dL_law_629 (by omega) (by omega) (fun r_629 => ?_)
  refine tz_cV (pc := 630) (q_rule hl _ _ _ _ (z_rg _) (z_rg _) m2 hM2) vl_L_102 dL_law_630 o_164 rfl rfl (Nat.le_of_ble_eq_true rfl) ⟨(Nat.le_of_ble_eq_true rfl), (Nat.le_of_ble_eq_true rfl)⟩ rfl rfl (show k1 + 1 ≤ 601024 by omega) (show k2 + 6 ≤ 7293034 by omega) (fun r9 J_630 hq9 => ?_)
  obtain ⟨z_630, rfl, hz_630, y_630⟩ := hq9
  refine tz_istore (pc := 633) (L2 := [_, _, _, _, _, _, _]) dL_law_633 (by decide) rfl ?_
  refine tz_goto (pc := 635) (tgt := 1330) dL_law_635 (by decide) ?_
  exact nx _ _ _ _ _ _ (LV.q h cw_612 y_630 ⟨by omega, by omega⟩ (by omega) (by omega))

set_option maxHeartbeats 4000000 in
set_option maxRecDepth 100000 in
theorem law_entry {l : Launch} {G : tb_G} {Lx : Nat} {xs : Nat → Int32} {k1 k2 n : Nat} {J : zJ} (hl : l.stackTraces = false) (i : Int) (hi : 0 ≤ i ∧ i + 6 ≤ (Lx : Int)) (hx : Lx ≤ 3072) (d5 d6 : Option Value) (h : LV J n k1 k2 i) (nx : ∀ (k1 k2 n : Nat) (J : zJ) (d5 d6 : Option Value), LV J n k1 k2 (i + 6) → tz_At l G M_L_law room_1 (some (Lx, xs)) tb_LZ k1 k2 n J 1330 [some (.ref tb_sc), some (.ref 0), some (.ref 164), some (.ref 183), some (zi i), d5, d6] []) : tz_At l G M_L_law room_1 (some (Lx, xs)) tb_LZ k1 k2 n J 638 [some (.ref tb_sc), some (.ref 0), some (.ref 164), some (.ref 183), some (zi i), d5, d6] [] := by
  obtain ⟨⟨m, hC⟩, ⟨m2, hM⟩, h3, h4, h5, h6, h7⟩ := id h
  have h9 : J 145 10 < 1000000000 := by omega
  have hnb : n ≤ tb_sc := by show n ≤ 1000000; omega
  refine tz_aload_n (pc := 638) dL_law_638 rfl rfl ?_
  refine tz_aload_n (pc := 639) dL_law_639 rfl rfl ?_
  refine tz_iload (pc := 640) dL_law_640 rfl ?_
  refine tz_iconst (pc := 642) dL_law_642 ?_
  refine tz_iadd (pc := 643) (v := i + 1) dL_law_643 rfl ?_
  refine tz_sld (pc := 644) (z := (i + 1)) rfl dL_law_644 (by omega) (by omega) (fun r_644 => ?_)
  refine tz_aload_n (pc := 645) dL_law_645 rfl rfl ?_
  refine tz_cH (pc := 646) (nA := 3) (lw_entry hl _ _ _ (z_rg _) m hC h9) ml_L_103 ms_L_entry ch_L_entry wk_ini_L (by decide +kernel) dL_law_646 rfl rfl (Nat.le_of_ble_eq_true rfl) ⟨(Nat.le_of_ble_eq_true rfl), (Nat.le_of_ble_eq_true rfl)⟩ rfl rfl (show k1 + 1 ≤ 601024 by omega) (show k2 + 6 ≤ 7293034 by omega) (fun r9 n_646 J_646 hn1_646 hn2_646 hq9 => ?_)
  obtain ⟨z_646, rfl, hz_646, cw_646⟩ := hq9
  have hM2 := hM.mid (fun c x y => cw_646.2.2.2 c (Or.inr ⟨x, y⟩))
  refine tz_istore (pc := 649) (L2 := [_, _, _, _, _, _, _]) dL_law_649 (by decide) rfl ?_
  refine tz_aload_n (pc := 651) dL_law_651 rfl rfl ?_
  refine tz_aload_n (pc := 652) dL_law_652 rfl rfl ?_
  refine tz_iload (pc := 653) dL_law_653 rfl ?_
  refine tz_iconst (pc := 655) dL_law_655 ?_
  refine tz_iadd (pc := 656) (v := i + 1) dL_law_656 rfl ?_
  refine tz_sld (pc := 657) (z := (i + 1)) rfl dL_law_657 (by omega) (by omega) (fun r_657 => ?_)
  refine tz_cV (pc := 658) (q_entry hl _ _ _ (z_rg _) m2 hM2) vl_L_105 dL_law_658 o_164 rfl rfl (Nat.le_of_ble_eq_true rfl) ⟨(Nat.le_of_ble_eq_true rfl), (Nat.le_of_ble_eq_true rfl)⟩ rfl rfl (show k1 + 1 ≤ 601024 by omega) (show k2 + 6 ≤ 7293034 by omega) (fun r9 J_658 hq9 => ?_)
  obtain ⟨z_658, rfl, hz_658, y_658⟩ := hq9
  refine tz_istore (pc := 661) (L2 := [_, _, _, _, _, _, _]) dL_law_661 (by decide) rfl ?_
  refine tz_goto (pc := 663) (tgt := 1330) dL_law_663 (by decide) ?_
  exact nx _ _ _ _ _ _ (LV.q h cw_646 y_658 ⟨by omega, by omega⟩ (by omega) (by omega))

set_option maxHeartbeats 4000000 in
set_option maxRecDepth 100000 in
theorem law_memo {l : Launch} {G : tb_G} {Lx : Nat} {xs : Nat → Int32} {k1 k2 n : Nat} {J : zJ} (hl : l.stackTraces = false) (i : Int) (hi : 0 ≤ i ∧ i + 6 ≤ (Lx : Int)) (hx : Lx ≤ 3072) (d5 d6 : Option Value) (h : LV J n k1 k2 i) (nx : ∀ (k1 k2 n : Nat) (J : zJ) (d5 d6 : Option Value), LV J n k1 k2 (i + 6) → tz_At l G M_L_law room_1 (some (Lx, xs)) tb_LZ k1 k2 n J 1330 [some (.ref tb_sc), some (.ref 0), some (.ref 164), some (.ref 183), some (zi i), d5, d6] []) : tz_At l G M_L_law room_1 (some (Lx, xs)) tb_LZ k1 k2 n J 666 [some (.ref tb_sc), some (.ref 0), some (.ref 164), some (.ref 183), some (zi i), d5, d6] [] := by
  obtain ⟨⟨m, hC⟩, ⟨m2, hM⟩, h3, h4, h5, h6, h7⟩ := id h
  have h9 : J 145 10 < 1000000000 := by omega
  have hnb : n ≤ tb_sc := by show n ≤ 1000000; omega
  refine tz_aload_n (pc := 666) dL_law_666 rfl rfl ?_
  refine tz_aload_n (pc := 667) dL_law_667 rfl rfl ?_
  refine tz_iload (pc := 668) dL_law_668 rfl ?_
  refine tz_iconst (pc := 670) dL_law_670 ?_
  refine tz_iadd (pc := 671) (v := i + 1) dL_law_671 rfl ?_
  refine tz_sld (pc := 672) (z := (i + 1)) rfl dL_law_672 (by omega) (by omega) (fun r_672 => ?_)
  refine tz_aload_n (pc := 673) dL_law_673 rfl rfl ?_
  refine tz_iload (pc := 674) dL_law_674 rfl ?_
  refine tz_iconst (pc := 676) dL_law_676 ?_
  refine tz_iadd (pc := 677) (v := i + 2) dL_law_677 rfl ?_
  refine tz_sld (pc := 678) (z := (i + 2)) rfl dL_law_678 (by omega) (by omega) (fun r_678 => ?_)
  refine tz_aload_n (pc := 679) dL_law_679 rfl rfl ?_
  refine tz_cH (pc := 680) (nA := 4) (lw_memo hl _ _ _ _ (z_rg _) (z_rg _) m hC h9) ml_L_106 ms_L_memo ch_L_memo wk_ini_L (by decide +kernel) dL_law_680 rfl rfl (Nat.le_of_ble_eq_true rfl) ⟨(Nat.le_of_ble_eq_true rfl), (Nat.le_of_ble_eq_true rfl)⟩ rfl rfl (show k1 + 1 ≤ 601024 by omega) (show k2 + 6 ≤ 7293034 by omega) (fun r9 n_680 J_680 hn1_680 hn2_680 hq9 => ?_)
  obtain ⟨z_680, rfl, hz_680, cw_680⟩ := hq9
  have hM2 := hM.mid (fun c x y => cw_680.2.2.2 c (Or.inr ⟨x, y⟩))
  refine tz_istore (pc := 683) (L2 := [_, _, _, _, _, _, _]) dL_law_683 (by decide) rfl ?_
  refine tz_aload_n (pc := 685) dL_law_685 rfl rfl ?_
  refine tz_aload_n (pc := 686) dL_law_686 rfl rfl ?_
  refine tz_iload (pc := 687) dL_law_687 rfl ?_
  refine tz_iconst (pc := 689) dL_law_689 ?_
  refine tz_iadd (pc := 690) (v := i + 1) dL_law_690 rfl ?_
  refine tz_sld (pc := 691) (z := (i + 1)) rfl dL_law_691 (by omega) (by omega) (fun r_691 => ?_)
  refine tz_aload_n (pc := 692) dL_law_692 rfl rfl ?_
  refine tz_iload (pc := 693) dL_law_693 rfl ?_
  refine tz_iconst (pc := 695) dL_law_695 ?_
  refine tz_iadd (pc := 696) (v := i + 2) dL_law_696 rfl ?_
  refine tz_sld (pc := 697) (z := (i + 2)) rfl dL_law_697 (by omega) (by omega) (fun r_697 => ?_)
  refine tz_cV (pc := 698) (q_memo hl _ _ _ _ (z_rg _) (z_rg _) m2 hM2) vl_L_108 dL_law_698 o_164 rfl rfl (Nat.le_of_ble_eq_true rfl) ⟨(Nat.le_of_ble_eq_true rfl), (Nat.le_of_ble_eq_true rfl)⟩ rfl rfl (show k1 + 1 ≤ 601024 by omega) (show k2 + 6 ≤ 7293034 by omega) (fun r9 J_698 hq9 => ?_)
  obtain ⟨z_698, rfl, hz_698, y_698⟩ := hq9
  refine tz_istore (pc := 701) (L2 := [_, _, _, _, _, _, _]) dL_law_701 (by decide) rfl ?_
  refine tz_goto (pc := 703) (tgt := 1330) dL_law_703 (by decide) ?_
  exact nx _ _ _ _ _ _ (LV.q h cw_680 y_698 ⟨by omega, by omega⟩ (by omega) (by omega))

set_option maxHeartbeats 4000000 in
set_option maxRecDepth 100000 in
theorem law_bound {l : Launch} {G : tb_G} {Lx : Nat} {xs : Nat → Int32} {k1 k2 n : Nat} {J : zJ} (hl : l.stackTraces = false) (i : Int) (hi : 0 ≤ i ∧ i + 6 ≤ (Lx : Int)) (hx : Lx ≤ 3072) (d5 d6 : Option Value) (h : LV J n k1 k2 i) (nx : ∀ (k1 k2 n : Nat) (J : zJ) (d5 d6 : Option Value), LV J n k1 k2 (i + 6) → tz_At l G M_L_law room_1 (some (Lx, xs)) tb_LZ k1 k2 n J 1330 [some (.ref tb_sc), some (.ref 0), some (.ref 164), some (.ref 183), some (zi i), d5, d6] []) : tz_At l G M_L_law room_1 (some (Lx, xs)) tb_LZ k1 k2 n J 706 [some (.ref tb_sc), some (.ref 0), some (.ref 164), some (.ref 183), some (zi i), d5, d6] [] := by
  obtain ⟨⟨m, hC⟩, ⟨m2, hM⟩, h3, h4, h5, h6, h7⟩ := id h
  have h9 : J 145 10 < 1000000000 := by omega
  have hnb : n ≤ tb_sc := by show n ≤ 1000000; omega
  refine tz_aload_n (pc := 706) dL_law_706 rfl rfl ?_
  refine tz_aload_n (pc := 707) dL_law_707 rfl rfl ?_
  refine tz_iload (pc := 708) dL_law_708 rfl ?_
  refine tz_iconst (pc := 710) dL_law_710 ?_
  refine tz_iadd (pc := 711) (v := i + 1) dL_law_711 rfl ?_
  refine tz_sld (pc := 712) (z := (i + 1)) rfl dL_law_712 (by omega) (by omega) (fun r_712 => ?_)
  refine tz_aload_n (pc := 713) dL_law_713 rfl rfl ?_
  refine tz_cH (pc := 714) (nA := 3) (lw_bound hl _ _ _ (z_rg _) m hC h9) ml_L_109 ms_L_bound ch_L_bound wk_ini_L (by decide +kernel) dL_law_714 rfl rfl (Nat.le_of_ble_eq_true rfl) ⟨(Nat.le_of_ble_eq_true rfl), (Nat.le_of_ble_eq_true rfl)⟩ rfl rfl (show k1 + 1 ≤ 601024 by omega) (show k2 + 6 ≤ 7293034 by omega) (fun r9 n_714 J_714 hn1_714 hn2_714 hq9 => ?_)
  obtain ⟨z_714, rfl, hz_714, cw_714⟩ := hq9
  have hM2 := hM.mid (fun c x y => cw_714.2.2.2 c (Or.inr ⟨x, y⟩))
  refine tz_istore (pc := 717) (L2 := [_, _, _, _, _, _, _]) dL_law_717 (by decide) rfl ?_
  refine tz_aload_n (pc := 719) dL_law_719 rfl rfl ?_
  refine tz_aload_n (pc := 720) dL_law_720 rfl rfl ?_
  refine tz_iload (pc := 721) dL_law_721 rfl ?_
  refine tz_iconst (pc := 723) dL_law_723 ?_
  refine tz_iadd (pc := 724) (v := i + 1) dL_law_724 rfl ?_
  refine tz_sld (pc := 725) (z := (i + 1)) rfl dL_law_725 (by omega) (by omega) (fun r_725 => ?_)
  refine tz_cV (pc := 726) (q_bound hl _ _ _ (z_rg _) m2 hM2) vl_L_111 dL_law_726 o_164 rfl rfl (Nat.le_of_ble_eq_true rfl) ⟨(Nat.le_of_ble_eq_true rfl), (Nat.le_of_ble_eq_true rfl)⟩ rfl rfl (show k1 + 1 ≤ 601024 by omega) (show k2 + 6 ≤ 7293034 by omega) (fun r9 J_726 hq9 => ?_)
  obtain ⟨z_726, rfl, hz_726, y_726⟩ := hq9
  refine tz_istore (pc := 729) (L2 := [_, _, _, _, _, _, _]) dL_law_729 (by decide) rfl ?_
  refine tz_goto (pc := 731) (tgt := 1330) dL_law_731 (by decide) ?_
  exact nx _ _ _ _ _ _ (LV.q h cw_714 y_726 ⟨by omega, by omega⟩ (by omega) (by omega))

set_option maxHeartbeats 4000000 in
set_option maxRecDepth 100000 in
theorem law_variable {l : Launch} {G : tb_G} {Lx : Nat} {xs : Nat → Int32} {k1 k2 n : Nat} {J : zJ} (hl : l.stackTraces = false) (i : Int) (hi : 0 ≤ i ∧ i + 6 ≤ (Lx : Int)) (hx : Lx ≤ 3072) (d5 d6 : Option Value) (h : LV J n k1 k2 i) (nx : ∀ (k1 k2 n : Nat) (J : zJ) (d5 d6 : Option Value), LV J n k1 k2 (i + 6) → tz_At l G M_L_law room_1 (some (Lx, xs)) tb_LZ k1 k2 n J 1330 [some (.ref tb_sc), some (.ref 0), some (.ref 164), some (.ref 183), some (zi i), d5, d6] []) : tz_At l G M_L_law room_1 (some (Lx, xs)) tb_LZ k1 k2 n J 734 [some (.ref tb_sc), some (.ref 0), some (.ref 164), some (.ref 183), some (zi i), d5, d6] [] := by
  obtain ⟨⟨m, hC⟩, ⟨m2, hM⟩, h3, h4, h5, h6, h7⟩ := id h
  have h9 : J 145 10 < 1000000000 := by omega
  have hnb : n ≤ tb_sc := by show n ≤ 1000000; omega
  refine tz_aload_n (pc := 734) dL_law_734 rfl rfl ?_
  refine tz_aload_n (pc := 735) dL_law_735 rfl rfl ?_
  refine tz_iload (pc := 736) dL_law_736 rfl ?_
  refine tz_iconst (pc := 738) dL_law_738 ?_
  refine tz_iadd (pc := 739) (v := i + 1) dL_law_739 rfl ?_
  refine tz_sld (pc := 740) (z := (i + 1)) rfl dL_law_740 (by omega) (by omega) (fun r_740 => ?_)
  refine tz_cV (pc := 741) (t_variable hl _ _ _ (z_rg _) m hC h9) vl_L_112 dL_law_741 o_0 rfl rfl (Nat.le_of_ble_eq_true rfl) ⟨(Nat.le_of_ble_eq_true rfl), (Nat.le_of_ble_eq_true rfl)⟩ rfl rfl (show k1 ≤ 601024 by omega) (show k2 ≤ 7293034 by omega) (fun r9 J_741 hq9 => ?_)
  obtain ⟨z_741, rfl, hz_741, x_741⟩ := hq9
  have cw_741 : CW J_741 J := CW.c x_741
  have hM2 := hM.mid (fun c x y => cw_741.2.2.2 c (Or.inr ⟨x, y⟩))
  refine tz_pop (pc := 744) dL_law_744 rfl ?_
  refine tz_aload_n (pc := 745) dL_law_745 rfl rfl ?_
  refine tz_aload_n (pc := 746) dL_law_746 rfl rfl ?_
  refine tz_iload (pc := 747) dL_law_747 rfl ?_
  refine tz_iconst (pc := 749) dL_law_749 ?_
  refine tz_iadd (pc := 750) (v := i + 1) dL_law_750 rfl ?_
  refine tz_sld (pc := 751) (z := (i + 1)) rfl dL_law_751 (by omega) (by omega) (fun r_751 => ?_)
  refine tz_cV (pc := 752) (q_variable hl _ _ _ (z_rg _) m2 hM2) vl_L_115 dL_law_752 o_164 rfl rfl (Nat.le_of_ble_eq_true rfl) ⟨(Nat.le_of_ble_eq_true rfl), (Nat.le_of_ble_eq_true rfl)⟩ rfl rfl (show k1 ≤ 601024 by omega) (show k2 ≤ 7293034 by omega) (fun r9 J_752 hq9 => ?_)
  obtain ⟨z_752, rfl, hz_752, y_752⟩ := hq9
  refine tz_pop (pc := 755) dL_law_755 rfl ?_
  refine tz_goto (pc := 756) (tgt := 1330) dL_law_756 (by decide) ?_
  exact nx _ _ _ _ _ _ (LV.q h cw_741 y_752 ⟨by omega, by omega⟩ (by omega) (by omega))

set_option maxHeartbeats 4000000 in
set_option maxRecDepth 100000 in
theorem law_make {l : Launch} {G : tb_G} {Lx : Nat} {xs : Nat → Int32} {k1 k2 n : Nat} {J : zJ} (hl : l.stackTraces = false) (i : Int) (hi : 0 ≤ i ∧ i + 6 ≤ (Lx : Int)) (hx : Lx ≤ 3072) (d5 d6 : Option Value) (h : LV J n k1 k2 i) (nx : ∀ (k1 k2 n : Nat) (J : zJ) (d5 d6 : Option Value), LV J n k1 k2 (i + 6) → tz_At l G M_L_law room_1 (some (Lx, xs)) tb_LZ k1 k2 n J 1330 [some (.ref tb_sc), some (.ref 0), some (.ref 164), some (.ref 183), some (zi i), d5, d6] []) : tz_At l G M_L_law room_1 (some (Lx, xs)) tb_LZ k1 k2 n J 759 [some (.ref tb_sc), some (.ref 0), some (.ref 164), some (.ref 183), some (zi i), d5, d6] [] := by
  obtain ⟨⟨m, hC⟩, ⟨m2, hM⟩, h3, h4, h5, h6, h7⟩ := id h
  have h9 : J 145 10 < 1000000000 := by omega
  have hnb : n ≤ tb_sc := by show n ≤ 1000000; omega
  refine tz_aload_n (pc := 759) dL_law_759 rfl rfl ?_
  refine tz_aload_n (pc := 760) dL_law_760 rfl rfl ?_
  refine tz_iload (pc := 761) dL_law_761 rfl ?_
  refine tz_iconst (pc := 763) dL_law_763 ?_
  refine tz_iadd (pc := 764) (v := i + 1) dL_law_764 rfl ?_
  refine tz_sld (pc := 765) (z := (i + 1)) rfl dL_law_765 (by omega) (by omega) (fun r_765 => ?_)
  refine tz_aload_n (pc := 766) dL_law_766 rfl rfl ?_
  refine tz_iload (pc := 767) dL_law_767 rfl ?_
  refine tz_iconst (pc := 769) dL_law_769 ?_
  refine tz_iadd (pc := 770) (v := i + 2) dL_law_770 rfl ?_
  refine tz_sld (pc := 771) (z := (i + 2)) rfl dL_law_771 (by omega) (by omega) (fun r_771 => ?_)
  refine tz_aload_n (pc := 772) dL_law_772 rfl rfl ?_
  refine tz_iload (pc := 773) dL_law_773 rfl ?_
  refine tz_iconst (pc := 775) dL_law_775 ?_
  refine tz_iadd (pc := 776) (v := i + 3) dL_law_776 rfl ?_
  refine tz_sld (pc := 777) (z := (i + 3)) rfl dL_law_777 (by omega) (by omega) (fun r_777 => ?_)
  refine tz_aload_n (pc := 778) dL_law_778 rfl rfl ?_
  refine tz_iload (pc := 779) dL_law_779 rfl ?_
  refine tz_iconst (pc := 781) dL_law_781 ?_
  refine tz_iadd (pc := 782) (v := i + 4) dL_law_782 rfl ?_
  refine tz_sld (pc := 783) (z := (i + 4)) rfl dL_law_783 (by omega) (by omega) (fun r_783 => ?_)
  refine tz_cV (pc := 784) (t_make hl _ _ _ _ _ _ (z_rg _) (z_rg _) (z_rg _) (z_rg _) m hC h9) vl_L_116 dL_law_784 o_0 rfl rfl (Nat.le_of_ble_eq_true rfl) ⟨(Nat.le_of_ble_eq_true rfl), (Nat.le_of_ble_eq_true rfl)⟩ rfl rfl (show k1 ≤ 601024 by omega) (show k2 ≤ 7293034 by omega) (fun r9 J_784 hq9 => ?_)
  obtain ⟨z_784, rfl, hz_784, x_784⟩ := hq9
  have cw_784 : CW J_784 J := CW.c x_784
  have hM2 := hM.mid (fun c x y => cw_784.2.2.2 c (Or.inr ⟨x, y⟩))
  refine tz_pop (pc := 787) dL_law_787 rfl ?_
  refine tz_aload_n (pc := 788) dL_law_788 rfl rfl ?_
  refine tz_aload_n (pc := 789) dL_law_789 rfl rfl ?_
  refine tz_iload (pc := 790) dL_law_790 rfl ?_
  refine tz_iconst (pc := 792) dL_law_792 ?_
  refine tz_iadd (pc := 793) (v := i + 1) dL_law_793 rfl ?_
  refine tz_sld (pc := 794) (z := (i + 1)) rfl dL_law_794 (by omega) (by omega) (fun r_794 => ?_)
  refine tz_aload_n (pc := 795) dL_law_795 rfl rfl ?_
  refine tz_iload (pc := 796) dL_law_796 rfl ?_
  refine tz_iconst (pc := 798) dL_law_798 ?_
  refine tz_iadd (pc := 799) (v := i + 2) dL_law_799 rfl ?_
  refine tz_sld (pc := 800) (z := (i + 2)) rfl dL_law_800 (by omega) (by omega) (fun r_800 => ?_)
  refine tz_aload_n (pc := 801) dL_law_801 rfl rfl ?_
  refine tz_iload (pc := 802) dL_law_802 rfl ?_
  refine tz_iconst (pc := 804) dL_law_804 ?_
  refine tz_iadd (pc := 805) (v := i + 3) dL_law_805 rfl ?_
  refine tz_sld (pc := 806) (z := (i + 3)) rfl dL_law_806 (by omega) (by omega) (fun r_806 => ?_)
  refine tz_aload_n (pc := 807) dL_law_807 rfl rfl ?_
  refine tz_iload (pc := 808) dL_law_808 rfl ?_
  refine tz_iconst (pc := 810) dL_law_810 ?_
  refine tz_iadd (pc := 811) (v := i + 4) dL_law_811 rfl ?_
  refine tz_sld (pc := 812) (z := (i + 4)) rfl dL_law_812 (by omega) (by omega) (fun r_812 => ?_)
  refine tz_cV (pc := 813) (q_make hl _ _ _ _ _ _ (z_rg _) (z_rg _) (z_rg _) (z_rg _) m2 hM2) vl_L_120 dL_law_813 o_164 rfl rfl (Nat.le_of_ble_eq_true rfl) ⟨(Nat.le_of_ble_eq_true rfl), (Nat.le_of_ble_eq_true rfl)⟩ rfl rfl (show k1 ≤ 601024 by omega) (show k2 ≤ 7293034 by omega) (fun r9 J_813 hq9 => ?_)
  obtain ⟨z_813, rfl, hz_813, y_813⟩ := hq9
  refine tz_pop (pc := 816) dL_law_816 rfl ?_
  refine tz_goto (pc := 817) (tgt := 1330) dL_law_817 (by decide) ?_
  exact nx _ _ _ _ _ _ (LV.q h cw_784 y_813 ⟨by omega, by omega⟩ (by omega) (by omega))

set_option maxHeartbeats 4000000 in
set_option maxRecDepth 100000 in
theorem law_bind {l : Launch} {G : tb_G} {Lx : Nat} {xs : Nat → Int32} {k1 k2 n : Nat} {J : zJ} (hl : l.stackTraces = false) (i : Int) (hi : 0 ≤ i ∧ i + 6 ≤ (Lx : Int)) (hx : Lx ≤ 3072) (d5 d6 : Option Value) (h : LV J n k1 k2 i) (nx : ∀ (k1 k2 n : Nat) (J : zJ) (d5 d6 : Option Value), LV J n k1 k2 (i + 6) → tz_At l G M_L_law room_1 (some (Lx, xs)) tb_LZ k1 k2 n J 1330 [some (.ref tb_sc), some (.ref 0), some (.ref 164), some (.ref 183), some (zi i), d5, d6] []) : tz_At l G M_L_law room_1 (some (Lx, xs)) tb_LZ k1 k2 n J 820 [some (.ref tb_sc), some (.ref 0), some (.ref 164), some (.ref 183), some (zi i), d5, d6] [] := by
  obtain ⟨⟨m, hC⟩, ⟨m2, hM⟩, h3, h4, h5, h6, h7⟩ := id h
  have h9 : J 145 10 < 1000000000 := by omega
  have hnb : n ≤ tb_sc := by show n ≤ 1000000; omega
  refine tz_aload_n (pc := 820) dL_law_820 rfl rfl ?_
  refine tz_aload_n (pc := 821) dL_law_821 rfl rfl ?_
  refine tz_iload (pc := 822) dL_law_822 rfl ?_
  refine tz_iconst (pc := 824) dL_law_824 ?_
  refine tz_iadd (pc := 825) (v := i + 1) dL_law_825 rfl ?_
  refine tz_sld (pc := 826) (z := (i + 1)) rfl dL_law_826 (by omega) (by omega) (fun r_826 => ?_)
  refine tz_aload_n (pc := 827) dL_law_827 rfl rfl ?_
  refine tz_iload (pc := 828) dL_law_828 rfl ?_
  refine tz_iconst (pc := 830) dL_law_830 ?_
  refine tz_iadd (pc := 831) (v := i + 2) dL_law_831 rfl ?_
  refine tz_sld (pc := 832) (z := (i + 2)) rfl dL_law_832 (by omega) (by omega) (fun r_832 => ?_)
  refine tz_cV (pc := 833) (t_bind hl _ _ _ _ (z_rg _) (z_rg _) m hC h9) vl_L_121 dL_law_833 o_0 rfl rfl (Nat.le_of_ble_eq_true rfl) ⟨(Nat.le_of_ble_eq_true rfl), (Nat.le_of_ble_eq_true rfl)⟩ rfl rfl (show k1 ≤ 601024 by omega) (show k2 ≤ 7293034 by omega) (fun r9 J_833 hq9 => ?_)
  obtain ⟨z_833, rfl, hz_833, x_833⟩ := hq9
  have cw_833 : CW J_833 J := CW.c x_833
  have hM2 := hM.mid (fun c x y => cw_833.2.2.2 c (Or.inr ⟨x, y⟩))
  refine tz_pop (pc := 836) dL_law_836 rfl ?_
  refine tz_aload_n (pc := 837) dL_law_837 rfl rfl ?_
  refine tz_aload_n (pc := 838) dL_law_838 rfl rfl ?_
  refine tz_iload (pc := 839) dL_law_839 rfl ?_
  refine tz_iconst (pc := 841) dL_law_841 ?_
  refine tz_iadd (pc := 842) (v := i + 1) dL_law_842 rfl ?_
  refine tz_sld (pc := 843) (z := (i + 1)) rfl dL_law_843 (by omega) (by omega) (fun r_843 => ?_)
  refine tz_aload_n (pc := 844) dL_law_844 rfl rfl ?_
  refine tz_iload (pc := 845) dL_law_845 rfl ?_
  refine tz_iconst (pc := 847) dL_law_847 ?_
  refine tz_iadd (pc := 848) (v := i + 2) dL_law_848 rfl ?_
  refine tz_sld (pc := 849) (z := (i + 2)) rfl dL_law_849 (by omega) (by omega) (fun r_849 => ?_)
  refine tz_cV (pc := 850) (q_bind hl _ _ _ _ (z_rg _) (z_rg _) m2 hM2) vl_L_124 dL_law_850 o_164 rfl rfl (Nat.le_of_ble_eq_true rfl) ⟨(Nat.le_of_ble_eq_true rfl), (Nat.le_of_ble_eq_true rfl)⟩ rfl rfl (show k1 ≤ 601024 by omega) (show k2 ≤ 7293034 by omega) (fun r9 J_850 hq9 => ?_)
  obtain ⟨z_850, rfl, hz_850, y_850⟩ := hq9
  refine tz_pop (pc := 853) dL_law_853 rfl ?_
  refine tz_goto (pc := 854) (tgt := 1330) dL_law_854 (by decide) ?_
  exact nx _ _ _ _ _ _ (LV.q h cw_833 y_850 ⟨by omega, by omega⟩ (by omega) (by omega))

set_option maxHeartbeats 4000000 in
set_option maxRecDepth 100000 in
theorem law_apply {l : Launch} {G : tb_G} {Lx : Nat} {xs : Nat → Int32} {k1 k2 n : Nat} {J : zJ} (hl : l.stackTraces = false) (i : Int) (hi : 0 ≤ i ∧ i + 6 ≤ (Lx : Int)) (hx : Lx ≤ 3072) (d5 d6 : Option Value) (h : LV J n k1 k2 i) (nx : ∀ (k1 k2 n : Nat) (J : zJ) (d5 d6 : Option Value), LV J n k1 k2 (i + 6) → tz_At l G M_L_law room_1 (some (Lx, xs)) tb_LZ k1 k2 n J 1330 [some (.ref tb_sc), some (.ref 0), some (.ref 164), some (.ref 183), some (zi i), d5, d6] []) : tz_At l G M_L_law room_1 (some (Lx, xs)) tb_LZ k1 k2 n J 857 [some (.ref tb_sc), some (.ref 0), some (.ref 164), some (.ref 183), some (zi i), d5, d6] [] := by
  obtain ⟨⟨m, hC⟩, ⟨m2, hM⟩, h3, h4, h5, h6, h7⟩ := id h
  have h9 : J 145 10 < 1000000000 := by omega
  have hnb : n ≤ tb_sc := by show n ≤ 1000000; omega
  refine tz_aload_n (pc := 857) dL_law_857 rfl rfl ?_
  refine tz_aload_n (pc := 858) dL_law_858 rfl rfl ?_
  refine tz_iload (pc := 859) dL_law_859 rfl ?_
  refine tz_iconst (pc := 861) dL_law_861 ?_
  refine tz_iadd (pc := 862) (v := i + 1) dL_law_862 rfl ?_
  refine tz_sld (pc := 863) (z := (i + 1)) rfl dL_law_863 (by omega) (by omega) (fun r_863 => ?_)
  refine tz_cV (pc := 864) (t_apply hl _ _ _ (z_rg _) m hC h9) vl_L_125 dL_law_864 o_0 rfl rfl (Nat.le_of_ble_eq_true rfl) ⟨(Nat.le_of_ble_eq_true rfl), (Nat.le_of_ble_eq_true rfl)⟩ rfl rfl (show k1 ≤ 601024 by omega) (show k2 ≤ 7293034 by omega) (fun r9 J_864 hq9 => ?_)
  obtain ⟨z_864, rfl, hz_864, x_864⟩ := hq9
  have cw_864 : CW J_864 J := CW.c x_864
  have hM2 := hM.mid (fun c x y => cw_864.2.2.2 c (Or.inr ⟨x, y⟩))
  refine tz_pop (pc := 867) dL_law_867 rfl ?_
  refine tz_aload_n (pc := 868) dL_law_868 rfl rfl ?_
  refine tz_aload_n (pc := 869) dL_law_869 rfl rfl ?_
  refine tz_iload (pc := 870) dL_law_870 rfl ?_
  refine tz_iconst (pc := 872) dL_law_872 ?_
  refine tz_iadd (pc := 873) (v := i + 1) dL_law_873 rfl ?_
  refine tz_sld (pc := 874) (z := (i + 1)) rfl dL_law_874 (by omega) (by omega) (fun r_874 => ?_)
  refine tz_cV (pc := 875) (q_apply hl _ _ _ (z_rg _) m2 hM2) vl_L_128 dL_law_875 o_164 rfl rfl (Nat.le_of_ble_eq_true rfl) ⟨(Nat.le_of_ble_eq_true rfl), (Nat.le_of_ble_eq_true rfl)⟩ rfl rfl (show k1 ≤ 601024 by omega) (show k2 ≤ 7293034 by omega) (fun r9 J_875 hq9 => ?_)
  obtain ⟨z_875, rfl, hz_875, y_875⟩ := hq9
  refine tz_pop (pc := 878) dL_law_878 rfl ?_
  refine tz_goto (pc := 879) (tgt := 1330) dL_law_879 (by decide) ?_
  exact nx _ _ _ _ _ _ (LV.q h cw_864 y_875 ⟨by omega, by omega⟩ (by omega) (by omega))

set_option maxHeartbeats 4000000 in
set_option maxRecDepth 100000 in
theorem law_close {l : Launch} {G : tb_G} {Lx : Nat} {xs : Nat → Int32} {k1 k2 n : Nat} {J : zJ} (hl : l.stackTraces = false) (i : Int) (hi : 0 ≤ i ∧ i + 6 ≤ (Lx : Int)) (hx : Lx ≤ 3072) (d5 d6 : Option Value) (h : LV J n k1 k2 i) (nx : ∀ (k1 k2 n : Nat) (J : zJ) (d5 d6 : Option Value), LV J n k1 k2 (i + 6) → tz_At l G M_L_law room_1 (some (Lx, xs)) tb_LZ k1 k2 n J 1330 [some (.ref tb_sc), some (.ref 0), some (.ref 164), some (.ref 183), some (zi i), d5, d6] []) : tz_At l G M_L_law room_1 (some (Lx, xs)) tb_LZ k1 k2 n J 882 [some (.ref tb_sc), some (.ref 0), some (.ref 164), some (.ref 183), some (zi i), d5, d6] [] := by
  obtain ⟨⟨m, hC⟩, ⟨m2, hM⟩, h3, h4, h5, h6, h7⟩ := id h
  have h9 : J 145 10 < 1000000000 := by omega
  have hnb : n ≤ tb_sc := by show n ≤ 1000000; omega
  refine tz_aload_n (pc := 882) dL_law_882 rfl rfl ?_
  refine tz_aload_n (pc := 883) dL_law_883 rfl rfl ?_
  refine tz_iload (pc := 884) dL_law_884 rfl ?_
  refine tz_iconst (pc := 886) dL_law_886 ?_
  refine tz_iadd (pc := 887) (v := i + 1) dL_law_887 rfl ?_
  refine tz_sld (pc := 888) (z := (i + 1)) rfl dL_law_888 (by omega) (by omega) (fun r_888 => ?_)
  refine tz_cV (pc := 889) (t_close hl _ _ _ (z_rg _) m hC h9) vl_L_129 dL_law_889 o_0 rfl rfl (Nat.le_of_ble_eq_true rfl) ⟨(Nat.le_of_ble_eq_true rfl), (Nat.le_of_ble_eq_true rfl)⟩ rfl rfl (show k1 ≤ 601024 by omega) (show k2 ≤ 7293034 by omega) (fun r9 J_889 hq9 => ?_)
  obtain ⟨z_889, rfl, hz_889, x_889⟩ := hq9
  have cw_889 : CW J_889 J := CW.c x_889
  have hM2 := hM.mid (fun c x y => cw_889.2.2.2 c (Or.inr ⟨x, y⟩))
  refine tz_pop (pc := 892) dL_law_892 rfl ?_
  refine tz_aload_n (pc := 893) dL_law_893 rfl rfl ?_
  refine tz_aload_n (pc := 894) dL_law_894 rfl rfl ?_
  refine tz_iload (pc := 895) dL_law_895 rfl ?_
  refine tz_iconst (pc := 897) dL_law_897 ?_
  refine tz_iadd (pc := 898) (v := i + 1) dL_law_898 rfl ?_
  refine tz_sld (pc := 899) (z := (i + 1)) rfl dL_law_899 (by omega) (by omega) (fun r_899 => ?_)
  refine tz_cV (pc := 900) (q_close hl _ _ _ (z_rg _) m2 hM2) vl_L_132 dL_law_900 o_164 rfl rfl (Nat.le_of_ble_eq_true rfl) ⟨(Nat.le_of_ble_eq_true rfl), (Nat.le_of_ble_eq_true rfl)⟩ rfl rfl (show k1 ≤ 601024 by omega) (show k2 ≤ 7293034 by omega) (fun r9 J_900 hq9 => ?_)
  obtain ⟨z_900, rfl, hz_900, y_900⟩ := hq9
  refine tz_pop (pc := 903) dL_law_903 rfl ?_
  refine tz_goto (pc := 904) (tgt := 1330) dL_law_904 (by decide) ?_
  exact nx _ _ _ _ _ _ (LV.q h cw_889 y_900 ⟨by omega, by omega⟩ (by omega) (by omega))

set_option maxHeartbeats 4000000 in
set_option maxRecDepth 100000 in
theorem law_unify {l : Launch} {G : tb_G} {Lx : Nat} {xs : Nat → Int32} {k1 k2 n : Nat} {J : zJ} (hl : l.stackTraces = false) (i : Int) (hi : 0 ≤ i ∧ i + 6 ≤ (Lx : Int)) (hx : Lx ≤ 3072) (d5 d6 : Option Value) (h : LV J n k1 k2 i) (nx : ∀ (k1 k2 n : Nat) (J : zJ) (d5 d6 : Option Value), LV J n k1 k2 (i + 6) → tz_At l G M_L_law room_1 (some (Lx, xs)) tb_LZ k1 k2 n J 1330 [some (.ref tb_sc), some (.ref 0), some (.ref 164), some (.ref 183), some (zi i), d5, d6] []) : tz_At l G M_L_law room_1 (some (Lx, xs)) tb_LZ k1 k2 n J 907 [some (.ref tb_sc), some (.ref 0), some (.ref 164), some (.ref 183), some (zi i), d5, d6] [] := by
  obtain ⟨⟨m, hC⟩, ⟨m2, hM⟩, h3, h4, h5, h6, h7⟩ := id h
  have h9 : J 145 10 < 1000000000 := by omega
  have hnb : n ≤ tb_sc := by show n ≤ 1000000; omega
  refine tz_aload_n (pc := 907) dL_law_907 rfl rfl ?_
  refine tz_aload_n (pc := 908) dL_law_908 rfl rfl ?_
  refine tz_iload (pc := 909) dL_law_909 rfl ?_
  refine tz_iconst (pc := 911) dL_law_911 ?_
  refine tz_iadd (pc := 912) (v := i + 1) dL_law_912 rfl ?_
  refine tz_sld (pc := 913) (z := (i + 1)) rfl dL_law_913 (by omega) (by omega) (fun r_913 => ?_)
  refine tz_aload_n (pc := 914) dL_law_914 rfl rfl ?_
  refine tz_iload (pc := 915) dL_law_915 rfl ?_
  refine tz_iconst (pc := 917) dL_law_917 ?_
  refine tz_iadd (pc := 918) (v := i + 2) dL_law_918 rfl ?_
  refine tz_sld (pc := 919) (z := (i + 2)) rfl dL_law_919 (by omega) (by omega) (fun r_919 => ?_)
  refine tz_cV (pc := 920) (t_unify hl _ _ _ _ (z_rg _) (z_rg _) m hC h9) vl_L_133 dL_law_920 o_0 rfl rfl (Nat.le_of_ble_eq_true rfl) ⟨(Nat.le_of_ble_eq_true rfl), (Nat.le_of_ble_eq_true rfl)⟩ rfl rfl (show k1 ≤ 601024 by omega) (show k2 ≤ 7293034 by omega) (fun r9 J_920 hq9 => ?_)
  obtain ⟨z_920, rfl, hz_920, x_920⟩ := hq9
  have cw_920 : CW J_920 J := CW.c x_920
  have hM2 := hM.mid (fun c x y => cw_920.2.2.2 c (Or.inr ⟨x, y⟩))
  refine tz_pop (pc := 923) dL_law_923 rfl ?_
  refine tz_aload_n (pc := 924) dL_law_924 rfl rfl ?_
  refine tz_aload_n (pc := 925) dL_law_925 rfl rfl ?_
  refine tz_iload (pc := 926) dL_law_926 rfl ?_
  refine tz_iconst (pc := 928) dL_law_928 ?_
  refine tz_iadd (pc := 929) (v := i + 1) dL_law_929 rfl ?_
  refine tz_sld (pc := 930) (z := (i + 1)) rfl dL_law_930 (by omega) (by omega) (fun r_930 => ?_)
  refine tz_aload_n (pc := 931) dL_law_931 rfl rfl ?_
  refine tz_iload (pc := 932) dL_law_932 rfl ?_
  refine tz_iconst (pc := 934) dL_law_934 ?_
  refine tz_iadd (pc := 935) (v := i + 2) dL_law_935 rfl ?_
  refine tz_sld (pc := 936) (z := (i + 2)) rfl dL_law_936 (by omega) (by omega) (fun r_936 => ?_)
  refine tz_cV (pc := 937) (q_unify hl _ _ _ _ (z_rg _) (z_rg _) m2 hM2) vl_L_136 dL_law_937 o_164 rfl rfl (Nat.le_of_ble_eq_true rfl) ⟨(Nat.le_of_ble_eq_true rfl), (Nat.le_of_ble_eq_true rfl)⟩ rfl rfl (show k1 ≤ 601024 by omega) (show k2 ≤ 7293034 by omega) (fun r9 J_937 hq9 => ?_)
  obtain ⟨z_937, rfl, hz_937, y_937⟩ := hq9
  refine tz_pop (pc := 940) dL_law_940 rfl ?_
  refine tz_goto (pc := 941) (tgt := 1330) dL_law_941 (by decide) ?_
  exact nx _ _ _ _ _ _ (LV.q h cw_920 y_937 ⟨by omega, by omega⟩ (by omega) (by omega))

set_option maxHeartbeats 4000000 in
set_option maxRecDepth 100000 in
theorem law_match {l : Launch} {G : tb_G} {Lx : Nat} {xs : Nat → Int32} {k1 k2 n : Nat} {J : zJ} (hl : l.stackTraces = false) (i : Int) (hi : 0 ≤ i ∧ i + 6 ≤ (Lx : Int)) (hx : Lx ≤ 3072) (d5 d6 : Option Value) (h : LV J n k1 k2 i) (nx : ∀ (k1 k2 n : Nat) (J : zJ) (d5 d6 : Option Value), LV J n k1 k2 (i + 6) → tz_At l G M_L_law room_1 (some (Lx, xs)) tb_LZ k1 k2 n J 1330 [some (.ref tb_sc), some (.ref 0), some (.ref 164), some (.ref 183), some (zi i), d5, d6] []) : tz_At l G M_L_law room_1 (some (Lx, xs)) tb_LZ k1 k2 n J 944 [some (.ref tb_sc), some (.ref 0), some (.ref 164), some (.ref 183), some (zi i), d5, d6] [] := by
  obtain ⟨⟨m, hC⟩, ⟨m2, hM⟩, h3, h4, h5, h6, h7⟩ := id h
  have h9 : J 145 10 < 1000000000 := by omega
  have hnb : n ≤ tb_sc := by show n ≤ 1000000; omega
  refine tz_aload_n (pc := 944) dL_law_944 rfl rfl ?_
  refine tz_aload_n (pc := 945) dL_law_945 rfl rfl ?_
  refine tz_iload (pc := 946) dL_law_946 rfl ?_
  refine tz_iconst (pc := 948) dL_law_948 ?_
  refine tz_iadd (pc := 949) (v := i + 1) dL_law_949 rfl ?_
  refine tz_sld (pc := 950) (z := (i + 1)) rfl dL_law_950 (by omega) (by omega) (fun r_950 => ?_)
  refine tz_aload_n (pc := 951) dL_law_951 rfl rfl ?_
  refine tz_iload (pc := 952) dL_law_952 rfl ?_
  refine tz_iconst (pc := 954) dL_law_954 ?_
  refine tz_iadd (pc := 955) (v := i + 2) dL_law_955 rfl ?_
  refine tz_sld (pc := 956) (z := (i + 2)) rfl dL_law_956 (by omega) (by omega) (fun r_956 => ?_)
  refine tz_cV (pc := 957) (t_match hl _ _ _ _ (z_rg _) (z_rg _) m hC h9) vl_L_137 dL_law_957 o_0 rfl rfl (Nat.le_of_ble_eq_true rfl) ⟨(Nat.le_of_ble_eq_true rfl), (Nat.le_of_ble_eq_true rfl)⟩ rfl rfl (show k1 ≤ 601024 by omega) (show k2 ≤ 7293034 by omega) (fun r9 J_957 hq9 => ?_)
  obtain ⟨z_957, rfl, hz_957, x_957⟩ := hq9
  have cw_957 : CW J_957 J := CW.c x_957
  have hM2 := hM.mid (fun c x y => cw_957.2.2.2 c (Or.inr ⟨x, y⟩))
  refine tz_pop (pc := 960) dL_law_960 rfl ?_
  refine tz_aload_n (pc := 961) dL_law_961 rfl rfl ?_
  refine tz_aload_n (pc := 962) dL_law_962 rfl rfl ?_
  refine tz_iload (pc := 963) dL_law_963 rfl ?_
  refine tz_iconst (pc := 965) dL_law_965 ?_
  refine tz_iadd (pc := 966) (v := i + 1) dL_law_966 rfl ?_
  refine tz_sld (pc := 967) (z := (i + 1)) rfl dL_law_967 (by omega) (by omega) (fun r_967 => ?_)
  refine tz_aload_n (pc := 968) dL_law_968 rfl rfl ?_
  refine tz_iload (pc := 969) dL_law_969 rfl ?_
  refine tz_iconst (pc := 971) dL_law_971 ?_
  refine tz_iadd (pc := 972) (v := i + 2) dL_law_972 rfl ?_
  refine tz_sld (pc := 973) (z := (i + 2)) rfl dL_law_973 (by omega) (by omega) (fun r_973 => ?_)
  refine tz_cV (pc := 974) (q_match hl _ _ _ _ (z_rg _) (z_rg _) m2 hM2) vl_L_140 dL_law_974 o_164 rfl rfl (Nat.le_of_ble_eq_true rfl) ⟨(Nat.le_of_ble_eq_true rfl), (Nat.le_of_ble_eq_true rfl)⟩ rfl rfl (show k1 ≤ 601024 by omega) (show k2 ≤ 7293034 by omega) (fun r9 J_974 hq9 => ?_)
  obtain ⟨z_974, rfl, hz_974, y_974⟩ := hq9
  refine tz_pop (pc := 977) dL_law_977 rfl ?_
  refine tz_goto (pc := 978) (tgt := 1330) dL_law_978 (by decide) ?_
  exact nx _ _ _ _ _ _ (LV.q h cw_957 y_974 ⟨by omega, by omega⟩ (by omega) (by omega))

set_option maxHeartbeats 4000000 in
set_option maxRecDepth 100000 in
theorem law_common {l : Launch} {G : tb_G} {Lx : Nat} {xs : Nat → Int32} {k1 k2 n : Nat} {J : zJ} (hl : l.stackTraces = false) (i : Int) (hi : 0 ≤ i ∧ i + 6 ≤ (Lx : Int)) (hx : Lx ≤ 3072) (d5 d6 : Option Value) (h : LV J n k1 k2 i) (nx : ∀ (k1 k2 n : Nat) (J : zJ) (d5 d6 : Option Value), LV J n k1 k2 (i + 6) → tz_At l G M_L_law room_1 (some (Lx, xs)) tb_LZ k1 k2 n J 1330 [some (.ref tb_sc), some (.ref 0), some (.ref 164), some (.ref 183), some (zi i), d5, d6] []) : tz_At l G M_L_law room_1 (some (Lx, xs)) tb_LZ k1 k2 n J 981 [some (.ref tb_sc), some (.ref 0), some (.ref 164), some (.ref 183), some (zi i), d5, d6] [] := by
  obtain ⟨⟨m, hC⟩, ⟨m2, hM⟩, h3, h4, h5, h6, h7⟩ := id h
  have h9 : J 145 10 < 1000000000 := by omega
  have hnb : n ≤ tb_sc := by show n ≤ 1000000; omega
  refine tz_aload_n (pc := 981) dL_law_981 rfl rfl ?_
  refine tz_aload_n (pc := 982) dL_law_982 rfl rfl ?_
  refine tz_iload (pc := 983) dL_law_983 rfl ?_
  refine tz_iconst (pc := 985) dL_law_985 ?_
  refine tz_iadd (pc := 986) (v := i + 1) dL_law_986 rfl ?_
  refine tz_sld (pc := 987) (z := (i + 1)) rfl dL_law_987 (by omega) (by omega) (fun r_987 => ?_)
  refine tz_aload_n (pc := 988) dL_law_988 rfl rfl ?_
  refine tz_iload (pc := 989) dL_law_989 rfl ?_
  refine tz_iconst (pc := 991) dL_law_991 ?_
  refine tz_iadd (pc := 992) (v := i + 2) dL_law_992 rfl ?_
  refine tz_sld (pc := 993) (z := (i + 2)) rfl dL_law_993 (by omega) (by omega) (fun r_993 => ?_)
  refine tz_cV (pc := 994) (t_common hl _ _ _ _ (z_rg _) (z_rg _) m hC h9) vl_L_141 dL_law_994 o_0 rfl rfl (Nat.le_of_ble_eq_true rfl) ⟨(Nat.le_of_ble_eq_true rfl), (Nat.le_of_ble_eq_true rfl)⟩ rfl rfl (show k1 ≤ 601024 by omega) (show k2 ≤ 7293034 by omega) (fun r9 J_994 hq9 => ?_)
  obtain ⟨z_994, rfl, hz_994, x_994⟩ := hq9
  have cw_994 : CW J_994 J := CW.c x_994
  have hM2 := hM.mid (fun c x y => cw_994.2.2.2 c (Or.inr ⟨x, y⟩))
  refine tz_pop (pc := 997) dL_law_997 rfl ?_
  refine tz_aload_n (pc := 998) dL_law_998 rfl rfl ?_
  refine tz_aload_n (pc := 999) dL_law_999 rfl rfl ?_
  refine tz_iload (pc := 1000) dL_law_1000 rfl ?_
  refine tz_iconst (pc := 1002) dL_law_1002 ?_
  refine tz_iadd (pc := 1003) (v := i + 1) dL_law_1003 rfl ?_
  refine tz_sld (pc := 1004) (z := (i + 1)) rfl dL_law_1004 (by omega) (by omega) (fun r_1004 => ?_)
  refine tz_aload_n (pc := 1005) dL_law_1005 rfl rfl ?_
  refine tz_iload (pc := 1006) dL_law_1006 rfl ?_
  refine tz_iconst (pc := 1008) dL_law_1008 ?_
  refine tz_iadd (pc := 1009) (v := i + 2) dL_law_1009 rfl ?_
  refine tz_sld (pc := 1010) (z := (i + 2)) rfl dL_law_1010 (by omega) (by omega) (fun r_1010 => ?_)
  refine tz_cV (pc := 1011) (q_common hl _ _ _ _ (z_rg _) (z_rg _) m2 hM2) vl_L_144 dL_law_1011 o_164 rfl rfl (Nat.le_of_ble_eq_true rfl) ⟨(Nat.le_of_ble_eq_true rfl), (Nat.le_of_ble_eq_true rfl)⟩ rfl rfl (show k1 ≤ 601024 by omega) (show k2 ≤ 7293034 by omega) (fun r9 J_1011 hq9 => ?_)
  obtain ⟨z_1011, rfl, hz_1011, y_1011⟩ := hq9
  refine tz_pop (pc := 1014) dL_law_1014 rfl ?_
  refine tz_goto (pc := 1015) (tgt := 1330) dL_law_1015 (by decide) ?_
  exact nx _ _ _ _ _ _ (LV.q h cw_994 y_1011 ⟨by omega, by omega⟩ (by omega) (by omega))

set_option maxHeartbeats 4000000 in
set_option maxRecDepth 100000 in
theorem law_normal {l : Launch} {G : tb_G} {Lx : Nat} {xs : Nat → Int32} {k1 k2 n : Nat} {J : zJ} (hl : l.stackTraces = false) (i : Int) (hi : 0 ≤ i ∧ i + 6 ≤ (Lx : Int)) (hx : Lx ≤ 3072) (d5 d6 : Option Value) (h : LV J n k1 k2 i) (nx : ∀ (k1 k2 n : Nat) (J : zJ) (d5 d6 : Option Value), LV J n k1 k2 (i + 6) → tz_At l G M_L_law room_1 (some (Lx, xs)) tb_LZ k1 k2 n J 1330 [some (.ref tb_sc), some (.ref 0), some (.ref 164), some (.ref 183), some (zi i), d5, d6] []) : tz_At l G M_L_law room_1 (some (Lx, xs)) tb_LZ k1 k2 n J 1018 [some (.ref tb_sc), some (.ref 0), some (.ref 164), some (.ref 183), some (zi i), d5, d6] [] := by
  obtain ⟨⟨m, hC⟩, ⟨m2, hM⟩, h3, h4, h5, h6, h7⟩ := id h
  have h9 : J 145 10 < 1000000000 := by omega
  have hnb : n ≤ tb_sc := by show n ≤ 1000000; omega
  refine tz_aload_n (pc := 1018) dL_law_1018 rfl rfl ?_
  refine tz_aload_n (pc := 1019) dL_law_1019 rfl rfl ?_
  refine tz_iload (pc := 1020) dL_law_1020 rfl ?_
  refine tz_iconst (pc := 1022) dL_law_1022 ?_
  refine tz_iadd (pc := 1023) (v := i + 1) dL_law_1023 rfl ?_
  refine tz_sld (pc := 1024) (z := (i + 1)) rfl dL_law_1024 (by omega) (by omega) (fun r_1024 => ?_)
  refine tz_cV (pc := 1025) (t_normal hl _ _ _ (z_rg _) m hC h9) vl_L_145 dL_law_1025 o_0 rfl rfl (Nat.le_of_ble_eq_true rfl) ⟨(Nat.le_of_ble_eq_true rfl), (Nat.le_of_ble_eq_true rfl)⟩ rfl rfl (show k1 ≤ 601024 by omega) (show k2 ≤ 7293034 by omega) (fun r9 J_1025 hq9 => ?_)
  obtain ⟨z_1025, rfl, hz_1025, x_1025⟩ := hq9
  have cw_1025 : CW J_1025 J := CW.c x_1025
  have hM2 := hM.mid (fun c x y => cw_1025.2.2.2 c (Or.inr ⟨x, y⟩))
  refine tz_pop (pc := 1028) dL_law_1028 rfl ?_
  refine tz_aload_n (pc := 1029) dL_law_1029 rfl rfl ?_
  refine tz_aload_n (pc := 1030) dL_law_1030 rfl rfl ?_
  refine tz_iload (pc := 1031) dL_law_1031 rfl ?_
  refine tz_iconst (pc := 1033) dL_law_1033 ?_
  refine tz_iadd (pc := 1034) (v := i + 1) dL_law_1034 rfl ?_
  refine tz_sld (pc := 1035) (z := (i + 1)) rfl dL_law_1035 (by omega) (by omega) (fun r_1035 => ?_)
  refine tz_cV (pc := 1036) (q_normal hl _ _ _ (z_rg _) m2 hM2) vl_L_148 dL_law_1036 o_164 rfl rfl (Nat.le_of_ble_eq_true rfl) ⟨(Nat.le_of_ble_eq_true rfl), (Nat.le_of_ble_eq_true rfl)⟩ rfl rfl (show k1 ≤ 601024 by omega) (show k2 ≤ 7293034 by omega) (fun r9 J_1036 hq9 => ?_)
  obtain ⟨z_1036, rfl, hz_1036, y_1036⟩ := hq9
  refine tz_pop (pc := 1039) dL_law_1039 rfl ?_
  refine tz_goto (pc := 1040) (tgt := 1330) dL_law_1040 (by decide) ?_
  exact nx _ _ _ _ _ _ (LV.q h cw_1025 y_1036 ⟨by omega, by omega⟩ (by omega) (by omega))

set_option maxHeartbeats 4000000 in
set_option maxRecDepth 100000 in
theorem law_put {l : Launch} {G : tb_G} {Lx : Nat} {xs : Nat → Int32} {k1 k2 n : Nat} {J : zJ} (hl : l.stackTraces = false) (i : Int) (hi : 0 ≤ i ∧ i + 6 ≤ (Lx : Int)) (hx : Lx ≤ 3072) (d5 d6 : Option Value) (h : LV J n k1 k2 i) (nx : ∀ (k1 k2 n : Nat) (J : zJ) (d5 d6 : Option Value), LV J n k1 k2 (i + 6) → tz_At l G M_L_law room_1 (some (Lx, xs)) tb_LZ k1 k2 n J 1330 [some (.ref tb_sc), some (.ref 0), some (.ref 164), some (.ref 183), some (zi i), d5, d6] []) : tz_At l G M_L_law room_1 (some (Lx, xs)) tb_LZ k1 k2 n J 1043 [some (.ref tb_sc), some (.ref 0), some (.ref 164), some (.ref 183), some (zi i), d5, d6] [] := by
  obtain ⟨⟨m, hC⟩, ⟨m2, hM⟩, h3, h4, h5, h6, h7⟩ := id h
  have h9 : J 145 10 < 1000000000 := by omega
  have hnb : n ≤ tb_sc := by show n ≤ 1000000; omega
  refine tz_aload_n (pc := 1043) dL_law_1043 rfl rfl ?_
  refine tz_aload_n (pc := 1044) dL_law_1044 rfl rfl ?_
  refine tz_iload (pc := 1045) dL_law_1045 rfl ?_
  refine tz_iconst (pc := 1047) dL_law_1047 ?_
  refine tz_iadd (pc := 1048) (v := i + 1) dL_law_1048 rfl ?_
  refine tz_sld (pc := 1049) (z := (i + 1)) rfl dL_law_1049 (by omega) (by omega) (fun r_1049 => ?_)
  refine tz_aload_n (pc := 1050) dL_law_1050 rfl rfl ?_
  refine tz_iload (pc := 1051) dL_law_1051 rfl ?_
  refine tz_iconst (pc := 1053) dL_law_1053 ?_
  refine tz_iadd (pc := 1054) (v := i + 2) dL_law_1054 rfl ?_
  refine tz_sld (pc := 1055) (z := (i + 2)) rfl dL_law_1055 (by omega) (by omega) (fun r_1055 => ?_)
  refine tz_aload_n (pc := 1056) dL_law_1056 rfl rfl ?_
  refine tz_iload (pc := 1057) dL_law_1057 rfl ?_
  refine tz_iconst (pc := 1059) dL_law_1059 ?_
  refine tz_iadd (pc := 1060) (v := i + 3) dL_law_1060 rfl ?_
  refine tz_sld (pc := 1061) (z := (i + 3)) rfl dL_law_1061 (by omega) (by omega) (fun r_1061 => ?_)
  refine tz_cV (pc := 1062) (t_put hl _ _ _ _ _ (z_rg _) (z_rg _) (z_rg _) m hC h9) vl_L_149 dL_law_1062 o_0 rfl rfl (Nat.le_of_ble_eq_true rfl) ⟨(Nat.le_of_ble_eq_true rfl), (Nat.le_of_ble_eq_true rfl)⟩ rfl rfl (show k1 ≤ 601024 by omega) (show k2 ≤ 7293034 by omega) (fun r9 J_1062 hq9 => ?_)
  obtain ⟨z_1062, rfl, hz_1062, x_1062⟩ := hq9
  have cw_1062 : CW J_1062 J := CW.c x_1062
  have hM2 := hM.mid (fun c x y => cw_1062.2.2.2 c (Or.inr ⟨x, y⟩))
  refine tz_pop (pc := 1065) dL_law_1065 rfl ?_
  refine tz_aload_n (pc := 1066) dL_law_1066 rfl rfl ?_
  refine tz_aload_n (pc := 1067) dL_law_1067 rfl rfl ?_
  refine tz_iload (pc := 1068) dL_law_1068 rfl ?_
  refine tz_iconst (pc := 1070) dL_law_1070 ?_
  refine tz_iadd (pc := 1071) (v := i + 1) dL_law_1071 rfl ?_
  refine tz_sld (pc := 1072) (z := (i + 1)) rfl dL_law_1072 (by omega) (by omega) (fun r_1072 => ?_)
  refine tz_aload_n (pc := 1073) dL_law_1073 rfl rfl ?_
  refine tz_iload (pc := 1074) dL_law_1074 rfl ?_
  refine tz_iconst (pc := 1076) dL_law_1076 ?_
  refine tz_iadd (pc := 1077) (v := i + 2) dL_law_1077 rfl ?_
  refine tz_sld (pc := 1078) (z := (i + 2)) rfl dL_law_1078 (by omega) (by omega) (fun r_1078 => ?_)
  refine tz_aload_n (pc := 1079) dL_law_1079 rfl rfl ?_
  refine tz_iload (pc := 1080) dL_law_1080 rfl ?_
  refine tz_iconst (pc := 1082) dL_law_1082 ?_
  refine tz_iadd (pc := 1083) (v := i + 3) dL_law_1083 rfl ?_
  refine tz_sld (pc := 1084) (z := (i + 3)) rfl dL_law_1084 (by omega) (by omega) (fun r_1084 => ?_)
  refine tz_cVX (pc := 1085) (q_put hl _ _ _ _ _ (z_rg _) (z_rg _) (z_rg _) m2 hM2 (by omega) (show _ + 7 < 1000000 by omega)) vl_L_152 dL_law_1085 o_164 rfl rfl (Nat.le_of_ble_eq_true rfl) ⟨(Nat.le_of_ble_eq_true rfl), (Nat.le_of_ble_eq_true rfl)⟩ rfl rfl (show k1 + 7 ≤ 601024 by omega) (show k2 + 21 ≤ 7293034 by omega) (fun r8 n_1085 J_1085 hn1_1085 hn2_1085 hq9 => ?_) (fun E9 n_1085 J_1085 hn1_1085 hn2_1085 hx9 => hx9.elim)
  obtain ⟨z_1085, rfl, hz_1085, y_1085⟩ := hq9
  refine tz_pop (pc := 1088) dL_law_1088 rfl ?_
  refine tz_goto (pc := 1089) (tgt := 1330) dL_law_1089 (by decide) ?_
  exact nx _ _ _ _ _ _ (LV.q h cw_1062 y_1085 ⟨by omega, by omega⟩ (by omega) (by omega))

set_option maxHeartbeats 4000000 in
set_option maxRecDepth 100000 in
theorem law_rules {l : Launch} {G : tb_G} {Lx : Nat} {xs : Nat → Int32} {k1 k2 n : Nat} {J : zJ} (hl : l.stackTraces = false) (i : Int) (hi : 0 ≤ i ∧ i + 6 ≤ (Lx : Int)) (hx : Lx ≤ 3072) (d5 d6 : Option Value) (h : LV J n k1 k2 i) (nx : ∀ (k1 k2 n : Nat) (J : zJ) (d5 d6 : Option Value), LV J n k1 k2 (i + 6) → tz_At l G M_L_law room_1 (some (Lx, xs)) tb_LZ k1 k2 n J 1330 [some (.ref tb_sc), some (.ref 0), some (.ref 164), some (.ref 183), some (zi i), d5, d6] []) : tz_At l G M_L_law room_1 (some (Lx, xs)) tb_LZ k1 k2 n J 1092 [some (.ref tb_sc), some (.ref 0), some (.ref 164), some (.ref 183), some (zi i), d5, d6] [] := by
  obtain ⟨⟨m, hC⟩, ⟨m2, hM⟩, h3, h4, h5, h6, h7⟩ := id h
  have h9 : J 145 10 < 1000000000 := by omega
  have hnb : n ≤ tb_sc := by show n ≤ 1000000; omega
  refine tz_aload_n (pc := 1092) dL_law_1092 rfl rfl ?_
  refine tz_aload_n (pc := 1093) dL_law_1093 rfl rfl ?_
  refine tz_iload (pc := 1094) dL_law_1094 rfl ?_
  refine tz_iconst (pc := 1096) dL_law_1096 ?_
  refine tz_iadd (pc := 1097) (v := i + 1) dL_law_1097 rfl ?_
  refine tz_sld (pc := 1098) (z := (i + 1)) rfl dL_law_1098 (by omega) (by omega) (fun r_1098 => ?_)
  refine tz_aload_n (pc := 1099) dL_law_1099 rfl rfl ?_
  refine tz_iload (pc := 1100) dL_law_1100 rfl ?_
  refine tz_iconst (pc := 1102) dL_law_1102 ?_
  refine tz_iadd (pc := 1103) (v := i + 2) dL_law_1103 rfl ?_
  refine tz_sld (pc := 1104) (z := (i + 2)) rfl dL_law_1104 (by omega) (by omega) (fun r_1104 => ?_)
  refine tz_cV (pc := 1105) (t_rules hl _ _ _ _ (z_rg _) (z_rg _) m hC h9) vl_L_153 dL_law_1105 o_0 rfl rfl (Nat.le_of_ble_eq_true rfl) ⟨(Nat.le_of_ble_eq_true rfl), (Nat.le_of_ble_eq_true rfl)⟩ rfl rfl (show k1 ≤ 601024 by omega) (show k2 ≤ 7293034 by omega) (fun r9 J_1105 hq9 => ?_)
  obtain ⟨z_1105, rfl, hz_1105, x_1105⟩ := hq9
  have cw_1105 : CW J_1105 J := CW.c x_1105
  have hM2 := hM.mid (fun c x y => cw_1105.2.2.2 c (Or.inr ⟨x, y⟩))
  refine tz_pop (pc := 1108) dL_law_1108 rfl ?_
  refine tz_aload_n (pc := 1109) dL_law_1109 rfl rfl ?_
  refine tz_aload_n (pc := 1110) dL_law_1110 rfl rfl ?_
  refine tz_iload (pc := 1111) dL_law_1111 rfl ?_
  refine tz_iconst (pc := 1113) dL_law_1113 ?_
  refine tz_iadd (pc := 1114) (v := i + 1) dL_law_1114 rfl ?_
  refine tz_sld (pc := 1115) (z := (i + 1)) rfl dL_law_1115 (by omega) (by omega) (fun r_1115 => ?_)
  refine tz_aload_n (pc := 1116) dL_law_1116 rfl rfl ?_
  refine tz_iload (pc := 1117) dL_law_1117 rfl ?_
  refine tz_iconst (pc := 1119) dL_law_1119 ?_
  refine tz_iadd (pc := 1120) (v := i + 2) dL_law_1120 rfl ?_
  refine tz_sld (pc := 1121) (z := (i + 2)) rfl dL_law_1121 (by omega) (by omega) (fun r_1121 => ?_)
  refine tz_cV (pc := 1122) (q_rules hl _ _ _ _ (z_rg _) (z_rg _) m2 hM2) vl_L_156 dL_law_1122 o_164 rfl rfl (Nat.le_of_ble_eq_true rfl) ⟨(Nat.le_of_ble_eq_true rfl), (Nat.le_of_ble_eq_true rfl)⟩ rfl rfl (show k1 ≤ 601024 by omega) (show k2 ≤ 7293034 by omega) (fun r9 J_1122 hq9 => ?_)
  obtain ⟨z_1122, rfl, hz_1122, y_1122⟩ := hq9
  refine tz_pop (pc := 1125) dL_law_1125 rfl ?_
  refine tz_goto (pc := 1126) (tgt := 1330) dL_law_1126 (by decide) ?_
  exact nx _ _ _ _ _ _ (LV.q h cw_1105 y_1122 ⟨by omega, by omega⟩ (by omega) (by omega))

set_option maxHeartbeats 4000000 in
set_option maxRecDepth 100000 in
theorem law_enter {l : Launch} {G : tb_G} {Lx : Nat} {xs : Nat → Int32} {k1 k2 n : Nat} {J : zJ} (hl : l.stackTraces = false) (i : Int) (hi : 0 ≤ i ∧ i + 6 ≤ (Lx : Int)) (hx : Lx ≤ 3072) (d5 d6 : Option Value) (h : LV J n k1 k2 i) (nx : ∀ (k1 k2 n : Nat) (J : zJ) (d5 d6 : Option Value), LV J n k1 k2 (i + 6) → tz_At l G M_L_law room_1 (some (Lx, xs)) tb_LZ k1 k2 n J 1330 [some (.ref tb_sc), some (.ref 0), some (.ref 164), some (.ref 183), some (zi i), d5, d6] []) : tz_At l G M_L_law room_1 (some (Lx, xs)) tb_LZ k1 k2 n J 1129 [some (.ref tb_sc), some (.ref 0), some (.ref 164), some (.ref 183), some (zi i), d5, d6] [] := by
  obtain ⟨⟨m, hC⟩, ⟨m2, hM⟩, h3, h4, h5, h6, h7⟩ := id h
  have h9 : J 145 10 < 1000000000 := by omega
  have hnb : n ≤ tb_sc := by show n ≤ 1000000; omega
  refine tz_aload_n (pc := 1129) dL_law_1129 rfl rfl ?_
  refine tz_aload_n (pc := 1130) dL_law_1130 rfl rfl ?_
  refine tz_iload (pc := 1131) dL_law_1131 rfl ?_
  refine tz_iconst (pc := 1133) dL_law_1133 ?_
  refine tz_iadd (pc := 1134) (v := i + 1) dL_law_1134 rfl ?_
  refine tz_sld (pc := 1135) (z := (i + 1)) rfl dL_law_1135 (by omega) (by omega) (fun r_1135 => ?_)
  refine tz_cV (pc := 1136) (t_enter hl _ _ _ (z_rg _) m hC h9) vl_L_157 dL_law_1136 o_0 rfl rfl (Nat.le_of_ble_eq_true rfl) ⟨(Nat.le_of_ble_eq_true rfl), (Nat.le_of_ble_eq_true rfl)⟩ rfl rfl (show k1 ≤ 601024 by omega) (show k2 ≤ 7293034 by omega) (fun r9 J_1136 hq9 => ?_)
  obtain ⟨z_1136, rfl, hz_1136, x_1136⟩ := hq9
  have cw_1136 : CW J_1136 J := CW.c x_1136
  have hM2 := hM.mid (fun c x y => cw_1136.2.2.2 c (Or.inr ⟨x, y⟩))
  refine tz_pop (pc := 1139) dL_law_1139 rfl ?_
  refine tz_aload_n (pc := 1140) dL_law_1140 rfl rfl ?_
  refine tz_aload_n (pc := 1141) dL_law_1141 rfl rfl ?_
  refine tz_iload (pc := 1142) dL_law_1142 rfl ?_
  refine tz_iconst (pc := 1144) dL_law_1144 ?_
  refine tz_iadd (pc := 1145) (v := i + 1) dL_law_1145 rfl ?_
  refine tz_sld (pc := 1146) (z := (i + 1)) rfl dL_law_1146 (by omega) (by omega) (fun r_1146 => ?_)
  refine tz_cV (pc := 1147) (q_enter hl _ _ _ (z_rg _) m2 hM2) vl_L_160 dL_law_1147 o_164 rfl rfl (Nat.le_of_ble_eq_true rfl) ⟨(Nat.le_of_ble_eq_true rfl), (Nat.le_of_ble_eq_true rfl)⟩ rfl rfl (show k1 ≤ 601024 by omega) (show k2 ≤ 7293034 by omega) (fun r9 J_1147 hq9 => ?_)
  obtain ⟨z_1147, rfl, hz_1147, y_1147⟩ := hq9
  refine tz_pop (pc := 1150) dL_law_1150 rfl ?_
  refine tz_goto (pc := 1151) (tgt := 1330) dL_law_1151 (by decide) ?_
  exact nx _ _ _ _ _ _ (LV.q h cw_1136 y_1147 ⟨by omega, by omega⟩ (by omega) (by omega))

set_option maxHeartbeats 4000000 in
set_option maxRecDepth 100000 in
theorem law_leave {l : Launch} {G : tb_G} {Lx : Nat} {xs : Nat → Int32} {k1 k2 n : Nat} {J : zJ} (hl : l.stackTraces = false) (i : Int) (hi : 0 ≤ i ∧ i + 6 ≤ (Lx : Int)) (hx : Lx ≤ 3072) (d5 d6 : Option Value) (h : LV J n k1 k2 i) (nx : ∀ (k1 k2 n : Nat) (J : zJ) (d5 d6 : Option Value), LV J n k1 k2 (i + 6) → tz_At l G M_L_law room_1 (some (Lx, xs)) tb_LZ k1 k2 n J 1330 [some (.ref tb_sc), some (.ref 0), some (.ref 164), some (.ref 183), some (zi i), d5, d6] []) : tz_At l G M_L_law room_1 (some (Lx, xs)) tb_LZ k1 k2 n J 1154 [some (.ref tb_sc), some (.ref 0), some (.ref 164), some (.ref 183), some (zi i), d5, d6] [] := by
  obtain ⟨⟨m, hC⟩, ⟨m2, hM⟩, h3, h4, h5, h6, h7⟩ := id h
  have h9 : J 145 10 < 1000000000 := by omega
  have hnb : n ≤ tb_sc := by show n ≤ 1000000; omega
  refine tz_aload_n (pc := 1154) dL_law_1154 rfl rfl ?_
  refine tz_aload_n (pc := 1155) dL_law_1155 rfl rfl ?_
  refine tz_iload (pc := 1156) dL_law_1156 rfl ?_
  refine tz_iconst (pc := 1158) dL_law_1158 ?_
  refine tz_iadd (pc := 1159) (v := i + 1) dL_law_1159 rfl ?_
  refine tz_sld (pc := 1160) (z := (i + 1)) rfl dL_law_1160 (by omega) (by omega) (fun r_1160 => ?_)
  refine tz_cV (pc := 1161) (t_leave hl _ _ _ (z_rg _) m hC h9) vl_L_161 dL_law_1161 o_0 rfl rfl (Nat.le_of_ble_eq_true rfl) ⟨(Nat.le_of_ble_eq_true rfl), (Nat.le_of_ble_eq_true rfl)⟩ rfl rfl (show k1 ≤ 601024 by omega) (show k2 ≤ 7293034 by omega) (fun r9 J_1161 hq9 => ?_)
  obtain ⟨z_1161, rfl, hz_1161, x_1161⟩ := hq9
  have cw_1161 : CW J_1161 J := CW.c x_1161
  have hM2 := hM.mid (fun c x y => cw_1161.2.2.2 c (Or.inr ⟨x, y⟩))
  refine tz_pop (pc := 1164) dL_law_1164 rfl ?_
  refine tz_aload_n (pc := 1165) dL_law_1165 rfl rfl ?_
  refine tz_aload_n (pc := 1166) dL_law_1166 rfl rfl ?_
  refine tz_iload (pc := 1167) dL_law_1167 rfl ?_
  refine tz_iconst (pc := 1169) dL_law_1169 ?_
  refine tz_iadd (pc := 1170) (v := i + 1) dL_law_1170 rfl ?_
  refine tz_sld (pc := 1171) (z := (i + 1)) rfl dL_law_1171 (by omega) (by omega) (fun r_1171 => ?_)
  refine tz_cV (pc := 1172) (q_leave hl _ _ _ (z_rg _) m2 hM2) vl_L_164 dL_law_1172 o_164 rfl rfl (Nat.le_of_ble_eq_true rfl) ⟨(Nat.le_of_ble_eq_true rfl), (Nat.le_of_ble_eq_true rfl)⟩ rfl rfl (show k1 ≤ 601024 by omega) (show k2 ≤ 7293034 by omega) (fun r9 J_1172 hq9 => ?_)
  obtain ⟨z_1172, rfl, hz_1172, y_1172⟩ := hq9
  refine tz_pop (pc := 1175) dL_law_1175 rfl ?_
  refine tz_goto (pc := 1176) (tgt := 1330) dL_law_1176 (by decide) ?_
  exact nx _ _ _ _ _ _ (LV.q h cw_1161 y_1172 ⟨by omega, by omega⟩ (by omega) (by omega))

set_option maxHeartbeats 4000000 in
set_option maxRecDepth 100000 in
theorem law_room {l : Launch} {G : tb_G} {Lx : Nat} {xs : Nat → Int32} {k1 k2 n : Nat} {J : zJ} (hl : l.stackTraces = false) (i : Int) (hi : 0 ≤ i ∧ i + 6 ≤ (Lx : Int)) (hx : Lx ≤ 3072) (d5 d6 : Option Value) (h : LV J n k1 k2 i) (nx : ∀ (k1 k2 n : Nat) (J : zJ) (d5 d6 : Option Value), LV J n k1 k2 (i + 6) → tz_At l G M_L_law room_1 (some (Lx, xs)) tb_LZ k1 k2 n J 1330 [some (.ref tb_sc), some (.ref 0), some (.ref 164), some (.ref 183), some (zi i), d5, d6] []) : tz_At l G M_L_law room_1 (some (Lx, xs)) tb_LZ k1 k2 n J 1179 [some (.ref tb_sc), some (.ref 0), some (.ref 164), some (.ref 183), some (zi i), d5, d6] [] := by
  obtain ⟨⟨m, hC⟩, ⟨m2, hM⟩, h3, h4, h5, h6, h7⟩ := id h
  have h9 : J 145 10 < 1000000000 := by omega
  have hnb : n ≤ tb_sc := by show n ≤ 1000000; omega
  refine tz_aload_n (pc := 1179) dL_law_1179 rfl rfl ?_
  refine tz_aload_n (pc := 1180) dL_law_1180 rfl rfl ?_
  refine tz_iload (pc := 1181) dL_law_1181 rfl ?_
  refine tz_iconst (pc := 1183) dL_law_1183 ?_
  refine tz_iadd (pc := 1184) (v := i + 1) dL_law_1184 rfl ?_
  refine tz_sld (pc := 1185) (z := (i + 1)) rfl dL_law_1185 (by omega) (by omega) (fun r_1185 => ?_)
  refine tz_cV (pc := 1186) (t_room hl _ _ _ (z_rg _) m hC h9) vl_L_165 dL_law_1186 o_0 rfl rfl (Nat.le_of_ble_eq_true rfl) ⟨(Nat.le_of_ble_eq_true rfl), (Nat.le_of_ble_eq_true rfl)⟩ rfl rfl (show k1 ≤ 601024 by omega) (show k2 ≤ 7293034 by omega) (fun r9 J_1186 hq9 => ?_)
  obtain ⟨z_1186, rfl, hz_1186, x_1186⟩ := hq9
  have cw_1186 : CW J_1186 J := CW.c x_1186
  have hM2 := hM.mid (fun c x y => cw_1186.2.2.2 c (Or.inr ⟨x, y⟩))
  refine tz_pop (pc := 1189) dL_law_1189 rfl ?_
  refine tz_aload_n (pc := 1190) dL_law_1190 rfl rfl ?_
  refine tz_aload_n (pc := 1191) dL_law_1191 rfl rfl ?_
  refine tz_iload (pc := 1192) dL_law_1192 rfl ?_
  refine tz_iconst (pc := 1194) dL_law_1194 ?_
  refine tz_iadd (pc := 1195) (v := i + 1) dL_law_1195 rfl ?_
  refine tz_sld (pc := 1196) (z := (i + 1)) rfl dL_law_1196 (by omega) (by omega) (fun r_1196 => ?_)
  refine tz_cV (pc := 1197) (q_room hl _ _ _ (z_rg _) m2 hM2) vl_L_168 dL_law_1197 o_164 rfl rfl (Nat.le_of_ble_eq_true rfl) ⟨(Nat.le_of_ble_eq_true rfl), (Nat.le_of_ble_eq_true rfl)⟩ rfl rfl (show k1 ≤ 601024 by omega) (show k2 ≤ 7293034 by omega) (fun r9 J_1197 hq9 => ?_)
  obtain ⟨z_1197, rfl, hz_1197, y_1197⟩ := hq9
  refine tz_pop (pc := 1200) dL_law_1200 rfl ?_
  refine tz_goto (pc := 1201) (tgt := 1330) dL_law_1201 (by decide) ?_
  exact nx _ _ _ _ _ _ (LV.q h cw_1186 y_1197 ⟨by omega, by omega⟩ (by omega) (by omega))

set_option maxHeartbeats 4000000 in
set_option maxRecDepth 100000 in
theorem law_draw {l : Launch} {G : tb_G} {Lx : Nat} {xs : Nat → Int32} {k1 k2 n : Nat} {J : zJ} (hl : l.stackTraces = false) (i : Int) (hi : 0 ≤ i ∧ i + 6 ≤ (Lx : Int)) (hx : Lx ≤ 3072) (d5 d6 : Option Value) (h : LV J n k1 k2 i) (nx : ∀ (k1 k2 n : Nat) (J : zJ) (d5 d6 : Option Value), LV J n k1 k2 (i + 6) → tz_At l G M_L_law room_1 (some (Lx, xs)) tb_LZ k1 k2 n J 1330 [some (.ref tb_sc), some (.ref 0), some (.ref 164), some (.ref 183), some (zi i), d5, d6] []) : tz_At l G M_L_law room_1 (some (Lx, xs)) tb_LZ k1 k2 n J 1204 [some (.ref tb_sc), some (.ref 0), some (.ref 164), some (.ref 183), some (zi i), d5, d6] [] := by
  obtain ⟨⟨m, hC⟩, ⟨m2, hM⟩, h3, h4, h5, h6, h7⟩ := id h
  have h9 : J 145 10 < 1000000000 := by omega
  have hnb : n ≤ tb_sc := by show n ≤ 1000000; omega
  refine tz_aload_n (pc := 1204) dL_law_1204 rfl rfl ?_
  refine tz_aload_n (pc := 1205) dL_law_1205 rfl rfl ?_
  refine tz_iload (pc := 1206) dL_law_1206 rfl ?_
  refine tz_iconst (pc := 1208) dL_law_1208 ?_
  refine tz_iadd (pc := 1209) (v := i + 1) dL_law_1209 rfl ?_
  refine tz_sld (pc := 1210) (z := (i + 1)) rfl dL_law_1210 (by omega) (by omega) (fun r_1210 => ?_)
  refine tz_aload_n (pc := 1211) dL_law_1211 rfl rfl ?_
  refine tz_iload (pc := 1212) dL_law_1212 rfl ?_
  refine tz_iconst (pc := 1214) dL_law_1214 ?_
  refine tz_iadd (pc := 1215) (v := i + 2) dL_law_1215 rfl ?_
  refine tz_sld (pc := 1216) (z := (i + 2)) rfl dL_law_1216 (by omega) (by omega) (fun r_1216 => ?_)
  refine tz_cV (pc := 1217) (t_draw hl _ _ _ _ (z_rg _) (z_rg _) m hC h9) vl_L_169 dL_law_1217 o_0 rfl rfl (Nat.le_of_ble_eq_true rfl) ⟨(Nat.le_of_ble_eq_true rfl), (Nat.le_of_ble_eq_true rfl)⟩ rfl rfl (show k1 ≤ 601024 by omega) (show k2 ≤ 7293034 by omega) (fun r9 J_1217 hq9 => ?_)
  obtain ⟨z_1217, rfl, hz_1217, x_1217⟩ := hq9
  have cw_1217 : CW J_1217 J := CW.c x_1217
  have hM2 := hM.mid (fun c x y => cw_1217.2.2.2 c (Or.inr ⟨x, y⟩))
  refine tz_pop (pc := 1220) dL_law_1220 rfl ?_
  refine tz_aload_n (pc := 1221) dL_law_1221 rfl rfl ?_
  refine tz_aload_n (pc := 1222) dL_law_1222 rfl rfl ?_
  refine tz_iload (pc := 1223) dL_law_1223 rfl ?_
  refine tz_iconst (pc := 1225) dL_law_1225 ?_
  refine tz_iadd (pc := 1226) (v := i + 1) dL_law_1226 rfl ?_
  refine tz_sld (pc := 1227) (z := (i + 1)) rfl dL_law_1227 (by omega) (by omega) (fun r_1227 => ?_)
  refine tz_aload_n (pc := 1228) dL_law_1228 rfl rfl ?_
  refine tz_iload (pc := 1229) dL_law_1229 rfl ?_
  refine tz_iconst (pc := 1231) dL_law_1231 ?_
  refine tz_iadd (pc := 1232) (v := i + 2) dL_law_1232 rfl ?_
  refine tz_sld (pc := 1233) (z := (i + 2)) rfl dL_law_1233 (by omega) (by omega) (fun r_1233 => ?_)
  refine tz_cV (pc := 1234) (q_draw hl _ _ _ _ (z_rg _) (z_rg _) m2 hM2) vl_L_172 dL_law_1234 o_164 rfl rfl (Nat.le_of_ble_eq_true rfl) ⟨(Nat.le_of_ble_eq_true rfl), (Nat.le_of_ble_eq_true rfl)⟩ rfl rfl (show k1 ≤ 601024 by omega) (show k2 ≤ 7293034 by omega) (fun r9 J_1234 hq9 => ?_)
  obtain ⟨z_1234, rfl, hz_1234, y_1234⟩ := hq9
  refine tz_pop (pc := 1237) dL_law_1237 rfl ?_
  refine tz_goto (pc := 1238) (tgt := 1330) dL_law_1238 (by decide) ?_
  exact nx _ _ _ _ _ _ (LV.q h cw_1217 y_1234 ⟨by omega, by omega⟩ (by omega) (by omega))

set_option maxHeartbeats 4000000 in
set_option maxRecDepth 100000 in
theorem law_undo {l : Launch} {G : tb_G} {Lx : Nat} {xs : Nat → Int32} {k1 k2 n : Nat} {J : zJ} (hl : l.stackTraces = false) (i : Int) (hi : 0 ≤ i ∧ i + 6 ≤ (Lx : Int)) (hx : Lx ≤ 3072) (d5 d6 : Option Value) (h : LV J n k1 k2 i) (nx : ∀ (k1 k2 n : Nat) (J : zJ) (d5 d6 : Option Value), LV J n k1 k2 (i + 6) → tz_At l G M_L_law room_1 (some (Lx, xs)) tb_LZ k1 k2 n J 1330 [some (.ref tb_sc), some (.ref 0), some (.ref 164), some (.ref 183), some (zi i), d5, d6] []) : tz_At l G M_L_law room_1 (some (Lx, xs)) tb_LZ k1 k2 n J 1241 [some (.ref tb_sc), some (.ref 0), some (.ref 164), some (.ref 183), some (zi i), d5, d6] [] := by
  obtain ⟨⟨m, hC⟩, ⟨m2, hM⟩, h3, h4, h5, h6, h7⟩ := id h
  have h9 : J 145 10 < 1000000000 := by omega
  have hnb : n ≤ tb_sc := by show n ≤ 1000000; omega
  refine tz_aload_n (pc := 1241) dL_law_1241 rfl rfl ?_
  refine tz_cV (pc := 1242) (t_undo hl _ _   m hC h9) vl_L_173 dL_law_1242 o_0 rfl rfl (Nat.le_of_ble_eq_true rfl) ⟨(Nat.le_of_ble_eq_true rfl), (Nat.le_of_ble_eq_true rfl)⟩ rfl rfl (show k1 ≤ 601024 by omega) (show k2 ≤ 7293034 by omega) (fun r9 J_1242 hq9 => ?_)
  obtain ⟨z_1242, rfl, hz_1242, x_1242⟩ := hq9
  have cw_1242 : CW J_1242 J := CW.c x_1242
  have hM2 := hM.mid (fun c x y => cw_1242.2.2.2 c (Or.inr ⟨x, y⟩))
  refine tz_pop (pc := 1245) dL_law_1245 rfl ?_
  refine tz_aload_n (pc := 1246) dL_law_1246 rfl rfl ?_
  refine tz_cV (pc := 1247) (q_undo hl _ _   m2 hM2) vl_L_176 dL_law_1247 o_164 rfl rfl (Nat.le_of_ble_eq_true rfl) ⟨(Nat.le_of_ble_eq_true rfl), (Nat.le_of_ble_eq_true rfl)⟩ rfl rfl (show k1 ≤ 601024 by omega) (show k2 ≤ 7293034 by omega) (fun r9 J_1247 hq9 => ?_)
  obtain ⟨z_1247, rfl, hz_1247, y_1247⟩ := hq9
  refine tz_pop (pc := 1250) dL_law_1250 rfl ?_
  refine tz_goto (pc := 1251) (tgt := 1330) dL_law_1251 (by decide) ?_
  exact nx _ _ _ _ _ _ (LV.q h cw_1242 y_1247 ⟨by omega, by omega⟩ (by omega) (by omega))

set_option maxHeartbeats 4000000 in
set_option maxRecDepth 100000 in
theorem law_years {l : Launch} {G : tb_G} {Lx : Nat} {xs : Nat → Int32} {k1 k2 n : Nat} {J : zJ} (hl : l.stackTraces = false) (i : Int) (hi : 0 ≤ i ∧ i + 6 ≤ (Lx : Int)) (hx : Lx ≤ 3072) (d5 d6 : Option Value) (h : LV J n k1 k2 i) (nx : ∀ (k1 k2 n : Nat) (J : zJ) (d5 d6 : Option Value), LV J n k1 k2 (i + 6) → tz_At l G M_L_law room_1 (some (Lx, xs)) tb_LZ k1 k2 n J 1330 [some (.ref tb_sc), some (.ref 0), some (.ref 164), some (.ref 183), some (zi i), d5, d6] []) : tz_At l G M_L_law room_1 (some (Lx, xs)) tb_LZ k1 k2 n J 1254 [some (.ref tb_sc), some (.ref 0), some (.ref 164), some (.ref 183), some (zi i), d5, d6] [] := by
  obtain ⟨⟨m, hC⟩, ⟨m2, hM⟩, h3, h4, h5, h6, h7⟩ := id h
  have h9 : J 145 10 < 1000000000 := by omega
  have hnb : n ≤ tb_sc := by show n ≤ 1000000; omega
  refine tz_aload_n (pc := 1254) dL_law_1254 rfl rfl ?_
  refine tz_aload_n (pc := 1255) dL_law_1255 rfl rfl ?_
  refine tz_iload (pc := 1256) dL_law_1256 rfl ?_
  refine tz_iconst (pc := 1258) dL_law_1258 ?_
  refine tz_iadd (pc := 1259) (v := i + 1) dL_law_1259 rfl ?_
  refine tz_sld (pc := 1260) (z := (i + 1)) rfl dL_law_1260 (by omega) (by omega) (fun r_1260 => ?_)
  refine tz_aload_n (pc := 1261) dL_law_1261 rfl rfl ?_
  refine tz_iload (pc := 1262) dL_law_1262 rfl ?_
  refine tz_iconst (pc := 1264) dL_law_1264 ?_
  refine tz_iadd (pc := 1265) (v := i + 2) dL_law_1265 rfl ?_
  refine tz_sld (pc := 1266) (z := (i + 2)) rfl dL_law_1266 (by omega) (by omega) (fun r_1266 => ?_)
  refine tz_aload_n (pc := 1267) dL_law_1267 rfl rfl ?_
  refine tz_iload (pc := 1268) dL_law_1268 rfl ?_
  refine tz_iconst (pc := 1270) dL_law_1270 ?_
  refine tz_iadd (pc := 1271) (v := i + 3) dL_law_1271 rfl ?_
  refine tz_sld (pc := 1272) (z := (i + 3)) rfl dL_law_1272 (by omega) (by omega) (fun r_1272 => ?_)
  refine tz_aload_n (pc := 1273) dL_law_1273 rfl rfl ?_
  refine tz_cH (pc := 1274) (nA := 5) (lw_years hl _ _ _ _ _ (z_rg _) (z_rg _) (z_rg _) m hC h9) ml_L_177 ms_L_years ch_L_years wk_ini_L (by decide +kernel) dL_law_1274 rfl rfl (Nat.le_of_ble_eq_true rfl) ⟨(Nat.le_of_ble_eq_true rfl), (Nat.le_of_ble_eq_true rfl)⟩ rfl rfl (show k1 + 1 ≤ 601024 by omega) (show k2 + 6 ≤ 7293034 by omega) (fun r9 n_1274 J_1274 hn1_1274 hn2_1274 hq9 => ?_)
  obtain ⟨z_1274, rfl, hz_1274, cw_1274⟩ := hq9
  have hM2 := hM.mid (fun c x y => cw_1274.2.2.2 c (Or.inr ⟨x, y⟩))
  refine tz_istore (pc := 1277) (L2 := [_, _, _, _, _, _, _]) dL_law_1277 (by decide) rfl ?_
  refine tz_aload_n (pc := 1279) dL_law_1279 rfl rfl ?_
  refine tz_aload_n (pc := 1280) dL_law_1280 rfl rfl ?_
  refine tz_iload (pc := 1281) dL_law_1281 rfl ?_
  refine tz_iconst (pc := 1283) dL_law_1283 ?_
  refine tz_iadd (pc := 1284) (v := i + 1) dL_law_1284 rfl ?_
  refine tz_sld (pc := 1285) (z := (i + 1)) rfl dL_law_1285 (by omega) (by omega) (fun r_1285 => ?_)
  refine tz_aload_n (pc := 1286) dL_law_1286 rfl rfl ?_
  refine tz_iload (pc := 1287) dL_law_1287 rfl ?_
  refine tz_iconst (pc := 1289) dL_law_1289 ?_
  refine tz_iadd (pc := 1290) (v := i + 2) dL_law_1290 rfl ?_
  refine tz_sld (pc := 1291) (z := (i + 2)) rfl dL_law_1291 (by omega) (by omega) (fun r_1291 => ?_)
  refine tz_aload_n (pc := 1292) dL_law_1292 rfl rfl ?_
  refine tz_iload (pc := 1293) dL_law_1293 rfl ?_
  refine tz_iconst (pc := 1295) dL_law_1295 ?_
  refine tz_iadd (pc := 1296) (v := i + 3) dL_law_1296 rfl ?_
  refine tz_sld (pc := 1297) (z := (i + 3)) rfl dL_law_1297 (by omega) (by omega) (fun r_1297 => ?_)
  refine tz_cV (pc := 1298) (q_years hl _ _ _ _ _ (z_rg _) (z_rg _) (z_rg _) m2 hM2) vl_L_180 dL_law_1298 o_164 rfl rfl (Nat.le_of_ble_eq_true rfl) ⟨(Nat.le_of_ble_eq_true rfl), (Nat.le_of_ble_eq_true rfl)⟩ rfl rfl (show k1 + 1 ≤ 601024 by omega) (show k2 + 6 ≤ 7293034 by omega) (fun r9 J_1298 hq9 => ?_)
  obtain ⟨z_1298, rfl, hz_1298, y_1298⟩ := hq9
  refine tz_istore (pc := 1301) (L2 := [_, _, _, _, _, _, _]) dL_law_1301 (by decide) rfl ?_
  refine tz_goto (pc := 1303) (tgt := 1330) dL_law_1303 (by decide) ?_
  exact nx _ _ _ _ _ _ (LV.q h cw_1274 y_1298 ⟨by omega, by omega⟩ (by omega) (by omega))

set_option maxHeartbeats 4000000 in
set_option maxRecDepth 100000 in
theorem law_image {l : Launch} {G : tb_G} {Lx : Nat} {xs : Nat → Int32} {k1 k2 n : Nat} {J : zJ} (hl : l.stackTraces = false) (i : Int) (hi : 0 ≤ i ∧ i + 6 ≤ (Lx : Int)) (hx : Lx ≤ 3072) (d5 d6 : Option Value) (h : LV J n k1 k2 i) (nx : ∀ (k1 k2 n : Nat) (J : zJ) (d5 d6 : Option Value), LV J n k1 k2 (i + 6) → tz_At l G M_L_law room_1 (some (Lx, xs)) tb_LZ k1 k2 n J 1330 [some (.ref tb_sc), some (.ref 0), some (.ref 164), some (.ref 183), some (zi i), d5, d6] []) : tz_At l G M_L_law room_1 (some (Lx, xs)) tb_LZ k1 k2 n J 1306 [some (.ref tb_sc), some (.ref 0), some (.ref 164), some (.ref 183), some (zi i), d5, d6] [] := by
  obtain ⟨⟨m, hC⟩, ⟨m2, hM⟩, h3, h4, h5, h6, h7⟩ := id h
  have h9 : J 145 10 < 1000000000 := by omega
  have hnb : n ≤ tb_sc := by show n ≤ 1000000; omega
  refine tz_aload_n (pc := 1306) dL_law_1306 rfl rfl ?_
  refine tz_cV (pc := 1307) (t_image hl _ _   m hC h9) vl_L_181 dL_law_1307 o_0 rfl rfl (Nat.le_of_ble_eq_true rfl) ⟨(Nat.le_of_ble_eq_true rfl), (Nat.le_of_ble_eq_true rfl)⟩ rfl rfl (show k1 ≤ 601024 by omega) (show k2 ≤ 7293034 by omega) (fun r9 J_1307 hq9 => ?_)
  obtain ⟨rfl, x_1307⟩ := hq9
  have hM2 := hM.mid (fun c x _ => x_1307.2.2.2 c (decide_eq_true (Or.inr x)))
  refine tz_aload_n (pc := 1310) dL_law_1310 rfl rfl ?_
  refine tz_cV (pc := 1311) (q_image hl _ _   m2 hM2) vl_L_184 dL_law_1311 o_164 rfl rfl (Nat.le_of_ble_eq_true rfl) ⟨(Nat.le_of_ble_eq_true rfl), (Nat.le_of_ble_eq_true rfl)⟩ rfl rfl (show k1 ≤ 601024 by omega) (show k2 ≤ 7293034 by omega) (fun r9 J_1311 hq9 => ?_)
  obtain ⟨rfl, y_1311⟩ := hq9
  refine tz_goto (pc := 1314) (tgt := 1330) dL_law_1314 (by decide) ?_
  exact nx _ _ _ _ _ _ (LV.i h x_1307 y_1311 ⟨by omega, by omega⟩ (by omega) (by omega))

set_option maxHeartbeats 4000000 in
set_option maxRecDepth 100000 in
theorem law_restore {l : Launch} {G : tb_G} {Lx : Nat} {xs : Nat → Int32} {k1 k2 n : Nat} {J : zJ} (hl : l.stackTraces = false) (i : Int) (hi : 0 ≤ i ∧ i + 6 ≤ (Lx : Int)) (hx : Lx ≤ 3072) (d5 d6 : Option Value) (h : LV J n k1 k2 i) (nx : ∀ (k1 k2 n : Nat) (J : zJ) (d5 d6 : Option Value), LV J n k1 k2 (i + 6) → tz_At l G M_L_law room_1 (some (Lx, xs)) tb_LZ k1 k2 n J 1330 [some (.ref tb_sc), some (.ref 0), some (.ref 164), some (.ref 183), some (zi i), d5, d6] []) : tz_At l G M_L_law room_1 (some (Lx, xs)) tb_LZ k1 k2 n J 1317 [some (.ref tb_sc), some (.ref 0), some (.ref 164), some (.ref 183), some (zi i), d5, d6] [] := by
  obtain ⟨⟨m, hC⟩, ⟨m2, hM⟩, h3, h4, h5, h6, h7⟩ := id h
  have h9 : J 145 10 < 1000000000 := by omega
  have hnb : n ≤ tb_sc := by show n ≤ 1000000; omega
  refine tz_aload_n (pc := 1317) dL_law_1317 rfl rfl ?_
  refine tz_cV (pc := 1318) (t_restore hl _ _   m hC h9) vl_L_185 dL_law_1318 o_0 rfl rfl (Nat.le_of_ble_eq_true rfl) ⟨(Nat.le_of_ble_eq_true rfl), (Nat.le_of_ble_eq_true rfl)⟩ rfl rfl (show k1 ≤ 601024 by omega) (show k2 ≤ 7293034 by omega) (fun r9 J_1318 hq9 => ?_)
  obtain ⟨z_1318, rfl, hz_1318, x_1318⟩ := hq9
  have cw_1318 : CW J_1318 J := CW.c x_1318
  have hM2 := hM.mid (fun c x y => cw_1318.2.2.2 c (Or.inr ⟨x, y⟩))
  refine tz_pop (pc := 1321) dL_law_1321 rfl ?_
  refine tz_aload_n (pc := 1322) dL_law_1322 rfl rfl ?_
  refine tz_cV (pc := 1323) (q_restore hl _ _   m2 hM2) vl_L_189 dL_law_1323 o_164 rfl rfl (Nat.le_of_ble_eq_true rfl) ⟨(Nat.le_of_ble_eq_true rfl), (Nat.le_of_ble_eq_true rfl)⟩ rfl rfl (show k1 ≤ 601024 by omega) (show k2 ≤ 7293034 by omega) (fun r9 J_1323 hq9 => ?_)
  obtain ⟨z_1323, rfl, hz_1323, y_1323⟩ := hq9
  refine tz_pop (pc := 1326) dL_law_1326 rfl ?_
  refine tz_goto (pc := 1327) (tgt := 1330) dL_law_1327 (by decide) ?_
  exact nx _ _ _ _ _ _ (LV.q h cw_1318 y_1323 ⟨by omega, by omega⟩ (by omega) (by omega))

