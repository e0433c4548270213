theorem zj_zI0 {J : zJ} {c : Nat} {v : Int} (h : J c 0 = v) (hr : -2147483648 ≤ v ∧ v < 2147483648) : zj (zI J) c 0 = v := by
  show (Int32.ofInt (J c 0)).toInt = v
  rw [h, zt hr]
theorem law_sh : ∀ c, c < 184 → tb_sup (s_kc_mo (tb_sup (s_kc_tb (tb_sup (fun _ => ((100, 3, []) : tb_Sh)) 0 (11, 16, List.replicate 16 none))) 164 (12, 47, List.replicate 47 none))) 183 (102, 1, []) c = tb_shT c := by
  have h : (List.range 184).all (fun c => decide (tb_sup (s_kc_mo (tb_sup (s_kc_tb (tb_sup (fun _ => ((100, 3, []) : tb_Sh)) 0 (11, 16, List.replicate 16 none))) 164 (12, 47, List.replicate 47 none))) 183 (102, 1, []) c = tb_shT c)) = true := by decide +kernel
  intro c hc
  exact of_decide_eq_true (List.all_eq_true.mp h c (List.mem_range.mpr hc))
set_option maxHeartbeats 4000000 in
set_option maxRecDepth 100000 in
theorem law_new {l : Launch} {G : tb_G} {Lx : Nat} {xs : Nat → Int32} (hl : l.stackTraces = false) (h : tb_At l G M_L_law room_1 (some (Lx, xs)) tb_LZ 184 54325 184 tb_shT tb_I0 20 [some (.ref tb_sc), some (.ref 0), some (.ref 164), some (.ref 183), none, none, none] []) : tb_At l G M_L_law room_1 (some (Lx, xs)) tb_LZ 0 0 0 (fun _ => (100, 3, [])) (fun _ _ => 0) 0 [some (.ref tb_sc), none, none, none, none, none, none] [] := by
  refine tb_new (pc := 0) dL_law_0 nw_L_8 (by decide) rfl rfl rfl (Nat.le_of_ble_eq_true rfl) (Nat.le_of_ble_eq_true rfl) ?_
  refine tb_dup (pc := 3) dL_law_3 rfl ?_
  refine tb_callI (pc := 4) (kc_tb hl _ _ rfl) il_L_55 dL_law_4 rfl rfl (Nat.le_of_ble_eq_true rfl) ⟨(Nat.le_of_ble_eq_true rfl), (Nat.le_of_ble_eq_true rfl)⟩ rfl rfl (Nat.le_of_ble_eq_true rfl) (Nat.le_of_ble_eq_true rfl) (fun r9 n9 sh9 I9 hq9 => ?_)
  obtain ⟨rfl, rfl, rfl, rfl⟩ := hq9
  refine tb_astore_n (pc := 7) (L2 := [_, _, _, _, _, _, _]) dL_law_7 rfl (by decide) rfl ?_
  refine tb_new (pc := 8) dL_law_8 nw_L_56 (by decide) rfl rfl rfl (Nat.le_of_ble_eq_true rfl) (Nat.le_of_ble_eq_true rfl) ?_
  refine tb_dup (pc := 11) dL_law_11 rfl ?_
  refine tb_callI (pc := 12) (kc_mo hl _ _ rfl) il_L_58 dL_law_12 rfl rfl (Nat.le_of_ble_eq_true rfl) ⟨(Nat.le_of_ble_eq_true rfl), (Nat.le_of_ble_eq_true rfl)⟩ rfl rfl (Nat.le_of_ble_eq_true rfl) (Nat.le_of_ble_eq_true rfl) (fun r9 n9 sh9 I9 hq9 => ?_)
  obtain ⟨rfl, rfl, rfl, rfl⟩ := hq9
  refine tb_astore_n (pc := 15) (L2 := [_, _, _, _, _, _, _]) dL_law_15 rfl (by decide) rfl ?_
  refine tb_iconst (pc := 16) (v := 1) dL_law_16 (by decide) ?_
  refine tb_newl (pc := 17) (len := 1) dL_law_17 wk_arr_long (by decide) (by decide) (Nat.le_of_ble_eq_true rfl) rfl rfl rfl (Nat.le_of_ble_eq_true rfl) (Nat.le_of_ble_eq_true rfl) ?_
  refine tb_astore_n (pc := 19) (L2 := [_, _, _, _, _, _, _]) dL_law_19 rfl (by decide) rfl ?_
  exact tb_shcong law_sh h
set_option maxHeartbeats 4000000 in
set_option maxRecDepth 100000 in
theorem law_end {l : Launch} {G : tb_G} {xs : Nat → Int32} {k1 k2 n : Nat} {J : zJ} (d5 d6 : Option Value) (h1 : k1 ≤ 600002) (h2 : k2 ≤ 7302232) : tz_At l G M_L_law room_1 (some (6, xs)) tb_LZ k1 k2 n J 1666 [some (.ref tb_sc), some (.ref 0), some (.ref 164), some (.ref 183), some (zi 0), d5, d6] [] := by
  refine tz_iinc (pc := 1666) (z := 6) (L2 := [_, _, _, _, _, _, _]) dL_law_1666 rfl (by decide) rfl ?_
  refine tz_goto (pc := 1669) (tgt := 23) dL_law_1669 (by decide) ?_
  refine tz_iload (pc := 23) dL_law_23 rfl ?_
  refine tz_aload_n (pc := 25) dL_law_25 rfl rfl ?_
  refine tz_slen (pc := 26) rfl dL_law_26 ?_
  refine tz_bipush (pc := 27) dL_law_27 (by decide) ?_
  refine tz_isub (pc := 29) (v := 0) dL_law_29 (by decide) ?_
  refine tz_icmp_gtT (pc := 30) (tgt := 1672) (by decide) dL_law_30 (by decide) (by decide) (by decide) ?_
  refine tz_iconst (pc := 1672) dL_law_1672 ?_
  exact tz_lret (pc := 1673) dL_law_1673 h1 h2

set_option maxHeartbeats 4000000 in
set_option maxRecDepth 100000 in
theorem law_no0 {l : Launch} {G : tb_G} {xs : Nat → Int32} {k1 k2 n : Nat} {J : zJ} (h1 : k1 ≤ 600002) (h2 : k2 ≤ 7302232) : tz_At l G M_L_law room_1 (some (0, xs)) tb_LZ k1 k2 n J 20 [some (.ref tb_sc), some (.ref 0), some (.ref 164), some (.ref 183), none, none, none] [] := by
  refine tz_iconst (pc := 20) dL_law_20 ?_
  refine tz_istore (pc := 21) (L2 := [_, _, _, _, _, _, _]) dL_law_21 (by decide) rfl ?_
  refine tz_iload (pc := 23) dL_law_23 rfl ?_
  refine tz_aload_n (pc := 25) dL_law_25 rfl rfl ?_
  refine tz_slen (pc := 26) rfl dL_law_26 ?_
  refine tz_bipush (pc := 27) dL_law_27 (by decide) ?_
  refine tz_isub (pc := 29) (v := -6) dL_law_29 (by decide) ?_
  refine tz_icmp_gtT (pc := 30) (tgt := 1672) (by decide) dL_law_30 (by decide) (by decide) (by decide) ?_
  refine tz_iconst (pc := 1672) dL_law_1672 ?_
  exact tz_lret (pc := 1673) dL_law_1673 h1 h2

set_option maxHeartbeats 4000000 in
set_option maxRecDepth 100000 in
theorem law_no1 {l : Launch} {G : tb_G} {xs : Nat → Int32} {k1 k2 n : Nat} {J : zJ} (h1 : k1 ≤ 600002) (h2 : k2 ≤ 7302232) : tz_At l G M_L_law room_1 (some (1, xs)) tb_LZ k1 k2 n J 20 [some (.ref tb_sc), some (.ref 0), some (.ref 164), some (.ref 183), none, none, none] [] := by
  refine tz_iconst (pc := 20) dL_law_20 ?_
  refine tz_istore (pc := 21) (L2 := [_, _, _, _, _, _, _]) dL_law_21 (by decide) rfl ?_
  refine tz_iload (pc := 23) dL_law_23 rfl ?_
  refine tz_aload_n (pc := 25) dL_law_25 rfl rfl ?_
  refine tz_slen (pc := 26) rfl dL_law_26 ?_
  refine tz_bipush (pc := 27) dL_law_27 (by decide) ?_
  refine tz_isub (pc := 29) (v := -5) dL_law_29 (by decide) ?_
  refine tz_icmp_gtT (pc := 30) (tgt := 1672) (by decide) dL_law_30 (by decide) (by decide) (by decide) ?_
  refine tz_iconst (pc := 1672) dL_law_1672 ?_
  exact tz_lret (pc := 1673) dL_law_1673 h1 h2

set_option maxHeartbeats 4000000 in
set_option maxRecDepth 100000 in
theorem law_no2 {l : Launch} {G : tb_G} {xs : Nat → Int32} {k1 k2 n : Nat} {J : zJ} (h1 : k1 ≤ 600002) (h2 : k2 ≤ 7302232) : tz_At l G M_L_law room_1 (some (2, xs)) tb_LZ k1 k2 n J 20 [some (.ref tb_sc), some (.ref 0), some (.ref 164), some (.ref 183), none, none, none] [] := by
  refine tz_iconst (pc := 20) dL_law_20 ?_
  refine tz_istore (pc := 21) (L2 := [_, _, _, _, _, _, _]) dL_law_21 (by decide) rfl ?_
  refine tz_iload (pc := 23) dL_law_23 rfl ?_
  refine tz_aload_n (pc := 25) dL_law_25 rfl rfl ?_
  refine tz_slen (pc := 26) rfl dL_law_26 ?_
  refine tz_bipush (pc := 27) dL_law_27 (by decide) ?_
  refine tz_isub (pc := 29) (v := -4) dL_law_29 (by decide) ?_
  refine tz_icmp_gtT (pc := 30) (tgt := 1672) (by decide) dL_law_30 (by decide) (by decide) (by decide) ?_
  refine tz_iconst (pc := 1672) dL_law_1672 ?_
  exact tz_lret (pc := 1673) dL_law_1673 h1 h2

set_option maxHeartbeats 4000000 in
set_option maxRecDepth 100000 in
theorem law_no3 {l : Launch} {G : tb_G} {xs : Nat → Int32} {k1 k2 n : Nat} {J : zJ} (h1 : k1 ≤ 600002) (h2 : k2 ≤ 7302232) : tz_At l G M_L_law room_1 (some (3, xs)) tb_LZ k1 k2 n J 20 [some (.ref tb_sc), some (.ref 0), some (.ref 164), some (.ref 183), none, none, none] [] := by
  refine tz_iconst (pc := 20) dL_law_20 ?_
  refine tz_istore (pc := 21) (L2 := [_, _, _, _, _, _, _]) dL_law_21 (by decide) rfl ?_
  refine tz_iload (pc := 23) dL_law_23 rfl ?_
  refine tz_aload_n (pc := 25) dL_law_25 rfl rfl ?_
  refine tz_slen (pc := 26) rfl dL_law_26 ?_
  refine tz_bipush (pc := 27) dL_law_27 (by decide) ?_
  refine tz_isub (pc := 29) (v := -3) dL_law_29 (by decide) ?_
  refine tz_icmp_gtT (pc := 30) (tgt := 1672) (by decide) dL_law_30 (by decide) (by decide) (by decide) ?_
  refine tz_iconst (pc := 1672) dL_law_1672 ?_
  exact tz_lret (pc := 1673) dL_law_1673 h1 h2

set_option maxHeartbeats 4000000 in
set_option maxRecDepth 100000 in
theorem law_no4 {l : Launch} {G : tb_G} {xs : Nat → Int32} {k1 k2 n : Nat} {J : zJ} (h1 : k1 ≤ 600002) (h2 : k2 ≤ 7302232) : tz_At l G M_L_law room_1 (some (4, xs)) tb_LZ k1 k2 n J 20 [some (.ref tb_sc), some (.ref 0), some (.ref 164), some (.ref 183), none, none, none] [] := by
  refine tz_iconst (pc := 20) dL_law_20 ?_
  refine tz_istore (pc := 21) (L2 := [_, _, _, _, _, _, _]) dL_law_21 (by decide) rfl ?_
  refine tz_iload (pc := 23) dL_law_23 rfl ?_
  refine tz_aload_n (pc := 25) dL_law_25 rfl rfl ?_
  refine tz_slen (pc := 26) rfl dL_law_26 ?_
  refine tz_bipush (pc := 27) dL_law_27 (by decide) ?_
  refine tz_isub (pc := 29) (v := -2) dL_law_29 (by decide) ?_
  refine tz_icmp_gtT (pc := 30) (tgt := 1672) (by decide) dL_law_30 (by decide) (by decide) (by decide) ?_
  refine tz_iconst (pc := 1672) dL_law_1672 ?_
  exact tz_lret (pc := 1673) dL_law_1673 h1 h2

set_option maxHeartbeats 4000000 in
set_option maxRecDepth 100000 in
theorem law_no5 {l : Launch} {G : tb_G} {xs : Nat → Int32} {k1 k2 n : Nat} {J : zJ} (h1 : k1 ≤ 600002) (h2 : k2 ≤ 7302232) : tz_At l G M_L_law room_1 (some (5, xs)) tb_LZ k1 k2 n J 20 [some (.ref tb_sc), some (.ref 0), some (.ref 164), some (.ref 183), none, none, none] [] := by
  refine tz_iconst (pc := 20) dL_law_20 ?_
  refine tz_istore (pc := 21) (L2 := [_, _, _, _, _, _, _]) dL_law_21 (by decide) rfl ?_
  refine tz_iload (pc := 23) dL_law_23 rfl ?_
  refine tz_aload_n (pc := 25) dL_law_25 rfl rfl ?_
  refine tz_slen (pc := 26) rfl dL_law_26 ?_
  refine tz_bipush (pc := 27) dL_law_27 (by decide) ?_
  refine tz_isub (pc := 29) (v := -1) dL_law_29 (by decide) ?_
  refine tz_icmp_gtT (pc := 30) (tgt := 1672) (by decide) dL_law_30 (by decide) (by decide) (by decide) ?_
  refine tz_iconst (pc := 1672) dL_law_1672 ?_
  exact tz_lret (pc := 1673) dL_law_1673 h1 h2

set_option maxHeartbeats 4000000 in
set_option maxRecDepth 100000 in
theorem law_feed {l : Launch} {G : tb_G} {xs : Nat → Int32} (hl : l.stackTraces = false) : tz_At l G M_L_law room_1 (some (6, xs)) tb_LZ 184 54325 184 (zj tb_I0) 188 [some (.ref tb_sc), some (.ref 0), some (.ref 164), some (.ref 183), some (zi 0), none, none] [] := by
  refine tz_aload_n (pc := 188) dL_law_188 rfl rfl ?_
  refine tz_aload_n (pc := 189) dL_law_189 rfl rfl ?_
  refine tz_iload (pc := 190) dL_law_190 rfl ?_
  refine tz_iconst (pc := 192) dL_law_192 ?_
  refine tz_iadd (pc := 193) (v := 1) dL_law_193 (by decide) ?_
  refine tz_sld (pc := 194) (z := 1) rfl dL_law_194 (by decide) (Nat.le_of_ble_eq_true rfl) (fun r_194 => ?_)
  refine tz_aload_n (pc := 195) dL_law_195 rfl rfl ?_
  refine tz_iload (pc := 196) dL_law_196 rfl ?_
  refine tz_iconst (pc := 198) dL_law_198 ?_
  refine tz_iadd (pc := 199) (v := 2) dL_law_199 (by decide) ?_
  refine tz_sld (pc := 200) (z := 2) rfl dL_law_200 (by decide) (Nat.le_of_ble_eq_true rfl) (fun r_200 => ?_)
  refine tz_aload_n (pc := 201) dL_law_201 rfl rfl ?_
  refine tz_iload (pc := 202) dL_law_202 rfl ?_
  refine tz_iconst (pc := 204) dL_law_204 ?_
  refine tz_iadd (pc := 205) (v := 3) dL_law_205 (by decide) ?_
  refine tz_sld (pc := 206) (z := 3) rfl dL_law_206 (by decide) (Nat.le_of_ble_eq_true rfl) (fun r_206 => ?_)
  refine tz_aload_n (pc := 207) dL_law_207 rfl rfl ?_
  refine tz_iload (pc := 208) dL_law_208 rfl ?_
  refine tz_iconst (pc := 210) dL_law_210 ?_
  refine tz_iadd (pc := 211) (v := 4) dL_law_211 (by decide) ?_
  refine tz_sld (pc := 212) (z := 4) rfl dL_law_212 (by decide) (Nat.le_of_ble_eq_true rfl) (fun r_212 => ?_)
  refine tz_aload_n (pc := 213) dL_law_213 rfl rfl ?_
  refine tz_iload (pc := 214) dL_law_214 rfl ?_
  refine tz_iconst (pc := 216) dL_law_216 ?_
  refine tz_iadd (pc := 217) (v := 5) dL_law_217 (by decide) ?_
  refine tz_sld (pc := 218) (z := 5) rfl dL_law_218 (by decide) (Nat.le_of_ble_eq_true rfl) (fun r_218 => ?_)
  refine tz_cV (pc := 219) (cc_feed hl _ tb_I0 fr_0 _ _ _ _ _ (z_rg _) (z_rg _) (z_rg _) (z_rg _) (z_rg _)) vl_L_59 dL_law_219 o_0 rfl rfl (Nat.le_of_ble_eq_true rfl) ⟨(Nat.le_of_ble_eq_true rfl), (Nat.le_of_ble_eq_true rfl)⟩ rfl rfl (Nat.le_of_ble_eq_true rfl) (Nat.le_of_ble_eq_true rfl) (fun r9 J_219 hq9 => ?_)
  obtain ⟨z_219, rfl, hz_219, hv_219, f_219⟩ := hq9
  refine tz_aload_n (pc := 222) dL_law_222 rfl rfl ?_
  refine tz_aload_n (pc := 223) dL_law_223 rfl rfl ?_
  refine tz_iload (pc := 224) dL_law_224 rfl ?_
  refine tz_iconst (pc := 226) dL_law_226 ?_
  refine tz_iadd (pc := 227) (v := 1) dL_law_227 (by decide) ?_
  refine tz_sld (pc := 228) (z := 1) rfl dL_law_228 (by decide) (Nat.le_of_ble_eq_true rfl) (fun r_228 => ?_)
  refine tz_aload_n (pc := 229) dL_law_229 rfl rfl ?_
  refine tz_iload (pc := 230) dL_law_230 rfl ?_
  refine tz_iconst (pc := 232) dL_law_232 ?_
  refine tz_iadd (pc := 233) (v := 2) dL_law_233 (by decide) ?_
  refine tz_sld (pc := 234) (z := 2) rfl dL_law_234 (by decide) (Nat.le_of_ble_eq_true rfl) (fun r_234 => ?_)
  refine tz_aload_n (pc := 235) dL_law_235 rfl rfl ?_
  refine tz_iload (pc := 236) dL_law_236 rfl ?_
  refine tz_iconst (pc := 238) dL_law_238 ?_
  refine tz_iadd (pc := 239) (v := 3) dL_law_239 (by decide) ?_
  refine tz_sld (pc := 240) (z := 3) rfl dL_law_240 (by decide) (Nat.le_of_ble_eq_true rfl) (fun r_240 => ?_)
  refine tz_aload_n (pc := 241) dL_law_241 rfl rfl ?_
  refine tz_iload (pc := 242) dL_law_242 rfl ?_
  refine tz_iconst (pc := 244) dL_law_244 ?_
  refine tz_iadd (pc := 245) (v := 4) dL_law_245 (by decide) ?_
  refine tz_sld (pc := 246) (z := 4) rfl dL_law_246 (by decide) (Nat.le_of_ble_eq_true rfl) (fun r_246 => ?_)
  refine tz_aload_n (pc := 247) dL_law_247 rfl rfl ?_
  refine tz_iload (pc := 248) dL_law_248 rfl ?_
  refine tz_iconst (pc := 250) dL_law_250 ?_
  refine tz_iadd (pc := 251) (v := 5) dL_law_251 (by decide) ?_
  refine tz_sld (pc := 252) (z := 5) rfl dL_law_252 (by decide) (Nat.le_of_ble_eq_true rfl) (fun r_252 => ?_)
  refine tz_cV (pc := 253) ((tz_at (m1_feed hl _ (zI J_219) (fm_of (zOf.mono f_219 zmid_of)) _ _ _ _ _ (z_rg _) (z_rg _) (z_rg _) (z_rg _) (z_rg _)))) vl_L_63 dL_law_253 o_164 rfl rfl (Nat.le_of_ble_eq_true rfl) ⟨(Nat.le_of_ble_eq_true rfl), (Nat.le_of_ble_eq_true rfl)⟩ rfl rfl (Nat.le_of_ble_eq_true rfl) (Nat.le_of_ble_eq_true rfl) (fun r9 J_253 hq9 => ?_)
  obtain ⟨z_253, rfl, hz_253, hw_253, ht_253, g_253⟩ := hq9
  refine tz_icmp_eqT (pc := 256) (tgt := 1666) (hv_219.trans hw_253.symm) dL_law_256 (by decide) hz_219 hz_253 ?_
  exact law_end none none (Nat.le_of_ble_eq_true rfl) (Nat.le_of_ble_eq_true rfl)

set_option maxHeartbeats 4000000 in
set_option maxRecDepth 100000 in
theorem law_bank {l : Launch} {G : tb_G} {xs : Nat → Int32} (hl : l.stackTraces = false) : tz_At l G M_L_law room_1 (some (6, xs)) tb_LZ 184 54325 184 (zj tb_I0) 261 [some (.ref tb_sc), some (.ref 0), some (.ref 164), some (.ref 183), some (zi 0), none, none] [] := by
  refine tz_aload_n (pc := 261) dL_law_261 rfl rfl ?_
  refine tz_aload_n (pc := 262) dL_law_262 rfl rfl ?_
  refine tz_iload (pc := 263) dL_law_263 rfl ?_
  refine tz_iconst (pc := 265) dL_law_265 ?_
  refine tz_iadd (pc := 266) (v := 1) dL_law_266 (by decide) ?_
  refine tz_sld (pc := 267) (z := 1) rfl dL_law_267 (by decide) (Nat.le_of_ble_eq_true rfl) (fun r_267 => ?_)
  refine tz_aload_n (pc := 268) dL_law_268 rfl rfl ?_
  refine tz_cH (pc := 269) (nA := 3) (cw_bank hl _ tb_I0 fr_0 _ (z_rg _)) ml_L_64 ms_L_bank ch_L_bank wk_ini_L (by decide +kernel) dL_law_269 rfl rfl (Nat.le_of_ble_eq_true rfl) ⟨(Nat.le_of_ble_eq_true rfl), (Nat.le_of_ble_eq_true rfl)⟩ rfl rfl (Nat.le_of_ble_eq_true rfl) (Nat.le_of_ble_eq_true rfl) (fun r9 n_269 J_269 hn1_269 hn2_269 hq9 => ?_)
  obtain ⟨z_269, rfl, hz_269, hv_269, f_269⟩ := hq9
  rcases hv_269 with ⟨hc9, rfl, ho9⟩ | ⟨hc9, rfl⟩
  · refine tz_istore (pc := 272) (L2 := [_, _, _, _, _, _, _]) dL_law_272 (by decide) rfl ?_
    refine tz_aload_n (pc := 274) dL_law_274 rfl rfl ?_
    refine tz_aload_n (pc := 275) dL_law_275 rfl rfl ?_
    refine tz_iload (pc := 276) dL_law_276 rfl ?_
    refine tz_iconst (pc := 278) dL_law_278 ?_
    refine tz_iadd (pc := 279) (v := 1) dL_law_279 (by decide) ?_
    refine tz_sld (pc := 280) (z := 1) rfl dL_law_280 (by decide) (Nat.le_of_ble_eq_true rfl) (fun r_280 => ?_)
    refine tz_cV (pc := 281) ((tz_at (m1_bank hl _ (zI J_269) (fm_of f_269) _ (z_rg _)))) vl_L_69 dL_law_281 o_164 rfl rfl (Nat.le_of_ble_eq_true rfl) ⟨(Nat.le_of_ble_eq_true rfl), (Nat.le_of_ble_eq_true rfl)⟩ rfl rfl (Nat.le_of_ble_eq_true rfl) (Nat.le_of_ble_eq_true rfl) (fun r9 J_281 hq9 => ?_)
    obtain ⟨z_281, rfl, hz_281, hw_281, ht_281, g_281⟩ := hq9
    refine tz_istore (pc := 284) (L2 := [_, _, _, _, _, _, _]) dL_law_284 (by decide) rfl ?_
    refine tz_aload_n (pc := 286) dL_law_286 rfl rfl ?_
    rw [if_pos hc9] at ht_281
    refine tz_cV (pc := 287) (zm_thrown hl _ _) vl_L_70 dL_law_287 o_164 rfl rfl (Nat.le_of_ble_eq_true rfl) ⟨(Nat.le_of_ble_eq_true rfl), (Nat.le_of_ble_eq_true rfl)⟩ rfl rfl (Nat.le_of_ble_eq_true rfl) (Nat.le_of_ble_eq_true rfl) (fun r9 J_287 hq9 => ?_)
    obtain ⟨z_287, rfl, hz_287, rfl, hv_287⟩ := hq9
    obtain rfl : 0 = z_287 := by rw [← hv_287]; exact ht_281.symm
    refine tz_iload (pc := 290) dL_law_290 rfl ?_
    refine tz_icmp_eqT (pc := 292) (tgt := 297) (by decide) dL_law_292 (by decide) (by decide) (by decide) ?_
    refine tz_iload (pc := 297) dL_law_297 rfl ?_
    refine tz_if_neF (pc := 299) (tgt := 314) (by decide) dL_law_299 (by decide) (by decide) ?_
    refine tz_aload_n (pc := 302) dL_law_302 rfl rfl ?_
    refine tz_iconst (pc := 303) dL_law_303 ?_
    refine tz_lald (pc := 304) (z := 0) (v := _) dL_law_304 l_183 rfl (by decide) (Eq.trans (congrFun g_281 0) (zj_zI0 ho9 (by first | decide | ((repeat' split) <;> omega)))) (fun r_304 => ?_)
    refine tz_iload (pc := 305) dL_law_305 rfl ?_
    refine tz_i2l (pc := 307) dL_law_307 ?_
    refine tz_lcmp (pc := 308) (v := 0) dL_law_308 r_304 hz_281 (by rw [hw_281]; first | (simp; done) | (rw [if_pos hc9]; simp; done)) ?_
    refine tz_if_eqT (pc := 309) (tgt := 314) (by decide) dL_law_309 (by decide) (by decide) ?_
    refine tz_goto (pc := 314) (tgt := 1666) dL_law_314 (by decide) ?_
    exact law_end (some (zi 0)) (some (zi z_281)) (Nat.le_of_ble_eq_true rfl) (Nat.le_of_ble_eq_true rfl)
  · refine tz_istore (pc := 272) (L2 := [_, _, _, _, _, _, _]) dL_law_272 (by decide) rfl ?_
    refine tz_aload_n (pc := 274) dL_law_274 rfl rfl ?_
    refine tz_aload_n (pc := 275) dL_law_275 rfl rfl ?_
    refine tz_iload (pc := 276) dL_law_276 rfl ?_
    refine tz_iconst (pc := 278) dL_law_278 ?_
    refine tz_iadd (pc := 279) (v := 1) dL_law_279 (by decide) ?_
    refine tz_sld (pc := 280) (z := 1) rfl dL_law_280 (by decide) (Nat.le_of_ble_eq_true rfl) (fun r_280 => ?_)
    refine tz_cV (pc := 281) ((tz_at (m1_bank hl _ (zI J_269) (fm_of f_269) _ (z_rg _)))) vl_L_69 dL_law_281 o_164 rfl rfl (Nat.le_of_ble_eq_true rfl) ⟨(Nat.le_of_ble_eq_true rfl), (Nat.le_of_ble_eq_true rfl)⟩ rfl rfl (Nat.le_of_ble_eq_true rfl) (Nat.le_of_ble_eq_true rfl) (fun r9 J_281 hq9 => ?_)
    obtain ⟨z_281, rfl, hz_281, hw_281, ht_281, g_281⟩ := hq9
    refine tz_istore (pc := 284) (L2 := [_, _, _, _, _, _, _]) dL_law_284 (by decide) rfl ?_
    refine tz_aload_n (pc := 286) dL_law_286 rfl rfl ?_
    rw [if_neg hc9] at ht_281
    refine tz_cV (pc := 287) (zm_thrown hl _ _) vl_L_70 dL_law_287 o_164 rfl rfl (Nat.le_of_ble_eq_true rfl) ⟨(Nat.le_of_ble_eq_true rfl), (Nat.le_of_ble_eq_true rfl)⟩ rfl rfl (Nat.le_of_ble_eq_true rfl) (Nat.le_of_ble_eq_true rfl) (fun r9 J_287 hq9 => ?_)
    obtain ⟨z_287, rfl, hz_287, rfl, hv_287⟩ := hq9
    obtain rfl : 1 = z_287 := by rw [← hv_287]; exact ht_281.symm
    refine tz_iload (pc := 290) dL_law_290 rfl ?_
    refine tz_icmp_eqT (pc := 292) (tgt := 297) (by decide) dL_law_292 (by decide) (by decide) (by decide) ?_
    refine tz_iload (pc := 297) dL_law_297 rfl ?_
    refine tz_if_neT (pc := 299) (tgt := 314) (by decide) dL_law_299 (by decide) (by decide) ?_
    refine tz_goto (pc := 314) (tgt := 1666) dL_law_314 (by decide) ?_
    exact law_end (some (zi 1)) (some (zi z_281)) (Nat.le_of_ble_eq_true rfl) (Nat.le_of_ble_eq_true rfl)

set_option maxHeartbeats 4000000 in
set_option maxRecDepth 100000 in
theorem law_fault {l : Launch} {G : tb_G} {xs : Nat → Int32} (hl : l.stackTraces = false) : tz_At l G M_L_law room_1 (some (6, xs)) tb_LZ 184 54325 184 (zj tb_I0) 317 [some (.ref tb_sc), some (.ref 0), some (.ref 164), some (.ref 183), some (zi 0), none, none] [] := by
  refine tz_aload_n (pc := 317) dL_law_317 rfl rfl ?_
  refine tz_cV (pc := 318) (cc_fault hl _ tb_I0 fr_0  ) vl_L_74 dL_law_318 o_0 rfl rfl (Nat.le_of_ble_eq_true rfl) ⟨(Nat.le_of_ble_eq_true rfl), (Nat.le_of_ble_eq_true rfl)⟩ rfl rfl (Nat.le_of_ble_eq_true rfl) (Nat.le_of_ble_eq_true rfl) (fun r9 J_318 hq9 => ?_)
  obtain ⟨z_318, rfl, hz_318, hv_318, f_318⟩ := hq9
  refine tz_aload_n (pc := 321) dL_law_321 rfl rfl ?_
  refine tz_cV (pc := 322) ((tz_at (m1_fault hl _ (zI J_318) (fm_of (zOf.mono f_318 zmid_of))  ))) vl_L_77 dL_law_322 o_164 rfl rfl (Nat.le_of_ble_eq_true rfl) ⟨(Nat.le_of_ble_eq_true rfl), (Nat.le_of_ble_eq_true rfl)⟩ rfl rfl (Nat.le_of_ble_eq_true rfl) (Nat.le_of_ble_eq_true rfl) (fun r9 J_322 hq9 => ?_)
  obtain ⟨z_322, rfl, hz_322, hw_322, ht_322, g_322⟩ := hq9
  refine tz_icmp_eqT (pc := 325) (tgt := 1666) (hv_318.trans hw_322.symm) dL_law_325 (by decide) hz_318 hz_322 ?_
  exact law_end none none (Nat.le_of_ble_eq_true rfl) (Nat.le_of_ble_eq_true rfl)

set_option maxHeartbeats 4000000 in
set_option maxRecDepth 100000 in
theorem law_count {l : Launch} {G : tb_G} {xs : Nat → Int32} (hl : l.stackTraces = false) : tz_At l G M_L_law room_1 (some (6, xs)) tb_LZ 184 54325 184 (zj tb_I0) 330 [some (.ref tb_sc), some (.ref 0), some (.ref 164), some (.ref 183), some (zi 0), none, none] [] := by
  refine tz_aload_n (pc := 330) dL_law_330 rfl rfl ?_
  refine tz_aload_n (pc := 331) dL_law_331 rfl rfl ?_
  refine tz_iload (pc := 332) dL_law_332 rfl ?_
  refine tz_iconst (pc := 334) dL_law_334 ?_
  refine tz_iadd (pc := 335) (v := 1) dL_law_335 (by decide) ?_
  refine tz_sld (pc := 336) (z := 1) rfl dL_law_336 (by decide) (Nat.le_of_ble_eq_true rfl) (fun r_336 => ?_)
  refine tz_aload_n (pc := 337) dL_law_337 rfl rfl ?_
  refine tz_cH (pc := 338) (nA := 3) (cw_count hl _ tb_I0 fr_0 _ (z_rg _)) ml_L_78 ms_L_count ch_L_count wk_ini_L (by decide +kernel) dL_law_338 rfl rfl (Nat.le_of_ble_eq_true rfl) ⟨(Nat.le_of_ble_eq_true rfl), (Nat.le_of_ble_eq_true rfl)⟩ rfl rfl (Nat.le_of_ble_eq_true rfl) (Nat.le_of_ble_eq_true rfl) (fun r9 n_338 J_338 hn1_338 hn2_338 hq9 => ?_)
  obtain ⟨z_338, rfl, hz_338, hv_338, f_338⟩ := hq9
  rcases hv_338 with ⟨hc9, rfl, ho9⟩ | ⟨hc9, rfl⟩
  · refine tz_istore (pc := 341) (L2 := [_, _, _, _, _, _, _]) dL_law_341 (by decide) rfl ?_
    refine tz_aload_n (pc := 343) dL_law_343 rfl rfl ?_
    refine tz_aload_n (pc := 344) dL_law_344 rfl rfl ?_
    refine tz_iload (pc := 345) dL_law_345 rfl ?_
    refine tz_iconst (pc := 347) dL_law_347 ?_
    refine tz_iadd (pc := 348) (v := 1) dL_law_348 (by decide) ?_
    refine tz_sld (pc := 349) (z := 1) rfl dL_law_349 (by decide) (Nat.le_of_ble_eq_true rfl) (fun r_349 => ?_)
    refine tz_cV (pc := 350) ((tz_at (m1_count hl _ (zI J_338) (fm_of f_338) _ (z_rg _)))) vl_L_80 dL_law_350 o_164 rfl rfl (Nat.le_of_ble_eq_true rfl) ⟨(Nat.le_of_ble_eq_true rfl), (Nat.le_of_ble_eq_true rfl)⟩ rfl rfl (Nat.le_of_ble_eq_true rfl) (Nat.le_of_ble_eq_true rfl) (fun r9 J_350 hq9 => ?_)
    obtain ⟨z_350, rfl, hz_350, hw_350, ht_350, g_350⟩ := hq9
    refine tz_istore (pc := 353) (L2 := [_, _, _, _, _, _, _]) dL_law_353 (by decide) rfl ?_
    refine tz_aload_n (pc := 355) dL_law_355 rfl rfl ?_
    rw [if_pos hc9] at ht_350
    refine tz_cV (pc := 356) (zm_thrown hl _ _) vl_L_70 dL_law_356 o_164 rfl rfl (Nat.le_of_ble_eq_true rfl) ⟨(Nat.le_of_ble_eq_true rfl), (Nat.le_of_ble_eq_true rfl)⟩ rfl rfl (Nat.le_of_ble_eq_true rfl) (Nat.le_of_ble_eq_true rfl) (fun r9 J_356 hq9 => ?_)
    obtain ⟨z_356, rfl, hz_356, rfl, hv_356⟩ := hq9
    obtain rfl : 0 = z_356 := by rw [← hv_356]; exact ht_350.symm
    refine tz_iload (pc := 359) dL_law_359 rfl ?_
    refine tz_icmp_eqT (pc := 361) (tgt := 366) (by decide) dL_law_361 (by decide) (by decide) (by decide) ?_
    refine tz_iload (pc := 366) dL_law_366 rfl ?_
    refine tz_if_neF (pc := 368) (tgt := 383) (by decide) dL_law_368 (by decide) (by decide) ?_
    refine tz_aload_n (pc := 371) dL_law_371 rfl rfl ?_
    refine tz_iconst (pc := 372) dL_law_372 ?_
    refine tz_lald (pc := 373) (z := 0) (v := _) dL_law_373 l_183 rfl (by decide) (Eq.trans (congrFun g_350 0) (zj_zI0 ho9 (by first | decide | ((repeat' split) <;> omega)))) (fun r_373 => ?_)
    refine tz_iload (pc := 374) dL_law_374 rfl ?_
    refine tz_i2l (pc := 376) dL_law_376 ?_
    refine tz_lcmp (pc := 377) (v := 0) dL_law_377 r_373 hz_350 (by rw [hw_350]; first | (simp; done) | (rw [if_pos hc9]; simp; done)) ?_
    refine tz_if_eqT (pc := 378) (tgt := 383) (by decide) dL_law_378 (by decide) (by decide) ?_
    refine tz_goto (pc := 383) (tgt := 1666) dL_law_383 (by decide) ?_
    exact law_end (some (zi 0)) (some (zi z_350)) (Nat.le_of_ble_eq_true rfl) (Nat.le_of_ble_eq_true rfl)
  · refine tz_istore (pc := 341) (L2 := [_, _, _, _, _, _, _]) dL_law_341 (by decide) rfl ?_
    refine tz_aload_n (pc := 343) dL_law_343 rfl rfl ?_
    refine tz_aload_n (pc := 344) dL_law_344 rfl rfl ?_
    refine tz_iload (pc := 345) dL_law_345 rfl ?_
    refine tz_iconst (pc := 347) dL_law_347 ?_
    refine tz_iadd (pc := 348) (v := 1) dL_law_348 (by decide) ?_
    refine tz_sld (pc := 349) (z := 1) rfl dL_law_349 (by decide) (Nat.le_of_ble_eq_true rfl) (fun r_349 => ?_)
    refine tz_cV (pc := 350) ((tz_at (m1_count hl _ (zI J_338) (fm_of f_338) _ (z_rg _)))) vl_L_80 dL_law_350 o_164 rfl rfl (Nat.le_of_ble_eq_true rfl) ⟨(Nat.le_of_ble_eq_true rfl), (Nat.le_of_ble_eq_true rfl)⟩ rfl rfl (Nat.le_of_ble_eq_true rfl) (Nat.le_of_ble_eq_true rfl) (fun r9 J_350 hq9 => ?_)
    obtain ⟨z_350, rfl, hz_350, hw_350, ht_350, g_350⟩ := hq9
    refine tz_istore (pc := 353) (L2 := [_, _, _, _, _, _, _]) dL_law_353 (by decide) rfl ?_
    refine tz_aload_n (pc := 355) dL_law_355 rfl rfl ?_
    rw [if_neg hc9] at ht_350
    refine tz_cV (pc := 356) (zm_thrown hl _ _) vl_L_70 dL_law_356 o_164 rfl rfl (Nat.le_of_ble_eq_true rfl) ⟨(Nat.le_of_ble_eq_true rfl), (Nat.le_of_ble_eq_true rfl)⟩ rfl rfl (Nat.le_of_ble_eq_true rfl) (Nat.le_of_ble_eq_true rfl) (fun r9 J_356 hq9 => ?_)
    obtain ⟨z_356, rfl, hz_356, rfl, hv_356⟩ := hq9
    obtain rfl : 1 = z_356 := by rw [← hv_356]; exact ht_350.symm
    refine tz_iload (pc := 359) dL_law_359 rfl ?_
    refine tz_icmp_eqT (pc := 361) (tgt := 366) (by decide) dL_law_361 (by decide) (by decide) (by decide) ?_
    refine tz_iload (pc := 366) dL_law_366 rfl ?_
    refine tz_if_neT (pc := 368) (tgt := 383) (by decide) dL_law_368 (by decide) (by decide) ?_
    refine tz_goto (pc := 383) (tgt := 1666) dL_law_383 (by decide) ?_
    exact law_end (some (zi 1)) (some (zi z_350)) (Nat.le_of_ble_eq_true rfl) (Nat.le_of_ble_eq_true rfl)

set_option maxHeartbeats 4000000 in
set_option maxRecDepth 100000 in
theorem law_symbol {l : Launch} {G : tb_G} {xs : Nat → Int32} (hl : l.stackTraces = false) : tz_At l G M_L_law room_1 (some (6, xs)) tb_LZ 184 54325 184 (zj tb_I0) 386 [some (.ref tb_sc), some (.ref 0), some (.ref 164), some (.ref 183), some (zi 0), none, none] [] := by
  refine tz_aload_n (pc := 386) dL_law_386 rfl rfl ?_
  refine tz_aload_n (pc := 387) dL_law_387 rfl rfl ?_
  refine tz_iload (pc := 388) dL_law_388 rfl ?_
  refine tz_iconst (pc := 390) dL_law_390 ?_
  refine tz_iadd (pc := 391) (v := 1) dL_law_391 (by decide) ?_
  refine tz_sld (pc := 392) (z := 1) rfl dL_law_392 (by decide) (Nat.le_of_ble_eq_true rfl) (fun r_392 => ?_)
  refine tz_aload_n (pc := 393) dL_law_393 rfl rfl ?_
  refine tz_iload (pc := 394) dL_law_394 rfl ?_
  refine tz_iconst (pc := 396) dL_law_396 ?_
  refine tz_iadd (pc := 397) (v := 2) dL_law_397 (by decide) ?_
  refine tz_sld (pc := 398) (z := 2) rfl dL_law_398 (by decide) (Nat.le_of_ble_eq_true rfl) (fun r_398 => ?_)
  refine tz_aload_n (pc := 399) dL_law_399 rfl rfl ?_
  refine tz_cH (pc := 400) (nA := 4) (cw_symbol hl _ tb_I0 fr_0 _ _ (z_rg _) (z_rg _)) ml_L_81 ms_L_symbol ch_L_symbol wk_ini_L (by decide +kernel) dL_law_400 rfl rfl (Nat.le_of_ble_eq_true rfl) ⟨(Nat.le_of_ble_eq_true rfl), (Nat.le_of_ble_eq_true rfl)⟩ rfl rfl (Nat.le_of_ble_eq_true rfl) (Nat.le_of_ble_eq_true rfl) (fun r9 n_400 J_400 hn1_400 hn2_400 hq9 => ?_)
  obtain ⟨z_400, rfl, hz_400, hv_400, f_400⟩ := hq9
  subst hv_400
  refine tz_istore (pc := 403) (L2 := [_, _, _, _, _, _, _]) dL_law_403 (by decide) rfl ?_
  refine tz_aload_n (pc := 405) dL_law_405 rfl rfl ?_
  refine tz_aload_n (pc := 406) dL_law_406 rfl rfl ?_
  refine tz_iload (pc := 407) dL_law_407 rfl ?_
  refine tz_iconst (pc := 409) dL_law_409 ?_
  refine tz_iadd (pc := 410) (v := 1) dL_law_410 (by decide) ?_
  refine tz_sld (pc := 411) (z := 1) rfl dL_law_411 (by decide) (Nat.le_of_ble_eq_true rfl) (fun r_411 => ?_)
  refine tz_aload_n (pc := 412) dL_law_412 rfl rfl ?_
  refine tz_iload (pc := 413) dL_law_413 rfl ?_
  refine tz_iconst (pc := 415) dL_law_415 ?_
  refine tz_iadd (pc := 416) (v := 2) dL_law_416 (by decide) ?_
  refine tz_sld (pc := 417) (z := 2) rfl dL_law_417 (by decide) (Nat.le_of_ble_eq_true rfl) (fun r_417 => ?_)
  refine tz_cV (pc := 418) ((tz_at (m1_symbol hl _ (zI J_400) (fm_of f_400) _ _ (z_rg _) (z_rg _)))) vl_L_84 dL_law_418 o_164 rfl rfl (Nat.le_of_ble_eq_true rfl) ⟨(Nat.le_of_ble_eq_true rfl), (Nat.le_of_ble_eq_true rfl)⟩ rfl rfl (Nat.le_of_ble_eq_true rfl) (Nat.le_of_ble_eq_true rfl) (fun r9 J_418 hq9 => ?_)
  obtain ⟨z_418, rfl, hz_418, hw_418, ht_418, g_418⟩ := hq9
  refine tz_istore (pc := 421) (L2 := [_, _, _, _, _, _, _]) dL_law_421 (by decide) rfl ?_
  refine tz_aload_n (pc := 423) dL_law_423 rfl rfl ?_
  refine tz_cV (pc := 424) (zm_thrown hl _ _) vl_L_70 dL_law_424 o_164 rfl rfl (Nat.le_of_ble_eq_true rfl) ⟨(Nat.le_of_ble_eq_true rfl), (Nat.le_of_ble_eq_true rfl)⟩ rfl rfl (Nat.le_of_ble_eq_true rfl) (Nat.le_of_ble_eq_true rfl) (fun r9 J_424 hq9 => ?_)
  obtain ⟨z_424, rfl, hz_424, rfl, hv_424⟩ := hq9
  obtain rfl : 1 = z_424 := by rw [← hv_424]; exact ht_418.symm
  refine tz_iload (pc := 427) dL_law_427 rfl ?_
  refine tz_icmp_eqT (pc := 429) (tgt := 434) (by decide) dL_law_429 (by decide) (by decide) (by decide) ?_
  refine tz_iload (pc := 434) dL_law_434 rfl ?_
  refine tz_if_neT (pc := 436) (tgt := 451) (by decide) dL_law_436 (by decide) (by decide) ?_
  refine tz_goto (pc := 451) (tgt := 1666) dL_law_451 (by decide) ?_
  exact law_end (some (zi 1)) (some (zi z_418)) (Nat.le_of_ble_eq_true rfl) (Nat.le_of_ble_eq_true rfl)

set_option maxHeartbeats 4000000 in
set_option maxRecDepth 100000 in
theorem law_term {l : Launch} {G : tb_G} {xs : Nat → Int32} (hl : l.stackTraces = false) : tz_At l G M_L_law room_1 (some (6, xs)) tb_LZ 184 54325 184 (zj tb_I0) 454 [some (.ref tb_sc), some (.ref 0), some (.ref 164), some (.ref 183), some (zi 0), none, none] [] := by
  refine tz_aload_n (pc := 454) dL_law_454 rfl rfl ?_
  refine tz_aload_n (pc := 455) dL_law_455 rfl rfl ?_
  refine tz_iload (pc := 456) dL_law_456 rfl ?_
  refine tz_iconst (pc := 458) dL_law_458 ?_
  refine tz_iadd (pc := 459) (v := 1) dL_law_459 (by decide) ?_
  refine tz_sld (pc := 460) (z := 1) rfl dL_law_460 (by decide) (Nat.le_of_ble_eq_true rfl) (fun r_460 => ?_)
  refine tz_aload_n (pc := 461) dL_law_461 rfl rfl ?_
  refine tz_iload (pc := 462) dL_law_462 rfl ?_
  refine tz_iconst (pc := 464) dL_law_464 ?_
  refine tz_iadd (pc := 465) (v := 2) dL_law_465 (by decide) ?_
  refine tz_sld (pc := 466) (z := 2) rfl dL_law_466 (by decide) (Nat.le_of_ble_eq_true rfl) (fun r_466 => ?_)
  refine tz_aload_n (pc := 467) dL_law_467 rfl rfl ?_
  refine tz_cH (pc := 468) (nA := 4) (cw_term hl _ tb_I0 fr_0 _ _ (z_rg _) (z_rg _)) ml_L_85 ms_L_term ch_L_term wk_ini_L (by decide +kernel) dL_law_468 rfl rfl (Nat.le_of_ble_eq_true rfl) ⟨(Nat.le_of_ble_eq_true rfl), (Nat.le_of_ble_eq_true rfl)⟩ rfl rfl (Nat.le_of_ble_eq_true rfl) (Nat.le_of_ble_eq_true rfl) (fun r9 n_468 J_468 hn1_468 hn2_468 hq9 => ?_)
  obtain ⟨z_468, rfl, hz_468, hv_468, f_468⟩ := hq9
  subst hv_468
  refine tz_istore (pc := 471) (L2 := [_, _, _, _, _, _, _]) dL_law_471 (by decide) rfl ?_
  refine tz_aload_n (pc := 473) dL_law_473 rfl rfl ?_
  refine tz_aload_n (pc := 474) dL_law_474 rfl rfl ?_
  refine tz_iload (pc := 475) dL_law_475 rfl ?_
  refine tz_iconst (pc := 477) dL_law_477 ?_
  refine tz_iadd (pc := 478) (v := 1) dL_law_478 (by decide) ?_
  refine tz_sld (pc := 479) (z := 1) rfl dL_law_479 (by decide) (Nat.le_of_ble_eq_true rfl) (fun r_479 => ?_)
  refine tz_aload_n (pc := 480) dL_law_480 rfl rfl ?_
  refine tz_iload (pc := 481) dL_law_481 rfl ?_
  refine tz_iconst (pc := 483) dL_law_483 ?_
  refine tz_iadd (pc := 484) (v := 2) dL_law_484 (by decide) ?_
  refine tz_sld (pc := 485) (z := 2) rfl dL_law_485 (by decide) (Nat.le_of_ble_eq_true rfl) (fun r_485 => ?_)
  refine tz_cV (pc := 486) ((tz_at (m1_term hl _ (zI J_468) (fm_of f_468) _ _ (z_rg _) (z_rg _)))) vl_L_87 dL_law_486 o_164 rfl rfl (Nat.le_of_ble_eq_true rfl) ⟨(Nat.le_of_ble_eq_true rfl), (Nat.le_of_ble_eq_true rfl)⟩ rfl rfl (Nat.le_of_ble_eq_true rfl) (Nat.le_of_ble_eq_true rfl) (fun r9 J_486 hq9 => ?_)
  obtain ⟨z_486, rfl, hz_486, hw_486, ht_486, g_486⟩ := hq9
  refine tz_istore (pc := 489) (L2 := [_, _, _, _, _, _, _]) dL_law_489 (by decide) rfl ?_
  refine tz_aload_n (pc := 491) dL_law_491 rfl rfl ?_
  refine tz_cV (pc := 492) (zm_thrown hl _ _) vl_L_70 dL_law_492 o_164 rfl rfl (Nat.le_of_ble_eq_true rfl) ⟨(Nat.le_of_ble_eq_true rfl), (Nat.le_of_ble_eq_true rfl)⟩ rfl rfl (Nat.le_of_ble_eq_true rfl) (Nat.le_of_ble_eq_true rfl) (fun r9 J_492 hq9 => ?_)
  obtain ⟨z_492, rfl, hz_492, rfl, hv_492⟩ := hq9
  obtain rfl : 1 = z_492 := by rw [← hv_492]; exact ht_486.symm
  refine tz_iload (pc := 495) dL_law_495 rfl ?_
  refine tz_icmp_eqT (pc := 497) (tgt := 502) (by decide) dL_law_497 (by decide) (by decide) (by decide) ?_
  refine tz_iload (pc := 502) dL_law_502 rfl ?_
  refine tz_if_neT (pc := 504) (tgt := 519) (by decide) dL_law_504 (by decide) (by decide) ?_
  refine tz_goto (pc := 519) (tgt := 1666) dL_law_519 (by decide) ?_
  exact law_end (some (zi 1)) (some (zi z_486)) (Nat.le_of_ble_eq_true rfl) (Nat.le_of_ble_eq_true rfl)

set_option maxHeartbeats 4000000 in
set_option maxRecDepth 100000 in
theorem law_argument {l : Launch} {G : tb_G} {xs : Nat → Int32} (hl : l.stackTraces = false) : tz_At l G M_L_law room_1 (some (6, xs)) tb_LZ 184 54325 184 (zj tb_I0) 522 [some (.ref tb_sc), some (.ref 0), some (.ref 164), some (.ref 183), some (zi 0), none, none] [] := by
  refine tz_aload_n (pc := 522) dL_law_522 rfl rfl ?_
  refine tz_aload_n (pc := 523) dL_law_523 rfl rfl ?_
  refine tz_iload (pc := 524) dL_law_524 rfl ?_
  refine tz_iconst (pc := 526) dL_law_526 ?_
  refine tz_iadd (pc := 527) (v := 1) dL_law_527 (by decide) ?_
  refine tz_sld (pc := 528) (z := 1) rfl dL_law_528 (by decide) (Nat.le_of_ble_eq_true rfl) (fun r_528 => ?_)
  refine tz_aload_n (pc := 529) dL_law_529 rfl rfl ?_
  refine tz_iload (pc := 530) dL_law_530 rfl ?_
  refine tz_iconst (pc := 532) dL_law_532 ?_
  refine tz_iadd (pc := 533) (v := 2) dL_law_533 (by decide) ?_
  refine tz_sld (pc := 534) (z := 2) rfl dL_law_534 (by decide) (Nat.le_of_ble_eq_true rfl) (fun r_534 => ?_)
  refine tz_aload_n (pc := 535) dL_law_535 rfl rfl ?_
  refine tz_cH (pc := 536) (nA := 4) (cw_argument hl _ tb_I0 fr_0 _ _ (z_rg _) (z_rg _)) ml_L_88 ms_L_argument ch_L_argument wk_ini_L (by decide +kernel) dL_law_536 rfl rfl (Nat.le_of_ble_eq_true rfl) ⟨(Nat.le_of_ble_eq_true rfl), (Nat.le_of_ble_eq_true rfl)⟩ rfl rfl (Nat.le_of_ble_eq_true rfl) (Nat.le_of_ble_eq_true rfl) (fun r9 n_536 J_536 hn1_536 hn2_536 hq9 => ?_)
  obtain ⟨z_536, rfl, hz_536, hv_536, f_536⟩ := hq9
  subst hv_536
  refine tz_istore (pc := 539) (L2 := [_, _, _, _, _, _, _]) dL_law_539 (by decide) rfl ?_
  refine tz_aload_n (pc := 541) dL_law_541 rfl rfl ?_
  refine tz_aload_n (pc := 542) dL_law_542 rfl rfl ?_
  refine tz_iload (pc := 543) dL_law_543 rfl ?_
  refine tz_iconst (pc := 545) dL_law_545 ?_
  refine tz_iadd (pc := 546) (v := 1) dL_law_546 (by decide) ?_
  refine tz_sld (pc := 547) (z := 1) rfl dL_law_547 (by decide) (Nat.le_of_ble_eq_true rfl) (fun r_547 => ?_)
  refine tz_aload_n (pc := 548) dL_law_548 rfl rfl ?_
  refine tz_iload (pc := 549) dL_law_549 rfl ?_
  refine tz_iconst (pc := 551) dL_law_551 ?_
  refine tz_iadd (pc := 552) (v := 2) dL_law_552 (by decide) ?_
  refine tz_sld (pc := 553) (z := 2) rfl dL_law_553 (by decide) (Nat.le_of_ble_eq_true rfl) (fun r_553 => ?_)
  refine tz_cV (pc := 554) ((tz_at (m1_argument hl _ (zI J_536) (fm_of f_536) _ _ (z_rg _) (z_rg _)))) vl_L_90 dL_law_554 o_164 rfl rfl (Nat.le_of_ble_eq_true rfl) ⟨(Nat.le_of_ble_eq_true rfl), (Nat.le_of_ble_eq_true rfl)⟩ rfl rfl (Nat.le_of_ble_eq_true rfl) (Nat.le_of_ble_eq_true rfl) (fun r9 J_554 hq9 => ?_)
  obtain ⟨z_554, rfl, hz_554, hw_554, ht_554, g_554⟩ := hq9
  refine tz_istore (pc := 557) (L2 := [_, _, _, _, _, _, _]) dL_law_557 (by decide) rfl ?_
  refine tz_aload_n (pc := 559) dL_law_559 rfl rfl ?_
  refine tz_cV (pc := 560) (zm_thrown hl _ _) vl_L_70 dL_law_560 o_164 rfl rfl (Nat.le_of_ble_eq_true rfl) ⟨(Nat.le_of_ble_eq_true rfl), (Nat.le_of_ble_eq_true rfl)⟩ rfl rfl (Nat.le_of_ble_eq_true rfl) (Nat.le_of_ble_eq_true rfl) (fun r9 J_560 hq9 => ?_)
  obtain ⟨z_560, rfl, hz_560, rfl, hv_560⟩ := hq9
  obtain rfl : 1 = z_560 := by rw [← hv_560]; exact ht_554.symm
  refine tz_iload (pc := 563) dL_law_563 rfl ?_
  refine tz_icmp_eqT (pc := 565) (tgt := 570) (by decide) dL_law_565 (by decide) (by decide) (by decide) ?_
  refine tz_iload (pc := 570) dL_law_570 rfl ?_
  refine tz_if_neT (pc := 572) (tgt := 587) (by decide) dL_law_572 (by decide) (by decide) ?_
  refine tz_goto (pc := 587) (tgt := 1666) dL_law_587 (by decide) ?_
  exact law_end (some (zi 1)) (some (zi z_554)) (Nat.le_of_ble_eq_true rfl) (Nat.le_of_ble_eq_true rfl)

set_option maxHeartbeats 4000000 in
set_option maxRecDepth 100000 in
theorem law_place {l : Launch} {G : tb_G} {xs : Nat → Int32} (hl : l.stackTraces = false) : tz_At l G M_L_law room_1 (some (6, xs)) tb_LZ 184 54325 184 (zj tb_I0) 590 [some (.ref tb_sc), some (.ref 0), some (.ref 164), some (.ref 183), some (zi 0), none, none] [] := by
  refine tz_aload_n (pc := 590) dL_law_590 rfl rfl ?_
  refine tz_aload_n (pc := 591) dL_law_591 rfl rfl ?_
  refine tz_iload (pc := 592) dL_law_592 rfl ?_
  refine tz_iconst (pc := 594) dL_law_594 ?_
  refine tz_iadd (pc := 595) (v := 1) dL_law_595 (by decide) ?_
  refine tz_sld (pc := 596) (z := 1) rfl dL_law_596 (by decide) (Nat.le_of_ble_eq_true rfl) (fun r_596 => ?_)
  refine tz_aload_n (pc := 597) dL_law_597 rfl rfl ?_
  refine tz_iload (pc := 598) dL_law_598 rfl ?_
  refine tz_iconst (pc := 600) dL_law_600 ?_
  refine tz_iadd (pc := 601) (v := 2) dL_law_601 (by decide) ?_
  refine tz_sld (pc := 602) (z := 2) rfl dL_law_602 (by decide) (Nat.le_of_ble_eq_true rfl) (fun r_602 => ?_)
  refine tz_aload_n (pc := 603) dL_law_603 rfl rfl ?_
  refine tz_cH (pc := 604) (nA := 4) (cw_place hl _ tb_I0 fr_0 _ _ (z_rg _) (z_rg _)) ml_L_91 ms_L_place ch_L_place wk_ini_L (by decide +kernel) dL_law_604 rfl rfl (Nat.le_of_ble_eq_true rfl) ⟨(Nat.le_of_ble_eq_true rfl), (Nat.le_of_ble_eq_true rfl)⟩ rfl rfl (Nat.le_of_ble_eq_true rfl) (Nat.le_of_ble_eq_true rfl) (fun r9 n_604 J_604 hn1_604 hn2_604 hq9 => ?_)
  obtain ⟨z_604, rfl, hz_604, hv_604, f_604⟩ := hq9
  subst hv_604
  refine tz_istore (pc := 607) (L2 := [_, _, _, _, _, _, _]) dL_law_607 (by decide) rfl ?_
  refine tz_aload_n (pc := 609) dL_law_609 rfl rfl ?_
  refine tz_aload_n (pc := 610) dL_law_610 rfl rfl ?_
  refine tz_iload (pc := 611) dL_law_611 rfl ?_
  refine tz_iconst (pc := 613) dL_law_613 ?_
  refine tz_iadd (pc := 614) (v := 1) dL_law_614 (by decide) ?_
  refine tz_sld (pc := 615) (z := 1) rfl dL_law_615 (by decide) (Nat.le_of_ble_eq_true rfl) (fun r_615 => ?_)
  refine tz_aload_n (pc := 616) dL_law_616 rfl rfl ?_
  refine tz_iload (pc := 617) dL_law_617 rfl ?_
  refine tz_iconst (pc := 619) dL_law_619 ?_
  refine tz_iadd (pc := 620) (v := 2) dL_law_620 (by decide) ?_
  refine tz_sld (pc := 621) (z := 2) rfl dL_law_621 (by decide) (Nat.le_of_ble_eq_true rfl) (fun r_621 => ?_)
  refine tz_cV (pc := 622) ((tz_at (m1_place hl _ (zI J_604) (fm_of f_604) _ _ (z_rg _) (z_rg _)))) vl_L_93 dL_law_622 o_164 rfl rfl (Nat.le_of_ble_eq_true rfl) ⟨(Nat.le_of_ble_eq_true rfl), (Nat.le_of_ble_eq_true rfl)⟩ rfl rfl (Nat.le_of_ble_eq_true rfl) (Nat.le_of_ble_eq_true rfl) (fun r9 J_622 hq9 => ?_)
  obtain ⟨z_622, rfl, hz_622, hw_622, ht_622, g_622⟩ := hq9
  refine tz_istore (pc := 625) (L2 := [_, _, _, _, _, _, _]) dL_law_625 (by decide) rfl ?_
  refine tz_aload_n (pc := 627) dL_law_627 rfl rfl ?_
  refine tz_cV (pc := 628) (zm_thrown hl _ _) vl_L_70 dL_law_628 o_164 rfl rfl (Nat.le_of_ble_eq_true rfl) ⟨(Nat.le_of_ble_eq_true rfl), (Nat.le_of_ble_eq_true rfl)⟩ rfl rfl (Nat.le_of_ble_eq_true rfl) (Nat.le_of_ble_eq_true rfl) (fun r9 J_628 hq9 => ?_)
  obtain ⟨z_628, rfl, hz_628, rfl, hv_628⟩ := hq9
  obtain rfl : 1 = z_628 := by rw [← hv_628]; exact ht_622.symm
  refine tz_iload (pc := 631) dL_law_631 rfl ?_
  refine tz_icmp_eqT (pc := 633) (tgt := 638) (by decide) dL_law_633 (by decide) (by decide) (by decide) ?_
  refine tz_iload (pc := 638) dL_law_638 rfl ?_
  refine tz_if_neT (pc := 640) (tgt := 655) (by decide) dL_law_640 (by decide) (by decide) ?_
  refine tz_goto (pc := 655) (tgt := 1666) dL_law_655 (by decide) ?_
  exact law_end (some (zi 1)) (some (zi z_622)) (Nat.le_of_ble_eq_true rfl) (Nat.le_of_ble_eq_true rfl)

set_option maxHeartbeats 4000000 in
set_option maxRecDepth 100000 in
theorem law_order {l : Launch} {G : tb_G} {xs : Nat → Int32} (hl : l.stackTraces = false) : tz_At l G M_L_law room_1 (some (6, xs)) tb_LZ 184 54325 184 (zj tb_I0) 658 [some (.ref tb_sc), some (.ref 0), some (.ref 164), some (.ref 183), some (zi 0), none, none] [] := by
  refine tz_aload_n (pc := 658) dL_law_658 rfl rfl ?_
  refine tz_aload_n (pc := 659) dL_law_659 rfl rfl ?_
  refine tz_iload (pc := 660) dL_law_660 rfl ?_
  refine tz_iconst (pc := 662) dL_law_662 ?_
  refine tz_iadd (pc := 663) (v := 1) dL_law_663 (by decide) ?_
  refine tz_sld (pc := 664) (z := 1) rfl dL_law_664 (by decide) (Nat.le_of_ble_eq_true rfl) (fun r_664 => ?_)
  refine tz_aload_n (pc := 665) dL_law_665 rfl rfl ?_
  refine tz_iload (pc := 666) dL_law_666 rfl ?_
  refine tz_iconst (pc := 668) dL_law_668 ?_
  refine tz_iadd (pc := 669) (v := 2) dL_law_669 (by decide) ?_
  refine tz_sld (pc := 670) (z := 2) rfl dL_law_670 (by decide) (Nat.le_of_ble_eq_true rfl) (fun r_670 => ?_)
  refine tz_aload_n (pc := 671) dL_law_671 rfl rfl ?_
  refine tz_cH (pc := 672) (nA := 4) (cw_order hl _ tb_I0 fr_0 _ _ (z_rg _) (z_rg _)) ml_L_94 ms_L_order ch_L_order wk_ini_L (by decide +kernel) dL_law_672 rfl rfl (Nat.le_of_ble_eq_true rfl) ⟨(Nat.le_of_ble_eq_true rfl), (Nat.le_of_ble_eq_true rfl)⟩ rfl rfl (Nat.le_of_ble_eq_true rfl) (Nat.le_of_ble_eq_true rfl) (fun r9 n_672 J_672 hn1_672 hn2_672 hq9 => ?_)
  obtain ⟨z_672, rfl, hz_672, hv_672, f_672⟩ := hq9
  subst hv_672
  refine tz_istore (pc := 675) (L2 := [_, _, _, _, _, _, _]) dL_law_675 (by decide) rfl ?_
  refine tz_aload_n (pc := 677) dL_law_677 rfl rfl ?_
  refine tz_aload_n (pc := 678) dL_law_678 rfl rfl ?_
  refine tz_iload (pc := 679) dL_law_679 rfl ?_
  refine tz_iconst (pc := 681) dL_law_681 ?_
  refine tz_iadd (pc := 682) (v := 1) dL_law_682 (by decide) ?_
  refine tz_sld (pc := 683) (z := 1) rfl dL_law_683 (by decide) (Nat.le_of_ble_eq_true rfl) (fun r_683 => ?_)
  refine tz_aload_n (pc := 684) dL_law_684 rfl rfl ?_
  refine tz_iload (pc := 685) dL_law_685 rfl ?_
  refine tz_iconst (pc := 687) dL_law_687 ?_
  refine tz_iadd (pc := 688) (v := 2) dL_law_688 (by decide) ?_
  refine tz_sld (pc := 689) (z := 2) rfl dL_law_689 (by decide) (Nat.le_of_ble_eq_true rfl) (fun r_689 => ?_)
  refine tz_cV (pc := 690) ((tz_at (m1_order hl _ (zI J_672) (fm_of f_672) _ _ (z_rg _) (z_rg _)))) vl_L_96 dL_law_690 o_164 rfl rfl (Nat.le_of_ble_eq_true rfl) ⟨(Nat.le_of_ble_eq_true rfl), (Nat.le_of_ble_eq_true rfl)⟩ rfl rfl (Nat.le_of_ble_eq_true rfl) (Nat.le_of_ble_eq_true rfl) (fun r9 J_690 hq9 => ?_)
  obtain ⟨z_690, rfl, hz_690, hw_690, ht_690, g_690⟩ := hq9
  refine tz_istore (pc := 693) (L2 := [_, _, _, _, _, _, _]) dL_law_693 (by decide) rfl ?_
  refine tz_aload_n (pc := 695) dL_law_695 rfl rfl ?_
  refine tz_cV (pc := 696) (zm_thrown hl _ _) vl_L_70 dL_law_696 o_164 rfl rfl (Nat.le_of_ble_eq_true rfl) ⟨(Nat.le_of_ble_eq_true rfl), (Nat.le_of_ble_eq_true rfl)⟩ rfl rfl (Nat.le_of_ble_eq_true rfl) (Nat.le_of_ble_eq_true rfl) (fun r9 J_696 hq9 => ?_)
  obtain ⟨z_696, rfl, hz_696, rfl, hv_696⟩ := hq9
  obtain rfl : 1 = z_696 := by rw [← hv_696]; exact ht_690.symm
  refine tz_iload (pc := 699) dL_law_699 rfl ?_
  refine tz_icmp_eqT (pc := 701) (tgt := 706) (by decide) dL_law_701 (by decide) (by decide) (by decide) ?_
  refine tz_iload (pc := 706) dL_law_706 rfl ?_
  refine tz_if_neT (pc := 708) (tgt := 723) (by decide) dL_law_708 (by decide) (by decide) ?_
  refine tz_goto (pc := 723) (tgt := 1666) dL_law_723 (by decide) ?_
  exact law_end (some (zi 1)) (some (zi z_690)) (Nat.le_of_ble_eq_true rfl) (Nat.le_of_ble_eq_true rfl)

set_option maxHeartbeats 4000000 in
set_option maxRecDepth 100000 in
theorem law_find {l : Launch} {G : tb_G} {xs : Nat → Int32} (hl : l.stackTraces = false) : tz_At l G M_L_law room_1 (some (6, xs)) tb_LZ 184 54325 184 (zj tb_I0) 726 [some (.ref tb_sc), some (.ref 0), some (.ref 164), some (.ref 183), some (zi 0), none, none] [] := by
  refine tz_aload_n (pc := 726) dL_law_726 rfl rfl ?_
  refine tz_aload_n (pc := 727) dL_law_727 rfl rfl ?_
  refine tz_iload (pc := 728) dL_law_728 rfl ?_
  refine tz_iconst (pc := 730) dL_law_730 ?_
  refine tz_iadd (pc := 731) (v := 1) dL_law_731 (by decide) ?_
  refine tz_sld (pc := 732) (z := 1) rfl dL_law_732 (by decide) (Nat.le_of_ble_eq_true rfl) (fun r_732 => ?_)
  refine tz_aload_n (pc := 733) dL_law_733 rfl rfl ?_
  refine tz_iload (pc := 734) dL_law_734 rfl ?_
  refine tz_iconst (pc := 736) dL_law_736 ?_
  refine tz_iadd (pc := 737) (v := 2) dL_law_737 (by decide) ?_
  refine tz_sld (pc := 738) (z := 2) rfl dL_law_738 (by decide) (Nat.le_of_ble_eq_true rfl) (fun r_738 => ?_)
  refine tz_aload_n (pc := 739) dL_law_739 rfl rfl ?_
  refine tz_cH (pc := 740) (nA := 4) (cw_find hl _ tb_I0 fr_0 _ _ (z_rg _) (z_rg _)) ml_L_97 ms_L_find ch_L_find wk_ini_L (by decide +kernel) dL_law_740 rfl rfl (Nat.le_of_ble_eq_true rfl) ⟨(Nat.le_of_ble_eq_true rfl), (Nat.le_of_ble_eq_true rfl)⟩ rfl rfl (Nat.le_of_ble_eq_true rfl) (Nat.le_of_ble_eq_true rfl) (fun r9 n_740 J_740 hn1_740 hn2_740 hq9 => ?_)
  obtain ⟨z_740, rfl, hz_740, hv_740, f_740⟩ := hq9
  subst hv_740
  refine tz_istore (pc := 743) (L2 := [_, _, _, _, _, _, _]) dL_law_743 (by decide) rfl ?_
  refine tz_aload_n (pc := 745) dL_law_745 rfl rfl ?_
  refine tz_aload_n (pc := 746) dL_law_746 rfl rfl ?_
  refine tz_iload (pc := 747) dL_law_747 rfl ?_
  refine tz_iconst (pc := 749) dL_law_749 ?_
  refine tz_iadd (pc := 750) (v := 1) dL_law_750 (by decide) ?_
  refine tz_sld (pc := 751) (z := 1) rfl dL_law_751 (by decide) (Nat.le_of_ble_eq_true rfl) (fun r_751 => ?_)
  refine tz_aload_n (pc := 752) dL_law_752 rfl rfl ?_
  refine tz_iload (pc := 753) dL_law_753 rfl ?_
  refine tz_iconst (pc := 755) dL_law_755 ?_
  refine tz_iadd (pc := 756) (v := 2) dL_law_756 (by decide) ?_
  refine tz_sld (pc := 757) (z := 2) rfl dL_law_757 (by decide) (Nat.le_of_ble_eq_true rfl) (fun r_757 => ?_)
  refine tz_cV (pc := 758) ((tz_at (m1_find hl _ (zI J_740) (fm_of f_740) _ _ (z_rg _) (z_rg _)))) vl_L_99 dL_law_758 o_164 rfl rfl (Nat.le_of_ble_eq_true rfl) ⟨(Nat.le_of_ble_eq_true rfl), (Nat.le_of_ble_eq_true rfl)⟩ rfl rfl (Nat.le_of_ble_eq_true rfl) (Nat.le_of_ble_eq_true rfl) (fun r9 J_758 hq9 => ?_)
  obtain ⟨z_758, rfl, hz_758, hw_758, ht_758, g_758⟩ := hq9
  refine tz_istore (pc := 761) (L2 := [_, _, _, _, _, _, _]) dL_law_761 (by decide) rfl ?_
  refine tz_aload_n (pc := 763) dL_law_763 rfl rfl ?_
  refine tz_cV (pc := 764) (zm_thrown hl _ _) vl_L_70 dL_law_764 o_164 rfl rfl (Nat.le_of_ble_eq_true rfl) ⟨(Nat.le_of_ble_eq_true rfl), (Nat.le_of_ble_eq_true rfl)⟩ rfl rfl (Nat.le_of_ble_eq_true rfl) (Nat.le_of_ble_eq_true rfl) (fun r9 J_764 hq9 => ?_)
  obtain ⟨z_764, rfl, hz_764, rfl, hv_764⟩ := hq9
  obtain rfl : 1 = z_764 := by rw [← hv_764]; exact ht_758.symm
  refine tz_iload (pc := 767) dL_law_767 rfl ?_
  refine tz_icmp_eqT (pc := 769) (tgt := 774) (by decide) dL_law_769 (by decide) (by decide) (by decide) ?_
  refine tz_iload (pc := 774) dL_law_774 rfl ?_
  refine tz_if_neT (pc := 776) (tgt := 791) (by decide) dL_law_776 (by decide) (by decide) ?_
  refine tz_goto (pc := 791) (tgt := 1666) dL_law_791 (by decide) ?_
  exact law_end (some (zi 1)) (some (zi z_758)) (Nat.le_of_ble_eq_true rfl) (Nat.le_of_ble_eq_true rfl)

set_option maxHeartbeats 4000000 in
set_option maxRecDepth 100000 in
theorem law_rule {l : Launch} {G : tb_G} {xs : Nat → Int32} (hl : l.stackTraces = false) : tz_At l G M_L_law room_1 (some (6, xs)) tb_LZ 184 54325 184 (zj tb_I0) 794 [some (.ref tb_sc), some (.ref 0), some (.ref 164), some (.ref 183), some (zi 0), none, none] [] := by
  refine tz_aload_n (pc := 794) dL_law_794 rfl rfl ?_
  refine tz_aload_n (pc := 795) dL_law_795 rfl rfl ?_
  refine tz_iload (pc := 796) dL_law_796 rfl ?_
  refine tz_iconst (pc := 798) dL_law_798 ?_
  refine tz_iadd (pc := 799) (v := 1) dL_law_799 (by decide) ?_
  refine tz_sld (pc := 800) (z := 1) rfl dL_law_800 (by decide) (Nat.le_of_ble_eq_true rfl) (fun r_800 => ?_)
  refine tz_aload_n (pc := 801) dL_law_801 rfl rfl ?_
  refine tz_iload (pc := 802) dL_law_802 rfl ?_
  refine tz_iconst (pc := 804) dL_law_804 ?_
  refine tz_iadd (pc := 805) (v := 2) dL_law_805 (by decide) ?_
  refine tz_sld (pc := 806) (z := 2) rfl dL_law_806 (by decide) (Nat.le_of_ble_eq_true rfl) (fun r_806 => ?_)
  refine tz_aload_n (pc := 807) dL_law_807 rfl rfl ?_
  refine tz_cH (pc := 808) (nA := 4) (cw_rule hl _ tb_I0 fr_0 _ _ (z_rg _) (z_rg _)) ml_L_100 ms_L_rule ch_L_rule wk_ini_L (by decide +kernel) dL_law_808 rfl rfl (Nat.le_of_ble_eq_true rfl) ⟨(Nat.le_of_ble_eq_true rfl), (Nat.le_of_ble_eq_true rfl)⟩ rfl rfl (Nat.le_of_ble_eq_true rfl) (Nat.le_of_ble_eq_true rfl) (fun r9 n_808 J_808 hn1_808 hn2_808 hq9 => ?_)
  obtain ⟨z_808, rfl, hz_808, hv_808, f_808⟩ := hq9
  subst hv_808
  refine tz_istore (pc := 811) (L2 := [_, _, _, _, _, _, _]) dL_law_811 (by decide) rfl ?_
  refine tz_aload_n (pc := 813) dL_law_813 rfl rfl ?_
  refine tz_aload_n (pc := 814) dL_law_814 rfl rfl ?_
  refine tz_iload (pc := 815) dL_law_815 rfl ?_
  refine tz_iconst (pc := 817) dL_law_817 ?_
  refine tz_iadd (pc := 818) (v := 1) dL_law_818 (by decide) ?_
  refine tz_sld (pc := 819) (z := 1) rfl dL_law_819 (by decide) (Nat.le_of_ble_eq_true rfl) (fun r_819 => ?_)
  refine tz_aload_n (pc := 820) dL_law_820 rfl rfl ?_
  refine tz_iload (pc := 821) dL_law_821 rfl ?_
  refine tz_iconst (pc := 823) dL_law_823 ?_
  refine tz_iadd (pc := 824) (v := 2) dL_law_824 (by decide) ?_
  refine tz_sld (pc := 825) (z := 2) rfl dL_law_825 (by decide) (Nat.le_of_ble_eq_true rfl) (fun r_825 => ?_)
  refine tz_cV (pc := 826) ((tz_at (m1_rule hl _ (zI J_808) (fm_of f_808) _ _ (z_rg _) (z_rg _)))) vl_L_102 dL_law_826 o_164 rfl rfl (Nat.le_of_ble_eq_true rfl) ⟨(Nat.le_of_ble_eq_true rfl), (Nat.le_of_ble_eq_true rfl)⟩ rfl rfl (Nat.le_of_ble_eq_true rfl) (Nat.le_of_ble_eq_true rfl) (fun r9 J_826 hq9 => ?_)
  obtain ⟨z_826, rfl, hz_826, hw_826, ht_826, g_826⟩ := hq9
  refine tz_istore (pc := 829) (L2 := [_, _, _, _, _, _, _]) dL_law_829 (by decide) rfl ?_
  refine tz_aload_n (pc := 831) dL_law_831 rfl rfl ?_
  refine tz_cV (pc := 832) (zm_thrown hl _ _) vl_L_70 dL_law_832 o_164 rfl rfl (Nat.le_of_ble_eq_true rfl) ⟨(Nat.le_of_ble_eq_true rfl), (Nat.le_of_ble_eq_true rfl)⟩ rfl rfl (Nat.le_of_ble_eq_true rfl) (Nat.le_of_ble_eq_true rfl) (fun r9 J_832 hq9 => ?_)
  obtain ⟨z_832, rfl, hz_832, rfl, hv_832⟩ := hq9
  obtain rfl : 1 = z_832 := by rw [← hv_832]; exact ht_826.symm
  refine tz_iload (pc := 835) dL_law_835 rfl ?_
  refine tz_icmp_eqT (pc := 837) (tgt := 842) (by decide) dL_law_837 (by decide) (by decide) (by decide) ?_
  refine tz_iload (pc := 842) dL_law_842 rfl ?_
  refine tz_if_neT (pc := 844) (tgt := 859) (by decide) dL_law_844 (by decide) (by decide) ?_
  refine tz_goto (pc := 859) (tgt := 1666) dL_law_859 (by decide) ?_
  exact law_end (some (zi 1)) (some (zi z_826)) (Nat.le_of_ble_eq_true rfl) (Nat.le_of_ble_eq_true rfl)

set_option maxHeartbeats 4000000 in
set_option maxRecDepth 100000 in
theorem law_entry {l : Launch} {G : tb_G} {xs : Nat → Int32} (hl : l.stackTraces = false) : tz_At l G M_L_law room_1 (some (6, xs)) tb_LZ 184 54325 184 (zj tb_I0) 862 [some (.ref tb_sc), some (.ref 0), some (.ref 164), some (.ref 183), some (zi 0), none, none] [] := by
  refine tz_aload_n (pc := 862) dL_law_862 rfl rfl ?_
  refine tz_aload_n (pc := 863) dL_law_863 rfl rfl ?_
  refine tz_iload (pc := 864) dL_law_864 rfl ?_
  refine tz_iconst (pc := 866) dL_law_866 ?_
  refine tz_iadd (pc := 867) (v := 1) dL_law_867 (by decide) ?_
  refine tz_sld (pc := 868) (z := 1) rfl dL_law_868 (by decide) (Nat.le_of_ble_eq_true rfl) (fun r_868 => ?_)
  refine tz_aload_n (pc := 869) dL_law_869 rfl rfl ?_
  refine tz_cH (pc := 870) (nA := 3) (cw_entry hl _ tb_I0 fr_0 _ (z_rg _)) ml_L_103 ms_L_entry ch_L_entry wk_ini_L (by decide +kernel) dL_law_870 rfl rfl (Nat.le_of_ble_eq_true rfl) ⟨(Nat.le_of_ble_eq_true rfl), (Nat.le_of_ble_eq_true rfl)⟩ rfl rfl (Nat.le_of_ble_eq_true rfl) (Nat.le_of_ble_eq_true rfl) (fun r9 n_870 J_870 hn1_870 hn2_870 hq9 => ?_)
  obtain ⟨z_870, rfl, hz_870, hv_870, f_870⟩ := hq9
  subst hv_870
  refine tz_istore (pc := 873) (L2 := [_, _, _, _, _, _, _]) dL_law_873 (by decide) rfl ?_
  refine tz_aload_n (pc := 875) dL_law_875 rfl rfl ?_
  refine tz_aload_n (pc := 876) dL_law_876 rfl rfl ?_
  refine tz_iload (pc := 877) dL_law_877 rfl ?_
  refine tz_iconst (pc := 879) dL_law_879 ?_
  refine tz_iadd (pc := 880) (v := 1) dL_law_880 (by decide) ?_
  refine tz_sld (pc := 881) (z := 1) rfl dL_law_881 (by decide) (Nat.le_of_ble_eq_true rfl) (fun r_881 => ?_)
  refine tz_cV (pc := 882) ((tz_at (m1_entry hl _ (zI J_870) (fm_of f_870) _ (z_rg _)))) vl_L_105 dL_law_882 o_164 rfl rfl (Nat.le_of_ble_eq_true rfl) ⟨(Nat.le_of_ble_eq_true rfl), (Nat.le_of_ble_eq_true rfl)⟩ rfl rfl (Nat.le_of_ble_eq_true rfl) (Nat.le_of_ble_eq_true rfl) (fun r9 J_882 hq9 => ?_)
  obtain ⟨z_882, rfl, hz_882, hw_882, ht_882, g_882⟩ := hq9
  refine tz_istore (pc := 885) (L2 := [_, _, _, _, _, _, _]) dL_law_885 (by decide) rfl ?_
  refine tz_aload_n (pc := 887) dL_law_887 rfl rfl ?_
  refine tz_cV (pc := 888) (zm_thrown hl _ _) vl_L_70 dL_law_888 o_164 rfl rfl (Nat.le_of_ble_eq_true rfl) ⟨(Nat.le_of_ble_eq_true rfl), (Nat.le_of_ble_eq_true rfl)⟩ rfl rfl (Nat.le_of_ble_eq_true rfl) (Nat.le_of_ble_eq_true rfl) (fun r9 J_888 hq9 => ?_)
  obtain ⟨z_888, rfl, hz_888, rfl, hv_888⟩ := hq9
  obtain rfl : 1 = z_888 := by rw [← hv_888]; exact ht_882.symm
  refine tz_iload (pc := 891) dL_law_891 rfl ?_
  refine tz_icmp_eqT (pc := 893) (tgt := 898) (by decide) dL_law_893 (by decide) (by decide) (by decide) ?_
  refine tz_iload (pc := 898) dL_law_898 rfl ?_
  refine tz_if_neT (pc := 900) (tgt := 915) (by decide) dL_law_900 (by decide) (by decide) ?_
  refine tz_goto (pc := 915) (tgt := 1666) dL_law_915 (by decide) ?_
  exact law_end (some (zi 1)) (some (zi z_882)) (Nat.le_of_ble_eq_true rfl) (Nat.le_of_ble_eq_true rfl)

set_option maxHeartbeats 4000000 in
set_option maxRecDepth 100000 in
theorem law_memo {l : Launch} {G : tb_G} {xs : Nat → Int32} (hl : l.stackTraces = false) : tz_At l G M_L_law room_1 (some (6, xs)) tb_LZ 184 54325 184 (zj tb_I0) 918 [some (.ref tb_sc), some (.ref 0), some (.ref 164), some (.ref 183), some (zi 0), none, none] [] := by
  refine tz_aload_n (pc := 918) dL_law_918 rfl rfl ?_
  refine tz_aload_n (pc := 919) dL_law_919 rfl rfl ?_
  refine tz_iload (pc := 920) dL_law_920 rfl ?_
  refine tz_iconst (pc := 922) dL_law_922 ?_
  refine tz_iadd (pc := 923) (v := 1) dL_law_923 (by decide) ?_
  refine tz_sld (pc := 924) (z := 1) rfl dL_law_924 (by decide) (Nat.le_of_ble_eq_true rfl) (fun r_924 => ?_)
  refine tz_aload_n (pc := 925) dL_law_925 rfl rfl ?_
  refine tz_iload (pc := 926) dL_law_926 rfl ?_
  refine tz_iconst (pc := 928) dL_law_928 ?_
  refine tz_iadd (pc := 929) (v := 2) dL_law_929 (by decide) ?_
  refine tz_sld (pc := 930) (z := 2) rfl dL_law_930 (by decide) (Nat.le_of_ble_eq_true rfl) (fun r_930 => ?_)
  refine tz_aload_n (pc := 931) dL_law_931 rfl rfl ?_
  refine tz_cH (pc := 932) (nA := 4) (cw_memo hl _ tb_I0 fr_0 _ _ (z_rg _) (z_rg _)) ml_L_106 ms_L_memo ch_L_memo wk_ini_L (by decide +kernel) dL_law_932 rfl rfl (Nat.le_of_ble_eq_true rfl) ⟨(Nat.le_of_ble_eq_true rfl), (Nat.le_of_ble_eq_true rfl)⟩ rfl rfl (Nat.le_of_ble_eq_true rfl) (Nat.le_of_ble_eq_true rfl) (fun r9 n_932 J_932 hn1_932 hn2_932 hq9 => ?_)
  obtain ⟨z_932, rfl, hz_932, hv_932, f_932⟩ := hq9
  subst hv_932
  refine tz_istore (pc := 935) (L2 := [_, _, _, _, _, _, _]) dL_law_935 (by decide) rfl ?_
  refine tz_aload_n (pc := 937) dL_law_937 rfl rfl ?_
  refine tz_aload_n (pc := 938) dL_law_938 rfl rfl ?_
  refine tz_iload (pc := 939) dL_law_939 rfl ?_
  refine tz_iconst (pc := 941) dL_law_941 ?_
  refine tz_iadd (pc := 942) (v := 1) dL_law_942 (by decide) ?_
  refine tz_sld (pc := 943) (z := 1) rfl dL_law_943 (by decide) (Nat.le_of_ble_eq_true rfl) (fun r_943 => ?_)
  refine tz_aload_n (pc := 944) dL_law_944 rfl rfl ?_
  refine tz_iload (pc := 945) dL_law_945 rfl ?_
  refine tz_iconst (pc := 947) dL_law_947 ?_
  refine tz_iadd (pc := 948) (v := 2) dL_law_948 (by decide) ?_
  refine tz_sld (pc := 949) (z := 2) rfl dL_law_949 (by decide) (Nat.le_of_ble_eq_true rfl) (fun r_949 => ?_)
  refine tz_cV (pc := 950) ((tz_at (m1_memo hl _ (zI J_932) (fm_of f_932) _ _ (z_rg _) (z_rg _)))) vl_L_108 dL_law_950 o_164 rfl rfl (Nat.le_of_ble_eq_true rfl) ⟨(Nat.le_of_ble_eq_true rfl), (Nat.le_of_ble_eq_true rfl)⟩ rfl rfl (Nat.le_of_ble_eq_true rfl) (Nat.le_of_ble_eq_true rfl) (fun r9 J_950 hq9 => ?_)
  obtain ⟨z_950, rfl, hz_950, hw_950, ht_950, g_950⟩ := hq9
  refine tz_istore (pc := 953) (L2 := [_, _, _, _, _, _, _]) dL_law_953 (by decide) rfl ?_
  refine tz_aload_n (pc := 955) dL_law_955 rfl rfl ?_
  refine tz_cV (pc := 956) (zm_thrown hl _ _) vl_L_70 dL_law_956 o_164 rfl rfl (Nat.le_of_ble_eq_true rfl) ⟨(Nat.le_of_ble_eq_true rfl), (Nat.le_of_ble_eq_true rfl)⟩ rfl rfl (Nat.le_of_ble_eq_true rfl) (Nat.le_of_ble_eq_true rfl) (fun r9 J_956 hq9 => ?_)
  obtain ⟨z_956, rfl, hz_956, rfl, hv_956⟩ := hq9
  obtain rfl : 1 = z_956 := by rw [← hv_956]; exact ht_950.symm
  refine tz_iload (pc := 959) dL_law_959 rfl ?_
  refine tz_icmp_eqT (pc := 961) (tgt := 966) (by decide) dL_law_961 (by decide) (by decide) (by decide) ?_
  refine tz_iload (pc := 966) dL_law_966 rfl ?_
  refine tz_if_neT (pc := 968) (tgt := 983) (by decide) dL_law_968 (by decide) (by decide) ?_
  refine tz_goto (pc := 983) (tgt := 1666) dL_law_983 (by decide) ?_
  exact law_end (some (zi 1)) (some (zi z_950)) (Nat.le_of_ble_eq_true rfl) (Nat.le_of_ble_eq_true rfl)

set_option maxHeartbeats 4000000 in
set_option maxRecDepth 100000 in
theorem law_bound {l : Launch} {G : tb_G} {xs : Nat → Int32} (hl : l.stackTraces = false) : tz_At l G M_L_law room_1 (some (6, xs)) tb_LZ 184 54325 184 (zj tb_I0) 986 [some (.ref tb_sc), some (.ref 0), some (.ref 164), some (.ref 183), some (zi 0), none, none] [] := by
  refine tz_aload_n (pc := 986) dL_law_986 rfl rfl ?_
  refine tz_aload_n (pc := 987) dL_law_987 rfl rfl ?_
  refine tz_iload (pc := 988) dL_law_988 rfl ?_
  refine tz_iconst (pc := 990) dL_law_990 ?_
  refine tz_iadd (pc := 991) (v := 1) dL_law_991 (by decide) ?_
  refine tz_sld (pc := 992) (z := 1) rfl dL_law_992 (by decide) (Nat.le_of_ble_eq_true rfl) (fun r_992 => ?_)
  refine tz_aload_n (pc := 993) dL_law_993 rfl rfl ?_
  refine tz_cH (pc := 994) (nA := 3) (cw_bound hl _ tb_I0 fr_0 _ (z_rg _)) ml_L_109 ms_L_bound ch_L_bound wk_ini_L (by decide +kernel) dL_law_994 rfl rfl (Nat.le_of_ble_eq_true rfl) ⟨(Nat.le_of_ble_eq_true rfl), (Nat.le_of_ble_eq_true rfl)⟩ rfl rfl (Nat.le_of_ble_eq_true rfl) (Nat.le_of_ble_eq_true rfl) (fun r9 n_994 J_994 hn1_994 hn2_994 hq9 => ?_)
  obtain ⟨z_994, rfl, hz_994, hv_994, f_994⟩ := hq9
  rcases hv_994 with ⟨hc9, rfl, ho9⟩ | ⟨hc9, rfl⟩
  · refine tz_istore (pc := 997) (L2 := [_, _, _, _, _, _, _]) dL_law_997 (by decide) rfl ?_
    refine tz_aload_n (pc := 999) dL_law_999 rfl rfl ?_
    refine tz_aload_n (pc := 1000) dL_law_1000 rfl rfl ?_
    refine tz_iload (pc := 1001) dL_law_1001 rfl ?_
    refine tz_iconst (pc := 1003) dL_law_1003 ?_
    refine tz_iadd (pc := 1004) (v := 1) dL_law_1004 (by decide) ?_
    refine tz_sld (pc := 1005) (z := 1) rfl dL_law_1005 (by decide) (Nat.le_of_ble_eq_true rfl) (fun r_1005 => ?_)
    refine tz_cV (pc := 1006) ((tz_at (m1_bound hl _ (zI J_994) (fm_of f_994) _ (z_rg _)))) vl_L_111 dL_law_1006 o_164 rfl rfl (Nat.le_of_ble_eq_true rfl) ⟨(Nat.le_of_ble_eq_true rfl), (Nat.le_of_ble_eq_true rfl)⟩ rfl rfl (Nat.le_of_ble_eq_true rfl) (Nat.le_of_ble_eq_true rfl) (fun r9 J_1006 hq9 => ?_)
    obtain ⟨z_1006, rfl, hz_1006, hw_1006, ht_1006, g_1006⟩ := hq9
    refine tz_istore (pc := 1009) (L2 := [_, _, _, _, _, _, _]) dL_law_1009 (by decide) rfl ?_
    refine tz_aload_n (pc := 1011) dL_law_1011 rfl rfl ?_
    rw [if_pos hc9] at ht_1006
    refine tz_cV (pc := 1012) (zm_thrown hl _ _) vl_L_70 dL_law_1012 o_164 rfl rfl (Nat.le_of_ble_eq_true rfl) ⟨(Nat.le_of_ble_eq_true rfl), (Nat.le_of_ble_eq_true rfl)⟩ rfl rfl (Nat.le_of_ble_eq_true rfl) (Nat.le_of_ble_eq_true rfl) (fun r9 J_1012 hq9 => ?_)
    obtain ⟨z_1012, rfl, hz_1012, rfl, hv_1012⟩ := hq9
    obtain rfl : 0 = z_1012 := by rw [← hv_1012]; exact ht_1006.symm
    refine tz_iload (pc := 1015) dL_law_1015 rfl ?_
    refine tz_icmp_eqT (pc := 1017) (tgt := 1022) (by decide) dL_law_1017 (by decide) (by decide) (by decide) ?_
    refine tz_iload (pc := 1022) dL_law_1022 rfl ?_
    refine tz_if_neF (pc := 1024) (tgt := 1039) (by decide) dL_law_1024 (by decide) (by decide) ?_
    refine tz_aload_n (pc := 1027) dL_law_1027 rfl rfl ?_
    refine tz_iconst (pc := 1028) dL_law_1028 ?_
    refine tz_lald (pc := 1029) (z := 0) (v := _) dL_law_1029 l_183 rfl (by decide) (Eq.trans (congrFun g_1006 0) (zj_zI0 ho9 (by first | decide | ((repeat' split) <;> omega)))) (fun r_1029 => ?_)
    refine tz_iload (pc := 1030) dL_law_1030 rfl ?_
    refine tz_i2l (pc := 1032) dL_law_1032 ?_
    refine tz_lcmp (pc := 1033) (v := 0) dL_law_1033 r_1029 hz_1006 (by rw [hw_1006]; first | (simp; done) | (rw [if_pos hc9]; simp; done)) ?_
    refine tz_if_eqT (pc := 1034) (tgt := 1039) (by decide) dL_law_1034 (by decide) (by decide) ?_
    refine tz_goto (pc := 1039) (tgt := 1666) dL_law_1039 (by decide) ?_
    exact law_end (some (zi 0)) (some (zi z_1006)) (Nat.le_of_ble_eq_true rfl) (Nat.le_of_ble_eq_true rfl)
  · refine tz_istore (pc := 997) (L2 := [_, _, _, _, _, _, _]) dL_law_997 (by decide) rfl ?_
    refine tz_aload_n (pc := 999) dL_law_999 rfl rfl ?_
    refine tz_aload_n (pc := 1000) dL_law_1000 rfl rfl ?_
    refine tz_iload (pc := 1001) dL_law_1001 rfl ?_
    refine tz_iconst (pc := 1003) dL_law_1003 ?_
    refine tz_iadd (pc := 1004) (v := 1) dL_law_1004 (by decide) ?_
    refine tz_sld (pc := 1005) (z := 1) rfl dL_law_1005 (by decide) (Nat.le_of_ble_eq_true rfl) (fun r_1005 => ?_)
    refine tz_cV (pc := 1006) ((tz_at (m1_bound hl _ (zI J_994) (fm_of f_994) _ (z_rg _)))) vl_L_111 dL_law_1006 o_164 rfl rfl (Nat.le_of_ble_eq_true rfl) ⟨(Nat.le_of_ble_eq_true rfl), (Nat.le_of_ble_eq_true rfl)⟩ rfl rfl (Nat.le_of_ble_eq_true rfl) (Nat.le_of_ble_eq_true rfl) (fun r9 J_1006 hq9 => ?_)
    obtain ⟨z_1006, rfl, hz_1006, hw_1006, ht_1006, g_1006⟩ := hq9
    refine tz_istore (pc := 1009) (L2 := [_, _, _, _, _, _, _]) dL_law_1009 (by decide) rfl ?_
    refine tz_aload_n (pc := 1011) dL_law_1011 rfl rfl ?_
    rw [if_neg hc9] at ht_1006
    refine tz_cV (pc := 1012) (zm_thrown hl _ _) vl_L_70 dL_law_1012 o_164 rfl rfl (Nat.le_of_ble_eq_true rfl) ⟨(Nat.le_of_ble_eq_true rfl), (Nat.le_of_ble_eq_true rfl)⟩ rfl rfl (Nat.le_of_ble_eq_true rfl) (Nat.le_of_ble_eq_true rfl) (fun r9 J_1012 hq9 => ?_)
    obtain ⟨z_1012, rfl, hz_1012, rfl, hv_1012⟩ := hq9
    obtain rfl : 1 = z_1012 := by rw [← hv_1012]; exact ht_1006.symm
    refine tz_iload (pc := 1015) dL_law_1015 rfl ?_
    refine tz_icmp_eqT (pc := 1017) (tgt := 1022) (by decide) dL_law_1017 (by decide) (by decide) (by decide) ?_
    refine tz_iload (pc := 1022) dL_law_1022 rfl ?_
    refine tz_if_neT (pc := 1024) (tgt := 1039) (by decide) dL_law_1024 (by decide) (by decide) ?_
    refine tz_goto (pc := 1039) (tgt := 1666) dL_law_1039 (by decide) ?_
    exact law_end (some (zi 1)) (some (zi z_1006)) (Nat.le_of_ble_eq_true rfl) (Nat.le_of_ble_eq_true rfl)

set_option maxHeartbeats 4000000 in
set_option maxRecDepth 100000 in
theorem law_variable {l : Launch} {G : tb_G} {xs : Nat → Int32} (hl : l.stackTraces = false) : tz_At l G M_L_law room_1 (some (6, xs)) tb_LZ 184 54325 184 (zj tb_I0) 1042 [some (.ref tb_sc), some (.ref 0), some (.ref 164), some (.ref 183), some (zi 0), none, none] [] := by
  refine tz_aload_n (pc := 1042) dL_law_1042 rfl rfl ?_
  refine tz_aload_n (pc := 1043) dL_law_1043 rfl rfl ?_
  refine tz_iload (pc := 1044) dL_law_1044 rfl ?_
  refine tz_iconst (pc := 1046) dL_law_1046 ?_
  refine tz_iadd (pc := 1047) (v := 1) dL_law_1047 (by decide) ?_
  refine tz_sld (pc := 1048) (z := 1) rfl dL_law_1048 (by decide) (Nat.le_of_ble_eq_true rfl) (fun r_1048 => ?_)
  refine tz_cV (pc := 1049) (c1_variable hl _ tb_I0 fr_0 _ (z_rg _)) vl_L_112 dL_law_1049 o_0 rfl rfl (Nat.le_of_ble_eq_true rfl) ⟨(Nat.le_of_ble_eq_true rfl), (Nat.le_of_ble_eq_true rfl)⟩ rfl rfl (Nat.le_of_ble_eq_true rfl) (Nat.le_of_ble_eq_true rfl) (fun r9 J_1049 hq9 => ?_)
  obtain ⟨z_1049, rfl, hz_1049, hv_1049, f_1049⟩ := hq9
  refine tz_aload_n (pc := 1052) dL_law_1052 rfl rfl ?_
  refine tz_aload_n (pc := 1053) dL_law_1053 rfl rfl ?_
  refine tz_iload (pc := 1054) dL_law_1054 rfl ?_
  refine tz_iconst (pc := 1056) dL_law_1056 ?_
  refine tz_iadd (pc := 1057) (v := 1) dL_law_1057 (by decide) ?_
  refine tz_sld (pc := 1058) (z := 1) rfl dL_law_1058 (by decide) (Nat.le_of_ble_eq_true rfl) (fun r_1058 => ?_)
  refine tz_cV (pc := 1059) ((tz_at (m1_variable hl _ (zI J_1049) (fm_of (zOf.mono f_1049 zmid_of)) _ (z_rg _)))) vl_L_115 dL_law_1059 o_164 rfl rfl (Nat.le_of_ble_eq_true rfl) ⟨(Nat.le_of_ble_eq_true rfl), (Nat.le_of_ble_eq_true rfl)⟩ rfl rfl (Nat.le_of_ble_eq_true rfl) (Nat.le_of_ble_eq_true rfl) (fun r9 J_1059 hq9 => ?_)
  obtain ⟨z_1059, rfl, hz_1059, hw_1059, ht_1059, g_1059⟩ := hq9
  refine tz_icmp_eqT (pc := 1062) (tgt := 1666) (hv_1049.trans hw_1059.symm) dL_law_1062 (by decide) hz_1049 hz_1059 ?_
  exact law_end none none (Nat.le_of_ble_eq_true rfl) (Nat.le_of_ble_eq_true rfl)

set_option maxHeartbeats 4000000 in
set_option maxRecDepth 100000 in
theorem law_make {l : Launch} {G : tb_G} {xs : Nat → Int32} (hl : l.stackTraces = false) : tz_At l G M_L_law room_1 (some (6, xs)) tb_LZ 184 54325 184 (zj tb_I0) 1067 [some (.ref tb_sc), some (.ref 0), some (.ref 164), some (.ref 183), some (zi 0), none, none] [] := by
  refine tz_aload_n (pc := 1067) dL_law_1067 rfl rfl ?_
  refine tz_aload_n (pc := 1068) dL_law_1068 rfl rfl ?_
  refine tz_iload (pc := 1069) dL_law_1069 rfl ?_
  refine tz_iconst (pc := 1071) dL_law_1071 ?_
  refine tz_iadd (pc := 1072) (v := 1) dL_law_1072 (by decide) ?_
  refine tz_sld (pc := 1073) (z := 1) rfl dL_law_1073 (by decide) (Nat.le_of_ble_eq_true rfl) (fun r_1073 => ?_)
  refine tz_aload_n (pc := 1074) dL_law_1074 rfl rfl ?_
  refine tz_iload (pc := 1075) dL_law_1075 rfl ?_
  refine tz_iconst (pc := 1077) dL_law_1077 ?_
  refine tz_iadd (pc := 1078) (v := 2) dL_law_1078 (by decide) ?_
  refine tz_sld (pc := 1079) (z := 2) rfl dL_law_1079 (by decide) (Nat.le_of_ble_eq_true rfl) (fun r_1079 => ?_)
  refine tz_aload_n (pc := 1080) dL_law_1080 rfl rfl ?_
  refine tz_iload (pc := 1081) dL_law_1081 rfl ?_
  refine tz_iconst (pc := 1083) dL_law_1083 ?_
  refine tz_iadd (pc := 1084) (v := 3) dL_law_1084 (by decide) ?_
  refine tz_sld (pc := 1085) (z := 3) rfl dL_law_1085 (by decide) (Nat.le_of_ble_eq_true rfl) (fun r_1085 => ?_)
  refine tz_aload_n (pc := 1086) dL_law_1086 rfl rfl ?_
  refine tz_iload (pc := 1087) dL_law_1087 rfl ?_
  refine tz_iconst (pc := 1089) dL_law_1089 ?_
  refine tz_iadd (pc := 1090) (v := 4) dL_law_1090 (by decide) ?_
  refine tz_sld (pc := 1091) (z := 4) rfl dL_law_1091 (by decide) (Nat.le_of_ble_eq_true rfl) (fun r_1091 => ?_)
  refine tz_cV (pc := 1092) (cc_make hl _ tb_I0 fr_0 _ _ _ _ (z_rg _) (z_rg _) (z_rg _) (z_rg _)) vl_L_116 dL_law_1092 o_0 rfl rfl (Nat.le_of_ble_eq_true rfl) ⟨(Nat.le_of_ble_eq_true rfl), (Nat.le_of_ble_eq_true rfl)⟩ rfl rfl (Nat.le_of_ble_eq_true rfl) (Nat.le_of_ble_eq_true rfl) (fun r9 J_1092 hq9 => ?_)
  obtain ⟨z_1092, rfl, hz_1092, hv_1092, f_1092⟩ := hq9
  refine tz_aload_n (pc := 1095) dL_law_1095 rfl rfl ?_
  refine tz_aload_n (pc := 1096) dL_law_1096 rfl rfl ?_
  refine tz_iload (pc := 1097) dL_law_1097 rfl ?_
  refine tz_iconst (pc := 1099) dL_law_1099 ?_
  refine tz_iadd (pc := 1100) (v := 1) dL_law_1100 (by decide) ?_
  refine tz_sld (pc := 1101) (z := 1) rfl dL_law_1101 (by decide) (Nat.le_of_ble_eq_true rfl) (fun r_1101 => ?_)
  refine tz_aload_n (pc := 1102) dL_law_1102 rfl rfl ?_
  refine tz_iload (pc := 1103) dL_law_1103 rfl ?_
  refine tz_iconst (pc := 1105) dL_law_1105 ?_
  refine tz_iadd (pc := 1106) (v := 2) dL_law_1106 (by decide) ?_
  refine tz_sld (pc := 1107) (z := 2) rfl dL_law_1107 (by decide) (Nat.le_of_ble_eq_true rfl) (fun r_1107 => ?_)
  refine tz_aload_n (pc := 1108) dL_law_1108 rfl rfl ?_
  refine tz_iload (pc := 1109) dL_law_1109 rfl ?_
  refine tz_iconst (pc := 1111) dL_law_1111 ?_
  refine tz_iadd (pc := 1112) (v := 3) dL_law_1112 (by decide) ?_
  refine tz_sld (pc := 1113) (z := 3) rfl dL_law_1113 (by decide) (Nat.le_of_ble_eq_true rfl) (fun r_1113 => ?_)
  refine tz_aload_n (pc := 1114) dL_law_1114 rfl rfl ?_
  refine tz_iload (pc := 1115) dL_law_1115 rfl ?_
  refine tz_iconst (pc := 1117) dL_law_1117 ?_
  refine tz_iadd (pc := 1118) (v := 4) dL_law_1118 (by decide) ?_
  refine tz_sld (pc := 1119) (z := 4) rfl dL_law_1119 (by decide) (Nat.le_of_ble_eq_true rfl) (fun r_1119 => ?_)
  refine tz_cV (pc := 1120) ((tz_at (m1_make hl _ (zI J_1092) (fm_of (zOf.mono f_1092 zmid_of)) _ _ _ _ (z_rg _) (z_rg _) (z_rg _) (z_rg _)))) vl_L_120 dL_law_1120 o_164 rfl rfl (Nat.le_of_ble_eq_true rfl) ⟨(Nat.le_of_ble_eq_true rfl), (Nat.le_of_ble_eq_true rfl)⟩ rfl rfl (Nat.le_of_ble_eq_true rfl) (Nat.le_of_ble_eq_true rfl) (fun r9 J_1120 hq9 => ?_)
  obtain ⟨z_1120, rfl, hz_1120, hw_1120, ht_1120, g_1120⟩ := hq9
  refine tz_icmp_eqT (pc := 1123) (tgt := 1666) (hv_1092.trans hw_1120.symm) dL_law_1123 (by decide) hz_1092 hz_1120 ?_
  exact law_end none none (Nat.le_of_ble_eq_true rfl) (Nat.le_of_ble_eq_true rfl)

set_option maxHeartbeats 4000000 in
set_option maxRecDepth 100000 in
theorem law_bind {l : Launch} {G : tb_G} {xs : Nat → Int32} (hl : l.stackTraces = false) : tz_At l G M_L_law room_1 (some (6, xs)) tb_LZ 184 54325 184 (zj tb_I0) 1128 [some (.ref tb_sc), some (.ref 0), some (.ref 164), some (.ref 183), some (zi 0), none, none] [] := by
  refine tz_aload_n (pc := 1128) dL_law_1128 rfl rfl ?_
  refine tz_aload_n (pc := 1129) dL_law_1129 rfl rfl ?_
  refine tz_iload (pc := 1130) dL_law_1130 rfl ?_
  refine tz_iconst (pc := 1132) dL_law_1132 ?_
  refine tz_iadd (pc := 1133) (v := 1) dL_law_1133 (by decide) ?_
  refine tz_sld (pc := 1134) (z := 1) rfl dL_law_1134 (by decide) (Nat.le_of_ble_eq_true rfl) (fun r_1134 => ?_)
  refine tz_aload_n (pc := 1135) dL_law_1135 rfl rfl ?_
  refine tz_iload (pc := 1136) dL_law_1136 rfl ?_
  refine tz_iconst (pc := 1138) dL_law_1138 ?_
  refine tz_iadd (pc := 1139) (v := 2) dL_law_1139 (by decide) ?_
  refine tz_sld (pc := 1140) (z := 2) rfl dL_law_1140 (by decide) (Nat.le_of_ble_eq_true rfl) (fun r_1140 => ?_)
  refine tz_cV (pc := 1141) (c1_bind hl _ tb_I0 fr_0 _ _ (z_rg _) (z_rg _)) vl_L_121 dL_law_1141 o_0 rfl rfl (Nat.le_of_ble_eq_true rfl) ⟨(Nat.le_of_ble_eq_true rfl), (Nat.le_of_ble_eq_true rfl)⟩ rfl rfl (Nat.le_of_ble_eq_true rfl) (Nat.le_of_ble_eq_true rfl) (fun r9 J_1141 hq9 => ?_)
  obtain ⟨z_1141, rfl, hz_1141, hv_1141, f_1141⟩ := hq9
  refine tz_aload_n (pc := 1144) dL_law_1144 rfl rfl ?_
  refine tz_aload_n (pc := 1145) dL_law_1145 rfl rfl ?_
  refine tz_iload (pc := 1146) dL_law_1146 rfl ?_
  refine tz_iconst (pc := 1148) dL_law_1148 ?_
  refine tz_iadd (pc := 1149) (v := 1) dL_law_1149 (by decide) ?_
  refine tz_sld (pc := 1150) (z := 1) rfl dL_law_1150 (by decide) (Nat.le_of_ble_eq_true rfl) (fun r_1150 => ?_)
  refine tz_aload_n (pc := 1151) dL_law_1151 rfl rfl ?_
  refine tz_iload (pc := 1152) dL_law_1152 rfl ?_
  refine tz_iconst (pc := 1154) dL_law_1154 ?_
  refine tz_iadd (pc := 1155) (v := 2) dL_law_1155 (by decide) ?_
  refine tz_sld (pc := 1156) (z := 2) rfl dL_law_1156 (by decide) (Nat.le_of_ble_eq_true rfl) (fun r_1156 => ?_)
  refine tz_cV (pc := 1157) ((tz_at (m1_bind hl _ (zI J_1141) (fm_of (zOf.mono f_1141 zmid_of)) _ _ (z_rg _) (z_rg _)))) vl_L_124 dL_law_1157 o_164 rfl rfl (Nat.le_of_ble_eq_true rfl) ⟨(Nat.le_of_ble_eq_true rfl), (Nat.le_of_ble_eq_true rfl)⟩ rfl rfl (Nat.le_of_ble_eq_true rfl) (Nat.le_of_ble_eq_true rfl) (fun r9 J_1157 hq9 => ?_)
  obtain ⟨z_1157, rfl, hz_1157, hw_1157, ht_1157, g_1157⟩ := hq9
  refine tz_icmp_eqT (pc := 1160) (tgt := 1666) (hv_1141.trans hw_1157.symm) dL_law_1160 (by decide) hz_1141 hz_1157 ?_
  exact law_end none none (Nat.le_of_ble_eq_true rfl) (Nat.le_of_ble_eq_true rfl)

set_option maxHeartbeats 4000000 in
set_option maxRecDepth 100000 in
theorem law_apply {l : Launch} {G : tb_G} {xs : Nat → Int32} (hl : l.stackTraces = false) : tz_At l G M_L_law room_1 (some (6, xs)) tb_LZ 184 54325 184 (zj tb_I0) 1165 [some (.ref tb_sc), some (.ref 0), some (.ref 164), some (.ref 183), some (zi 0), none, none] [] := by
  refine tz_aload_n (pc := 1165) dL_law_1165 rfl rfl ?_
  refine tz_aload_n (pc := 1166) dL_law_1166 rfl rfl ?_
  refine tz_iload (pc := 1167) dL_law_1167 rfl ?_
  refine tz_iconst (pc := 1169) dL_law_1169 ?_
  refine tz_iadd (pc := 1170) (v := 1) dL_law_1170 (by decide) ?_
  refine tz_sld (pc := 1171) (z := 1) rfl dL_law_1171 (by decide) (Nat.le_of_ble_eq_true rfl) (fun r_1171 => ?_)
  refine tz_cV (pc := 1172) (cc_apply hl _ tb_I0 fr_0 _ (z_rg _)) vl_L_125 dL_law_1172 o_0 rfl rfl (Nat.le_of_ble_eq_true rfl) ⟨(Nat.le_of_ble_eq_true rfl), (Nat.le_of_ble_eq_true rfl)⟩ rfl rfl (Nat.le_of_ble_eq_true rfl) (Nat.le_of_ble_eq_true rfl) (fun r9 J_1172 hq9 => ?_)
  obtain ⟨z_1172, rfl, hz_1172, hv_1172, f_1172⟩ := hq9
  refine tz_aload_n (pc := 1175) dL_law_1175 rfl rfl ?_
  refine tz_aload_n (pc := 1176) dL_law_1176 rfl rfl ?_
  refine tz_iload (pc := 1177) dL_law_1177 rfl ?_
  refine tz_iconst (pc := 1179) dL_law_1179 ?_
  refine tz_iadd (pc := 1180) (v := 1) dL_law_1180 (by decide) ?_
  refine tz_sld (pc := 1181) (z := 1) rfl dL_law_1181 (by decide) (Nat.le_of_ble_eq_true rfl) (fun r_1181 => ?_)
  refine tz_cV (pc := 1182) ((tz_at (m1_apply hl _ (zI J_1172) (fm_of (zOf.mono f_1172 zmid_of)) _ (z_rg _)))) vl_L_128 dL_law_1182 o_164 rfl rfl (Nat.le_of_ble_eq_true rfl) ⟨(Nat.le_of_ble_eq_true rfl), (Nat.le_of_ble_eq_true rfl)⟩ rfl rfl (Nat.le_of_ble_eq_true rfl) (Nat.le_of_ble_eq_true rfl) (fun r9 J_1182 hq9 => ?_)
  obtain ⟨z_1182, rfl, hz_1182, hw_1182, ht_1182, g_1182⟩ := hq9
  refine tz_icmp_eqT (pc := 1185) (tgt := 1666) (hv_1172.trans hw_1182.symm) dL_law_1185 (by decide) hz_1172 hz_1182 ?_
  exact law_end none none (Nat.le_of_ble_eq_true rfl) (Nat.le_of_ble_eq_true rfl)

set_option maxHeartbeats 4000000 in
set_option maxRecDepth 100000 in
theorem law_close {l : Launch} {G : tb_G} {xs : Nat → Int32} (hl : l.stackTraces = false) : tz_At l G M_L_law room_1 (some (6, xs)) tb_LZ 184 54325 184 (zj tb_I0) 1190 [some (.ref tb_sc), some (.ref 0), some (.ref 164), some (.ref 183), some (zi 0), none, none] [] := by
  refine tz_aload_n (pc := 1190) dL_law_1190 rfl rfl ?_
  refine tz_aload_n (pc := 1191) dL_law_1191 rfl rfl ?_
  refine tz_iload (pc := 1192) dL_law_1192 rfl ?_
  refine tz_iconst (pc := 1194) dL_law_1194 ?_
  refine tz_iadd (pc := 1195) (v := 1) dL_law_1195 (by decide) ?_
  refine tz_sld (pc := 1196) (z := 1) rfl dL_law_1196 (by decide) (Nat.le_of_ble_eq_true rfl) (fun r_1196 => ?_)
  refine tz_cV (pc := 1197) (cc_close hl _ tb_I0 fr_0 _ (z_rg _)) vl_L_129 dL_law_1197 o_0 rfl rfl (Nat.le_of_ble_eq_true rfl) ⟨(Nat.le_of_ble_eq_true rfl), (Nat.le_of_ble_eq_true rfl)⟩ rfl rfl (Nat.le_of_ble_eq_true rfl) (Nat.le_of_ble_eq_true rfl) (fun r9 J_1197 hq9 => ?_)
  obtain ⟨z_1197, rfl, hz_1197, hv_1197, f_1197⟩ := hq9
  refine tz_aload_n (pc := 1200) dL_law_1200 rfl rfl ?_
  refine tz_aload_n (pc := 1201) dL_law_1201 rfl rfl ?_
  refine tz_iload (pc := 1202) dL_law_1202 rfl ?_
  refine tz_iconst (pc := 1204) dL_law_1204 ?_
  refine tz_iadd (pc := 1205) (v := 1) dL_law_1205 (by decide) ?_
  refine tz_sld (pc := 1206) (z := 1) rfl dL_law_1206 (by decide) (Nat.le_of_ble_eq_true rfl) (fun r_1206 => ?_)
  refine tz_cV (pc := 1207) ((tz_at (m1_close hl _ (zI J_1197) (fm_of (zOf.mono f_1197 zmid_of)) _ (z_rg _)))) vl_L_132 dL_law_1207 o_164 rfl rfl (Nat.le_of_ble_eq_true rfl) ⟨(Nat.le_of_ble_eq_true rfl), (Nat.le_of_ble_eq_true rfl)⟩ rfl rfl (Nat.le_of_ble_eq_true rfl) (Nat.le_of_ble_eq_true rfl) (fun r9 J_1207 hq9 => ?_)
  obtain ⟨z_1207, rfl, hz_1207, hw_1207, ht_1207, g_1207⟩ := hq9
  refine tz_icmp_eqT (pc := 1210) (tgt := 1666) (hv_1197.trans hw_1207.symm) dL_law_1210 (by decide) hz_1197 hz_1207 ?_
  exact law_end none none (Nat.le_of_ble_eq_true rfl) (Nat.le_of_ble_eq_true rfl)

set_option maxHeartbeats 4000000 in
set_option maxRecDepth 100000 in
theorem law_unify {l : Launch} {G : tb_G} {xs : Nat → Int32} (hl : l.stackTraces = false) : tz_At l G M_L_law room_1 (some (6, xs)) tb_LZ 184 54325 184 (zj tb_I0) 1215 [some (.ref tb_sc), some (.ref 0), some (.ref 164), some (.ref 183), some (zi 0), none, none] [] := by
  refine tz_aload_n (pc := 1215) dL_law_1215 rfl rfl ?_
  refine tz_aload_n (pc := 1216) dL_law_1216 rfl rfl ?_
  refine tz_iload (pc := 1217) dL_law_1217 rfl ?_
  refine tz_iconst (pc := 1219) dL_law_1219 ?_
  refine tz_iadd (pc := 1220) (v := 1) dL_law_1220 (by decide) ?_
  refine tz_sld (pc := 1221) (z := 1) rfl dL_law_1221 (by decide) (Nat.le_of_ble_eq_true rfl) (fun r_1221 => ?_)
  refine tz_aload_n (pc := 1222) dL_law_1222 rfl rfl ?_
  refine tz_iload (pc := 1223) dL_law_1223 rfl ?_
  refine tz_iconst (pc := 1225) dL_law_1225 ?_
  refine tz_iadd (pc := 1226) (v := 2) dL_law_1226 (by decide) ?_
  refine tz_sld (pc := 1227) (z := 2) rfl dL_law_1227 (by decide) (Nat.le_of_ble_eq_true rfl) (fun r_1227 => ?_)
  refine tz_cV (pc := 1228) (cc_unify hl _ tb_I0 fr_0 _ _ (z_rg _) (z_rg _)) vl_L_133 dL_law_1228 o_0 rfl rfl (Nat.le_of_ble_eq_true rfl) ⟨(Nat.le_of_ble_eq_true rfl), (Nat.le_of_ble_eq_true rfl)⟩ rfl rfl (Nat.le_of_ble_eq_true rfl) (Nat.le_of_ble_eq_true rfl) (fun r9 J_1228 hq9 => ?_)
  obtain ⟨z_1228, rfl, hz_1228, hv_1228, f_1228⟩ := hq9
  refine tz_aload_n (pc := 1231) dL_law_1231 rfl rfl ?_
  refine tz_aload_n (pc := 1232) dL_law_1232 rfl rfl ?_
  refine tz_iload (pc := 1233) dL_law_1233 rfl ?_
  refine tz_iconst (pc := 1235) dL_law_1235 ?_
  refine tz_iadd (pc := 1236) (v := 1) dL_law_1236 (by decide) ?_
  refine tz_sld (pc := 1237) (z := 1) rfl dL_law_1237 (by decide) (Nat.le_of_ble_eq_true rfl) (fun r_1237 => ?_)
  refine tz_aload_n (pc := 1238) dL_law_1238 rfl rfl ?_
  refine tz_iload (pc := 1239) dL_law_1239 rfl ?_
  refine tz_iconst (pc := 1241) dL_law_1241 ?_
  refine tz_iadd (pc := 1242) (v := 2) dL_law_1242 (by decide) ?_
  refine tz_sld (pc := 1243) (z := 2) rfl dL_law_1243 (by decide) (Nat.le_of_ble_eq_true rfl) (fun r_1243 => ?_)
  refine tz_cV (pc := 1244) ((tz_at (m1_unify hl _ (zI J_1228) (fm_of (zOf.mono f_1228 zmid_of)) _ _ (z_rg _) (z_rg _)))) vl_L_136 dL_law_1244 o_164 rfl rfl (Nat.le_of_ble_eq_true rfl) ⟨(Nat.le_of_ble_eq_true rfl), (Nat.le_of_ble_eq_true rfl)⟩ rfl rfl (Nat.le_of_ble_eq_true rfl) (Nat.le_of_ble_eq_true rfl) (fun r9 J_1244 hq9 => ?_)
  obtain ⟨z_1244, rfl, hz_1244, hw_1244, ht_1244, g_1244⟩ := hq9
  refine tz_icmp_eqT (pc := 1247) (tgt := 1666) (hv_1228.trans hw_1244.symm) dL_law_1247 (by decide) hz_1228 hz_1244 ?_
  exact law_end none none (Nat.le_of_ble_eq_true rfl) (Nat.le_of_ble_eq_true rfl)

set_option maxHeartbeats 4000000 in
set_option maxRecDepth 100000 in
theorem law_match {l : Launch} {G : tb_G} {xs : Nat → Int32} (hl : l.stackTraces = false) : tz_At l G M_L_law room_1 (some (6, xs)) tb_LZ 184 54325 184 (zj tb_I0) 1252 [some (.ref tb_sc), some (.ref 0), some (.ref 164), some (.ref 183), some (zi 0), none, none] [] := by
  refine tz_aload_n (pc := 1252) dL_law_1252 rfl rfl ?_
  refine tz_aload_n (pc := 1253) dL_law_1253 rfl rfl ?_
  refine tz_iload (pc := 1254) dL_law_1254 rfl ?_
  refine tz_iconst (pc := 1256) dL_law_1256 ?_
  refine tz_iadd (pc := 1257) (v := 1) dL_law_1257 (by decide) ?_
  refine tz_sld (pc := 1258) (z := 1) rfl dL_law_1258 (by decide) (Nat.le_of_ble_eq_true rfl) (fun r_1258 => ?_)
  refine tz_aload_n (pc := 1259) dL_law_1259 rfl rfl ?_
  refine tz_iload (pc := 1260) dL_law_1260 rfl ?_
  refine tz_iconst (pc := 1262) dL_law_1262 ?_
  refine tz_iadd (pc := 1263) (v := 2) dL_law_1263 (by decide) ?_
  refine tz_sld (pc := 1264) (z := 2) rfl dL_law_1264 (by decide) (Nat.le_of_ble_eq_true rfl) (fun r_1264 => ?_)
  refine tz_cV (pc := 1265) (cc_match hl _ tb_I0 fr_0 _ _ (z_rg _) (z_rg _)) vl_L_137 dL_law_1265 o_0 rfl rfl (Nat.le_of_ble_eq_true rfl) ⟨(Nat.le_of_ble_eq_true rfl), (Nat.le_of_ble_eq_true rfl)⟩ rfl rfl (Nat.le_of_ble_eq_true rfl) (Nat.le_of_ble_eq_true rfl) (fun r9 J_1265 hq9 => ?_)
  obtain ⟨z_1265, rfl, hz_1265, hv_1265, f_1265⟩ := hq9
  refine tz_aload_n (pc := 1268) dL_law_1268 rfl rfl ?_
  refine tz_aload_n (pc := 1269) dL_law_1269 rfl rfl ?_
  refine tz_iload (pc := 1270) dL_law_1270 rfl ?_
  refine tz_iconst (pc := 1272) dL_law_1272 ?_
  refine tz_iadd (pc := 1273) (v := 1) dL_law_1273 (by decide) ?_
  refine tz_sld (pc := 1274) (z := 1) rfl dL_law_1274 (by decide) (Nat.le_of_ble_eq_true rfl) (fun r_1274 => ?_)
  refine tz_aload_n (pc := 1275) dL_law_1275 rfl rfl ?_
  refine tz_iload (pc := 1276) dL_law_1276 rfl ?_
  refine tz_iconst (pc := 1278) dL_law_1278 ?_
  refine tz_iadd (pc := 1279) (v := 2) dL_law_1279 (by decide) ?_
  refine tz_sld (pc := 1280) (z := 2) rfl dL_law_1280 (by decide) (Nat.le_of_ble_eq_true rfl) (fun r_1280 => ?_)
  refine tz_cV (pc := 1281) ((tz_at (m1_match hl _ (zI J_1265) (fm_of (zOf.mono f_1265 zmid_of)) _ _ (z_rg _) (z_rg _)))) vl_L_140 dL_law_1281 o_164 rfl rfl (Nat.le_of_ble_eq_true rfl) ⟨(Nat.le_of_ble_eq_true rfl), (Nat.le_of_ble_eq_true rfl)⟩ rfl rfl (Nat.le_of_ble_eq_true rfl) (Nat.le_of_ble_eq_true rfl) (fun r9 J_1281 hq9 => ?_)
  obtain ⟨z_1281, rfl, hz_1281, hw_1281, ht_1281, g_1281⟩ := hq9
  refine tz_icmp_eqT (pc := 1284) (tgt := 1666) (hv_1265.trans hw_1281.symm) dL_law_1284 (by decide) hz_1265 hz_1281 ?_
  exact law_end none none (Nat.le_of_ble_eq_true rfl) (Nat.le_of_ble_eq_true rfl)

set_option maxHeartbeats 4000000 in
set_option maxRecDepth 100000 in
theorem law_common {l : Launch} {G : tb_G} {xs : Nat → Int32} (hl : l.stackTraces = false) : tz_At l G M_L_law room_1 (some (6, xs)) tb_LZ 184 54325 184 (zj tb_I0) 1289 [some (.ref tb_sc), some (.ref 0), some (.ref 164), some (.ref 183), some (zi 0), none, none] [] := by
  refine tz_aload_n (pc := 1289) dL_law_1289 rfl rfl ?_
  refine tz_aload_n (pc := 1290) dL_law_1290 rfl rfl ?_
  refine tz_iload (pc := 1291) dL_law_1291 rfl ?_
  refine tz_iconst (pc := 1293) dL_law_1293 ?_
  refine tz_iadd (pc := 1294) (v := 1) dL_law_1294 (by decide) ?_
  refine tz_sld (pc := 1295) (z := 1) rfl dL_law_1295 (by decide) (Nat.le_of_ble_eq_true rfl) (fun r_1295 => ?_)
  refine tz_aload_n (pc := 1296) dL_law_1296 rfl rfl ?_
  refine tz_iload (pc := 1297) dL_law_1297 rfl ?_
  refine tz_iconst (pc := 1299) dL_law_1299 ?_
  refine tz_iadd (pc := 1300) (v := 2) dL_law_1300 (by decide) ?_
  refine tz_sld (pc := 1301) (z := 2) rfl dL_law_1301 (by decide) (Nat.le_of_ble_eq_true rfl) (fun r_1301 => ?_)
  refine tz_cV (pc := 1302) (cc_common hl _ tb_I0 fr_0 _ _ (z_rg _) (z_rg _)) vl_L_141 dL_law_1302 o_0 rfl rfl (Nat.le_of_ble_eq_true rfl) ⟨(Nat.le_of_ble_eq_true rfl), (Nat.le_of_ble_eq_true rfl)⟩ rfl rfl (Nat.le_of_ble_eq_true rfl) (Nat.le_of_ble_eq_true rfl) (fun r9 J_1302 hq9 => ?_)
  obtain ⟨z_1302, rfl, hz_1302, hv_1302, f_1302⟩ := hq9
  refine tz_aload_n (pc := 1305) dL_law_1305 rfl rfl ?_
  refine tz_aload_n (pc := 1306) dL_law_1306 rfl rfl ?_
  refine tz_iload (pc := 1307) dL_law_1307 rfl ?_
  refine tz_iconst (pc := 1309) dL_law_1309 ?_
  refine tz_iadd (pc := 1310) (v := 1) dL_law_1310 (by decide) ?_
  refine tz_sld (pc := 1311) (z := 1) rfl dL_law_1311 (by decide) (Nat.le_of_ble_eq_true rfl) (fun r_1311 => ?_)
  refine tz_aload_n (pc := 1312) dL_law_1312 rfl rfl ?_
  refine tz_iload (pc := 1313) dL_law_1313 rfl ?_
  refine tz_iconst (pc := 1315) dL_law_1315 ?_
  refine tz_iadd (pc := 1316) (v := 2) dL_law_1316 (by decide) ?_
  refine tz_sld (pc := 1317) (z := 2) rfl dL_law_1317 (by decide) (Nat.le_of_ble_eq_true rfl) (fun r_1317 => ?_)
  refine tz_cV (pc := 1318) ((tz_at (m1_common hl _ (zI J_1302) (fm_of (zOf.mono f_1302 zmid_of)) _ _ (z_rg _) (z_rg _)))) vl_L_144 dL_law_1318 o_164 rfl rfl (Nat.le_of_ble_eq_true rfl) ⟨(Nat.le_of_ble_eq_true rfl), (Nat.le_of_ble_eq_true rfl)⟩ rfl rfl (Nat.le_of_ble_eq_true rfl) (Nat.le_of_ble_eq_true rfl) (fun r9 J_1318 hq9 => ?_)
  obtain ⟨z_1318, rfl, hz_1318, hw_1318, ht_1318, g_1318⟩ := hq9
  refine tz_icmp_eqT (pc := 1321) (tgt := 1666) (hv_1302.trans hw_1318.symm) dL_law_1321 (by decide) hz_1302 hz_1318 ?_
  exact law_end none none (Nat.le_of_ble_eq_true rfl) (Nat.le_of_ble_eq_true rfl)

set_option maxHeartbeats 4000000 in
set_option maxRecDepth 100000 in
theorem law_normal {l : Launch} {G : tb_G} {xs : Nat → Int32} (hl : l.stackTraces = false) : tz_At l G M_L_law room_1 (some (6, xs)) tb_LZ 184 54325 184 (zj tb_I0) 1326 [some (.ref tb_sc), some (.ref 0), some (.ref 164), some (.ref 183), some (zi 0), none, none] [] := by
  refine tz_aload_n (pc := 1326) dL_law_1326 rfl rfl ?_
  refine tz_aload_n (pc := 1327) dL_law_1327 rfl rfl ?_
  refine tz_iload (pc := 1328) dL_law_1328 rfl ?_
  refine tz_iconst (pc := 1330) dL_law_1330 ?_
  refine tz_iadd (pc := 1331) (v := 1) dL_law_1331 (by decide) ?_
  refine tz_sld (pc := 1332) (z := 1) rfl dL_law_1332 (by decide) (Nat.le_of_ble_eq_true rfl) (fun r_1332 => ?_)
  refine tz_cV (pc := 1333) (cc_normal hl _ tb_I0 fr_0 _ (z_rg _)) vl_L_145 dL_law_1333 o_0 rfl rfl (Nat.le_of_ble_eq_true rfl) ⟨(Nat.le_of_ble_eq_true rfl), (Nat.le_of_ble_eq_true rfl)⟩ rfl rfl (Nat.le_of_ble_eq_true rfl) (Nat.le_of_ble_eq_true rfl) (fun r9 J_1333 hq9 => ?_)
  obtain ⟨z_1333, rfl, hz_1333, hv_1333, f_1333⟩ := hq9
  refine tz_aload_n (pc := 1336) dL_law_1336 rfl rfl ?_
  refine tz_aload_n (pc := 1337) dL_law_1337 rfl rfl ?_
  refine tz_iload (pc := 1338) dL_law_1338 rfl ?_
  refine tz_iconst (pc := 1340) dL_law_1340 ?_
  refine tz_iadd (pc := 1341) (v := 1) dL_law_1341 (by decide) ?_
  refine tz_sld (pc := 1342) (z := 1) rfl dL_law_1342 (by decide) (Nat.le_of_ble_eq_true rfl) (fun r_1342 => ?_)
  refine tz_cV (pc := 1343) ((tz_at (m1_normal hl _ (zI J_1333) (fm_of (zOf.mono f_1333 zmid_of)) _ (z_rg _)))) vl_L_148 dL_law_1343 o_164 rfl rfl (Nat.le_of_ble_eq_true rfl) ⟨(Nat.le_of_ble_eq_true rfl), (Nat.le_of_ble_eq_true rfl)⟩ rfl rfl (Nat.le_of_ble_eq_true rfl) (Nat.le_of_ble_eq_true rfl) (fun r9 J_1343 hq9 => ?_)
  obtain ⟨z_1343, rfl, hz_1343, hw_1343, ht_1343, g_1343⟩ := hq9
  refine tz_icmp_eqT (pc := 1346) (tgt := 1666) (hv_1333.trans hw_1343.symm) dL_law_1346 (by decide) hz_1333 hz_1343 ?_
  exact law_end none none (Nat.le_of_ble_eq_true rfl) (Nat.le_of_ble_eq_true rfl)

set_option maxHeartbeats 4000000 in
set_option maxRecDepth 100000 in
theorem law_put {l : Launch} {G : tb_G} {xs : Nat → Int32} (hl : l.stackTraces = false) : tz_At l G M_L_law room_1 (some (6, xs)) tb_LZ 184 54325 184 (zj tb_I0) 1351 [some (.ref tb_sc), some (.ref 0), some (.ref 164), some (.ref 183), some (zi 0), none, none] [] := by
  refine tz_aload_n (pc := 1351) dL_law_1351 rfl rfl ?_
  refine tz_aload_n (pc := 1352) dL_law_1352 rfl rfl ?_
  refine tz_iload (pc := 1353) dL_law_1353 rfl ?_
  refine tz_iconst (pc := 1355) dL_law_1355 ?_
  refine tz_iadd (pc := 1356) (v := 1) dL_law_1356 (by decide) ?_
  refine tz_sld (pc := 1357) (z := 1) rfl dL_law_1357 (by decide) (Nat.le_of_ble_eq_true rfl) (fun r_1357 => ?_)
  refine tz_aload_n (pc := 1358) dL_law_1358 rfl rfl ?_
  refine tz_iload (pc := 1359) dL_law_1359 rfl ?_
  refine tz_iconst (pc := 1361) dL_law_1361 ?_
  refine tz_iadd (pc := 1362) (v := 2) dL_law_1362 (by decide) ?_
  refine tz_sld (pc := 1363) (z := 2) rfl dL_law_1363 (by decide) (Nat.le_of_ble_eq_true rfl) (fun r_1363 => ?_)
  refine tz_aload_n (pc := 1364) dL_law_1364 rfl rfl ?_
  refine tz_iload (pc := 1365) dL_law_1365 rfl ?_
  refine tz_iconst (pc := 1367) dL_law_1367 ?_
  refine tz_iadd (pc := 1368) (v := 3) dL_law_1368 (by decide) ?_
  refine tz_sld (pc := 1369) (z := 3) rfl dL_law_1369 (by decide) (Nat.le_of_ble_eq_true rfl) (fun r_1369 => ?_)
  refine tz_cV (pc := 1370) (cc_put hl _ tb_I0 fr_0 _ _ _ (z_rg _) (z_rg _) (z_rg _)) vl_L_149 dL_law_1370 o_0 rfl rfl (Nat.le_of_ble_eq_true rfl) ⟨(Nat.le_of_ble_eq_true rfl), (Nat.le_of_ble_eq_true rfl)⟩ rfl rfl (Nat.le_of_ble_eq_true rfl) (Nat.le_of_ble_eq_true rfl) (fun r9 J_1370 hq9 => ?_)
  obtain ⟨z_1370, rfl, hz_1370, hv_1370, f_1370⟩ := hq9
  refine tz_aload_n (pc := 1373) dL_law_1373 rfl rfl ?_
  refine tz_aload_n (pc := 1374) dL_law_1374 rfl rfl ?_
  refine tz_iload (pc := 1375) dL_law_1375 rfl ?_
  refine tz_iconst (pc := 1377) dL_law_1377 ?_
  refine tz_iadd (pc := 1378) (v := 1) dL_law_1378 (by decide) ?_
  refine tz_sld (pc := 1379) (z := 1) rfl dL_law_1379 (by decide) (Nat.le_of_ble_eq_true rfl) (fun r_1379 => ?_)
  refine tz_aload_n (pc := 1380) dL_law_1380 rfl rfl ?_
  refine tz_iload (pc := 1381) dL_law_1381 rfl ?_
  refine tz_iconst (pc := 1383) dL_law_1383 ?_
  refine tz_iadd (pc := 1384) (v := 2) dL_law_1384 (by decide) ?_
  refine tz_sld (pc := 1385) (z := 2) rfl dL_law_1385 (by decide) (Nat.le_of_ble_eq_true rfl) (fun r_1385 => ?_)
  refine tz_aload_n (pc := 1386) dL_law_1386 rfl rfl ?_
  refine tz_iload (pc := 1387) dL_law_1387 rfl ?_
  refine tz_iconst (pc := 1389) dL_law_1389 ?_
  refine tz_iadd (pc := 1390) (v := 3) dL_law_1390 (by decide) ?_
  refine tz_sld (pc := 1391) (z := 3) rfl dL_law_1391 (by decide) (Nat.le_of_ble_eq_true rfl) (fun r_1391 => ?_)
  refine tz_cV (pc := 1392) ((tz_at (m1_put hl _ (zI J_1370) (fm_of (zOf.mono f_1370 zmid_of)) _ _ _ (z_rg _) (z_rg _) (z_rg _)))) vl_L_152 dL_law_1392 o_164 rfl rfl (Nat.le_of_ble_eq_true rfl) ⟨(Nat.le_of_ble_eq_true rfl), (Nat.le_of_ble_eq_true rfl)⟩ rfl rfl (Nat.le_of_ble_eq_true rfl) (Nat.le_of_ble_eq_true rfl) (fun r9 J_1392 hq9 => ?_)
  obtain ⟨z_1392, rfl, hz_1392, hw_1392, ht_1392, g_1392⟩ := hq9
  refine tz_icmp_eqT (pc := 1395) (tgt := 1666) (hv_1370.trans hw_1392.symm) dL_law_1395 (by decide) hz_1370 hz_1392 ?_
  exact law_end none none (Nat.le_of_ble_eq_true rfl) (Nat.le_of_ble_eq_true rfl)

set_option maxHeartbeats 4000000 in
set_option maxRecDepth 100000 in
theorem law_rules {l : Launch} {G : tb_G} {xs : Nat → Int32} (hl : l.stackTraces = false) : tz_At l G M_L_law room_1 (some (6, xs)) tb_LZ 184 54325 184 (zj tb_I0) 1400 [some (.ref tb_sc), some (.ref 0), some (.ref 164), some (.ref 183), some (zi 0), none, none] [] := by
  refine tz_aload_n (pc := 1400) dL_law_1400 rfl rfl ?_
  refine tz_aload_n (pc := 1401) dL_law_1401 rfl rfl ?_
  refine tz_iload (pc := 1402) dL_law_1402 rfl ?_
  refine tz_iconst (pc := 1404) dL_law_1404 ?_
  refine tz_iadd (pc := 1405) (v := 1) dL_law_1405 (by decide) ?_
  refine tz_sld (pc := 1406) (z := 1) rfl dL_law_1406 (by decide) (Nat.le_of_ble_eq_true rfl) (fun r_1406 => ?_)
  refine tz_aload_n (pc := 1407) dL_law_1407 rfl rfl ?_
  refine tz_iload (pc := 1408) dL_law_1408 rfl ?_
  refine tz_iconst (pc := 1410) dL_law_1410 ?_
  refine tz_iadd (pc := 1411) (v := 2) dL_law_1411 (by decide) ?_
  refine tz_sld (pc := 1412) (z := 2) rfl dL_law_1412 (by decide) (Nat.le_of_ble_eq_true rfl) (fun r_1412 => ?_)
  refine tz_cV (pc := 1413) (cc_rules hl _ tb_I0 fr_0 _ _ (z_rg _) (z_rg _)) vl_L_153 dL_law_1413 o_0 rfl rfl (Nat.le_of_ble_eq_true rfl) ⟨(Nat.le_of_ble_eq_true rfl), (Nat.le_of_ble_eq_true rfl)⟩ rfl rfl (Nat.le_of_ble_eq_true rfl) (Nat.le_of_ble_eq_true rfl) (fun r9 J_1413 hq9 => ?_)
  obtain ⟨z_1413, rfl, hz_1413, hv_1413, f_1413⟩ := hq9
  refine tz_aload_n (pc := 1416) dL_law_1416 rfl rfl ?_
  refine tz_aload_n (pc := 1417) dL_law_1417 rfl rfl ?_
  refine tz_iload (pc := 1418) dL_law_1418 rfl ?_
  refine tz_iconst (pc := 1420) dL_law_1420 ?_
  refine tz_iadd (pc := 1421) (v := 1) dL_law_1421 (by decide) ?_
  refine tz_sld (pc := 1422) (z := 1) rfl dL_law_1422 (by decide) (Nat.le_of_ble_eq_true rfl) (fun r_1422 => ?_)
  refine tz_aload_n (pc := 1423) dL_law_1423 rfl rfl ?_
  refine tz_iload (pc := 1424) dL_law_1424 rfl ?_
  refine tz_iconst (pc := 1426) dL_law_1426 ?_
  refine tz_iadd (pc := 1427) (v := 2) dL_law_1427 (by decide) ?_
  refine tz_sld (pc := 1428) (z := 2) rfl dL_law_1428 (by decide) (Nat.le_of_ble_eq_true rfl) (fun r_1428 => ?_)
  refine tz_cV (pc := 1429) ((tz_at (m1_rules hl _ (zI J_1413) (fm_of (zOf.mono f_1413 zmid_of)) _ _ (z_rg _) (z_rg _)))) vl_L_156 dL_law_1429 o_164 rfl rfl (Nat.le_of_ble_eq_true rfl) ⟨(Nat.le_of_ble_eq_true rfl), (Nat.le_of_ble_eq_true rfl)⟩ rfl rfl (Nat.le_of_ble_eq_true rfl) (Nat.le_of_ble_eq_true rfl) (fun r9 J_1429 hq9 => ?_)
  obtain ⟨z_1429, rfl, hz_1429, hw_1429, ht_1429, g_1429⟩ := hq9
  refine tz_icmp_eqT (pc := 1432) (tgt := 1666) (hv_1413.trans hw_1429.symm) dL_law_1432 (by decide) hz_1413 hz_1429 ?_
  exact law_end none none (Nat.le_of_ble_eq_true rfl) (Nat.le_of_ble_eq_true rfl)

set_option maxHeartbeats 4000000 in
set_option maxRecDepth 100000 in
theorem law_enter {l : Launch} {G : tb_G} {xs : Nat → Int32} (hl : l.stackTraces = false) : tz_At l G M_L_law room_1 (some (6, xs)) tb_LZ 184 54325 184 (zj tb_I0) 1437 [some (.ref tb_sc), some (.ref 0), some (.ref 164), some (.ref 183), some (zi 0), none, none] [] := by
  refine tz_aload_n (pc := 1437) dL_law_1437 rfl rfl ?_
  refine tz_aload_n (pc := 1438) dL_law_1438 rfl rfl ?_
  refine tz_iload (pc := 1439) dL_law_1439 rfl ?_
  refine tz_iconst (pc := 1441) dL_law_1441 ?_
  refine tz_iadd (pc := 1442) (v := 1) dL_law_1442 (by decide) ?_
  refine tz_sld (pc := 1443) (z := 1) rfl dL_law_1443 (by decide) (Nat.le_of_ble_eq_true rfl) (fun r_1443 => ?_)
  refine tz_cV (pc := 1444) (cc_enter hl _ tb_I0 fr_0 _ (z_rg _)) vl_L_157 dL_law_1444 o_0 rfl rfl (Nat.le_of_ble_eq_true rfl) ⟨(Nat.le_of_ble_eq_true rfl), (Nat.le_of_ble_eq_true rfl)⟩ rfl rfl (Nat.le_of_ble_eq_true rfl) (Nat.le_of_ble_eq_true rfl) (fun r9 J_1444 hq9 => ?_)
  obtain ⟨z_1444, rfl, hz_1444, hv_1444, f_1444⟩ := hq9
  refine tz_aload_n (pc := 1447) dL_law_1447 rfl rfl ?_
  refine tz_aload_n (pc := 1448) dL_law_1448 rfl rfl ?_
  refine tz_iload (pc := 1449) dL_law_1449 rfl ?_
  refine tz_iconst (pc := 1451) dL_law_1451 ?_
  refine tz_iadd (pc := 1452) (v := 1) dL_law_1452 (by decide) ?_
  refine tz_sld (pc := 1453) (z := 1) rfl dL_law_1453 (by decide) (Nat.le_of_ble_eq_true rfl) (fun r_1453 => ?_)
  refine tz_cV (pc := 1454) ((tz_at (m1_enter hl _ (zI J_1444) (fm_of (zOf.mono f_1444 zmid_of)) _ (z_rg _)))) vl_L_160 dL_law_1454 o_164 rfl rfl (Nat.le_of_ble_eq_true rfl) ⟨(Nat.le_of_ble_eq_true rfl), (Nat.le_of_ble_eq_true rfl)⟩ rfl rfl (Nat.le_of_ble_eq_true rfl) (Nat.le_of_ble_eq_true rfl) (fun r9 J_1454 hq9 => ?_)
  obtain ⟨z_1454, rfl, hz_1454, hw_1454, ht_1454, g_1454⟩ := hq9
  refine tz_icmp_eqT (pc := 1457) (tgt := 1666) (hv_1444.trans hw_1454.symm) dL_law_1457 (by decide) hz_1444 hz_1454 ?_
  exact law_end none none (Nat.le_of_ble_eq_true rfl) (Nat.le_of_ble_eq_true rfl)

set_option maxHeartbeats 4000000 in
set_option maxRecDepth 100000 in
theorem law_leave {l : Launch} {G : tb_G} {xs : Nat → Int32} (hl : l.stackTraces = false) : tz_At l G M_L_law room_1 (some (6, xs)) tb_LZ 184 54325 184 (zj tb_I0) 1462 [some (.ref tb_sc), some (.ref 0), some (.ref 164), some (.ref 183), some (zi 0), none, none] [] := by
  refine tz_aload_n (pc := 1462) dL_law_1462 rfl rfl ?_
  refine tz_aload_n (pc := 1463) dL_law_1463 rfl rfl ?_
  refine tz_iload (pc := 1464) dL_law_1464 rfl ?_
  refine tz_iconst (pc := 1466) dL_law_1466 ?_
  refine tz_iadd (pc := 1467) (v := 1) dL_law_1467 (by decide) ?_
  refine tz_sld (pc := 1468) (z := 1) rfl dL_law_1468 (by decide) (Nat.le_of_ble_eq_true rfl) (fun r_1468 => ?_)
  refine tz_cV (pc := 1469) (cc_leave hl _ tb_I0 fr_0 _ (z_rg _)) vl_L_161 dL_law_1469 o_0 rfl rfl (Nat.le_of_ble_eq_true rfl) ⟨(Nat.le_of_ble_eq_true rfl), (Nat.le_of_ble_eq_true rfl)⟩ rfl rfl (Nat.le_of_ble_eq_true rfl) (Nat.le_of_ble_eq_true rfl) (fun r9 J_1469 hq9 => ?_)
  obtain ⟨z_1469, rfl, hz_1469, hv_1469, f_1469⟩ := hq9
  refine tz_aload_n (pc := 1472) dL_law_1472 rfl rfl ?_
  refine tz_aload_n (pc := 1473) dL_law_1473 rfl rfl ?_
  refine tz_iload (pc := 1474) dL_law_1474 rfl ?_
  refine tz_iconst (pc := 1476) dL_law_1476 ?_
  refine tz_iadd (pc := 1477) (v := 1) dL_law_1477 (by decide) ?_
  refine tz_sld (pc := 1478) (z := 1) rfl dL_law_1478 (by decide) (Nat.le_of_ble_eq_true rfl) (fun r_1478 => ?_)
  refine tz_cV (pc := 1479) ((tz_at (m1_leave hl _ (zI J_1469) (fm_of (zOf.mono f_1469 zmid_of)) _ (z_rg _)))) vl_L_164 dL_law_1479 o_164 rfl rfl (Nat.le_of_ble_eq_true rfl) ⟨(Nat.le_of_ble_eq_true rfl), (Nat.le_of_ble_eq_true rfl)⟩ rfl rfl (Nat.le_of_ble_eq_true rfl) (Nat.le_of_ble_eq_true rfl) (fun r9 J_1479 hq9 => ?_)
  obtain ⟨z_1479, rfl, hz_1479, hw_1479, ht_1479, g_1479⟩ := hq9
  refine tz_icmp_eqT (pc := 1482) (tgt := 1666) (hv_1469.trans hw_1479.symm) dL_law_1482 (by decide) hz_1469 hz_1479 ?_
  exact law_end none none (Nat.le_of_ble_eq_true rfl) (Nat.le_of_ble_eq_true rfl)

set_option maxHeartbeats 4000000 in
set_option maxRecDepth 100000 in
theorem law_room {l : Launch} {G : tb_G} {xs : Nat → Int32} (hl : l.stackTraces = false) : tz_At l G M_L_law room_1 (some (6, xs)) tb_LZ 184 54325 184 (zj tb_I0) 1487 [some (.ref tb_sc), some (.ref 0), some (.ref 164), some (.ref 183), some (zi 0), none, none] [] := by
  refine tz_aload_n (pc := 1487) dL_law_1487 rfl rfl ?_
  refine tz_aload_n (pc := 1488) dL_law_1488 rfl rfl ?_
  refine tz_iload (pc := 1489) dL_law_1489 rfl ?_
  refine tz_iconst (pc := 1491) dL_law_1491 ?_
  refine tz_iadd (pc := 1492) (v := 1) dL_law_1492 (by decide) ?_
  refine tz_sld (pc := 1493) (z := 1) rfl dL_law_1493 (by decide) (Nat.le_of_ble_eq_true rfl) (fun r_1493 => ?_)
  refine tz_cV (pc := 1494) (c1_room hl _ tb_I0 fr_0 _ (z_rg _)) vl_L_165 dL_law_1494 o_0 rfl rfl (Nat.le_of_ble_eq_true rfl) ⟨(Nat.le_of_ble_eq_true rfl), (Nat.le_of_ble_eq_true rfl)⟩ rfl rfl (Nat.le_of_ble_eq_true rfl) (Nat.le_of_ble_eq_true rfl) (fun r9 J_1494 hq9 => ?_)
  obtain ⟨z_1494, rfl, hz_1494, hv_1494, f_1494⟩ := hq9
  refine tz_aload_n (pc := 1497) dL_law_1497 rfl rfl ?_
  refine tz_aload_n (pc := 1498) dL_law_1498 rfl rfl ?_
  refine tz_iload (pc := 1499) dL_law_1499 rfl ?_
  refine tz_iconst (pc := 1501) dL_law_1501 ?_
  refine tz_iadd (pc := 1502) (v := 1) dL_law_1502 (by decide) ?_
  refine tz_sld (pc := 1503) (z := 1) rfl dL_law_1503 (by decide) (Nat.le_of_ble_eq_true rfl) (fun r_1503 => ?_)
  refine tz_cV (pc := 1504) ((tz_at (m1_room hl _ (zI J_1494) (fm_of (zOf.mono f_1494 zmid_of)) _ (z_rg _)))) vl_L_168 dL_law_1504 o_164 rfl rfl (Nat.le_of_ble_eq_true rfl) ⟨(Nat.le_of_ble_eq_true rfl), (Nat.le_of_ble_eq_true rfl)⟩ rfl rfl (Nat.le_of_ble_eq_true rfl) (Nat.le_of_ble_eq_true rfl) (fun r9 J_1504 hq9 => ?_)
  obtain ⟨z_1504, rfl, hz_1504, hw_1504, ht_1504, g_1504⟩ := hq9
  refine tz_icmp_eqT (pc := 1507) (tgt := 1666) (hv_1494.trans hw_1504.symm) dL_law_1507 (by decide) hz_1494 hz_1504 ?_
  exact law_end none none (Nat.le_of_ble_eq_true rfl) (Nat.le_of_ble_eq_true rfl)

set_option maxHeartbeats 4000000 in
set_option maxRecDepth 100000 in
theorem law_draw {l : Launch} {G : tb_G} {xs : Nat → Int32} (hl : l.stackTraces = false) : tz_At l G M_L_law room_1 (some (6, xs)) tb_LZ 184 54325 184 (zj tb_I0) 1512 [some (.ref tb_sc), some (.ref 0), some (.ref 164), some (.ref 183), some (zi 0), none, none] [] := by
  refine tz_aload_n (pc := 1512) dL_law_1512 rfl rfl ?_
  refine tz_aload_n (pc := 1513) dL_law_1513 rfl rfl ?_
  refine tz_iload (pc := 1514) dL_law_1514 rfl ?_
  refine tz_iconst (pc := 1516) dL_law_1516 ?_
  refine tz_iadd (pc := 1517) (v := 1) dL_law_1517 (by decide) ?_
  refine tz_sld (pc := 1518) (z := 1) rfl dL_law_1518 (by decide) (Nat.le_of_ble_eq_true rfl) (fun r_1518 => ?_)
  refine tz_aload_n (pc := 1519) dL_law_1519 rfl rfl ?_
  refine tz_iload (pc := 1520) dL_law_1520 rfl ?_
  refine tz_iconst (pc := 1522) dL_law_1522 ?_
  refine tz_iadd (pc := 1523) (v := 2) dL_law_1523 (by decide) ?_
  refine tz_sld (pc := 1524) (z := 2) rfl dL_law_1524 (by decide) (Nat.le_of_ble_eq_true rfl) (fun r_1524 => ?_)
  refine tz_cV (pc := 1525) (c1_draw hl _ tb_I0 fr_0 _ _ (z_rg _) (z_rg _)) vl_L_169 dL_law_1525 o_0 rfl rfl (Nat.le_of_ble_eq_true rfl) ⟨(Nat.le_of_ble_eq_true rfl), (Nat.le_of_ble_eq_true rfl)⟩ rfl rfl (Nat.le_of_ble_eq_true rfl) (Nat.le_of_ble_eq_true rfl) (fun r9 J_1525 hq9 => ?_)
  obtain ⟨z_1525, rfl, hz_1525, hv_1525, f_1525⟩ := hq9
  refine tz_aload_n (pc := 1528) dL_law_1528 rfl rfl ?_
  refine tz_aload_n (pc := 1529) dL_law_1529 rfl rfl ?_
  refine tz_iload (pc := 1530) dL_law_1530 rfl ?_
  refine tz_iconst (pc := 1532) dL_law_1532 ?_
  refine tz_iadd (pc := 1533) (v := 1) dL_law_1533 (by decide) ?_
  refine tz_sld (pc := 1534) (z := 1) rfl dL_law_1534 (by decide) (Nat.le_of_ble_eq_true rfl) (fun r_1534 => ?_)
  refine tz_aload_n (pc := 1535) dL_law_1535 rfl rfl ?_
  refine tz_iload (pc := 1536) dL_law_1536 rfl ?_
  refine tz_iconst (pc := 1538) dL_law_1538 ?_
  refine tz_iadd (pc := 1539) (v := 2) dL_law_1539 (by decide) ?_
  refine tz_sld (pc := 1540) (z := 2) rfl dL_law_1540 (by decide) (Nat.le_of_ble_eq_true rfl) (fun r_1540 => ?_)
  refine tz_cV (pc := 1541) ((tz_at (m1_draw hl _ (zI J_1525) (fm_of (zOf.mono f_1525 zmid_of)) _ _ (z_rg _) (z_rg _)))) vl_L_172 dL_law_1541 o_164 rfl rfl (Nat.le_of_ble_eq_true rfl) ⟨(Nat.le_of_ble_eq_true rfl), (Nat.le_of_ble_eq_true rfl)⟩ rfl rfl (Nat.le_of_ble_eq_true rfl) (Nat.le_of_ble_eq_true rfl) (fun r9 J_1541 hq9 => ?_)
  obtain ⟨z_1541, rfl, hz_1541, hw_1541, ht_1541, g_1541⟩ := hq9
  refine tz_icmp_eqT (pc := 1544) (tgt := 1666) (hv_1525.trans hw_1541.symm) dL_law_1544 (by decide) hz_1525 hz_1541 ?_
  exact law_end none none (Nat.le_of_ble_eq_true rfl) (Nat.le_of_ble_eq_true rfl)

set_option maxHeartbeats 4000000 in
set_option maxRecDepth 100000 in
theorem law_undo {l : Launch} {G : tb_G} {xs : Nat → Int32} (hl : l.stackTraces = false) : tz_At l G M_L_law room_1 (some (6, xs)) tb_LZ 184 54325 184 (zj tb_I0) 1549 [some (.ref tb_sc), some (.ref 0), some (.ref 164), some (.ref 183), some (zi 0), none, none] [] := by
  refine tz_aload_n (pc := 1549) dL_law_1549 rfl rfl ?_
  refine tz_cV (pc := 1550) (cc_undo hl _ tb_I0 fr_0  ) vl_L_173 dL_law_1550 o_0 rfl rfl (Nat.le_of_ble_eq_true rfl) ⟨(Nat.le_of_ble_eq_true rfl), (Nat.le_of_ble_eq_true rfl)⟩ rfl rfl (Nat.le_of_ble_eq_true rfl) (Nat.le_of_ble_eq_true rfl) (fun r9 J_1550 hq9 => ?_)
  obtain ⟨z_1550, rfl, hz_1550, hv_1550, f_1550⟩ := hq9
  refine tz_aload_n (pc := 1553) dL_law_1553 rfl rfl ?_
  refine tz_cV (pc := 1554) ((tz_at (m1_undo hl _ (zI J_1550) (fm_of (zOf.mono f_1550 zmid_of))  ))) vl_L_176 dL_law_1554 o_164 rfl rfl (Nat.le_of_ble_eq_true rfl) ⟨(Nat.le_of_ble_eq_true rfl), (Nat.le_of_ble_eq_true rfl)⟩ rfl rfl (Nat.le_of_ble_eq_true rfl) (Nat.le_of_ble_eq_true rfl) (fun r9 J_1554 hq9 => ?_)
  obtain ⟨z_1554, rfl, hz_1554, hw_1554, ht_1554, g_1554⟩ := hq9
  refine tz_icmp_eqT (pc := 1557) (tgt := 1666) (hv_1550.trans hw_1554.symm) dL_law_1557 (by decide) hz_1550 hz_1554 ?_
  exact law_end none none (Nat.le_of_ble_eq_true rfl) (Nat.le_of_ble_eq_true rfl)

set_option maxHeartbeats 4000000 in
set_option maxRecDepth 100000 in
theorem law_years {l : Launch} {G : tb_G} {xs : Nat → Int32} (hl : l.stackTraces = false) : tz_At l G M_L_law room_1 (some (6, xs)) tb_LZ 184 54325 184 (zj tb_I0) 1562 [some (.ref tb_sc), some (.ref 0), some (.ref 164), some (.ref 183), some (zi 0), none, none] [] := by
  refine tz_aload_n (pc := 1562) dL_law_1562 rfl rfl ?_
  refine tz_aload_n (pc := 1563) dL_law_1563 rfl rfl ?_
  refine tz_iload (pc := 1564) dL_law_1564 rfl ?_
  refine tz_iconst (pc := 1566) dL_law_1566 ?_
  refine tz_iadd (pc := 1567) (v := 1) dL_law_1567 (by decide) ?_
  refine tz_sld (pc := 1568) (z := 1) rfl dL_law_1568 (by decide) (Nat.le_of_ble_eq_true rfl) (fun r_1568 => ?_)
  refine tz_aload_n (pc := 1569) dL_law_1569 rfl rfl ?_
  refine tz_iload (pc := 1570) dL_law_1570 rfl ?_
  refine tz_iconst (pc := 1572) dL_law_1572 ?_
  refine tz_iadd (pc := 1573) (v := 2) dL_law_1573 (by decide) ?_
  refine tz_sld (pc := 1574) (z := 2) rfl dL_law_1574 (by decide) (Nat.le_of_ble_eq_true rfl) (fun r_1574 => ?_)
  refine tz_aload_n (pc := 1575) dL_law_1575 rfl rfl ?_
  refine tz_iload (pc := 1576) dL_law_1576 rfl ?_
  refine tz_iconst (pc := 1578) dL_law_1578 ?_
  refine tz_iadd (pc := 1579) (v := 3) dL_law_1579 (by decide) ?_
  refine tz_sld (pc := 1580) (z := 3) rfl dL_law_1580 (by decide) (Nat.le_of_ble_eq_true rfl) (fun r_1580 => ?_)
  refine tz_aload_n (pc := 1581) dL_law_1581 rfl rfl ?_
  refine tz_cH (pc := 1582) (nA := 5) (cw_years hl _ tb_I0 fr_0 _ _ _ (z_rg _) (z_rg _) (z_rg _)) ml_L_177 ms_L_years ch_L_years wk_ini_L (by decide +kernel) dL_law_1582 rfl rfl (Nat.le_of_ble_eq_true rfl) ⟨(Nat.le_of_ble_eq_true rfl), (Nat.le_of_ble_eq_true rfl)⟩ rfl rfl (Nat.le_of_ble_eq_true rfl) (Nat.le_of_ble_eq_true rfl) (fun r9 n_1582 J_1582 hn1_1582 hn2_1582 hq9 => ?_)
  obtain ⟨z_1582, rfl, hz_1582, hv_1582, f_1582⟩ := hq9
  rcases hv_1582 with ⟨hc8, hc9, rfl, ho9⟩ | ⟨hc9, rfl⟩ | ⟨hc8, hc9, rfl⟩
  · refine tz_istore (pc := 1585) (L2 := [_, _, _, _, _, _, _]) dL_law_1585 (by decide) rfl ?_
    refine tz_aload_n (pc := 1587) dL_law_1587 rfl rfl ?_
    refine tz_aload_n (pc := 1588) dL_law_1588 rfl rfl ?_
    refine tz_iload (pc := 1589) dL_law_1589 rfl ?_
    refine tz_iconst (pc := 1591) dL_law_1591 ?_
    refine tz_iadd (pc := 1592) (v := 1) dL_law_1592 (by decide) ?_
    refine tz_sld (pc := 1593) (z := 1) rfl dL_law_1593 (by decide) (Nat.le_of_ble_eq_true rfl) (fun r_1593 => ?_)
    refine tz_aload_n (pc := 1594) dL_law_1594 rfl rfl ?_
    refine tz_iload (pc := 1595) dL_law_1595 rfl ?_
    refine tz_iconst (pc := 1597) dL_law_1597 ?_
    refine tz_iadd (pc := 1598) (v := 2) dL_law_1598 (by decide) ?_
    refine tz_sld (pc := 1599) (z := 2) rfl dL_law_1599 (by decide) (Nat.le_of_ble_eq_true rfl) (fun r_1599 => ?_)
    refine tz_aload_n (pc := 1600) dL_law_1600 rfl rfl ?_
    refine tz_iload (pc := 1601) dL_law_1601 rfl ?_
    refine tz_iconst (pc := 1603) dL_law_1603 ?_
    refine tz_iadd (pc := 1604) (v := 3) dL_law_1604 (by decide) ?_
    refine tz_sld (pc := 1605) (z := 3) rfl dL_law_1605 (by decide) (Nat.le_of_ble_eq_true rfl) (fun r_1605 => ?_)
    refine tz_cV (pc := 1606) ((tz_at (m1_years hl _ (zI J_1582) (fm_of f_1582) _ _ _ (z_rg _) (z_rg _) (z_rg _)))) vl_L_180 dL_law_1606 o_164 rfl rfl (Nat.le_of_ble_eq_true rfl) ⟨(Nat.le_of_ble_eq_true rfl), (Nat.le_of_ble_eq_true rfl)⟩ rfl rfl (Nat.le_of_ble_eq_true rfl) (Nat.le_of_ble_eq_true rfl) (fun r9 J_1606 hq9 => ?_)
    obtain ⟨z_1606, rfl, hz_1606, hw_1606, ht_1606, g_1606⟩ := hq9
    refine tz_istore (pc := 1609) (L2 := [_, _, _, _, _, _, _]) dL_law_1609 (by decide) rfl ?_
    refine tz_aload_n (pc := 1611) dL_law_1611 rfl rfl ?_
    rw [if_pos hc8, if_pos hc9] at ht_1606
    refine tz_cV (pc := 1612) (zm_thrown hl _ _) vl_L_70 dL_law_1612 o_164 rfl rfl (Nat.le_of_ble_eq_true rfl) ⟨(Nat.le_of_ble_eq_true rfl), (Nat.le_of_ble_eq_true rfl)⟩ rfl rfl (Nat.le_of_ble_eq_true rfl) (Nat.le_of_ble_eq_true rfl) (fun r9 J_1612 hq9 => ?_)
    obtain ⟨z_1612, rfl, hz_1612, rfl, hv_1612⟩ := hq9
    obtain rfl : 0 = z_1612 := by rw [← hv_1612]; exact ht_1606.symm
    refine tz_iload (pc := 1615) dL_law_1615 rfl ?_
    refine tz_icmp_eqT (pc := 1617) (tgt := 1622) (by decide) dL_law_1617 (by decide) (by decide) (by decide) ?_
    refine tz_iload (pc := 1622) dL_law_1622 rfl ?_
    refine tz_if_neF (pc := 1624) (tgt := 1639) (by decide) dL_law_1624 (by decide) (by decide) ?_
    refine tz_aload_n (pc := 1627) dL_law_1627 rfl rfl ?_
    refine tz_iconst (pc := 1628) dL_law_1628 ?_
    refine tz_lald (pc := 1629) (z := 0) (v := _) dL_law_1629 l_183 rfl (by decide) (Eq.trans (congrFun g_1606 0) (zj_zI0 ho9 (by first | decide | ((repeat' split) <;> omega)))) (fun r_1629 => ?_)
    refine tz_iload (pc := 1630) dL_law_1630 rfl ?_
    refine tz_i2l (pc := 1632) dL_law_1632 ?_
    refine tz_lcmp (pc := 1633) (v := 0) dL_law_1633 r_1629 hz_1606 (by rw [hw_1606]; first | (simp; done) | (rw [if_pos hc9]; simp; done)) ?_
    refine tz_if_eqT (pc := 1634) (tgt := 1639) (by decide) dL_law_1634 (by decide) (by decide) ?_
    refine tz_goto (pc := 1639) (tgt := 1666) dL_law_1639 (by decide) ?_
    exact law_end (some (zi 0)) (some (zi z_1606)) (Nat.le_of_ble_eq_true rfl) (Nat.le_of_ble_eq_true rfl)
  · refine tz_istore (pc := 1585) (L2 := [_, _, _, _, _, _, _]) dL_law_1585 (by decide) rfl ?_
    refine tz_aload_n (pc := 1587) dL_law_1587 rfl rfl ?_
    refine tz_aload_n (pc := 1588) dL_law_1588 rfl rfl ?_
    refine tz_iload (pc := 1589) dL_law_1589 rfl ?_
    refine tz_iconst (pc := 1591) dL_law_1591 ?_
    refine tz_iadd (pc := 1592) (v := 1) dL_law_1592 (by decide) ?_
    refine tz_sld (pc := 1593) (z := 1) rfl dL_law_1593 (by decide) (Nat.le_of_ble_eq_true rfl) (fun r_1593 => ?_)
    refine tz_aload_n (pc := 1594) dL_law_1594 rfl rfl ?_
    refine tz_iload (pc := 1595) dL_law_1595 rfl ?_
    refine tz_iconst (pc := 1597) dL_law_1597 ?_
    refine tz_iadd (pc := 1598) (v := 2) dL_law_1598 (by decide) ?_
    refine tz_sld (pc := 1599) (z := 2) rfl dL_law_1599 (by decide) (Nat.le_of_ble_eq_true rfl) (fun r_1599 => ?_)
    refine tz_aload_n (pc := 1600) dL_law_1600 rfl rfl ?_
    refine tz_iload (pc := 1601) dL_law_1601 rfl ?_
    refine tz_iconst (pc := 1603) dL_law_1603 ?_
    refine tz_iadd (pc := 1604) (v := 3) dL_law_1604 (by decide) ?_
    refine tz_sld (pc := 1605) (z := 3) rfl dL_law_1605 (by decide) (Nat.le_of_ble_eq_true rfl) (fun r_1605 => ?_)
    refine tz_cV (pc := 1606) ((tz_at (m1_years hl _ (zI J_1582) (fm_of f_1582) _ _ _ (z_rg _) (z_rg _) (z_rg _)))) vl_L_180 dL_law_1606 o_164 rfl rfl (Nat.le_of_ble_eq_true rfl) ⟨(Nat.le_of_ble_eq_true rfl), (Nat.le_of_ble_eq_true rfl)⟩ rfl rfl (Nat.le_of_ble_eq_true rfl) (Nat.le_of_ble_eq_true rfl) (fun r9 J_1606 hq9 => ?_)
    obtain ⟨z_1606, rfl, hz_1606, hw_1606, ht_1606, g_1606⟩ := hq9
    refine tz_istore (pc := 1609) (L2 := [_, _, _, _, _, _, _]) dL_law_1609 (by decide) rfl ?_
    refine tz_aload_n (pc := 1611) dL_law_1611 rfl rfl ?_
    rw [if_neg hc9] at ht_1606
    refine tz_cV (pc := 1612) (zm_thrown hl _ _) vl_L_70 dL_law_1612 o_164 rfl rfl (Nat.le_of_ble_eq_true rfl) ⟨(Nat.le_of_ble_eq_true rfl), (Nat.le_of_ble_eq_true rfl)⟩ rfl rfl (Nat.le_of_ble_eq_true rfl) (Nat.le_of_ble_eq_true rfl) (fun r9 J_1612 hq9 => ?_)
    obtain ⟨z_1612, rfl, hz_1612, rfl, hv_1612⟩ := hq9
    obtain rfl : 1 = z_1612 := by rw [← hv_1612]; exact ht_1606.symm
    refine tz_iload (pc := 1615) dL_law_1615 rfl ?_
    refine tz_icmp_eqT (pc := 1617) (tgt := 1622) (by decide) dL_law_1617 (by decide) (by decide) (by decide) ?_
    refine tz_iload (pc := 1622) dL_law_1622 rfl ?_
    refine tz_if_neT (pc := 1624) (tgt := 1639) (by decide) dL_law_1624 (by decide) (by decide) ?_
    refine tz_goto (pc := 1639) (tgt := 1666) dL_law_1639 (by decide) ?_
    exact law_end (some (zi 1)) (some (zi z_1606)) (Nat.le_of_ble_eq_true rfl) (Nat.le_of_ble_eq_true rfl)
  · refine tz_istore (pc := 1585) (L2 := [_, _, _, _, _, _, _]) dL_law_1585 (by decide) rfl ?_
    refine tz_aload_n (pc := 1587) dL_law_1587 rfl rfl ?_
    refine tz_aload_n (pc := 1588) dL_law_1588 rfl rfl ?_
    refine tz_iload (pc := 1589) dL_law_1589 rfl ?_
    refine tz_iconst (pc := 1591) dL_law_1591 ?_
    refine tz_iadd (pc := 1592) (v := 1) dL_law_1592 (by decide) ?_
    refine tz_sld (pc := 1593) (z := 1) rfl dL_law_1593 (by decide) (Nat.le_of_ble_eq_true rfl) (fun r_1593 => ?_)
    refine tz_aload_n (pc := 1594) dL_law_1594 rfl rfl ?_
    refine tz_iload (pc := 1595) dL_law_1595 rfl ?_
    refine tz_iconst (pc := 1597) dL_law_1597 ?_
    refine tz_iadd (pc := 1598) (v := 2) dL_law_1598 (by decide) ?_
    refine tz_sld (pc := 1599) (z := 2) rfl dL_law_1599 (by decide) (Nat.le_of_ble_eq_true rfl) (fun r_1599 => ?_)
    refine tz_aload_n (pc := 1600) dL_law_1600 rfl rfl ?_
    refine tz_iload (pc := 1601) dL_law_1601 rfl ?_
    refine tz_iconst (pc := 1603) dL_law_1603 ?_
    refine tz_iadd (pc := 1604) (v := 3) dL_law_1604 (by decide) ?_
    refine tz_sld (pc := 1605) (z := 3) rfl dL_law_1605 (by decide) (Nat.le_of_ble_eq_true rfl) (fun r_1605 => ?_)
    refine tz_cV (pc := 1606) ((tz_at (m1_years hl _ (zI J_1582) (fm_of f_1582) _ _ _ (z_rg _) (z_rg _) (z_rg _)))) vl_L_180 dL_law_1606 o_164 rfl rfl (Nat.le_of_ble_eq_true rfl) ⟨(Nat.le_of_ble_eq_true rfl), (Nat.le_of_ble_eq_true rfl)⟩ rfl rfl (Nat.le_of_ble_eq_true rfl) (Nat.le_of_ble_eq_true rfl) (fun r9 J_1606 hq9 => ?_)
    obtain ⟨z_1606, rfl, hz_1606, hw_1606, ht_1606, g_1606⟩ := hq9
    refine tz_istore (pc := 1609) (L2 := [_, _, _, _, _, _, _]) dL_law_1609 (by decide) rfl ?_
    refine tz_aload_n (pc := 1611) dL_law_1611 rfl rfl ?_
    rw [if_pos hc8, if_neg hc9] at ht_1606
    refine tz_cV (pc := 1612) (zm_thrown hl _ _) vl_L_70 dL_law_1612 o_164 rfl rfl (Nat.le_of_ble_eq_true rfl) ⟨(Nat.le_of_ble_eq_true rfl), (Nat.le_of_ble_eq_true rfl)⟩ rfl rfl (Nat.le_of_ble_eq_true rfl) (Nat.le_of_ble_eq_true rfl) (fun r9 J_1612 hq9 => ?_)
    obtain ⟨z_1612, rfl, hz_1612, rfl, hv_1612⟩ := hq9
    obtain rfl : 2 = z_1612 := by rw [← hv_1612]; exact ht_1606.symm
    refine tz_iload (pc := 1615) dL_law_1615 rfl ?_
    refine tz_icmp_eqT (pc := 1617) (tgt := 1622) (by decide) dL_law_1617 (by decide) (by decide) (by decide) ?_
    refine tz_iload (pc := 1622) dL_law_1622 rfl ?_
    refine tz_if_neT (pc := 1624) (tgt := 1639) (by decide) dL_law_1624 (by decide) (by decide) ?_
    refine tz_goto (pc := 1639) (tgt := 1666) dL_law_1639 (by decide) ?_
    exact law_end (some (zi 2)) (some (zi z_1606)) (Nat.le_of_ble_eq_true rfl) (Nat.le_of_ble_eq_true rfl)

set_option maxHeartbeats 4000000 in
set_option maxRecDepth 100000 in
theorem law_image {l : Launch} {G : tb_G} {xs : Nat → Int32} (hl : l.stackTraces = false) : tz_At l G M_L_law room_1 (some (6, xs)) tb_LZ 184 54325 184 (zj tb_I0) 1642 [some (.ref tb_sc), some (.ref 0), some (.ref 164), some (.ref 183), some (zi 0), none, none] [] := by
  refine tz_aload_n (pc := 1642) dL_law_1642 rfl rfl ?_
  refine tz_cV (pc := 1643) (c1_image hl _ tb_I0 fr_0  ) vl_L_181 dL_law_1643 o_0 rfl rfl (Nat.le_of_ble_eq_true rfl) ⟨(Nat.le_of_ble_eq_true rfl), (Nat.le_of_ble_eq_true rfl)⟩ rfl rfl (Nat.le_of_ble_eq_true rfl) (Nat.le_of_ble_eq_true rfl) (fun r9 J_1643 hq9 => ?_)
  obtain ⟨rfl, f_1643⟩ := hq9
  refine tz_aload_n (pc := 1646) dL_law_1646 rfl rfl ?_
  refine tz_cV (pc := 1647) ((tz_at (m1_image hl _ (zI J_1643) (fm_of (zOf.mono f_1643 zmid_of))))) vl_L_184 dL_law_1647 o_164 rfl rfl (Nat.le_of_ble_eq_true rfl) ⟨(Nat.le_of_ble_eq_true rfl), (Nat.le_of_ble_eq_true rfl)⟩ rfl rfl (Nat.le_of_ble_eq_true rfl) (Nat.le_of_ble_eq_true rfl) (fun r9 J_1647 hq9 => ?_)
  obtain ⟨rfl, -, -⟩ := hq9
  refine tz_goto (pc := 1650) (tgt := 1666) dL_law_1650 (by decide) ?_
  exact law_end none none (Nat.le_of_ble_eq_true rfl) (Nat.le_of_ble_eq_true rfl)

set_option maxHeartbeats 4000000 in
set_option maxRecDepth 100000 in
theorem law_restore {l : Launch} {G : tb_G} {xs : Nat → Int32} (hl : l.stackTraces = false) : tz_At l G M_L_law room_1 (some (6, xs)) tb_LZ 184 54325 184 (zj tb_I0) 1653 [some (.ref tb_sc), some (.ref 0), some (.ref 164), some (.ref 183), some (zi 0), none, none] [] := by
  refine tz_aload_n (pc := 1653) dL_law_1653 rfl rfl ?_
  refine tz_cV (pc := 1654) (cc_restore hl _ tb_I0 fr_0  ) vl_L_185 dL_law_1654 o_0 rfl rfl (Nat.le_of_ble_eq_true rfl) ⟨(Nat.le_of_ble_eq_true rfl), (Nat.le_of_ble_eq_true rfl)⟩ rfl rfl (Nat.le_of_ble_eq_true rfl) (Nat.le_of_ble_eq_true rfl) (fun r9 J_1654 hq9 => ?_)
  obtain ⟨z_1654, rfl, hz_1654, hv_1654, f_1654⟩ := hq9
  refine tz_aload_n (pc := 1657) dL_law_1657 rfl rfl ?_
  refine tz_cV (pc := 1658) ((tz_at (m1_restore hl _ (zI J_1654) (fm_of (zOf.mono f_1654 zmid_of))  ))) vl_L_189 dL_law_1658 o_164 rfl rfl (Nat.le_of_ble_eq_true rfl) ⟨(Nat.le_of_ble_eq_true rfl), (Nat.le_of_ble_eq_true rfl)⟩ rfl rfl (Nat.le_of_ble_eq_true rfl) (Nat.le_of_ble_eq_true rfl) (fun r9 J_1658 hq9 => ?_)
  obtain ⟨z_1658, rfl, hz_1658, hw_1658, ht_1658, g_1658⟩ := hq9
  refine tz_icmp_eqT (pc := 1661) (tgt := 1666) (hv_1654.trans hw_1658.symm) dL_law_1661 (by decide) hz_1654 hz_1658 ?_
  exact law_end none none (Nat.le_of_ble_eq_true rfl) (Nat.le_of_ble_eq_true rfl)

set_option maxHeartbeats 4000000 in
set_option maxRecDepth 100000 in
theorem law_six {l : Launch} {G : tb_G} {xs : Nat → Int32} (hl : l.stackTraces = false) : tz_At l G M_L_law room_1 (some (6, xs)) tb_LZ 184 54325 184 (zj tb_I0) 20 [some (.ref tb_sc), some (.ref 0), some (.ref 164), some (.ref 183), none, none, none] [] := by
  refine tz_iconst (pc := 20) dL_law_20 ?_
  refine tz_istore (pc := 21) (L2 := [_, _, _, _, _, _, _]) dL_law_21 (by decide) rfl ?_
  refine tz_iload (pc := 23) dL_law_23 rfl ?_
  refine tz_aload_n (pc := 25) dL_law_25 rfl rfl ?_
  refine tz_slen (pc := 26) rfl dL_law_26 ?_
  refine tz_bipush (pc := 27) dL_law_27 (by decide) ?_
  refine tz_isub (pc := 29) (v := 0) dL_law_29 (by decide) ?_
  refine tz_icmp_gtF (pc := 30) (tgt := 1672) (by decide) dL_law_30 (by decide) (by decide) (by decide) ?_
  refine tz_aload_n (pc := 33) dL_law_33 rfl rfl ?_
  refine tz_iload (pc := 34) dL_law_34 rfl ?_
  refine tz_sld (pc := 36) (z := 0) rfl dL_law_36 (by decide) (Nat.le_of_ble_eq_true rfl) (fun r_36 => ?_)
  refine tz_bipush (pc := 37) dL_law_37 (by decide) ?_
  refine tz_iand (pc := 39) (v := zand ((xs (Int.toNat 0)).toInt) 63) dL_law_39 rfl ?_
  have hj := z_and (xs (Int.toNat 0)).toInt (m := 63) 6 (by decide) (by decide)
  generalize zand (xs (Int.toNat 0)).toInt 63 = j at hj ⊢
  by_cases hs_40 : j < 0 ∨ 32 < j
  · refine tz_tabOut (pc := 40) (tgt := 1666) dL_law_40 (by omega) hs_40 (by decide) ?_
    exact law_end none none (Nat.le_of_ble_eq_true rfl) (Nat.le_of_ble_eq_true rfl)
  · have hs9 : j = 0 ∨ j = 1 ∨ j = 2 ∨ j = 3 ∨ j = 4 ∨ j = 5 ∨ j = 6 ∨ j = 7 ∨ j = 8 ∨ j = 9 ∨ j = 10 ∨ j = 11 ∨ j = 12 ∨ j = 13 ∨ j = 14 ∨ j = 15 ∨ j = 16 ∨ j = 17 ∨ j = 18 ∨ j = 19 ∨ j = 20 ∨ j = 21 ∨ j = 22 ∨ j = 23 ∨ j = 24 ∨ j = 25 ∨ j = 26 ∨ j = 27 ∨ j = 28 ∨ j = 29 ∨ j = 30 ∨ j = 31 ∨ j = 32 := by omega
    rcases hs9 with hc_40 | hc_40 | hc_40 | hc_40 | hc_40 | hc_40 | hc_40 | hc_40 | hc_40 | hc_40 | hc_40 | hc_40 | hc_40 | hc_40 | hc_40 | hc_40 | hc_40 | hc_40 | hc_40 | hc_40 | hc_40 | hc_40 | hc_40 | hc_40 | hc_40 | hc_40 | hc_40 | hc_40 | hc_40 | hc_40 | hc_40 | hc_40 | hc_40
    · refine tz_tabIn (pc := 40) (tgt := 188) 0 dL_law_40 hc_40 (by decide) rfl (by decide) ?_
      exact law_feed hl
    · refine tz_tabIn (pc := 40) (tgt := 261) 1 dL_law_40 hc_40 (by decide) rfl (by decide) ?_
      exact law_bank hl
    · refine tz_tabIn (pc := 40) (tgt := 317) 2 dL_law_40 hc_40 (by decide) rfl (by decide) ?_
      exact law_fault hl
    · refine tz_tabIn (pc := 40) (tgt := 330) 3 dL_law_40 hc_40 (by decide) rfl (by decide) ?_
      exact law_count hl
    · refine tz_tabIn (pc := 40) (tgt := 386) 4 dL_law_40 hc_40 (by decide) rfl (by decide) ?_
      exact law_symbol hl
    · refine tz_tabIn (pc := 40) (tgt := 454) 5 dL_law_40 hc_40 (by decide) rfl (by decide) ?_
      exact law_term hl
    · refine tz_tabIn (pc := 40) (tgt := 522) 6 dL_law_40 hc_40 (by decide) rfl (by decide) ?_
      exact law_argument hl
    · refine tz_tabIn (pc := 40) (tgt := 590) 7 dL_law_40 hc_40 (by decide) rfl (by decide) ?_
      exact law_place hl
    · refine tz_tabIn (pc := 40) (tgt := 658) 8 dL_law_40 hc_40 (by decide) rfl (by decide) ?_
      exact law_order hl
    · refine tz_tabIn (pc := 40) (tgt := 726) 9 dL_law_40 hc_40 (by decide) rfl (by decide) ?_
      exact law_find hl
    · refine tz_tabIn (pc := 40) (tgt := 794) 10 dL_law_40 hc_40 (by decide) rfl (by decide) ?_
      exact law_rule hl
    · refine tz_tabIn (pc := 40) (tgt := 862) 11 dL_law_40 hc_40 (by decide) rfl (by decide) ?_
      exact law_entry hl
    · refine tz_tabIn (pc := 40) (tgt := 918) 12 dL_law_40 hc_40 (by decide) rfl (by decide) ?_
      exact law_memo hl
    · refine tz_tabIn (pc := 40) (tgt := 986) 13 dL_law_40 hc_40 (by decide) rfl (by decide) ?_
      exact law_bound hl
    · refine tz_tabIn (pc := 40) (tgt := 1042) 14 dL_law_40 hc_40 (by decide) rfl (by decide) ?_
      exact law_variable hl
    · refine tz_tabIn (pc := 40) (tgt := 1067) 15 dL_law_40 hc_40 (by decide) rfl (by decide) ?_
      exact law_make hl
    · refine tz_tabIn (pc := 40) (tgt := 1128) 16 dL_law_40 hc_40 (by decide) rfl (by decide) ?_
      exact law_bind hl
    · refine tz_tabIn (pc := 40) (tgt := 1165) 17 dL_law_40 hc_40 (by decide) rfl (by decide) ?_
      exact law_apply hl
    · refine tz_tabIn (pc := 40) (tgt := 1190) 18 dL_law_40 hc_40 (by decide) rfl (by decide) ?_
      exact law_close hl
    · refine tz_tabIn (pc := 40) (tgt := 1215) 19 dL_law_40 hc_40 (by decide) rfl (by decide) ?_
      exact law_unify hl
    · refine tz_tabIn (pc := 40) (tgt := 1252) 20 dL_law_40 hc_40 (by decide) rfl (by decide) ?_
      exact law_match hl
    · refine tz_tabIn (pc := 40) (tgt := 1289) 21 dL_law_40 hc_40 (by decide) rfl (by decide) ?_
      exact law_common hl
    · refine tz_tabIn (pc := 40) (tgt := 1326) 22 dL_law_40 hc_40 (by decide) rfl (by decide) ?_
      exact law_normal hl
    · refine tz_tabIn (pc := 40) (tgt := 1351) 23 dL_law_40 hc_40 (by decide) rfl (by decide) ?_
      exact law_put hl
    · refine tz_tabIn (pc := 40) (tgt := 1400) 24 dL_law_40 hc_40 (by decide) rfl (by decide) ?_
      exact law_rules hl
    · refine tz_tabIn (pc := 40) (tgt := 1437) 25 dL_law_40 hc_40 (by decide) rfl (by decide) ?_
      exact law_enter hl
    · refine tz_tabIn (pc := 40) (tgt := 1462) 26 dL_law_40 hc_40 (by decide) rfl (by decide) ?_
      exact law_leave hl
    · refine tz_tabIn (pc := 40) (tgt := 1487) 27 dL_law_40 hc_40 (by decide) rfl (by decide) ?_
      exact law_room hl
    · refine tz_tabIn (pc := 40) (tgt := 1512) 28 dL_law_40 hc_40 (by decide) rfl (by decide) ?_
      exact law_draw hl
    · refine tz_tabIn (pc := 40) (tgt := 1549) 29 dL_law_40 hc_40 (by decide) rfl (by decide) ?_
      exact law_undo hl
    · refine tz_tabIn (pc := 40) (tgt := 1562) 30 dL_law_40 hc_40 (by decide) rfl (by decide) ?_
      exact law_years hl
    · refine tz_tabIn (pc := 40) (tgt := 1642) 31 dL_law_40 hc_40 (by decide) rfl (by decide) ?_
      exact law_image hl
    · refine tz_tabIn (pc := 40) (tgt := 1653) 32 dL_law_40 hc_40 (by decide) rfl (by decide) ?_
      exact law_restore hl
theorem whole_start {p : Program} {e : Env} {s : State} {m : MethodId} {below : List Frame} {meth : Method} {c : Code} (l : Launch) (hflags : l.flags = flags0) {b L : Nat} {xs : Nat → Int32} (hL : L ≤ 6) (C0 : lw_At p s m meth c b L xs) : W p l e room_1 s m #[Value.ref b] below meth c s.heap [] 0 0 (lw_Z below #[Value.ref b] s) (entryFrame m ([Value.ref b] : List Value).toArray 7) := by
  have hst := tb_stack0 l hflags
  refine tb_start l hst C0 (fun G => law_new hst ?_)
  have hz : zok 184 (zj tb_I0) := ⟨by decide, zj_rg _⟩
  have h0 : zI (zj tb_I0) = tb_I0 := zI_zj _
  rcases (show L = 0 ∨ L = 1 ∨ L = 2 ∨ L = 3 ∨ L = 4 ∨ L = 5 ∨ L = 6 by omega) with rfl | rfl | rfl | rfl | rfl | rfl | rfl
  · have h9 := law_no0 (l := l) (G := G) (xs := xs) (k1 := 184) (k2 := 54325) (Nat.le_of_ble_eq_true rfl) (Nat.le_of_ble_eq_true rfl) hz
    rw [h0] at h9
    exact h9
  · have h9 := law_no1 (l := l) (G := G) (xs := xs) (k1 := 184) (k2 := 54325) (Nat.le_of_ble_eq_true rfl) (Nat.le_of_ble_eq_true rfl) hz
    rw [h0] at h9
    exact h9
  · have h9 := law_no2 (l := l) (G := G) (xs := xs) (k1 := 184) (k2 := 54325) (Nat.le_of_ble_eq_true rfl) (Nat.le_of_ble_eq_true rfl) hz
    rw [h0] at h9
    exact h9
  · have h9 := law_no3 (l := l) (G := G) (xs := xs) (k1 := 184) (k2 := 54325) (Nat.le_of_ble_eq_true rfl) (Nat.le_of_ble_eq_true rfl) hz
    rw [h0] at h9
    exact h9
  · have h9 := law_no4 (l := l) (G := G) (xs := xs) (k1 := 184) (k2 := 54325) (Nat.le_of_ble_eq_true rfl) (Nat.le_of_ble_eq_true rfl) hz
    rw [h0] at h9
    exact h9
  · have h9 := law_no5 (l := l) (G := G) (xs := xs) (k1 := 184) (k2 := 54325) (Nat.le_of_ble_eq_true rfl) (Nat.le_of_ble_eq_true rfl) hz
    rw [h0] at h9
    exact h9
  · have h9 := law_six (G := G) (xs := xs) hst hz
    rw [h0] at h9
    exact h9
