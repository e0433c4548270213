/-! ===== bind, room, enter, leave, rules of the class, exact ===== -/
/-- what the five do to a row -/
def zbd (S : zJ) (v t : Int) : zJ := zup S 165 (1 + v) (t + 1)
def zrm (S : zJ) (x : Int) : zJ := zup (zup S 165 39 x) 165 40 0
def zlv (S : zJ) (w : Int) : zJ := fun c => if c = 165 then (fun k => if k = 26 then S 165 26 - 1 else if 27 + w ≤ k ∧ k < 27 + (S 165 26 - 1) then S 165 (k + 1) else S 165 k) else S c
def zru (S : zJ) (u t : Int) : zJ := zup (zrl S 0 u t) 165 40 0
theorem RW.bd {f h : Int → Int} {x t : Int} (w : RW f h) (hx : 0 ≤ x ∧ x < 8) (b : h 9 ≤ 8 ∧ h 26 ≤ 12 ∧ h 40 ≤ 9) : RW (fun k => if k = 7 + x then t else f k) (fun k => if k = 1 + x then t + 1 else h k) := by
  obtain ⟨⟨a1, a2, a3⟩, ⟨b1, b2⟩, ⟨c1, c2⟩, ⟨d1, d2⟩, v⟩ := w
  refine ⟨⟨?_, ?_, ?_⟩, ⟨?_, fun i p q => ?_⟩, ⟨?_, fun i p q => ?_⟩, ⟨?_, fun i p q => ?_⟩, fun i p q => ?_⟩
  · dsimp only; rw [if_neg (by omega), if_neg (by omega)]; exact a1
  · dsimp only; rw [if_neg (by omega), if_neg (by omega)]; exact a2
  · dsimp only; rw [if_neg (by omega), if_neg (by omega)]; exact a3
  · dsimp only; rw [if_neg (by omega), if_neg (by omega)]; exact b1
  · dsimp only at q ⊢
    rw [if_neg (by omega)] at q
    rw [if_neg (by omega), if_neg (by omega), if_neg (by omega), if_neg (by omega)]; exact b2 i p q
  · dsimp only; rw [if_neg (by omega), if_neg (by omega)]; exact c1
  · dsimp only at q ⊢
    rw [if_neg (by omega)] at q
    rw [if_neg (by omega), if_neg (by omega)]; exact c2 i p q
  · dsimp only; rw [if_neg (by omega), if_neg (by omega)]; exact d1
  · dsimp only at q ⊢
    rw [if_neg (by omega)] at q
    rw [if_neg (by omega), if_neg (by omega), if_neg (by omega), if_neg (by omega)]; exact d2 i p q
  · dsimp only
    by_cases e : i = x
    · rw [if_pos (by omega), if_pos (by omega)]
    · rw [if_neg (by omega), if_neg (by omega)]; exact v i p q
theorem RW.ro {f h : Int → Int} {x : Int} (w : RW f h) (b : (0 ≤ h 9 ∧ h 9 ≤ 8) ∧ (0 ≤ h 26 ∧ h 26 ≤ 12)) : RW (fun k => if k = 6 then 0 else if k = 1 then x else f k) (fun k => if k = 40 then 0 else if k = 39 then x else h k) := by
  obtain ⟨⟨a1, a2, a3⟩, ⟨b1, b2⟩, ⟨c1, c2⟩, ⟨d1, d2⟩, v⟩ := w
  refine ⟨⟨rfl, a2, a3⟩, ⟨b1, fun i p q => ?_⟩, ⟨c1, fun i p q => ?_⟩, ⟨rfl, fun i p q => ?_⟩, fun i p q => ?_⟩
  · have q : i < h 9 := q
    dsimp only
    rw [if_neg (by omega), if_neg (by omega), if_neg (by omega), if_neg (by omega), if_neg (by omega), if_neg (by omega), if_neg (by omega), if_neg (by omega)]; exact b2 i p q
  · have q : i < h 26 := q
    dsimp only
    rw [if_neg (by omega), if_neg (by omega), if_neg (by omega), if_neg (by omega)]; exact c2 i p q
  · have q : i < 0 := q
    omega
  · dsimp only
    rw [if_neg (by omega), if_neg (by omega), if_neg (by omega), if_neg (by omega)]; exact v i p q
theorem RW.en {f h : Int → Int} {t : Int} (w : RW f h) (b : (0 ≤ h 9 ∧ h 9 ≤ 8) ∧ (0 ≤ h 26 ∧ h 26 < 12) ∧ (0 ≤ h 40 ∧ h 40 ≤ 9)) : RW (fun k => if k = 5 then f 5 + 1 else if k = 31 + f 5 then t else f k) (fun k => if k = 26 then h 26 + 1 else if k = 27 + h 26 then t else h k) := by
  obtain ⟨⟨a1, a2, a3⟩, ⟨b1, b2⟩, ⟨c1, c2⟩, ⟨d1, d2⟩, v⟩ := w
  refine ⟨⟨?_, ?_, ?_⟩, ⟨?_, fun i p q => ?_⟩, ⟨?_, fun i p q => ?_⟩, ⟨?_, fun i p q => ?_⟩, fun i p q => ?_⟩
  · dsimp only; rw [if_neg (by omega), if_neg (by omega), if_neg (by omega), if_neg (by omega)]; exact a1
  · dsimp only; rw [if_neg (by omega), if_neg (by omega), if_neg (by omega), if_neg (by omega)]; exact a2
  · dsimp only; rw [if_neg (by omega), if_neg (by omega), if_neg (by omega), if_neg (by omega)]; exact a3
  · dsimp only; rw [if_neg (by omega), if_neg (by omega), if_neg (by omega), if_neg (by omega)]; exact b1
  · dsimp only at q ⊢
    rw [if_neg (by omega), if_neg (by omega)] at q
    rw [if_neg (by omega), if_neg (by omega), if_neg (by omega), if_neg (by omega), if_neg (by omega), if_neg (by omega), if_neg (by omega), if_neg (by omega)]; exact b2 i p q
  · dsimp only; rw [if_pos rfl, if_pos rfl, c1]
  · dsimp only at q ⊢
    rw [if_pos rfl] at q
    by_cases e : i = h 26
    · rw [if_neg (by omega), if_pos (by omega), if_neg (by omega), if_pos (by omega)]
    · rw [if_neg (by omega), if_neg (by omega), if_neg (by omega), if_neg (by omega)]; exact c2 i p (by omega)
  · dsimp only; rw [if_neg (by omega), if_neg (by omega), if_neg (by omega), if_neg (by omega)]; exact d1
  · dsimp only at q ⊢
    rw [if_neg (by omega), if_neg (by omega)] at q
    rw [if_neg (by omega), if_neg (by omega), if_neg (by omega), if_neg (by omega), if_neg (by omega), if_neg (by omega), if_neg (by omega), if_neg (by omega)]; exact d2 i p q
  · dsimp only
    rw [if_neg (by omega), if_neg (by omega), if_neg (by omega), if_neg (by omega)]; exact v i p q
theorem RW.lv {f h : Int → Int} {w : Int} (r : RW f h) (hw : 0 ≤ w ∧ w < h 26) (b : (0 ≤ h 9 ∧ h 9 ≤ 8) ∧ (0 ≤ h 26 ∧ h 26 ≤ 12) ∧ (0 ≤ h 40 ∧ h 40 ≤ 9)) : RW (fun k => if k = 5 then f 5 - 1 else if 31 + w ≤ k ∧ k < 31 + (f 5 - 1) then f (k + 1) else f k) (fun k => if k = 26 then h 26 - 1 else if 27 + w ≤ k ∧ k < 27 + (h 26 - 1) then h (k + 1) else h k) := by
  obtain ⟨⟨a1, a2, a3⟩, ⟨b1, b2⟩, ⟨c1, c2⟩, ⟨d1, d2⟩, v⟩ := r
  refine ⟨⟨?_, ?_, ?_⟩, ⟨?_, fun i p q => ?_⟩, ⟨?_, fun i p q => ?_⟩, ⟨?_, fun i p q => ?_⟩, fun i p q => ?_⟩
  · dsimp only; rw [if_neg (by omega), if_neg (by omega), if_neg (by omega), if_neg (by omega)]; exact a1
  · dsimp only; rw [if_neg (by omega), if_neg (by omega), if_neg (by omega), if_neg (by omega)]; exact a2
  · dsimp only; rw [if_neg (by omega), if_neg (by omega), if_neg (by omega), if_neg (by omega)]; exact a3
  · dsimp only; rw [if_neg (by omega), if_neg (by omega), if_neg (by omega), if_neg (by omega)]; exact b1
  · dsimp only at q ⊢
    rw [if_neg (by omega), if_neg (by omega)] at q
    rw [if_neg (by omega), if_neg (by omega), if_neg (by omega), if_neg (by omega), if_neg (by omega), if_neg (by omega), if_neg (by omega), if_neg (by omega)]; exact b2 i p q
  · dsimp only; rw [if_pos rfl, if_pos rfl, c1]
  · dsimp only at q ⊢
    rw [if_pos rfl] at q
    by_cases e : w ≤ i
    · rw [if_neg (by omega), if_pos (by omega), if_neg (by omega), if_pos (by omega), show 31 + i + 1 = 31 + (i + 1) from by omega, show 27 + i + 1 = 27 + (i + 1) from by omega]
      exact c2 (i + 1) (by omega) (by omega)
    · rw [if_neg (by omega), if_neg (by omega), if_neg (by omega), if_neg (by omega)]; exact c2 i p (by omega)
  · dsimp only; rw [if_neg (by omega), if_neg (by omega), if_neg (by omega), if_neg (by omega)]; exact d1
  · dsimp only at q ⊢
    rw [if_neg (by omega), if_neg (by omega)] at q
    rw [if_neg (by omega), if_neg (by omega), if_neg (by omega), if_neg (by omega), if_neg (by omega), if_neg (by omega), if_neg (by omega), if_neg (by omega)]; exact d2 i p q
  · dsimp only
    rw [if_neg (by omega), if_neg (by omega), if_neg (by omega), if_neg (by omega)]; exact v i p q
theorem RW.ru {f h : Int → Int} {x y : Int} (w : RW f h) (b : (0 ≤ h 9 ∧ h 9 < 8) ∧ (0 ≤ h 26 ∧ h 26 ≤ 12)) : RW (fun k => if k = 6 then 0 else if k = 4 then f 4 + 1 else if k = 23 + f 4 then y else if k = 15 + f 4 then x else f k) (fun k => if k = 40 then 0 else if k = 9 then h 9 + 1 else if k = 10 + 2 * h 9 + 1 then y else if k = 10 + 2 * h 9 then x else h k) := by
  obtain ⟨⟨a1, a2, a3⟩, ⟨b1, b2⟩, ⟨c1, c2⟩, ⟨d1, d2⟩, v⟩ := w
  refine ⟨⟨?_, ?_, ?_⟩, ⟨?_, fun i p q => ?_⟩, ⟨?_, fun i p q => ?_⟩, ⟨rfl, fun i p q => ?_⟩, fun i p q => ?_⟩
  · dsimp only; rw [if_neg (by omega), if_neg (by omega), if_neg (by omega), if_neg (by omega), if_neg (by omega), if_neg (by omega), if_neg (by omega), if_neg (by omega)]; exact a1
  · dsimp only; rw [if_neg (by omega), if_neg (by omega), if_neg (by omega), if_neg (by omega), if_neg (by omega), if_neg (by omega), if_neg (by omega), if_neg (by omega)]; exact a2
  · dsimp only; rw [if_neg (by omega), if_neg (by omega), if_neg (by omega), if_neg (by omega), if_neg (by omega), if_neg (by omega), if_neg (by omega), if_neg (by omega)]; exact a3
  · dsimp only; rw [if_neg (by omega), if_pos rfl, if_neg (by omega), if_pos rfl, b1]
  · dsimp only at q ⊢
    rw [if_neg (by omega), if_pos rfl] at q
    by_cases e : i = h 9
    · refine ⟨?_, ?_⟩
      · rw [if_neg (by omega), if_neg (by omega), if_neg (by omega), if_pos (by omega), if_neg (by omega), if_neg (by omega), if_neg (by omega), if_pos (by omega)]
      · rw [if_neg (by omega), if_neg (by omega), if_pos (by omega), if_neg (by omega), if_neg (by omega), if_pos (by omega)]
    · have := b2 i p (by omega)
      refine ⟨?_, ?_⟩
      · rw [if_neg (by omega), if_neg (by omega), if_neg (by omega), if_neg (by omega), if_neg (by omega), if_neg (by omega), if_neg (by omega), if_neg (by omega)]; exact this.1
      · rw [if_neg (by omega), if_neg (by omega), if_neg (by omega), if_neg (by omega), if_neg (by omega), if_neg (by omega), if_neg (by omega), if_neg (by omega)]; exact this.2
  · dsimp only; rw [if_neg (by omega), if_neg (by omega), if_neg (by omega), if_neg (by omega), if_neg (by omega), if_neg (by omega), if_neg (by omega), if_neg (by omega)]; exact c1
  · dsimp only at q ⊢
    rw [if_neg (by omega), if_neg (by omega), if_neg (by omega), if_neg (by omega)] at q
    rw [if_neg (by omega), if_neg (by omega), if_neg (by omega), if_neg (by omega), if_neg (by omega), if_neg (by omega), if_neg (by omega), if_neg (by omega)]; exact c2 i p q
  · have q : i < 0 := q
    omega
  · dsimp only
    rw [if_neg (by omega), if_neg (by omega), if_neg (by omega), if_neg (by omega), if_neg (by omega), if_neg (by omega), if_neg (by omega), if_neg (by omega)]; exact v i p q
/-- the counts of the reference's row are in bounds where the class's are -/
theorem RW.b {f h : Int → Int} {m : Int} (w : RW f h) (l : LI f m) : (0 ≤ h 9 ∧ h 9 ≤ 8) ∧ (0 ≤ h 26 ∧ h 26 ≤ 12) ∧ (0 ≤ h 40 ∧ h 40 ≤ 9) := by
  obtain ⟨_, ⟨b1, _⟩, ⟨c1, _⟩, ⟨d1, _⟩, _⟩ := w
  obtain ⟨⟨_, l4, l5, l6⟩, _⟩ := l
  exact ⟨by omega, by omega, by omega⟩
theorem A0.g {J g' g : zJ} (E : A0 J g) (h5 : g' 165 0 = g 165 0) (f : zOf (zbut [165]) g' g) : A0 J g' := by
  unfold A0
  rw [f 164 rfl, f 166 rfl, f 167 rfl, f 168 rfl, f 169 rfl, f 170 rfl, f 171 rfl, h5]
  exact E
/-- an act that writes the row alone, and is kept -/
theorem act_keep {J Jb Jo J' S : zJ} {F : zJ × Int} {n m z : Int} {R : Int → Int → Int} (c : CAL J S n R) (hI : CI J m) (hj : zcp (zup J 19 0 (J 6 12)) 19 61 0 0 61 = Jb) (f : zOf (zbut [19]) Jo Jb) (h21 : F.1 164 21 = 0) (hz : z = F.2) (h5 : F.1 165 0 = S 165 0) (fF : zOf (zbut [165]) F.1 S) (w : RW (Jo 19) (F.1 165)) (k : zOf fkp J' Jo) (kx : KX J' Jo) : ED S n R F J' z := by
  obtain ⟨b1, b2, b3⟩ := c.begin hI hj
  have hn := hI.2.1
  have nn := c.2.2.1
  have eb : ∀ q, ¬ q = 19 → ¬ q = 61 → Jb q = J q := fun q a b => by rw [← hj, zcp_nc b, zup_nc a]
  have fo : ∀ c, ¬ c = 19 → Jo c = Jb c := fun c hc => f c (by simp [zbut]; omega)
  have cu : CU Jo n R := b1.2.2.of (by omega) (fo 5 (by decide)) (fun i a b => fo _ (by unfold zU; omega))
  have e61 : Jo 61 = Jb 61 := fo 61 (by decide)
  have h55 : 0 ≤ Jo 5 5 ∧ Jo 5 5 < 40 := by rw [fo 5 (by decide), eb 5 (by decide) (by decide)]; exact hn.1
  exact Or.inr ⟨h21, hz, ((b1.1.f (fun c hc => fo c (by omega))).f (fun c hc => k c (decide_eq_true (by omega)))).g h5 fF, by rw [k 19 rfl]; exact w, cu.keep (m := m) (by omega) h55 (by rw [e61]; exact b2) (by rw [e61]; exact b3) kx⟩
set_option maxHeartbeats 4000000 in
set_option maxRecDepth 100000 in
theorem v_bind {l : Launch} {G : tb_G} (hl : l.stackTraces = false) (n : Nat) (J : zJ) (x : Int) (t : Int) (hr_x : -2147483648 ≤ x ∧ x < 2147483648) (hr_t : -2147483648 ≤ t ∧ t < 2147483648) (m : Int) (S : zJ) (pn : Int) (RR : Int → Int → Int) (hI : CI J m) (h9 : J 145 10 < 1000000000) (cc : CAL J S pn RR) (h21 : S 164 21 = 0) : tz_Ok l G M_X11_bind 2 0 0 [.ref 0, zi x, zi t] n J (zqi (fun z J' => CQ J' J ∧ ((((0 ≤ x ∧ x < 8) ∧ (t = -1 ∨ (0 ≤ t ∧ t < J 6 12)) ∧ ¬ J 19 (7 + x) = t) ∧ ED S pn RR ((zbd S x t, J 19 (7 + x))) J' z) ∨ (¬ ((0 ≤ x ∧ x < 8) ∧ (t = -1 ∨ (0 ≤ t ∧ t < J 6 12)) ∧ ¬ J 19 (7 + x) = t) ∧ z = -2 ∧ CAL J' S pn RR)))) zN := by
  refine tz_Ok.of hl (by decide +kernel) rfl (tb_c1 rfl) (Nat.le_of_ble_eq_true rfl) ?_
  show tz_At l G M_X11_bind (tb_rm 2 0 0) none (tb_ZM G 0 0 (zQ n 0 (zqi (fun z J' => CQ J' J ∧ ((((0 ≤ x ∧ x < 8) ∧ (t = -1 ∨ (0 ≤ t ∧ t < J 6 12)) ∧ ¬ J 19 (7 + x) = t) ∧ ED S pn RR ((zbd S x t, J 19 (7 + x))) J' z) ∨ (¬ ((0 ≤ x ∧ x < 8) ∧ (t = -1 ∨ (0 ≤ t ∧ t < J 6 12)) ∧ ¬ J 19 (7 + x) = t) ∧ z = -2 ∧ CAL J' S pn RR))))) (zX n 0 zN)) 0 0 n J 0 [some (.ref 0), some (zi x), some (zi t), none] []
  have hC := hI.1.1.1
  have hm := hI.1.1.2.1
  have hL := hI.1.1.2.2
  have hb := hC.told
  have wb := cc.2.1.b hL
  refine tz_iload_n (pc := 0) dX11_bind_0 rfl rfl ?_
  refine tz_cS (pc := 1) (c_isVarN hl n _ _ (by omega)) sl_X11_279 dX11_bind_1 rfl rfl (Nat.le_of_ble_eq_true rfl) ⟨(Nat.le_of_ble_eq_true rfl), (Nat.le_of_ble_eq_true rfl)⟩ rfl rfl (Nat.le_of_ble_eq_true rfl) (Nat.le_of_ble_eq_true rfl) (fun r9 J_1 hq9 => ?_)
  obtain ⟨z_1, rfl, hz_1, rfl, rfl⟩ := hq9
  by_cases hw_4 : 0 ≤ x ∧ x < 8
  · rw [show (if 0 ≤ x ∧ x < 8 then 1 else 0 : Int) = 1 from if_pos hw_4]
    refine tz_if_eqF (pc := 4) (tgt := 26) (by decide) dX11_bind_4 (by decide) (by decide) ?_
    refine tz_iload_n (pc := 7) dX11_bind_7 rfl rfl ?_
    refine tz_iconst (pc := 8) dX11_bind_8 ?_
    refine tz_icmp_eq (pc := 9) (tgt := 34) dX11_bind_9 (by decide) (by omega) (by decide) (fun h_9 => ?_) (fun h_9 => ?_)
    · refine tz_aload_n (pc := 34) dX11_bind_34 rfl rfl ?_
      refine tz_fR (pc := 35) dX11_bind_35 fl_X11_29 r_0_1 ?_
      refine tz_fR (pc := 38) dX11_bind_38 fl_X11_156 r_5_1 ?_
      refine tz_fR (pc := 41) dX11_bind_41 fl_X11_167 r_18_0 ?_
      refine tz_bipush (pc := 44) dX11_bind_44 (by decide) ?_
      refine tz_iload_n (pc := 46) dX11_bind_46 rfl rfl ?_
      refine tz_iadd (pc := 47) (v := 7 + x) dX11_bind_47 rfl ?_
      have hq := hL.2.1 x (by omega) (by omega)
      refine tz_aL (pc := 48) (z := (7 + x)) (v := (J 19 (7 + x))) dX11_bind_48 a_19 rfl (by omega) rfl (fun r_48 => ?_)
      refine tz_istore_n (pc := 49) (L2 := [_, _, _, _]) dX11_bind_49 rfl (by decide) rfl ?_
      refine tz_iload_n (pc := 50) dX11_bind_50 rfl rfl ?_
      refine tz_iload_n (pc := 51) dX11_bind_51 rfl rfl ?_
      refine tz_icmp_ne (pc := 52) (tgt := 63) dX11_bind_52 (by decide) (by omega) (by omega) (fun h_52 => ?_) (fun h_52 => ?_)
      · refine tz_aload_n (pc := 63) dX11_bind_63 rfl rfl ?_
        refine tz_fR (pc := 64) dX11_bind_64 fl_X11_29 r_0_1 ?_
        refine tz_cV (pc := 67) (c_begin hl n _) vl_X11_287 dX11_bind_67 o_5 rfl rfl (Nat.le_of_ble_eq_true rfl) ⟨(Nat.le_of_ble_eq_true rfl), (Nat.le_of_ble_eq_true rfl)⟩ rfl rfl (Nat.le_of_ble_eq_true rfl) (Nat.le_of_ble_eq_true rfl) (fun r9 Jb hq9 => ?_)
        obtain ⟨rfl, hj⟩ := hq9
        have hb9 : zOf (zbut [19, 61]) Jb J := by rw [← hj]; exact zOf.cp rfl (zOf.up rfl zOf.rf)
        have hb19 : ∀ k, ¬ k = 0 → Jb 19 k = J 19 k := fun k hk => by rw [← hj, zcp_nc (by decide), zup_ne hk]
        have a0 : AC Jb m m := by rw [← hj]; exact hI.begin
        have hb6 := a0.1.1.2.1
        obtain ⟨cb, kb, lb⟩ := cc.begin hI hj
        refine tz_aload_n (pc := 70) dX11_bind_70 rfl rfl ?_
        refine tz_fR (pc := 71) dX11_bind_71 fl_X11_29 r_0_1 ?_
        refine tz_fR (pc := 74) dX11_bind_74 fl_X11_156 r_5_1 ?_
        refine tz_fR (pc := 77) dX11_bind_77 fl_X11_167 r_18_0 ?_
        refine tz_bipush (pc := 80) dX11_bind_80 (by decide) ?_
        refine tz_iload_n (pc := 82) dX11_bind_82 rfl rfl ?_
        refine tz_iadd (pc := 83) (v := 7 + x) dX11_bind_83 rfl ?_
        refine tz_iload_n (pc := 84) dX11_bind_84 rfl rfl ?_
        refine tz_aS (pc := 85) (z := (7 + x)) dX11_bind_85 a_19 rfl (by omega) (by omega) ?_
        have fw : zOf (zbut [19]) (zup Jb 19 (7 + x) t) Jb := zOf.up rfl zOf.rf
        have a1 : AC (zup Jb 19 (7 + x) t) m m := a0.led fw (a0.1.1.2.2.bind (by omega) (by omega))
        refine tz_aload_n (pc := 86) dX11_bind_86 rfl rfl ?_
        refine tz_fR (pc := 87) dX11_bind_87 fl_X11_29 r_0_1 ?_
        refine tz_cV (pc := 90) (x_keep hl n _ m m a1) vl_X11_305 dX11_bind_90 o_5 rfl rfl (Nat.le_of_ble_eq_true rfl) ⟨(Nat.le_of_ble_eq_true rfl), (Nat.le_of_ble_eq_true rfl)⟩ rfl rfl (Nat.le_of_ble_eq_true rfl) (Nat.le_of_ble_eq_true rfl) (fun r9 Jk hq9 => ?_)
        obtain ⟨rfl, k9, kx⟩ := hq9
        refine tz_iload_n (pc := 93) dX11_bind_93 rfl rfl ?_
        exact tz_iret (pc := 94) (z := (J 19 (7 + x))) dX11_bind_94 rfl (Nat.le_of_ble_eq_true rfl) (Nat.le_of_ble_eq_true rfl) ⟨Nat.le_refl _, Nat.le_add_right _ _⟩ ⟨_, rfl, (by omega), ⟨(CQ.k k9 (by rw [fw 145 rfl, hb9 145 rfl]; omega) ((fw 0 rfl).trans (hb9 0 rfl)) ((fw.mono (fun c hc => by have := of_decide_eq_true hc; simp [zbut]; omega)).tr (hb9.mono (fun c hc => by have := of_decide_eq_true hc; simp [zbut]; omega)))), Or.inl ⟨by omega, act_keep cc hI hj fw h21 rfl (by show zup S 165 (1 + x) (t + 1) 165 0 = S 165 0; exact zup_ne (by omega)) (zOf.up rfl zOf.rf) (cb.2.1.bd (by omega) (by omega)) k9.2 kx⟩⟩⟩
      · refine tz_aload_n (pc := 55) dX11_bind_55 rfl rfl ?_
        refine tz_iconst (pc := 56) dX11_bind_56 ?_
        refine tz_bipush (pc := 57) dX11_bind_57 (by decide) ?_
        refine tz_cV (pc := 59) (c_refused hl n _ _ _ (by decide) (by omega) (by decide)) vl_X11_284 dX11_bind_59 o_0 rfl rfl (Nat.le_of_ble_eq_true rfl) ⟨(Nat.le_of_ble_eq_true rfl), (Nat.le_of_ble_eq_true rfl)⟩ rfl rfl (Nat.le_of_ble_eq_true rfl) (Nat.le_of_ble_eq_true rfl) (fun r9 J_59 hq9 => ?_)
        obtain ⟨z_59, rfl, hz_59, f9, rfl⟩ := hq9
        exact tz_iret (pc := 62) (z := (-2)) dX11_bind_62 rfl (Nat.le_of_ble_eq_true rfl) (Nat.le_of_ble_eq_true rfl) ⟨Nat.le_refl _, Nat.le_add_right _ _⟩ ⟨_, rfl, (by decide), ⟨(SQ.cq ⟨⟨m, hI.st f9⟩, f9 145 rfl, f9 0 rfl, (f9.mono (fun c hc => by have := of_decide_eq_true hc; simp [zbut]; omega))⟩ (by omega) rfl zOf.rf), Or.inr ⟨by omega, rfl, cc.st hI f9⟩⟩⟩
    · refine tz_aload_n (pc := 12) dX11_bind_12 rfl rfl ?_
      refine tz_fR (pc := 13) dX11_bind_13 fl_X11_29 r_0_1 ?_
      refine tz_fR (pc := 16) dX11_bind_16 fl_X11_49 r_5_0 ?_
      refine tz_iload_n (pc := 19) dX11_bind_19 rfl rfl ?_
      refine tz_cV (pc := 20) (c_has hl n _ _ (by omega)) vl_X11_304 dX11_bind_20 o_6 rfl rfl (Nat.le_of_ble_eq_true rfl) ⟨(Nat.le_of_ble_eq_true rfl), (Nat.le_of_ble_eq_true rfl)⟩ rfl rfl (Nat.le_of_ble_eq_true rfl) (Nat.le_of_ble_eq_true rfl) (fun r9 J_20 hq9 => ?_)
      obtain ⟨z_20, rfl, hz_20, rfl, rfl⟩ := hq9
      by_cases hw_23 : 0 ≤ t ∧ t < J 6 12
      · rw [show (if 0 ≤ t ∧ t < J 6 12 then 1 else 0 : Int) = 1 from if_pos hw_23]
        refine tz_if_neT (pc := 23) (tgt := 34) (by decide) dX11_bind_23 (by decide) (by decide) ?_
        refine tz_aload_n (pc := 34) dX11_bind_34 rfl rfl ?_
        refine tz_fR (pc := 35) dX11_bind_35 fl_X11_29 r_0_1 ?_
        refine tz_fR (pc := 38) dX11_bind_38 fl_X11_156 r_5_1 ?_
        refine tz_fR (pc := 41) dX11_bind_41 fl_X11_167 r_18_0 ?_
        refine tz_bipush (pc := 44) dX11_bind_44 (by decide) ?_
        refine tz_iload_n (pc := 46) dX11_bind_46 rfl rfl ?_
        refine tz_iadd (pc := 47) (v := 7 + x) dX11_bind_47 rfl ?_
        have hq := hL.2.1 x (by omega) (by omega)
        refine tz_aL (pc := 48) (z := (7 + x)) (v := (J 19 (7 + x))) dX11_bind_48 a_19 rfl (by omega) rfl (fun r_48 => ?_)
        refine tz_istore_n (pc := 49) (L2 := [_, _, _, _]) dX11_bind_49 rfl (by decide) rfl ?_
        refine tz_iload_n (pc := 50) dX11_bind_50 rfl rfl ?_
        refine tz_iload_n (pc := 51) dX11_bind_51 rfl rfl ?_
        refine tz_icmp_ne (pc := 52) (tgt := 63) dX11_bind_52 (by decide) (by omega) (by omega) (fun h_52 => ?_) (fun h_52 => ?_)
        · refine tz_aload_n (pc := 63) dX11_bind_63 rfl rfl ?_
          refine tz_fR (pc := 64) dX11_bind_64 fl_X11_29 r_0_1 ?_
          refine tz_cV (pc := 67) (c_begin hl n _) vl_X11_287 dX11_bind_67 o_5 rfl rfl (Nat.le_of_ble_eq_true rfl) ⟨(Nat.le_of_ble_eq_true rfl), (Nat.le_of_ble_eq_true rfl)⟩ rfl rfl (Nat.le_of_ble_eq_true rfl) (Nat.le_of_ble_eq_true rfl) (fun r9 Jb hq9 => ?_)
          obtain ⟨rfl, hj⟩ := hq9
          have hb9 : zOf (zbut [19, 61]) Jb J := by rw [← hj]; exact zOf.cp rfl (zOf.up rfl zOf.rf)
          have hb19 : ∀ k, ¬ k = 0 → Jb 19 k = J 19 k := fun k hk => by rw [← hj, zcp_nc (by decide), zup_ne hk]
          have a0 : AC Jb m m := by rw [← hj]; exact hI.begin
          have hb6 := a0.1.1.2.1
          obtain ⟨cb, kb, lb⟩ := cc.begin hI hj
          refine tz_aload_n (pc := 70) dX11_bind_70 rfl rfl ?_
          refine tz_fR (pc := 71) dX11_bind_71 fl_X11_29 r_0_1 ?_
          refine tz_fR (pc := 74) dX11_bind_74 fl_X11_156 r_5_1 ?_
          refine tz_fR (pc := 77) dX11_bind_77 fl_X11_167 r_18_0 ?_
          refine tz_bipush (pc := 80) dX11_bind_80 (by decide) ?_
          refine tz_iload_n (pc := 82) dX11_bind_82 rfl rfl ?_
          refine tz_iadd (pc := 83) (v := 7 + x) dX11_bind_83 rfl ?_
          refine tz_iload_n (pc := 84) dX11_bind_84 rfl rfl ?_
          refine tz_aS (pc := 85) (z := (7 + x)) dX11_bind_85 a_19 rfl (by omega) (by omega) ?_
          have fw : zOf (zbut [19]) (zup Jb 19 (7 + x) t) Jb := zOf.up rfl zOf.rf
          have a1 : AC (zup Jb 19 (7 + x) t) m m := a0.led fw (a0.1.1.2.2.bind (by omega) (by omega))
          refine tz_aload_n (pc := 86) dX11_bind_86 rfl rfl ?_
          refine tz_fR (pc := 87) dX11_bind_87 fl_X11_29 r_0_1 ?_
          refine tz_cV (pc := 90) (x_keep hl n _ m m a1) vl_X11_305 dX11_bind_90 o_5 rfl rfl (Nat.le_of_ble_eq_true rfl) ⟨(Nat.le_of_ble_eq_true rfl), (Nat.le_of_ble_eq_true rfl)⟩ rfl rfl (Nat.le_of_ble_eq_true rfl) (Nat.le_of_ble_eq_true rfl) (fun r9 Jk hq9 => ?_)
          obtain ⟨rfl, k9, kx⟩ := hq9
          refine tz_iload_n (pc := 93) dX11_bind_93 rfl rfl ?_
          exact tz_iret (pc := 94) (z := (J 19 (7 + x))) dX11_bind_94 rfl (Nat.le_of_ble_eq_true rfl) (Nat.le_of_ble_eq_true rfl) ⟨Nat.le_refl _, Nat.le_add_right _ _⟩ ⟨_, rfl, (by omega), ⟨(CQ.k k9 (by rw [fw 145 rfl, hb9 145 rfl]; omega) ((fw 0 rfl).trans (hb9 0 rfl)) ((fw.mono (fun c hc => by have := of_decide_eq_true hc; simp [zbut]; omega)).tr (hb9.mono (fun c hc => by have := of_decide_eq_true hc; simp [zbut]; omega)))), Or.inl ⟨by omega, act_keep cc hI hj fw h21 rfl (by show zup S 165 (1 + x) (t + 1) 165 0 = S 165 0; exact zup_ne (by omega)) (zOf.up rfl zOf.rf) (cb.2.1.bd (by omega) (by omega)) k9.2 kx⟩⟩⟩
        · refine tz_aload_n (pc := 55) dX11_bind_55 rfl rfl ?_
          refine tz_iconst (pc := 56) dX11_bind_56 ?_
          refine tz_bipush (pc := 57) dX11_bind_57 (by decide) ?_
          refine tz_cV (pc := 59) (c_refused hl n _ _ _ (by decide) (by omega) (by decide)) vl_X11_284 dX11_bind_59 o_0 rfl rfl (Nat.le_of_ble_eq_true rfl) ⟨(Nat.le_of_ble_eq_true rfl), (Nat.le_of_ble_eq_true rfl)⟩ rfl rfl (Nat.le_of_ble_eq_true rfl) (Nat.le_of_ble_eq_true rfl) (fun r9 J_59 hq9 => ?_)
          obtain ⟨z_59, rfl, hz_59, f9, rfl⟩ := hq9
          exact tz_iret (pc := 62) (z := (-2)) dX11_bind_62 rfl (Nat.le_of_ble_eq_true rfl) (Nat.le_of_ble_eq_true rfl) ⟨Nat.le_refl _, Nat.le_add_right _ _⟩ ⟨_, rfl, (by decide), ⟨(SQ.cq ⟨⟨m, hI.st f9⟩, f9 145 rfl, f9 0 rfl, (f9.mono (fun c hc => by have := of_decide_eq_true hc; simp [zbut]; omega))⟩ (by omega) rfl zOf.rf), Or.inr ⟨by omega, rfl, cc.st hI f9⟩⟩⟩
      · rw [show (if 0 ≤ t ∧ t < J 6 12 then 1 else 0 : Int) = 0 from if_neg hw_23]
        refine tz_if_neF (pc := 23) (tgt := 34) (by decide) dX11_bind_23 (by decide) (by decide) ?_
        refine tz_aload_n (pc := 26) dX11_bind_26 rfl rfl ?_
        refine tz_iconst (pc := 27) dX11_bind_27 ?_
        refine tz_bipush (pc := 28) dX11_bind_28 (by decide) ?_
        refine tz_cV (pc := 30) (c_refused hl n _ _ _ (by decide) (by omega) (by decide)) vl_X11_284 dX11_bind_30 o_0 rfl rfl (Nat.le_of_ble_eq_true rfl) ⟨(Nat.le_of_ble_eq_true rfl), (Nat.le_of_ble_eq_true rfl)⟩ rfl rfl (Nat.le_of_ble_eq_true rfl) (Nat.le_of_ble_eq_true rfl) (fun r9 J_30 hq9 => ?_)
        obtain ⟨z_30, rfl, hz_30, f9, rfl⟩ := hq9
        exact tz_iret (pc := 33) (z := (-2)) dX11_bind_33 rfl (Nat.le_of_ble_eq_true rfl) (Nat.le_of_ble_eq_true rfl) ⟨Nat.le_refl _, Nat.le_add_right _ _⟩ ⟨_, rfl, (by decide), ⟨(SQ.cq ⟨⟨m, hI.st f9⟩, f9 145 rfl, f9 0 rfl, (f9.mono (fun c hc => by have := of_decide_eq_true hc; simp [zbut]; omega))⟩ (by omega) rfl zOf.rf), Or.inr ⟨by omega, rfl, cc.st hI f9⟩⟩⟩
  · rw [show (if 0 ≤ x ∧ x < 8 then 1 else 0 : Int) = 0 from if_neg hw_4]
    refine tz_if_eqT (pc := 4) (tgt := 26) (by decide) dX11_bind_4 (by decide) (by decide) ?_
    refine tz_aload_n (pc := 26) dX11_bind_26 rfl rfl ?_
    refine tz_iconst (pc := 27) dX11_bind_27 ?_
    refine tz_bipush (pc := 28) dX11_bind_28 (by decide) ?_
    refine tz_cV (pc := 30) (c_refused hl n _ _ _ (by decide) (by omega) (by decide)) vl_X11_284 dX11_bind_30 o_0 rfl rfl (Nat.le_of_ble_eq_true rfl) ⟨(Nat.le_of_ble_eq_true rfl), (Nat.le_of_ble_eq_true rfl)⟩ rfl rfl (Nat.le_of_ble_eq_true rfl) (Nat.le_of_ble_eq_true rfl) (fun r9 J_30 hq9 => ?_)
    obtain ⟨z_30, rfl, hz_30, f9, rfl⟩ := hq9
    exact tz_iret (pc := 33) (z := (-2)) dX11_bind_33 rfl (Nat.le_of_ble_eq_true rfl) (Nat.le_of_ble_eq_true rfl) ⟨Nat.le_refl _, Nat.le_add_right _ _⟩ ⟨_, rfl, (by decide), ⟨(SQ.cq ⟨⟨m, hI.st f9⟩, f9 145 rfl, f9 0 rfl, (f9.mono (fun c hc => by have := of_decide_eq_true hc; simp [zbut]; omega))⟩ (by omega) rfl zOf.rf), Or.inr ⟨by omega, rfl, cc.st hI f9⟩⟩⟩

set_option maxHeartbeats 4000000 in
set_option maxRecDepth 100000 in
theorem v_room {l : Launch} {G : tb_G} (hl : l.stackTraces = false) (n : Nat) (J : zJ) (x : Int) (hr_x : -2147483648 ≤ x ∧ x < 2147483648) (m : Int) (S : zJ) (pn : Int) (RR : Int → Int → Int) (hI : CI J m) (h9 : J 145 10 < 1000000000) (cc : CAL J S pn RR) (h21 : S 164 21 = 0) : tz_Ok l G M_X11_room 2 0 0 [.ref 0, zi x] n J (zqi (fun z J' => CQ J' J ∧ (((0 ≤ x ∧ x ≤ 9) ∧ ED S pn RR ((zrm S x, J 19 1)) J' z) ∨ (¬ (0 ≤ x ∧ x ≤ 9) ∧ z = -1 ∧ CAL J' S pn RR)))) zN := by
  refine tz_Ok.of hl (by decide +kernel) rfl (tb_c1 rfl) (Nat.le_of_ble_eq_true rfl) ?_
  show tz_At l G M_X11_room (tb_rm 2 0 0) none (tb_ZM G 0 0 (zQ n 0 (zqi (fun z J' => CQ J' J ∧ (((0 ≤ x ∧ x ≤ 9) ∧ ED S pn RR ((zrm S x, J 19 1)) J' z) ∨ (¬ (0 ≤ x ∧ x ≤ 9) ∧ z = -1 ∧ CAL J' S pn RR))))) (zX n 0 zN)) 0 0 n J 0 [some (.ref 0), some (zi x), none] []
  have hC := hI.1.1.1
  have hm := hI.1.1.2.1
  have hL := hI.1.1.2.2
  have hb := hC.told
  have wb := cc.2.1.b hL
  refine tz_iload_n (pc := 0) dX11_room_0 rfl rfl ?_
  refine tz_if_lt (pc := 1) (tgt := 10) dX11_room_1 (by decide) (by omega) (fun h_1 => ?_) (fun h_1 => ?_)
  · refine tz_aload_n (pc := 10) dX11_room_10 rfl rfl ?_
    refine tz_iconst (pc := 11) dX11_room_11 ?_
    refine tz_iconst (pc := 12) dX11_room_12 ?_
    refine tz_cV (pc := 13) (c_refused hl n _ _ _ (by decide) (by omega) (by decide)) vl_X11_284 dX11_room_13 o_0 rfl rfl (Nat.le_of_ble_eq_true rfl) ⟨(Nat.le_of_ble_eq_true rfl), (Nat.le_of_ble_eq_true rfl)⟩ rfl rfl (Nat.le_of_ble_eq_true rfl) (Nat.le_of_ble_eq_true rfl) (fun r9 J_13 hq9 => ?_)
    obtain ⟨z_13, rfl, hz_13, f9, rfl⟩ := hq9
    exact tz_iret (pc := 16) (z := (-1)) dX11_room_16 rfl (Nat.le_of_ble_eq_true rfl) (Nat.le_of_ble_eq_true rfl) ⟨Nat.le_refl _, Nat.le_add_right _ _⟩ ⟨_, rfl, (by decide), ⟨(SQ.cq ⟨⟨m, hI.st f9⟩, f9 145 rfl, f9 0 rfl, (f9.mono (fun c hc => by have := of_decide_eq_true hc; simp [zbut]; omega))⟩ (by omega) rfl zOf.rf), Or.inr ⟨by omega, rfl, cc.st hI f9⟩⟩⟩
  · refine tz_iload_n (pc := 4) dX11_room_4 rfl rfl ?_
    refine tz_bipush (pc := 5) dX11_room_5 (by decide) ?_
    refine tz_icmp_le (pc := 7) (tgt := 17) dX11_room_7 (by decide) (by omega) (by decide) (fun h_7 => ?_) (fun h_7 => ?_)
    · refine tz_aload_n (pc := 17) dX11_room_17 rfl rfl ?_
      refine tz_fR (pc := 18) dX11_room_18 fl_X11_29 r_0_1 ?_
      refine tz_fR (pc := 21) dX11_room_21 fl_X11_156 r_5_1 ?_
      refine tz_fR (pc := 24) dX11_room_24 fl_X11_167 r_18_0 ?_
      refine tz_iconst (pc := 27) dX11_room_27 ?_
      refine tz_aL (pc := 28) (z := 1) (v := (J 19 1)) dX11_room_28 a_19 rfl (by decide) rfl (fun r_28 => ?_)
      refine tz_istore_n (pc := 29) (L2 := [_, _, _]) dX11_room_29 rfl (by decide) rfl ?_
      refine tz_aload_n (pc := 30) dX11_room_30 rfl rfl ?_
      refine tz_fR (pc := 31) dX11_room_31 fl_X11_29 r_0_1 ?_
      refine tz_cV (pc := 34) (c_begin hl n _) vl_X11_287 dX11_room_34 o_5 rfl rfl (Nat.le_of_ble_eq_true rfl) ⟨(Nat.le_of_ble_eq_true rfl), (Nat.le_of_ble_eq_true rfl)⟩ rfl rfl (Nat.le_of_ble_eq_true rfl) (Nat.le_of_ble_eq_true rfl) (fun r9 Jb hq9 => ?_)
      obtain ⟨rfl, hj⟩ := hq9
      have hb9 : zOf (zbut [19, 61]) Jb J := by rw [← hj]; exact zOf.cp rfl (zOf.up rfl zOf.rf)
      have hb19 : ∀ k, ¬ k = 0 → Jb 19 k = J 19 k := fun k hk => by rw [← hj, zcp_nc (by decide), zup_ne hk]
      have a0 : AC Jb m m := by rw [← hj]; exact hI.begin
      have hb6 := a0.1.1.2.1
      obtain ⟨cb, kb, lb⟩ := cc.begin hI hj
      refine tz_aload_n (pc := 37) dX11_room_37 rfl rfl ?_
      refine tz_fR (pc := 38) dX11_room_38 fl_X11_29 r_0_1 ?_
      refine tz_fR (pc := 41) dX11_room_41 fl_X11_156 r_5_1 ?_
      refine tz_iload_n (pc := 44) dX11_room_44 rfl rfl ?_
      refine tz_cV (pc := 45) (c_tellRoom hl n _ _ (by omega)) vl_X11_366 dX11_room_45 o_18 rfl rfl (Nat.le_of_ble_eq_true rfl) ⟨(Nat.le_of_ble_eq_true rfl), (Nat.le_of_ble_eq_true rfl)⟩ rfl rfl (Nat.le_of_ble_eq_true rfl) (Nat.le_of_ble_eq_true rfl) (fun r9 Jd hq9 => ?_)
      obtain ⟨rfl, hj3⟩ := hq9
      have fw : zOf (zbut [19]) Jd Jb := by rw [← hj3]; exact zOf.up rfl (zOf.up rfl zOf.rf)
      have a1 : AC Jd m m := a0.led fw (by rw [← hj3]; exact a0.1.1.2.2.room (by omega))
      refine tz_aload_n (pc := 48) dX11_room_48 rfl rfl ?_
      refine tz_fR (pc := 49) dX11_room_49 fl_X11_29 r_0_1 ?_
      refine tz_cV (pc := 52) (x_keep hl n _ m m a1) vl_X11_305 dX11_room_52 o_5 rfl rfl (Nat.le_of_ble_eq_true rfl) ⟨(Nat.le_of_ble_eq_true rfl), (Nat.le_of_ble_eq_true rfl)⟩ rfl rfl (Nat.le_of_ble_eq_true rfl) (Nat.le_of_ble_eq_true rfl) (fun r9 Jk hq9 => ?_)
      obtain ⟨rfl, k9, kx⟩ := hq9
      refine tz_iload_n (pc := 55) dX11_room_55 rfl rfl ?_
      exact tz_iret (pc := 56) (z := (J 19 1)) dX11_room_56 rfl (Nat.le_of_ble_eq_true rfl) (Nat.le_of_ble_eq_true rfl) ⟨Nat.le_refl _, Nat.le_add_right _ _⟩ ⟨_, rfl, (by omega), ⟨(CQ.k k9 (by rw [fw 145 rfl, hb9 145 rfl]; omega) ((fw 0 rfl).trans (hb9 0 rfl)) ((fw.mono (fun c hc => by have := of_decide_eq_true hc; simp [zbut]; omega)).tr (hb9.mono (fun c hc => by have := of_decide_eq_true hc; simp [zbut]; omega)))), Or.inl ⟨by omega, act_keep cc hI hj fw h21 rfl rfl (zOf.up rfl (zOf.up rfl zOf.rf)) (by rw [← hj3]; exact cb.2.1.ro ⟨wb.1, wb.2.1⟩) k9.2 kx⟩⟩⟩
    · refine tz_aload_n (pc := 10) dX11_room_10 rfl rfl ?_
      refine tz_iconst (pc := 11) dX11_room_11 ?_
      refine tz_iconst (pc := 12) dX11_room_12 ?_
      refine tz_cV (pc := 13) (c_refused hl n _ _ _ (by decide) (by omega) (by decide)) vl_X11_284 dX11_room_13 o_0 rfl rfl (Nat.le_of_ble_eq_true rfl) ⟨(Nat.le_of_ble_eq_true rfl), (Nat.le_of_ble_eq_true rfl)⟩ rfl rfl (Nat.le_of_ble_eq_true rfl) (Nat.le_of_ble_eq_true rfl) (fun r9 J_13 hq9 => ?_)
      obtain ⟨z_13, rfl, hz_13, f9, rfl⟩ := hq9
      exact tz_iret (pc := 16) (z := (-1)) dX11_room_16 rfl (Nat.le_of_ble_eq_true rfl) (Nat.le_of_ble_eq_true rfl) ⟨Nat.le_refl _, Nat.le_add_right _ _⟩ ⟨_, rfl, (by decide), ⟨(SQ.cq ⟨⟨m, hI.st f9⟩, f9 145 rfl, f9 0 rfl, (f9.mono (fun c hc => by have := of_decide_eq_true hc; simp [zbut]; omega))⟩ (by omega) rfl zOf.rf), Or.inr ⟨by omega, rfl, cc.st hI f9⟩⟩⟩

/-- the place of an entry, or how many there are -/
def eyC (J : zJ) (t : Int) : Int := fnB (fun k => decide (¬ J 19 (31 + k) = t)) (J 19 5) 0
theorem ey_c {J : zJ} {t z : Int} (h1 : 0 ≤ J 19 5) (d : (0 ≤ z ∧ z < J 19 5 ∧ J 19 (31 + z) = t ∧ ∀ i, 0 ≤ i → i < z → ¬ J 19 (31 + i) = t) ∨ (z = -1 ∧ ∀ i, 0 ≤ i → i < J 19 5 → ¬ J 19 (31 + i) = t)) : (0 ≤ z ∧ z < J 19 5 ∧ eyC J t = z) ∨ (z = -1 ∧ eyC J t = J 19 5) := by
  rcases d with ⟨a, b, c, d⟩ | ⟨a, d⟩
  · exact Or.inl ⟨a, b, fnB_eq a (by omega) (fun q u v => decide_eq_true (d q u v)) (Or.inr (decide_eq_false (fun k => k c)))⟩
  · exact Or.inr ⟨a, fnB_eq (by omega) (Int.le_refl _) (fun q u v => decide_eq_true (d q u v)) (Or.inl rfl)⟩
set_option maxHeartbeats 4000000 in
set_option maxRecDepth 100000 in
theorem v_enter {l : Launch} {G : tb_G} (hl : l.stackTraces = false) (n : Nat) (J : zJ) (t : Int) (hr_t : -2147483648 ≤ t ∧ t < 2147483648) (m : Int) (S : zJ) (pn : Int) (RR : Int → Int → Int) (hI : CI J m) (h9 : J 145 10 < 1000000000) (cc : CAL J S pn RR) (h21 : S 164 21 = 0) : tz_Ok l G M_X11_enter 2 0 0 [.ref 0, zi t] n J (zqi (fun z J' => CQ J' J ∧ ((((0 ≤ t ∧ t < J 6 12) ∧ J 19 5 < 12 ∧ eyC J t = J 19 5) ∧ ED S pn RR ((zen S 0 t, J 19 5 + 1)) J' z) ∨ (¬ ((0 ≤ t ∧ t < J 6 12) ∧ J 19 5 < 12 ∧ eyC J t = J 19 5) ∧ z = -1 ∧ CAL J' S pn RR)))) zN := by
  refine tz_Ok.of hl (by decide +kernel) rfl (tb_c1 rfl) (Nat.le_of_ble_eq_true rfl) ?_
  show tz_At l G M_X11_enter (tb_rm 2 0 0) none (tb_ZM G 0 0 (zQ n 0 (zqi (fun z J' => CQ J' J ∧ ((((0 ≤ t ∧ t < J 6 12) ∧ J 19 5 < 12 ∧ eyC J t = J 19 5) ∧ ED S pn RR ((zen S 0 t, J 19 5 + 1)) J' z) ∨ (¬ ((0 ≤ t ∧ t < J 6 12) ∧ J 19 5 < 12 ∧ eyC J t = J 19 5) ∧ z = -1 ∧ CAL J' S pn RR))))) (zX n 0 zN)) 0 0 n J 0 [some (.ref 0), some (zi t), none] []
  have hC := hI.1.1.1
  have hm := hI.1.1.2.1
  have hL := hI.1.1.2.2
  have hb := hC.told
  have wb := cc.2.1.b hL
  have h5 := hL.1.2.2.1
  refine tz_aload_n (pc := 0) dX11_enter_0 rfl rfl ?_
  refine tz_fR (pc := 1) dX11_enter_1 fl_X11_29 r_0_1 ?_
  refine tz_fR (pc := 4) dX11_enter_4 fl_X11_156 r_5_1 ?_
  refine tz_astore_n (pc := 7) (L2 := [_, _, _]) dX11_enter_7 rfl (by decide) rfl ?_
  refine tz_aload_n (pc := 8) dX11_enter_8 rfl rfl ?_
  refine tz_fR (pc := 9) dX11_enter_9 fl_X11_29 r_0_1 ?_
  refine tz_fR (pc := 12) dX11_enter_12 fl_X11_49 r_5_0 ?_
  refine tz_iload_n (pc := 15) dX11_enter_15 rfl rfl ?_
  refine tz_cV (pc := 16) (c_has hl n _ _ (by omega)) vl_X11_304 dX11_enter_16 o_6 rfl rfl (Nat.le_of_ble_eq_true rfl) ⟨(Nat.le_of_ble_eq_true rfl), (Nat.le_of_ble_eq_true rfl)⟩ rfl rfl (Nat.le_of_ble_eq_true rfl) (Nat.le_of_ble_eq_true rfl) (fun r9 J_16 hq9 => ?_)
  obtain ⟨z_16, rfl, hz_16, rfl, rfl⟩ := hq9
  by_cases hw_19 : 0 ≤ t ∧ t < J 6 12
  · rw [show (if 0 ≤ t ∧ t < J 6 12 then 1 else 0 : Int) = 1 from if_pos hw_19]
    refine tz_if_eqF (pc := 19) (tgt := 42) (by decide) dX11_enter_19 (by decide) (by decide) ?_
    refine tz_aload_n (pc := 22) dX11_enter_22 rfl rfl ?_
    refine tz_fR (pc := 23) dX11_enter_23 fl_X11_167 r_18_0 ?_
    refine tz_iconst (pc := 26) dX11_enter_26 ?_
    refine tz_aL (pc := 27) (z := 5) (v := (J 19 5)) dX11_enter_27 a_19 rfl (by decide) rfl (fun r_27 => ?_)
    refine tz_bipush (pc := 28) dX11_enter_28 (by decide) ?_
    refine tz_icmp_ge (pc := 30) (tgt := 42) dX11_enter_30 (by decide) (by omega) (by decide) (fun h_30 => ?_) (fun h_30 => ?_)
    · refine tz_aload_n (pc := 42) dX11_enter_42 rfl rfl ?_
      refine tz_iconst (pc := 43) dX11_enter_43 ?_
      refine tz_iconst (pc := 44) dX11_enter_44 ?_
      refine tz_cV (pc := 45) (c_refused hl n _ _ _ (by decide) (by omega) (by decide)) vl_X11_284 dX11_enter_45 o_0 rfl rfl (Nat.le_of_ble_eq_true rfl) ⟨(Nat.le_of_ble_eq_true rfl), (Nat.le_of_ble_eq_true rfl)⟩ rfl rfl (Nat.le_of_ble_eq_true rfl) (Nat.le_of_ble_eq_true rfl) (fun r9 J_45 hq9 => ?_)
      obtain ⟨z_45, rfl, hz_45, f9, rfl⟩ := hq9
      exact tz_iret (pc := 48) (z := (-1)) dX11_enter_48 rfl (Nat.le_of_ble_eq_true rfl) (Nat.le_of_ble_eq_true rfl) ⟨Nat.le_refl _, Nat.le_add_right _ _⟩ ⟨_, rfl, (by decide), ⟨(SQ.cq ⟨⟨m, hI.st f9⟩, f9 145 rfl, f9 0 rfl, (f9.mono (fun c hc => by have := of_decide_eq_true hc; simp [zbut]; omega))⟩ (by omega) rfl zOf.rf), Or.inr ⟨by omega, rfl, cc.st hI f9⟩⟩⟩
    · refine tz_aload_n (pc := 33) dX11_enter_33 rfl rfl ?_
      refine tz_iload_n (pc := 34) dX11_enter_34 rfl rfl ?_
      refine tz_cV (pc := 35) (c_entryOf hl n _ _ (by omega) h5) vl_X11_241 dX11_enter_35 o_18 rfl rfl (Nat.le_of_ble_eq_true rfl) ⟨(Nat.le_of_ble_eq_true rfl), (Nat.le_of_ble_eq_true rfl)⟩ rfl rfl (Nat.le_of_ble_eq_true rfl) (Nat.le_of_ble_eq_true rfl) (fun r9 J_35 hq9 => ?_)
      obtain ⟨ze, rfl, hz_35, rfl, he9⟩ := hq9
      have he7 := ey_c h5.1 he9
      refine tz_iconst (pc := 38) dX11_enter_38 ?_
      refine tz_icmp_eq (pc := 39) (tgt := 49) dX11_enter_39 (by decide) (by omega) (by decide) (fun h_39 => ?_) (fun h_39 => ?_)
      · refine tz_aload_n (pc := 49) dX11_enter_49 rfl rfl ?_
        refine tz_fR (pc := 50) dX11_enter_50 fl_X11_29 r_0_1 ?_
        refine tz_cV (pc := 53) (c_begin hl n _) vl_X11_287 dX11_enter_53 o_5 rfl rfl (Nat.le_of_ble_eq_true rfl) ⟨(Nat.le_of_ble_eq_true rfl), (Nat.le_of_ble_eq_true rfl)⟩ rfl rfl (Nat.le_of_ble_eq_true rfl) (Nat.le_of_ble_eq_true rfl) (fun r9 Jb hq9 => ?_)
        obtain ⟨rfl, hj⟩ := hq9
        have hb9 : zOf (zbut [19, 61]) Jb J := by rw [← hj]; exact zOf.cp rfl (zOf.up rfl zOf.rf)
        have hb19 : ∀ k, ¬ k = 0 → Jb 19 k = J 19 k := fun k hk => by rw [← hj, zcp_nc (by decide), zup_ne hk]
        have a0 : AC Jb m m := by rw [← hj]; exact hI.begin
        have hb6 := a0.1.1.2.1
        obtain ⟨cb, kb, lb⟩ := cc.begin hI hj
        refine tz_aload_n (pc := 56) dX11_enter_56 rfl rfl ?_
        refine tz_iload_n (pc := 57) dX11_enter_57 rfl rfl ?_
        refine tz_cV (pc := 58) (c_addEntry hl n _ _ (by omega) a0.1.1.2.2.1.2.2.1) vl_X11_360 dX11_enter_58 o_18 rfl rfl (Nat.le_of_ble_eq_true rfl) ⟨(Nat.le_of_ble_eq_true rfl), (Nat.le_of_ble_eq_true rfl)⟩ rfl rfl (Nat.le_of_ble_eq_true rfl) (Nat.le_of_ble_eq_true rfl) (fun r9 Jd hq9 => ?_)
        obtain ⟨rfl, hj3⟩ := hq9
        have fw : zOf (zbut [19]) Jd Jb := by rw [← hj3]; exact zof_aE
        have a1 : AC Jd m m := a0.led fw (by rw [← hj3]; exact a0.1.1.2.2.aE (by omega))
        refine tz_aload_n (pc := 61) dX11_enter_61 rfl rfl ?_
        refine tz_fR (pc := 62) dX11_enter_62 fl_X11_29 r_0_1 ?_
        refine tz_cV (pc := 65) (x_keep hl n _ m m a1) vl_X11_305 dX11_enter_65 o_5 rfl rfl (Nat.le_of_ble_eq_true rfl) ⟨(Nat.le_of_ble_eq_true rfl), (Nat.le_of_ble_eq_true rfl)⟩ rfl rfl (Nat.le_of_ble_eq_true rfl) (Nat.le_of_ble_eq_true rfl) (fun r9 Jk hq9 => ?_)
        obtain ⟨rfl, k9, kx⟩ := hq9
        refine tz_aload_n (pc := 68) dX11_enter_68 rfl rfl ?_
        refine tz_fR (pc := 69) dX11_enter_69 fl_X11_167 r_18_0 ?_
        refine tz_iconst (pc := 72) dX11_enter_72 ?_
        refine tz_aL (pc := 73) (z := 5) (v := (Jd 19 5)) dX11_enter_73 a_19 rfl (by decide) (Eq.trans (congrFun (k9.2 19 rfl) 5) rfl) (fun r_73 => ?_)
        exact tz_iret (pc := 74) (z := (Jd 19 5)) dX11_enter_74 rfl (Nat.le_of_ble_eq_true rfl) (Nat.le_of_ble_eq_true rfl) ⟨Nat.le_refl _, Nat.le_add_right _ _⟩ ⟨_, rfl, (by omega), ⟨(CQ.k k9 (by rw [fw 145 rfl, hb9 145 rfl]; omega) ((fw 0 rfl).trans (hb9 0 rfl)) ((fw.mono (fun c hc => by have := of_decide_eq_true hc; simp [zbut]; omega)).tr (hb9.mono (fun c hc => by have := of_decide_eq_true hc; simp [zbut]; omega)))), Or.inl ⟨by omega, act_keep cc hI hj fw h21 (show Jd 19 5 = J 19 5 + 1 from by rw [← hj3]; unfold zaE; rw [if_pos (by rw [hb19 5 (by decide)]; omega), zup_at, hb19 5 (by decide)]) (by show (if (0 : Int) = 26 then S 165 26 + 1 else if (0 : Int) = 27 + S 165 26 then t else S 165 0) = S 165 0; rw [if_neg (by decide), if_neg (by omega)]) zen_of (by have c5 := cb.2.1.2.2.1.1; have d5 := hb19 5 (by decide); rw [← hj3]; unfold zaE; rw [if_pos (by omega)]; exact cb.2.1.en ⟨wb.1, by omega, wb.2.2⟩) k9.2 kx⟩⟩⟩
      · refine tz_aload_n (pc := 42) dX11_enter_42 rfl rfl ?_
        refine tz_iconst (pc := 43) dX11_enter_43 ?_
        refine tz_iconst (pc := 44) dX11_enter_44 ?_
        refine tz_cV (pc := 45) (c_refused hl n _ _ _ (by decide) (by omega) (by decide)) vl_X11_284 dX11_enter_45 o_0 rfl rfl (Nat.le_of_ble_eq_true rfl) ⟨(Nat.le_of_ble_eq_true rfl), (Nat.le_of_ble_eq_true rfl)⟩ rfl rfl (Nat.le_of_ble_eq_true rfl) (Nat.le_of_ble_eq_true rfl) (fun r9 J_45 hq9 => ?_)
        obtain ⟨z_45, rfl, hz_45, f9, rfl⟩ := hq9
        exact tz_iret (pc := 48) (z := (-1)) dX11_enter_48 rfl (Nat.le_of_ble_eq_true rfl) (Nat.le_of_ble_eq_true rfl) ⟨Nat.le_refl _, Nat.le_add_right _ _⟩ ⟨_, rfl, (by decide), ⟨(SQ.cq ⟨⟨m, hI.st f9⟩, f9 145 rfl, f9 0 rfl, (f9.mono (fun c hc => by have := of_decide_eq_true hc; simp [zbut]; omega))⟩ (by omega) rfl zOf.rf), Or.inr ⟨by omega, rfl, cc.st hI f9⟩⟩⟩
  · rw [show (if 0 ≤ t ∧ t < J 6 12 then 1 else 0 : Int) = 0 from if_neg hw_19]
    refine tz_if_eqT (pc := 19) (tgt := 42) (by decide) dX11_enter_19 (by decide) (by decide) ?_
    refine tz_aload_n (pc := 42) dX11_enter_42 rfl rfl ?_
    refine tz_iconst (pc := 43) dX11_enter_43 ?_
    refine tz_iconst (pc := 44) dX11_enter_44 ?_
    refine tz_cV (pc := 45) (c_refused hl n _ _ _ (by decide) (by omega) (by decide)) vl_X11_284 dX11_enter_45 o_0 rfl rfl (Nat.le_of_ble_eq_true rfl) ⟨(Nat.le_of_ble_eq_true rfl), (Nat.le_of_ble_eq_true rfl)⟩ rfl rfl (Nat.le_of_ble_eq_true rfl) (Nat.le_of_ble_eq_true rfl) (fun r9 J_45 hq9 => ?_)
    obtain ⟨z_45, rfl, hz_45, f9, rfl⟩ := hq9
    exact tz_iret (pc := 48) (z := (-1)) dX11_enter_48 rfl (Nat.le_of_ble_eq_true rfl) (Nat.le_of_ble_eq_true rfl) ⟨Nat.le_refl _, Nat.le_add_right _ _⟩ ⟨_, rfl, (by decide), ⟨(SQ.cq ⟨⟨m, hI.st f9⟩, f9 145 rfl, f9 0 rfl, (f9.mono (fun c hc => by have := of_decide_eq_true hc; simp [zbut]; omega))⟩ (by omega) rfl zOf.rf), Or.inr ⟨by omega, rfl, cc.st hI f9⟩⟩⟩

set_option maxHeartbeats 4000000 in
set_option maxRecDepth 100000 in
theorem v_leave {l : Launch} {G : tb_G} (hl : l.stackTraces = false) (n : Nat) (J : zJ) (t : Int) (hr_t : -2147483648 ≤ t ∧ t < 2147483648) (m : Int) (S : zJ) (pn : Int) (RR : Int → Int → Int) (hI : CI J m) (h9 : J 145 10 < 1000000000) (cc : CAL J S pn RR) (h21 : S 164 21 = 0) : tz_Ok l G M_X11_leave 2 0 0 [.ref 0, zi t] n J (zqi (fun z J' => CQ J' J ∧ ((((0 ≤ t ∧ t < J 6 12) ∧ eyC J t < J 19 5) ∧ ED S pn RR ((zlv S (eyC J t), J 19 5 - 1)) J' z) ∨ (¬ ((0 ≤ t ∧ t < J 6 12) ∧ eyC J t < J 19 5) ∧ z = -1 ∧ CAL J' S pn RR)))) zN := by
  refine tz_Ok.of hl (by decide +kernel) rfl (tb_c1 rfl) (Nat.le_of_ble_eq_true rfl) ?_
  show tz_At l G M_X11_leave (tb_rm 2 0 0) none (tb_ZM G 0 0 (zQ n 0 (zqi (fun z J' => CQ J' J ∧ ((((0 ≤ t ∧ t < J 6 12) ∧ eyC J t < J 19 5) ∧ ED S pn RR ((zlv S (eyC J t), J 19 5 - 1)) J' z) ∨ (¬ ((0 ≤ t ∧ t < J 6 12) ∧ eyC J t < J 19 5) ∧ z = -1 ∧ CAL J' S pn RR))))) (zX n 0 zN)) 0 0 n J 0 [some (.ref 0), some (zi t), none, none] []
  have hC := hI.1.1.1
  have hm := hI.1.1.2.1
  have hL := hI.1.1.2.2
  have hb := hC.told
  have wb := cc.2.1.b hL
  have h5 := hL.1.2.2.1
  refine tz_aload_n (pc := 0) dX11_leave_0 rfl rfl ?_
  refine tz_fR (pc := 1) dX11_leave_1 fl_X11_29 r_0_1 ?_
  refine tz_fR (pc := 4) dX11_leave_4 fl_X11_156 r_5_1 ?_
  refine tz_astore_n (pc := 7) (L2 := [_, _, _, _]) dX11_leave_7 rfl (by decide) rfl ?_
  refine tz_aload_n (pc := 8) dX11_leave_8 rfl rfl ?_
  refine tz_fR (pc := 9) dX11_leave_9 fl_X11_29 r_0_1 ?_
  refine tz_fR (pc := 12) dX11_leave_12 fl_X11_49 r_5_0 ?_
  refine tz_iload_n (pc := 15) dX11_leave_15 rfl rfl ?_
  refine tz_cV (pc := 16) (c_has hl n _ _ (by omega)) vl_X11_304 dX11_leave_16 o_6 rfl rfl (Nat.le_of_ble_eq_true rfl) ⟨(Nat.le_of_ble_eq_true rfl), (Nat.le_of_ble_eq_true rfl)⟩ rfl rfl (Nat.le_of_ble_eq_true rfl) (Nat.le_of_ble_eq_true rfl) (fun r9 J_16 hq9 => ?_)
  obtain ⟨z_16, rfl, hz_16, rfl, rfl⟩ := hq9
  by_cases hw_19 : 0 ≤ t ∧ t < J 6 12
  · rw [show (if 0 ≤ t ∧ t < J 6 12 then 1 else 0 : Int) = 1 from if_pos hw_19]
    refine tz_if_eqF (pc := 19) (tgt := 30) (by decide) dX11_leave_19 (by decide) (by decide) ?_
    refine tz_aload_n (pc := 22) dX11_leave_22 rfl rfl ?_
    refine tz_iload_n (pc := 23) dX11_leave_23 rfl rfl ?_
    refine tz_cV (pc := 24) (c_entryOf hl n _ _ (by omega) h5) vl_X11_241 dX11_leave_24 o_18 rfl rfl (Nat.le_of_ble_eq_true rfl) ⟨(Nat.le_of_ble_eq_true rfl), (Nat.le_of_ble_eq_true rfl)⟩ rfl rfl (Nat.le_of_ble_eq_true rfl) (Nat.le_of_ble_eq_true rfl) (fun r9 J_24 hq9 => ?_)
    obtain ⟨ze, rfl, hz_24, rfl, he9⟩ := hq9
    have he7 := ey_c h5.1 he9
    refine tz_goto (pc := 27) (tgt := 31) dX11_leave_27 (by decide) ?_
    refine tz_istore_n (pc := 31) (L2 := [_, _, _, _]) dX11_leave_31 rfl (by decide) rfl ?_
    refine tz_iload_n (pc := 32) dX11_leave_32 rfl rfl ?_
    refine tz_iconst (pc := 33) dX11_leave_33 ?_
    refine tz_icmp_ne (pc := 34) (tgt := 44) dX11_leave_34 (by decide) (by omega) (by decide) (fun h_34 => ?_) (fun h_34 => ?_)
    · refine tz_aload_n (pc := 44) dX11_leave_44 rfl rfl ?_
      refine tz_fR (pc := 45) dX11_leave_45 fl_X11_29 r_0_1 ?_
      refine tz_cV (pc := 48) (c_begin hl n _) vl_X11_287 dX11_leave_48 o_5 rfl rfl (Nat.le_of_ble_eq_true rfl) ⟨(Nat.le_of_ble_eq_true rfl), (Nat.le_of_ble_eq_true rfl)⟩ rfl rfl (Nat.le_of_ble_eq_true rfl) (Nat.le_of_ble_eq_true rfl) (fun r9 Jb hq9 => ?_)
      obtain ⟨rfl, hj⟩ := hq9
      have hb9 : zOf (zbut [19, 61]) Jb J := by rw [← hj]; exact zOf.cp rfl (zOf.up rfl zOf.rf)
      have hb19 : ∀ k, ¬ k = 0 → Jb 19 k = J 19 k := fun k hk => by rw [← hj, zcp_nc (by decide), zup_ne hk]
      have a0 : AC Jb m m := by rw [← hj]; exact hI.begin
      have hb6 := a0.1.1.2.1
      obtain ⟨cb, kb, lb⟩ := cc.begin hI hj
      refine tz_aload_n (pc := 51) dX11_leave_51 rfl rfl ?_
      refine tz_iload_n (pc := 52) dX11_leave_52 rfl rfl ?_
      have he8 : 0 ≤ ze ∧ ze < J 19 5 := by omega
      refine tz_cV (pc := 53) (c_dropEntry hl n _ _ (by omega) (by rw [hb19 5 (by decide)]; omega) a0.1.1.2.2.1.2.2.1.2) vl_X11_363 dX11_leave_53 o_18 rfl rfl (Nat.le_of_ble_eq_true rfl) ⟨(Nat.le_of_ble_eq_true rfl), (Nat.le_of_ble_eq_true rfl)⟩ rfl rfl (Nat.le_of_ble_eq_true rfl) (Nat.le_of_ble_eq_true rfl) (fun r9 Jd hq9 => ?_)
      obtain ⟨rfl, hj3⟩ := hq9
      have fw : zOf (zbut [19]) Jd Jb := by rw [← hj3]; exact zof_dE
      have a1 : AC Jd m m := a0.led fw (by rw [← hj3]; exact a0.1.1.2.2.dE (by rw [hb19 5 (by decide)]; omega))
      refine tz_aload_n (pc := 56) dX11_leave_56 rfl rfl ?_
      refine tz_fR (pc := 57) dX11_leave_57 fl_X11_29 r_0_1 ?_
      refine tz_cV (pc := 60) (x_keep hl n _ m m a1) vl_X11_305 dX11_leave_60 o_5 rfl rfl (Nat.le_of_ble_eq_true rfl) ⟨(Nat.le_of_ble_eq_true rfl), (Nat.le_of_ble_eq_true rfl)⟩ rfl rfl (Nat.le_of_ble_eq_true rfl) (Nat.le_of_ble_eq_true rfl) (fun r9 Jk hq9 => ?_)
      obtain ⟨rfl, k9, kx⟩ := hq9
      refine tz_aload_n (pc := 63) dX11_leave_63 rfl rfl ?_
      refine tz_fR (pc := 64) dX11_leave_64 fl_X11_167 r_18_0 ?_
      refine tz_iconst (pc := 67) dX11_leave_67 ?_
      refine tz_aL (pc := 68) (z := 5) (v := (Jd 19 5)) dX11_leave_68 a_19 rfl (by decide) (Eq.trans (congrFun (k9.2 19 rfl) 5) rfl) (fun r_68 => ?_)
      exact tz_iret (pc := 69) (z := (Jd 19 5)) dX11_leave_69 rfl (Nat.le_of_ble_eq_true rfl) (Nat.le_of_ble_eq_true rfl) ⟨Nat.le_refl _, Nat.le_add_right _ _⟩ ⟨_, rfl, (by omega), ⟨(CQ.k k9 (by rw [fw 145 rfl, hb9 145 rfl]; omega) ((fw 0 rfl).trans (hb9 0 rfl)) ((fw.mono (fun c hc => by have := of_decide_eq_true hc; simp [zbut]; omega)).tr (hb9.mono (fun c hc => by have := of_decide_eq_true hc; simp [zbut]; omega)))), Or.inl ⟨by omega, act_keep cc hI hj fw h21 (show Jd 19 5 = J 19 5 - 1 from by rw [← hj3]; unfold zdE; rw [zup_at, hb19 5 (by decide)]) (by show (if (0 : Int) = 26 then S 165 26 - 1 else if 27 + eyC J t ≤ 0 ∧ (0 : Int) < 27 + (S 165 26 - 1) then S 165 (0 + 1) else S 165 0) = S 165 0; rw [if_neg (by decide), if_neg (by omega)]) (fun c hc => if_neg (fun e => by rw [e] at hc; cases hc)) (by have c5 := cb.2.1.2.2.1.1; have d5 := hb19 5 (by decide); have ez : eyC J t = ze := (by omega); rw [← hj3, ez]; exact cb.2.1.lv (by omega) wb) k9.2 kx⟩⟩⟩
    · refine tz_aload_n (pc := 37) dX11_leave_37 rfl rfl ?_
      refine tz_iconst (pc := 38) dX11_leave_38 ?_
      refine tz_iconst (pc := 39) dX11_leave_39 ?_
      refine tz_cV (pc := 40) (c_refused hl n _ _ _ (by decide) (by omega) (by decide)) vl_X11_284 dX11_leave_40 o_0 rfl rfl (Nat.le_of_ble_eq_true rfl) ⟨(Nat.le_of_ble_eq_true rfl), (Nat.le_of_ble_eq_true rfl)⟩ rfl rfl (Nat.le_of_ble_eq_true rfl) (Nat.le_of_ble_eq_true rfl) (fun r9 J_40 hq9 => ?_)
      obtain ⟨z_40, rfl, hz_40, f9, rfl⟩ := hq9
      exact tz_iret (pc := 43) (z := (-1)) dX11_leave_43 rfl (Nat.le_of_ble_eq_true rfl) (Nat.le_of_ble_eq_true rfl) ⟨Nat.le_refl _, Nat.le_add_right _ _⟩ ⟨_, rfl, (by decide), ⟨(SQ.cq ⟨⟨m, hI.st f9⟩, f9 145 rfl, f9 0 rfl, (f9.mono (fun c hc => by have := of_decide_eq_true hc; simp [zbut]; omega))⟩ (by omega) rfl zOf.rf), Or.inr ⟨by omega, rfl, cc.st hI f9⟩⟩⟩
  · rw [show (if 0 ≤ t ∧ t < J 6 12 then 1 else 0 : Int) = 0 from if_neg hw_19]
    refine tz_if_eqT (pc := 19) (tgt := 30) (by decide) dX11_leave_19 (by decide) (by decide) ?_
    refine tz_iconst (pc := 30) dX11_leave_30 ?_
    refine tz_istore_n (pc := 31) (L2 := [_, _, _, _]) dX11_leave_31 rfl (by decide) rfl ?_
    refine tz_iload_n (pc := 32) dX11_leave_32 rfl rfl ?_
    refine tz_iconst (pc := 33) dX11_leave_33 ?_
    refine tz_icmp_neF (pc := 34) (tgt := 44) (by decide) dX11_leave_34 (by decide) (by decide) (by decide) ?_
    refine tz_aload_n (pc := 37) dX11_leave_37 rfl rfl ?_
    refine tz_iconst (pc := 38) dX11_leave_38 ?_
    refine tz_iconst (pc := 39) dX11_leave_39 ?_
    refine tz_cV (pc := 40) (c_refused hl n _ _ _ (by decide) (by omega) (by decide)) vl_X11_284 dX11_leave_40 o_0 rfl rfl (Nat.le_of_ble_eq_true rfl) ⟨(Nat.le_of_ble_eq_true rfl), (Nat.le_of_ble_eq_true rfl)⟩ rfl rfl (Nat.le_of_ble_eq_true rfl) (Nat.le_of_ble_eq_true rfl) (fun r9 J_40 hq9 => ?_)
    obtain ⟨z_40, rfl, hz_40, f9, rfl⟩ := hq9
    exact tz_iret (pc := 43) (z := (-1)) dX11_leave_43 rfl (Nat.le_of_ble_eq_true rfl) (Nat.le_of_ble_eq_true rfl) ⟨Nat.le_refl _, Nat.le_add_right _ _⟩ ⟨_, rfl, (by decide), ⟨(SQ.cq ⟨⟨m, hI.st f9⟩, f9 145 rfl, f9 0 rfl, (f9.mono (fun c hc => by have := of_decide_eq_true hc; simp [zbut]; omega))⟩ (by omega) rfl zOf.rf), Or.inr ⟨by omega, rfl, cc.st hI f9⟩⟩⟩

