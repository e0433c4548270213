section
/-! ===== bind, room, enter, leave, rules of the class, exact ===== -/
/-- what the five do to a row -/
def zbd (S : zJ) (v t : Int) : zJ := zup S 165 (1 + v) (t + 1)
def zrm (S : zJ) (x : Int) : zJ := zup (zup S 165 39 x) 165 40 0
def zlv (S : zJ) (w : Int) : zJ := fun c => if c = 165 then (fun k => if k = 26 then S 165 26 - 1 else if 27 + w ≤ k ∧ k < 27 + (S 165 26 - 1) then S 165 (k + 1) else S 165 k) else S c
def zru (S : zJ) (u t : Int) : zJ := zup (zrl S 0 u t) 165 40 0
theorem RW.bd {f h : Int → Int} {x t : Int} (w : RW f h) (hx : 0 ≤ x ∧ x < 8) (b : h 9 ≤ 8 ∧ h 26 ≤ 12 ∧ h 40 ≤ 9) : RW (fun k => if k = 7 + x then t else f k) (fun k => if k = 1 + x then t + 1 else h k) := by
  obtain ⟨⟨a1, a2, a3⟩, ⟨b1, b2⟩, ⟨c1, c2⟩, ⟨d1, d2⟩, v⟩ := w
  refine ⟨⟨?_, ?_, ?_⟩, ⟨?_, fun i p q => ?_⟩, ⟨?_, fun i p q => ?_⟩, ⟨?_, fun i p q => ?_⟩, fun i p q => ?_⟩
  · dsimp only; rw [if_neg (by omega), if_neg (by omega)]; exact a1
  · dsimp only; rw [if_neg (by omega), if_neg (by omega)]; exact a2
  · dsimp only; rw [if_neg (by omega), if_neg (by omega)]; exact a3
  · dsimp only; rw [if_neg (by omega), if_neg (by omega)]; exact b1
  · dsimp only at q ⊢
    rw [if_neg (by omega)] at q
    rw [if_neg (by omega), if_neg (by omega), if_neg (by omega), if_neg (by omega)]; exact b2 i p q
  · dsimp only; rw [if_neg (by omega), if_neg (by omega)]; exact c1
  · dsimp only at q ⊢
    rw [if_neg (by omega)] at q
    rw [if_neg (by omega), if_neg (by omega)]; exact c2 i p q
  · dsimp only; rw [if_neg (by omega), if_neg (by omega)]; exact d1
  · dsimp only at q ⊢
    rw [if_neg (by omega)] at q
    rw [if_neg (by omega), if_neg (by omega), if_neg (by omega), if_neg (by omega)]; exact d2 i p q
  · dsimp only
    by_cases e : i = x
    · rw [if_pos (by omega), if_pos (by omega)]
    · rw [if_neg (by omega), if_neg (by omega)]; exact v i p q
theorem RW.ro {f h : Int → Int} {x : Int} (w : RW f h) (b : (0 ≤ h 9 ∧ h 9 ≤ 8) ∧ (0 ≤ h 26 ∧ h 26 ≤ 12)) : RW (fun k => if k = 6 then 0 else if k = 1 then x else f k) (fun k => if k = 40 then 0 else if k = 39 then x else h k) := by
  obtain ⟨⟨a1, a2, a3⟩, ⟨b1, b2⟩, ⟨c1, c2⟩, ⟨d1, d2⟩, v⟩ := w
  refine ⟨⟨rfl, a2, a3⟩, ⟨b1, fun i p q => ?_⟩, ⟨c1, fun i p q => ?_⟩, ⟨rfl, fun i p q => ?_⟩, fun i p q => ?_⟩
  · have q : i < h 9 := q
    dsimp only
    rw [if_neg (by omega), if_neg (by omega), if_neg (by omega), if_neg (by omega), if_neg (by omega), if_neg (by omega), if_neg (by omega), if_neg (by omega)]; exact b2 i p q
  · have q : i < h 26 := q
    dsimp only
    rw [if_neg (by omega), if_neg (by omega), if_neg (by omega), if_neg (by omega)]; exact c2 i p q
  · have q : i < 0 := q
    omega
  · dsimp only
    rw [if_neg (by omega), if_neg (by omega), if_neg (by omega), if_neg (by omega)]; exact v i p q
theorem RW.en {f h : Int → Int} {t : Int} (w : RW f h) (b : (0 ≤ h 9 ∧ h 9 ≤ 8) ∧ (0 ≤ h 26 ∧ h 26 < 12) ∧ (0 ≤ h 40 ∧ h 40 ≤ 9)) : RW (fun k => if k = 5 then f 5 + 1 else if k = 31 + f 5 then t else f k) (fun k => if k = 26 then h 26 + 1 else if k = 27 + h 26 then t else h k) := by
  obtain ⟨⟨a1, a2, a3⟩, ⟨b1, b2⟩, ⟨c1, c2⟩, ⟨d1, d2⟩, v⟩ := w
  refine ⟨⟨?_, ?_, ?_⟩, ⟨?_, fun i p q => ?_⟩, ⟨?_, fun i p q => ?_⟩, ⟨?_, fun i p q => ?_⟩, fun i p q => ?_⟩
  · dsimp only; rw [if_neg (by omega), if_neg (by omega), if_neg (by omega), if_neg (by omega)]; exact a1
  · dsimp only; rw [if_neg (by omega), if_neg (by omega), if_neg (by omega), if_neg (by omega)]; exact a2
  · dsimp only; rw [if_neg (by omega), if_neg (by omega), if_neg (by omega), if_neg (by omega)]; exact a3
  · dsimp only; rw [if_neg (by omega), if_neg (by omega), if_neg (by omega), if_neg (by omega)]; exact b1
  · dsimp only at q ⊢
    rw [if_neg (by omega), if_neg (by omega)] at q
    rw [if_neg (by omega), if_neg (by omega), if_neg (by omega), if_neg (by omega), if_neg (by omega), if_neg (by omega), if_neg (by omega), if_neg (by omega)]; exact b2 i p q
  · dsimp only; rw [if_pos rfl, if_pos rfl, c1]
  · dsimp only at q ⊢
    rw [if_pos rfl] at q
    by_cases e : i = h 26
    · rw [if_neg (by omega), if_pos (by omega), if_neg (by omega), if_pos (by omega)]
    · rw [if_neg (by omega), if_neg (by omega), if_neg (by omega), if_neg (by omega)]; exact c2 i p (by omega)
  · dsimp only; rw [if_neg (by omega), if_neg (by omega), if_neg (by omega), if_neg (by omega)]; exact d1
  · dsimp only at q ⊢
    rw [if_neg (by omega), if_neg (by omega)] at q
    rw [if_neg (by omega), if_neg (by omega), if_neg (by omega), if_neg (by omega), if_neg (by omega), if_neg (by omega), if_neg (by omega), if_neg (by omega)]; exact d2 i p q
  · dsimp only
    rw [if_neg (by omega), if_neg (by omega), if_neg (by omega), if_neg (by omega)]; exact v i p q
theorem RW.lv {f h : Int → Int} {w : Int} (r : RW f h) (hw : 0 ≤ w ∧ w < h 26) (b : (0 ≤ h 9 ∧ h 9 ≤ 8) ∧ (0 ≤ h 26 ∧ h 26 ≤ 12) ∧ (0 ≤ h 40 ∧ h 40 ≤ 9)) : RW (fun k => if k = 5 then f 5 - 1 else if 31 + w ≤ k ∧ k < 31 + (f 5 - 1) then f (k + 1) else f k) (fun k => if k = 26 then h 26 - 1 else if 27 + w ≤ k ∧ k < 27 + (h 26 - 1) then h (k + 1) else h k) := by
  obtain ⟨⟨a1, a2, a3⟩, ⟨b1, b2⟩, ⟨c1, c2⟩, ⟨d1, d2⟩, v⟩ := r
  refine ⟨⟨?_, ?_, ?_⟩, ⟨?_, fun i p q => ?_⟩, ⟨?_, fun i p q => ?_⟩, ⟨?_, fun i p q => ?_⟩, fun i p q => ?_⟩
  · dsimp only; rw [if_neg (by omega), if_neg (by omega), if_neg (by omega), if_neg (by omega)]; exact a1
  · dsimp only; rw [if_neg (by omega), if_neg (by omega), if_neg (by omega), if_neg (by omega)]; exact a2
  · dsimp only; rw [if_neg (by omega), if_neg (by omega), if_neg (by omega), if_neg (by omega)]; exact a3
  · dsimp only; rw [if_neg (by omega), if_neg (by omega), if_neg (by omega), if_neg (by omega)]; exact b1
  · dsimp only at q ⊢
    rw [if_neg (by omega), if_neg (by omega)] at q
    rw [if_neg (by omega), if_neg (by omega), if_neg (by omega), if_neg (by omega), if_neg (by omega), if_neg (by omega), if_neg (by omega), if_neg (by omega)]; exact b2 i p q
  · dsimp only; rw [if_pos rfl, if_pos rfl, c1]
  · dsimp only at q ⊢
    rw [if_pos rfl] at q
    by_cases e : w ≤ i
    · rw [if_neg (by omega), if_pos (by omega), if_neg (by omega), if_pos (by omega), show 31 + i + 1 = 31 + (i + 1) from by omega, show 27 + i + 1 = 27 + (i + 1) from by omega]
      exact c2 (i + 1) (by omega) (by omega)
    · rw [if_neg (by omega), if_neg (by omega), if_neg (by omega), if_neg (by omega)]; exact c2 i p (by omega)
  · dsimp only; rw [if_neg (by omega), if_neg (by omega), if_neg (by omega), if_neg (by omega)]; exact d1
  · dsimp only at q ⊢
    rw [if_neg (by omega), if_neg (by omega)] at q
    rw [if_neg (by omega), if_neg (by omega), if_neg (by omega), if_neg (by omega), if_neg (by omega), if_neg (by omega), if_neg (by omega), if_neg (by omega)]; exact d2 i p q
  · dsimp only
    rw [if_neg (by omega), if_neg (by omega), if_neg (by omega), if_neg (by omega)]; exact v i p q
theorem RW.ru {f h : Int → Int} {x y : Int} (w : RW f h) (b : (0 ≤ h 9 ∧ h 9 < 8) ∧ (0 ≤ h 26 ∧ h 26 ≤ 12)) : RW (fun k => if k = 6 then 0 else if k = 4 then f 4 + 1 else if k = 23 + f 4 then y else if k = 15 + f 4 then x else f k) (fun k => if k = 40 then 0 else if k = 9 then h 9 + 1 else if k = 10 + 2 * h 9 + 1 then y else if k = 10 + 2 * h 9 then x else h k) := by
  obtain ⟨⟨a1, a2, a3⟩, ⟨b1, b2⟩, ⟨c1, c2⟩, ⟨d1, d2⟩, v⟩ := w
  refine ⟨⟨?_, ?_, ?_⟩, ⟨?_, fun i p q => ?_⟩, ⟨?_, fun i p q => ?_⟩, ⟨rfl, fun i p q => ?_⟩, fun i p q => ?_⟩
  · dsimp only; rw [if_neg (by omega), if_neg (by omega), if_neg (by omega), if_neg (by omega), if_neg (by omega), if_neg (by omega), if_neg (by omega), if_neg (by omega)]; exact a1
  · dsimp only; rw [if_neg (by omega), if_neg (by omega), if_neg (by omega), if_neg (by omega), if_neg (by omega), if_neg (by omega), if_neg (by omega), if_neg (by omega)]; exact a2
  · dsimp only; rw [if_neg (by omega), if_neg (by omega), if_neg (by omega), if_neg (by omega), if_neg (by omega), if_neg (by omega), if_neg (by omega), if_neg (by omega)]; exact a3
  · dsimp only; rw [if_neg (by omega), if_pos rfl, if_neg (by omega), if_pos rfl, b1]
  · dsimp only at q ⊢
    rw [if_neg (by omega), if_pos rfl] at q
    by_cases e : i = h 9
    · refine ⟨?_, ?_⟩
      · rw [if_neg (by omega), if_neg (by omega), if_neg (by omega), if_pos (by omega), if_neg (by omega), if_neg (by omega), if_neg (by omega), if_pos (by omega)]
      · rw [if_neg (by omega), if_neg (by omega), if_pos (by omega), if_neg (by omega), if_neg (by omega), if_pos (by omega)]
    · have := b2 i p (by omega)
      refine ⟨?_, ?_⟩
      · rw [if_neg (by omega), if_neg (by omega), if_neg (by omega), if_neg (by omega), if_neg (by omega), if_neg (by omega), if_neg (by omega), if_neg (by omega)]; exact this.1
      · rw [if_neg (by omega), if_neg (by omega), if_neg (by omega), if_neg (by omega), if_neg (by omega), if_neg (by omega), if_neg (by omega), if_neg (by omega)]; exact this.2
  · dsimp only; rw [if_neg (by omega), if_neg (by omega), if_neg (by omega), if_neg (by omega), if_neg (by omega), if_neg (by omega), if_neg (by omega), if_neg (by omega)]; exact c1
  · dsimp only at q ⊢
    rw [if_neg (by omega), if_neg (by omega), if_neg (by omega), if_neg (by omega)] at q
    rw [if_neg (by omega), if_neg (by omega), if_neg (by omega), if_neg (by omega), if_neg (by omega), if_neg (by omega), if_neg (by omega), if_neg (by omega)]; exact c2 i p q
  · have q : i < 0 := q
    omega
  · dsimp only
    rw [if_neg (by omega), if_neg (by omega), if_neg (by omega), if_neg (by omega), if_neg (by omega), if_neg (by omega), if_neg (by omega), if_neg (by omega)]; exact v i p q
/-- the counts of the reference's row are in bounds where the class's are -/
theorem RW.b {f h : Int → Int} {m : Int} (w : RW f h) (l : LI f m) : (0 ≤ h 9 ∧ h 9 ≤ 8) ∧ (0 ≤ h 26 ∧ h 26 ≤ 12) ∧ (0 ≤ h 40 ∧ h 40 ≤ 9) := by
  obtain ⟨_, ⟨b1, _⟩, ⟨c1, _⟩, ⟨d1, _⟩, _⟩ := w
  obtain ⟨⟨_, l4, l5, l6⟩, _⟩ := l
  exact ⟨by omega, by omega, by omega⟩
theorem A0.g {J g' g : zJ} (E : A0 J g) (h5 : g' 165 0 = g 165 0) (f : zOf (zbut [165]) g' g) : A0 J g' := by
  unfold A0
  rw [f 164 rfl, f 166 rfl, f 167 rfl, f 168 rfl, f 169 rfl, f 170 rfl, f 171 rfl, h5]
  exact E
/-- an act that writes the row alone, and is kept -/
theorem act_keep {J Jb Jo J' S : zJ} {F : zJ × Int} {n m z : Int} {R : Int → Int → Int} (c : CAL J S n R) (hI : CI J m) (hj : zcp (zup J 19 0 (J 6 12)) 19 61 0 0 61 = Jb) (f : zOf (zbut [19]) Jo Jb) (h21 : F.1 164 21 = 0) (hz : z = F.2) (h5 : F.1 165 0 = S 165 0) (fF : zOf (zbut [165]) F.1 S) (w : RW (Jo 19) (F.1 165)) (k : zOf fkp J' Jo) (kx : KX J' Jo) : ED S n R F J' z := by
  obtain ⟨b1, b2, b3⟩ := c.begin hI hj
  have hn := hI.2.1
  have nn := c.2.2.1
  have eb : ∀ q, ¬ q = 19 → ¬ q = 61 → Jb q = J q := fun q a b => by rw [← hj, zcp_nc b, zup_nc a]
  have fo : ∀ c, ¬ c = 19 → Jo c = Jb c := fun c hc => f c (by simp [zbut]; omega)
  have cu : CU Jo n R := b1.2.2.of (by omega) (fo 5 (by decide)) (fun i a b => fo _ (by unfold zU; omega))
  have e61 : Jo 61 = Jb 61 := fo 61 (by decide)
  have h55 : 0 ≤ Jo 5 5 ∧ Jo 5 5 < 40 := by rw [fo 5 (by decide), eb 5 (by decide) (by decide)]; exact hn.1
  exact Or.inr ⟨h21, hz, ((b1.1.f (fun c hc => fo c (by omega))).f (fun c hc => k c (decide_eq_true (by omega)))).g h5 fF, by rw [k 19 rfl]; exact w, cu.keep (m := m) (by omega) h55 (by rw [e61]; exact b2) (by rw [e61]; exact b3) kx⟩
set_option maxHeartbeats 4000000 in
set_option maxRecDepth 100000 in
theorem v_bind {l : Launch} {G : tb_G} (hl : l.stackTraces = false) (n : Nat) (J : zJ) (x : Int) (t : Int) (hr_x : -2147483648 ≤ x ∧ x < 2147483648) (hr_t : -2147483648 ≤ t ∧ t < 2147483648) (m : Int) (S : zJ) (pn : Int) (RR : Int → Int → Int) (hI : CI J m) (h9 : J 145 10 < 1000000000) (cc : CAL J S pn RR) (h21 : S 164 21 = 0) : tz_Ok l G M_X11_bind 2 0 0 [.ref 0, zi x, zi t] n J (zqi (fun z J' => CQ J' J ∧ ((((0 ≤ x ∧ x < 8) ∧ (t = -1 ∨ (0 ≤ t ∧ t < J 6 12)) ∧ ¬ J 19 (7 + x) = t) ∧ ED S pn RR ((zbd S x t, J 19 (7 + x))) J' z) ∨ (¬ ((0 ≤ x ∧ x < 8) ∧ (t = -1 ∨ (0 ≤ t ∧ t < J 6 12)) ∧ ¬ J 19 (7 + x) = t) ∧ z = -2 ∧ CAL J' S pn RR)))) zN := by
  refine tz_Ok.of hl (by decide +kernel) rfl (tb_c1 rfl) (Nat.le_of_ble_eq_true rfl) ?_
  show tz_At l G M_X11_bind (tb_rm 2 0 0) none (tb_ZM G 0 0 (zQ n 0 (zqi (fun z J' => CQ J' J ∧ ((((0 ≤ x ∧ x < 8) ∧ (t = -1 ∨ (0 ≤ t ∧ t < J 6 12)) ∧ ¬ J 19 (7 + x) = t) ∧ ED S pn RR ((zbd S x t, J 19 (7 + x))) J' z) ∨ (¬ ((0 ≤ x ∧ x < 8) ∧ (t = -1 ∨ (0 ≤ t ∧ t < J 6 12)) ∧ ¬ J 19 (7 + x) = t) ∧ z = -2 ∧ CAL J' S pn RR))))) (zX n 0 zN)) 0 0 n J 0 [some (.ref 0), some (zi x), some (zi t), none] []
  have hC := hI.1.1.1
  have hm := hI.1.1.2.1
  have hL := hI.1.1.2.2
  have hb := hC.told
  have wb := cc.2.1.b hL
  refine tz_iload_n (pc := 0) dX11_bind_0 rfl rfl ?_
  refine tz_cS (pc := 1) (c_isVarN hl n _ _ (by omega)) sl_X11_279 dX11_bind_1 rfl rfl (Nat.le_of_ble_eq_true rfl) ⟨(Nat.le_of_ble_eq_true rfl), (Nat.le_of_ble_eq_true rfl)⟩ rfl rfl (Nat.le_of_ble_eq_true rfl) (Nat.le_of_ble_eq_true rfl) (fun r9 J_1 hq9 => ?_)
  obtain ⟨z_1, rfl, hz_1, rfl, rfl⟩ := hq9
  by_cases hw_4 : 0 ≤ x ∧ x < 8
  · rw [show (if 0 ≤ x ∧ x < 8 then 1 else 0 : Int) = 1 from if_pos hw_4]
    refine tz_if_eqF (pc := 4) (tgt := 26) (by decide) dX11_bind_4 (by decide) (by decide) ?_
    refine tz_iload_n (pc := 7) dX11_bind_7 rfl rfl ?_
    refine tz_iconst (pc := 8) dX11_bind_8 ?_
    refine tz_icmp_eq (pc := 9) (tgt := 34) dX11_bind_9 (by decide) (by omega) (by decide) (fun h_9 => ?_) (fun h_9 => ?_)
    · refine tz_aload_n (pc := 34) dX11_bind_34 rfl rfl ?_
      refine tz_fR (pc := 35) dX11_bind_35 fl_X11_29 r_0_1 ?_
      refine tz_fR (pc := 38) dX11_bind_38 fl_X11_156 r_5_1 ?_
      refine tz_fR (pc := 41) dX11_bind_41 fl_X11_167 r_18_0 ?_
      refine tz_bipush (pc := 44) dX11_bind_44 (by decide) ?_
      refine tz_iload_n (pc := 46) dX11_bind_46 rfl rfl ?_
      refine tz_iadd (pc := 47) (v := 7 + x) dX11_bind_47 rfl ?_
      have hq := hL.2.1 x (by omega) (by omega)
      refine tz_aL (pc := 48) (z := (7 + x)) (v := (J 19 (7 + x))) dX11_bind_48 a_19 rfl (by omega) rfl (fun r_48 => ?_)
      refine tz_istore_n (pc := 49) (L2 := [_, _, _, _]) dX11_bind_49 rfl (by decide) rfl ?_
      refine tz_iload_n (pc := 50) dX11_bind_50 rfl rfl ?_
      refine tz_iload_n (pc := 51) dX11_bind_51 rfl rfl ?_
      refine tz_icmp_ne (pc := 52) (tgt := 63) dX11_bind_52 (by decide) (by omega) (by omega) (fun h_52 => ?_) (fun h_52 => ?_)
      · refine tz_aload_n (pc := 63) dX11_bind_63 rfl rfl ?_
        refine tz_fR (pc := 64) dX11_bind_64 fl_X11_29 r_0_1 ?_
        refine tz_cV (pc := 67) (c_begin hl n _) vl_X11_287 dX11_bind_67 o_5 rfl rfl (Nat.le_of_ble_eq_true rfl) ⟨(Nat.le_of_ble_eq_true rfl), (Nat.le_of_ble_eq_true rfl)⟩ rfl rfl (Nat.le_of_ble_eq_true rfl) (Nat.le_of_ble_eq_true rfl) (fun r9 Jb hq9 => ?_)
        obtain ⟨rfl, hj⟩ := hq9
        have hb9 : zOf (zbut [19, 61]) Jb J := by rw [← hj]; exact zOf.cp rfl (zOf.up rfl zOf.rf)
        have hb19 : ∀ k, ¬ k = 0 → Jb 19 k = J 19 k := fun k hk => by rw [← hj, zcp_nc (by decide), zup_ne hk]
        have a0 : AC Jb m m := by rw [← hj]; exact hI.begin
        have hb6 := a0.1.1.2.1
        obtain ⟨cb, kb, lb⟩ := cc.begin hI hj
        refine tz_aload_n (pc := 70) dX11_bind_70 rfl rfl ?_
        refine tz_fR (pc := 71) dX11_bind_71 fl_X11_29 r_0_1 ?_
        refine tz_fR (pc := 74) dX11_bind_74 fl_X11_156 r_5_1 ?_
        refine tz_fR (pc := 77) dX11_bind_77 fl_X11_167 r_18_0 ?_
        refine tz_bipush (pc := 80) dX11_bind_80 (by decide) ?_
        refine tz_iload_n (pc := 82) dX11_bind_82 rfl rfl ?_
        refine tz_iadd (pc := 83) (v := 7 + x) dX11_bind_83 rfl ?_
        refine tz_iload_n (pc := 84) dX11_bind_84 rfl rfl ?_
        refine tz_aS (pc := 85) (z := (7 + x)) dX11_bind_85 a_19 rfl (by omega) (by omega) ?_
        have fw : zOf (zbut [19]) (zup Jb 19 (7 + x) t) Jb := zOf.up rfl zOf.rf
        have a1 : AC (zup Jb 19 (7 + x) t) m m := a0.led fw (a0.1.1.2.2.bind (by omega) (by omega))
        refine tz_aload_n (pc := 86) dX11_bind_86 rfl rfl ?_
        refine tz_fR (pc := 87) dX11_bind_87 fl_X11_29 r_0_1 ?_
        refine tz_cV (pc := 90) (x_keep hl n _ m m a1) vl_X11_305 dX11_bind_90 o_5 rfl rfl (Nat.le_of_ble_eq_true rfl) ⟨(Nat.le_of_ble_eq_true rfl), (Nat.le_of_ble_eq_true rfl)⟩ rfl rfl (Nat.le_of_ble_eq_true rfl) (Nat.le_of_ble_eq_true rfl) (fun r9 Jk hq9 => ?_)
        obtain ⟨rfl, k9, kx⟩ := hq9
        refine tz_iload_n (pc := 93) dX11_bind_93 rfl rfl ?_
        exact tz_iret (pc := 94) (z := (J 19 (7 + x))) dX11_bind_94 rfl (Nat.le_of_ble_eq_true rfl) (Nat.le_of_ble_eq_true rfl) ⟨Nat.le_refl _, Nat.le_add_right _ _⟩ ⟨_, rfl, (by omega), ⟨(CQ.k k9 (by rw [fw 145 rfl, hb9 145 rfl]; omega) ((fw 0 rfl).trans (hb9 0 rfl)) ((fw.mono (fun c hc => by have := of_decide_eq_true hc; simp [zbut]; omega)).tr (hb9.mono (fun c hc => by have := of_decide_eq_true hc; simp [zbut]; omega)))), Or.inl ⟨by omega, act_keep cc hI hj fw h21 rfl (by show zup S 165 (1 + x) (t + 1) 165 0 = S 165 0; exact zup_ne (by omega)) (zOf.up rfl zOf.rf) (cb.2.1.bd (by omega) (by omega)) k9.2 kx⟩⟩⟩
      · refine tz_aload_n (pc := 55) dX11_bind_55 rfl rfl ?_
        refine tz_iconst (pc := 56) dX11_bind_56 ?_
        refine tz_bipush (pc := 57) dX11_bind_57 (by decide) ?_
        refine tz_cV (pc := 59) (c_refused hl n _ _ _ (by decide) (by omega) (by decide)) vl_X11_284 dX11_bind_59 o_0 rfl rfl (Nat.le_of_ble_eq_true rfl) ⟨(Nat.le_of_ble_eq_true rfl), (Nat.le_of_ble_eq_true rfl)⟩ rfl rfl (Nat.le_of_ble_eq_true rfl) (Nat.le_of_ble_eq_true rfl) (fun r9 J_59 hq9 => ?_)
        obtain ⟨z_59, rfl, hz_59, f9, rfl⟩ := hq9
        exact tz_iret (pc := 62) (z := (-2)) dX11_bind_62 rfl (Nat.le_of_ble_eq_true rfl) (Nat.le_of_ble_eq_true rfl) ⟨Nat.le_refl _, Nat.le_add_right _ _⟩ ⟨_, rfl, (by decide), ⟨(SQ.cq ⟨⟨m, hI.st f9⟩, f9 145 rfl, f9 0 rfl, (f9.mono (fun c hc => by have := of_decide_eq_true hc; simp [zbut]; omega))⟩ (by omega) rfl zOf.rf), Or.inr ⟨by omega, rfl, cc.st hI f9⟩⟩⟩
    · refine tz_aload_n (pc := 12) dX11_bind_12 rfl rfl ?_
      refine tz_fR (pc := 13) dX11_bind_13 fl_X11_29 r_0_1 ?_
      refine tz_fR (pc := 16) dX11_bind_16 fl_X11_49 r_5_0 ?_
      refine tz_iload_n (pc := 19) dX11_bind_19 rfl rfl ?_
      refine tz_cV (pc := 20) (c_has hl n _ _ (by omega)) vl_X11_304 dX11_bind_20 o_6 rfl rfl (Nat.le_of_ble_eq_true rfl) ⟨(Nat.le_of_ble_eq_true rfl), (Nat.le_of_ble_eq_true rfl)⟩ rfl rfl (Nat.le_of_ble_eq_true rfl) (Nat.le_of_ble_eq_true rfl) (fun r9 J_20 hq9 => ?_)
      obtain ⟨z_20, rfl, hz_20, rfl, rfl⟩ := hq9
      by_cases hw_23 : 0 ≤ t ∧ t < J 6 12
      · rw [show (if 0 ≤ t ∧ t < J 6 12 then 1 else 0 : Int) = 1 from if_pos hw_23]
        refine tz_if_neT (pc := 23) (tgt := 34) (by decide) dX11_bind_23 (by decide) (by decide) ?_
        refine tz_aload_n (pc := 34) dX11_bind_34 rfl rfl ?_
        refine tz_fR (pc := 35) dX11_bind_35 fl_X11_29 r_0_1 ?_
        refine tz_fR (pc := 38) dX11_bind_38 fl_X11_156 r_5_1 ?_
        refine tz_fR (pc := 41) dX11_bind_41 fl_X11_167 r_18_0 ?_
        refine tz_bipush (pc := 44) dX11_bind_44 (by decide) ?_
        refine tz_iload_n (pc := 46) dX11_bind_46 rfl rfl ?_
        refine tz_iadd (pc := 47) (v := 7 + x) dX11_bind_47 rfl ?_
        have hq := hL.2.1 x (by omega) (by omega)
        refine tz_aL (pc := 48) (z := (7 + x)) (v := (J 19 (7 + x))) dX11_bind_48 a_19 rfl (by omega) rfl (fun r_48 => ?_)
        refine tz_istore_n (pc := 49) (L2 := [_, _, _, _]) dX11_bind_49 rfl (by decide) rfl ?_
        refine tz_iload_n (pc := 50) dX11_bind_50 rfl rfl ?_
        refine tz_iload_n (pc := 51) dX11_bind_51 rfl rfl ?_
        refine tz_icmp_ne (pc := 52) (tgt := 63) dX11_bind_52 (by decide) (by omega) (by omega) (fun h_52 => ?_) (fun h_52 => ?_)
        · refine tz_aload_n (pc := 63) dX11_bind_63 rfl rfl ?_
          refine tz_fR (pc := 64) dX11_bind_64 fl_X11_29 r_0_1 ?_
          refine tz_cV (pc := 67) (c_begin hl n _) vl_X11_287 dX11_bind_67 o_5 rfl rfl (Nat.le_of_ble_eq_true rfl) ⟨(Nat.le_of_ble_eq_true rfl), (Nat.le_of_ble_eq_true rfl)⟩ rfl rfl (Nat.le_of_ble_eq_true rfl) (Nat.le_of_ble_eq_true rfl) (fun r9 Jb hq9 => ?_)
          obtain ⟨rfl, hj⟩ := hq9
          have hb9 : zOf (zbut [19, 61]) Jb J := by rw [← hj]; exact zOf.cp rfl (zOf.up rfl zOf.rf)
          have hb19 : ∀ k, ¬ k = 0 → Jb 19 k = J 19 k := fun k hk => by rw [← hj, zcp_nc (by decide), zup_ne hk]
          have a0 : AC Jb m m := by rw [← hj]; exact hI.begin
          have hb6 := a0.1.1.2.1
          obtain ⟨cb, kb, lb⟩ := cc.begin hI hj
          refine tz_aload_n (pc := 70) dX11_bind_70 rfl rfl ?_
          refine tz_fR (pc := 71) dX11_bind_71 fl_X11_29 r_0_1 ?_
          refine tz_fR (pc := 74) dX11_bind_74 fl_X11_156 r_5_1 ?_
          refine tz_fR (pc := 77) dX11_bind_77 fl_X11_167 r_18_0 ?_
          refine tz_bipush (pc := 80) dX11_bind_80 (by decide) ?_
          refine tz_iload_n (pc := 82) dX11_bind_82 rfl rfl ?_
          refine tz_iadd (pc := 83) (v := 7 + x) dX11_bind_83 rfl ?_
          refine tz_iload_n (pc := 84) dX11_bind_84 rfl rfl ?_
          refine tz_aS (pc := 85) (z := (7 + x)) dX11_bind_85 a_19 rfl (by omega) (by omega) ?_
          have fw : zOf (zbut [19]) (zup Jb 19 (7 + x) t) Jb := zOf.up rfl zOf.rf
          have a1 : AC (zup Jb 19 (7 + x) t) m m := a0.led fw (a0.1.1.2.2.bind (by omega) (by omega))
          refine tz_aload_n (pc := 86) dX11_bind_86 rfl rfl ?_
          refine tz_fR (pc := 87) dX11_bind_87 fl_X11_29 r_0_1 ?_
          refine tz_cV (pc := 90) (x_keep hl n _ m m a1) vl_X11_305 dX11_bind_90 o_5 rfl rfl (Nat.le_of_ble_eq_true rfl) ⟨(Nat.le_of_ble_eq_true rfl), (Nat.le_of_ble_eq_true rfl)⟩ rfl rfl (Nat.le_of_ble_eq_true rfl) (Nat.le_of_ble_eq_true rfl) (fun r9 Jk hq9 => ?_)
          obtain ⟨rfl, k9, kx⟩ := hq9
          refine tz_iload_n (pc := 93) dX11_bind_93 rfl rfl ?_
          exact tz_iret (pc := 94) (z := (J 19 (7 + x))) dX11_bind_94 rfl (Nat.le_of_ble_eq_true rfl) (Nat.le_of_ble_eq_true rfl) ⟨Nat.le_refl _, Nat.le_add_right _ _⟩ ⟨_, rfl, (by omega), ⟨(CQ.k k9 (by rw [fw 145 rfl, hb9 145 rfl]; omega) ((fw 0 rfl).trans (hb9 0 rfl)) ((fw.mono (fun c hc => by have := of_decide_eq_true hc; simp [zbut]; omega)).tr (hb9.mono (fun c hc => by have := of_decide_eq_true hc; simp [zbut]; omega)))), Or.inl ⟨by omega, act_keep cc hI hj fw h21 rfl (by show zup S 165 (1 + x) (t + 1) 165 0 = S 165 0; exact zup_ne (by omega)) (zOf.up rfl zOf.rf) (cb.2.1.bd (by omega) (by omega)) k9.2 kx⟩⟩⟩
        · refine tz_aload_n (pc := 55) dX11_bind_55 rfl rfl ?_
          refine tz_iconst (pc := 56) dX11_bind_56 ?_
          refine tz_bipush (pc := 57) dX11_bind_57 (by decide) ?_
          refine tz_cV (pc := 59) (c_refused hl n _ _ _ (by decide) (by omega) (by decide)) vl_X11_284 dX11_bind_59 o_0 rfl rfl (Nat.le_of_ble_eq_true rfl) ⟨(Nat.le_of_ble_eq_true rfl), (Nat.le_of_ble_eq_true rfl)⟩ rfl rfl (Nat.le_of_ble_eq_true rfl) (Nat.le_of_ble_eq_true rfl) (fun r9 J_59 hq9 => ?_)
          obtain ⟨z_59, rfl, hz_59, f9, rfl⟩ := hq9
          exact tz_iret (pc := 62) (z := (-2)) dX11_bind_62 rfl (Nat.le_of_ble_eq_true rfl) (Nat.le_of_ble_eq_true rfl) ⟨Nat.le_refl _, Nat.le_add_right _ _⟩ ⟨_, rfl, (by decide), ⟨(SQ.cq ⟨⟨m, hI.st f9⟩, f9 145 rfl, f9 0 rfl, (f9.mono (fun c hc => by have := of_decide_eq_true hc; simp [zbut]; omega))⟩ (by omega) rfl zOf.rf), Or.inr ⟨by omega, rfl, cc.st hI f9⟩⟩⟩
      · rw [show (if 0 ≤ t ∧ t < J 6 12 then 1 else 0 : Int) = 0 from if_neg hw_23]
        refine tz_if_neF (pc := 23) (tgt := 34) (by decide) dX11_bind_23 (by decide) (by decide) ?_
        refine tz_aload_n (pc := 26) dX11_bind_26 rfl rfl ?_
        refine tz_iconst (pc := 27) dX11_bind_27 ?_
        refine tz_bipush (pc := 28) dX11_bind_28 (by decide) ?_
        refine tz_cV (pc := 30) (c_refused hl n _ _ _ (by decide) (by omega) (by decide)) vl_X11_284 dX11_bind_30 o_0 rfl rfl (Nat.le_of_ble_eq_true rfl) ⟨(Nat.le_of_ble_eq_true rfl), (Nat.le_of_ble_eq_true rfl)⟩ rfl rfl (Nat.le_of_ble_eq_true rfl) (Nat.le_of_ble_eq_true rfl) (fun r9 J_30 hq9 => ?_)
        obtain ⟨z_30, rfl, hz_30, f9, rfl⟩ := hq9
        exact tz_iret (pc := 33) (z := (-2)) dX11_bind_33 rfl (Nat.le_of_ble_eq_true rfl) (Nat.le_of_ble_eq_true rfl) ⟨Nat.le_refl _, Nat.le_add_right _ _⟩ ⟨_, rfl, (by decide), ⟨(SQ.cq ⟨⟨m, hI.st f9⟩, f9 145 rfl, f9 0 rfl, (f9.mono (fun c hc => by have := of_decide_eq_true hc; simp [zbut]; omega))⟩ (by omega) rfl zOf.rf), Or.inr ⟨by omega, rfl, cc.st hI f9⟩⟩⟩
  · rw [show (if 0 ≤ x ∧ x < 8 then 1 else 0 : Int) = 0 from if_neg hw_4]
    refine tz_if_eqT (pc := 4) (tgt := 26) (by decide) dX11_bind_4 (by decide) (by decide) ?_
    refine tz_aload_n (pc := 26) dX11_bind_26 rfl rfl ?_
    refine tz_iconst (pc := 27) dX11_bind_27 ?_
    refine tz_bipush (pc := 28) dX11_bind_28 (by decide) ?_
    refine tz_cV (pc := 30) (c_refused hl n _ _ _ (by decide) (by omega) (by decide)) vl_X11_284 dX11_bind_30 o_0 rfl rfl (Nat.le_of_ble_eq_true rfl) ⟨(Nat.le_of_ble_eq_true rfl), (Nat.le_of_ble_eq_true rfl)⟩ rfl rfl (Nat.le_of_ble_eq_true rfl) (Nat.le_of_ble_eq_true rfl) (fun r9 J_30 hq9 => ?_)
    obtain ⟨z_30, rfl, hz_30, f9, rfl⟩ := hq9
    exact tz_iret (pc := 33) (z := (-2)) dX11_bind_33 rfl (Nat.le_of_ble_eq_true rfl) (Nat.le_of_ble_eq_true rfl) ⟨Nat.le_refl _, Nat.le_add_right _ _⟩ ⟨_, rfl, (by decide), ⟨(SQ.cq ⟨⟨m, hI.st f9⟩, f9 145 rfl, f9 0 rfl, (f9.mono (fun c hc => by have := of_decide_eq_true hc; simp [zbut]; omega))⟩ (by omega) rfl zOf.rf), Or.inr ⟨by omega, rfl, cc.st hI f9⟩⟩⟩

set_option maxHeartbeats 4000000 in
set_option maxRecDepth 100000 in
theorem v_room {l : Launch} {G : tb_G} (hl : l.stackTraces = false) (n : Nat) (J : zJ) (x : Int) (hr_x : -2147483648 ≤ x ∧ x < 2147483648) (m : Int) (S : zJ) (pn : Int) (RR : Int → Int → Int) (hI : CI J m) (h9 : J 145 10 < 1000000000) (cc : CAL J S pn RR) (h21 : S 164 21 = 0) : tz_Ok l G M_X11_room 2 0 0 [.ref 0, zi x] n J (zqi (fun z J' => CQ J' J ∧ (((0 ≤ x ∧ x ≤ 9) ∧ ED S pn RR ((zrm S x, J 19 1)) J' z) ∨ (¬ (0 ≤ x ∧ x ≤ 9) ∧ z = -1 ∧ CAL J' S pn RR)))) zN := by
  refine tz_Ok.of hl (by decide +kernel) rfl (tb_c1 rfl) (Nat.le_of_ble_eq_true rfl) ?_
  show tz_At l G M_X11_room (tb_rm 2 0 0) none (tb_ZM G 0 0 (zQ n 0 (zqi (fun z J' => CQ J' J ∧ (((0 ≤ x ∧ x ≤ 9) ∧ ED S pn RR ((zrm S x, J 19 1)) J' z) ∨ (¬ (0 ≤ x ∧ x ≤ 9) ∧ z = -1 ∧ CAL J' S pn RR))))) (zX n 0 zN)) 0 0 n J 0 [some (.ref 0), some (zi x), none] []
  have hC := hI.1.1.1
  have hm := hI.1.1.2.1
  have hL := hI.1.1.2.2
  have hb := hC.told
  have wb := cc.2.1.b hL
  refine tz_iload_n (pc := 0) dX11_room_0 rfl rfl ?_
  refine tz_if_lt (pc := 1) (tgt := 10) dX11_room_1 (by decide) (by omega) (fun h_1 => ?_) (fun h_1 => ?_)
  · refine tz_aload_n (pc := 10) dX11_room_10 rfl rfl ?_
    refine tz_iconst (pc := 11) dX11_room_11 ?_
    refine tz_iconst (pc := 12) dX11_room_12 ?_
    refine tz_cV (pc := 13) (c_refused hl n _ _ _ (by decide) (by omega) (by decide)) vl_X11_284 dX11_room_13 o_0 rfl rfl (Nat.le_of_ble_eq_true rfl) ⟨(Nat.le_of_ble_eq_true rfl), (Nat.le_of_ble_eq_true rfl)⟩ rfl rfl (Nat.le_of_ble_eq_true rfl) (Nat.le_of_ble_eq_true rfl) (fun r9 J_13 hq9 => ?_)
    obtain ⟨z_13, rfl, hz_13, f9, rfl⟩ := hq9
    exact tz_iret (pc := 16) (z := (-1)) dX11_room_16 rfl (Nat.le_of_ble_eq_true rfl) (Nat.le_of_ble_eq_true rfl) ⟨Nat.le_refl _, Nat.le_add_right _ _⟩ ⟨_, rfl, (by decide), ⟨(SQ.cq ⟨⟨m, hI.st f9⟩, f9 145 rfl, f9 0 rfl, (f9.mono (fun c hc => by have := of_decide_eq_true hc; simp [zbut]; omega))⟩ (by omega) rfl zOf.rf), Or.inr ⟨by omega, rfl, cc.st hI f9⟩⟩⟩
  · refine tz_iload_n (pc := 4) dX11_room_4 rfl rfl ?_
    refine tz_bipush (pc := 5) dX11_room_5 (by decide) ?_
    refine tz_icmp_le (pc := 7) (tgt := 17) dX11_room_7 (by decide) (by omega) (by decide) (fun h_7 => ?_) (fun h_7 => ?_)
    · refine tz_aload_n (pc := 17) dX11_room_17 rfl rfl ?_
      refine tz_fR (pc := 18) dX11_room_18 fl_X11_29 r_0_1 ?_
      refine tz_fR (pc := 21) dX11_room_21 fl_X11_156 r_5_1 ?_
      refine tz_fR (pc := 24) dX11_room_24 fl_X11_167 r_18_0 ?_
      refine tz_iconst (pc := 27) dX11_room_27 ?_
      refine tz_aL (pc := 28) (z := 1) (v := (J 19 1)) dX11_room_28 a_19 rfl (by decide) rfl (fun r_28 => ?_)
      refine tz_istore_n (pc := 29) (L2 := [_, _, _]) dX11_room_29 rfl (by decide) rfl ?_
      refine tz_aload_n (pc := 30) dX11_room_30 rfl rfl ?_
      refine tz_fR (pc := 31) dX11_room_31 fl_X11_29 r_0_1 ?_
      refine tz_cV (pc := 34) (c_begin hl n _) vl_X11_287 dX11_room_34 o_5 rfl rfl (Nat.le_of_ble_eq_true rfl) ⟨(Nat.le_of_ble_eq_true rfl), (Nat.le_of_ble_eq_true rfl)⟩ rfl rfl (Nat.le_of_ble_eq_true rfl) (Nat.le_of_ble_eq_true rfl) (fun r9 Jb hq9 => ?_)
      obtain ⟨rfl, hj⟩ := hq9
      have hb9 : zOf (zbut [19, 61]) Jb J := by rw [← hj]; exact zOf.cp rfl (zOf.up rfl zOf.rf)
      have hb19 : ∀ k, ¬ k = 0 → Jb 19 k = J 19 k := fun k hk => by rw [← hj, zcp_nc (by decide), zup_ne hk]
      have a0 : AC Jb m m := by rw [← hj]; exact hI.begin
      have hb6 := a0.1.1.2.1
      obtain ⟨cb, kb, lb⟩ := cc.begin hI hj
      refine tz_aload_n (pc := 37) dX11_room_37 rfl rfl ?_
      refine tz_fR (pc := 38) dX11_room_38 fl_X11_29 r_0_1 ?_
      refine tz_fR (pc := 41) dX11_room_41 fl_X11_156 r_5_1 ?_
      refine tz_iload_n (pc := 44) dX11_room_44 rfl rfl ?_
      refine tz_cV (pc := 45) (c_tellRoom hl n _ _ (by omega)) vl_X11_366 dX11_room_45 o_18 rfl rfl (Nat.le_of_ble_eq_true rfl) ⟨(Nat.le_of_ble_eq_true rfl), (Nat.le_of_ble_eq_true rfl)⟩ rfl rfl (Nat.le_of_ble_eq_true rfl) (Nat.le_of_ble_eq_true rfl) (fun r9 Jd hq9 => ?_)
      obtain ⟨rfl, hj3⟩ := hq9
      have fw : zOf (zbut [19]) Jd Jb := by rw [← hj3]; exact zOf.up rfl (zOf.up rfl zOf.rf)
      have a1 : AC Jd m m := a0.led fw (by rw [← hj3]; exact a0.1.1.2.2.room (by omega))
      refine tz_aload_n (pc := 48) dX11_room_48 rfl rfl ?_
      refine tz_fR (pc := 49) dX11_room_49 fl_X11_29 r_0_1 ?_
      refine tz_cV (pc := 52) (x_keep hl n _ m m a1) vl_X11_305 dX11_room_52 o_5 rfl rfl (Nat.le_of_ble_eq_true rfl) ⟨(Nat.le_of_ble_eq_true rfl), (Nat.le_of_ble_eq_true rfl)⟩ rfl rfl (Nat.le_of_ble_eq_true rfl) (Nat.le_of_ble_eq_true rfl) (fun r9 Jk hq9 => ?_)
      obtain ⟨rfl, k9, kx⟩ := hq9
      refine tz_iload_n (pc := 55) dX11_room_55 rfl rfl ?_
      exact tz_iret (pc := 56) (z := (J 19 1)) dX11_room_56 rfl (Nat.le_of_ble_eq_true rfl) (Nat.le_of_ble_eq_true rfl) ⟨Nat.le_refl _, Nat.le_add_right _ _⟩ ⟨_, rfl, (by omega), ⟨(CQ.k k9 (by rw [fw 145 rfl, hb9 145 rfl]; omega) ((fw 0 rfl).trans (hb9 0 rfl)) ((fw.mono (fun c hc => by have := of_decide_eq_true hc; simp [zbut]; omega)).tr (hb9.mono (fun c hc => by have := of_decide_eq_true hc; simp [zbut]; omega)))), Or.inl ⟨by omega, act_keep cc hI hj fw h21 rfl rfl (zOf.up rfl (zOf.up rfl zOf.rf)) (by rw [← hj3]; exact cb.2.1.ro ⟨wb.1, wb.2.1⟩) k9.2 kx⟩⟩⟩
    · refine tz_aload_n (pc := 10) dX11_room_10 rfl rfl ?_
      refine tz_iconst (pc := 11) dX11_room_11 ?_
      refine tz_iconst (pc := 12) dX11_room_12 ?_
      refine tz_cV (pc := 13) (c_refused hl n _ _ _ (by decide) (by omega) (by decide)) vl_X11_284 dX11_room_13 o_0 rfl rfl (Nat.le_of_ble_eq_true rfl) ⟨(Nat.le_of_ble_eq_true rfl), (Nat.le_of_ble_eq_true rfl)⟩ rfl rfl (Nat.le_of_ble_eq_true rfl) (Nat.le_of_ble_eq_true rfl) (fun r9 J_13 hq9 => ?_)
      obtain ⟨z_13, rfl, hz_13, f9, rfl⟩ := hq9
      exact tz_iret (pc := 16) (z := (-1)) dX11_room_16 rfl (Nat.le_of_ble_eq_true rfl) (Nat.le_of_ble_eq_true rfl) ⟨Nat.le_refl _, Nat.le_add_right _ _⟩ ⟨_, rfl, (by decide), ⟨(SQ.cq ⟨⟨m, hI.st f9⟩, f9 145 rfl, f9 0 rfl, (f9.mono (fun c hc => by have := of_decide_eq_true hc; simp [zbut]; omega))⟩ (by omega) rfl zOf.rf), Or.inr ⟨by omega, rfl, cc.st hI f9⟩⟩⟩

/-- the place of an entry, or how many there are -/
def eyC (J : zJ) (t : Int) : Int := fnB (fun k => decide (¬ J 19 (31 + k) = t)) (J 19 5) 0
theorem ey_c {J : zJ} {t z : Int} (h1 : 0 ≤ J 19 5) (d : (0 ≤ z ∧ z < J 19 5 ∧ J 19 (31 + z) = t ∧ ∀ i, 0 ≤ i → i < z → ¬ J 19 (31 + i) = t) ∨ (z = -1 ∧ ∀ i, 0 ≤ i → i < J 19 5 → ¬ J 19 (31 + i) = t)) : (0 ≤ z ∧ z < J 19 5 ∧ eyC J t = z) ∨ (z = -1 ∧ eyC J t = J 19 5) := by
  rcases d with ⟨a, b, c, d⟩ | ⟨a, d⟩
  · exact Or.inl ⟨a, b, fnB_eq a (by omega) (fun q u v => decide_eq_true (d q u v)) (Or.inr (decide_eq_false (fun k => k c)))⟩
  · exact Or.inr ⟨a, fnB_eq (by omega) (Int.le_refl _) (fun q u v => decide_eq_true (d q u v)) (Or.inl rfl)⟩
set_option maxHeartbeats 4000000 in
set_option maxRecDepth 100000 in
theorem v_enter {l : Launch} {G : tb_G} (hl : l.stackTraces = false) (n : Nat) (J : zJ) (t : Int) (hr_t : -2147483648 ≤ t ∧ t < 2147483648) (m : Int) (S : zJ) (pn : Int) (RR : Int → Int → Int) (hI : CI J m) (h9 : J 145 10 < 1000000000) (cc : CAL J S pn RR) (h21 : S 164 21 = 0) : tz_Ok l G M_X11_enter 2 0 0 [.ref 0, zi t] n J (zqi (fun z J' => CQ J' J ∧ ((((0 ≤ t ∧ t < J 6 12) ∧ J 19 5 < 12 ∧ eyC J t = J 19 5) ∧ ED S pn RR ((zen S 0 t, J 19 5 + 1)) J' z) ∨ (¬ ((0 ≤ t ∧ t < J 6 12) ∧ J 19 5 < 12 ∧ eyC J t = J 19 5) ∧ z = -1 ∧ CAL J' S pn RR)))) zN := by
  refine tz_Ok.of hl (by decide +kernel) rfl (tb_c1 rfl) (Nat.le_of_ble_eq_true rfl) ?_
  show tz_At l G M_X11_enter (tb_rm 2 0 0) none (tb_ZM G 0 0 (zQ n 0 (zqi (fun z J' => CQ J' J ∧ ((((0 ≤ t ∧ t < J 6 12) ∧ J 19 5 < 12 ∧ eyC J t = J 19 5) ∧ ED S pn RR ((zen S 0 t, J 19 5 + 1)) J' z) ∨ (¬ ((0 ≤ t ∧ t < J 6 12) ∧ J 19 5 < 12 ∧ eyC J t = J 19 5) ∧ z = -1 ∧ CAL J' S pn RR))))) (zX n 0 zN)) 0 0 n J 0 [some (.ref 0), some (zi t), none] []
  have hC := hI.1.1.1
  have hm := hI.1.1.2.1
  have hL := hI.1.1.2.2
  have hb := hC.told
  have wb := cc.2.1.b hL
  have h5 := hL.1.2.2.1
  refine tz_aload_n (pc := 0) dX11_enter_0 rfl rfl ?_
  refine tz_fR (pc := 1) dX11_enter_1 fl_X11_29 r_0_1 ?_
  refine tz_fR (pc := 4) dX11_enter_4 fl_X11_156 r_5_1 ?_
  refine tz_astore_n (pc := 7) (L2 := [_, _, _]) dX11_enter_7 rfl (by decide) rfl ?_
  refine tz_aload_n (pc := 8) dX11_enter_8 rfl rfl ?_
  refine tz_fR (pc := 9) dX11_enter_9 fl_X11_29 r_0_1 ?_
  refine tz_fR (pc := 12) dX11_enter_12 fl_X11_49 r_5_0 ?_
  refine tz_iload_n (pc := 15) dX11_enter_15 rfl rfl ?_
  refine tz_cV (pc := 16) (c_has hl n _ _ (by omega)) vl_X11_304 dX11_enter_16 o_6 rfl rfl (Nat.le_of_ble_eq_true rfl) ⟨(Nat.le_of_ble_eq_true rfl), (Nat.le_of_ble_eq_true rfl)⟩ rfl rfl (Nat.le_of_ble_eq_true rfl) (Nat.le_of_ble_eq_true rfl) (fun r9 J_16 hq9 => ?_)
  obtain ⟨z_16, rfl, hz_16, rfl, rfl⟩ := hq9
  by_cases hw_19 : 0 ≤ t ∧ t < J 6 12
  · rw [show (if 0 ≤ t ∧ t < J 6 12 then 1 else 0 : Int) = 1 from if_pos hw_19]
    refine tz_if_eqF (pc := 19) (tgt := 42) (by decide) dX11_enter_19 (by decide) (by decide) ?_
    refine tz_aload_n (pc := 22) dX11_enter_22 rfl rfl ?_
    refine tz_fR (pc := 23) dX11_enter_23 fl_X11_167 r_18_0 ?_
    refine tz_iconst (pc := 26) dX11_enter_26 ?_
    refine tz_aL (pc := 27) (z := 5) (v := (J 19 5)) dX11_enter_27 a_19 rfl (by decide) rfl (fun r_27 => ?_)
    refine tz_bipush (pc := 28) dX11_enter_28 (by decide) ?_
    refine tz_icmp_ge (pc := 30) (tgt := 42) dX11_enter_30 (by decide) (by omega) (by decide) (fun h_30 => ?_) (fun h_30 => ?_)
    · refine tz_aload_n (pc := 42) dX11_enter_42 rfl rfl ?_
      refine tz_iconst (pc := 43) dX11_enter_43 ?_
      refine tz_iconst (pc := 44) dX11_enter_44 ?_
      refine tz_cV (pc := 45) (c_refused hl n _ _ _ (by decide) (by omega) (by decide)) vl_X11_284 dX11_enter_45 o_0 rfl rfl (Nat.le_of_ble_eq_true rfl) ⟨(Nat.le_of_ble_eq_true rfl), (Nat.le_of_ble_eq_true rfl)⟩ rfl rfl (Nat.le_of_ble_eq_true rfl) (Nat.le_of_ble_eq_true rfl) (fun r9 J_45 hq9 => ?_)
      obtain ⟨z_45, rfl, hz_45, f9, rfl⟩ := hq9
      exact tz_iret (pc := 48) (z := (-1)) dX11_enter_48 rfl (Nat.le_of_ble_eq_true rfl) (Nat.le_of_ble_eq_true rfl) ⟨Nat.le_refl _, Nat.le_add_right _ _⟩ ⟨_, rfl, (by decide), ⟨(SQ.cq ⟨⟨m, hI.st f9⟩, f9 145 rfl, f9 0 rfl, (f9.mono (fun c hc => by have := of_decide_eq_true hc; simp [zbut]; omega))⟩ (by omega) rfl zOf.rf), Or.inr ⟨by omega, rfl, cc.st hI f9⟩⟩⟩
    · refine tz_aload_n (pc := 33) dX11_enter_33 rfl rfl ?_
      refine tz_iload_n (pc := 34) dX11_enter_34 rfl rfl ?_
      refine tz_cV (pc := 35) (c_entryOf hl n _ _ (by omega) h5) vl_X11_241 dX11_enter_35 o_18 rfl rfl (Nat.le_of_ble_eq_true rfl) ⟨(Nat.le_of_ble_eq_true rfl), (Nat.le_of_ble_eq_true rfl)⟩ rfl rfl (Nat.le_of_ble_eq_true rfl) (Nat.le_of_ble_eq_true rfl) (fun r9 J_35 hq9 => ?_)
      obtain ⟨ze, rfl, hz_35, rfl, he9⟩ := hq9
      have he7 := ey_c h5.1 he9
      refine tz_iconst (pc := 38) dX11_enter_38 ?_
      refine tz_icmp_eq (pc := 39) (tgt := 49) dX11_enter_39 (by decide) (by omega) (by decide) (fun h_39 => ?_) (fun h_39 => ?_)
      · refine tz_aload_n (pc := 49) dX11_enter_49 rfl rfl ?_
        refine tz_fR (pc := 50) dX11_enter_50 fl_X11_29 r_0_1 ?_
        refine tz_cV (pc := 53) (c_begin hl n _) vl_X11_287 dX11_enter_53 o_5 rfl rfl (Nat.le_of_ble_eq_true rfl) ⟨(Nat.le_of_ble_eq_true rfl), (Nat.le_of_ble_eq_true rfl)⟩ rfl rfl (Nat.le_of_ble_eq_true rfl) (Nat.le_of_ble_eq_true rfl) (fun r9 Jb hq9 => ?_)
        obtain ⟨rfl, hj⟩ := hq9
        have hb9 : zOf (zbut [19, 61]) Jb J := by rw [← hj]; exact zOf.cp rfl (zOf.up rfl zOf.rf)
        have hb19 : ∀ k, ¬ k = 0 → Jb 19 k = J 19 k := fun k hk => by rw [← hj, zcp_nc (by decide), zup_ne hk]
        have a0 : AC Jb m m := by rw [← hj]; exact hI.begin
        have hb6 := a0.1.1.2.1
        obtain ⟨cb, kb, lb⟩ := cc.begin hI hj
        refine tz_aload_n (pc := 56) dX11_enter_56 rfl rfl ?_
        refine tz_iload_n (pc := 57) dX11_enter_57 rfl rfl ?_
        refine tz_cV (pc := 58) (c_addEntry hl n _ _ (by omega) a0.1.1.2.2.1.2.2.1) vl_X11_360 dX11_enter_58 o_18 rfl rfl (Nat.le_of_ble_eq_true rfl) ⟨(Nat.le_of_ble_eq_true rfl), (Nat.le_of_ble_eq_true rfl)⟩ rfl rfl (Nat.le_of_ble_eq_true rfl) (Nat.le_of_ble_eq_true rfl) (fun r9 Jd hq9 => ?_)
        obtain ⟨rfl, hj3⟩ := hq9
        have fw : zOf (zbut [19]) Jd Jb := by rw [← hj3]; exact zof_aE
        have a1 : AC Jd m m := a0.led fw (by rw [← hj3]; exact a0.1.1.2.2.aE (by omega))
        refine tz_aload_n (pc := 61) dX11_enter_61 rfl rfl ?_
        refine tz_fR (pc := 62) dX11_enter_62 fl_X11_29 r_0_1 ?_
        refine tz_cV (pc := 65) (x_keep hl n _ m m a1) vl_X11_305 dX11_enter_65 o_5 rfl rfl (Nat.le_of_ble_eq_true rfl) ⟨(Nat.le_of_ble_eq_true rfl), (Nat.le_of_ble_eq_true rfl)⟩ rfl rfl (Nat.le_of_ble_eq_true rfl) (Nat.le_of_ble_eq_true rfl) (fun r9 Jk hq9 => ?_)
        obtain ⟨rfl, k9, kx⟩ := hq9
        refine tz_aload_n (pc := 68) dX11_enter_68 rfl rfl ?_
        refine tz_fR (pc := 69) dX11_enter_69 fl_X11_167 r_18_0 ?_
        refine tz_iconst (pc := 72) dX11_enter_72 ?_
        refine tz_aL (pc := 73) (z := 5) (v := (Jd 19 5)) dX11_enter_73 a_19 rfl (by decide) (Eq.trans (congrFun (k9.2 19 rfl) 5) rfl) (fun r_73 => ?_)
        exact tz_iret (pc := 74) (z := (Jd 19 5)) dX11_enter_74 rfl (Nat.le_of_ble_eq_true rfl) (Nat.le_of_ble_eq_true rfl) ⟨Nat.le_refl _, Nat.le_add_right _ _⟩ ⟨_, rfl, (by omega), ⟨(CQ.k k9 (by rw [fw 145 rfl, hb9 145 rfl]; omega) ((fw 0 rfl).trans (hb9 0 rfl)) ((fw.mono (fun c hc => by have := of_decide_eq_true hc; simp [zbut]; omega)).tr (hb9.mono (fun c hc => by have := of_decide_eq_true hc; simp [zbut]; omega)))), Or.inl ⟨by omega, act_keep cc hI hj fw h21 (show Jd 19 5 = J 19 5 + 1 from by rw [← hj3]; unfold zaE; rw [if_pos (by rw [hb19 5 (by decide)]; omega), zup_at, hb19 5 (by decide)]) (by show (if (0 : Int) = 26 then S 165 26 + 1 else if (0 : Int) = 27 + S 165 26 then t else S 165 0) = S 165 0; rw [if_neg (by decide), if_neg (by omega)]) zen_of (by have c5 := cb.2.1.2.2.1.1; have d5 := hb19 5 (by decide); rw [← hj3]; unfold zaE; rw [if_pos (by omega)]; exact cb.2.1.en ⟨wb.1, by omega, wb.2.2⟩) k9.2 kx⟩⟩⟩
      · refine tz_aload_n (pc := 42) dX11_enter_42 rfl rfl ?_
        refine tz_iconst (pc := 43) dX11_enter_43 ?_
        refine tz_iconst (pc := 44) dX11_enter_44 ?_
        refine tz_cV (pc := 45) (c_refused hl n _ _ _ (by decide) (by omega) (by decide)) vl_X11_284 dX11_enter_45 o_0 rfl rfl (Nat.le_of_ble_eq_true rfl) ⟨(Nat.le_of_ble_eq_true rfl), (Nat.le_of_ble_eq_true rfl)⟩ rfl rfl (Nat.le_of_ble_eq_true rfl) (Nat.le_of_ble_eq_true rfl) (fun r9 J_45 hq9 => ?_)
        obtain ⟨z_45, rfl, hz_45, f9, rfl⟩ := hq9
        exact tz_iret (pc := 48) (z := (-1)) dX11_enter_48 rfl (Nat.le_of_ble_eq_true rfl) (Nat.le_of_ble_eq_true rfl) ⟨Nat.le_refl _, Nat.le_add_right _ _⟩ ⟨_, rfl, (by decide), ⟨(SQ.cq ⟨⟨m, hI.st f9⟩, f9 145 rfl, f9 0 rfl, (f9.mono (fun c hc => by have := of_decide_eq_true hc; simp [zbut]; omega))⟩ (by omega) rfl zOf.rf), Or.inr ⟨by omega, rfl, cc.st hI f9⟩⟩⟩
  · rw [show (if 0 ≤ t ∧ t < J 6 12 then 1 else 0 : Int) = 0 from if_neg hw_19]
    refine tz_if_eqT (pc := 19) (tgt := 42) (by decide) dX11_enter_19 (by decide) (by decide) ?_
    refine tz_aload_n (pc := 42) dX11_enter_42 rfl rfl ?_
    refine tz_iconst (pc := 43) dX11_enter_43 ?_
    refine tz_iconst (pc := 44) dX11_enter_44 ?_
    refine tz_cV (pc := 45) (c_refused hl n _ _ _ (by decide) (by omega) (by decide)) vl_X11_284 dX11_enter_45 o_0 rfl rfl (Nat.le_of_ble_eq_true rfl) ⟨(Nat.le_of_ble_eq_true rfl), (Nat.le_of_ble_eq_true rfl)⟩ rfl rfl (Nat.le_of_ble_eq_true rfl) (Nat.le_of_ble_eq_true rfl) (fun r9 J_45 hq9 => ?_)
    obtain ⟨z_45, rfl, hz_45, f9, rfl⟩ := hq9
    exact tz_iret (pc := 48) (z := (-1)) dX11_enter_48 rfl (Nat.le_of_ble_eq_true rfl) (Nat.le_of_ble_eq_true rfl) ⟨Nat.le_refl _, Nat.le_add_right _ _⟩ ⟨_, rfl, (by decide), ⟨(SQ.cq ⟨⟨m, hI.st f9⟩, f9 145 rfl, f9 0 rfl, (f9.mono (fun c hc => by have := of_decide_eq_true hc; simp [zbut]; omega))⟩ (by omega) rfl zOf.rf), Or.inr ⟨by omega, rfl, cc.st hI f9⟩⟩⟩

set_option maxHeartbeats 4000000 in
set_option maxRecDepth 100000 in
theorem v_leave {l : Launch} {G : tb_G} (hl : l.stackTraces = false) (n : Nat) (J : zJ) (t : Int) (hr_t : -2147483648 ≤ t ∧ t < 2147483648) (m : Int) (S : zJ) (pn : Int) (RR : Int → Int → Int) (hI : CI J m) (h9 : J 145 10 < 1000000000) (cc : CAL J S pn RR) (h21 : S 164 21 = 0) : tz_Ok l G M_X11_leave 2 0 0 [.ref 0, zi t] n J (zqi (fun z J' => CQ J' J ∧ ((((0 ≤ t ∧ t < J 6 12) ∧ eyC J t < J 19 5) ∧ ED S pn RR ((zlv S (eyC J t), J 19 5 - 1)) J' z) ∨ (¬ ((0 ≤ t ∧ t < J 6 12) ∧ eyC J t < J 19 5) ∧ z = -1 ∧ CAL J' S pn RR)))) zN := by
  refine tz_Ok.of hl (by decide +kernel) rfl (tb_c1 rfl) (Nat.le_of_ble_eq_true rfl) ?_
  show tz_At l G M_X11_leave (tb_rm 2 0 0) none (tb_ZM G 0 0 (zQ n 0 (zqi (fun z J' => CQ J' J ∧ ((((0 ≤ t ∧ t < J 6 12) ∧ eyC J t < J 19 5) ∧ ED S pn RR ((zlv S (eyC J t), J 19 5 - 1)) J' z) ∨ (¬ ((0 ≤ t ∧ t < J 6 12) ∧ eyC J t < J 19 5) ∧ z = -1 ∧ CAL J' S pn RR))))) (zX n 0 zN)) 0 0 n J 0 [some (.ref 0), some (zi t), none, none] []
  have hC := hI.1.1.1
  have hm := hI.1.1.2.1
  have hL := hI.1.1.2.2
  have hb := hC.told
  have wb := cc.2.1.b hL
  have h5 := hL.1.2.2.1
  refine tz_aload_n (pc := 0) dX11_leave_0 rfl rfl ?_
  refine tz_fR (pc := 1) dX11_leave_1 fl_X11_29 r_0_1 ?_
  refine tz_fR (pc := 4) dX11_leave_4 fl_X11_156 r_5_1 ?_
  refine tz_astore_n (pc := 7) (L2 := [_, _, _, _]) dX11_leave_7 rfl (by decide) rfl ?_
  refine tz_aload_n (pc := 8) dX11_leave_8 rfl rfl ?_
  refine tz_fR (pc := 9) dX11_leave_9 fl_X11_29 r_0_1 ?_
  refine tz_fR (pc := 12) dX11_leave_12 fl_X11_49 r_5_0 ?_
  refine tz_iload_n (pc := 15) dX11_leave_15 rfl rfl ?_
  refine tz_cV (pc := 16) (c_has hl n _ _ (by omega)) vl_X11_304 dX11_leave_16 o_6 rfl rfl (Nat.le_of_ble_eq_true rfl) ⟨(Nat.le_of_ble_eq_true rfl), (Nat.le_of_ble_eq_true rfl)⟩ rfl rfl (Nat.le_of_ble_eq_true rfl) (Nat.le_of_ble_eq_true rfl) (fun r9 J_16 hq9 => ?_)
  obtain ⟨z_16, rfl, hz_16, rfl, rfl⟩ := hq9
  by_cases hw_19 : 0 ≤ t ∧ t < J 6 12
  · rw [show (if 0 ≤ t ∧ t < J 6 12 then 1 else 0 : Int) = 1 from if_pos hw_19]
    refine tz_if_eqF (pc := 19) (tgt := 30) (by decide) dX11_leave_19 (by decide) (by decide) ?_
    refine tz_aload_n (pc := 22) dX11_leave_22 rfl rfl ?_
    refine tz_iload_n (pc := 23) dX11_leave_23 rfl rfl ?_
    refine tz_cV (pc := 24) (c_entryOf hl n _ _ (by omega) h5) vl_X11_241 dX11_leave_24 o_18 rfl rfl (Nat.le_of_ble_eq_true rfl) ⟨(Nat.le_of_ble_eq_true rfl), (Nat.le_of_ble_eq_true rfl)⟩ rfl rfl (Nat.le_of_ble_eq_true rfl) (Nat.le_of_ble_eq_true rfl) (fun r9 J_24 hq9 => ?_)
    obtain ⟨ze, rfl, hz_24, rfl, he9⟩ := hq9
    have he7 := ey_c h5.1 he9
    refine tz_goto (pc := 27) (tgt := 31) dX11_leave_27 (by decide) ?_
    refine tz_istore_n (pc := 31) (L2 := [_, _, _, _]) dX11_leave_31 rfl (by decide) rfl ?_
    refine tz_iload_n (pc := 32) dX11_leave_32 rfl rfl ?_
    refine tz_iconst (pc := 33) dX11_leave_33 ?_
    refine tz_icmp_ne (pc := 34) (tgt := 44) dX11_leave_34 (by decide) (by omega) (by decide) (fun h_34 => ?_) (fun h_34 => ?_)
    · refine tz_aload_n (pc := 44) dX11_leave_44 rfl rfl ?_
      refine tz_fR (pc := 45) dX11_leave_45 fl_X11_29 r_0_1 ?_
      refine tz_cV (pc := 48) (c_begin hl n _) vl_X11_287 dX11_leave_48 o_5 rfl rfl (Nat.le_of_ble_eq_true rfl) ⟨(Nat.le_of_ble_eq_true rfl), (Nat.le_of_ble_eq_true rfl)⟩ rfl rfl (Nat.le_of_ble_eq_true rfl) (Nat.le_of_ble_eq_true rfl) (fun r9 Jb hq9 => ?_)
      obtain ⟨rfl, hj⟩ := hq9
      have hb9 : zOf (zbut [19, 61]) Jb J := by rw [← hj]; exact zOf.cp rfl (zOf.up rfl zOf.rf)
      have hb19 : ∀ k, ¬ k = 0 → Jb 19 k = J 19 k := fun k hk => by rw [← hj, zcp_nc (by decide), zup_ne hk]
      have a0 : AC Jb m m := by rw [← hj]; exact hI.begin
      have hb6 := a0.1.1.2.1
      obtain ⟨cb, kb, lb⟩ := cc.begin hI hj
      refine tz_aload_n (pc := 51) dX11_leave_51 rfl rfl ?_
      refine tz_iload_n (pc := 52) dX11_leave_52 rfl rfl ?_
      have he8 : 0 ≤ ze ∧ ze < J 19 5 := by omega
      refine tz_cV (pc := 53) (c_dropEntry hl n _ _ (by omega) (by rw [hb19 5 (by decide)]; omega) a0.1.1.2.2.1.2.2.1.2) vl_X11_363 dX11_leave_53 o_18 rfl rfl (Nat.le_of_ble_eq_true rfl) ⟨(Nat.le_of_ble_eq_true rfl), (Nat.le_of_ble_eq_true rfl)⟩ rfl rfl (Nat.le_of_ble_eq_true rfl) (Nat.le_of_ble_eq_true rfl) (fun r9 Jd hq9 => ?_)
      obtain ⟨rfl, hj3⟩ := hq9
      have fw : zOf (zbut [19]) Jd Jb := by rw [← hj3]; exact zof_dE
      have a1 : AC Jd m m := a0.led fw (by rw [← hj3]; exact a0.1.1.2.2.dE (by rw [hb19 5 (by decide)]; omega))
      refine tz_aload_n (pc := 56) dX11_leave_56 rfl rfl ?_
      refine tz_fR (pc := 57) dX11_leave_57 fl_X11_29 r_0_1 ?_
      refine tz_cV (pc := 60) (x_keep hl n _ m m a1) vl_X11_305 dX11_leave_60 o_5 rfl rfl (Nat.le_of_ble_eq_true rfl) ⟨(Nat.le_of_ble_eq_true rfl), (Nat.le_of_ble_eq_true rfl)⟩ rfl rfl (Nat.le_of_ble_eq_true rfl) (Nat.le_of_ble_eq_true rfl) (fun r9 Jk hq9 => ?_)
      obtain ⟨rfl, k9, kx⟩ := hq9
      refine tz_aload_n (pc := 63) dX11_leave_63 rfl rfl ?_
      refine tz_fR (pc := 64) dX11_leave_64 fl_X11_167 r_18_0 ?_
      refine tz_iconst (pc := 67) dX11_leave_67 ?_
      refine tz_aL (pc := 68) (z := 5) (v := (Jd 19 5)) dX11_leave_68 a_19 rfl (by decide) (Eq.trans (congrFun (k9.2 19 rfl) 5) rfl) (fun r_68 => ?_)
      exact tz_iret (pc := 69) (z := (Jd 19 5)) dX11_leave_69 rfl (Nat.le_of_ble_eq_true rfl) (Nat.le_of_ble_eq_true rfl) ⟨Nat.le_refl _, Nat.le_add_right _ _⟩ ⟨_, rfl, (by omega), ⟨(CQ.k k9 (by rw [fw 145 rfl, hb9 145 rfl]; omega) ((fw 0 rfl).trans (hb9 0 rfl)) ((fw.mono (fun c hc => by have := of_decide_eq_true hc; simp [zbut]; omega)).tr (hb9.mono (fun c hc => by have := of_decide_eq_true hc; simp [zbut]; omega)))), Or.inl ⟨by omega, act_keep cc hI hj fw h21 (show Jd 19 5 = J 19 5 - 1 from by rw [← hj3]; unfold zdE; rw [zup_at, hb19 5 (by decide)]) (by show (if (0 : Int) = 26 then S 165 26 - 1 else if 27 + eyC J t ≤ 0 ∧ (0 : Int) < 27 + (S 165 26 - 1) then S 165 (0 + 1) else S 165 0) = S 165 0; rw [if_neg (by decide), if_neg (by omega)]) (fun c hc => if_neg (fun e => by rw [e] at hc; cases hc)) (by have c5 := cb.2.1.2.2.1.1; have d5 := hb19 5 (by decide); have ez : eyC J t = ze := (by omega); rw [← hj3, ez]; exact cb.2.1.lv (by omega) wb) k9.2 kx⟩⟩⟩
    · refine tz_aload_n (pc := 37) dX11_leave_37 rfl rfl ?_
      refine tz_iconst (pc := 38) dX11_leave_38 ?_
      refine tz_iconst (pc := 39) dX11_leave_39 ?_
      refine tz_cV (pc := 40) (c_refused hl n _ _ _ (by decide) (by omega) (by decide)) vl_X11_284 dX11_leave_40 o_0 rfl rfl (Nat.le_of_ble_eq_true rfl) ⟨(Nat.le_of_ble_eq_true rfl), (Nat.le_of_ble_eq_true rfl)⟩ rfl rfl (Nat.le_of_ble_eq_true rfl) (Nat.le_of_ble_eq_true rfl) (fun r9 J_40 hq9 => ?_)
      obtain ⟨z_40, rfl, hz_40, f9, rfl⟩ := hq9
      exact tz_iret (pc := 43) (z := (-1)) dX11_leave_43 rfl (Nat.le_of_ble_eq_true rfl) (Nat.le_of_ble_eq_true rfl) ⟨Nat.le_refl _, Nat.le_add_right _ _⟩ ⟨_, rfl, (by decide), ⟨(SQ.cq ⟨⟨m, hI.st f9⟩, f9 145 rfl, f9 0 rfl, (f9.mono (fun c hc => by have := of_decide_eq_true hc; simp [zbut]; omega))⟩ (by omega) rfl zOf.rf), Or.inr ⟨by omega, rfl, cc.st hI f9⟩⟩⟩
  · rw [show (if 0 ≤ t ∧ t < J 6 12 then 1 else 0 : Int) = 0 from if_neg hw_19]
    refine tz_if_eqT (pc := 19) (tgt := 30) (by decide) dX11_leave_19 (by decide) (by decide) ?_
    refine tz_iconst (pc := 30) dX11_leave_30 ?_
    refine tz_istore_n (pc := 31) (L2 := [_, _, _, _]) dX11_leave_31 rfl (by decide) rfl ?_
    refine tz_iload_n (pc := 32) dX11_leave_32 rfl rfl ?_
    refine tz_iconst (pc := 33) dX11_leave_33 ?_
    refine tz_icmp_neF (pc := 34) (tgt := 44) (by decide) dX11_leave_34 (by decide) (by decide) (by decide) ?_
    refine tz_aload_n (pc := 37) dX11_leave_37 rfl rfl ?_
    refine tz_iconst (pc := 38) dX11_leave_38 ?_
    refine tz_iconst (pc := 39) dX11_leave_39 ?_
    refine tz_cV (pc := 40) (c_refused hl n _ _ _ (by decide) (by omega) (by decide)) vl_X11_284 dX11_leave_40 o_0 rfl rfl (Nat.le_of_ble_eq_true rfl) ⟨(Nat.le_of_ble_eq_true rfl), (Nat.le_of_ble_eq_true rfl)⟩ rfl rfl (Nat.le_of_ble_eq_true rfl) (Nat.le_of_ble_eq_true rfl) (fun r9 J_40 hq9 => ?_)
    obtain ⟨z_40, rfl, hz_40, f9, rfl⟩ := hq9
    exact tz_iret (pc := 43) (z := (-1)) dX11_leave_43 rfl (Nat.le_of_ble_eq_true rfl) (Nat.le_of_ble_eq_true rfl) ⟨Nat.le_refl _, Nat.le_add_right _ _⟩ ⟨_, rfl, (by decide), ⟨(SQ.cq ⟨⟨m, hI.st f9⟩, f9 145 rfl, f9 0 rfl, (f9.mono (fun c hc => by have := of_decide_eq_true hc; simp [zbut]; omega))⟩ (by omega) rfl zOf.rf), Or.inr ⟨by omega, rfl, cc.st hI f9⟩⟩⟩

end
section
/-! ===== rules of the class, exact ===== -/
set_option maxHeartbeats 4000000 in
set_option maxRecDepth 100000 in
theorem x_isRuleN {l : Launch} {G : tb_G} (hl : l.stackTraces = false) (n : Nat) (J : zJ) (x : Int) (y : Int) (hr_x : -2147483648 ≤ x ∧ x < 2147483648) (hr_y : -2147483648 ≤ y ∧ y < 2147483648) (m : Int) (C : CT J m) (hm : J 6 12 = m) (hn : ¬ ((0 ≤ x ∧ x < m) ∧ (0 ≤ y ∧ y < m))) : tz_Ok l G M_X7_isRule 13 0 0 [.ref 155, zi x, zi y] n J (zqi (fun z J' => z = 0 ∧ J = J')) zN := by
  refine tz_Ok.of hl (by decide +kernel) rfl (tb_c1 rfl) (Nat.le_of_ble_eq_true rfl) ?_
  show tz_At l G M_X7_isRule (tb_rm 13 0 0) none (tb_ZM G 0 0 (zQ n 0 (zqi (fun z J' => z = 0 ∧ J = J'))) (zX n 0 zN)) 0 0 n J 0 [some (.ref 155), some (zi x), some (zi y)] []
  refine tz_aload_n (pc := 0) dX7_isRule_0 rfl rfl ?_
  refine tz_fR (pc := 1) dX7_isRule_1 fl_X7_21 r_155_1 ?_
  refine tz_iload_n (pc := 4) dX7_isRule_4 rfl rfl ?_
  refine tz_cV (pc := 5) (c_has hl n _ _ (by omega)) vl_X7_40 dX7_isRule_5 o_6 rfl rfl (Nat.le_of_ble_eq_true rfl) ⟨(Nat.le_of_ble_eq_true rfl), (Nat.le_of_ble_eq_true rfl)⟩ rfl rfl (Nat.le_of_ble_eq_true rfl) (Nat.le_of_ble_eq_true rfl) (fun r9 J_5 hq9 => ?_)
  obtain ⟨z_5, rfl, hz_5, rfl, rfl⟩ := hq9
  by_cases hw_8 : 0 ≤ x ∧ x < J 6 12
  · rw [show (if 0 ≤ x ∧ x < J 6 12 then 1 else 0 : Int) = 1 from if_pos hw_8]
    refine tz_if_eqF (pc := 8) (tgt := 77) (by decide) dX7_isRule_8 (by decide) (by decide) ?_
    refine tz_aload_n (pc := 11) dX7_isRule_11 rfl rfl ?_
    refine tz_fR (pc := 12) dX7_isRule_12 fl_X7_21 r_155_1 ?_
    refine tz_iload_n (pc := 15) dX7_isRule_15 rfl rfl ?_
    refine tz_cV (pc := 16) (c_has hl n _ _ (by omega)) vl_X7_40 dX7_isRule_16 o_6 rfl rfl (Nat.le_of_ble_eq_true rfl) ⟨(Nat.le_of_ble_eq_true rfl), (Nat.le_of_ble_eq_true rfl)⟩ rfl rfl (Nat.le_of_ble_eq_true rfl) (Nat.le_of_ble_eq_true rfl) (fun r9 J_16 hq9 => ?_)
    obtain ⟨z_16, rfl, hz_16, rfl, rfl⟩ := hq9
    by_cases hw_19 : 0 ≤ y ∧ y < J 6 12
    · rw [show (if 0 ≤ y ∧ y < J 6 12 then 1 else 0 : Int) = 1 from if_pos hw_19]
      refine tz_if_eqF (pc := 19) (tgt := 77) (by decide) dX7_isRule_19 (by decide) (by decide) ?_
      exact absurd (by omega) hn
    · rw [show (if 0 ≤ y ∧ y < J 6 12 then 1 else 0 : Int) = 0 from if_neg hw_19]
      refine tz_if_eqT (pc := 19) (tgt := 77) (by decide) dX7_isRule_19 (by decide) (by decide) ?_
      refine tz_iconst (pc := 77) dX7_isRule_77 ?_
      exact tz_zret (pc := 78) (z := 0) dX7_isRule_78 rfl (Or.inl rfl) (Nat.le_of_ble_eq_true rfl) (Nat.le_of_ble_eq_true rfl) ⟨Nat.le_refl _, Nat.le_add_right _ _⟩ ⟨_, rfl, (by decide), ⟨rfl, rfl⟩⟩
  · rw [show (if 0 ≤ x ∧ x < J 6 12 then 1 else 0 : Int) = 0 from if_neg hw_8]
    refine tz_if_eqT (pc := 8) (tgt := 77) (by decide) dX7_isRule_8 (by decide) (by decide) ?_
    refine tz_iconst (pc := 77) dX7_isRule_77 ?_
    exact tz_zret (pc := 78) (z := 0) dX7_isRule_78 rfl (Or.inl rfl) (Nat.le_of_ble_eq_true rfl) (Nat.le_of_ble_eq_true rfl) ⟨Nat.le_refl _, Nat.le_add_right _ _⟩ ⟨_, rfl, (by decide), ⟨rfl, rfl⟩⟩

theorem x_isRuleA {l : Launch} {G : tb_G} (hl : l.stackTraces = false) (n : Nat) (J : zJ) (x y : Int) (hr_x : -2147483648 ≤ x ∧ x < 2147483648) (hr_y : -2147483648 ≤ y ∧ y < 2147483648) (m : Int) (C : CT J m) (hm : J 6 12 = m) (h3 : J 156 3 = -1) : tz_Ok l G M_X7_isRule 13 0 0 [.ref 155, zi x, zi y] n J (zqi (fun z J' => ((z = 1 ∧ ((0 ≤ x ∧ x < m) ∧ (0 ≤ y ∧ y < m)) ∧ cru J x y) ∨ (z = 0 ∧ ¬ (((0 ≤ x ∧ x < m) ∧ (0 ≤ y ∧ y < m)) ∧ cru J x y))) ∧ (zOf (zbut [156, 157]) J' J ∧ ∀ k, ¬ k = 2 → J' 156 k = J 156 k))) zN := by
  by_cases h : (0 ≤ x ∧ x < m) ∧ (0 ≤ y ∧ y < m)
  · exact (x_isRule9 hl n J x y hr_x hr_y m C hm h.1 h.2 h3).mono (fun r J' _ ⟨z, a, b, c, d⟩ => ⟨z, a, b, c.imp (fun q => ⟨q.1, h, q.2⟩) (fun q => ⟨q.1, fun k => q.2 k.2⟩), d⟩) (fun _ _ _ h => h)
  · exact (x_isRuleN hl n J x y hr_x hr_y m C hm h).mono (fun r J' _ ⟨z, a, b, c, d⟩ => ⟨z, a, b, Or.inr ⟨c, fun k => h k.1⟩, by rw [← d]; exact ⟨zOf.rf, fun _ _ => rfl⟩⟩) (fun _ _ _ h => h)
theorem CAL.wk {X : List Nat} {J' J S : zJ} {pn m : Int} {RR : Int → Int → Int} (c : CAL J S pn RR) (hI : CI J m) (f : zOf (zbut X) J' J) (hX : (X.all fun c => decide (140 ≤ c)) = true) : CAL J' S pn RR := by
  have hn := hI.2.1
  have nn := c.2.2.1
  have hf : ∀ c, c < 140 → J' c = J c := fun c hc => f c (by
    simp only [zbut, Bool.not_eq_true', List.contains_eq_mem, decide_eq_false_iff_not]
    intro q
    have := of_decide_eq_true (List.all_eq_true.mp hX c q)
    omega)
  exact ⟨c.1.f (fun q hq => hf q (by omega)), by rw [hf 19 (by decide)]; exact c.2.1, c.2.2.of (by omega) (hf 5 (by decide)) (fun i a b => hf _ (by unfold zU; omega))⟩
set_option maxHeartbeats 4000000 in
set_option maxRecDepth 100000 in
theorem v_rules {l : Launch} {G : tb_G} (hl : l.stackTraces = false) (n : Nat) (J : zJ) (x : Int) (y : Int) (hr_x : -2147483648 ≤ x ∧ x < 2147483648) (hr_y : -2147483648 ≤ y ∧ y < 2147483648) (m : Int) (S : zJ) (pn : Int) (RR : Int → Int → Int) (hI : CI J m) (h9 : J 145 10 < 1000000000) (cc : CAL J S pn RR) (h21 : S 164 21 = 0) : tz_Ok l G M_X11_rules 14 0 0 [.ref 0, zi x, zi y] n J (zqi (fun z J' => CQ J' J ∧ (((J 19 4 < 8 ∧ ((0 ≤ x ∧ x < J 6 12) ∧ (0 ≤ y ∧ y < J 6 12)) ∧ cru J x y) ∧ ED S pn RR ((zru S x y, J 19 4 + 1)) J' z) ∨ (¬ (J 19 4 < 8 ∧ ((0 ≤ x ∧ x < J 6 12) ∧ (0 ≤ y ∧ y < J 6 12)) ∧ cru J x y) ∧ z = -1 ∧ CAL J' S pn RR)))) zN := by
  refine tz_Ok.of hl (by decide +kernel) rfl (tb_c1 rfl) (Nat.le_of_ble_eq_true rfl) ?_
  show tz_At l G M_X11_rules (tb_rm 14 0 0) none (tb_ZM G 0 0 (zQ n 0 (zqi (fun z J' => CQ J' J ∧ (((J 19 4 < 8 ∧ ((0 ≤ x ∧ x < J 6 12) ∧ (0 ≤ y ∧ y < J 6 12)) ∧ cru J x y) ∧ ED S pn RR ((zru S x y, J 19 4 + 1)) J' z) ∨ (¬ (J 19 4 < 8 ∧ ((0 ≤ x ∧ x < J 6 12) ∧ (0 ≤ y ∧ y < J 6 12)) ∧ cru J x y) ∧ z = -1 ∧ CAL J' S pn RR))))) (zX n 0 zN)) 0 0 n J 0 [some (.ref 0), some (zi x), some (zi y), none] []
  have hC := hI.1.1.1
  have hm := hI.1.1.2.1
  have hL := hI.1.1.2.2
  have hb := hC.told
  have wb := cc.2.1.b hL
  have h4 := hL.1.2.1
  refine tz_aload_n (pc := 0) dX11_rules_0 rfl rfl ?_
  refine tz_fR (pc := 1) dX11_rules_1 fl_X11_29 r_0_1 ?_
  refine tz_fR (pc := 4) dX11_rules_4 fl_X11_156 r_5_1 ?_
  refine tz_astore_n (pc := 7) (L2 := [_, _, _, _]) dX11_rules_7 rfl (by decide) rfl ?_
  refine tz_aload_n (pc := 8) dX11_rules_8 rfl rfl ?_
  refine tz_fR (pc := 9) dX11_rules_9 fl_X11_167 r_18_0 ?_
  refine tz_iconst (pc := 12) dX11_rules_12 ?_
  refine tz_aL (pc := 13) (z := 4) (v := (J 19 4)) dX11_rules_13 a_19 rfl (by decide) rfl (fun r_13 => ?_)
  refine tz_bipush (pc := 14) dX11_rules_14 (by decide) ?_
  refine tz_icmp_ge (pc := 16) (tgt := 31) dX11_rules_16 (by decide) (by omega) (by decide) (fun h_16 => ?_) (fun h_16 => ?_)
  · refine tz_aload_n (pc := 31) dX11_rules_31 rfl rfl ?_
    refine tz_iconst (pc := 32) dX11_rules_32 ?_
    refine tz_iconst (pc := 33) dX11_rules_33 ?_
    refine tz_cV (pc := 34) (c_refused hl n _ _ _ (by decide) (by omega) (by decide)) vl_X11_284 dX11_rules_34 o_0 rfl rfl (Nat.le_of_ble_eq_true rfl) ⟨(Nat.le_of_ble_eq_true rfl), (Nat.le_of_ble_eq_true rfl)⟩ rfl rfl (Nat.le_of_ble_eq_true rfl) (Nat.le_of_ble_eq_true rfl) (fun r9 J_34 hq9 => ?_)
    obtain ⟨z_34, rfl, hz_34, f9, rfl⟩ := hq9
    exact tz_iret (pc := 37) (z := (-1)) dX11_rules_37 rfl (Nat.le_of_ble_eq_true rfl) (Nat.le_of_ble_eq_true rfl) ⟨Nat.le_refl _, Nat.le_add_right _ _⟩ ⟨_, rfl, (by decide), ⟨(SQ.cq ⟨⟨m, hI.st f9⟩, f9 145 rfl, f9 0 rfl, (f9.mono (fun c hc => by have := of_decide_eq_true hc; simp [zbut]; omega))⟩ (by omega) rfl zOf.rf), Or.inr ⟨fun q => absurd q.1 (by omega), rfl, cc.st hI f9⟩⟩⟩
  · refine tz_aload_n (pc := 19) dX11_rules_19 rfl rfl ?_
    refine tz_fR (pc := 20) dX11_rules_20 fl_X11_81 r_0_9 ?_
    refine tz_iload_n (pc := 23) dX11_rules_23 rfl rfl ?_
    refine tz_iload_n (pc := 24) dX11_rules_24 rfl rfl ?_
    refine tz_cV (pc := 25) (x_isRuleA hl n _ _ _ (by omega) (by omega) m hC hm hI.1.2.2.1.2) vl_X11_353 dX11_rules_25 o_155 rfl rfl (Nat.le_of_ble_eq_true rfl) ⟨(Nat.le_of_ble_eq_true rfl), (Nat.le_of_ble_eq_true rfl)⟩ rfl rfl (Nat.le_of_ble_eq_true rfl) (Nat.le_of_ble_eq_true rfl) (fun r9 J1 hq9 => ?_)
    obtain ⟨zc, rfl, hz_25, q1, q2, q4⟩ := hq9
    have hw1 := hI.work6 q2 rfl ((q4 3 (by decide)).trans hI.1.2.2.1.2)
    have hI1 := hw1.1
    have cc1 := cc.wk hI q2 rfl
    have qc : zc = 0 ∨ zc = 1 := q1.elim (fun q => Or.inr q.1) (fun q => Or.inl q.1)
    refine tz_if_ne (pc := 28) (tgt := 38) dX11_rules_28 (by decide) (by omega) (fun h_28 => ?_) (fun h_28 => ?_)
    · refine tz_aload_n (pc := 38) dX11_rules_38 rfl rfl ?_
      refine tz_fR (pc := 39) dX11_rules_39 fl_X11_29 r_0_1 ?_
      refine tz_cV (pc := 42) (c_begin hl n _) vl_X11_287 dX11_rules_42 o_5 rfl rfl (Nat.le_of_ble_eq_true rfl) ⟨(Nat.le_of_ble_eq_true rfl), (Nat.le_of_ble_eq_true rfl)⟩ rfl rfl (Nat.le_of_ble_eq_true rfl) (Nat.le_of_ble_eq_true rfl) (fun r9 Jb hq9 => ?_)
      obtain ⟨rfl, hj⟩ := hq9
      have hb9 : zOf (zbut [19, 61]) Jb J1 := by rw [← hj]; exact zOf.cp rfl (zOf.up rfl zOf.rf)
      have hb19 : ∀ k, ¬ k = 0 → Jb 19 k = J1 19 k := fun k hk => by rw [← hj, zcp_nc (by decide), zup_ne hk]
      have a0 : AC Jb m m := by rw [← hj]; exact hI1.begin
      have hb6 := a0.1.1.2.1
      obtain ⟨cb, kb, lb⟩ := cc1.begin hI1 hj
      refine tz_aload_n (pc := 45) dX11_rules_45 rfl rfl ?_
      refine tz_iload_n (pc := 46) dX11_rules_46 rfl rfl ?_
      refine tz_iload_n (pc := 47) dX11_rules_47 rfl rfl ?_
      have q3 := (q1.resolve_right (fun k => by have := k.1; omega)).2
      refine tz_cV (pc := 48) (c_addRule hl n _ _ _ (by omega) (by omega) a0.1.1.2.2.1.2.1) vl_X11_356 dX11_rules_48 o_18 rfl rfl (Nat.le_of_ble_eq_true rfl) ⟨(Nat.le_of_ble_eq_true rfl), (Nat.le_of_ble_eq_true rfl)⟩ rfl rfl (Nat.le_of_ble_eq_true rfl) (Nat.le_of_ble_eq_true rfl) (fun r9 Jd hq9 => ?_)
      obtain ⟨rfl, hj3⟩ := hq9
      have fw : zOf (zbut [19]) Jd Jb := by rw [← hj3]; exact zof_aR
      have a1 : AC Jd m m := a0.led fw (by rw [← hj3]; exact a0.1.1.2.2.aR q3.1.1 q3.1.2)
      refine tz_aload_n (pc := 51) dX11_rules_51 rfl rfl ?_
      refine tz_fR (pc := 52) dX11_rules_52 fl_X11_29 r_0_1 ?_
      refine tz_cV (pc := 55) (x_keep hl n _ m m a1) vl_X11_305 dX11_rules_55 o_5 rfl rfl (Nat.le_of_ble_eq_true rfl) ⟨(Nat.le_of_ble_eq_true rfl), (Nat.le_of_ble_eq_true rfl)⟩ rfl rfl (Nat.le_of_ble_eq_true rfl) (Nat.le_of_ble_eq_true rfl) (fun r9 Jk hq9 => ?_)
      obtain ⟨rfl, k9, kx⟩ := hq9
      refine tz_aload_n (pc := 58) dX11_rules_58 rfl rfl ?_
      refine tz_fR (pc := 59) dX11_rules_59 fl_X11_167 r_18_0 ?_
      refine tz_iconst (pc := 62) dX11_rules_62 ?_
      refine tz_aL (pc := 63) (z := 4) (v := (Jd 19 4)) dX11_rules_63 a_19 rfl (by decide) (Eq.trans (congrFun (k9.2 19 rfl) 4) rfl) (fun r_63 => ?_)
      have c4 := cb.2.1.2.1.1
      have d4 : Jb 19 4 = J 19 4 := (hb19 4 (by decide)).trans (congrFun (q2 19 rfl) 4)
      exact tz_iret (pc := 64) (z := (Jd 19 4)) dX11_rules_64 rfl (Nat.le_of_ble_eq_true rfl) (Nat.le_of_ble_eq_true rfl) ⟨Nat.le_refl _, Nat.le_add_right _ _⟩ ⟨_, rfl, (by omega), ⟨(CQ.k k9 (by rw [fw 145 rfl, hb9 145 rfl, hw1.2.1]; omega) ((fw 0 rfl).trans ((hb9 0 rfl).trans hw1.2.2.1)) ((fw.mono (fun c hc => by have := of_decide_eq_true hc; simp [zbut]; omega)).tr ((hb9.mono (fun c hc => by have := of_decide_eq_true hc; simp [zbut]; omega)).tr hw1.2.2.2))), Or.inl ⟨⟨by omega, by rw [hm]; exact q3.1, q3.2⟩, act_keep cc1 hI1 hj fw h21 (show Jd 19 4 = J 19 4 + 1 from by rw [← hj3]; unfold zaR; rw [if_pos (by omega), zup_ne (by decide), zup_at]; omega) (by show (if (0 : Int) = 40 then 0 else if (0 : Int) = 9 then S 165 9 + 1 else if (0 : Int) = 10 + 2 * S 165 9 + 1 then y else if (0 : Int) = 10 + 2 * S 165 9 then x else S 165 0) = S 165 0; rw [if_neg (by decide), if_neg (by decide), if_neg (by omega), if_neg (by omega)]) (zOf.up rfl zrl_of) (by rw [← hj3]; unfold zaR; rw [if_pos (by omega)]; exact cb.2.1.ru ⟨⟨wb.1.1, by omega⟩, wb.2.1⟩) k9.2 kx⟩⟩⟩
    · refine tz_aload_n (pc := 31) dX11_rules_31 rfl rfl ?_
      refine tz_iconst (pc := 32) dX11_rules_32 ?_
      refine tz_iconst (pc := 33) dX11_rules_33 ?_
      refine tz_cV (pc := 34) (c_refused hl n _ _ _ (by decide) (by omega) (by decide)) vl_X11_284 dX11_rules_34 o_0 rfl rfl (Nat.le_of_ble_eq_true rfl) ⟨(Nat.le_of_ble_eq_true rfl), (Nat.le_of_ble_eq_true rfl)⟩ rfl rfl (Nat.le_of_ble_eq_true rfl) (Nat.le_of_ble_eq_true rfl) (fun r9 J_34 hq9 => ?_)
      obtain ⟨z_34, rfl, hz_34, f9, rfl⟩ := hq9
      exact tz_iret (pc := 37) (z := (-1)) dX11_rules_37 rfl (Nat.le_of_ble_eq_true rfl) (Nat.le_of_ble_eq_true rfl) ⟨Nat.le_refl _, Nat.le_add_right _ _⟩ ⟨_, rfl, (by decide), ⟨(SQ.cq ⟨⟨m, hI1.st f9⟩, f9 145 rfl, f9 0 rfl, (f9.mono (fun c hc => by have := of_decide_eq_true hc; simp [zbut]; omega))⟩ (by rw [hw1.2.1]; omega) hw1.2.2.1 hw1.2.2.2), Or.inr ⟨fun q => (q1.resolve_left (fun k => by have := k.1; omega)).2 ⟨by rw [← hm]; exact q.2.1, q.2.2⟩, rfl, cc1.st hI1 f9⟩⟩⟩

end
section
/-! ===== bind, room, enter, leave, rules of the reference, exact ===== -/
theorem tb0_up {J : zJ} {k v : Int} (hk : 0 ≤ k ∧ k < 63) : tb0 (zup J 165 k v) = zup (tb0 J) 165 k v := by
  funext c q
  by_cases h5 : c = 165
  · subst h5
    show (if 0 ≤ q ∧ q < 63 then (if q = k then v else J 165 q) else 0) = if q = k then v else if 0 ≤ q ∧ q < 63 then J 165 q else 0
    (repeat' split) <;> first | rfl | omega
  · rw [zup_nc h5]
    unfold tb0
    have e : ∀ d, ¬ d = 165 → zup J 165 k v d = J d := fun d q => zup_nc q
    rw [if_neg h5, if_neg h5, e 164 (by decide), e 167 (by decide), e c h5]
theorem tb0_rl {J : zJ} {u t : Int} (h : 0 ≤ J 165 9 ∧ J 165 9 < 8) : tb0 (zrl J 0 u t) = zrl (tb0 J) 0 u t := by
  have h9 : 0 ≤ J 165 (0 + 9) ∧ J 165 (0 + 9) < 8 := h
  unfold zrl
  rw [tb0_up (by omega), tb0_up (by omega), tb0_up (by omega)]
  rfl
theorem tb0_en {J : zJ} {t : Int} (h : 0 ≤ J 165 26 ∧ J 165 26 < 12) : tb0 (zen J 0 t) = zen (tb0 J) 0 t := by
  have h9 : 0 ≤ J 165 (0 + 26) ∧ J 165 (0 + 26) < 12 := h
  unfold zen
  rw [tb0_up (by omega), tb0_up (by omega)]
  rfl
theorem tb0_lv {J' J : zJ} {w : Int} (f : zOf (zbut [165]) J' J) (h : (0 ≤ w ∧ w < J 165 26) ∧ J 165 26 ≤ 12) (c : J' 165 26 = J 165 26 - 1) (e : ∀ k, 0 ≤ k → k < 63 → ¬ k = 26 → J' 165 k = if 27 + w ≤ k ∧ k < 27 + (J 165 26 - 1) then J 165 (k + 1) else J 165 k) : tb0 J' = zlv (tb0 J) w := by
  funext q k
  by_cases h5 : q = 165
  · subst h5
    show (if 0 ≤ k ∧ k < 63 then J' 165 k else 0) = if k = 26 then J 165 26 - 1 else if 27 + w ≤ k ∧ k < 27 + (J 165 26 - 1) then (if 0 ≤ k + 1 ∧ k + 1 < 63 then J 165 (k + 1) else 0) else if 0 ≤ k ∧ k < 63 then J 165 k else 0
    by_cases hk : 0 ≤ k ∧ k < 63
    · rw [if_pos hk]
      by_cases k6 : k = 26
      · rw [if_pos k6, k6]; exact c
      · rw [if_neg k6, e k hk.1 hk.2 k6]
        by_cases r : 27 + w ≤ k ∧ k < 27 + (J 165 26 - 1)
        · rw [if_pos r, if_pos r, if_pos (by omega)]
        · rw [if_neg r, if_neg r, if_pos hk]
    · rw [if_neg hk, if_neg (by omega), if_neg (by omega), if_neg hk]
  · show tb0 J' q k = (if q = 165 then _ else tb0 J q) k
    rw [if_neg h5]
    unfold tb0
    rw [if_neg h5, if_neg h5, f 164 rfl, f 167 rfl]
    by_cases c6 : q = 166 ∨ q = 168
    · rcases c6 with c6 | c6
      · rw [c6, f 166 rfl]
      · rw [c6, f 168 rfl]
    · rw [if_neg c6, if_neg c6]
      by_cases c9 : q = 169 ∨ q = 170 ∨ q = 171
      · rcases c9 with c9 | c9 | c9
        · rw [c9, f 169 rfl]
        · rw [c9, f 170 rfl]
        · rw [c9, f 171 rfl]
      · rw [if_neg c9, if_neg c9]
theorem MOP.r5 {Jo Jb : zJ} {m : Int} (f : zOf (zbut [165]) Jo Jb) (e : ∀ k, 63 ≤ k → Jo 165 k = Jb 165 k) : MOP Jo Jb m := ⟨⟨fun k a => e k (by omega), fun k _ _ => ⟨by rw [f 166 rfl], by rw [f 168 rfl]⟩, fun k _ _ => by rw [f 167 rfl], by rw [f 164 rfl], by rw [f 164 rfl]⟩, e, ⟨by rw [f 164 rfl], by rw [f 164 rfl], by rw [f 164 rfl]⟩, fun t _ _ => ⟨by rw [f 166 rfl], by rw [f 168 rfl]⟩, fun k _ _ => by rw [f 167 rfl], fun k _ _ => ⟨by rw [f 169 rfl], by rw [f 170 rfl], by rw [f 171 rfl]⟩⟩
/-- the place of an entry, or how many there are -/
def eyM (J : zJ) (t : Int) : Int := fnB (fun k => decide (¬ J 165 (27 + k) = t)) (J 165 26) 0
set_option maxHeartbeats 4000000 in
set_option maxRecDepth 100000 in
theorem v_qbind {l : Launch} {G : tb_G} (hl : l.stackTraces = false) (n : Nat) (J : zJ) (x : Int) (y : Int) (hr_x : -2147483648 ≤ x ∧ x < 2147483648) (hr_y : -2147483648 ≤ y ∧ y < 2147483648) (m : Int) (pn : Int) (RR : Int → Int → Int) (hI : MI J m) (u9 : MUr J pn RR) : tz_Ok l G M_X12_bind 3 0 0 [.ref 164, zi x, zi y] n J (zqi (fun z J' => MQr J' J ∧ MFI J' J ∧ ((((0 ≤ x ∧ x < 8) ∧ (y = -1 ∨ (0 ≤ y ∧ y < J 165 0)) ∧ ¬ J 165 (1 + x) = y + 1) ∧ MED (tbz J) pn RR ((zbd (tbz J) x y, J 165 (1 + x) - 1)) J' z) ∨ (¬ ((0 ≤ x ∧ x < 8) ∧ (y = -1 ∨ (0 ≤ y ∧ y < J 165 0)) ∧ ¬ J 165 (1 + x) = y + 1) ∧ z = -2 ∧ MBT J' (tbz J) ∧ MUr J' pn RR)))) zN := by
  refine tz_Ok.of hl (by decide +kernel) rfl (tb_c1 rfl) (Nat.le_of_ble_eq_true rfl) ?_
  show tz_At l G M_X12_bind (tb_rm 3 0 0) none (tb_ZM G 0 0 (zQ n 0 (zqi (fun z J' => MQr J' J ∧ MFI J' J ∧ ((((0 ≤ x ∧ x < 8) ∧ (y = -1 ∨ (0 ≤ y ∧ y < J 165 0)) ∧ ¬ J 165 (1 + x) = y + 1) ∧ MED (tbz J) pn RR ((zbd (tbz J) x y, J 165 (1 + x) - 1)) J' z) ∨ (¬ ((0 ≤ x ∧ x < 8) ∧ (y = -1 ∨ (0 ≤ y ∧ y < J 165 0)) ∧ ¬ J 165 (1 + x) = y + 1) ∧ z = -2 ∧ MBT J' (tbz J) ∧ MUr J' pn RR))))) (zX n 0 zN)) 0 0 n J 0 [some (.ref 164), some (zi x), some (zi y), none] []
  have hT := hI.told
  have hW := hI.row
  have hM := hI.1
  have hL := hI.2.1
  have hB := hL.2.2.2
  refine tz_aload_n (pc := 0) dX12_bind_0 rfl rfl ?_
  refine tz_iconst (pc := 1) dX12_bind_1 ?_
  refine tz_pI (pc := 2) (kz := 8) dX12_bind_2 fl_X12_68 i_164_8 rfl rfl (by decide) ?_
  refine tz_iload_n (pc := 5) dX12_bind_5 rfl rfl ?_
  refine tz_iconst (pc := 6) dX12_bind_6 ?_
  refine tz_bipush (pc := 7) dX12_bind_7 (by decide) ?_
  refine tz_cS (pc := 9) (m_within hl n _ _ _ _ (by omega) (by decide) (by decide)) sl_X12_283 dX12_bind_9 rfl rfl (Nat.le_of_ble_eq_true rfl) ⟨(Nat.le_of_ble_eq_true rfl), (Nat.le_of_ble_eq_true rfl)⟩ rfl rfl (Nat.le_of_ble_eq_true rfl) (Nat.le_of_ble_eq_true rfl) (fun r9 J_9 hq9 => ?_)
  obtain ⟨z_9, rfl, hz_9, rfl, hw_9⟩ := hq9
  refine tz_if_eq (pc := 12) (tgt := 42) dX12_bind_12 (by decide) (by omega) (fun h_12 => ?_) (fun h_12 => ?_)
  · refine tz_aload_n (pc := 42) dX12_bind_42 rfl rfl ?_
    refine tz_iconst (pc := 43) dX12_bind_43 ?_
    refine tz_bipush (pc := 44) dX12_bind_44 (by decide) ?_
    refine tz_cV (pc := 46) (m_refuses hl n _ _ _ (by decide) (by decide) (by decide)) vl_X12_391 dX12_bind_46 o_164 rfl rfl (Nat.le_of_ble_eq_true rfl) ⟨(Nat.le_of_ble_eq_true rfl), (Nat.le_of_ble_eq_true rfl)⟩ rfl rfl (Nat.le_of_ble_eq_true rfl) (Nat.le_of_ble_eq_true rfl) (fun r9 J_46 hq9 => ?_)
    obtain ⟨z_46, rfl, hz_46, rfl, f_46⟩ := hq9
    have y_46 : MZ J_46 J := MZ.tr (MZ.up (k := 8) MZ.rf (by decide)) (MZ.c f_46 (by decide))
    exact tz_iret (pc := 49) (z := (-2)) dX12_bind_49 rfl (Nat.le_of_ble_eq_true rfl) (Nat.le_of_ble_eq_true rfl) ⟨Nat.le_refl _, Nat.le_add_right _ _⟩ ⟨_, rfl, (by decide), ⟨MQr.z hI y_46, MFI.z y_46, Or.inr ⟨by omega, rfl, MBT.z hI y_46, u9.z y_46⟩⟩⟩
  · refine tz_iload_n (pc := 15) dX12_bind_15 rfl rfl ?_
    refine tz_iconst (pc := 16) dX12_bind_16 ?_
    refine tz_icmp_eq (pc := 17) (tgt := 28) dX12_bind_17 (by decide) (by omega) (by decide) (fun h_17 => ?_) (fun h_17 => ?_)
    · refine tz_aload_n (pc := 28) dX12_bind_28 rfl rfl ?_
      refine tz_fR (pc := 29) dX12_bind_29 fl_X12_9 r_164_0 ?_
      refine tz_iconst (pc := 32) dX12_bind_32 ?_
      refine tz_iload_n (pc := 33) dX12_bind_33 rfl rfl ?_
      refine tz_iadd (pc := 34) (v := 1 + x) dX12_bind_34 rfl ?_
      refine tz_aL (pc := 35) (z := (1 + x)) (v := (J 165 (1 + x))) dX12_bind_35 a_165 rfl (by omega) rfl (fun r_35 => ?_)
      refine tz_iload_n (pc := 36) dX12_bind_36 rfl rfl ?_
      refine tz_iconst (pc := 37) dX12_bind_37 ?_
      refine tz_iadd (pc := 38) (v := y + 1) dX12_bind_38 rfl ?_
      refine tz_icmp_ne (pc := 39) (tgt := 50) dX12_bind_39 (by decide) (by omega) (by omega) (fun h_39 => ?_) (fun h_39 => ?_)
      · refine tz_aload_n (pc := 50) dX12_bind_50 rfl rfl ?_
        refine tz_cV (pc := 51) (m_begins hl n _) vl_X12_400 dX12_bind_51 o_164 rfl rfl (Nat.le_of_ble_eq_true rfl) ⟨(Nat.le_of_ble_eq_true rfl), (Nat.le_of_ble_eq_true rfl)⟩ rfl rfl (Nat.le_of_ble_eq_true rfl) (Nat.le_of_ble_eq_true rfl) (fun r9 J_51 hq9 => ?_)
        obtain ⟨rfl, hj_51⟩ := hq9
        have a_51 : AM J_51 J m m := by rw [← hj_51]; exact AM.begin (hI.z (MZ.up (k := 8) MZ.rf (by decide))) ⟨MZ.lo (MZ.up (k := 8) MZ.rf (by decide)), SC.z (MZ.up (k := 8) MZ.rf (by decide))⟩
        have br_51 : ∀ k, (k < 63 ∨ 126 ≤ k) → J_51 165 k = ((zup J 164 8 0) : zJ) 165 k := fun k hk => by rw [← hj_51]; exact zbg_r hk
        have bl_51 : ∀ k, ¬ k = 34 → ¬ k = 33 → ¬ k = 21 → J_51 164 k = ((zup J 164 8 0) : zJ) 164 k := fun k u v w => by rw [← hj_51]; exact zbg_f u v w
        have bo_51 : zOf (zbut [164, 165]) J_51 (zup J 164 8 0) := by rw [← hj_51]; exact zbg_of
        have b3_51 : J_51 164 21 = 0 ∧ J_51 164 33 = 0 ∧ J_51 164 34 = 0 := by rw [← hj_51]; exact ⟨rfl, rfl, rfl⟩
        have s9_51 : J_51 164 9 = J 164 9 := (bl_51 9 (by decide) (by decide) (by decide)).trans ((MZ.up (k := 8) MZ.rf (by decide)).2 9 (by decide) (by decide))
        obtain ⟨⟨bt_51, bs_51, bm_51, ba_51⟩, bu_51, bn_51, bf_51, bi_51⟩ := mbeg hI (MZ.up (k := 8) MZ.rf (by decide)) hj_51 u9
        refine tz_aload_n (pc := 54) dX12_bind_54 rfl rfl ?_
        refine tz_fR (pc := 55) dX12_bind_55 fl_X12_9 r_164_0 ?_
        refine tz_iconst (pc := 58) dX12_bind_58 ?_
        refine tz_iload_n (pc := 59) dX12_bind_59 rfl rfl ?_
        refine tz_iadd (pc := 60) (v := 1 + x) dX12_bind_60 rfl ?_
        refine tz_aL (pc := 61) (z := (1 + x)) (v := (J 165 (1 + x))) dX12_bind_61 a_165 rfl (by omega) (Eq.trans (br_51 (1 + x) (by omega)) rfl) (fun r_61 => ?_)
        refine tz_iconst (pc := 62) dX12_bind_62 ?_
        refine tz_isub (pc := 63) (v := (J 165 (1 + x)) - 1) dX12_bind_63 rfl ?_
        refine tz_istore_n (pc := 64) (L2 := [_, _, _, _]) dX12_bind_64 rfl (by decide) rfl ?_
        refine tz_aload_n (pc := 65) dX12_bind_65 rfl rfl ?_
        refine tz_fR (pc := 66) dX12_bind_66 fl_X12_9 r_164_0 ?_
        refine tz_iconst (pc := 69) dX12_bind_69 ?_
        refine tz_iload_n (pc := 70) dX12_bind_70 rfl rfl ?_
        refine tz_iadd (pc := 71) (v := 1 + x) dX12_bind_71 rfl ?_
        refine tz_iload_n (pc := 72) dX12_bind_72 rfl rfl ?_
        refine tz_iconst (pc := 73) dX12_bind_73 ?_
        refine tz_iadd (pc := 74) (v := y + 1) dX12_bind_74 rfl ?_
        refine tz_aS (pc := 75) (z := (1 + x)) dX12_bind_75 a_165 rfl (by omega) (by omega) ?_
        refine tz_aload_n (pc := 76) dX12_bind_76 rfl rfl ?_
        refine tz_iload_n (pc := 77) dX12_bind_77 rfl rfl ?_
        refine tz_tw ?_
        have rw_78 := zw_rg ((J 165 (1 + x)) - 1)
        refine tz_cV (pc := 78) (m_keeps hl n _ _ (by omega) ((AM.bind a_51 (by omega) (by omega))).2.2.2.1.1.1 ((AM.bind a_51 (by omega) (by omega))).2.2.2.1.1.2) vl_X12_403 dX12_bind_78 o_164 rfl rfl (Nat.le_of_ble_eq_true rfl) ⟨(Nat.le_of_ble_eq_true rfl), (Nat.le_of_ble_eq_true rfl)⟩ rfl rfl (Nat.le_of_ble_eq_true rfl) (Nat.le_of_ble_eq_true rfl) (fun r9 J_78 hq9 => ?_)
        obtain ⟨z_78, rfl, hz_78, k_78⟩ := hq9
        exact tz_iret (pc := 81) (z := z_78) dX12_bind_81 rfl (Nat.le_of_ble_eq_true rfl) (Nat.le_of_ble_eq_true rfl) ⟨Nat.le_refl _, Nat.le_add_right _ _⟩ ⟨_, rfl, (by omega), (AE (AM.keep (AM.bind a_51 (by omega) (by omega)) k_78) bi_51 (mact_end bt_51 bs_51 bm_51 ba_51 bu_51 bn_51 bf_51 (MOP.r5 (zOf.up rfl zOf.rf) (fun k a => zup_ne (by omega))) (show tb0 (zup J_51 165 (1 + x) (y + 1)) = zbd (tbz J) x y from by rw [tb0_up (by omega), bt_51]; rfl) (by show zup (tbz J) 165 (1 + x) (y + 1) 165 0 ≤ 400; rw [zup_ne (by omega), bs_51]; exact bm_51) (fun _ => (zw_eq (by have := hB (1 + x) (by omega) (by omega); omega))) k_78) (by omega))⟩
      · refine tz_aload_n (pc := 42) dX12_bind_42 rfl rfl ?_
        refine tz_iconst (pc := 43) dX12_bind_43 ?_
        refine tz_bipush (pc := 44) dX12_bind_44 (by decide) ?_
        refine tz_cV (pc := 46) (m_refuses hl n _ _ _ (by decide) (by decide) (by decide)) vl_X12_391 dX12_bind_46 o_164 rfl rfl (Nat.le_of_ble_eq_true rfl) ⟨(Nat.le_of_ble_eq_true rfl), (Nat.le_of_ble_eq_true rfl)⟩ rfl rfl (Nat.le_of_ble_eq_true rfl) (Nat.le_of_ble_eq_true rfl) (fun r9 J_46 hq9 => ?_)
        obtain ⟨z_46, rfl, hz_46, rfl, f_46⟩ := hq9
        have y_46 : MZ J_46 J := MZ.tr (MZ.up (k := 8) MZ.rf (by decide)) (MZ.c f_46 (by decide))
        exact tz_iret (pc := 49) (z := (-2)) dX12_bind_49 rfl (Nat.le_of_ble_eq_true rfl) (Nat.le_of_ble_eq_true rfl) ⟨Nat.le_refl _, Nat.le_add_right _ _⟩ ⟨_, rfl, (by decide), ⟨MQr.z hI y_46, MFI.z y_46, Or.inr ⟨by omega, rfl, MBT.z hI y_46, u9.z y_46⟩⟩⟩
    · refine tz_aload_n (pc := 20) dX12_bind_20 rfl rfl ?_
      refine tz_iload_n (pc := 21) dX12_bind_21 rfl rfl ?_
      refine tz_cV (pc := 22) (m_isTerm hl n _ _ (by omega) (by rw [(show ((zup J 164 8 0) : zJ) 165 0 = (J 165 0) from rfl)]; omega)) vl_X12_376 dX12_bind_22 o_164 rfl rfl (Nat.le_of_ble_eq_true rfl) ⟨(Nat.le_of_ble_eq_true rfl), (Nat.le_of_ble_eq_true rfl)⟩ rfl rfl (Nat.le_of_ble_eq_true rfl) (Nat.le_of_ble_eq_true rfl) (fun r9 J_22 hq9 => ?_)
      obtain ⟨z_22, rfl, hz_22, rfl, ht_22⟩ := hq9
      rw [(show ((zup J 164 8 0) : zJ) 165 0 = (J 165 0) from rfl)] at ht_22
      refine tz_if_eq (pc := 25) (tgt := 42) dX12_bind_25 (by decide) (by omega) (fun h_25 => ?_) (fun h_25 => ?_)
      · refine tz_aload_n (pc := 42) dX12_bind_42 rfl rfl ?_
        refine tz_iconst (pc := 43) dX12_bind_43 ?_
        refine tz_bipush (pc := 44) dX12_bind_44 (by decide) ?_
        refine tz_cV (pc := 46) (m_refuses hl n _ _ _ (by decide) (by decide) (by decide)) vl_X12_391 dX12_bind_46 o_164 rfl rfl (Nat.le_of_ble_eq_true rfl) ⟨(Nat.le_of_ble_eq_true rfl), (Nat.le_of_ble_eq_true rfl)⟩ rfl rfl (Nat.le_of_ble_eq_true rfl) (Nat.le_of_ble_eq_true rfl) (fun r9 J_46 hq9 => ?_)
        obtain ⟨z_46, rfl, hz_46, rfl, f_46⟩ := hq9
        have y_46 : MZ J_46 J := MZ.tr (MZ.up (k := 8) MZ.rf (by decide)) (MZ.c f_46 (by decide))
        exact tz_iret (pc := 49) (z := (-2)) dX12_bind_49 rfl (Nat.le_of_ble_eq_true rfl) (Nat.le_of_ble_eq_true rfl) ⟨Nat.le_refl _, Nat.le_add_right _ _⟩ ⟨_, rfl, (by decide), ⟨MQr.z hI y_46, MFI.z y_46, Or.inr ⟨by omega, rfl, MBT.z hI y_46, u9.z y_46⟩⟩⟩
      · refine tz_aload_n (pc := 28) dX12_bind_28 rfl rfl ?_
        refine tz_fR (pc := 29) dX12_bind_29 fl_X12_9 r_164_0 ?_
        refine tz_iconst (pc := 32) dX12_bind_32 ?_
        refine tz_iload_n (pc := 33) dX12_bind_33 rfl rfl ?_
        refine tz_iadd (pc := 34) (v := 1 + x) dX12_bind_34 rfl ?_
        refine tz_aL (pc := 35) (z := (1 + x)) (v := (J 165 (1 + x))) dX12_bind_35 a_165 rfl (by omega) rfl (fun r_35 => ?_)
        refine tz_iload_n (pc := 36) dX12_bind_36 rfl rfl ?_
        refine tz_iconst (pc := 37) dX12_bind_37 ?_
        refine tz_iadd (pc := 38) (v := y + 1) dX12_bind_38 rfl ?_
        refine tz_icmp_ne (pc := 39) (tgt := 50) dX12_bind_39 (by decide) (by omega) (by omega) (fun h_39 => ?_) (fun h_39 => ?_)
        · refine tz_aload_n (pc := 50) dX12_bind_50 rfl rfl ?_
          refine tz_cV (pc := 51) (m_begins hl n _) vl_X12_400 dX12_bind_51 o_164 rfl rfl (Nat.le_of_ble_eq_true rfl) ⟨(Nat.le_of_ble_eq_true rfl), (Nat.le_of_ble_eq_true rfl)⟩ rfl rfl (Nat.le_of_ble_eq_true rfl) (Nat.le_of_ble_eq_true rfl) (fun r9 J_51 hq9 => ?_)
          obtain ⟨rfl, hj_51⟩ := hq9
          have a_51 : AM J_51 J m m := by rw [← hj_51]; exact AM.begin (hI.z (MZ.up (k := 8) MZ.rf (by decide))) ⟨MZ.lo (MZ.up (k := 8) MZ.rf (by decide)), SC.z (MZ.up (k := 8) MZ.rf (by decide))⟩
          have br_51 : ∀ k, (k < 63 ∨ 126 ≤ k) → J_51 165 k = ((zup J 164 8 0) : zJ) 165 k := fun k hk => by rw [← hj_51]; exact zbg_r hk
          have bl_51 : ∀ k, ¬ k = 34 → ¬ k = 33 → ¬ k = 21 → J_51 164 k = ((zup J 164 8 0) : zJ) 164 k := fun k u v w => by rw [← hj_51]; exact zbg_f u v w
          have bo_51 : zOf (zbut [164, 165]) J_51 (zup J 164 8 0) := by rw [← hj_51]; exact zbg_of
          have b3_51 : J_51 164 21 = 0 ∧ J_51 164 33 = 0 ∧ J_51 164 34 = 0 := by rw [← hj_51]; exact ⟨rfl, rfl, rfl⟩
          have s9_51 : J_51 164 9 = J 164 9 := (bl_51 9 (by decide) (by decide) (by decide)).trans ((MZ.up (k := 8) MZ.rf (by decide)).2 9 (by decide) (by decide))
          obtain ⟨⟨bt_51, bs_51, bm_51, ba_51⟩, bu_51, bn_51, bf_51, bi_51⟩ := mbeg hI (MZ.up (k := 8) MZ.rf (by decide)) hj_51 u9
          refine tz_aload_n (pc := 54) dX12_bind_54 rfl rfl ?_
          refine tz_fR (pc := 55) dX12_bind_55 fl_X12_9 r_164_0 ?_
          refine tz_iconst (pc := 58) dX12_bind_58 ?_
          refine tz_iload_n (pc := 59) dX12_bind_59 rfl rfl ?_
          refine tz_iadd (pc := 60) (v := 1 + x) dX12_bind_60 rfl ?_
          refine tz_aL (pc := 61) (z := (1 + x)) (v := (J 165 (1 + x))) dX12_bind_61 a_165 rfl (by omega) (Eq.trans (br_51 (1 + x) (by omega)) rfl) (fun r_61 => ?_)
          refine tz_iconst (pc := 62) dX12_bind_62 ?_
          refine tz_isub (pc := 63) (v := (J 165 (1 + x)) - 1) dX12_bind_63 rfl ?_
          refine tz_istore_n (pc := 64) (L2 := [_, _, _, _]) dX12_bind_64 rfl (by decide) rfl ?_
          refine tz_aload_n (pc := 65) dX12_bind_65 rfl rfl ?_
          refine tz_fR (pc := 66) dX12_bind_66 fl_X12_9 r_164_0 ?_
          refine tz_iconst (pc := 69) dX12_bind_69 ?_
          refine tz_iload_n (pc := 70) dX12_bind_70 rfl rfl ?_
          refine tz_iadd (pc := 71) (v := 1 + x) dX12_bind_71 rfl ?_
          refine tz_iload_n (pc := 72) dX12_bind_72 rfl rfl ?_
          refine tz_iconst (pc := 73) dX12_bind_73 ?_
          refine tz_iadd (pc := 74) (v := y + 1) dX12_bind_74 rfl ?_
          refine tz_aS (pc := 75) (z := (1 + x)) dX12_bind_75 a_165 rfl (by omega) (by omega) ?_
          refine tz_aload_n (pc := 76) dX12_bind_76 rfl rfl ?_
          refine tz_iload_n (pc := 77) dX12_bind_77 rfl rfl ?_
          refine tz_tw ?_
          have rw_78 := zw_rg ((J 165 (1 + x)) - 1)
          refine tz_cV (pc := 78) (m_keeps hl n _ _ (by omega) ((AM.bind a_51 (by omega) (by omega))).2.2.2.1.1.1 ((AM.bind a_51 (by omega) (by omega))).2.2.2.1.1.2) vl_X12_403 dX12_bind_78 o_164 rfl rfl (Nat.le_of_ble_eq_true rfl) ⟨(Nat.le_of_ble_eq_true rfl), (Nat.le_of_ble_eq_true rfl)⟩ rfl rfl (Nat.le_of_ble_eq_true rfl) (Nat.le_of_ble_eq_true rfl) (fun r9 J_78 hq9 => ?_)
          obtain ⟨z_78, rfl, hz_78, k_78⟩ := hq9
          exact tz_iret (pc := 81) (z := z_78) dX12_bind_81 rfl (Nat.le_of_ble_eq_true rfl) (Nat.le_of_ble_eq_true rfl) ⟨Nat.le_refl _, Nat.le_add_right _ _⟩ ⟨_, rfl, (by omega), (AE (AM.keep (AM.bind a_51 (by omega) (by omega)) k_78) bi_51 (mact_end bt_51 bs_51 bm_51 ba_51 bu_51 bn_51 bf_51 (MOP.r5 (zOf.up rfl zOf.rf) (fun k a => zup_ne (by omega))) (show tb0 (zup J_51 165 (1 + x) (y + 1)) = zbd (tbz J) x y from by rw [tb0_up (by omega), bt_51]; rfl) (by show zup (tbz J) 165 (1 + x) (y + 1) 165 0 ≤ 400; rw [zup_ne (by omega), bs_51]; exact bm_51) (fun _ => (zw_eq (by have := hB (1 + x) (by omega) (by omega); omega))) k_78) (by omega))⟩
        · refine tz_aload_n (pc := 42) dX12_bind_42 rfl rfl ?_
          refine tz_iconst (pc := 43) dX12_bind_43 ?_
          refine tz_bipush (pc := 44) dX12_bind_44 (by decide) ?_
          refine tz_cV (pc := 46) (m_refuses hl n _ _ _ (by decide) (by decide) (by decide)) vl_X12_391 dX12_bind_46 o_164 rfl rfl (Nat.le_of_ble_eq_true rfl) ⟨(Nat.le_of_ble_eq_true rfl), (Nat.le_of_ble_eq_true rfl)⟩ rfl rfl (Nat.le_of_ble_eq_true rfl) (Nat.le_of_ble_eq_true rfl) (fun r9 J_46 hq9 => ?_)
          obtain ⟨z_46, rfl, hz_46, rfl, f_46⟩ := hq9
          have y_46 : MZ J_46 J := MZ.tr (MZ.up (k := 8) MZ.rf (by decide)) (MZ.c f_46 (by decide))
          exact tz_iret (pc := 49) (z := (-2)) dX12_bind_49 rfl (Nat.le_of_ble_eq_true rfl) (Nat.le_of_ble_eq_true rfl) ⟨Nat.le_refl _, Nat.le_add_right _ _⟩ ⟨_, rfl, (by decide), ⟨MQr.z hI y_46, MFI.z y_46, Or.inr ⟨by omega, rfl, MBT.z hI y_46, u9.z y_46⟩⟩⟩

set_option maxHeartbeats 4000000 in
set_option maxRecDepth 100000 in
theorem v_qroom {l : Launch} {G : tb_G} (hl : l.stackTraces = false) (n : Nat) (J : zJ) (x : Int) (hr_x : -2147483648 ≤ x ∧ x < 2147483648) (m : Int) (pn : Int) (RR : Int → Int → Int) (hI : MI J m) (u9 : MUr J pn RR) : tz_Ok l G M_X12_room 3 0 0 [.ref 164, zi x] n J (zqi (fun z J' => MQr J' J ∧ MFI J' J ∧ (((0 ≤ x ∧ x ≤ 9) ∧ MED (tbz J) pn RR ((zrm (tbz J) x, J 165 39)) J' z) ∨ (¬ (0 ≤ x ∧ x ≤ 9) ∧ z = -1 ∧ MBT J' (tbz J) ∧ MUr J' pn RR)))) zN := by
  refine tz_Ok.of hl (by decide +kernel) rfl (tb_c1 rfl) (Nat.le_of_ble_eq_true rfl) ?_
  show tz_At l G M_X12_room (tb_rm 3 0 0) none (tb_ZM G 0 0 (zQ n 0 (zqi (fun z J' => MQr J' J ∧ MFI J' J ∧ (((0 ≤ x ∧ x ≤ 9) ∧ MED (tbz J) pn RR ((zrm (tbz J) x, J 165 39)) J' z) ∨ (¬ (0 ≤ x ∧ x ≤ 9) ∧ z = -1 ∧ MBT J' (tbz J) ∧ MUr J' pn RR))))) (zX n 0 zN)) 0 0 n J 0 [some (.ref 164), some (zi x), none] []
  have hT := hI.told
  have hW := hI.row
  have hM := hI.1
  have hL := hI.2.1
  refine tz_aload_n (pc := 0) dX12_room_0 rfl rfl ?_
  refine tz_iconst (pc := 1) dX12_room_1 ?_
  refine tz_pI (pc := 2) (kz := 8) dX12_room_2 fl_X12_68 i_164_8 rfl rfl (by decide) ?_
  refine tz_iload_n (pc := 5) dX12_room_5 rfl rfl ?_
  refine tz_iconst (pc := 6) dX12_room_6 ?_
  refine tz_bipush (pc := 7) dX12_room_7 (by decide) ?_
  refine tz_cS (pc := 9) (m_within hl n _ _ _ _ (by omega) (by decide) (by decide)) sl_X12_283 dX12_room_9 rfl rfl (Nat.le_of_ble_eq_true rfl) ⟨(Nat.le_of_ble_eq_true rfl), (Nat.le_of_ble_eq_true rfl)⟩ rfl rfl (Nat.le_of_ble_eq_true rfl) (Nat.le_of_ble_eq_true rfl) (fun r9 J_9 hq9 => ?_)
  obtain ⟨z_9, rfl, hz_9, rfl, hw_9⟩ := hq9
  refine tz_if_ne (pc := 12) (tgt := 22) dX12_room_12 (by decide) (by omega) (fun h_12 => ?_) (fun h_12 => ?_)
  · refine tz_aload_n (pc := 22) dX12_room_22 rfl rfl ?_
    refine tz_cV (pc := 23) (m_begins hl n _) vl_X12_400 dX12_room_23 o_164 rfl rfl (Nat.le_of_ble_eq_true rfl) ⟨(Nat.le_of_ble_eq_true rfl), (Nat.le_of_ble_eq_true rfl)⟩ rfl rfl (Nat.le_of_ble_eq_true rfl) (Nat.le_of_ble_eq_true rfl) (fun r9 J_23 hq9 => ?_)
    obtain ⟨rfl, hj_23⟩ := hq9
    have a_23 : AM J_23 J m m := by rw [← hj_23]; exact AM.begin (hI.z (MZ.up (k := 8) MZ.rf (by decide))) ⟨MZ.lo (MZ.up (k := 8) MZ.rf (by decide)), SC.z (MZ.up (k := 8) MZ.rf (by decide))⟩
    have br_23 : ∀ k, (k < 63 ∨ 126 ≤ k) → J_23 165 k = ((zup J 164 8 0) : zJ) 165 k := fun k hk => by rw [← hj_23]; exact zbg_r hk
    have bl_23 : ∀ k, ¬ k = 34 → ¬ k = 33 → ¬ k = 21 → J_23 164 k = ((zup J 164 8 0) : zJ) 164 k := fun k u v w => by rw [← hj_23]; exact zbg_f u v w
    have bo_23 : zOf (zbut [164, 165]) J_23 (zup J 164 8 0) := by rw [← hj_23]; exact zbg_of
    have b3_23 : J_23 164 21 = 0 ∧ J_23 164 33 = 0 ∧ J_23 164 34 = 0 := by rw [← hj_23]; exact ⟨rfl, rfl, rfl⟩
    have s9_23 : J_23 164 9 = J 164 9 := (bl_23 9 (by decide) (by decide) (by decide)).trans ((MZ.up (k := 8) MZ.rf (by decide)).2 9 (by decide) (by decide))
    obtain ⟨⟨bt_23, bs_23, bm_23, ba_23⟩, bu_23, bn_23, bf_23, bi_23⟩ := mbeg hI (MZ.up (k := 8) MZ.rf (by decide)) hj_23 u9
    refine tz_aload_n (pc := 26) dX12_room_26 rfl rfl ?_
    refine tz_fR (pc := 27) dX12_room_27 fl_X12_9 r_164_0 ?_
    refine tz_bipush (pc := 30) dX12_room_30 (by decide) ?_
    refine tz_aL (pc := 32) (z := 39) (v := (J 165 39)) dX12_room_32 a_165 rfl (by decide) (Eq.trans (br_23 39 (by omega)) rfl) (fun r_32 => ?_)
    refine tz_istore_n (pc := 33) (L2 := [_, _, _]) dX12_room_33 rfl (by decide) rfl ?_
    refine tz_aload_n (pc := 34) dX12_room_34 rfl rfl ?_
    refine tz_fR (pc := 35) dX12_room_35 fl_X12_9 r_164_0 ?_
    refine tz_bipush (pc := 38) dX12_room_38 (by decide) ?_
    refine tz_iload_n (pc := 40) dX12_room_40 rfl rfl ?_
    refine tz_aS (pc := 41) (z := 39) dX12_room_41 a_165 rfl (by decide) (by omega) ?_
    refine tz_aload_n (pc := 42) dX12_room_42 rfl rfl ?_
    refine tz_fR (pc := 43) dX12_room_43 fl_X12_9 r_164_0 ?_
    refine tz_bipush (pc := 46) dX12_room_46 (by decide) ?_
    refine tz_iconst (pc := 48) dX12_room_48 ?_
    refine tz_aS (pc := 49) (z := 40) dX12_room_49 a_165 rfl (by decide) (by decide) ?_
    refine tz_aload_n (pc := 50) dX12_room_50 rfl rfl ?_
    refine tz_iload_n (pc := 51) dX12_room_51 rfl rfl ?_
    refine tz_cV (pc := 52) (m_keeps hl n _ _ (by omega) ((AM.room a_23 (by omega))).2.2.2.1.1.1 ((AM.room a_23 (by omega))).2.2.2.1.1.2) vl_X12_403 dX12_room_52 o_164 rfl rfl (Nat.le_of_ble_eq_true rfl) ⟨(Nat.le_of_ble_eq_true rfl), (Nat.le_of_ble_eq_true rfl)⟩ rfl rfl (Nat.le_of_ble_eq_true rfl) (Nat.le_of_ble_eq_true rfl) (fun r9 J_52 hq9 => ?_)
    obtain ⟨z_52, rfl, hz_52, k_52⟩ := hq9
    exact tz_iret (pc := 55) (z := z_52) dX12_room_55 rfl (Nat.le_of_ble_eq_true rfl) (Nat.le_of_ble_eq_true rfl) ⟨Nat.le_refl _, Nat.le_add_right _ _⟩ ⟨_, rfl, (by omega), (AE (AM.keep (AM.room a_23 (by omega)) k_52) bi_23 (mact_end bt_23 bs_23 bm_23 ba_23 bu_23 bn_23 bf_23 (MOP.r5 (zOf.up rfl (zOf.up rfl zOf.rf)) (fun k a => (zup_ne (by omega)).trans (zup_ne (by omega)))) (show tb0 (zup (zup J_23 165 39 x) 165 40 0) = zrm (tbz J) x from by rw [tb0_up (by decide), tb0_up (by decide), bt_23]; rfl) (by show tbz J 165 0 ≤ 400; rw [bs_23]; exact bm_23) (fun _ => rfl) k_52) (by omega))⟩
  · refine tz_aload_n (pc := 15) dX12_room_15 rfl rfl ?_
    refine tz_iconst (pc := 16) dX12_room_16 ?_
    refine tz_iconst (pc := 17) dX12_room_17 ?_
    refine tz_cV (pc := 18) (m_refuses hl n _ _ _ (by decide) (by decide) (by decide)) vl_X12_391 dX12_room_18 o_164 rfl rfl (Nat.le_of_ble_eq_true rfl) ⟨(Nat.le_of_ble_eq_true rfl), (Nat.le_of_ble_eq_true rfl)⟩ rfl rfl (Nat.le_of_ble_eq_true rfl) (Nat.le_of_ble_eq_true rfl) (fun r9 J_18 hq9 => ?_)
    obtain ⟨z_18, rfl, hz_18, rfl, f_18⟩ := hq9
    have y_18 : MZ J_18 J := MZ.tr (MZ.up (k := 8) MZ.rf (by decide)) (MZ.c f_18 (by decide))
    exact tz_iret (pc := 21) (z := (-1)) dX12_room_21 rfl (Nat.le_of_ble_eq_true rfl) (Nat.le_of_ble_eq_true rfl) ⟨Nat.le_refl _, Nat.le_add_right _ _⟩ ⟨_, rfl, (by decide), ⟨MQr.z hI y_18, MFI.z y_18, Or.inr ⟨by omega, rfl, MBT.z hI y_18, u9.z y_18⟩⟩⟩

set_option maxHeartbeats 4000000 in
set_option maxRecDepth 100000 in
theorem x_entryOf0 {l : Launch} {G : tb_G} (hl : l.stackTraces = false) (n : Nat) (J : zJ) (t : Int) (hr_t : -2147483648 ≤ t ∧ t < 2147483648)  (h16 : J 164 16 = 0) (h1 : 0 ≤ J 165 26 ∧ J 165 26 ≤ 12) : tz_Ok l G M_X12_entryOf 0 0 0 [.ref 164, zi t] n J (zqi (fun z J' => J = J' ∧ ((0 ≤ z ∧ z < J 165 26 ∧ eyM J t = z) ∨ (z = -1 ∧ eyM J t = J 165 26)))) zN := by
  refine tz_Ok.of hl (by decide +kernel) rfl (tb_c1 rfl) (Nat.le_of_ble_eq_true rfl) ?_
  show tz_At l G M_X12_entryOf (tb_rm 0 0 0) none (tb_ZM G 0 0 (zQ n 0 (zqi (fun z J' => J = J' ∧ ((0 ≤ z ∧ z < J 165 26 ∧ eyM J t = z) ∨ (z = -1 ∧ eyM J t = J 165 26))))) (zX n 0 zN)) 0 0 n J 0 [some (.ref 164), some (zi t), none] []
  refine tz_iconst (pc := 0) dX12_entryOf_0 ?_
  refine tz_istore_n (pc := 1) (L2 := [_, _, _]) dX12_entryOf_1 rfl (by decide) rfl ?_
  have loop2 : ∀ (f9 : Nat) (k : Int), ((12 - k).toNat) < f9 → (0 ≤ k ∧ k ≤ J 165 26) → (∀ q, 0 ≤ q → q < k → ¬ J 165 (27 + q) = t) → tz_At l G M_X12_entryOf (tb_rm 0 0 0) none (tb_ZM G 0 0 (zQ n 0 (zqi (fun z J' => J = J' ∧ ((0 ≤ z ∧ z < J 165 26 ∧ eyM J t = z) ∨ (z = -1 ∧ eyM J t = J 165 26))))) (zX n 0 zN)) 0 0 n J 2 [some (.ref 164), some (zi t), some (zi k)] [] := by
    intro f9
    induction f9 with
    | zero => intro k hm9; exact absurd hm9 (Nat.not_lt_zero _)
    | succ f9 ih2 =>
      intro k hm2 hk hq
      refine tz_iload_n (pc := 2) dX12_entryOf_2 rfl rfl ?_
      refine tz_aload_n (pc := 3) dX12_entryOf_3 rfl rfl ?_
      refine tz_fR (pc := 4) dX12_entryOf_4 fl_X12_9 r_164_0 ?_
      refine tz_aload_n (pc := 7) dX12_entryOf_7 rfl rfl ?_
      refine tz_fI (pc := 8) (kz := 16) (v := 0) dX12_entryOf_8 fl_X12_85 i_164_16 rfl h16 (fun _ => ?_)
      refine tz_bipush (pc := 11) dX12_entryOf_11 (by decide) ?_
      refine tz_iadd (pc := 13) (v := 26) dX12_entryOf_13 (by decide) ?_
      refine tz_aL (pc := 14) (z := 26) (v := (J 165 26)) dX12_entryOf_14 a_165 rfl (by decide) rfl (fun r_14 => ?_)
      refine tz_icmp_ge (pc := 15) (tgt := 44) dX12_entryOf_15 (by decide) (by omega) (by omega) (fun h_15 => ?_) (fun h_15 => ?_)
      · refine tz_iconst (pc := 44) dX12_entryOf_44 ?_
        exact tz_iret (pc := 45) (z := (-1)) dX12_entryOf_45 rfl (Nat.le_of_ble_eq_true rfl) (Nat.le_of_ble_eq_true rfl) ⟨Nat.le_refl _, Nat.le_add_right _ _⟩ ⟨_, rfl, (by decide), ⟨rfl, Or.inr ⟨rfl, fnB_eq (by omega) (by omega) (fun q a b => decide_eq_true (hq q a (by omega))) (Or.inl rfl)⟩⟩⟩
      · refine tz_aload_n (pc := 18) dX12_entryOf_18 rfl rfl ?_
        refine tz_fR (pc := 19) dX12_entryOf_19 fl_X12_9 r_164_0 ?_
        refine tz_aload_n (pc := 22) dX12_entryOf_22 rfl rfl ?_
        refine tz_fI (pc := 23) (kz := 16) (v := 0) dX12_entryOf_23 fl_X12_85 i_164_16 rfl h16 (fun _ => ?_)
        refine tz_bipush (pc := 26) dX12_entryOf_26 (by decide) ?_
        refine tz_iadd (pc := 28) (v := 27) dX12_entryOf_28 (by decide) ?_
        refine tz_iload_n (pc := 29) dX12_entryOf_29 rfl rfl ?_
        refine tz_iadd (pc := 30) (v := 27 + k) dX12_entryOf_30 rfl ?_
        refine tz_aL (pc := 31) (z := (27 + k)) (v := (J 165 (27 + k))) dX12_entryOf_31 a_165 rfl (by omega) rfl (fun r_31 => ?_)
        refine tz_iload_n (pc := 32) dX12_entryOf_32 rfl rfl ?_
        refine tz_icmp_ne (pc := 33) (tgt := 38) dX12_entryOf_33 (by decide) (by omega) (by omega) (fun h_33 => ?_) (fun h_33 => ?_)
        · refine tz_iinc (pc := 38) (z := k + 1) (L2 := [_, _, _]) dX12_entryOf_38 rfl (by omega) rfl ?_
          refine tz_goto (pc := 41) (tgt := 2) dX12_entryOf_41 (by decide) ?_
          exact ih2 (k + 1) (by omega) (by omega) (fun q a b => (Decidable.em (q = k)).elim (fun e => by rw [e]; omega) (fun e => hq q a (by omega)))
        · refine tz_iload_n (pc := 36) dX12_entryOf_36 rfl rfl ?_
          exact tz_iret (pc := 37) (z := k) dX12_entryOf_37 rfl (Nat.le_of_ble_eq_true rfl) (Nat.le_of_ble_eq_true rfl) ⟨Nat.le_refl _, Nat.le_add_right _ _⟩ ⟨_, rfl, (by omega), ⟨rfl, Or.inl ⟨by omega, by omega, fnB_eq (by omega) (by omega) (fun q a b => decide_eq_true (hq q a b)) (Or.inr (decide_eq_false (fun e => e (by omega))))⟩⟩⟩
  exact loop2 _ 0 (Nat.lt_succ_self _) (by omega) (fun q a b => by omega)

set_option maxHeartbeats 4000000 in
set_option maxRecDepth 100000 in
theorem v_qenter {l : Launch} {G : tb_G} (hl : l.stackTraces = false) (n : Nat) (J : zJ) (x : Int) (hr_x : -2147483648 ≤ x ∧ x < 2147483648) (m : Int) (pn : Int) (RR : Int → Int → Int) (hI : MI J m) (u9 : MUr J pn RR) : tz_Ok l G M_X12_enter 3 0 0 [.ref 164, zi x] n J (zqi (fun z J' => MQr J' J ∧ MFI J' J ∧ ((((0 ≤ x ∧ x < J 165 0) ∧ J 165 26 < 12 ∧ eyM J x = J 165 26) ∧ MED (tbz J) pn RR ((zen (tbz J) 0 x, J 165 26 + 1)) J' z) ∨ (¬ ((0 ≤ x ∧ x < J 165 0) ∧ J 165 26 < 12 ∧ eyM J x = J 165 26) ∧ z = -1 ∧ MBT J' (tbz J) ∧ MUr J' pn RR)))) zN := by
  refine tz_Ok.of hl (by decide +kernel) rfl (tb_c1 rfl) (Nat.le_of_ble_eq_true rfl) ?_
  show tz_At l G M_X12_enter (tb_rm 3 0 0) none (tb_ZM G 0 0 (zQ n 0 (zqi (fun z J' => MQr J' J ∧ MFI J' J ∧ ((((0 ≤ x ∧ x < J 165 0) ∧ J 165 26 < 12 ∧ eyM J x = J 165 26) ∧ MED (tbz J) pn RR ((zen (tbz J) 0 x, J 165 26 + 1)) J' z) ∨ (¬ ((0 ≤ x ∧ x < J 165 0) ∧ J 165 26 < 12 ∧ eyM J x = J 165 26) ∧ z = -1 ∧ MBT J' (tbz J) ∧ MUr J' pn RR))))) (zX n 0 zN)) 0 0 n J 0 [some (.ref 164), some (zi x)] []
  have hT := hI.told
  have hW := hI.row
  have hM := hI.1
  have hL := hI.2.1
  refine tz_aload_n (pc := 0) dX12_enter_0 rfl rfl ?_
  refine tz_iconst (pc := 1) dX12_enter_1 ?_
  refine tz_pI (pc := 2) (kz := 8) dX12_enter_2 fl_X12_68 i_164_8 rfl rfl (by decide) ?_
  refine tz_aload_n (pc := 5) dX12_enter_5 rfl rfl ?_
  refine tz_iload_n (pc := 6) dX12_enter_6 rfl rfl ?_
  refine tz_cV (pc := 7) (m_isTerm hl n _ _ (by omega) (by rw [(show ((zup J 164 8 0) : zJ) 165 0 = (J 165 0) from rfl)]; omega)) vl_X12_376 dX12_enter_7 o_164 rfl rfl (Nat.le_of_ble_eq_true rfl) ⟨(Nat.le_of_ble_eq_true rfl), (Nat.le_of_ble_eq_true rfl)⟩ rfl rfl (Nat.le_of_ble_eq_true rfl) (Nat.le_of_ble_eq_true rfl) (fun r9 J_7 hq9 => ?_)
  obtain ⟨z_7, rfl, hz_7, rfl, ht_7⟩ := hq9
  rw [(show ((zup J 164 8 0) : zJ) 165 0 = (J 165 0) from rfl)] at ht_7
  refine tz_if_eq (pc := 10) (tgt := 34) dX12_enter_10 (by decide) (by omega) (fun h_10 => ?_) (fun h_10 => ?_)
  · refine tz_aload_n (pc := 34) dX12_enter_34 rfl rfl ?_
    refine tz_iconst (pc := 35) dX12_enter_35 ?_
    refine tz_iconst (pc := 36) dX12_enter_36 ?_
    refine tz_cV (pc := 37) (m_refuses hl n _ _ _ (by decide) (by decide) (by decide)) vl_X12_391 dX12_enter_37 o_164 rfl rfl (Nat.le_of_ble_eq_true rfl) ⟨(Nat.le_of_ble_eq_true rfl), (Nat.le_of_ble_eq_true rfl)⟩ rfl rfl (Nat.le_of_ble_eq_true rfl) (Nat.le_of_ble_eq_true rfl) (fun r9 J_37 hq9 => ?_)
    obtain ⟨z_37, rfl, hz_37, rfl, f_37⟩ := hq9
    have y_37 : MZ J_37 J := MZ.tr (MZ.up (k := 8) MZ.rf (by decide)) (MZ.c f_37 (by decide))
    exact tz_iret (pc := 40) (z := (-1)) dX12_enter_40 rfl (Nat.le_of_ble_eq_true rfl) (Nat.le_of_ble_eq_true rfl) ⟨Nat.le_refl _, Nat.le_add_right _ _⟩ ⟨_, rfl, (by decide), ⟨MQr.z hI y_37, MFI.z y_37, Or.inr ⟨by omega, rfl, MBT.z hI y_37, u9.z y_37⟩⟩⟩
  · refine tz_aload_n (pc := 13) dX12_enter_13 rfl rfl ?_
    refine tz_fR (pc := 14) dX12_enter_14 fl_X12_9 r_164_0 ?_
    refine tz_bipush (pc := 17) dX12_enter_17 (by decide) ?_
    refine tz_aL (pc := 19) (z := 26) (v := (J 165 26)) dX12_enter_19 a_165 rfl (by decide) rfl (fun r_19 => ?_)
    refine tz_bipush (pc := 20) dX12_enter_20 (by decide) ?_
    refine tz_icmp_eq (pc := 22) (tgt := 34) dX12_enter_22 (by decide) (by omega) (by decide) (fun h_22 => ?_) (fun h_22 => ?_)
    · refine tz_aload_n (pc := 34) dX12_enter_34 rfl rfl ?_
      refine tz_iconst (pc := 35) dX12_enter_35 ?_
      refine tz_iconst (pc := 36) dX12_enter_36 ?_
      refine tz_cV (pc := 37) (m_refuses hl n _ _ _ (by decide) (by decide) (by decide)) vl_X12_391 dX12_enter_37 o_164 rfl rfl (Nat.le_of_ble_eq_true rfl) ⟨(Nat.le_of_ble_eq_true rfl), (Nat.le_of_ble_eq_true rfl)⟩ rfl rfl (Nat.le_of_ble_eq_true rfl) (Nat.le_of_ble_eq_true rfl) (fun r9 J_37 hq9 => ?_)
      obtain ⟨z_37, rfl, hz_37, rfl, f_37⟩ := hq9
      have y_37 : MZ J_37 J := MZ.tr (MZ.up (k := 8) MZ.rf (by decide)) (MZ.c f_37 (by decide))
      exact tz_iret (pc := 40) (z := (-1)) dX12_enter_40 rfl (Nat.le_of_ble_eq_true rfl) (Nat.le_of_ble_eq_true rfl) ⟨Nat.le_refl _, Nat.le_add_right _ _⟩ ⟨_, rfl, (by decide), ⟨MQr.z hI y_37, MFI.z y_37, Or.inr ⟨by omega, rfl, MBT.z hI y_37, u9.z y_37⟩⟩⟩
    · refine tz_aload_n (pc := 25) dX12_enter_25 rfl rfl ?_
      refine tz_iload_n (pc := 26) dX12_enter_26 rfl rfl ?_
      have h16_27 : ((zup J 164 8 0) : zJ) 164 16 = 0 := hT.2.2.2.1.2.1
      refine tz_cV (pc := 27) (x_entryOf0 hl n _ _ (by omega) h16_27 hL.2.2.1.1) vl_X12_307 dX12_enter_27 o_164 rfl rfl (Nat.le_of_ble_eq_true rfl) ⟨(Nat.le_of_ble_eq_true rfl), (Nat.le_of_ble_eq_true rfl)⟩ rfl rfl (Nat.le_of_ble_eq_true rfl) (Nat.le_of_ble_eq_true rfl) (fun r9 J_27 hq9 => ?_)
      obtain ⟨ze, rfl, hz_27, rfl, he9⟩ := hq9
      have he7 : (0 ≤ ze ∧ ze < J 165 26 ∧ eyM J x = ze) ∨ (ze = -1 ∧ eyM J x = J 165 26) := he9
      refine tz_iconst (pc := 30) dX12_enter_30 ?_
      refine tz_icmp_eq (pc := 31) (tgt := 41) dX12_enter_31 (by decide) (by omega) (by decide) (fun h_31 => ?_) (fun h_31 => ?_)
      · refine tz_aload_n (pc := 41) dX12_enter_41 rfl rfl ?_
        refine tz_cV (pc := 42) (m_begins hl n _) vl_X12_400 dX12_enter_42 o_164 rfl rfl (Nat.le_of_ble_eq_true rfl) ⟨(Nat.le_of_ble_eq_true rfl), (Nat.le_of_ble_eq_true rfl)⟩ rfl rfl (Nat.le_of_ble_eq_true rfl) (Nat.le_of_ble_eq_true rfl) (fun r9 J_42 hq9 => ?_)
        obtain ⟨rfl, hj_42⟩ := hq9
        have a_42 : AM J_42 J m m := by rw [← hj_42]; exact AM.begin (hI.z (MZ.up (k := 8) MZ.rf (by decide))) ⟨MZ.lo (MZ.up (k := 8) MZ.rf (by decide)), SC.z (MZ.up (k := 8) MZ.rf (by decide))⟩
        have br_42 : ∀ k, (k < 63 ∨ 126 ≤ k) → J_42 165 k = ((zup J 164 8 0) : zJ) 165 k := fun k hk => by rw [← hj_42]; exact zbg_r hk
        have bl_42 : ∀ k, ¬ k = 34 → ¬ k = 33 → ¬ k = 21 → J_42 164 k = ((zup J 164 8 0) : zJ) 164 k := fun k u v w => by rw [← hj_42]; exact zbg_f u v w
        have bo_42 : zOf (zbut [164, 165]) J_42 (zup J 164 8 0) := by rw [← hj_42]; exact zbg_of
        have b3_42 : J_42 164 21 = 0 ∧ J_42 164 33 = 0 ∧ J_42 164 34 = 0 := by rw [← hj_42]; exact ⟨rfl, rfl, rfl⟩
        have s9_42 : J_42 164 9 = J 164 9 := (bl_42 9 (by decide) (by decide) (by decide)).trans ((MZ.up (k := 8) MZ.rf (by decide)).2 9 (by decide) (by decide))
        obtain ⟨⟨bt_42, bs_42, bm_42, ba_42⟩, bu_42, bn_42, bf_42, bi_42⟩ := mbeg hI (MZ.up (k := 8) MZ.rf (by decide)) hj_42 u9
        refine tz_aload_n (pc := 45) dX12_enter_45 rfl rfl ?_
        refine tz_iload_n (pc := 46) dX12_enter_46 rfl rfl ?_
        have z9_47 : J_42 165 26 = J 165 26 := by rw [br_42 26 (by decide)]; rfl
        refine tz_cV (pc := 47) (m_enters1 hl n _ _ (by omega) 0 ((bl_42 16 (by decide) (by decide) (by decide)).trans hT.2.2.2.1.2.1) (by decide) (by show 0 ≤ J_42 165 26 ∧ J_42 165 26 < 12; omega)) vl_X12_310 dX12_enter_47 o_164 rfl rfl (Nat.le_of_ble_eq_true rfl) ⟨(Nat.le_of_ble_eq_true rfl), (Nat.le_of_ble_eq_true rfl)⟩ rfl rfl (Nat.le_of_ble_eq_true rfl) (Nat.le_of_ble_eq_true rfl) (fun r9 J_47 hq9 => ?_)
        obtain ⟨rfl, hr_47⟩ := hq9
        have a_47 : AM J_47 J m m := by rw [← hr_47]; exact AM.enter a_42 b3_42.1 (by omega) (by omega)
        have c26_47 : J_47 165 26 = J 165 26 + 1 := by rw [← hr_47, ← z9_47]; exact zup_at
        refine tz_aload_n (pc := 50) dX12_enter_50 rfl rfl ?_
        refine tz_aload_n (pc := 51) dX12_enter_51 rfl rfl ?_
        refine tz_fR (pc := 52) dX12_enter_52 fl_X12_9 r_164_0 ?_
        refine tz_bipush (pc := 55) dX12_enter_55 (by decide) ?_
        refine tz_aL (pc := 57) (z := 26) (v := (J_47 165 26)) dX12_enter_57 a_165 rfl (by decide) rfl (fun r_57 => ?_)
        refine tz_cV (pc := 58) (m_keeps hl n _ _ (by omega) (a_47).2.2.2.1.1.1 (a_47).2.2.2.1.1.2) vl_X12_403 dX12_enter_58 o_164 rfl rfl (Nat.le_of_ble_eq_true rfl) ⟨(Nat.le_of_ble_eq_true rfl), (Nat.le_of_ble_eq_true rfl)⟩ rfl rfl (Nat.le_of_ble_eq_true rfl) (Nat.le_of_ble_eq_true rfl) (fun r9 J_58 hq9 => ?_)
        obtain ⟨z_58, rfl, hz_58, k_58⟩ := hq9
        exact tz_iret (pc := 61) (z := z_58) dX12_enter_61 rfl (Nat.le_of_ble_eq_true rfl) (Nat.le_of_ble_eq_true rfl) ⟨Nat.le_refl _, Nat.le_add_right _ _⟩ ⟨_, rfl, (by omega), (AE (AM.keep a_47 k_58) bi_42 (mact_end bt_42 bs_42 bm_42 ba_42 bu_42 bn_42 bf_42 (MOP.r5 (by rw [← hr_47]; exact zen_of) (fun k a => by rw [← hr_47]; show (if k = 26 then J_42 165 26 + 1 else if k = 27 + J_42 165 26 then x else J_42 165 k) = J_42 165 k; rw [if_neg (by omega), if_neg (by omega)])) (show tb0 J_47 = zen (tbz J) 0 x from by rw [← hr_47, tb0_en (by omega), bt_42]) (by show (if (0 : Int) = 26 then tbz J 165 26 + 1 else if (0 : Int) = 27 + tbz J 165 26 then x else tbz J 165 0) ≤ 400; rw [if_neg (by decide), if_neg (by have e9 : tbz J 165 26 = J 165 26 := rfl; omega), bs_42]; exact bm_42) (fun _ => c26_47) k_58) (by omega))⟩
      · refine tz_aload_n (pc := 34) dX12_enter_34 rfl rfl ?_
        refine tz_iconst (pc := 35) dX12_enter_35 ?_
        refine tz_iconst (pc := 36) dX12_enter_36 ?_
        refine tz_cV (pc := 37) (m_refuses hl n _ _ _ (by decide) (by decide) (by decide)) vl_X12_391 dX12_enter_37 o_164 rfl rfl (Nat.le_of_ble_eq_true rfl) ⟨(Nat.le_of_ble_eq_true rfl), (Nat.le_of_ble_eq_true rfl)⟩ rfl rfl (Nat.le_of_ble_eq_true rfl) (Nat.le_of_ble_eq_true rfl) (fun r9 J_37 hq9 => ?_)
        obtain ⟨z_37, rfl, hz_37, rfl, f_37⟩ := hq9
        have y_37 : MZ J_37 J := MZ.tr (MZ.up (k := 8) MZ.rf (by decide)) (MZ.c f_37 (by decide))
        exact tz_iret (pc := 40) (z := (-1)) dX12_enter_40 rfl (Nat.le_of_ble_eq_true rfl) (Nat.le_of_ble_eq_true rfl) ⟨Nat.le_refl _, Nat.le_add_right _ _⟩ ⟨_, rfl, (by decide), ⟨MQr.z hI y_37, MFI.z y_37, Or.inr ⟨by omega, rfl, MBT.z hI y_37, u9.z y_37⟩⟩⟩

theorem lv_st {J1 J0 : zJ} {z k : Int} (hz : z ≤ k) (hk : 0 ≤ k) (x : ∀ q, ¬ q = 26 → J1 165 q = if 27 + z ≤ q ∧ q < 27 + k then J0 165 (q + 1) else J0 165 q) : ∀ q, ¬ q = 26 → zup J1 165 (27 + k) (J1 165 (27 + k + 1)) 165 q = if 27 + z ≤ q ∧ q < 27 + (k + 1) then J0 165 (q + 1) else J0 165 q := fun q h => by
  by_cases e : q = 27 + k
  · subst e
    rw [zup_at, if_pos (by omega), x _ (by omega), if_neg (by omega)]
  · rw [zup_ne e, x q h]
    by_cases r : 27 + z ≤ q ∧ q < 27 + k
    · rw [if_pos r, if_pos (by omega)]
    · rw [if_neg r, if_neg (by omega)]
set_option maxHeartbeats 4000000 in
set_option maxRecDepth 100000 in
theorem v_qleave {l : Launch} {G : tb_G} (hl : l.stackTraces = false) (n : Nat) (J : zJ) (x : Int) (hr_x : -2147483648 ≤ x ∧ x < 2147483648) (m : Int) (pn : Int) (RR : Int → Int → Int) (hI : MI J m) (u9 : MUr J pn RR) : tz_Ok l G M_X12_leave 3 0 0 [.ref 164, zi x] n J (zqi (fun z J' => MQr J' J ∧ MFI J' J ∧ ((((0 ≤ x ∧ x < J 165 0) ∧ eyM J x < J 165 26) ∧ MED (tbz J) pn RR ((zlv (tbz J) (eyM J x), J 165 26 - 1)) J' z) ∨ (¬ ((0 ≤ x ∧ x < J 165 0) ∧ eyM J x < J 165 26) ∧ z = -1 ∧ MBT J' (tbz J) ∧ MUr J' pn RR)))) zN := by
  refine tz_Ok.of hl (by decide +kernel) rfl (tb_c1 rfl) (Nat.le_of_ble_eq_true rfl) ?_
  show tz_At l G M_X12_leave (tb_rm 3 0 0) none (tb_ZM G 0 0 (zQ n 0 (zqi (fun z J' => MQr J' J ∧ MFI J' J ∧ ((((0 ≤ x ∧ x < J 165 0) ∧ eyM J x < J 165 26) ∧ MED (tbz J) pn RR ((zlv (tbz J) (eyM J x), J 165 26 - 1)) J' z) ∨ (¬ ((0 ≤ x ∧ x < J 165 0) ∧ eyM J x < J 165 26) ∧ z = -1 ∧ MBT J' (tbz J) ∧ MUr J' pn RR))))) (zX n 0 zN)) 0 0 n J 0 [some (.ref 164), some (zi x), none, none] []
  have hT := hI.told
  have hW := hI.row
  have hM := hI.1
  have hL := hI.2.1
  refine tz_aload_n (pc := 0) dX12_leave_0 rfl rfl ?_
  refine tz_iconst (pc := 1) dX12_leave_1 ?_
  refine tz_pI (pc := 2) (kz := 8) dX12_leave_2 fl_X12_68 i_164_8 rfl rfl (by decide) ?_
  refine tz_aload_n (pc := 5) dX12_leave_5 rfl rfl ?_
  refine tz_iload_n (pc := 6) dX12_leave_6 rfl rfl ?_
  refine tz_cV (pc := 7) (m_isTerm hl n _ _ (by omega) (by rw [(show ((zup J 164 8 0) : zJ) 165 0 = (J 165 0) from rfl)]; omega)) vl_X12_376 dX12_leave_7 o_164 rfl rfl (Nat.le_of_ble_eq_true rfl) ⟨(Nat.le_of_ble_eq_true rfl), (Nat.le_of_ble_eq_true rfl)⟩ rfl rfl (Nat.le_of_ble_eq_true rfl) (Nat.le_of_ble_eq_true rfl) (fun r9 J_7 hq9 => ?_)
  obtain ⟨z_7, rfl, hz_7, rfl, ht_7⟩ := hq9
  rw [(show ((zup J 164 8 0) : zJ) 165 0 = (J 165 0) from rfl)] at ht_7
  refine tz_if_eq (pc := 10) (tgt := 21) dX12_leave_10 (by decide) (by omega) (fun h_10 => ?_) (fun h_10 => ?_)
  · refine tz_iconst (pc := 21) dX12_leave_21 ?_
    refine tz_istore_n (pc := 22) (L2 := [_, _, _, _]) dX12_leave_22 rfl (by decide) rfl ?_
    refine tz_iload_n (pc := 23) dX12_leave_23 rfl rfl ?_
    refine tz_iconst (pc := 24) dX12_leave_24 ?_
    refine tz_icmp_neF (pc := 25) (tgt := 35) (by decide) dX12_leave_25 (by decide) (by decide) (by decide) ?_
    refine tz_aload_n (pc := 28) dX12_leave_28 rfl rfl ?_
    refine tz_iconst (pc := 29) dX12_leave_29 ?_
    refine tz_iconst (pc := 30) dX12_leave_30 ?_
    refine tz_cV (pc := 31) (m_refuses hl n _ _ _ (by decide) (by decide) (by decide)) vl_X12_391 dX12_leave_31 o_164 rfl rfl (Nat.le_of_ble_eq_true rfl) ⟨(Nat.le_of_ble_eq_true rfl), (Nat.le_of_ble_eq_true rfl)⟩ rfl rfl (Nat.le_of_ble_eq_true rfl) (Nat.le_of_ble_eq_true rfl) (fun r9 J_31 hq9 => ?_)
    obtain ⟨z_31, rfl, hz_31, rfl, f_31⟩ := hq9
    have y_31 : MZ J_31 J := MZ.tr (MZ.up (k := 8) MZ.rf (by decide)) (MZ.c f_31 (by decide))
    exact tz_iret (pc := 34) (z := (-1)) dX12_leave_34 rfl (Nat.le_of_ble_eq_true rfl) (Nat.le_of_ble_eq_true rfl) ⟨Nat.le_refl _, Nat.le_add_right _ _⟩ ⟨_, rfl, (by decide), ⟨MQr.z hI y_31, MFI.z y_31, Or.inr ⟨by omega, rfl, MBT.z hI y_31, u9.z y_31⟩⟩⟩
  · refine tz_aload_n (pc := 13) dX12_leave_13 rfl rfl ?_
    refine tz_iload_n (pc := 14) dX12_leave_14 rfl rfl ?_
    have h16_15 : ((zup J 164 8 0) : zJ) 164 16 = 0 := hT.2.2.2.1.2.1
    refine tz_cV (pc := 15) (x_entryOf0 hl n _ _ (by omega) h16_15 hL.2.2.1.1) vl_X12_307 dX12_leave_15 o_164 rfl rfl (Nat.le_of_ble_eq_true rfl) ⟨(Nat.le_of_ble_eq_true rfl), (Nat.le_of_ble_eq_true rfl)⟩ rfl rfl (Nat.le_of_ble_eq_true rfl) (Nat.le_of_ble_eq_true rfl) (fun r9 J_15 hq9 => ?_)
    obtain ⟨ze, rfl, hz_15, rfl, he9⟩ := hq9
    have he7 : (0 ≤ ze ∧ ze < J 165 26 ∧ eyM J x = ze) ∨ (ze = -1 ∧ eyM J x = J 165 26) := he9
    refine tz_goto (pc := 18) (tgt := 22) dX12_leave_18 (by decide) ?_
    refine tz_istore_n (pc := 22) (L2 := [_, _, _, _]) dX12_leave_22 rfl (by decide) rfl ?_
    refine tz_iload_n (pc := 23) dX12_leave_23 rfl rfl ?_
    refine tz_iconst (pc := 24) dX12_leave_24 ?_
    refine tz_icmp_ne (pc := 25) (tgt := 35) dX12_leave_25 (by decide) (by omega) (by decide) (fun h_25 => ?_) (fun h_25 => ?_)
    · refine tz_aload_n (pc := 35) dX12_leave_35 rfl rfl ?_
      refine tz_cV (pc := 36) (m_begins hl n _) vl_X12_400 dX12_leave_36 o_164 rfl rfl (Nat.le_of_ble_eq_true rfl) ⟨(Nat.le_of_ble_eq_true rfl), (Nat.le_of_ble_eq_true rfl)⟩ rfl rfl (Nat.le_of_ble_eq_true rfl) (Nat.le_of_ble_eq_true rfl) (fun r9 J_36 hq9 => ?_)
      obtain ⟨rfl, hj_36⟩ := hq9
      have a_36 : AM J_36 J m m := by rw [← hj_36]; exact AM.begin (hI.z (MZ.up (k := 8) MZ.rf (by decide))) ⟨MZ.lo (MZ.up (k := 8) MZ.rf (by decide)), SC.z (MZ.up (k := 8) MZ.rf (by decide))⟩
      have br_36 : ∀ k, (k < 63 ∨ 126 ≤ k) → J_36 165 k = ((zup J 164 8 0) : zJ) 165 k := fun k hk => by rw [← hj_36]; exact zbg_r hk
      have bl_36 : ∀ k, ¬ k = 34 → ¬ k = 33 → ¬ k = 21 → J_36 164 k = ((zup J 164 8 0) : zJ) 164 k := fun k u v w => by rw [← hj_36]; exact zbg_f u v w
      have bo_36 : zOf (zbut [164, 165]) J_36 (zup J 164 8 0) := by rw [← hj_36]; exact zbg_of
      have b3_36 : J_36 164 21 = 0 ∧ J_36 164 33 = 0 ∧ J_36 164 34 = 0 := by rw [← hj_36]; exact ⟨rfl, rfl, rfl⟩
      have s9_36 : J_36 164 9 = J 164 9 := (bl_36 9 (by decide) (by decide) (by decide)).trans ((MZ.up (k := 8) MZ.rf (by decide)).2 9 (by decide) (by decide))
      obtain ⟨⟨bt_36, bs_36, bm_36, ba_36⟩, bu_36, bn_36, bf_36, bi_36⟩ := mbeg hI (MZ.up (k := 8) MZ.rf (by decide)) hj_36 u9
      refine tz_aload_n (pc := 39) dX12_leave_39 rfl rfl ?_
      refine tz_fR (pc := 40) dX12_leave_40 fl_X12_9 r_164_0 ?_
      refine tz_bipush (pc := 43) dX12_leave_43 (by decide) ?_
      refine tz_dup2 (pc := 45) dX12_leave_45 rfl rfl ?_
      refine tz_aL (pc := 46) (z := 26) (v := (J 165 26)) dX12_leave_46 a_165 rfl (by decide) (Eq.trans (br_36 26 (by omega)) rfl) (fun r_46 => ?_)
      refine tz_iconst (pc := 47) dX12_leave_47 ?_
      refine tz_isub (pc := 48) (v := (J 165 26) - 1) dX12_leave_48 rfl ?_
      refine tz_aS (pc := 49) (z := 26) dX12_leave_49 a_165 rfl (by decide) (by omega) ?_
      refine tz_iload_n (pc := 50) dX12_leave_50 rfl rfl ?_
      refine tz_istore_n (pc := 51) (L2 := [_, _, _, _]) dX12_leave_51 rfl (by decide) rfl ?_
      have loop52 : ∀ (f9 : Nat) (k : Int) (J1 : zJ), ((12 - k).toNat) < f9 → (ze ≤ k ∧ k ≤ J 165 26 - 1) → (zOf (zbut [165]) J1 J_36) → (∀ q, (q < 26 ∨ 38 < q) → J1 165 q = J_36 165 q) → (J1 165 26 = J 165 26 - 1) → (∀ v, 0 ≤ v → v < J 165 26 → 0 ≤ J1 165 (27 + v) ∧ J1 165 (27 + v) < m) → (∀ q, ¬ q = 26 → J1 165 q = if 27 + ze ≤ q ∧ q < 27 + k then J_36 165 (q + 1) else J_36 165 q) → tz_At l G M_X12_leave (tb_rm 3 0 0) none (tb_ZM G 0 0 (zQ n 0 (zqi (fun z J' => MQr J' J ∧ MFI J' J ∧ ((((0 ≤ x ∧ x < J 165 0) ∧ eyM J x < J 165 26) ∧ MED (tbz J) pn RR ((zlv (tbz J) (eyM J x), J 165 26 - 1)) J' z) ∨ (¬ ((0 ≤ x ∧ x < J 165 0) ∧ eyM J x < J 165 26) ∧ z = -1 ∧ MBT J' (tbz J) ∧ MUr J' pn RR))))) (zX n 0 zN)) 0 0 n J1 52 [some (.ref 164), some (zi x), some (zi ze), some (zi k)] [] := by
        intro f9
        induction f9 with
        | zero => intro k J1 hm9; exact absurd hm9 (Nat.not_lt_zero _)
        | succ f9 ih52 =>
          intro k J1 hm52 hk f1 e1 c1 h1 x1
          refine tz_iload_n (pc := 52) dX12_leave_52 rfl rfl ?_
          refine tz_aload_n (pc := 53) dX12_leave_53 rfl rfl ?_
          refine tz_fR (pc := 54) dX12_leave_54 fl_X12_9 r_164_0 ?_
          refine tz_bipush (pc := 57) dX12_leave_57 (by decide) ?_
          refine tz_aL (pc := 59) (z := 26) (v := (J 165 26 - 1)) dX12_leave_59 a_165 rfl (by decide) c1 (fun r_59 => ?_)
          refine tz_icmp_ge (pc := 60) (tgt := 89) dX12_leave_60 (by decide) (by omega) (by omega) (fun h_60 => ?_) (fun h_60 => ?_)
          · refine tz_aload_n (pc := 89) dX12_leave_89 rfl rfl ?_
            refine tz_aload_n (pc := 90) dX12_leave_90 rfl rfl ?_
            refine tz_fR (pc := 91) dX12_leave_91 fl_X12_9 r_164_0 ?_
            refine tz_bipush (pc := 94) dX12_leave_94 (by decide) ?_
            refine tz_aL (pc := 96) (z := 26) (v := (J 165 26 - 1)) dX12_leave_96 a_165 rfl (by decide) c1 (fun r_96 => ?_)
            refine tz_cV (pc := 97) (m_keeps hl n _ _ (by omega) ((AM.leaves a_36 f1 e1 (by omega) (fun v p q => h1 v p (by omega)))).2.2.2.1.1.1 ((AM.leaves a_36 f1 e1 (by omega) (fun v p q => h1 v p (by omega)))).2.2.2.1.1.2) vl_X12_403 dX12_leave_97 o_164 rfl rfl (Nat.le_of_ble_eq_true rfl) ⟨(Nat.le_of_ble_eq_true rfl), (Nat.le_of_ble_eq_true rfl)⟩ rfl rfl (Nat.le_of_ble_eq_true rfl) (Nat.le_of_ble_eq_true rfl) (fun r9 J_97 hq9 => ?_)
            obtain ⟨z_97, rfl, hz_97, k_97⟩ := hq9
            exact tz_iret (pc := 100) (z := z_97) dX12_leave_100 rfl (Nat.le_of_ble_eq_true rfl) (Nat.le_of_ble_eq_true rfl) ⟨Nat.le_refl _, Nat.le_add_right _ _⟩ ⟨_, rfl, (by omega), (AE (AM.keep (AM.leaves a_36 f1 e1 (by omega) (fun v p q => h1 v p (by omega))) k_97) bi_36 (mact_end bt_36 bs_36 bm_36 ba_36 bu_36 bn_36 bf_36 (MOP.r5 f1 (fun k a => e1 k (by omega))) (show tb0 J1 = zlv (tbz J) (eyM J x) from by have b26 : J_36 165 26 = J 165 26 := (br_36 26 (by decide)).trans rfl; have ez : eyM J x = ze := (by omega); rw [ez, ← bt_36]; exact tb0_lv f1 (by omega) (by omega) (fun q a b c => by rw [x1 q c, show k = J_36 165 26 - 1 from by omega])) (by show (if (0 : Int) = 26 then tbz J 165 26 - 1 else if 27 + eyM J x ≤ 0 ∧ (0 : Int) < 27 + (tbz J 165 26 - 1) then tbz J 165 (0 + 1) else tbz J 165 0) ≤ 400; rw [if_neg (by decide), if_neg (by omega), bs_36]; exact bm_36) (fun _ => rfl) k_97) (by omega))⟩
          · have hn9 := h1 (k + 1) (by omega) (by omega)
            rw [show 27 + (k + 1) = 27 + k + 1 by omega] at hn9
            refine tz_aload_n (pc := 63) dX12_leave_63 rfl rfl ?_
            refine tz_fR (pc := 64) dX12_leave_64 fl_X12_9 r_164_0 ?_
            refine tz_bipush (pc := 67) dX12_leave_67 (by decide) ?_
            refine tz_iload_n (pc := 69) dX12_leave_69 rfl rfl ?_
            refine tz_iadd (pc := 70) (v := 27 + k) dX12_leave_70 rfl ?_
            refine tz_aload_n (pc := 71) dX12_leave_71 rfl rfl ?_
            refine tz_fR (pc := 72) dX12_leave_72 fl_X12_9 r_164_0 ?_
            refine tz_bipush (pc := 75) dX12_leave_75 (by decide) ?_
            refine tz_iload_n (pc := 77) dX12_leave_77 rfl rfl ?_
            refine tz_iadd (pc := 78) (v := 27 + k) dX12_leave_78 rfl ?_
            refine tz_iconst (pc := 79) dX12_leave_79 ?_
            refine tz_iadd (pc := 80) (v := (27 + k) + 1) dX12_leave_80 rfl ?_
            refine tz_aL (pc := 81) (z := ((27 + k) + 1)) (v := (J1 165 ((27 + k) + 1))) dX12_leave_81 a_165 rfl (by omega) rfl (fun r_81 => ?_)
            refine tz_aS (pc := 82) (z := (27 + k)) dX12_leave_82 a_165 rfl (by omega) (by omega) ?_
            refine tz_iinc (pc := 83) (z := k + 1) (L2 := [_, _, _, _]) dX12_leave_83 rfl (by omega) rfl ?_
            refine tz_goto (pc := 86) (tgt := 52) dX12_leave_86 (by decide) ?_
            exact ih52 (k + 1) _ (by omega) (by omega) (zOf.up rfl f1) (fun q z => (zup_ne (by omega)).trans (e1 q z)) ((zup_ne (by omega)).trans c1) (fun v p q => (Decidable.em (v = k)).elim (fun e => by rw [e, zup_at]; exact hn9) (fun e => by rw [zup_ne (by omega)]; exact h1 v p q)) (lv_st (by omega) (by omega) x1)
      exact loop52 _ _ _ (Nat.lt_succ_self _) (by omega) (zOf.up rfl zOf.rf) (fun q z => zup_ne (by omega)) zup_at (fun v p q => by rw [zup_ne (by omega), br_36 _ (by omega)]; exact hL.2.2.1.2 v p q) (fun q z => by rw [zup_ne z, if_neg (by omega)])
    · refine tz_aload_n (pc := 28) dX12_leave_28 rfl rfl ?_
      refine tz_iconst (pc := 29) dX12_leave_29 ?_
      refine tz_iconst (pc := 30) dX12_leave_30 ?_
      refine tz_cV (pc := 31) (m_refuses hl n _ _ _ (by decide) (by decide) (by decide)) vl_X12_391 dX12_leave_31 o_164 rfl rfl (Nat.le_of_ble_eq_true rfl) ⟨(Nat.le_of_ble_eq_true rfl), (Nat.le_of_ble_eq_true rfl)⟩ rfl rfl (Nat.le_of_ble_eq_true rfl) (Nat.le_of_ble_eq_true rfl) (fun r9 J_31 hq9 => ?_)
      obtain ⟨z_31, rfl, hz_31, rfl, f_31⟩ := hq9
      have y_31 : MZ J_31 J := MZ.tr (MZ.up (k := 8) MZ.rf (by decide)) (MZ.c f_31 (by decide))
      exact tz_iret (pc := 34) (z := (-1)) dX12_leave_34 rfl (Nat.le_of_ble_eq_true rfl) (Nat.le_of_ble_eq_true rfl) ⟨Nat.le_refl _, Nat.le_add_right _ _⟩ ⟨_, rfl, (by decide), ⟨MQr.z hI y_31, MFI.z y_31, Or.inr ⟨by omega, rfl, MBT.z hI y_31, u9.z y_31⟩⟩⟩

set_option maxHeartbeats 4000000 in
set_option maxRecDepth 100000 in
theorem v_qrules {l : Launch} {G : tb_G} (hl : l.stackTraces = false) (n : Nat) (J : zJ) (x : Int) (y : Int) (hr_x : -2147483648 ≤ x ∧ x < 2147483648) (hr_y : -2147483648 ≤ y ∧ y < 2147483648) (m : Int) (pn : Int) (RR : Int → Int → Int) (hI : MI J m) (u9 : MUr J pn RR) (hw : ∀ k, 0 ≤ k → k < J 164 9 → 1 ≤ J 171 (0 + k) ∧ J 171 (0 + k) ≤ 9) : tz_Ok l G M_X12_rules 21 0 0 [.ref 164, zi x, zi y] n J (zqi (fun z J' => MQr J' J ∧ MFI J' J ∧ (((((0 ≤ x ∧ x < J 165 0) ∧ (0 ≤ y ∧ y < J 165 0)) ∧ J 165 9 < 8 ∧ mru J 0 0 x y) ∧ MED (tbz J) pn RR ((zru (tbz J) x y, J 165 9 + 1)) J' z) ∨ (¬ (((0 ≤ x ∧ x < J 165 0) ∧ (0 ≤ y ∧ y < J 165 0)) ∧ J 165 9 < 8 ∧ mru J 0 0 x y) ∧ z = -1 ∧ MBT J' (tbz J) ∧ MUr J' pn RR)))) zN := by
  refine tz_Ok.of hl (by decide +kernel) rfl (tb_c1 rfl) (Nat.le_of_ble_eq_true rfl) ?_
  show tz_At l G M_X12_rules (tb_rm 21 0 0) none (tb_ZM G 0 0 (zQ n 0 (zqi (fun z J' => MQr J' J ∧ MFI J' J ∧ (((((0 ≤ x ∧ x < J 165 0) ∧ (0 ≤ y ∧ y < J 165 0)) ∧ J 165 9 < 8 ∧ mru J 0 0 x y) ∧ MED (tbz J) pn RR ((zru (tbz J) x y, J 165 9 + 1)) J' z) ∨ (¬ (((0 ≤ x ∧ x < J 165 0) ∧ (0 ≤ y ∧ y < J 165 0)) ∧ J 165 9 < 8 ∧ mru J 0 0 x y) ∧ z = -1 ∧ MBT J' (tbz J) ∧ MUr J' pn RR))))) (zX n 0 zN)) 0 0 n J 0 [some (.ref 164), some (zi x), some (zi y)] []
  have hT := hI.told
  have hW := hI.row
  have hM := hI.1
  have hL := hI.2.1
  refine tz_aload_n (pc := 0) dX12_rules_0 rfl rfl ?_
  refine tz_iconst (pc := 1) dX12_rules_1 ?_
  refine tz_pI (pc := 2) (kz := 8) dX12_rules_2 fl_X12_68 i_164_8 rfl rfl (by decide) ?_
  refine tz_aload_n (pc := 5) dX12_rules_5 rfl rfl ?_
  refine tz_iload_n (pc := 6) dX12_rules_6 rfl rfl ?_
  refine tz_cV (pc := 7) (m_isTerm hl n _ _ (by omega) (by rw [(show ((zup J 164 8 0) : zJ) 165 0 = (J 165 0) from rfl)]; omega)) vl_X12_376 dX12_rules_7 o_164 rfl rfl (Nat.le_of_ble_eq_true rfl) ⟨(Nat.le_of_ble_eq_true rfl), (Nat.le_of_ble_eq_true rfl)⟩ rfl rfl (Nat.le_of_ble_eq_true rfl) (Nat.le_of_ble_eq_true rfl) (fun r9 J_7 hq9 => ?_)
  obtain ⟨z_7, rfl, hz_7, rfl, ht_7⟩ := hq9
  rw [(show ((zup J 164 8 0) : zJ) 165 0 = (J 165 0) from rfl)] at ht_7
  refine tz_if_eq (pc := 10) (tgt := 42) dX12_rules_10 (by decide) (by omega) (fun h_10 => ?_) (fun h_10 => ?_)
  · refine tz_aload_n (pc := 42) dX12_rules_42 rfl rfl ?_
    refine tz_iconst (pc := 43) dX12_rules_43 ?_
    refine tz_iconst (pc := 44) dX12_rules_44 ?_
    refine tz_cV (pc := 45) (m_refuses hl n _ _ _ (by decide) (by decide) (by decide)) vl_X12_391 dX12_rules_45 o_164 rfl rfl (Nat.le_of_ble_eq_true rfl) ⟨(Nat.le_of_ble_eq_true rfl), (Nat.le_of_ble_eq_true rfl)⟩ rfl rfl (Nat.le_of_ble_eq_true rfl) (Nat.le_of_ble_eq_true rfl) (fun r9 J_45 hq9 => ?_)
    obtain ⟨z_45, rfl, hz_45, rfl, f_45⟩ := hq9
    have y_45 : MZ J_45 J := MZ.tr (MZ.up (k := 8) MZ.rf (by decide)) (MZ.c f_45 (by decide))
    exact tz_iret (pc := 48) (z := (-1)) dX12_rules_48 rfl (Nat.le_of_ble_eq_true rfl) (Nat.le_of_ble_eq_true rfl) ⟨Nat.le_refl _, Nat.le_add_right _ _⟩ ⟨_, rfl, (by decide), ⟨MQr.z hI y_45, MFI.z y_45, Or.inr ⟨fun q => by first | omega | exact absurd q.2.2 ((hh8.resolve_left (fun k => by have := k.1; omega)).2), rfl, MBT.z hI y_45, u9.z y_45⟩⟩⟩
  · refine tz_aload_n (pc := 13) dX12_rules_13 rfl rfl ?_
    refine tz_iload_n (pc := 14) dX12_rules_14 rfl rfl ?_
    refine tz_cV (pc := 15) (m_isTerm hl n _ _ (by omega) (by rw [(show ((zup J 164 8 0) : zJ) 165 0 = (J 165 0) from rfl)]; omega)) vl_X12_376 dX12_rules_15 o_164 rfl rfl (Nat.le_of_ble_eq_true rfl) ⟨(Nat.le_of_ble_eq_true rfl), (Nat.le_of_ble_eq_true rfl)⟩ rfl rfl (Nat.le_of_ble_eq_true rfl) (Nat.le_of_ble_eq_true rfl) (fun r9 J_15 hq9 => ?_)
    obtain ⟨z_15, rfl, hz_15, rfl, ht_15⟩ := hq9
    rw [(show ((zup J 164 8 0) : zJ) 165 0 = (J 165 0) from rfl)] at ht_15
    refine tz_if_eq (pc := 18) (tgt := 42) dX12_rules_18 (by decide) (by omega) (fun h_18 => ?_) (fun h_18 => ?_)
    · refine tz_aload_n (pc := 42) dX12_rules_42 rfl rfl ?_
      refine tz_iconst (pc := 43) dX12_rules_43 ?_
      refine tz_iconst (pc := 44) dX12_rules_44 ?_
      refine tz_cV (pc := 45) (m_refuses hl n _ _ _ (by decide) (by decide) (by decide)) vl_X12_391 dX12_rules_45 o_164 rfl rfl (Nat.le_of_ble_eq_true rfl) ⟨(Nat.le_of_ble_eq_true rfl), (Nat.le_of_ble_eq_true rfl)⟩ rfl rfl (Nat.le_of_ble_eq_true rfl) (Nat.le_of_ble_eq_true rfl) (fun r9 J_45 hq9 => ?_)
      obtain ⟨z_45, rfl, hz_45, rfl, f_45⟩ := hq9
      have y_45 : MZ J_45 J := MZ.tr (MZ.up (k := 8) MZ.rf (by decide)) (MZ.c f_45 (by decide))
      exact tz_iret (pc := 48) (z := (-1)) dX12_rules_48 rfl (Nat.le_of_ble_eq_true rfl) (Nat.le_of_ble_eq_true rfl) ⟨Nat.le_refl _, Nat.le_add_right _ _⟩ ⟨_, rfl, (by decide), ⟨MQr.z hI y_45, MFI.z y_45, Or.inr ⟨fun q => by first | omega | exact absurd q.2.2 ((hh8.resolve_left (fun k => by have := k.1; omega)).2), rfl, MBT.z hI y_45, u9.z y_45⟩⟩⟩
    · refine tz_aload_n (pc := 21) dX12_rules_21 rfl rfl ?_
      refine tz_fR (pc := 22) dX12_rules_22 fl_X12_9 r_164_0 ?_
      refine tz_bipush (pc := 25) dX12_rules_25 (by decide) ?_
      refine tz_aL (pc := 27) (z := 9) (v := (J 165 9)) dX12_rules_27 a_165 rfl (by decide) rfl (fun r_27 => ?_)
      refine tz_bipush (pc := 28) dX12_rules_28 (by decide) ?_
      refine tz_icmp_eq (pc := 30) (tgt := 42) dX12_rules_30 (by decide) (by omega) (by decide) (fun h_30 => ?_) (fun h_30 => ?_)
      · refine tz_aload_n (pc := 42) dX12_rules_42 rfl rfl ?_
        refine tz_iconst (pc := 43) dX12_rules_43 ?_
        refine tz_iconst (pc := 44) dX12_rules_44 ?_
        refine tz_cV (pc := 45) (m_refuses hl n _ _ _ (by decide) (by decide) (by decide)) vl_X12_391 dX12_rules_45 o_164 rfl rfl (Nat.le_of_ble_eq_true rfl) ⟨(Nat.le_of_ble_eq_true rfl), (Nat.le_of_ble_eq_true rfl)⟩ rfl rfl (Nat.le_of_ble_eq_true rfl) (Nat.le_of_ble_eq_true rfl) (fun r9 J_45 hq9 => ?_)
        obtain ⟨z_45, rfl, hz_45, rfl, f_45⟩ := hq9
        have y_45 : MZ J_45 J := MZ.tr (MZ.up (k := 8) MZ.rf (by decide)) (MZ.c f_45 (by decide))
        exact tz_iret (pc := 48) (z := (-1)) dX12_rules_48 rfl (Nat.le_of_ble_eq_true rfl) (Nat.le_of_ble_eq_true rfl) ⟨Nat.le_refl _, Nat.le_add_right _ _⟩ ⟨_, rfl, (by decide), ⟨MQr.z hI y_45, MFI.z y_45, Or.inr ⟨fun q => by first | omega | exact absurd q.2.2 ((hh8.resolve_left (fun k => by have := k.1; omega)).2), rfl, MBT.z hI y_45, u9.z y_45⟩⟩⟩
      · refine tz_aload_n (pc := 33) dX12_rules_33 rfl rfl ?_
        refine tz_iload_n (pc := 34) dX12_rules_34 rfl rfl ?_
        refine tz_iload_n (pc := 35) dX12_rules_35 rfl rfl ?_
        refine tz_cV (pc := 36) (x_isRule hl n _ _ _ (by omega) (by omega) 0 0 0 (J 164 9) m (hM.z (MZ.up (k := 8) MZ.rf (by decide))) (by omega) (by omega) hw) vl_X12_301 dX12_rules_36 o_164 rfl rfl (Nat.le_of_ble_eq_true rfl) ⟨(Nat.le_of_ble_eq_true rfl), (Nat.le_of_ble_eq_true rfl)⟩ rfl rfl (Nat.le_of_ble_eq_true rfl) (Nat.le_of_ble_eq_true rfl) (fun r9 J_36 hq9 => ?_)
        obtain ⟨zr, rfl, hz_36, rfl, hh9⟩ := hq9
        have hh8 : (zr = 1 ∧ mru J 0 0 x y) ∨ (zr = 0 ∧ ¬ mru J 0 0 x y) := hh9
        have hh7 : zr = 0 ∨ zr = 1 := hh8.elim (fun q => Or.inr q.1) (fun q => Or.inl q.1)
        refine tz_if_ne (pc := 39) (tgt := 49) dX12_rules_39 (by decide) (by omega) (fun h_39 => ?_) (fun h_39 => ?_)
        · refine tz_aload_n (pc := 49) dX12_rules_49 rfl rfl ?_
          refine tz_cV (pc := 50) (m_begins hl n _) vl_X12_400 dX12_rules_50 o_164 rfl rfl (Nat.le_of_ble_eq_true rfl) ⟨(Nat.le_of_ble_eq_true rfl), (Nat.le_of_ble_eq_true rfl)⟩ rfl rfl (Nat.le_of_ble_eq_true rfl) (Nat.le_of_ble_eq_true rfl) (fun r9 J_50 hq9 => ?_)
          obtain ⟨rfl, hj_50⟩ := hq9
          have a_50 : AM J_50 J m m := by rw [← hj_50]; exact AM.begin (hI.z (MZ.up (k := 8) MZ.rf (by decide))) ⟨MZ.lo (MZ.up (k := 8) MZ.rf (by decide)), SC.z (MZ.up (k := 8) MZ.rf (by decide))⟩
          have br_50 : ∀ k, (k < 63 ∨ 126 ≤ k) → J_50 165 k = ((zup J 164 8 0) : zJ) 165 k := fun k hk => by rw [← hj_50]; exact zbg_r hk
          have bl_50 : ∀ k, ¬ k = 34 → ¬ k = 33 → ¬ k = 21 → J_50 164 k = ((zup J 164 8 0) : zJ) 164 k := fun k u v w => by rw [← hj_50]; exact zbg_f u v w
          have bo_50 : zOf (zbut [164, 165]) J_50 (zup J 164 8 0) := by rw [← hj_50]; exact zbg_of
          have b3_50 : J_50 164 21 = 0 ∧ J_50 164 33 = 0 ∧ J_50 164 34 = 0 := by rw [← hj_50]; exact ⟨rfl, rfl, rfl⟩
          have s9_50 : J_50 164 9 = J 164 9 := (bl_50 9 (by decide) (by decide) (by decide)).trans ((MZ.up (k := 8) MZ.rf (by decide)).2 9 (by decide) (by decide))
          obtain ⟨⟨bt_50, bs_50, bm_50, ba_50⟩, bu_50, bn_50, bf_50, bi_50⟩ := mbeg hI (MZ.up (k := 8) MZ.rf (by decide)) hj_50 u9
          refine tz_aload_n (pc := 53) dX12_rules_53 rfl rfl ?_
          refine tz_iload_n (pc := 54) dX12_rules_54 rfl rfl ?_
          refine tz_iload_n (pc := 55) dX12_rules_55 rfl rfl ?_
          have z9_56 : J_50 165 9 = J 165 9 := by rw [br_50 9 (by decide)]; rfl
          refine tz_cV (pc := 56) (m_rules1 hl n _ _ _ (by omega) (by omega) 0 ((bl_50 16 (by decide) (by decide) (by decide)).trans hT.2.2.2.1.2.1) (by decide) (by show 0 ≤ J_50 165 9 ∧ J_50 165 9 < 8; omega)) vl_X12_304 dX12_rules_56 o_164 rfl rfl (Nat.le_of_ble_eq_true rfl) ⟨(Nat.le_of_ble_eq_true rfl), (Nat.le_of_ble_eq_true rfl)⟩ rfl rfl (Nat.le_of_ble_eq_true rfl) (Nat.le_of_ble_eq_true rfl) (fun r9 J_56 hq9 => ?_)
          obtain ⟨rfl, hr_56⟩ := hq9
          have a_56 : AM (zup J_56 165 40 0) J m m := by rw [← hr_56]; exact AM.rule a_50 b3_50.1 (by omega) (by omega) (by omega)
          have c9_56 : J_56 165 9 = J 165 9 + 1 := by rw [← hr_56, ← z9_56]; exact zup_at
          refine tz_aload_n (pc := 59) dX12_rules_59 rfl rfl ?_
          refine tz_fR (pc := 60) dX12_rules_60 fl_X12_9 r_164_0 ?_
          refine tz_bipush (pc := 63) dX12_rules_63 (by decide) ?_
          refine tz_iconst (pc := 65) dX12_rules_65 ?_
          refine tz_aS (pc := 66) (z := 40) dX12_rules_66 a_165 rfl (by decide) (by decide) ?_
          refine tz_aload_n (pc := 67) dX12_rules_67 rfl rfl ?_
          refine tz_aload_n (pc := 68) dX12_rules_68 rfl rfl ?_
          refine tz_fR (pc := 69) dX12_rules_69 fl_X12_9 r_164_0 ?_
          refine tz_bipush (pc := 72) dX12_rules_72 (by decide) ?_
          refine tz_aL (pc := 74) (z := 9) (v := (J_56 165 9)) dX12_rules_74 a_165 rfl (by decide) rfl (fun r_74 => ?_)
          refine tz_cV (pc := 75) (m_keeps hl n _ _ (by omega) (a_56).2.2.2.1.1.1 (a_56).2.2.2.1.1.2) vl_X12_403 dX12_rules_75 o_164 rfl rfl (Nat.le_of_ble_eq_true rfl) ⟨(Nat.le_of_ble_eq_true rfl), (Nat.le_of_ble_eq_true rfl)⟩ rfl rfl (Nat.le_of_ble_eq_true rfl) (Nat.le_of_ble_eq_true rfl) (fun r9 J_75 hq9 => ?_)
          obtain ⟨z_75, rfl, hz_75, k_75⟩ := hq9
          exact tz_iret (pc := 78) (z := z_75) dX12_rules_78 rfl (Nat.le_of_ble_eq_true rfl) (Nat.le_of_ble_eq_true rfl) ⟨Nat.le_refl _, Nat.le_add_right _ _⟩ ⟨_, rfl, (by omega), (AE (AM.keep a_56 k_75) bi_50 (mact_end bt_50 bs_50 bm_50 ba_50 bu_50 bn_50 bf_50 (MOP.r5 (by rw [← hr_56]; exact zOf.up rfl zrl_of) (fun k a => by rw [← hr_56]; show (if k = 40 then 0 else if k = 9 then J_50 165 9 + 1 else if k = 10 + 2 * J_50 165 9 + 1 then y else if k = 10 + 2 * J_50 165 9 then x else J_50 165 k) = J_50 165 k; rw [if_neg (by omega), if_neg (by omega), if_neg (by omega), if_neg (by omega)])) (show tb0 (zup J_56 165 40 0) = zru (tbz J) x y from by rw [← hr_56, tb0_up (by decide), tb0_rl (by omega), bt_50]; rfl) (by have e9 : tbz J 165 9 = J 165 9 := rfl; show (if (0 : Int) = 40 then 0 else if (0 : Int) = 9 then tbz J 165 9 + 1 else if (0 : Int) = 10 + 2 * tbz J 165 9 + 1 then y else if (0 : Int) = 10 + 2 * tbz J 165 9 then x else tbz J 165 0) ≤ 400; rw [if_neg (by decide), if_neg (by decide), if_neg (by omega), if_neg (by omega), bs_50]; exact bm_50) (fun _ => c9_56) k_75) (⟨by omega, by omega, (hh8.resolve_right (fun k => by have := k.1; omega)).2⟩))⟩
        · refine tz_aload_n (pc := 42) dX12_rules_42 rfl rfl ?_
          refine tz_iconst (pc := 43) dX12_rules_43 ?_
          refine tz_iconst (pc := 44) dX12_rules_44 ?_
          refine tz_cV (pc := 45) (m_refuses hl n _ _ _ (by decide) (by decide) (by decide)) vl_X12_391 dX12_rules_45 o_164 rfl rfl (Nat.le_of_ble_eq_true rfl) ⟨(Nat.le_of_ble_eq_true rfl), (Nat.le_of_ble_eq_true rfl)⟩ rfl rfl (Nat.le_of_ble_eq_true rfl) (Nat.le_of_ble_eq_true rfl) (fun r9 J_45 hq9 => ?_)
          obtain ⟨z_45, rfl, hz_45, rfl, f_45⟩ := hq9
          have y_45 : MZ J_45 J := MZ.tr (MZ.up (k := 8) MZ.rf (by decide)) (MZ.c f_45 (by decide))
          exact tz_iret (pc := 48) (z := (-1)) dX12_rules_48 rfl (Nat.le_of_ble_eq_true rfl) (Nat.le_of_ble_eq_true rfl) ⟨Nat.le_refl _, Nat.le_add_right _ _⟩ ⟨_, rfl, (by decide), ⟨MQr.z hI y_45, MFI.z y_45, Or.inr ⟨fun q => by first | omega | exact absurd q.2.2 ((hh8.resolve_left (fun k => by have := k.1; omega)).2), rfl, MBT.z hI y_45, u9.z y_45⟩⟩⟩

end
section
/-! ===== undo, exact ===== -/
/-- the row is another one -/
def zun (S : zJ) (h : Int → Int) : zJ := fun c => if c = 165 then (fun k => if 0 ≤ k ∧ k < 63 then h k else S 165 k) else S c
theorem zun_5 {S : zJ} {h : Int → Int} {k : Int} (hk : 0 ≤ k ∧ k < 63) : zun S h 165 k = h k := by
  show (if 0 ≤ k ∧ k < 63 then h k else S 165 k) = h k
  rw [if_pos hk]
theorem A0.un {J' J S : zJ} {h : Int → Int} (E : A0 J S) (f : ∀ c, c = 1 ∨ c = 2 ∨ c = 3 ∨ c = 4 ∨ c = 7 ∨ c = 8 ∨ c = 9 ∨ c = 12 → J' c = J c) (h0 : J' 6 12 = h 0) (hm : h 0 ≤ S 165 0) : A0 J' (zun S h) := by
  have e0 : zun S h 165 0 = h 0 := zun_5 (by decide)
  have ec : ∀ c, ¬ c = 165 → zun S h c = S c := fun c q => if_neg q
  obtain ⟨E1, E2, E3, E4⟩ := E
  unfold A0
  rw [e0, ec 164 (by decide), ec 166 (by decide), ec 167 (by decide), ec 168 (by decide), ec 169 (by decide), ec 170 (by decide), ec 171 (by decide), f 1 (by omega), f 2 (by omega), f 3 (by omega), f 4 (by omega), f 7 (by omega), f 8 (by omega), f 9 (by omega), f 12 (by omega)]
  exact ⟨E1, h0, fun t a b => E3 t a (by omega), fun t i a b c d => E4 t i a (by omega) c d⟩
theorem x_undo {l : Launch} {G : tb_G} (hl : l.stackTraces = false) (n : Nat) (J : zJ) (m : Int) (hI : CI J m) (S : zJ) (pn : Int) (RR : Int → Int → Int) (cc : CAL J S pn RR) : tz_Ok l G M_X0_undoLast 4 0 0 [.ref 5] n J (zqi (fun z J' => CQ J' J ∧ ((pn = 0 ∧ z = -1 ∧ CAL J' S pn RR) ∨ (0 < pn ∧ z = pn - 1 ∧ CAL J' (zun S (RR (pn - 1))) (pn - 1) RR)))) zN := by
  have hr := hI.2.1
  have h1 := cc.2.2.1
  by_cases h6 : J 5 6 = 0
  · refine (c_undo4 hl n J h6).mono (fun r J' _ h => ?_) (fun E J' _ h => h)
    obtain ⟨z, e1, e2, e3, rfl⟩ := h
    exact ⟨z, e1, e2, CQ.rf hI, Or.inl ⟨by omega, e3.symm, cc⟩⟩
  · obtain ⟨⟨g1, g2⟩, g3⟩ := hI.2.2 (J 5 6 - 1) (by omega) (by omega)
    refine (c_undoN hl n J m (by omega) hr.1 hI.1.1.1 hI.1.1.2.1 g2).mono (fun r J' _ h => ?_) (fun E J' _ h => h)
    obtain ⟨z, e1, e2, e3, f, a, b, c⟩ := h
    refine ⟨z, e1, e2, ⟨⟨_, hI.undo (by omega) f a b c⟩, ?_, (f 0 rfl).trans rfl, (f.mono (fun c hc => by have := of_decide_eq_true hc; simp [zbut]; omega)).tr (zOf.up rfl zOf.rf)⟩, Or.inr ⟨by omega, by omega, ?_, ?_, ?_, fun k u v => ?_⟩⟩
    · rw [f 145 rfl]
      show J 145 10 ≤ _
      omega
    · have kw := cc.2.2.2 (pn - 1) (by omega) (by omega)
      rw [← h1] at kw ⊢
      have eb : J' 6 12 = J (zU ((J 5 5 + (J 5 6 - 1)) % 40)) 0 := by rw [b, zup_nc (by unfold zU; omega)]
      have m0 := cc.1.2.1
      have m1 := hI.1.1.2.1
      exact cc.1.un (fun c hc => (f c (by simp [zbut]; omega)).trans (zup_nc (by omega))) (eb.trans kw.2) (by rw [← kw.2]; omega)
    · have kw := cc.2.2.2 (pn - 1) (by omega) (by omega)
      rw [← h1] at kw ⊢
      have w := kw.1.of (f' := J' 19) g1 (fun k u v => by
        rw [a, zcp_in (by omega), zup_nc (by unfold zU; omega)]
        congr 1
        omega)
      exact w.to (hI.undo (by omega) f a b c).1.1.2.2 (fun k u v => zun_5 (by omega))
    · rw [f 5 rfl, zup_at]; omega
    · rw [f 5 rfl, show zup J 5 6 (J 5 6 - 1) 5 5 = J 5 5 from rfl, f (zU ((J 5 5 + k) % 40)) (by simp [zbut, zU]; omega), zup_nc (by unfold zU; omega)]
      exact cc.2.2.2 k u (by omega)
set_option maxHeartbeats 4000000 in
set_option maxRecDepth 100000 in
theorem v_undo {l : Launch} {G : tb_G} (hl : l.stackTraces = false) (n : Nat) (J : zJ)   (m : Int) (S : zJ) (pn : Int) (RR : Int → Int → Int) (hI : CI J m) (h9 : J 145 10 < 1000000000) (cc : CAL J S pn RR) : tz_Ok l G M_X11_undo 5 0 0 [.ref 0] n J (zqi (fun z J' => CQ J' J ∧ ((pn = 0 ∧ z = -1 ∧ CAL J' S pn RR) ∨ (0 < pn ∧ z = pn - 1 ∧ CAL J' (zun S (RR (pn - 1))) (pn - 1) RR)))) zN := by
  refine tz_Ok.of hl (by decide +kernel) rfl (tb_c1 rfl) (Nat.le_of_ble_eq_true rfl) ?_
  show tz_At l G M_X11_undo (tb_rm 5 0 0) none (tb_ZM G 0 0 (zQ n 0 (zqi (fun z J' => CQ J' J ∧ ((pn = 0 ∧ z = -1 ∧ CAL J' S pn RR) ∨ (0 < pn ∧ z = pn - 1 ∧ CAL J' (zun S (RR (pn - 1))) (pn - 1) RR))))) (zX n 0 zN)) 0 0 n J 0 [some (.ref 0)] []
  refine tz_aload_n (pc := 0) dX11_undo_0 rfl rfl ?_
  refine tz_fR (pc := 1) dX11_undo_1 fl_X11_29 r_0_1 ?_
  refine tz_cV (pc := 4) (x_undo hl n _ m hI S pn RR cc) vl_X11_375 dX11_undo_4 o_5 rfl rfl (Nat.le_of_ble_eq_true rfl) ⟨(Nat.le_of_ble_eq_true rfl), (Nat.le_of_ble_eq_true rfl)⟩ rfl rfl (Nat.le_of_ble_eq_true rfl) (Nat.le_of_ble_eq_true rfl) (fun r9 J_4 hq9 => ?_)
  obtain ⟨z_4, rfl, hz_4, c9, d9⟩ := hq9
  exact tz_iret (pc := 7) (z := z_4) dX11_undo_7 rfl (Nat.le_of_ble_eq_true rfl) (Nat.le_of_ble_eq_true rfl) ⟨Nat.le_refl _, Nat.le_add_right _ _⟩ ⟨_, rfl, (by omega), ⟨c9, d9⟩⟩

theorem mundo {J : zJ} {m pn : Int} {RR : Int → Int → Int} (h : MI J m) (u : MUr J pn RR) (hp : 0 < pn) : MBT (zmv (zup (zup J 164 8 0) 164 10 (J 164 10 - 1)) 165 (189 + 63 * ((J 164 11 + (J 164 10 - 1)) % 40)) 0 63) (zun (tbz J) (RR (pn - 1))) ∧ MUr (zmv (zup (zup J 164 8 0) 164 10 (J 164 10 - 1)) 165 (189 + 63 * ((J 164 11 + (J 164 10 - 1)) % 40)) 0 63) (pn - 1) RR ∧ MFI (zmv (zup (zup J 164 8 0) 164 10 (J 164 10 - 1)) 165 (189 + 63 * ((J 164 11 + (J 164 10 - 1)) % 40)) 0 63) J := by
  have hT := h.told
  have hu := u.1
  have hr : ∀ q, 0 ≤ q → q < 63 → J 165 (189 + 63 * ((J 164 11 + (J 164 10 - 1)) % 40) + q) = RR (pn - 1) q := fun q a b => by
    have := u.2 (pn - 1) (by omega) (by omega) q a b
    rw [← hu] at this
    rw [← hu]
    exact this
  have hc : RR (pn - 1) 0 ≤ m := by
    obtain ⟨⟨p1, p2, p3⟩, p4⟩ := h.2.2.1.pop (by omega)
    rw [← hr 0 (by decide) (by decide)]
    exact p3
  have f4 : ∀ k, ¬ k = 8 → ¬ k = 10 → zmv (zup (zup J 164 8 0) 164 10 (J 164 10 - 1)) 165 (189 + 63 * ((J 164 11 + (J 164 10 - 1)) % 40)) 0 63 164 k = J 164 k := fun k a b => by
    show zup (zup J 164 8 0) 164 10 (J 164 10 - 1) 164 k = _
    rw [zup_ne b, zup_ne a]
  have f10 : zmv (zup (zup J 164 8 0) 164 10 (J 164 10 - 1)) 165 (189 + 63 * ((J 164 11 + (J 164 10 - 1)) % 40)) 0 63 164 10 = J 164 10 - 1 := rfl
  have f5 : ∀ k, zmv (zup (zup J 164 8 0) 164 10 (J 164 10 - 1)) 165 (189 + 63 * ((J 164 11 + (J 164 10 - 1)) % 40)) 0 63 165 k = if 0 ≤ k ∧ k < 0 + 63 then J 165 (189 + 63 * ((J 164 11 + (J 164 10 - 1)) % 40) + (k - 0)) else J 165 k := fun k => rfl
  have fo : zOf (zbut [164, 165]) (zmv (zup (zup J 164 8 0) 164 10 (J 164 10 - 1)) 165 (189 + 63 * ((J 164 11 + (J 164 10 - 1)) % 40)) 0 63) J := zOf.mv rfl (zOf.up rfl (zOf.up rfl zOf.rf))
  generalize zmv (zup (zup J 164 8 0) 164 10 (J 164 10 - 1)) 165 (189 + 63 * ((J 164 11 + (J 164 10 - 1)) % 40)) 0 63 = J' at *
  have ec : ∀ c, ¬ c = 165 → zun (tbz J) (RR (pn - 1)) c = tbz J c := fun c q => if_neg q
  have e0 : zun (tbz J) (RR (pn - 1)) 165 0 = RR (pn - 1) 0 := zun_5 (by decide)
  have b := MBT.z h MZ.rf
  have s0 : tbz J 165 0 = m := hT.2.2.1
  refine ⟨⟨⟨?_, fun k a c => ?_⟩, fun k a c => ?_, fun t a c => ?_, fun k a c => ?_⟩, ⟨by omega, fun k a c q x y => ?_⟩, ⟨fun k a => by rw [f5, if_neg (by omega)], fun k _ _ => ⟨by rw [fo 166 rfl], by rw [fo 168 rfl]⟩, fun k _ _ => by rw [fo 167 rfl], f4 12 (by decide) (by decide), f4 13 (by decide) (by decide)⟩⟩
  · rw [f4 9 (by decide) (by decide), ec 164 (by decide)]; exact b.1.1
  · rw [fo 169 rfl, fo 170 rfl, fo 171 rfl, ec 169 (by decide), ec 170 (by decide), ec 171 (by decide)]; exact b.1.2 k a c
  · rw [f5, if_pos (by omega), zun_5 ⟨a, c⟩, show k - 0 = k from by omega]; exact hr k a c
  · rw [e0] at c
    rw [fo 166 rfl, fo 168 rfl, ec 166 (by decide), ec 168 (by decide)]; exact b.2.2.1 t a (by omega)
  · rw [e0] at c
    rw [fo 167 rfl, ec 167 (by decide)]; exact b.2.2.2 k a (by omega)
  · rw [f4 11 (by decide) (by decide), f5, if_neg (by omega)]
    exact u.2 k a (by omega) q x y
set_option maxHeartbeats 4000000 in
set_option maxRecDepth 100000 in
theorem v_qundo {l : Launch} {G : tb_G} (hl : l.stackTraces = false) (n : Nat) (J : zJ)   (m : Int) (pn : Int) (RR : Int → Int → Int) (hI : MI J m) (u9 : MUr J pn RR) : tz_Ok l G M_X12_undo 1 0 0 [.ref 164] n J (zqi (fun z J' => MQr J' J ∧ MFI J' J ∧ ((pn = 0 ∧ z = -1 ∧ MBT J' (tbz J) ∧ MUr J' pn RR) ∨ (0 < pn ∧ z = pn - 1 ∧ MBT J' (zun (tbz J) (RR (pn - 1))) ∧ MUr J' (pn - 1) RR)))) zN := by
  refine tz_Ok.of hl (by decide +kernel) rfl (tb_c1 rfl) (Nat.le_of_ble_eq_true rfl) ?_
  show tz_At l G M_X12_undo (tb_rm 1 0 0) none (tb_ZM G 0 0 (zQ n 0 (zqi (fun z J' => MQr J' J ∧ MFI J' J ∧ ((pn = 0 ∧ z = -1 ∧ MBT J' (tbz J) ∧ MUr J' pn RR) ∨ (0 < pn ∧ z = pn - 1 ∧ MBT J' (zun (tbz J) (RR (pn - 1))) ∧ MUr J' (pn - 1) RR))))) (zX n 0 zN)) 0 0 n J 0 [some (.ref 164)] []
  have hT := hI.told
  have hW := hI.row
  have hM := hI.1
  have hL := hI.2.1
  have hu := u9.1
  refine tz_aload_n (pc := 0) dX12_undo_0 rfl rfl ?_
  refine tz_iconst (pc := 1) dX12_undo_1 ?_
  refine tz_pI (pc := 2) (kz := 8) dX12_undo_2 fl_X12_68 i_164_8 rfl rfl (by decide) ?_
  refine tz_aload_n (pc := 5) dX12_undo_5 rfl rfl ?_
  refine tz_fI (pc := 6) (kz := 10) (v := (J 164 10)) dX12_undo_6 fl_X12_356 i_164_10 rfl rfl (fun r_6 => ?_)
  refine tz_if_ne (pc := 9) (tgt := 14) dX12_undo_9 (by decide) (by omega) (fun h_9 => ?_) (fun h_9 => ?_)
  · refine tz_aload_n (pc := 14) dX12_undo_14 rfl rfl ?_
    refine tz_dup (pc := 15) dX12_undo_15 rfl ?_
    refine tz_fI (pc := 16) (kz := 10) (v := (J 164 10)) dX12_undo_16 fl_X12_356 i_164_10 rfl rfl (fun r_16 => ?_)
    refine tz_iconst (pc := 19) dX12_undo_19 ?_
    refine tz_isub (pc := 20) (v := (J 164 10) - 1) dX12_undo_20 rfl ?_
    refine tz_pI (pc := 21) (kz := 10) dX12_undo_21 fl_X12_356 i_164_10 rfl rfl (by omega) ?_
    refine tz_aload_n (pc := 24) dX12_undo_24 rfl rfl ?_
    refine tz_aload_n (pc := 25) dX12_undo_25 rfl rfl ?_
    refine tz_fI (pc := 26) (kz := 11) (v := (J 164 11)) dX12_undo_26 fl_X12_353 i_164_11 rfl rfl (fun r_26 => ?_)
    refine tz_aload_n (pc := 29) dX12_undo_29 rfl rfl ?_
    refine tz_fI (pc := 30) (kz := 10) (v := ((J 164 10) - 1)) dX12_undo_30 fl_X12_356 i_164_10 rfl rfl (fun r_30 => ?_)
    refine tz_cS (pc := 33) (m_keptAt hl n _ _ _ (by omega) (by omega) (by omega)) sl_X12_397 dX12_undo_33 rfl rfl (Nat.le_of_ble_eq_true rfl) ⟨(Nat.le_of_ble_eq_true rfl), (Nat.le_of_ble_eq_true rfl)⟩ rfl rfl (Nat.le_of_ble_eq_true rfl) (Nat.le_of_ble_eq_true rfl) (fun r9 J_33 hq9 => ?_)
    obtain ⟨z_33, rfl, hz_33, rfl, rfl⟩ := hq9
    refine tz_iconst (pc := 36) dX12_undo_36 ?_
    refine tz_bipush (pc := 37) dX12_undo_37 (by decide) ?_
    refine tz_cV (pc := 39) (zm_copies hl n _ _ _ _ (by omega) (by decide) (by decide) (by omega) (by omega)) vl_X12_343 dX12_undo_39 o_164 rfl rfl (Nat.le_of_ble_eq_true rfl) ⟨(Nat.le_of_ble_eq_true rfl), (Nat.le_of_ble_eq_true rfl)⟩ rfl rfl (Nat.le_of_ble_eq_true rfl) (Nat.le_of_ble_eq_true rfl) (fun r9 J_39 hq9 => ?_)
    obtain ⟨rfl, rfl⟩ := hq9
    refine tz_aload_n (pc := 42) dX12_undo_42 rfl rfl ?_
    refine tz_fI (pc := 43) (kz := 10) (v := ((J 164 10) - 1)) dX12_undo_43 fl_X12_356 i_164_10 rfl rfl (fun r_43 => ?_)
    exact tz_iret (pc := 46) (z := ((J 164 10) - 1)) dX12_undo_46 rfl (Nat.le_of_ble_eq_true rfl) (Nat.le_of_ble_eq_true rfl) ⟨Nat.le_refl _, Nat.le_add_right _ _⟩ ⟨_, rfl, (by omega), ⟨MI.undo hI (by omega), (mundo hI u9 (by omega)).2.2, Or.inr ⟨by omega, by omega, (mundo hI u9 (by omega)).1, (mundo hI u9 (by omega)).2.1⟩⟩⟩
  · refine tz_iconst (pc := 12) dX12_undo_12 ?_
    exact tz_iret (pc := 13) (z := (-1)) dX12_undo_13 rfl (Nat.le_of_ble_eq_true rfl) (Nat.le_of_ble_eq_true rfl) ⟨Nat.le_refl _, Nat.le_add_right _ _⟩ ⟨_, rfl, (by decide), ⟨MQr.z hI (MZ.up (k := 8) MZ.rf (by decide)), MFI.z (MZ.up (k := 8) MZ.rf (by decide)), Or.inl ⟨by omega, rfl, MBT.z hI (MZ.up (k := 8) MZ.rf (by decide)), u9.z (MZ.up (k := 8) MZ.rf (by decide))⟩⟩⟩

end
section
/-! ===== matching, as a function ===== -/
def fmS (σ : Int → Int) (v t : Int) : Int → Int := fun k => if k = v then t else σ k
/-- one after the other, until one fails -/
def mtF (f : (Int → Int) → Int → Bool × (Int → Int)) : Nat → (Int → Int) → Bool × (Int → Int)
  | 0, σ => (true, σ)
  | i + 1, σ => if (mtF f i σ).1 = true then f (mtF f i σ).2 i else mtF f i σ
theorem mtF_s {f : (Int → Int) → Int → Bool × (Int → Int)} {i : Nat} {σ : Int → Int} : mtF f (i + 1) σ = if (mtF f i σ).1 = true then f (mtF f i σ).2 i else mtF f i σ := rfl
theorem mtF_f {f : (Int → Int) → Int → Bool × (Int → Int)} {i : Nat} {σ : Int → Int} (h : (mtF f i σ).1 = false) : ∀ n, mtF f (i + n) σ = mtF f i σ
  | 0 => rfl
  | n + 1 => by
    show mtF f (i + n + 1) σ = _
    rw [mtF_s, mtF_f h n, if_neg (by rw [h]; decide)]
def mtO (hd ar : Int → Int) (ag : Int → Int → Int) : Nat → (Int → Int) → Int → Int → Bool × (Int → Int)
  | 0, σ, _, _ => (false, σ)
  | k + 1, σ, p, t => if hd p < 0 then (if σ (-1 - hd p) = -1 then (true, fmS σ (-1 - hd p) t) else (decide (σ (-1 - hd p) = t), σ)) else if hd p = hd t then mtF (fun σ i => mtO hd ar ag k σ (ag p i) (ag t i)) (ar p).toNat σ else (false, σ)
theorem mtO_s {hd ar : Int → Int} {ag : Int → Int → Int} {k : Nat} {σ : Int → Int} {p t : Int} : mtO hd ar ag (k + 1) σ p t = if hd p < 0 then (if σ (-1 - hd p) = -1 then (true, fmS σ (-1 - hd p) t) else (decide (σ (-1 - hd p) = t), σ)) else if hd p = hd t then mtF (fun σ i => mtO hd ar ag k σ (ag p i) (ag t i)) (ar p).toNat σ else (false, σ) := rfl
/-- bindings are alike -/
def sgA (σ σ' : Int → Int) : Prop := ∀ k, 0 ≤ k → k < 8 → σ k = σ' k
theorem mtF_cg {f f' : (Int → Int) → Int → Bool × (Int → Int)} : ∀ (n : Nat), (∀ (i : Nat) σ σ', i < n → sgA σ σ' → (f σ i).1 = (f' σ' i).1 ∧ sgA (f σ i).2 (f' σ' i).2) → ∀ σ σ', sgA σ σ' → (mtF f n σ).1 = (mtF f' n σ').1 ∧ sgA (mtF f n σ).2 (mtF f' n σ').2
  | 0, _, σ, σ', e => ⟨rfl, e⟩
  | n + 1, h, σ, σ', e => by
    obtain ⟨a, b⟩ := mtF_cg n (fun i σ σ' q => h i σ σ' (by omega)) σ σ' e
    rw [mtF_s, mtF_s, ← a]
    split
    · exact h n _ _ (by omega) b
    · exact ⟨a, b⟩
/-- tables alike, bindings alike: the same -/
theorem mtO_cg {m : Int} {hd hd' ar ar' dp : Int → Int} {ag ag' : Int → Int → Int} (td : TD m ar ag dp) (h8 : ∀ t, 0 ≤ t → t < m → -8 ≤ hd t) (hh : ∀ t, 0 ≤ t → t < m → hd' t = hd t) (ha : ∀ t, 0 ≤ t → t < m → ar' t = ar t) (hg : ∀ t, 0 ≤ t → t < m → ∀ i, 0 ≤ i → i < ar t → ag' t i = ag t i) (hx : ∀ s t, 0 ≤ s → s < m → 0 ≤ t → t < m → hd s = hd t → ar s = ar t) : ∀ (k : Nat) (σ σ' : Int → Int) (p t : Int), (0 ≤ p ∧ p < m) → (0 ≤ t ∧ t < m) → sgA σ σ' → (mtO hd ar ag k σ p t).1 = (mtO hd' ar' ag' k σ' p t).1 ∧ sgA (mtO hd ar ag k σ p t).2 (mtO hd' ar' ag' k σ' p t).2
  | 0, σ, σ', p, t, hp, ht, e => ⟨rfl, e⟩
  | k + 1, σ, σ', p, t, hp, ht, e => by
    have p8 := h8 p hp.1 hp.2
    rw [mtO_s, mtO_s, hh p hp.1 hp.2, hh t ht.1 ht.2, ha p hp.1 hp.2]
    split
    · rw [← e (-1 - hd p) (by omega) (by omega)]
      split
      · refine ⟨rfl, fun q a b => ?_⟩
        show (if q = -1 - hd p then t else σ q) = if q = -1 - hd p then t else σ' q
        split
        · rfl
        · exact e q a b
      · exact ⟨rfl, e⟩
    · split
      · next q =>
        have at' := hx p t hp.1 hp.2 ht.1 ht.2 q
        obtain ⟨t1, t2, t3⟩ := td p hp.1 hp.2
        obtain ⟨u1, u2, u3⟩ := td t ht.1 ht.2
        refine mtF_cg _ (fun i σ σ' h e => ?_) σ σ' e
        have i1 := t3 i (by omega) (by omega)
        have i2 := u3 i (by omega) (by omega)
        rw [hg p hp.1 hp.2 i (by omega) (by omega), hg t ht.1 ht.2 i (by omega) (by omega)]
        exact mtO_cg td h8 hh ha hg hx k σ σ' _ _ ⟨i1.1.1, by omega⟩ ⟨i2.1.1, by omega⟩ e
      · exact ⟨rfl, e⟩
/-- more levels change nothing -/
theorem mtF_eq {f f' : (Int → Int) → Int → Bool × (Int → Int)} : ∀ (n : Nat), (∀ (i : Nat) σ, i < n → f σ i = f' σ i) → ∀ σ, mtF f n σ = mtF f' n σ
  | 0, _, _ => rfl
  | n + 1, h, σ => by
    rw [mtF_s, mtF_s, mtF_eq n (fun i σ q => h i σ (by omega)) σ]
    split
    · exact h n _ (by omega)
    · rfl
theorem mtO_st {m : Int} {hd ar dp : Int → Int} {ag : Int → Int → Int} (td : TD m ar ag dp) : ∀ (k k' : Nat) (σ : Int → Int) (p t : Int), (0 ≤ p ∧ p < m) → dp p ≤ k → dp p ≤ k' → mtO hd ar ag k σ p t = mtO hd ar ag k' σ p t
  | 0, _, _, p, _, hp, h, _ => by have := (td p hp.1 hp.2).2.1; omega
  | k + 1, 0, _, p, _, hp, _, h => by have := (td p hp.1 hp.2).2.1; omega
  | k + 1, k' + 1, σ, p, t, hp, h, h' => by
    rw [mtO_s, mtO_s]
    split
    · rfl
    · split
      · obtain ⟨t1, t2, t3⟩ := td p hp.1 hp.2
        refine mtF_eq _ (fun i σ q => ?_) σ
        have i1 := t3 i (by omega) (by omega)
        exact mtO_st td k k' σ _ _ ⟨i1.1.1, by omega⟩ (by omega) (by omega)
      · rfl
end
section
/-! ===== matches of the class, exact ===== -/
def cmt (J : zJ) : Nat → (Int → Int) → Int → Int → Bool × (Int → Int) := mtO (J 7) (J 8) (cag J)
theorem cmt_of {J1 J : zJ} (f : zOf (zbut [140]) J1 J) : cmt J1 = cmt J := by
  unfold cmt cag
  rw [f 7 rfl, f 8 rfl, f 9 rfl]
/-- what an answer of the function is -/
def MAN (r : Bool × (Int → Int)) (z : Int) (J' : zJ) : Prop := ((r.1 = true ∧ z = 1) ∨ (r.1 = false ∧ z = 0)) ∧ J' 140 = r.2
theorem MAN.v {J J' : zJ} {k : Nat} {p t z v : Int} (hv : J 7 p < 0) (ev : v = -1 - J 7 p) (hj : (if J 140 v = -1 then zup J 140 v t else J) = J') (hz : (if J 140 v = -1 ∨ J 140 v = t then 1 else 0) = z) : MAN (cmt J (k + 1) (J 140) p t) z J' := by
  unfold cmt
  rw [mtO_s, if_pos hv, ← ev]
  by_cases e : J 140 v = -1
  · rw [if_pos e] at hj ⊢
    rw [if_pos (Or.inl e)] at hz
    rw [← hj]
    exact ⟨Or.inl ⟨rfl, hz.symm⟩, rfl⟩
  · rw [if_neg e] at hj ⊢
    rw [← hj]
    by_cases f : J 140 v = t
    · rw [if_pos (Or.inr f)] at hz
      exact ⟨Or.inl ⟨decide_eq_true f, hz.symm⟩, rfl⟩
    · rw [if_neg (fun q => q.elim e f)] at hz
      exact ⟨Or.inr ⟨decide_eq_false f, hz.symm⟩, rfl⟩
theorem MAN.n {J : zJ} {k : Nat} {p t : Int} (hv : ¬ J 7 p < 0) (hn : ¬ J 7 p = J 7 t) : MAN (cmt J (k + 1) (J 140) p t) 0 J := by
  unfold cmt
  rw [mtO_s, if_neg hv, if_neg hn]
  exact ⟨Or.inr ⟨rfl, rfl⟩, rfl⟩
/-- the parts of a term, up to the i-th -/
def cmF (J : zJ) (k : Nat) (p t i : Int) : Bool × (Int → Int) := mtF (fun σ i => cmt J k σ (cag J p i) (cag J t i)) i.toNat (J 140)
theorem cmF_0 {J : zJ} {k : Nat} {p t : Int} : cmF J k p t 0 = (true, J 140) := rfl
theorem cmF_s {J : zJ} {k : Nat} {p t i : Int} {τ : Int → Int} (hi : 0 ≤ i) (h : cmF J k p t i = (true, τ)) : cmF J k p t (i + 1) = cmt J k τ (cag J p i) (cag J t i) := by
  unfold cmF at *
  rw [show (i + 1).toNat = i.toNat + 1 from by omega, mtF_s, h, if_pos rfl]
  dsimp only
  rw [Int.toNat_of_nonneg hi]
theorem cmF_f {J : zJ} {k : Nat} {p t i n : Int} (hi : 0 ≤ i ∧ i ≤ n) (h : (cmF J k p t i).1 = false) : cmF J k p t n = cmF J k p t i := by
  unfold cmF at *
  rw [show n.toNat = i.toNat + (n.toNat - i.toNat) from by omega]
  exact mtF_f h _
theorem cmt_F {J : zJ} {k : Nat} {p t : Int} (hv : ¬ J 7 p < 0) (hn : J 7 p = J 7 t) : cmt J (k + 1) (J 140) p t = cmF J k p t (J 8 p) := by
  show mtO _ _ _ _ _ _ _ = _
  rw [mtO_s, if_neg hv, if_pos hn]
  rfl
theorem MAN.e {J J1 : zJ} {k : Nat} {p t i : Int} (hv : ¬ J 7 p < 0) (hn : J 7 p = J 7 t) (hi : i = J 8 p) (x : cmF J k p t i = (true, J1 140)) : MAN (cmt J (k + 1) (J 140) p t) 1 J1 := by
  rw [cmt_F hv hn, ← hi, x]
  exact ⟨Or.inl ⟨rfl, rfl⟩, rfl⟩
theorem MAN.f {J J1 J2 : zJ} {k : Nat} {p t i z : Int} (hv : ¬ J 7 p < 0) (hn : J 7 p = J 7 t) (hi : 0 ≤ i ∧ i < J 8 p) (x : cmF J k p t i = (true, J1 140)) (a : MAN (cmt J k (J1 140) (cag J p i) (cag J t i)) z J2) (hz : z = 0) : MAN (cmt J (k + 1) (J 140) p t) 0 J2 := by
  have s := cmF_s hi.1 x
  have h1 : (cmt J k (J1 140) (cag J p i) (cag J t i)).1 = false := by
    rcases a.1 with q | q
    · omega
    · exact q.1
  rw [cmt_F hv hn, cmF_f (i := i + 1) (by omega) (by rw [s]; exact h1), s]
  exact ⟨Or.inr ⟨h1, rfl⟩, a.2⟩
theorem cmF_n {J J1 J2 : zJ} {k : Nat} {p t i z : Int} (hi : 0 ≤ i) (x : cmF J k p t i = (true, J1 140)) (a : MAN (cmt J k (J1 140) (cag J p i) (cag J t i)) z J2) (hz : ¬ z = 0) : cmF J k p t (i + 1) = (true, J2 140) := by
  rw [cmF_s hi x]
  rcases a.1 with q | q
  · exact Prod.ext q.1 a.2.symm
  · exact absurd q.2 hz
set_option maxHeartbeats 4000000 in
set_option maxRecDepth 100000 in
theorem x_fits7 {l : Launch} {G : tb_G} (hl : l.stackTraces = false) (n : Nat) (J : zJ) (p : Int) (t : Int) (hr_p : -2147483648 ≤ p ∧ p < 2147483648) (hr_t : -2147483648 ≤ t ∧ t < 2147483648) (m : Int) (C : CT J m) (hp : 0 ≤ p ∧ p < m) (ht : 0 ≤ t ∧ t < m) (hg : gOK (J 140) m) : tz_Ok l G M_X3_fitsPart 0 0 0 [.ref 139, zi p, zi t, zi 7] n J (zqi (fun z J' => MAN (cmt J 0 (J 140) p t) z J' ∧ zOf (zbut [140]) J' J ∧ gOK (J' 140) m)) zN := by
  refine tz_Ok.of hl (by decide +kernel) rfl (tb_c1 rfl) (Nat.le_of_ble_eq_true rfl) ?_
  show tz_At l G M_X3_fitsPart (tb_rm 0 0 0) none (tb_ZM G 0 0 (zQ n 0 (zqi (fun z J' => MAN (cmt J 0 (J 140) p t) z J' ∧ zOf (zbut [140]) J' J ∧ gOK (J' 140) m))) (zX n 0 zN)) 0 0 n J 0 [some (.ref 139), some (zi p), some (zi t), some (zi 7), none] []
  refine tz_iload_n (pc := 0) dX3_fitsPart_0 rfl rfl ?_
  refine tz_bipush (pc := 1) dX3_fitsPart_1 (by decide) ?_
  refine tz_icmp_leF (pc := 3) (tgt := 8) (by decide) dX3_fitsPart_3 (by decide) (by decide) (by decide) ?_
  refine tz_iconst (pc := 6) dX3_fitsPart_6 ?_
  exact tz_zret (pc := 7) (z := 0) dX3_fitsPart_7 rfl (Or.inl rfl) (Nat.le_of_ble_eq_true rfl) (Nat.le_of_ble_eq_true rfl) ⟨Nat.le_refl _, Nat.le_add_right _ _⟩ ⟨_, rfl, (by decide), ⟨⟨Or.inr ⟨rfl, rfl⟩, rfl⟩, zOf.rf, hg⟩⟩

set_option maxHeartbeats 4000000 in
set_option maxRecDepth 100000 in
theorem x_fits6 {l : Launch} {G : tb_G} (hl : l.stackTraces = false) (n : Nat) (J : zJ) (p : Int) (t : Int) (hr_p : -2147483648 ≤ p ∧ p < 2147483648) (hr_t : -2147483648 ≤ t ∧ t < 2147483648) (m : Int) (C : CT J m) (hp : 0 ≤ p ∧ p < m) (ht : 0 ≤ t ∧ t < m) (hg : gOK (J 140) m) : tz_Ok l G M_X3_fitsPart 1 0 0 [.ref 139, zi p, zi t, zi 6] n J (zqi (fun z J' => MAN (cmt J 1 (J 140) p t) z J' ∧ zOf (zbut [140]) J' J ∧ gOK (J' 140) m)) zN := by
  refine tz_Ok.of hl (by decide +kernel) rfl (tb_c1 rfl) (Nat.le_of_ble_eq_true rfl) ?_
  show tz_At l G M_X3_fitsPart (tb_rm 1 0 0) none (tb_ZM G 0 0 (zQ n 0 (zqi (fun z J' => MAN (cmt J 1 (J 140) p t) z J' ∧ zOf (zbut [140]) J' J ∧ gOK (J' 140) m))) (zX n 0 zN)) 0 0 n J 0 [some (.ref 139), some (zi p), some (zi t), some (zi 6), none] []
  have hm := C.told
  have ha := C.ar hp.1 hp.2
  refine tz_iload_n (pc := 0) dX3_fitsPart_0 rfl rfl ?_
  refine tz_bipush (pc := 1) dX3_fitsPart_1 (by decide) ?_
  refine tz_icmp_leT (pc := 3) (tgt := 8) (by decide) dX3_fitsPart_3 (by decide) (by decide) (by decide) ?_
  refine tz_aload_n (pc := 8) dX3_fitsPart_8 rfl rfl ?_
  refine tz_fR (pc := 9) dX3_fitsPart_9 fl_X3_15 r_139_0 ?_
  refine tz_iload_n (pc := 12) dX3_fitsPart_12 rfl rfl ?_
  refine tz_cV (pc := 13) (c_isVar hl n _ _ (by omega) (by omega)) vl_X3_29 dX3_fitsPart_13 o_6 rfl rfl (Nat.le_of_ble_eq_true rfl) ⟨(Nat.le_of_ble_eq_true rfl), (Nat.le_of_ble_eq_true rfl)⟩ rfl rfl (Nat.le_of_ble_eq_true rfl) (Nat.le_of_ble_eq_true rfl) (fun r9 J_13 hq9 => ?_)
  obtain ⟨z_13, rfl, hz_13, rfl, rfl⟩ := hq9
  by_cases hw_16 : J 7 p < 0
  · rw [show (if J 7 p < 0 then 1 else 0 : Int) = 1 from if_pos hw_16]
    refine tz_if_eqF (pc := 16) (tgt := 36) (by decide) dX3_fitsPart_16 (by decide) (by decide) ?_
    refine tz_aload_n (pc := 19) dX3_fitsPart_19 rfl rfl ?_
    refine tz_aload_n (pc := 20) dX3_fitsPart_20 rfl rfl ?_
    refine tz_fR (pc := 21) dX3_fitsPart_21 fl_X3_15 r_139_0 ?_
    refine tz_fR (pc := 24) dX3_fitsPart_24 fl_X3_35 r_6_1 ?_
    refine tz_iload_n (pc := 27) dX3_fitsPart_27 rfl rfl ?_
    refine tz_aL (pc := 28) (z := p) (v := (J 7 p)) dX3_fitsPart_28 a_7 rfl (by omega) rfl (fun r_28 => ?_)
    refine tz_iconst (pc := 29) dX3_fitsPart_29 ?_
    refine tz_ixor (pc := 30) (v := -1 - J 7 p) dX3_fitsPart_30 (z_nn (by omega)) ?_
    refine tz_iload_n (pc := 31) dX3_fitsPart_31 rfl rfl ?_
    refine tz_cV (pc := 32) (c_takes hl n _ _ _ (by omega) (by omega) (by omega)) vl_X3_38 dX3_fitsPart_32 o_139 rfl rfl (Nat.le_of_ble_eq_true rfl) ⟨(Nat.le_of_ble_eq_true rfl), (Nat.le_of_ble_eq_true rfl)⟩ rfl rfl (Nat.le_of_ble_eq_true rfl) (Nat.le_of_ble_eq_true rfl) (fun r9 J_32 hq9 => ?_)
    obtain ⟨z_32, rfl, hz_32, hj, hz⟩ := hq9
    have mv := MAN.v (k := 0) (p := p) (by omega) rfl hj hz
    exact tz_zret (pc := 35) (z := z_32) dX3_fitsPart_35 rfl (by omega) (Nat.le_of_ble_eq_true rfl) (Nat.le_of_ble_eq_true rfl) ⟨Nat.le_refl _, Nat.le_add_right _ _⟩ ⟨_, rfl, (by omega), ⟨mv, by rw [← hj]; exact zOf_tk, by rw [← hj]; exact hg.tk ht⟩⟩
  · rw [show (if J 7 p < 0 then 1 else 0 : Int) = 0 from if_neg hw_16]
    refine tz_if_eqT (pc := 16) (tgt := 36) (by decide) dX3_fitsPart_16 (by decide) (by decide) ?_
    refine tz_aload_n (pc := 36) dX3_fitsPart_36 rfl rfl ?_
    refine tz_fR (pc := 37) dX3_fitsPart_37 fl_X3_15 r_139_0 ?_
    refine tz_fR (pc := 40) dX3_fitsPart_40 fl_X3_35 r_6_1 ?_
    refine tz_iload_n (pc := 43) dX3_fitsPart_43 rfl rfl ?_
    refine tz_aL (pc := 44) (z := p) (v := (J 7 p)) dX3_fitsPart_44 a_7 rfl (by omega) rfl (fun r_44 => ?_)
    refine tz_aload_n (pc := 45) dX3_fitsPart_45 rfl rfl ?_
    refine tz_fR (pc := 46) dX3_fitsPart_46 fl_X3_15 r_139_0 ?_
    refine tz_fR (pc := 49) dX3_fitsPart_49 fl_X3_35 r_6_1 ?_
    refine tz_iload_n (pc := 52) dX3_fitsPart_52 rfl rfl ?_
    refine tz_aL (pc := 53) (z := t) (v := (J 7 t)) dX3_fitsPart_53 a_7 rfl (by omega) rfl (fun r_53 => ?_)
    refine tz_icmp_eq (pc := 54) (tgt := 59) dX3_fitsPart_54 (by decide) (by omega) (by omega) (fun h_54 => ?_) (fun h_54 => ?_)
    · refine tz_iconst (pc := 59) dX3_fitsPart_59 ?_
      refine tz_istore (pc := 60) (L2 := [_, _, _, _, _]) dX3_fitsPart_60 (by decide) rfl ?_
      have loop62 : ∀ (f9 : Nat) (i : Int) (J1 : zJ), ((3 - i).toNat) < f9 → (0 ≤ i ∧ i ≤ J 8 p) → (zOf (zbut [140]) J1 J) → (gOK (J1 140) m) → (cmF J 0 p t i = (true, J1 140)) → tz_At l G M_X3_fitsPart (tb_rm 1 0 0) none (tb_ZM G 0 0 (zQ n 0 (zqi (fun z J' => MAN (cmt J 1 (J 140) p t) z J' ∧ zOf (zbut [140]) J' J ∧ gOK (J' 140) m))) (zX n 0 zN)) 0 0 n J1 62 [some (.ref 139), some (zi p), some (zi t), some (zi 6), some (zi i)] [] := by
        intro f9
        induction f9 with
        | zero => intro i J1 hm9; exact absurd hm9 (Nat.not_lt_zero _)
        | succ f9 ih62 =>
          intro i J1 hm62 hi fr h1 x1
          have he := C.arh hp ht (by omega)
          have e9 := fr 9 rfl
          refine tz_iload (pc := 62) dX3_fitsPart_62 rfl ?_
          refine tz_aload_n (pc := 64) dX3_fitsPart_64 rfl rfl ?_
          refine tz_fR (pc := 65) dX3_fitsPart_65 fl_X3_15 r_139_0 ?_
          refine tz_fR (pc := 68) dX3_fitsPart_68 fl_X3_42 r_6_2 ?_
          refine tz_iload_n (pc := 71) dX3_fitsPart_71 rfl rfl ?_
          refine tz_aL (pc := 72) (z := p) (v := (J 8 p)) dX3_fitsPart_72 a_8 rfl (by omega) (Eq.trans (congrFun (fr 8 rfl) p) rfl) (fun r_72 => ?_)
          refine tz_icmp_ge (pc := 73) (tgt := 114) dX3_fitsPart_73 (by decide) (by omega) (by omega) (fun h_73 => ?_) (fun h_73 => ?_)
          · refine tz_iconst (pc := 114) dX3_fitsPart_114 ?_
            exact tz_zret (pc := 115) (z := 1) dX3_fitsPart_115 rfl (Or.inr rfl) (Nat.le_of_ble_eq_true rfl) (Nat.le_of_ble_eq_true rfl) ⟨Nat.le_refl _, Nat.le_add_right _ _⟩ ⟨_, rfl, (by decide), ⟨MAN.e (by omega) (by omega) (by omega) x1, fr, h1⟩⟩
          · refine tz_aload_n (pc := 76) dX3_fitsPart_76 rfl rfl ?_
            refine tz_aload_n (pc := 77) dX3_fitsPart_77 rfl rfl ?_
            refine tz_fR (pc := 78) dX3_fitsPart_78 fl_X3_15 r_139_0 ?_
            refine tz_iload_n (pc := 81) dX3_fitsPart_81 rfl rfl ?_
            refine tz_iload (pc := 82) dX3_fitsPart_82 rfl ?_
            refine tz_cV (pc := 84) (c_arg hl n _ _ _ (by omega) (by omega) (by omega)) vl_X3_45 dX3_fitsPart_84 o_6 rfl rfl (Nat.le_of_ble_eq_true rfl) ⟨(Nat.le_of_ble_eq_true rfl), (Nat.le_of_ble_eq_true rfl)⟩ rfl rfl (Nat.le_of_ble_eq_true rfl) (Nat.le_of_ble_eq_true rfl) (fun r9 J_84 hq9 => ?_)
            obtain ⟨z_84, rfl, hz_84, rfl, rfl⟩ := hq9
            refine tz_aload_n (pc := 87) dX3_fitsPart_87 rfl rfl ?_
            refine tz_fR (pc := 88) dX3_fitsPart_88 fl_X3_15 r_139_0 ?_
            refine tz_iload_n (pc := 91) dX3_fitsPart_91 rfl rfl ?_
            refine tz_iload (pc := 92) dX3_fitsPart_92 rfl ?_
            refine tz_cV (pc := 94) (c_arg hl n _ _ _ (by omega) (by omega) (by omega)) vl_X3_45 dX3_fitsPart_94 o_6 rfl rfl (Nat.le_of_ble_eq_true rfl) ⟨(Nat.le_of_ble_eq_true rfl), (Nat.le_of_ble_eq_true rfl)⟩ rfl rfl (Nat.le_of_ble_eq_true rfl) (Nat.le_of_ble_eq_true rfl) (fun r9 J_94 hq9 => ?_)
            obtain ⟨z_94, rfl, hz_94, rfl, rfl⟩ := hq9
            refine tz_iload_n (pc := 97) dX3_fitsPart_97 rfl rfl ?_
            refine tz_iconst (pc := 98) dX3_fitsPart_98 ?_
            refine tz_iadd (pc := 99) (v := 7) dX3_fitsPart_99 (by decide) ?_
            have g1 := (C.arg (t := p) (i := i) (by omega) (by omega) (by omega) (by omega)).1
            have g2 := (C.arg (t := t) (i := i) (by omega) (by omega) (by omega) (by omega)).1
            rw [← e9] at g1 g2
            refine tz_cV (pc := 100) (x_fits7 hl n _ _ _ (by omega) (by omega) m (C.of (fun c hc => fr c (by simp [zbut]; omega))) (by omega) (by omega) h1) vl_X3_25 dX3_fitsPart_100 o_139 rfl rfl (Nat.le_of_ble_eq_true rfl) ⟨(Nat.le_of_ble_eq_true rfl), (Nat.le_of_ble_eq_true rfl)⟩ rfl rfl (Nat.le_of_ble_eq_true rfl) (Nat.le_of_ble_eq_true rfl) (fun r9 J_100 hq9 => ?_)
            obtain ⟨z_100, rfl, hz_100, a9, f2, h2⟩ := hq9
            have a2 : MAN (cmt J 0 (J1 140) (cag J p i) (cag J t i)) z_100 J_100 := by
              have q9 := a9
              rw [cmt_of fr, show J1 9 = J 9 from e9] at q9
              exact q9
            have zz : z_100 = 0 ∨ z_100 = 1 := a2.1.elim (fun q => Or.inr q.2) (fun q => Or.inl q.2)
            refine tz_if_ne (pc := 103) (tgt := 108) dX3_fitsPart_103 (by decide) (by omega) (fun h_103 => ?_) (fun h_103 => ?_)
            · refine tz_iinc (pc := 108) (z := i + 1) (L2 := [_, _, _, _, _]) dX3_fitsPart_108 rfl (by omega) rfl ?_
              refine tz_goto (pc := 111) (tgt := 62) dX3_fitsPart_111 (by decide) ?_
              exact ih62 (i + 1) _ (by omega) (by omega) (f2.tr fr) h2 (cmF_n (by omega) x1 a2 (by omega))
            · refine tz_iconst (pc := 106) dX3_fitsPart_106 ?_
              exact tz_zret (pc := 107) (z := 0) dX3_fitsPart_107 rfl (Or.inl rfl) (Nat.le_of_ble_eq_true rfl) (Nat.le_of_ble_eq_true rfl) ⟨Nat.le_refl _, Nat.le_add_right _ _⟩ ⟨_, rfl, (by decide), ⟨MAN.f (by omega) (by omega) (by omega) x1 a2 (by omega), f2.tr fr, h2⟩⟩
      exact loop62 _ 0 _ (Nat.lt_succ_self _) (by omega) zOf.rf hg cmF_0
    · refine tz_iconst (pc := 57) dX3_fitsPart_57 ?_
      exact tz_zret (pc := 58) (z := 0) dX3_fitsPart_58 rfl (Or.inl rfl) (Nat.le_of_ble_eq_true rfl) (Nat.le_of_ble_eq_true rfl) ⟨Nat.le_refl _, Nat.le_add_right _ _⟩ ⟨_, rfl, (by decide), ⟨MAN.n (by omega) (by omega), zOf.rf, hg⟩⟩

set_option maxHeartbeats 4000000 in
set_option maxRecDepth 100000 in
theorem x_fits5 {l : Launch} {G : tb_G} (hl : l.stackTraces = false) (n : Nat) (J : zJ) (p : Int) (t : Int) (hr_p : -2147483648 ≤ p ∧ p < 2147483648) (hr_t : -2147483648 ≤ t ∧ t < 2147483648) (m : Int) (C : CT J m) (hp : 0 ≤ p ∧ p < m) (ht : 0 ≤ t ∧ t < m) (hg : gOK (J 140) m) : tz_Ok l G M_X3_fitsPart 2 0 0 [.ref 139, zi p, zi t, zi 5] n J (zqi (fun z J' => MAN (cmt J 2 (J 140) p t) z J' ∧ zOf (zbut [140]) J' J ∧ gOK (J' 140) m)) zN := by
  refine tz_Ok.of hl (by decide +kernel) rfl (tb_c1 rfl) (Nat.le_of_ble_eq_true rfl) ?_
  show tz_At l G M_X3_fitsPart (tb_rm 2 0 0) none (tb_ZM G 0 0 (zQ n 0 (zqi (fun z J' => MAN (cmt J 2 (J 140) p t) z J' ∧ zOf (zbut [140]) J' J ∧ gOK (J' 140) m))) (zX n 0 zN)) 0 0 n J 0 [some (.ref 139), some (zi p), some (zi t), some (zi 5), none] []
  have hm := C.told
  have ha := C.ar hp.1 hp.2
  refine tz_iload_n (pc := 0) dX3_fitsPart_0 rfl rfl ?_
  refine tz_bipush (pc := 1) dX3_fitsPart_1 (by decide) ?_
  refine tz_icmp_leT (pc := 3) (tgt := 8) (by decide) dX3_fitsPart_3 (by decide) (by decide) (by decide) ?_
  refine tz_aload_n (pc := 8) dX3_fitsPart_8 rfl rfl ?_
  refine tz_fR (pc := 9) dX3_fitsPart_9 fl_X3_15 r_139_0 ?_
  refine tz_iload_n (pc := 12) dX3_fitsPart_12 rfl rfl ?_
  refine tz_cV (pc := 13) (c_isVar hl n _ _ (by omega) (by omega)) vl_X3_29 dX3_fitsPart_13 o_6 rfl rfl (Nat.le_of_ble_eq_true rfl) ⟨(Nat.le_of_ble_eq_true rfl), (Nat.le_of_ble_eq_true rfl)⟩ rfl rfl (Nat.le_of_ble_eq_true rfl) (Nat.le_of_ble_eq_true rfl) (fun r9 J_13 hq9 => ?_)
  obtain ⟨z_13, rfl, hz_13, rfl, rfl⟩ := hq9
  by_cases hw_16 : J 7 p < 0
  · rw [show (if J 7 p < 0 then 1 else 0 : Int) = 1 from if_pos hw_16]
    refine tz_if_eqF (pc := 16) (tgt := 36) (by decide) dX3_fitsPart_16 (by decide) (by decide) ?_
    refine tz_aload_n (pc := 19) dX3_fitsPart_19 rfl rfl ?_
    refine tz_aload_n (pc := 20) dX3_fitsPart_20 rfl rfl ?_
    refine tz_fR (pc := 21) dX3_fitsPart_21 fl_X3_15 r_139_0 ?_
    refine tz_fR (pc := 24) dX3_fitsPart_24 fl_X3_35 r_6_1 ?_
    refine tz_iload_n (pc := 27) dX3_fitsPart_27 rfl rfl ?_
    refine tz_aL (pc := 28) (z := p) (v := (J 7 p)) dX3_fitsPart_28 a_7 rfl (by omega) rfl (fun r_28 => ?_)
    refine tz_iconst (pc := 29) dX3_fitsPart_29 ?_
    refine tz_ixor (pc := 30) (v := -1 - J 7 p) dX3_fitsPart_30 (z_nn (by omega)) ?_
    refine tz_iload_n (pc := 31) dX3_fitsPart_31 rfl rfl ?_
    refine tz_cV (pc := 32) (c_takes hl n _ _ _ (by omega) (by omega) (by omega)) vl_X3_38 dX3_fitsPart_32 o_139 rfl rfl (Nat.le_of_ble_eq_true rfl) ⟨(Nat.le_of_ble_eq_true rfl), (Nat.le_of_ble_eq_true rfl)⟩ rfl rfl (Nat.le_of_ble_eq_true rfl) (Nat.le_of_ble_eq_true rfl) (fun r9 J_32 hq9 => ?_)
    obtain ⟨z_32, rfl, hz_32, hj, hz⟩ := hq9
    have mv := MAN.v (k := 1) (p := p) (by omega) rfl hj hz
    exact tz_zret (pc := 35) (z := z_32) dX3_fitsPart_35 rfl (by omega) (Nat.le_of_ble_eq_true rfl) (Nat.le_of_ble_eq_true rfl) ⟨Nat.le_refl _, Nat.le_add_right _ _⟩ ⟨_, rfl, (by omega), ⟨mv, by rw [← hj]; exact zOf_tk, by rw [← hj]; exact hg.tk ht⟩⟩
  · rw [show (if J 7 p < 0 then 1 else 0 : Int) = 0 from if_neg hw_16]
    refine tz_if_eqT (pc := 16) (tgt := 36) (by decide) dX3_fitsPart_16 (by decide) (by decide) ?_
    refine tz_aload_n (pc := 36) dX3_fitsPart_36 rfl rfl ?_
    refine tz_fR (pc := 37) dX3_fitsPart_37 fl_X3_15 r_139_0 ?_
    refine tz_fR (pc := 40) dX3_fitsPart_40 fl_X3_35 r_6_1 ?_
    refine tz_iload_n (pc := 43) dX3_fitsPart_43 rfl rfl ?_
    refine tz_aL (pc := 44) (z := p) (v := (J 7 p)) dX3_fitsPart_44 a_7 rfl (by omega) rfl (fun r_44 => ?_)
    refine tz_aload_n (pc := 45) dX3_fitsPart_45 rfl rfl ?_
    refine tz_fR (pc := 46) dX3_fitsPart_46 fl_X3_15 r_139_0 ?_
    refine tz_fR (pc := 49) dX3_fitsPart_49 fl_X3_35 r_6_1 ?_
    refine tz_iload_n (pc := 52) dX3_fitsPart_52 rfl rfl ?_
    refine tz_aL (pc := 53) (z := t) (v := (J 7 t)) dX3_fitsPart_53 a_7 rfl (by omega) rfl (fun r_53 => ?_)
    refine tz_icmp_eq (pc := 54) (tgt := 59) dX3_fitsPart_54 (by decide) (by omega) (by omega) (fun h_54 => ?_) (fun h_54 => ?_)
    · refine tz_iconst (pc := 59) dX3_fitsPart_59 ?_
      refine tz_istore (pc := 60) (L2 := [_, _, _, _, _]) dX3_fitsPart_60 (by decide) rfl ?_
      have loop62 : ∀ (f9 : Nat) (i : Int) (J1 : zJ), ((3 - i).toNat) < f9 → (0 ≤ i ∧ i ≤ J 8 p) → (zOf (zbut [140]) J1 J) → (gOK (J1 140) m) → (cmF J 1 p t i = (true, J1 140)) → tz_At l G M_X3_fitsPart (tb_rm 2 0 0) none (tb_ZM G 0 0 (zQ n 0 (zqi (fun z J' => MAN (cmt J 2 (J 140) p t) z J' ∧ zOf (zbut [140]) J' J ∧ gOK (J' 140) m))) (zX n 0 zN)) 0 0 n J1 62 [some (.ref 139), some (zi p), some (zi t), some (zi 5), some (zi i)] [] := by
        intro f9
        induction f9 with
        | zero => intro i J1 hm9; exact absurd hm9 (Nat.not_lt_zero _)
        | succ f9 ih62 =>
          intro i J1 hm62 hi fr h1 x1
          have he := C.arh hp ht (by omega)
          have e9 := fr 9 rfl
          refine tz_iload (pc := 62) dX3_fitsPart_62 rfl ?_
          refine tz_aload_n (pc := 64) dX3_fitsPart_64 rfl rfl ?_
          refine tz_fR (pc := 65) dX3_fitsPart_65 fl_X3_15 r_139_0 ?_
          refine tz_fR (pc := 68) dX3_fitsPart_68 fl_X3_42 r_6_2 ?_
          refine tz_iload_n (pc := 71) dX3_fitsPart_71 rfl rfl ?_
          refine tz_aL (pc := 72) (z := p) (v := (J 8 p)) dX3_fitsPart_72 a_8 rfl (by omega) (Eq.trans (congrFun (fr 8 rfl) p) rfl) (fun r_72 => ?_)
          refine tz_icmp_ge (pc := 73) (tgt := 114) dX3_fitsPart_73 (by decide) (by omega) (by omega) (fun h_73 => ?_) (fun h_73 => ?_)
          · refine tz_iconst (pc := 114) dX3_fitsPart_114 ?_
            exact tz_zret (pc := 115) (z := 1) dX3_fitsPart_115 rfl (Or.inr rfl) (Nat.le_of_ble_eq_true rfl) (Nat.le_of_ble_eq_true rfl) ⟨Nat.le_refl _, Nat.le_add_right _ _⟩ ⟨_, rfl, (by decide), ⟨MAN.e (by omega) (by omega) (by omega) x1, fr, h1⟩⟩
          · refine tz_aload_n (pc := 76) dX3_fitsPart_76 rfl rfl ?_
            refine tz_aload_n (pc := 77) dX3_fitsPart_77 rfl rfl ?_
            refine tz_fR (pc := 78) dX3_fitsPart_78 fl_X3_15 r_139_0 ?_
            refine tz_iload_n (pc := 81) dX3_fitsPart_81 rfl rfl ?_
            refine tz_iload (pc := 82) dX3_fitsPart_82 rfl ?_
            refine tz_cV (pc := 84) (c_arg hl n _ _ _ (by omega) (by omega) (by omega)) vl_X3_45 dX3_fitsPart_84 o_6 rfl rfl (Nat.le_of_ble_eq_true rfl) ⟨(Nat.le_of_ble_eq_true rfl), (Nat.le_of_ble_eq_true rfl)⟩ rfl rfl (Nat.le_of_ble_eq_true rfl) (Nat.le_of_ble_eq_true rfl) (fun r9 J_84 hq9 => ?_)
            obtain ⟨z_84, rfl, hz_84, rfl, rfl⟩ := hq9
            refine tz_aload_n (pc := 87) dX3_fitsPart_87 rfl rfl ?_
            refine tz_fR (pc := 88) dX3_fitsPart_88 fl_X3_15 r_139_0 ?_
            refine tz_iload_n (pc := 91) dX3_fitsPart_91 rfl rfl ?_
            refine tz_iload (pc := 92) dX3_fitsPart_92 rfl ?_
            refine tz_cV (pc := 94) (c_arg hl n _ _ _ (by omega) (by omega) (by omega)) vl_X3_45 dX3_fitsPart_94 o_6 rfl rfl (Nat.le_of_ble_eq_true rfl) ⟨(Nat.le_of_ble_eq_true rfl), (Nat.le_of_ble_eq_true rfl)⟩ rfl rfl (Nat.le_of_ble_eq_true rfl) (Nat.le_of_ble_eq_true rfl) (fun r9 J_94 hq9 => ?_)
            obtain ⟨z_94, rfl, hz_94, rfl, rfl⟩ := hq9
            refine tz_iload_n (pc := 97) dX3_fitsPart_97 rfl rfl ?_
            refine tz_iconst (pc := 98) dX3_fitsPart_98 ?_
            refine tz_iadd (pc := 99) (v := 6) dX3_fitsPart_99 (by decide) ?_
            have g1 := (C.arg (t := p) (i := i) (by omega) (by omega) (by omega) (by omega)).1
            have g2 := (C.arg (t := t) (i := i) (by omega) (by omega) (by omega) (by omega)).1
            rw [← e9] at g1 g2
            refine tz_cV (pc := 100) (x_fits6 hl n _ _ _ (by omega) (by omega) m (C.of (fun c hc => fr c (by simp [zbut]; omega))) (by omega) (by omega) h1) vl_X3_25 dX3_fitsPart_100 o_139 rfl rfl (Nat.le_of_ble_eq_true rfl) ⟨(Nat.le_of_ble_eq_true rfl), (Nat.le_of_ble_eq_true rfl)⟩ rfl rfl (Nat.le_of_ble_eq_true rfl) (Nat.le_of_ble_eq_true rfl) (fun r9 J_100 hq9 => ?_)
            obtain ⟨z_100, rfl, hz_100, a9, f2, h2⟩ := hq9
            have a2 : MAN (cmt J 1 (J1 140) (cag J p i) (cag J t i)) z_100 J_100 := by
              have q9 := a9
              rw [cmt_of fr, show J1 9 = J 9 from e9] at q9
              exact q9
            have zz : z_100 = 0 ∨ z_100 = 1 := a2.1.elim (fun q => Or.inr q.2) (fun q => Or.inl q.2)
            refine tz_if_ne (pc := 103) (tgt := 108) dX3_fitsPart_103 (by decide) (by omega) (fun h_103 => ?_) (fun h_103 => ?_)
            · refine tz_iinc (pc := 108) (z := i + 1) (L2 := [_, _, _, _, _]) dX3_fitsPart_108 rfl (by omega) rfl ?_
              refine tz_goto (pc := 111) (tgt := 62) dX3_fitsPart_111 (by decide) ?_
              exact ih62 (i + 1) _ (by omega) (by omega) (f2.tr fr) h2 (cmF_n (by omega) x1 a2 (by omega))
            · refine tz_iconst (pc := 106) dX3_fitsPart_106 ?_
              exact tz_zret (pc := 107) (z := 0) dX3_fitsPart_107 rfl (Or.inl rfl) (Nat.le_of_ble_eq_true rfl) (Nat.le_of_ble_eq_true rfl) ⟨Nat.le_refl _, Nat.le_add_right _ _⟩ ⟨_, rfl, (by decide), ⟨MAN.f (by omega) (by omega) (by omega) x1 a2 (by omega), f2.tr fr, h2⟩⟩
      exact loop62 _ 0 _ (Nat.lt_succ_self _) (by omega) zOf.rf hg cmF_0
    · refine tz_iconst (pc := 57) dX3_fitsPart_57 ?_
      exact tz_zret (pc := 58) (z := 0) dX3_fitsPart_58 rfl (Or.inl rfl) (Nat.le_of_ble_eq_true rfl) (Nat.le_of_ble_eq_true rfl) ⟨Nat.le_refl _, Nat.le_add_right _ _⟩ ⟨_, rfl, (by decide), ⟨MAN.n (by omega) (by omega), zOf.rf, hg⟩⟩

set_option maxHeartbeats 4000000 in
set_option maxRecDepth 100000 in
theorem x_fits4 {l : Launch} {G : tb_G} (hl : l.stackTraces = false) (n : Nat) (J : zJ) (p : Int) (t : Int) (hr_p : -2147483648 ≤ p ∧ p < 2147483648) (hr_t : -2147483648 ≤ t ∧ t < 2147483648) (m : Int) (C : CT J m) (hp : 0 ≤ p ∧ p < m) (ht : 0 ≤ t ∧ t < m) (hg : gOK (J 140) m) : tz_Ok l G M_X3_fitsPart 3 0 0 [.ref 139, zi p, zi t, zi 4] n J (zqi (fun z J' => MAN (cmt J 3 (J 140) p t) z J' ∧ zOf (zbut [140]) J' J ∧ gOK (J' 140) m)) zN := by
  refine tz_Ok.of hl (by decide +kernel) rfl (tb_c1 rfl) (Nat.le_of_ble_eq_true rfl) ?_
  show tz_At l G M_X3_fitsPart (tb_rm 3 0 0) none (tb_ZM G 0 0 (zQ n 0 (zqi (fun z J' => MAN (cmt J 3 (J 140) p t) z J' ∧ zOf (zbut [140]) J' J ∧ gOK (J' 140) m))) (zX n 0 zN)) 0 0 n J 0 [some (.ref 139), some (zi p), some (zi t), some (zi 4), none] []
  have hm := C.told
  have ha := C.ar hp.1 hp.2
  refine tz_iload_n (pc := 0) dX3_fitsPart_0 rfl rfl ?_
  refine tz_bipush (pc := 1) dX3_fitsPart_1 (by decide) ?_
  refine tz_icmp_leT (pc := 3) (tgt := 8) (by decide) dX3_fitsPart_3 (by decide) (by decide) (by decide) ?_
  refine tz_aload_n (pc := 8) dX3_fitsPart_8 rfl rfl ?_
  refine tz_fR (pc := 9) dX3_fitsPart_9 fl_X3_15 r_139_0 ?_
  refine tz_iload_n (pc := 12) dX3_fitsPart_12 rfl rfl ?_
  refine tz_cV (pc := 13) (c_isVar hl n _ _ (by omega) (by omega)) vl_X3_29 dX3_fitsPart_13 o_6 rfl rfl (Nat.le_of_ble_eq_true rfl) ⟨(Nat.le_of_ble_eq_true rfl), (Nat.le_of_ble_eq_true rfl)⟩ rfl rfl (Nat.le_of_ble_eq_true rfl) (Nat.le_of_ble_eq_true rfl) (fun r9 J_13 hq9 => ?_)
  obtain ⟨z_13, rfl, hz_13, rfl, rfl⟩ := hq9
  by_cases hw_16 : J 7 p < 0
  · rw [show (if J 7 p < 0 then 1 else 0 : Int) = 1 from if_pos hw_16]
    refine tz_if_eqF (pc := 16) (tgt := 36) (by decide) dX3_fitsPart_16 (by decide) (by decide) ?_
    refine tz_aload_n (pc := 19) dX3_fitsPart_19 rfl rfl ?_
    refine tz_aload_n (pc := 20) dX3_fitsPart_20 rfl rfl ?_
    refine tz_fR (pc := 21) dX3_fitsPart_21 fl_X3_15 r_139_0 ?_
    refine tz_fR (pc := 24) dX3_fitsPart_24 fl_X3_35 r_6_1 ?_
    refine tz_iload_n (pc := 27) dX3_fitsPart_27 rfl rfl ?_
    refine tz_aL (pc := 28) (z := p) (v := (J 7 p)) dX3_fitsPart_28 a_7 rfl (by omega) rfl (fun r_28 => ?_)
    refine tz_iconst (pc := 29) dX3_fitsPart_29 ?_
    refine tz_ixor (pc := 30) (v := -1 - J 7 p) dX3_fitsPart_30 (z_nn (by omega)) ?_
    refine tz_iload_n (pc := 31) dX3_fitsPart_31 rfl rfl ?_
    refine tz_cV (pc := 32) (c_takes hl n _ _ _ (by omega) (by omega) (by omega)) vl_X3_38 dX3_fitsPart_32 o_139 rfl rfl (Nat.le_of_ble_eq_true rfl) ⟨(Nat.le_of_ble_eq_true rfl), (Nat.le_of_ble_eq_true rfl)⟩ rfl rfl (Nat.le_of_ble_eq_true rfl) (Nat.le_of_ble_eq_true rfl) (fun r9 J_32 hq9 => ?_)
    obtain ⟨z_32, rfl, hz_32, hj, hz⟩ := hq9
    have mv := MAN.v (k := 2) (p := p) (by omega) rfl hj hz
    exact tz_zret (pc := 35) (z := z_32) dX3_fitsPart_35 rfl (by omega) (Nat.le_of_ble_eq_true rfl) (Nat.le_of_ble_eq_true rfl) ⟨Nat.le_refl _, Nat.le_add_right _ _⟩ ⟨_, rfl, (by omega), ⟨mv, by rw [← hj]; exact zOf_tk, by rw [← hj]; exact hg.tk ht⟩⟩
  · rw [show (if J 7 p < 0 then 1 else 0 : Int) = 0 from if_neg hw_16]
    refine tz_if_eqT (pc := 16) (tgt := 36) (by decide) dX3_fitsPart_16 (by decide) (by decide) ?_
    refine tz_aload_n (pc := 36) dX3_fitsPart_36 rfl rfl ?_
    refine tz_fR (pc := 37) dX3_fitsPart_37 fl_X3_15 r_139_0 ?_
    refine tz_fR (pc := 40) dX3_fitsPart_40 fl_X3_35 r_6_1 ?_
    refine tz_iload_n (pc := 43) dX3_fitsPart_43 rfl rfl ?_
    refine tz_aL (pc := 44) (z := p) (v := (J 7 p)) dX3_fitsPart_44 a_7 rfl (by omega) rfl (fun r_44 => ?_)
    refine tz_aload_n (pc := 45) dX3_fitsPart_45 rfl rfl ?_
    refine tz_fR (pc := 46) dX3_fitsPart_46 fl_X3_15 r_139_0 ?_
    refine tz_fR (pc := 49) dX3_fitsPart_49 fl_X3_35 r_6_1 ?_
    refine tz_iload_n (pc := 52) dX3_fitsPart_52 rfl rfl ?_
    refine tz_aL (pc := 53) (z := t) (v := (J 7 t)) dX3_fitsPart_53 a_7 rfl (by omega) rfl (fun r_53 => ?_)
    refine tz_icmp_eq (pc := 54) (tgt := 59) dX3_fitsPart_54 (by decide) (by omega) (by omega) (fun h_54 => ?_) (fun h_54 => ?_)
    · refine tz_iconst (pc := 59) dX3_fitsPart_59 ?_
      refine tz_istore (pc := 60) (L2 := [_, _, _, _, _]) dX3_fitsPart_60 (by decide) rfl ?_
      have loop62 : ∀ (f9 : Nat) (i : Int) (J1 : zJ), ((3 - i).toNat) < f9 → (0 ≤ i ∧ i ≤ J 8 p) → (zOf (zbut [140]) J1 J) → (gOK (J1 140) m) → (cmF J 2 p t i = (true, J1 140)) → tz_At l G M_X3_fitsPart (tb_rm 3 0 0) none (tb_ZM G 0 0 (zQ n 0 (zqi (fun z J' => MAN (cmt J 3 (J 140) p t) z J' ∧ zOf (zbut [140]) J' J ∧ gOK (J' 140) m))) (zX n 0 zN)) 0 0 n J1 62 [some (.ref 139), some (zi p), some (zi t), some (zi 4), some (zi i)] [] := by
        intro f9
        induction f9 with
        | zero => intro i J1 hm9; exact absurd hm9 (Nat.not_lt_zero _)
        | succ f9 ih62 =>
          intro i J1 hm62 hi fr h1 x1
          have he := C.arh hp ht (by omega)
          have e9 := fr 9 rfl
          refine tz_iload (pc := 62) dX3_fitsPart_62 rfl ?_
          refine tz_aload_n (pc := 64) dX3_fitsPart_64 rfl rfl ?_
          refine tz_fR (pc := 65) dX3_fitsPart_65 fl_X3_15 r_139_0 ?_
          refine tz_fR (pc := 68) dX3_fitsPart_68 fl_X3_42 r_6_2 ?_
          refine tz_iload_n (pc := 71) dX3_fitsPart_71 rfl rfl ?_
          refine tz_aL (pc := 72) (z := p) (v := (J 8 p)) dX3_fitsPart_72 a_8 rfl (by omega) (Eq.trans (congrFun (fr 8 rfl) p) rfl) (fun r_72 => ?_)
          refine tz_icmp_ge (pc := 73) (tgt := 114) dX3_fitsPart_73 (by decide) (by omega) (by omega) (fun h_73 => ?_) (fun h_73 => ?_)
          · refine tz_iconst (pc := 114) dX3_fitsPart_114 ?_
            exact tz_zret (pc := 115) (z := 1) dX3_fitsPart_115 rfl (Or.inr rfl) (Nat.le_of_ble_eq_true rfl) (Nat.le_of_ble_eq_true rfl) ⟨Nat.le_refl _, Nat.le_add_right _ _⟩ ⟨_, rfl, (by decide), ⟨MAN.e (by omega) (by omega) (by omega) x1, fr, h1⟩⟩
          · refine tz_aload_n (pc := 76) dX3_fitsPart_76 rfl rfl ?_
            refine tz_aload_n (pc := 77) dX3_fitsPart_77 rfl rfl ?_
            refine tz_fR (pc := 78) dX3_fitsPart_78 fl_X3_15 r_139_0 ?_
            refine tz_iload_n (pc := 81) dX3_fitsPart_81 rfl rfl ?_
            refine tz_iload (pc := 82) dX3_fitsPart_82 rfl ?_
            refine tz_cV (pc := 84) (c_arg hl n _ _ _ (by omega) (by omega) (by omega)) vl_X3_45 dX3_fitsPart_84 o_6 rfl rfl (Nat.le_of_ble_eq_true rfl) ⟨(Nat.le_of_ble_eq_true rfl), (Nat.le_of_ble_eq_true rfl)⟩ rfl rfl (Nat.le_of_ble_eq_true rfl) (Nat.le_of_ble_eq_true rfl) (fun r9 J_84 hq9 => ?_)
            obtain ⟨z_84, rfl, hz_84, rfl, rfl⟩ := hq9
            refine tz_aload_n (pc := 87) dX3_fitsPart_87 rfl rfl ?_
            refine tz_fR (pc := 88) dX3_fitsPart_88 fl_X3_15 r_139_0 ?_
            refine tz_iload_n (pc := 91) dX3_fitsPart_91 rfl rfl ?_
            refine tz_iload (pc := 92) dX3_fitsPart_92 rfl ?_
            refine tz_cV (pc := 94) (c_arg hl n _ _ _ (by omega) (by omega) (by omega)) vl_X3_45 dX3_fitsPart_94 o_6 rfl rfl (Nat.le_of_ble_eq_true rfl) ⟨(Nat.le_of_ble_eq_true rfl), (Nat.le_of_ble_eq_true rfl)⟩ rfl rfl (Nat.le_of_ble_eq_true rfl) (Nat.le_of_ble_eq_true rfl) (fun r9 J_94 hq9 => ?_)
            obtain ⟨z_94, rfl, hz_94, rfl, rfl⟩ := hq9
            refine tz_iload_n (pc := 97) dX3_fitsPart_97 rfl rfl ?_
            refine tz_iconst (pc := 98) dX3_fitsPart_98 ?_
            refine tz_iadd (pc := 99) (v := 5) dX3_fitsPart_99 (by decide) ?_
            have g1 := (C.arg (t := p) (i := i) (by omega) (by omega) (by omega) (by omega)).1
            have g2 := (C.arg (t := t) (i := i) (by omega) (by omega) (by omega) (by omega)).1
            rw [← e9] at g1 g2
            refine tz_cV (pc := 100) (x_fits5 hl n _ _ _ (by omega) (by omega) m (C.of (fun c hc => fr c (by simp [zbut]; omega))) (by omega) (by omega) h1) vl_X3_25 dX3_fitsPart_100 o_139 rfl rfl (Nat.le_of_ble_eq_true rfl) ⟨(Nat.le_of_ble_eq_true rfl), (Nat.le_of_ble_eq_true rfl)⟩ rfl rfl (Nat.le_of_ble_eq_true rfl) (Nat.le_of_ble_eq_true rfl) (fun r9 J_100 hq9 => ?_)
            obtain ⟨z_100, rfl, hz_100, a9, f2, h2⟩ := hq9
            have a2 : MAN (cmt J 2 (J1 140) (cag J p i) (cag J t i)) z_100 J_100 := by
              have q9 := a9
              rw [cmt_of fr, show J1 9 = J 9 from e9] at q9
              exact q9
            have zz : z_100 = 0 ∨ z_100 = 1 := a2.1.elim (fun q => Or.inr q.2) (fun q => Or.inl q.2)
            refine tz_if_ne (pc := 103) (tgt := 108) dX3_fitsPart_103 (by decide) (by omega) (fun h_103 => ?_) (fun h_103 => ?_)
            · refine tz_iinc (pc := 108) (z := i + 1) (L2 := [_, _, _, _, _]) dX3_fitsPart_108 rfl (by omega) rfl ?_
              refine tz_goto (pc := 111) (tgt := 62) dX3_fitsPart_111 (by decide) ?_
              exact ih62 (i + 1) _ (by omega) (by omega) (f2.tr fr) h2 (cmF_n (by omega) x1 a2 (by omega))
            · refine tz_iconst (pc := 106) dX3_fitsPart_106 ?_
              exact tz_zret (pc := 107) (z := 0) dX3_fitsPart_107 rfl (Or.inl rfl) (Nat.le_of_ble_eq_true rfl) (Nat.le_of_ble_eq_true rfl) ⟨Nat.le_refl _, Nat.le_add_right _ _⟩ ⟨_, rfl, (by decide), ⟨MAN.f (by omega) (by omega) (by omega) x1 a2 (by omega), f2.tr fr, h2⟩⟩
      exact loop62 _ 0 _ (Nat.lt_succ_self _) (by omega) zOf.rf hg cmF_0
    · refine tz_iconst (pc := 57) dX3_fitsPart_57 ?_
      exact tz_zret (pc := 58) (z := 0) dX3_fitsPart_58 rfl (Or.inl rfl) (Nat.le_of_ble_eq_true rfl) (Nat.le_of_ble_eq_true rfl) ⟨Nat.le_refl _, Nat.le_add_right _ _⟩ ⟨_, rfl, (by decide), ⟨MAN.n (by omega) (by omega), zOf.rf, hg⟩⟩

set_option maxHeartbeats 4000000 in
set_option maxRecDepth 100000 in
theorem x_fits3 {l : Launch} {G : tb_G} (hl : l.stackTraces = false) (n : Nat) (J : zJ) (p : Int) (t : Int) (hr_p : -2147483648 ≤ p ∧ p < 2147483648) (hr_t : -2147483648 ≤ t ∧ t < 2147483648) (m : Int) (C : CT J m) (hp : 0 ≤ p ∧ p < m) (ht : 0 ≤ t ∧ t < m) (hg : gOK (J 140) m) : tz_Ok l G M_X3_fitsPart 4 0 0 [.ref 139, zi p, zi t, zi 3] n J (zqi (fun z J' => MAN (cmt J 4 (J 140) p t) z J' ∧ zOf (zbut [140]) J' J ∧ gOK (J' 140) m)) zN := by
  refine tz_Ok.of hl (by decide +kernel) rfl (tb_c1 rfl) (Nat.le_of_ble_eq_true rfl) ?_
  show tz_At l G M_X3_fitsPart (tb_rm 4 0 0) none (tb_ZM G 0 0 (zQ n 0 (zqi (fun z J' => MAN (cmt J 4 (J 140) p t) z J' ∧ zOf (zbut [140]) J' J ∧ gOK (J' 140) m))) (zX n 0 zN)) 0 0 n J 0 [some (.ref 139), some (zi p), some (zi t), some (zi 3), none] []
  have hm := C.told
  have ha := C.ar hp.1 hp.2
  refine tz_iload_n (pc := 0) dX3_fitsPart_0 rfl rfl ?_
  refine tz_bipush (pc := 1) dX3_fitsPart_1 (by decide) ?_
  refine tz_icmp_leT (pc := 3) (tgt := 8) (by decide) dX3_fitsPart_3 (by decide) (by decide) (by decide) ?_
  refine tz_aload_n (pc := 8) dX3_fitsPart_8 rfl rfl ?_
  refine tz_fR (pc := 9) dX3_fitsPart_9 fl_X3_15 r_139_0 ?_
  refine tz_iload_n (pc := 12) dX3_fitsPart_12 rfl rfl ?_
  refine tz_cV (pc := 13) (c_isVar hl n _ _ (by omega) (by omega)) vl_X3_29 dX3_fitsPart_13 o_6 rfl rfl (Nat.le_of_ble_eq_true rfl) ⟨(Nat.le_of_ble_eq_true rfl), (Nat.le_of_ble_eq_true rfl)⟩ rfl rfl (Nat.le_of_ble_eq_true rfl) (Nat.le_of_ble_eq_true rfl) (fun r9 J_13 hq9 => ?_)
  obtain ⟨z_13, rfl, hz_13, rfl, rfl⟩ := hq9
  by_cases hw_16 : J 7 p < 0
  · rw [show (if J 7 p < 0 then 1 else 0 : Int) = 1 from if_pos hw_16]
    refine tz_if_eqF (pc := 16) (tgt := 36) (by decide) dX3_fitsPart_16 (by decide) (by decide) ?_
    refine tz_aload_n (pc := 19) dX3_fitsPart_19 rfl rfl ?_
    refine tz_aload_n (pc := 20) dX3_fitsPart_20 rfl rfl ?_
    refine tz_fR (pc := 21) dX3_fitsPart_21 fl_X3_15 r_139_0 ?_
    refine tz_fR (pc := 24) dX3_fitsPart_24 fl_X3_35 r_6_1 ?_
    refine tz_iload_n (pc := 27) dX3_fitsPart_27 rfl rfl ?_
    refine tz_aL (pc := 28) (z := p) (v := (J 7 p)) dX3_fitsPart_28 a_7 rfl (by omega) rfl (fun r_28 => ?_)
    refine tz_iconst (pc := 29) dX3_fitsPart_29 ?_
    refine tz_ixor (pc := 30) (v := -1 - J 7 p) dX3_fitsPart_30 (z_nn (by omega)) ?_
    refine tz_iload_n (pc := 31) dX3_fitsPart_31 rfl rfl ?_
    refine tz_cV (pc := 32) (c_takes hl n _ _ _ (by omega) (by omega) (by omega)) vl_X3_38 dX3_fitsPart_32 o_139 rfl rfl (Nat.le_of_ble_eq_true rfl) ⟨(Nat.le_of_ble_eq_true rfl), (Nat.le_of_ble_eq_true rfl)⟩ rfl rfl (Nat.le_of_ble_eq_true rfl) (Nat.le_of_ble_eq_true rfl) (fun r9 J_32 hq9 => ?_)
    obtain ⟨z_32, rfl, hz_32, hj, hz⟩ := hq9
    have mv := MAN.v (k := 3) (p := p) (by omega) rfl hj hz
    exact tz_zret (pc := 35) (z := z_32) dX3_fitsPart_35 rfl (by omega) (Nat.le_of_ble_eq_true rfl) (Nat.le_of_ble_eq_true rfl) ⟨Nat.le_refl _, Nat.le_add_right _ _⟩ ⟨_, rfl, (by omega), ⟨mv, by rw [← hj]; exact zOf_tk, by rw [← hj]; exact hg.tk ht⟩⟩
  · rw [show (if J 7 p < 0 then 1 else 0 : Int) = 0 from if_neg hw_16]
    refine tz_if_eqT (pc := 16) (tgt := 36) (by decide) dX3_fitsPart_16 (by decide) (by decide) ?_
    refine tz_aload_n (pc := 36) dX3_fitsPart_36 rfl rfl ?_
    refine tz_fR (pc := 37) dX3_fitsPart_37 fl_X3_15 r_139_0 ?_
    refine tz_fR (pc := 40) dX3_fitsPart_40 fl_X3_35 r_6_1 ?_
    refine tz_iload_n (pc := 43) dX3_fitsPart_43 rfl rfl ?_
    refine tz_aL (pc := 44) (z := p) (v := (J 7 p)) dX3_fitsPart_44 a_7 rfl (by omega) rfl (fun r_44 => ?_)
    refine tz_aload_n (pc := 45) dX3_fitsPart_45 rfl rfl ?_
    refine tz_fR (pc := 46) dX3_fitsPart_46 fl_X3_15 r_139_0 ?_
    refine tz_fR (pc := 49) dX3_fitsPart_49 fl_X3_35 r_6_1 ?_
    refine tz_iload_n (pc := 52) dX3_fitsPart_52 rfl rfl ?_
    refine tz_aL (pc := 53) (z := t) (v := (J 7 t)) dX3_fitsPart_53 a_7 rfl (by omega) rfl (fun r_53 => ?_)
    refine tz_icmp_eq (pc := 54) (tgt := 59) dX3_fitsPart_54 (by decide) (by omega) (by omega) (fun h_54 => ?_) (fun h_54 => ?_)
    · refine tz_iconst (pc := 59) dX3_fitsPart_59 ?_
      refine tz_istore (pc := 60) (L2 := [_, _, _, _, _]) dX3_fitsPart_60 (by decide) rfl ?_
      have loop62 : ∀ (f9 : Nat) (i : Int) (J1 : zJ), ((3 - i).toNat) < f9 → (0 ≤ i ∧ i ≤ J 8 p) → (zOf (zbut [140]) J1 J) → (gOK (J1 140) m) → (cmF J 3 p t i = (true, J1 140)) → tz_At l G M_X3_fitsPart (tb_rm 4 0 0) none (tb_ZM G 0 0 (zQ n 0 (zqi (fun z J' => MAN (cmt J 4 (J 140) p t) z J' ∧ zOf (zbut [140]) J' J ∧ gOK (J' 140) m))) (zX n 0 zN)) 0 0 n J1 62 [some (.ref 139), some (zi p), some (zi t), some (zi 3), some (zi i)] [] := by
        intro f9
        induction f9 with
        | zero => intro i J1 hm9; exact absurd hm9 (Nat.not_lt_zero _)
        | succ f9 ih62 =>
          intro i J1 hm62 hi fr h1 x1
          have he := C.arh hp ht (by omega)
          have e9 := fr 9 rfl
          refine tz_iload (pc := 62) dX3_fitsPart_62 rfl ?_
          refine tz_aload_n (pc := 64) dX3_fitsPart_64 rfl rfl ?_
          refine tz_fR (pc := 65) dX3_fitsPart_65 fl_X3_15 r_139_0 ?_
          refine tz_fR (pc := 68) dX3_fitsPart_68 fl_X3_42 r_6_2 ?_
          refine tz_iload_n (pc := 71) dX3_fitsPart_71 rfl rfl ?_
          refine tz_aL (pc := 72) (z := p) (v := (J 8 p)) dX3_fitsPart_72 a_8 rfl (by omega) (Eq.trans (congrFun (fr 8 rfl) p) rfl) (fun r_72 => ?_)
          refine tz_icmp_ge (pc := 73) (tgt := 114) dX3_fitsPart_73 (by decide) (by omega) (by omega) (fun h_73 => ?_) (fun h_73 => ?_)
          · refine tz_iconst (pc := 114) dX3_fitsPart_114 ?_
            exact tz_zret (pc := 115) (z := 1) dX3_fitsPart_115 rfl (Or.inr rfl) (Nat.le_of_ble_eq_true rfl) (Nat.le_of_ble_eq_true rfl) ⟨Nat.le_refl _, Nat.le_add_right _ _⟩ ⟨_, rfl, (by decide), ⟨MAN.e (by omega) (by omega) (by omega) x1, fr, h1⟩⟩
          · refine tz_aload_n (pc := 76) dX3_fitsPart_76 rfl rfl ?_
            refine tz_aload_n (pc := 77) dX3_fitsPart_77 rfl rfl ?_
            refine tz_fR (pc := 78) dX3_fitsPart_78 fl_X3_15 r_139_0 ?_
            refine tz_iload_n (pc := 81) dX3_fitsPart_81 rfl rfl ?_
            refine tz_iload (pc := 82) dX3_fitsPart_82 rfl ?_
            refine tz_cV (pc := 84) (c_arg hl n _ _ _ (by omega) (by omega) (by omega)) vl_X3_45 dX3_fitsPart_84 o_6 rfl rfl (Nat.le_of_ble_eq_true rfl) ⟨(Nat.le_of_ble_eq_true rfl), (Nat.le_of_ble_eq_true rfl)⟩ rfl rfl (Nat.le_of_ble_eq_true rfl) (Nat.le_of_ble_eq_true rfl) (fun r9 J_84 hq9 => ?_)
            obtain ⟨z_84, rfl, hz_84, rfl, rfl⟩ := hq9
            refine tz_aload_n (pc := 87) dX3_fitsPart_87 rfl rfl ?_
            refine tz_fR (pc := 88) dX3_fitsPart_88 fl_X3_15 r_139_0 ?_
            refine tz_iload_n (pc := 91) dX3_fitsPart_91 rfl rfl ?_
            refine tz_iload (pc := 92) dX3_fitsPart_92 rfl ?_
            refine tz_cV (pc := 94) (c_arg hl n _ _ _ (by omega) (by omega) (by omega)) vl_X3_45 dX3_fitsPart_94 o_6 rfl rfl (Nat.le_of_ble_eq_true rfl) ⟨(Nat.le_of_ble_eq_true rfl), (Nat.le_of_ble_eq_true rfl)⟩ rfl rfl (Nat.le_of_ble_eq_true rfl) (Nat.le_of_ble_eq_true rfl) (fun r9 J_94 hq9 => ?_)
            obtain ⟨z_94, rfl, hz_94, rfl, rfl⟩ := hq9
            refine tz_iload_n (pc := 97) dX3_fitsPart_97 rfl rfl ?_
            refine tz_iconst (pc := 98) dX3_fitsPart_98 ?_
            refine tz_iadd (pc := 99) (v := 4) dX3_fitsPart_99 (by decide) ?_
            have g1 := (C.arg (t := p) (i := i) (by omega) (by omega) (by omega) (by omega)).1
            have g2 := (C.arg (t := t) (i := i) (by omega) (by omega) (by omega) (by omega)).1
            rw [← e9] at g1 g2
            refine tz_cV (pc := 100) (x_fits4 hl n _ _ _ (by omega) (by omega) m (C.of (fun c hc => fr c (by simp [zbut]; omega))) (by omega) (by omega) h1) vl_X3_25 dX3_fitsPart_100 o_139 rfl rfl (Nat.le_of_ble_eq_true rfl) ⟨(Nat.le_of_ble_eq_true rfl), (Nat.le_of_ble_eq_true rfl)⟩ rfl rfl (Nat.le_of_ble_eq_true rfl) (Nat.le_of_ble_eq_true rfl) (fun r9 J_100 hq9 => ?_)
            obtain ⟨z_100, rfl, hz_100, a9, f2, h2⟩ := hq9
            have a2 : MAN (cmt J 3 (J1 140) (cag J p i) (cag J t i)) z_100 J_100 := by
              have q9 := a9
              rw [cmt_of fr, show J1 9 = J 9 from e9] at q9
              exact q9
            have zz : z_100 = 0 ∨ z_100 = 1 := a2.1.elim (fun q => Or.inr q.2) (fun q => Or.inl q.2)
            refine tz_if_ne (pc := 103) (tgt := 108) dX3_fitsPart_103 (by decide) (by omega) (fun h_103 => ?_) (fun h_103 => ?_)
            · refine tz_iinc (pc := 108) (z := i + 1) (L2 := [_, _, _, _, _]) dX3_fitsPart_108 rfl (by omega) rfl ?_
              refine tz_goto (pc := 111) (tgt := 62) dX3_fitsPart_111 (by decide) ?_
              exact ih62 (i + 1) _ (by omega) (by omega) (f2.tr fr) h2 (cmF_n (by omega) x1 a2 (by omega))
            · refine tz_iconst (pc := 106) dX3_fitsPart_106 ?_
              exact tz_zret (pc := 107) (z := 0) dX3_fitsPart_107 rfl (Or.inl rfl) (Nat.le_of_ble_eq_true rfl) (Nat.le_of_ble_eq_true rfl) ⟨Nat.le_refl _, Nat.le_add_right _ _⟩ ⟨_, rfl, (by decide), ⟨MAN.f (by omega) (by omega) (by omega) x1 a2 (by omega), f2.tr fr, h2⟩⟩
      exact loop62 _ 0 _ (Nat.lt_succ_self _) (by omega) zOf.rf hg cmF_0
    · refine tz_iconst (pc := 57) dX3_fitsPart_57 ?_
      exact tz_zret (pc := 58) (z := 0) dX3_fitsPart_58 rfl (Or.inl rfl) (Nat.le_of_ble_eq_true rfl) (Nat.le_of_ble_eq_true rfl) ⟨Nat.le_refl _, Nat.le_add_right _ _⟩ ⟨_, rfl, (by decide), ⟨MAN.n (by omega) (by omega), zOf.rf, hg⟩⟩

set_option maxHeartbeats 4000000 in
set_option maxRecDepth 100000 in
theorem x_fits2 {l : Launch} {G : tb_G} (hl : l.stackTraces = false) (n : Nat) (J : zJ) (p : Int) (t : Int) (hr_p : -2147483648 ≤ p ∧ p < 2147483648) (hr_t : -2147483648 ≤ t ∧ t < 2147483648) (m : Int) (C : CT J m) (hp : 0 ≤ p ∧ p < m) (ht : 0 ≤ t ∧ t < m) (hg : gOK (J 140) m) : tz_Ok l G M_X3_fitsPart 5 0 0 [.ref 139, zi p, zi t, zi 2] n J (zqi (fun z J' => MAN (cmt J 5 (J 140) p t) z J' ∧ zOf (zbut [140]) J' J ∧ gOK (J' 140) m)) zN := by
  refine tz_Ok.of hl (by decide +kernel) rfl (tb_c1 rfl) (Nat.le_of_ble_eq_true rfl) ?_
  show tz_At l G M_X3_fitsPart (tb_rm 5 0 0) none (tb_ZM G 0 0 (zQ n 0 (zqi (fun z J' => MAN (cmt J 5 (J 140) p t) z J' ∧ zOf (zbut [140]) J' J ∧ gOK (J' 140) m))) (zX n 0 zN)) 0 0 n J 0 [some (.ref 139), some (zi p), some (zi t), some (zi 2), none] []
  have hm := C.told
  have ha := C.ar hp.1 hp.2
  refine tz_iload_n (pc := 0) dX3_fitsPart_0 rfl rfl ?_
  refine tz_bipush (pc := 1) dX3_fitsPart_1 (by decide) ?_
  refine tz_icmp_leT (pc := 3) (tgt := 8) (by decide) dX3_fitsPart_3 (by decide) (by decide) (by decide) ?_
  refine tz_aload_n (pc := 8) dX3_fitsPart_8 rfl rfl ?_
  refine tz_fR (pc := 9) dX3_fitsPart_9 fl_X3_15 r_139_0 ?_
  refine tz_iload_n (pc := 12) dX3_fitsPart_12 rfl rfl ?_
  refine tz_cV (pc := 13) (c_isVar hl n _ _ (by omega) (by omega)) vl_X3_29 dX3_fitsPart_13 o_6 rfl rfl (Nat.le_of_ble_eq_true rfl) ⟨(Nat.le_of_ble_eq_true rfl), (Nat.le_of_ble_eq_true rfl)⟩ rfl rfl (Nat.le_of_ble_eq_true rfl) (Nat.le_of_ble_eq_true rfl) (fun r9 J_13 hq9 => ?_)
  obtain ⟨z_13, rfl, hz_13, rfl, rfl⟩ := hq9
  by_cases hw_16 : J 7 p < 0
  · rw [show (if J 7 p < 0 then 1 else 0 : Int) = 1 from if_pos hw_16]
    refine tz_if_eqF (pc := 16) (tgt := 36) (by decide) dX3_fitsPart_16 (by decide) (by decide) ?_
    refine tz_aload_n (pc := 19) dX3_fitsPart_19 rfl rfl ?_
    refine tz_aload_n (pc := 20) dX3_fitsPart_20 rfl rfl ?_
    refine tz_fR (pc := 21) dX3_fitsPart_21 fl_X3_15 r_139_0 ?_
    refine tz_fR (pc := 24) dX3_fitsPart_24 fl_X3_35 r_6_1 ?_
    refine tz_iload_n (pc := 27) dX3_fitsPart_27 rfl rfl ?_
    refine tz_aL (pc := 28) (z := p) (v := (J 7 p)) dX3_fitsPart_28 a_7 rfl (by omega) rfl (fun r_28 => ?_)
    refine tz_iconst (pc := 29) dX3_fitsPart_29 ?_
    refine tz_ixor (pc := 30) (v := -1 - J 7 p) dX3_fitsPart_30 (z_nn (by omega)) ?_
    refine tz_iload_n (pc := 31) dX3_fitsPart_31 rfl rfl ?_
    refine tz_cV (pc := 32) (c_takes hl n _ _ _ (by omega) (by omega) (by omega)) vl_X3_38 dX3_fitsPart_32 o_139 rfl rfl (Nat.le_of_ble_eq_true rfl) ⟨(Nat.le_of_ble_eq_true rfl), (Nat.le_of_ble_eq_true rfl)⟩ rfl rfl (Nat.le_of_ble_eq_true rfl) (Nat.le_of_ble_eq_true rfl) (fun r9 J_32 hq9 => ?_)
    obtain ⟨z_32, rfl, hz_32, hj, hz⟩ := hq9
    have mv := MAN.v (k := 4) (p := p) (by omega) rfl hj hz
    exact tz_zret (pc := 35) (z := z_32) dX3_fitsPart_35 rfl (by omega) (Nat.le_of_ble_eq_true rfl) (Nat.le_of_ble_eq_true rfl) ⟨Nat.le_refl _, Nat.le_add_right _ _⟩ ⟨_, rfl, (by omega), ⟨mv, by rw [← hj]; exact zOf_tk, by rw [← hj]; exact hg.tk ht⟩⟩
  · rw [show (if J 7 p < 0 then 1 else 0 : Int) = 0 from if_neg hw_16]
    refine tz_if_eqT (pc := 16) (tgt := 36) (by decide) dX3_fitsPart_16 (by decide) (by decide) ?_
    refine tz_aload_n (pc := 36) dX3_fitsPart_36 rfl rfl ?_
    refine tz_fR (pc := 37) dX3_fitsPart_37 fl_X3_15 r_139_0 ?_
    refine tz_fR (pc := 40) dX3_fitsPart_40 fl_X3_35 r_6_1 ?_
    refine tz_iload_n (pc := 43) dX3_fitsPart_43 rfl rfl ?_
    refine tz_aL (pc := 44) (z := p) (v := (J 7 p)) dX3_fitsPart_44 a_7 rfl (by omega) rfl (fun r_44 => ?_)
    refine tz_aload_n (pc := 45) dX3_fitsPart_45 rfl rfl ?_
    refine tz_fR (pc := 46) dX3_fitsPart_46 fl_X3_15 r_139_0 ?_
    refine tz_fR (pc := 49) dX3_fitsPart_49 fl_X3_35 r_6_1 ?_
    refine tz_iload_n (pc := 52) dX3_fitsPart_52 rfl rfl ?_
    refine tz_aL (pc := 53) (z := t) (v := (J 7 t)) dX3_fitsPart_53 a_7 rfl (by omega) rfl (fun r_53 => ?_)
    refine tz_icmp_eq (pc := 54) (tgt := 59) dX3_fitsPart_54 (by decide) (by omega) (by omega) (fun h_54 => ?_) (fun h_54 => ?_)
    · refine tz_iconst (pc := 59) dX3_fitsPart_59 ?_
      refine tz_istore (pc := 60) (L2 := [_, _, _, _, _]) dX3_fitsPart_60 (by decide) rfl ?_
      have loop62 : ∀ (f9 : Nat) (i : Int) (J1 : zJ), ((3 - i).toNat) < f9 → (0 ≤ i ∧ i ≤ J 8 p) → (zOf (zbut [140]) J1 J) → (gOK (J1 140) m) → (cmF J 4 p t i = (true, J1 140)) → tz_At l G M_X3_fitsPart (tb_rm 5 0 0) none (tb_ZM G 0 0 (zQ n 0 (zqi (fun z J' => MAN (cmt J 5 (J 140) p t) z J' ∧ zOf (zbut [140]) J' J ∧ gOK (J' 140) m))) (zX n 0 zN)) 0 0 n J1 62 [some (.ref 139), some (zi p), some (zi t), some (zi 2), some (zi i)] [] := by
        intro f9
        induction f9 with
        | zero => intro i J1 hm9; exact absurd hm9 (Nat.not_lt_zero _)
        | succ f9 ih62 =>
          intro i J1 hm62 hi fr h1 x1
          have he := C.arh hp ht (by omega)
          have e9 := fr 9 rfl
          refine tz_iload (pc := 62) dX3_fitsPart_62 rfl ?_
          refine tz_aload_n (pc := 64) dX3_fitsPart_64 rfl rfl ?_
          refine tz_fR (pc := 65) dX3_fitsPart_65 fl_X3_15 r_139_0 ?_
          refine tz_fR (pc := 68) dX3_fitsPart_68 fl_X3_42 r_6_2 ?_
          refine tz_iload_n (pc := 71) dX3_fitsPart_71 rfl rfl ?_
          refine tz_aL (pc := 72) (z := p) (v := (J 8 p)) dX3_fitsPart_72 a_8 rfl (by omega) (Eq.trans (congrFun (fr 8 rfl) p) rfl) (fun r_72 => ?_)
          refine tz_icmp_ge (pc := 73) (tgt := 114) dX3_fitsPart_73 (by decide) (by omega) (by omega) (fun h_73 => ?_) (fun h_73 => ?_)
          · refine tz_iconst (pc := 114) dX3_fitsPart_114 ?_
            exact tz_zret (pc := 115) (z := 1) dX3_fitsPart_115 rfl (Or.inr rfl) (Nat.le_of_ble_eq_true rfl) (Nat.le_of_ble_eq_true rfl) ⟨Nat.le_refl _, Nat.le_add_right _ _⟩ ⟨_, rfl, (by decide), ⟨MAN.e (by omega) (by omega) (by omega) x1, fr, h1⟩⟩
          · refine tz_aload_n (pc := 76) dX3_fitsPart_76 rfl rfl ?_
            refine tz_aload_n (pc := 77) dX3_fitsPart_77 rfl rfl ?_
            refine tz_fR (pc := 78) dX3_fitsPart_78 fl_X3_15 r_139_0 ?_
            refine tz_iload_n (pc := 81) dX3_fitsPart_81 rfl rfl ?_
            refine tz_iload (pc := 82) dX3_fitsPart_82 rfl ?_
            refine tz_cV (pc := 84) (c_arg hl n _ _ _ (by omega) (by omega) (by omega)) vl_X3_45 dX3_fitsPart_84 o_6 rfl rfl (Nat.le_of_ble_eq_true rfl) ⟨(Nat.le_of_ble_eq_true rfl), (Nat.le_of_ble_eq_true rfl)⟩ rfl rfl (Nat.le_of_ble_eq_true rfl) (Nat.le_of_ble_eq_true rfl) (fun r9 J_84 hq9 => ?_)
            obtain ⟨z_84, rfl, hz_84, rfl, rfl⟩ := hq9
            refine tz_aload_n (pc := 87) dX3_fitsPart_87 rfl rfl ?_
            refine tz_fR (pc := 88) dX3_fitsPart_88 fl_X3_15 r_139_0 ?_
            refine tz_iload_n (pc := 91) dX3_fitsPart_91 rfl rfl ?_
            refine tz_iload (pc := 92) dX3_fitsPart_92 rfl ?_
            refine tz_cV (pc := 94) (c_arg hl n _ _ _ (by omega) (by omega) (by omega)) vl_X3_45 dX3_fitsPart_94 o_6 rfl rfl (Nat.le_of_ble_eq_true rfl) ⟨(Nat.le_of_ble_eq_true rfl), (Nat.le_of_ble_eq_true rfl)⟩ rfl rfl (Nat.le_of_ble_eq_true rfl) (Nat.le_of_ble_eq_true rfl) (fun r9 J_94 hq9 => ?_)
            obtain ⟨z_94, rfl, hz_94, rfl, rfl⟩ := hq9
            refine tz_iload_n (pc := 97) dX3_fitsPart_97 rfl rfl ?_
            refine tz_iconst (pc := 98) dX3_fitsPart_98 ?_
            refine tz_iadd (pc := 99) (v := 3) dX3_fitsPart_99 (by decide) ?_
            have g1 := (C.arg (t := p) (i := i) (by omega) (by omega) (by omega) (by omega)).1
            have g2 := (C.arg (t := t) (i := i) (by omega) (by omega) (by omega) (by omega)).1
            rw [← e9] at g1 g2
            refine tz_cV (pc := 100) (x_fits3 hl n _ _ _ (by omega) (by omega) m (C.of (fun c hc => fr c (by simp [zbut]; omega))) (by omega) (by omega) h1) vl_X3_25 dX3_fitsPart_100 o_139 rfl rfl (Nat.le_of_ble_eq_true rfl) ⟨(Nat.le_of_ble_eq_true rfl), (Nat.le_of_ble_eq_true rfl)⟩ rfl rfl (Nat.le_of_ble_eq_true rfl) (Nat.le_of_ble_eq_true rfl) (fun r9 J_100 hq9 => ?_)
            obtain ⟨z_100, rfl, hz_100, a9, f2, h2⟩ := hq9
            have a2 : MAN (cmt J 4 (J1 140) (cag J p i) (cag J t i)) z_100 J_100 := by
              have q9 := a9
              rw [cmt_of fr, show J1 9 = J 9 from e9] at q9
              exact q9
            have zz : z_100 = 0 ∨ z_100 = 1 := a2.1.elim (fun q => Or.inr q.2) (fun q => Or.inl q.2)
            refine tz_if_ne (pc := 103) (tgt := 108) dX3_fitsPart_103 (by decide) (by omega) (fun h_103 => ?_) (fun h_103 => ?_)
            · refine tz_iinc (pc := 108) (z := i + 1) (L2 := [_, _, _, _, _]) dX3_fitsPart_108 rfl (by omega) rfl ?_
              refine tz_goto (pc := 111) (tgt := 62) dX3_fitsPart_111 (by decide) ?_
              exact ih62 (i + 1) _ (by omega) (by omega) (f2.tr fr) h2 (cmF_n (by omega) x1 a2 (by omega))
            · refine tz_iconst (pc := 106) dX3_fitsPart_106 ?_
              exact tz_zret (pc := 107) (z := 0) dX3_fitsPart_107 rfl (Or.inl rfl) (Nat.le_of_ble_eq_true rfl) (Nat.le_of_ble_eq_true rfl) ⟨Nat.le_refl _, Nat.le_add_right _ _⟩ ⟨_, rfl, (by decide), ⟨MAN.f (by omega) (by omega) (by omega) x1 a2 (by omega), f2.tr fr, h2⟩⟩
      exact loop62 _ 0 _ (Nat.lt_succ_self _) (by omega) zOf.rf hg cmF_0
    · refine tz_iconst (pc := 57) dX3_fitsPart_57 ?_
      exact tz_zret (pc := 58) (z := 0) dX3_fitsPart_58 rfl (Or.inl rfl) (Nat.le_of_ble_eq_true rfl) (Nat.le_of_ble_eq_true rfl) ⟨Nat.le_refl _, Nat.le_add_right _ _⟩ ⟨_, rfl, (by decide), ⟨MAN.n (by omega) (by omega), zOf.rf, hg⟩⟩

set_option maxHeartbeats 4000000 in
set_option maxRecDepth 100000 in
theorem x_fits1 {l : Launch} {G : tb_G} (hl : l.stackTraces = false) (n : Nat) (J : zJ) (p : Int) (t : Int) (hr_p : -2147483648 ≤ p ∧ p < 2147483648) (hr_t : -2147483648 ≤ t ∧ t < 2147483648) (m : Int) (C : CT J m) (hp : 0 ≤ p ∧ p < m) (ht : 0 ≤ t ∧ t < m) (hg : gOK (J 140) m) : tz_Ok l G M_X3_fitsPart 6 0 0 [.ref 139, zi p, zi t, zi 1] n J (zqi (fun z J' => MAN (cmt J 6 (J 140) p t) z J' ∧ zOf (zbut [140]) J' J ∧ gOK (J' 140) m)) zN := by
  refine tz_Ok.of hl (by decide +kernel) rfl (tb_c1 rfl) (Nat.le_of_ble_eq_true rfl) ?_
  show tz_At l G M_X3_fitsPart (tb_rm 6 0 0) none (tb_ZM G 0 0 (zQ n 0 (zqi (fun z J' => MAN (cmt J 6 (J 140) p t) z J' ∧ zOf (zbut [140]) J' J ∧ gOK (J' 140) m))) (zX n 0 zN)) 0 0 n J 0 [some (.ref 139), some (zi p), some (zi t), some (zi 1), none] []
  have hm := C.told
  have ha := C.ar hp.1 hp.2
  refine tz_iload_n (pc := 0) dX3_fitsPart_0 rfl rfl ?_
  refine tz_bipush (pc := 1) dX3_fitsPart_1 (by decide) ?_
  refine tz_icmp_leT (pc := 3) (tgt := 8) (by decide) dX3_fitsPart_3 (by decide) (by decide) (by decide) ?_
  refine tz_aload_n (pc := 8) dX3_fitsPart_8 rfl rfl ?_
  refine tz_fR (pc := 9) dX3_fitsPart_9 fl_X3_15 r_139_0 ?_
  refine tz_iload_n (pc := 12) dX3_fitsPart_12 rfl rfl ?_
  refine tz_cV (pc := 13) (c_isVar hl n _ _ (by omega) (by omega)) vl_X3_29 dX3_fitsPart_13 o_6 rfl rfl (Nat.le_of_ble_eq_true rfl) ⟨(Nat.le_of_ble_eq_true rfl), (Nat.le_of_ble_eq_true rfl)⟩ rfl rfl (Nat.le_of_ble_eq_true rfl) (Nat.le_of_ble_eq_true rfl) (fun r9 J_13 hq9 => ?_)
  obtain ⟨z_13, rfl, hz_13, rfl, rfl⟩ := hq9
  by_cases hw_16 : J 7 p < 0
  · rw [show (if J 7 p < 0 then 1 else 0 : Int) = 1 from if_pos hw_16]
    refine tz_if_eqF (pc := 16) (tgt := 36) (by decide) dX3_fitsPart_16 (by decide) (by decide) ?_
    refine tz_aload_n (pc := 19) dX3_fitsPart_19 rfl rfl ?_
    refine tz_aload_n (pc := 20) dX3_fitsPart_20 rfl rfl ?_
    refine tz_fR (pc := 21) dX3_fitsPart_21 fl_X3_15 r_139_0 ?_
    refine tz_fR (pc := 24) dX3_fitsPart_24 fl_X3_35 r_6_1 ?_
    refine tz_iload_n (pc := 27) dX3_fitsPart_27 rfl rfl ?_
    refine tz_aL (pc := 28) (z := p) (v := (J 7 p)) dX3_fitsPart_28 a_7 rfl (by omega) rfl (fun r_28 => ?_)
    refine tz_iconst (pc := 29) dX3_fitsPart_29 ?_
    refine tz_ixor (pc := 30) (v := -1 - J 7 p) dX3_fitsPart_30 (z_nn (by omega)) ?_
    refine tz_iload_n (pc := 31) dX3_fitsPart_31 rfl rfl ?_
    refine tz_cV (pc := 32) (c_takes hl n _ _ _ (by omega) (by omega) (by omega)) vl_X3_38 dX3_fitsPart_32 o_139 rfl rfl (Nat.le_of_ble_eq_true rfl) ⟨(Nat.le_of_ble_eq_true rfl), (Nat.le_of_ble_eq_true rfl)⟩ rfl rfl (Nat.le_of_ble_eq_true rfl) (Nat.le_of_ble_eq_true rfl) (fun r9 J_32 hq9 => ?_)
    obtain ⟨z_32, rfl, hz_32, hj, hz⟩ := hq9
    have mv := MAN.v (k := 5) (p := p) (by omega) rfl hj hz
    exact tz_zret (pc := 35) (z := z_32) dX3_fitsPart_35 rfl (by omega) (Nat.le_of_ble_eq_true rfl) (Nat.le_of_ble_eq_true rfl) ⟨Nat.le_refl _, Nat.le_add_right _ _⟩ ⟨_, rfl, (by omega), ⟨mv, by rw [← hj]; exact zOf_tk, by rw [← hj]; exact hg.tk ht⟩⟩
  · rw [show (if J 7 p < 0 then 1 else 0 : Int) = 0 from if_neg hw_16]
    refine tz_if_eqT (pc := 16) (tgt := 36) (by decide) dX3_fitsPart_16 (by decide) (by decide) ?_
    refine tz_aload_n (pc := 36) dX3_fitsPart_36 rfl rfl ?_
    refine tz_fR (pc := 37) dX3_fitsPart_37 fl_X3_15 r_139_0 ?_
    refine tz_fR (pc := 40) dX3_fitsPart_40 fl_X3_35 r_6_1 ?_
    refine tz_iload_n (pc := 43) dX3_fitsPart_43 rfl rfl ?_
    refine tz_aL (pc := 44) (z := p) (v := (J 7 p)) dX3_fitsPart_44 a_7 rfl (by omega) rfl (fun r_44 => ?_)
    refine tz_aload_n (pc := 45) dX3_fitsPart_45 rfl rfl ?_
    refine tz_fR (pc := 46) dX3_fitsPart_46 fl_X3_15 r_139_0 ?_
    refine tz_fR (pc := 49) dX3_fitsPart_49 fl_X3_35 r_6_1 ?_
    refine tz_iload_n (pc := 52) dX3_fitsPart_52 rfl rfl ?_
    refine tz_aL (pc := 53) (z := t) (v := (J 7 t)) dX3_fitsPart_53 a_7 rfl (by omega) rfl (fun r_53 => ?_)
    refine tz_icmp_eq (pc := 54) (tgt := 59) dX3_fitsPart_54 (by decide) (by omega) (by omega) (fun h_54 => ?_) (fun h_54 => ?_)
    · refine tz_iconst (pc := 59) dX3_fitsPart_59 ?_
      refine tz_istore (pc := 60) (L2 := [_, _, _, _, _]) dX3_fitsPart_60 (by decide) rfl ?_
      have loop62 : ∀ (f9 : Nat) (i : Int) (J1 : zJ), ((3 - i).toNat) < f9 → (0 ≤ i ∧ i ≤ J 8 p) → (zOf (zbut [140]) J1 J) → (gOK (J1 140) m) → (cmF J 5 p t i = (true, J1 140)) → tz_At l G M_X3_fitsPart (tb_rm 6 0 0) none (tb_ZM G 0 0 (zQ n 0 (zqi (fun z J' => MAN (cmt J 6 (J 140) p t) z J' ∧ zOf (zbut [140]) J' J ∧ gOK (J' 140) m))) (zX n 0 zN)) 0 0 n J1 62 [some (.ref 139), some (zi p), some (zi t), some (zi 1), some (zi i)] [] := by
        intro f9
        induction f9 with
        | zero => intro i J1 hm9; exact absurd hm9 (Nat.not_lt_zero _)
        | succ f9 ih62 =>
          intro i J1 hm62 hi fr h1 x1
          have he := C.arh hp ht (by omega)
          have e9 := fr 9 rfl
          refine tz_iload (pc := 62) dX3_fitsPart_62 rfl ?_
          refine tz_aload_n (pc := 64) dX3_fitsPart_64 rfl rfl ?_
          refine tz_fR (pc := 65) dX3_fitsPart_65 fl_X3_15 r_139_0 ?_
          refine tz_fR (pc := 68) dX3_fitsPart_68 fl_X3_42 r_6_2 ?_
          refine tz_iload_n (pc := 71) dX3_fitsPart_71 rfl rfl ?_
          refine tz_aL (pc := 72) (z := p) (v := (J 8 p)) dX3_fitsPart_72 a_8 rfl (by omega) (Eq.trans (congrFun (fr 8 rfl) p) rfl) (fun r_72 => ?_)
          refine tz_icmp_ge (pc := 73) (tgt := 114) dX3_fitsPart_73 (by decide) (by omega) (by omega) (fun h_73 => ?_) (fun h_73 => ?_)
          · refine tz_iconst (pc := 114) dX3_fitsPart_114 ?_
            exact tz_zret (pc := 115) (z := 1) dX3_fitsPart_115 rfl (Or.inr rfl) (Nat.le_of_ble_eq_true rfl) (Nat.le_of_ble_eq_true rfl) ⟨Nat.le_refl _, Nat.le_add_right _ _⟩ ⟨_, rfl, (by decide), ⟨MAN.e (by omega) (by omega) (by omega) x1, fr, h1⟩⟩
          · refine tz_aload_n (pc := 76) dX3_fitsPart_76 rfl rfl ?_
            refine tz_aload_n (pc := 77) dX3_fitsPart_77 rfl rfl ?_
            refine tz_fR (pc := 78) dX3_fitsPart_78 fl_X3_15 r_139_0 ?_
            refine tz_iload_n (pc := 81) dX3_fitsPart_81 rfl rfl ?_
            refine tz_iload (pc := 82) dX3_fitsPart_82 rfl ?_
            refine tz_cV (pc := 84) (c_arg hl n _ _ _ (by omega) (by omega) (by omega)) vl_X3_45 dX3_fitsPart_84 o_6 rfl rfl (Nat.le_of_ble_eq_true rfl) ⟨(Nat.le_of_ble_eq_true rfl), (Nat.le_of_ble_eq_true rfl)⟩ rfl rfl (Nat.le_of_ble_eq_true rfl) (Nat.le_of_ble_eq_true rfl) (fun r9 J_84 hq9 => ?_)
            obtain ⟨z_84, rfl, hz_84, rfl, rfl⟩ := hq9
            refine tz_aload_n (pc := 87) dX3_fitsPart_87 rfl rfl ?_
            refine tz_fR (pc := 88) dX3_fitsPart_88 fl_X3_15 r_139_0 ?_
            refine tz_iload_n (pc := 91) dX3_fitsPart_91 rfl rfl ?_
            refine tz_iload (pc := 92) dX3_fitsPart_92 rfl ?_
            refine tz_cV (pc := 94) (c_arg hl n _ _ _ (by omega) (by omega) (by omega)) vl_X3_45 dX3_fitsPart_94 o_6 rfl rfl (Nat.le_of_ble_eq_true rfl) ⟨(Nat.le_of_ble_eq_true rfl), (Nat.le_of_ble_eq_true rfl)⟩ rfl rfl (Nat.le_of_ble_eq_true rfl) (Nat.le_of_ble_eq_true rfl) (fun r9 J_94 hq9 => ?_)
            obtain ⟨z_94, rfl, hz_94, rfl, rfl⟩ := hq9
            refine tz_iload_n (pc := 97) dX3_fitsPart_97 rfl rfl ?_
            refine tz_iconst (pc := 98) dX3_fitsPart_98 ?_
            refine tz_iadd (pc := 99) (v := 2) dX3_fitsPart_99 (by decide) ?_
            have g1 := (C.arg (t := p) (i := i) (by omega) (by omega) (by omega) (by omega)).1
            have g2 := (C.arg (t := t) (i := i) (by omega) (by omega) (by omega) (by omega)).1
            rw [← e9] at g1 g2
            refine tz_cV (pc := 100) (x_fits2 hl n _ _ _ (by omega) (by omega) m (C.of (fun c hc => fr c (by simp [zbut]; omega))) (by omega) (by omega) h1) vl_X3_25 dX3_fitsPart_100 o_139 rfl rfl (Nat.le_of_ble_eq_true rfl) ⟨(Nat.le_of_ble_eq_true rfl), (Nat.le_of_ble_eq_true rfl)⟩ rfl rfl (Nat.le_of_ble_eq_true rfl) (Nat.le_of_ble_eq_true rfl) (fun r9 J_100 hq9 => ?_)
            obtain ⟨z_100, rfl, hz_100, a9, f2, h2⟩ := hq9
            have a2 : MAN (cmt J 5 (J1 140) (cag J p i) (cag J t i)) z_100 J_100 := by
              have q9 := a9
              rw [cmt_of fr, show J1 9 = J 9 from e9] at q9
              exact q9
            have zz : z_100 = 0 ∨ z_100 = 1 := a2.1.elim (fun q => Or.inr q.2) (fun q => Or.inl q.2)
            refine tz_if_ne (pc := 103) (tgt := 108) dX3_fitsPart_103 (by decide) (by omega) (fun h_103 => ?_) (fun h_103 => ?_)
            · refine tz_iinc (pc := 108) (z := i + 1) (L2 := [_, _, _, _, _]) dX3_fitsPart_108 rfl (by omega) rfl ?_
              refine tz_goto (pc := 111) (tgt := 62) dX3_fitsPart_111 (by decide) ?_
              exact ih62 (i + 1) _ (by omega) (by omega) (f2.tr fr) h2 (cmF_n (by omega) x1 a2 (by omega))
            · refine tz_iconst (pc := 106) dX3_fitsPart_106 ?_
              exact tz_zret (pc := 107) (z := 0) dX3_fitsPart_107 rfl (Or.inl rfl) (Nat.le_of_ble_eq_true rfl) (Nat.le_of_ble_eq_true rfl) ⟨Nat.le_refl _, Nat.le_add_right _ _⟩ ⟨_, rfl, (by decide), ⟨MAN.f (by omega) (by omega) (by omega) x1 a2 (by omega), f2.tr fr, h2⟩⟩
      exact loop62 _ 0 _ (Nat.lt_succ_self _) (by omega) zOf.rf hg cmF_0
    · refine tz_iconst (pc := 57) dX3_fitsPart_57 ?_
      exact tz_zret (pc := 58) (z := 0) dX3_fitsPart_58 rfl (Or.inl rfl) (Nat.le_of_ble_eq_true rfl) (Nat.le_of_ble_eq_true rfl) ⟨Nat.le_refl _, Nat.le_add_right _ _⟩ ⟨_, rfl, (by decide), ⟨MAN.n (by omega) (by omega), zOf.rf, hg⟩⟩

set_option maxHeartbeats 4000000 in
set_option maxRecDepth 100000 in
theorem x_matches {l : Launch} {G : tb_G} (hl : l.stackTraces = false) (n : Nat) (J : zJ) (p : Int) (t : Int) (hr_p : -2147483648 ≤ p ∧ p < 2147483648) (hr_t : -2147483648 ≤ t ∧ t < 2147483648) (m : Int) (C : CT J m) (hp : 0 ≤ p ∧ p < m) (ht : 0 ≤ t ∧ t < m) : tz_Ok l G M_X3_matches 7 0 0 [.ref 139, zi p, zi t] n J (zqi (fun z J' => (∃ σ, (∀ k, 0 ≤ k → k < 8 → σ k = -1) ∧ MAN (cmt J 6 σ p t) z J') ∧ zOf (zbut [140]) J' J ∧ gOK (J' 140) m)) zN := by
  refine tz_Ok.of hl (by decide +kernel) rfl (tb_c1 rfl) (Nat.le_of_ble_eq_true rfl) ?_
  show tz_At l G M_X3_matches (tb_rm 7 0 0) none (tb_ZM G 0 0 (zQ n 0 (zqi (fun z J' => (∃ σ, (∀ k, 0 ≤ k → k < 8 → σ k = -1) ∧ MAN (cmt J 6 σ p t) z J') ∧ zOf (zbut [140]) J' J ∧ gOK (J' 140) m))) (zX n 0 zN)) 0 0 n J 0 [some (.ref 139), some (zi p), some (zi t)] []
  refine tz_aload_n (pc := 0) dX3_matches_0 rfl rfl ?_
  refine tz_fR (pc := 1) dX3_matches_1 fl_X3_9 r_139_1 ?_
  refine tz_iconst (pc := 4) dX3_matches_4 ?_
  refine tz_cS (pc := 5) (zJ_fill hl n _ 140 _ 8 (-1) (by decide) a_140 rfl) sl_X3_19 dX3_matches_5 rfl rfl (Nat.le_of_ble_eq_true rfl) ⟨(Nat.le_of_ble_eq_true rfl), (Nat.le_of_ble_eq_true rfl)⟩ rfl rfl (Nat.le_of_ble_eq_true rfl) (Nat.le_of_ble_eq_true rfl) (fun r9 J_5 hq9 => ?_)
  obtain ⟨rfl, rfl⟩ := hq9
  refine tz_aload_n (pc := 8) dX3_matches_8 rfl rfl ?_
  refine tz_iload_n (pc := 9) dX3_matches_9 rfl rfl ?_
  refine tz_iload_n (pc := 10) dX3_matches_10 rfl rfl ?_
  refine tz_iconst (pc := 11) dX3_matches_11 ?_
  refine tz_cV (pc := 12) (x_fits1 hl n _ _ _ (by omega) (by omega) m (C.of (fun c hc => zfl_nc (by omega))) hp ht (fun v a b => by rw [zfl_in b]; omega)) vl_X3_25 dX3_matches_12 o_139 rfl rfl (Nat.le_of_ble_eq_true rfl) ⟨(Nat.le_of_ble_eq_true rfl), (Nat.le_of_ble_eq_true rfl)⟩ rfl rfl (Nat.le_of_ble_eq_true rfl) (Nat.le_of_ble_eq_true rfl) (fun r9 J_12 hq9 => ?_)
  obtain ⟨z_12, rfl, hz_12, a9, f2, h2⟩ := hq9
  have zz : z_12 = 0 ∨ z_12 = 1 := a9.1.elim (fun q => Or.inr q.2) (fun q => Or.inl q.2)
  exact tz_zret (pc := 15) (z := z_12) dX3_matches_15 rfl (by omega) (Nat.le_of_ble_eq_true rfl) (Nat.le_of_ble_eq_true rfl) ⟨Nat.le_refl _, Nat.le_add_right _ _⟩ ⟨_, rfl, (by omega), ⟨⟨_, fun k a b => zfl_in b, by rw [cmt_of (zOf.fl rfl zOf.rf : zOf (zbut [140]) (zfl J 140 8 (-1)) J)] at a9; exact a9⟩, f2.tr (zOf.fl rfl zOf.rf), h2⟩⟩

end
section
/-! ===== doesMatch of the reference, exact ===== -/
def mmt (J : zJ) (b d : Int) : (Int → Int) → Int → Int → Bool × (Int → Int) := mtO (fun t => J 166 (b + t)) (mar J b d) (mag J b) 6
theorem mmt_of {J1 J : zJ} {b d : Int} (f : zOf (zbut [174]) J1 J) : mmt J1 b d = mmt J b d := by
  unfold mmt mar mag
  rw [f 166 rfl, f 170 rfl, f 167 rfl]
def MAM (r : Bool × (Int → Int)) (z : Int) (J' : zJ) : Prop := ((r.1 = true ∧ z = 1) ∨ (r.1 = false ∧ z = 0)) ∧ J' 174 = r.2
theorem mmt_v {J : zJ} {b d p t v : Int} (hv : J 166 (b + p) < 0) (ev : v = -1 - J 166 (b + p)) : (J 174 v = -1 → MAM (mmt J b d (J 174) p t) 1 (zup J 174 v t)) ∧ (¬ J 174 v = -1 → J 174 v = t → MAM (mmt J b d (J 174) p t) 1 J) ∧ (¬ J 174 v = -1 → ¬ J 174 v = t → MAM (mmt J b d (J 174) p t) 0 J) := by
  unfold mmt
  rw [mtO_s, if_pos hv, ← ev]
  refine ⟨fun e => ?_, fun e f => ?_, fun e f => ?_⟩
  · rw [if_pos e]
    exact ⟨Or.inl ⟨rfl, rfl⟩, rfl⟩
  · rw [if_neg e]
    exact ⟨Or.inl ⟨decide_eq_true f, rfl⟩, rfl⟩
  · rw [if_neg e]
    exact ⟨Or.inr ⟨decide_eq_false f, rfl⟩, rfl⟩
theorem mmt_n {J : zJ} {b d p t : Int} (hv : ¬ J 166 (b + p) < 0) (hn : ¬ J 166 (b + p) = J 166 (b + t)) : MAM (mmt J b d (J 174) p t) 0 J := by
  unfold mmt
  rw [mtO_s, if_neg hv, if_neg hn]
  exact ⟨Or.inr ⟨rfl, rfl⟩, rfl⟩
def mmF (J : zJ) (b d p t i : Int) : Bool × (Int → Int) := mtF (fun σ i => mmt J b d σ (mag J b p i) (mag J b t i)) i.toNat (J 174)
theorem mmF_0 {J : zJ} {b d p t : Int} : mmF J b d p t 0 = (true, J 174) := rfl
theorem mmF_s {J : zJ} {b d p t i : Int} {τ : Int → Int} (hi : 0 ≤ i) (h : mmF J b d p t i = (true, τ)) : mmF J b d p t (i + 1) = mmt J b d τ (mag J b p i) (mag J b t i) := by
  unfold mmF at *
  rw [show (i + 1).toNat = i.toNat + 1 from by omega, mtF_s, h, if_pos rfl]
  dsimp only
  rw [Int.toNat_of_nonneg hi]
theorem mmF_f {J : zJ} {b d p t i n : Int} (hi : 0 ≤ i ∧ i ≤ n) (h : (mmF J b d p t i).1 = false) : mmF J b d p t n = mmF J b d p t i := by
  unfold mmF at *
  rw [show n.toNat = i.toNat + (n.toNat - i.toNat) from by omega]
  exact mtF_f h _
theorem mmt_F {J : zJ} {b r d s m p t : Int} (hM : MS J b r d s m) (hp : 0 ≤ p ∧ p < m) (hv : ¬ J 166 (b + p) < 0) (hn : J 166 (b + p) = J 166 (b + t)) : mmt J b d (J 174) p t = mmF J b d p t (mar J b d p) := by
  show mtO _ _ _ (5 + 1) _ _ _ = _
  rw [mtO_s, if_neg hv, if_pos hn]
  refine mtF_eq _ (fun i σ q => ?_) _
  obtain ⟨t1, t2, t3⟩ := hM.td p hp.1 hp.2
  have i1 := t3 i (by omega) (by omega)
  dsimp only at i1 t2
  exact mtO_st hM.td 5 6 σ _ _ ⟨i1.1.1, by omega⟩ (by omega) (by omega)
theorem MAM.e {J J1 : zJ} {b r d s m p t i : Int} (hM : MS J b r d s m) (hp : 0 ≤ p ∧ p < m) (hv : ¬ J 166 (b + p) < 0) (hn : J 166 (b + p) = J 166 (b + t)) (hi : i = mar J b d p) (x : mmF J b d p t i = (true, J1 174)) : MAM (mmt J b d (J 174) p t) 1 J1 := by
  rw [mmt_F hM hp hv hn, ← hi, x]
  exact ⟨Or.inl ⟨rfl, rfl⟩, rfl⟩
theorem MAM.f {J J1 J2 : zJ} {b r d s m p t i z : Int} (hM : MS J b r d s m) (hp : 0 ≤ p ∧ p < m) (hv : ¬ J 166 (b + p) < 0) (hn : J 166 (b + p) = J 166 (b + t)) (hi : 0 ≤ i ∧ i < mar J b d p) (x : mmF J b d p t i = (true, J1 174)) (a : MAM (mmt J b d (J1 174) (mag J b p i) (mag J b t i)) z J2) (hz : z = 0) : MAM (mmt J b d (J 174) p t) 0 J2 := by
  have s := mmF_s hi.1 x
  have h1 : (mmt J b d (J1 174) (mag J b p i) (mag J b t i)).1 = false := by
    rcases a.1 with q | q
    · omega
    · exact q.1
  rw [mmt_F hM hp hv hn, mmF_f (i := i + 1) (by omega) (by rw [s]; exact h1), s]
  exact ⟨Or.inr ⟨h1, rfl⟩, a.2⟩
theorem mmF_n {J J1 J2 : zJ} {b d p t i z : Int} (hi : 0 ≤ i) (x : mmF J b d p t i = (true, J1 174)) (a : MAM (mmt J b d (J1 174) (mag J b p i) (mag J b t i)) z J2) (hz : ¬ z = 0) : mmF J b d p t (i + 1) = (true, J2 174) := by
  rw [mmF_s hi x]
  rcases a.1 with q | q
  · exact Prod.ext q.1 a.2.symm
  · exact absurd q.2 hz
set_option maxHeartbeats 4000000 in
set_option maxRecDepth 100000 in
theorem x_matchR {l : Launch} {G : tb_G} (hl : l.stackTraces = false) (n : Nat) : ∀ (r9 : Nat) (J : zJ) (u : Int) (t : Int) (hr_u : -2147483648 ≤ u ∧ u < 2147483648) (hr_t : -2147483648 ≤ t ∧ t < 2147483648) (b r d s m : Int) (hM : MS J b r d s m) (hs : 0 ≤ u ∧ u < m) (ht : 0 ≤ t ∧ t < m) (hg0 : gOK (J 174) m), ((J 168 (b + u)).toNat) < r9 → tz_Ok l G M_X12_matches (3 + 1 * r9) 0 0 [.ref 164, zi u, zi t] n J (zqi (fun z J' => MAM (mmt J b d (J 174) u t) z J' ∧ zOf (zbut [174]) J' J ∧ gOK (J' 174) m)) zN := by
  intro r9
  induction r9 with
  | zero => intro J u t hr_u hr_t b r d s m hM hs ht hg0 hm9; exact absurd hm9 (Nat.not_lt_zero _)
  | succ r9 ih =>
    intro J u t hr_u hr_t b r d s m hM hs ht hg0 hm9
    refine tz_Ok.of hl (by decide +kernel) rfl (tb_c1 rfl) (Nat.le_of_ble_eq_true rfl) ?_
    show tz_At l G M_X12_matches (tb_rm (3 + 1 * (r9 + 1)) 0 0) none (tb_ZM G 0 0 (zQ n 0 (zqi (fun z J' => MAM (mmt J b d (J 174) u t) z J' ∧ zOf (zbut [174]) J' J ∧ gOK (J' 174) m))) (zX n 0 zN)) 0 0 n J 0 [some (.ref 164), some (zi u), some (zi t), none] []
    obtain ⟨hM1, hM2, hM3, hM4, hM5, hM6⟩ := id hM
    have hT := hM.told
    have ha := hM.ar hs
    have hb := hM.ar ht
    refine tz_aload_n (pc := 0) dX12_matches_0 rfl rfl ?_
    refine tz_iload_n (pc := 1) dX12_matches_1 rfl rfl ?_
    refine tz_cV (pc := 2) (m_isVar hl n _ _ (by omega) b r d s m hM (by omega)) vl_X12_78 dX12_matches_2 o_164 rfl rfl (Nat.le_of_ble_eq_true rfl) ⟨(show 1 + 1 ≤ 3 + 1 * (r9 + 1) by omega), (show 8 + (2 + 11) + 40 * (1) ≤ 40 * (3 + 1 * (r9 + 1)) by omega)⟩ rfl rfl (Nat.le_of_ble_eq_true rfl) (Nat.le_of_ble_eq_true rfl) (fun r9 J_2 hq9 => ?_)
    obtain ⟨z_2, rfl, hz_2, rfl, rfl⟩ := hq9
    by_cases hw_5 : J 166 (b + u) < 0
    · rw [show (if J 166 (b + u) < 0 then 1 else 0 : Int) = 1 from if_pos hw_5]
      refine tz_if_eqF (pc := 5) (tgt := 47) (by decide) dX12_matches_5 (by decide) (by decide) ?_
      refine tz_aload_n (pc := 8) dX12_matches_8 rfl rfl ?_
      refine tz_iload_n (pc := 9) dX12_matches_9 rfl rfl ?_
      refine tz_cV (pc := 10) (m_varOf hl n _ _ (by omega) b r d s m hM (by omega)) vl_X12_123 dX12_matches_10 o_164 rfl rfl (Nat.le_of_ble_eq_true rfl) ⟨(show 1 + 1 ≤ 3 + 1 * (r9 + 1) by omega), (show 8 + (2 + 11) + 40 * (1) ≤ 40 * (3 + 1 * (r9 + 1)) by omega)⟩ rfl rfl (Nat.le_of_ble_eq_true rfl) (Nat.le_of_ble_eq_true rfl) (fun r9 J_10 hq9 => ?_)
      obtain ⟨z_10, rfl, hz_10, rfl, rfl⟩ := hq9
      refine tz_istore_n (pc := 13) (L2 := [_, _, _, _]) dX12_matches_13 rfl (by decide) rfl ?_
      refine tz_aload_n (pc := 14) dX12_matches_14 rfl rfl ?_
      refine tz_fR (pc := 15) dX12_matches_15 fl_X12_41 r_164_22 ?_
      refine tz_iload_n (pc := 18) dX12_matches_18 rfl rfl ?_
      refine tz_aL (pc := 19) (z := (-1 - J 166 (b + u))) (v := (J 174 (-1 - J 166 (b + u)))) dX12_matches_19 a_174 rfl (by omega) rfl (fun r_19 => ?_)
      refine tz_iconst (pc := 20) dX12_matches_20 ?_
      refine tz_icmp_ne (pc := 21) (tgt := 31) dX12_matches_21 (by decide) (by omega) (by decide) (fun h_21 => ?_) (fun h_21 => ?_)
      · refine tz_aload_n (pc := 31) dX12_matches_31 rfl rfl ?_
        refine tz_fR (pc := 32) dX12_matches_32 fl_X12_41 r_164_22 ?_
        refine tz_iload_n (pc := 35) dX12_matches_35 rfl rfl ?_
        refine tz_aL (pc := 36) (z := (-1 - J 166 (b + u))) (v := (J 174 (-1 - J 166 (b + u)))) dX12_matches_36 a_174 rfl (by omega) rfl (fun r_36 => ?_)
        refine tz_iload_n (pc := 37) dX12_matches_37 rfl rfl ?_
        refine tz_icmp_ne (pc := 38) (tgt := 45) dX12_matches_38 (by decide) (by omega) (by omega) (fun h_38 => ?_) (fun h_38 => ?_)
        · refine tz_iconst (pc := 45) dX12_matches_45 ?_
          exact tz_zret (pc := 46) (z := 0) dX12_matches_46 rfl (Or.inl rfl) (Nat.le_of_ble_eq_true rfl) (Nat.le_of_ble_eq_true rfl) ⟨Nat.le_refl _, Nat.le_add_right _ _⟩ ⟨_, rfl, (by decide), (by first | exact ⟨(mmt_v (by omega) rfl).2.1 (by omega) (by omega), zOf.rf, hg0⟩ | exact ⟨(mmt_v (by omega) rfl).2.2 (by omega) (by omega), zOf.rf, hg0⟩ | exact ⟨mmt_n (by omega) (by omega), zOf.rf, hg0⟩)⟩
        · refine tz_iconst (pc := 41) dX12_matches_41 ?_
          refine tz_goto (pc := 42) (tgt := 46) dX12_matches_42 (by decide) ?_
          exact tz_zret (pc := 46) (z := 1) dX12_matches_46 rfl (Or.inr rfl) (Nat.le_of_ble_eq_true rfl) (Nat.le_of_ble_eq_true rfl) ⟨Nat.le_refl _, Nat.le_add_right _ _⟩ ⟨_, rfl, (by decide), (by first | exact ⟨(mmt_v (by omega) rfl).2.1 (by omega) (by omega), zOf.rf, hg0⟩ | exact ⟨(mmt_v (by omega) rfl).2.2 (by omega) (by omega), zOf.rf, hg0⟩ | exact ⟨mmt_n (by omega) (by omega), zOf.rf, hg0⟩)⟩
      · refine tz_aload_n (pc := 24) dX12_matches_24 rfl rfl ?_
        refine tz_fR (pc := 25) dX12_matches_25 fl_X12_41 r_164_22 ?_
        refine tz_iload_n (pc := 28) dX12_matches_28 rfl rfl ?_
        refine tz_iload_n (pc := 29) dX12_matches_29 rfl rfl ?_
        refine tz_aS (pc := 30) (z := (-1 - J 166 (b + u))) dX12_matches_30 a_174 rfl (by omega) (by omega) ?_
        refine tz_aload_n (pc := 31) dX12_matches_31 rfl rfl ?_
        refine tz_fR (pc := 32) dX12_matches_32 fl_X12_41 r_164_22 ?_
        refine tz_iload_n (pc := 35) dX12_matches_35 rfl rfl ?_
        refine tz_aL (pc := 36) (z := (-1 - J 166 (b + u))) (v := t) dX12_matches_36 a_174 rfl (by omega) (by simp [zup]) (fun r_36 => ?_)
        refine tz_iload_n (pc := 37) dX12_matches_37 rfl rfl ?_
        refine tz_icmp_ne (pc := 38) (tgt := 45) dX12_matches_38 (by decide) (by omega) (by omega) (fun h_38 => ?_) (fun h_38 => ?_)
        · refine tz_iconst (pc := 45) dX12_matches_45 ?_
          exact tz_zret (pc := 46) (z := 0) dX12_matches_46 rfl (Or.inl rfl) (Nat.le_of_ble_eq_true rfl) (Nat.le_of_ble_eq_true rfl) ⟨Nat.le_refl _, Nat.le_add_right _ _⟩ ⟨_, rfl, (by decide), (by first | exact ⟨(mmt_v (by omega) rfl).1 (by omega), zOf.up rfl zOf.rf, gok_up hg0 ht⟩ | (exfalso; omega))⟩
        · refine tz_iconst (pc := 41) dX12_matches_41 ?_
          refine tz_goto (pc := 42) (tgt := 46) dX12_matches_42 (by decide) ?_
          exact tz_zret (pc := 46) (z := 1) dX12_matches_46 rfl (Or.inr rfl) (Nat.le_of_ble_eq_true rfl) (Nat.le_of_ble_eq_true rfl) ⟨Nat.le_refl _, Nat.le_add_right _ _⟩ ⟨_, rfl, (by decide), (by first | exact ⟨(mmt_v (by omega) rfl).1 (by omega), zOf.up rfl zOf.rf, gok_up hg0 ht⟩ | (exfalso; omega))⟩
    · rw [show (if J 166 (b + u) < 0 then 1 else 0 : Int) = 0 from if_neg hw_5]
      refine tz_if_eqT (pc := 5) (tgt := 47) (by decide) dX12_matches_5 (by decide) (by decide) ?_
      refine tz_aload_n (pc := 47) dX12_matches_47 rfl rfl ?_
      refine tz_iload_n (pc := 48) dX12_matches_48 rfl rfl ?_
      refine tz_cV (pc := 49) (m_head hl n _ _ (by omega) b r d s m hM (by omega)) vl_X12_74 dX12_matches_49 o_164 rfl rfl (Nat.le_of_ble_eq_true rfl) ⟨(show 0 + 1 ≤ 3 + 1 * (r9 + 1) by omega), (show 8 + (2 + 11) + 40 * (0) ≤ 40 * (3 + 1 * (r9 + 1)) by omega)⟩ rfl rfl (Nat.le_of_ble_eq_true rfl) (Nat.le_of_ble_eq_true rfl) (fun r9 J_49 hq9 => ?_)
      obtain ⟨z_49, rfl, hz_49, rfl, rfl⟩ := hq9
      refine tz_aload_n (pc := 52) dX12_matches_52 rfl rfl ?_
      refine tz_iload_n (pc := 53) dX12_matches_53 rfl rfl ?_
      refine tz_cV (pc := 54) (m_head hl n _ _ (by omega) b r d s m hM (by omega)) vl_X12_74 dX12_matches_54 o_164 rfl rfl (Nat.le_of_ble_eq_true rfl) ⟨(show 0 + 1 ≤ 3 + 1 * (r9 + 1) by omega), (show 8 + (2 + 11) + 40 * (0) ≤ 40 * (3 + 1 * (r9 + 1)) by omega)⟩ rfl rfl (Nat.le_of_ble_eq_true rfl) (Nat.le_of_ble_eq_true rfl) (fun r9 J_54 hq9 => ?_)
      obtain ⟨z_54, rfl, hz_54, rfl, rfl⟩ := hq9
      refine tz_icmp_eq (pc := 57) (tgt := 62) dX12_matches_57 (by decide) (by omega) (by omega) (fun h_57 => ?_) (fun h_57 => ?_)
      · refine tz_iconst (pc := 62) dX12_matches_62 ?_
        refine tz_istore_n (pc := 63) (L2 := [_, _, _, _]) dX12_matches_63 rfl (by decide) rfl ?_
        have loop64 : ∀ (f9 : Nat) (i : Int) (J1 : zJ), ((3 - i).toNat) < f9 → (0 ≤ i ∧ i ≤ mar J b d u) → (zOf (zbut [174]) J1 J) → (gOK (J1 174) m) → (mmF J b d u t i = (true, J1 174)) → tz_At l G M_X12_matches (tb_rm (3 + 1 * (r9 + 1)) 0 0) none (tb_ZM G 0 0 (zQ n 0 (zqi (fun z J' => MAM (mmt J b d (J 174) u t) z J' ∧ zOf (zbut [174]) J' J ∧ gOK (J' 174) m))) (zX n 0 zN)) 0 0 n J1 64 [some (.ref 164), some (zi u), some (zi t), some (zi i)] [] := by
          intro f9
          induction f9 with
          | zero => intro i J1 hm9; exact absurd hm9 (Nat.not_lt_zero _)
          | succ f9 ih64 =>
            intro i J1 hm64 hi f1 g1 x1
            have he := MS.hd8 (J := J) (b := b) (d := d) (t := u) (u := t) (by omega)
            refine tz_iload_n (pc := 64) dX12_matches_64 rfl rfl ?_
            refine tz_aload_n (pc := 65) dX12_matches_65 rfl rfl ?_
            refine tz_iload_n (pc := 66) dX12_matches_66 rfl rfl ?_
            refine tz_cV (pc := 67) (m_arity hl n _ _ (by omega) b r d s m (hM.c1 f1 (by decide)) (by omega)) vl_X12_111 dX12_matches_67 o_164 rfl rfl (Nat.le_of_ble_eq_true rfl) ⟨(show 2 + 1 ≤ 3 + 1 * (r9 + 1) by omega), (show 8 + (2 + 11) + 40 * (2) ≤ 40 * (3 + 1 * (r9 + 1)) by omega)⟩ rfl rfl (Nat.le_of_ble_eq_true rfl) (Nat.le_of_ble_eq_true rfl) (fun r9 J_67 hq9 => ?_)
            obtain ⟨z_67, rfl, hz_67, rfl, hv_67⟩ := hq9
            have he_67 : mar J1 b d u = mar J b d u := by unfold mar; rw [f1 166 rfl, f1 170 rfl]
            rw [he_67] at hv_67
            obtain rfl : mar J b d u = z_67 := hv_67
            refine tz_icmp_ge (pc := 70) (tgt := 100) dX12_matches_70 (by decide) (by omega) (by omega) (fun h_70 => ?_) (fun h_70 => ?_)
            · refine tz_iconst (pc := 100) dX12_matches_100 ?_
              exact tz_zret (pc := 101) (z := 1) dX12_matches_101 rfl (Or.inr rfl) (Nat.le_of_ble_eq_true rfl) (Nat.le_of_ble_eq_true rfl) ⟨Nat.le_refl _, Nat.le_add_right _ _⟩ ⟨_, rfl, (by decide), ⟨MAM.e hM hs (by omega) (by omega) (by omega) x1, f1, g1⟩⟩
            · refine tz_aload_n (pc := 73) dX12_matches_73 rfl rfl ?_
              refine tz_aload_n (pc := 74) dX12_matches_74 rfl rfl ?_
              refine tz_iload_n (pc := 75) dX12_matches_75 rfl rfl ?_
              refine tz_iload_n (pc := 76) dX12_matches_76 rfl rfl ?_
              refine tz_cV (pc := 77) (m_arg hl n _ _ _ (by omega) (by omega) b r d s m (hM.c1 f1 (by decide)) (by omega) (by omega)) vl_X12_88 dX12_matches_77 o_164 rfl rfl (Nat.le_of_ble_eq_true rfl) ⟨(show 0 + 1 ≤ 3 + 1 * (r9 + 1) by omega), (show 8 + (3 + 11) + 40 * (0) ≤ 40 * (3 + 1 * (r9 + 1)) by omega)⟩ rfl rfl (Nat.le_of_ble_eq_true rfl) (Nat.le_of_ble_eq_true rfl) (fun r9 J_77 hq9 => ?_)
              obtain ⟨z_77, rfl, hz_77, rfl, hv_77⟩ := hq9
              have he_77 : J1 167 (3 * (b + u) + i) = J 167 (3 * (b + u) + i) := by rw [f1 167 rfl]
              rw [he_77] at hv_77
              obtain rfl : J 167 (3 * (b + u) + i) = z_77 := hv_77
              refine tz_aload_n (pc := 80) dX12_matches_80 rfl rfl ?_
              refine tz_iload_n (pc := 81) dX12_matches_81 rfl rfl ?_
              refine tz_iload_n (pc := 82) dX12_matches_82 rfl rfl ?_
              refine tz_cV (pc := 83) (m_arg hl n _ _ _ (by omega) (by omega) b r d s m (hM.c1 f1 (by decide)) (by omega) (by omega)) vl_X12_88 dX12_matches_83 o_164 rfl rfl (Nat.le_of_ble_eq_true rfl) ⟨(show 0 + 1 ≤ 3 + 1 * (r9 + 1) by omega), (show 8 + (3 + 11) + 40 * (0) ≤ 40 * (3 + 1 * (r9 + 1)) by omega)⟩ rfl rfl (Nat.le_of_ble_eq_true rfl) (Nat.le_of_ble_eq_true rfl) (fun r9 J_83 hq9 => ?_)
              obtain ⟨z_83, rfl, hz_83, rfl, hv_83⟩ := hq9
              have he_83 : J1 167 (3 * (b + t) + i) = J 167 (3 * (b + t) + i) := by rw [f1 167 rfl]
              rw [he_83] at hv_83
              obtain rfl : J 167 (3 * (b + t) + i) = z_83 := hv_83
              have hg := hM.arg (t := u) (i := i) hs (by omega)
              have hg2 := hM.arg (t := t) (i := i) ht (by omega)
              have e168 := f1 168 rfl
              refine tz_cV (pc := 86) (ih _ _ _ (by omega) (by omega) b r d s m (hM.c1 f1 (by decide)) (by omega) (by omega) g1 (by rw [e168]; omega)) vl_X12_145 dX12_matches_86 o_164 rfl rfl (Nat.le_of_ble_eq_true rfl) ⟨(show (3 + 1 * r9) + 1 ≤ 3 + 1 * (r9 + 1) by omega), (show 8 + (4 + 11) + 40 * ((3 + 1 * r9)) ≤ 40 * (3 + 1 * (r9 + 1)) by omega)⟩ rfl rfl (Nat.le_of_ble_eq_true rfl) (Nat.le_of_ble_eq_true rfl) (fun r9 J2 hq9 => ?_)
              obtain ⟨zm, rfl, hz_86, a9, f2, g2⟩ := hq9
              have a2 : MAM (mmt J b d (J1 174) (mag J b u i) (mag J b t i)) zm J2 := by
                have q9 := a9
                rw [mmt_of f1] at q9
                exact q9
              have zz : zm = 0 ∨ zm = 1 := a2.1.elim (fun q => Or.inr q.2) (fun q => Or.inl q.2)
              refine tz_if_ne (pc := 89) (tgt := 94) dX12_matches_89 (by decide) (by omega) (fun h_89 => ?_) (fun h_89 => ?_)
              · refine tz_iinc (pc := 94) (z := i + 1) (L2 := [_, _, _, _]) dX12_matches_94 rfl (by omega) rfl ?_
                refine tz_goto (pc := 97) (tgt := 64) dX12_matches_97 (by decide) ?_
                exact ih64 (i + 1) _ (by omega) (by omega) (f2.tr f1) g2 (mmF_n (by omega) x1 a2 (by omega))
              · refine tz_iconst (pc := 92) dX12_matches_92 ?_
                exact tz_zret (pc := 93) (z := 0) dX12_matches_93 rfl (Or.inl rfl) (Nat.le_of_ble_eq_true rfl) (Nat.le_of_ble_eq_true rfl) ⟨Nat.le_refl _, Nat.le_add_right _ _⟩ ⟨_, rfl, (by decide), ⟨MAM.f hM hs (by omega) (by omega) (by omega) x1 a2 (by omega), f2.tr f1, g2⟩⟩
        exact loop64 _ 0 _ (Nat.lt_succ_self _) (by omega) zOf.rf hg0 mmF_0
      · refine tz_iconst (pc := 60) dX12_matches_60 ?_
        exact tz_zret (pc := 61) (z := 0) dX12_matches_61 rfl (Or.inl rfl) (Nat.le_of_ble_eq_true rfl) (Nat.le_of_ble_eq_true rfl) ⟨Nat.le_refl _, Nat.le_add_right _ _⟩ ⟨_, rfl, (by decide), (by first | exact ⟨(mmt_v (by omega) rfl).2.1 (by omega) (by omega), zOf.rf, hg0⟩ | exact ⟨(mmt_v (by omega) rfl).2.2 (by omega) (by omega), zOf.rf, hg0⟩ | exact ⟨mmt_n (by omega) (by omega), zOf.rf, hg0⟩)⟩

theorem x_match {l : Launch} {G : tb_G} (hl : l.stackTraces = false) (n : Nat) (J : zJ) (u t : Int) (hr_u : -2147483648 ≤ u ∧ u < 2147483648) (hr_t : -2147483648 ≤ t ∧ t < 2147483648) (b r d s m : Int) (hM : MS J b r d s m) (hs : 0 ≤ u ∧ u < m) (ht : 0 ≤ t ∧ t < m) (hg0 : gOK (J 174) m) : tz_Ok l G M_X12_matches 10 0 0 [.ref 164, zi u, zi t] n J (zqi (fun z J' => MAM (mmt J b d (J 174) u t) z J' ∧ zOf (zbut [174]) J' J ∧ gOK (J' 174) m)) zN := x_matchR hl n 7 J u t hr_u hr_t b r d s m hM hs ht hg0 (by have := (hM.ar hs).2.2.1; omega)
set_option maxHeartbeats 4000000 in
set_option maxRecDepth 100000 in
theorem x_doesMatch {l : Launch} {G : tb_G} (hl : l.stackTraces = false) (n : Nat) (J : zJ) (u : Int) (t : Int) (hr_u : -2147483648 ≤ u ∧ u < 2147483648) (hr_t : -2147483648 ≤ t ∧ t < 2147483648) (b r d s m : Int) (hM : MS J b r d s m) (hs : 0 ≤ u ∧ u < m) (ht : 0 ≤ t ∧ t < m) : tz_Ok l G M_X12_doesMatch 11 0 0 [.ref 164, zi u, zi t] n J (zqi (fun z J' => (∃ σ, (∀ k, 0 ≤ k → k < 8 → σ k = -1) ∧ MAM (mmt J b d σ u t) z J') ∧ zOf (zbut [174]) J' J ∧ gOK (J' 174) m)) zN := by
  refine tz_Ok.of hl (by decide +kernel) rfl (tb_c1 rfl) (Nat.le_of_ble_eq_true rfl) ?_
  show tz_At l G M_X12_doesMatch (tb_rm 11 0 0) none (tb_ZM G 0 0 (zQ n 0 (zqi (fun z J' => (∃ σ, (∀ k, 0 ≤ k → k < 8 → σ k = -1) ∧ MAM (mmt J b d σ u t) z J') ∧ zOf (zbut [174]) J' J ∧ gOK (J' 174) m))) (zX n 0 zN)) 0 0 n J 0 [some (.ref 164), some (zi u), some (zi t), none] []
  obtain ⟨hM1, hM2, hM3, hM4, hM5, hM6⟩ := id hM
  have hT := hM.told
  refine tz_iconst (pc := 0) dX12_doesMatch_0 ?_
  refine tz_istore_n (pc := 1) (L2 := [_, _, _, _]) dX12_doesMatch_1 rfl (by decide) rfl ?_
  have loop2 : ∀ (f9 : Nat) (v : Int) (J1 : zJ), ((8 - v).toNat) < f9 → (0 ≤ v ∧ v ≤ 8) → (zOf (zbut [174]) J1 J) → (∀ q, 0 ≤ q → q < v → J1 174 q = -1) → tz_At l G M_X12_doesMatch (tb_rm 11 0 0) none (tb_ZM G 0 0 (zQ n 0 (zqi (fun z J' => (∃ σ, (∀ k, 0 ≤ k → k < 8 → σ k = -1) ∧ MAM (mmt J b d σ u t) z J') ∧ zOf (zbut [174]) J' J ∧ gOK (J' 174) m))) (zX n 0 zN)) 0 0 n J1 2 [some (.ref 164), some (zi u), some (zi t), some (zi v)] [] := by
    intro f9
    induction f9 with
    | zero => intro v J1 hm9; exact absurd hm9 (Nat.not_lt_zero _)
    | succ f9 ih2 =>
      intro v J1 hm2 hv f1 g1
      refine tz_iload_n (pc := 2) dX12_doesMatch_2 rfl rfl ?_
      refine tz_bipush (pc := 3) dX12_doesMatch_3 (by decide) ?_
      refine tz_icmp_ge (pc := 5) (tgt := 21) dX12_doesMatch_5 (by decide) (by omega) (by decide) (fun h_5 => ?_) (fun h_5 => ?_)
      · refine tz_aload_n (pc := 21) dX12_doesMatch_21 rfl rfl ?_
        refine tz_iload_n (pc := 22) dX12_doesMatch_22 rfl rfl ?_
        refine tz_iload_n (pc := 23) dX12_doesMatch_23 rfl rfl ?_
        refine tz_cV (pc := 24) (x_match hl n _ _ _ (by omega) (by omega) b r d s m (hM.c1 f1 (by decide)) hs ht (fun q x y => by rw [g1 q x (by omega)]; omega)) vl_X12_145 dX12_doesMatch_24 o_164 rfl rfl (Nat.le_of_ble_eq_true rfl) ⟨(Nat.le_of_ble_eq_true rfl), (Nat.le_of_ble_eq_true rfl)⟩ rfl rfl (Nat.le_of_ble_eq_true rfl) (Nat.le_of_ble_eq_true rfl) (fun r9 J2 hq9 => ?_)
        obtain ⟨zm, rfl, hz_24, a9, f2, g2⟩ := hq9
        have zz : zm = 0 ∨ zm = 1 := a9.1.elim (fun q => Or.inr q.2) (fun q => Or.inl q.2)
        exact tz_zret (pc := 27) (z := zm) dX12_doesMatch_27 rfl (by omega) (Nat.le_of_ble_eq_true rfl) (Nat.le_of_ble_eq_true rfl) ⟨Nat.le_refl _, Nat.le_add_right _ _⟩ ⟨_, rfl, (by omega), ⟨⟨J1 174, fun k a c => g1 k a (by omega), by rw [mmt_of f1] at a9; exact a9⟩, f2.tr f1, g2⟩⟩
      · refine tz_aload_n (pc := 8) dX12_doesMatch_8 rfl rfl ?_
        refine tz_fR (pc := 9) dX12_doesMatch_9 fl_X12_41 r_164_22 ?_
        refine tz_iload_n (pc := 12) dX12_doesMatch_12 rfl rfl ?_
        refine tz_iconst (pc := 13) dX12_doesMatch_13 ?_
        refine tz_aS (pc := 14) (z := v) dX12_doesMatch_14 a_174 rfl (by omega) (by decide) ?_
        refine tz_iinc (pc := 15) (z := v + 1) (L2 := [_, _, _, _]) dX12_doesMatch_15 rfl (by omega) rfl ?_
        refine tz_goto (pc := 18) (tgt := 2) dX12_doesMatch_18 (by decide) ?_
        exact ih2 (v + 1) _ (by omega) (by omega) (zOf.up rfl f1) (fun q x y => (Decidable.em (q = v)).elim (fun e => by rw [e, zup_at]) (fun e => by rw [zup_ne e]; exact g1 q x (by omega)))
  exact loop2 _ 0 _ (Nat.lt_succ_self _) (by omega) zOf.rf (fun q x y => by omega)

end
section
/-! ===== match, exact ===== -/
/-- the bindings of a row are those of a match -/
def zmt (S : zJ) (τ : Int → Int) : zJ := fun c => if c = 165 then (fun k => if 1 ≤ k ∧ k < 9 then τ (k - 1) + 1 else S 165 k) else S c
noncomputable def omt (S : zJ) (s t : Int) : Bool × (Int → Int) := mmt S 0 0 (fun _ => -1) s t
theorem RW.mt {f h τ τ' : Int → Int} (w : RW f h) (b : (0 ≤ h 9 ∧ h 9 ≤ 8) ∧ (0 ≤ h 26 ∧ h 26 ≤ 12) ∧ (0 ≤ h 40 ∧ h 40 ≤ 9)) (e : sgA τ τ') : RW (fun k => if 7 ≤ k ∧ k < 7 + 8 then τ (0 + (k - 7)) else f k) (fun k => if 1 ≤ k ∧ k < 9 then τ' (k - 1) + 1 else h k) := by
  obtain ⟨⟨a1, a2, a3⟩, ⟨b1, b2⟩, ⟨c1, c2⟩, ⟨d1, d2⟩, v⟩ := w
  refine ⟨⟨a1, a2, a3⟩, ⟨b1, fun i p q => ?_⟩, ⟨c1, fun i p q => ?_⟩, ⟨d1, fun i p q => ?_⟩, fun i p q => ?_⟩
  · have q : i < h 9 := q
    dsimp only
    rw [if_neg (by omega), if_neg (by omega), if_neg (by omega), if_neg (by omega)]; exact b2 i p q
  · have q : i < h 26 := q
    dsimp only
    rw [if_neg (by omega), if_neg (by omega)]; exact c2 i p q
  · have q : i < h 40 := q
    dsimp only
    rw [if_neg (by omega), if_neg (by omega), if_neg (by omega), if_neg (by omega)]; exact d2 i p q
  · dsimp only
    rw [if_pos (by omega), if_pos (by omega), show 0 + (7 + i - 7) = i from by omega, show 1 + i - 1 = i from by omega, e i p q]
theorem A0.mt {J S : zJ} {m : Int} (E : A0 J S) (C : CT J m) (hm : J 6 12 = m) {σ σ' : Int → Int} {p t : Int} (hp : 0 ≤ p ∧ p < m) (ht : 0 ≤ t ∧ t < m) (e : sgA σ σ') : (cmt J 6 σ p t).1 = (mmt S 0 0 σ' p t).1 ∧ sgA (cmt J 6 σ p t).2 (mmt S 0 0 σ' p t).2 := by
  obtain ⟨⟨s1, s2⟩, e6, E2, E3⟩ := E
  have h6 : ∀ t, 0 ≤ t → t < m → S 166 (0 + t) = J 7 t := fun t a c => (E2 t a (by omega)).1.symm
  refine mtO_cg C.td (fun t a c => (C.ar a c).2.2.1) h6 (fun t a c => ?_) (fun t a c i x y => (E3 t i a (by omega) x y).symm) (fun s t a b c d q => by rw [(C.2.1 s a b).1.1, (C.2.1 t c d).1.1, q]) 6 σ σ' p t hp ht e
  have h7 := (C.ar a c).2.2
  unfold mar
  rw [h6 t a c, (C.2.1 t a c).1.1]
  exact arh_cg (fun q => ((s2 _ q (by omega)).2.1).symm)
set_option maxHeartbeats 4000000 in
set_option maxRecDepth 100000 in
theorem v_match {l : Launch} {G : tb_G} (hl : l.stackTraces = false) (n : Nat) (J : zJ) (s : Int) (t : Int) (hr_s : -2147483648 ≤ s ∧ s < 2147483648) (hr_t : -2147483648 ≤ t ∧ t < 2147483648) (m : Int) (S : zJ) (pn : Int) (RR : Int → Int → Int) (hI : CI J m) (h9 : J 145 10 < 1000000000) (cc : CAL J S pn RR) (h21 : S 164 21 = 0) : tz_Ok l G M_X11_match 8 0 0 [.ref 0, zi s, zi t] n J (zqi (fun z J' => CQ J' J ∧ ((((0 ≤ s ∧ s < J 6 12) ∧ (0 ≤ t ∧ t < J 6 12)) ∧ (omt S s t).1 = true ∧ ED S pn RR (zmt S (omt S s t).2, 1) J' z) ∨ (((0 ≤ s ∧ s < J 6 12) ∧ (0 ≤ t ∧ t < J 6 12)) ∧ (omt S s t).1 = false ∧ z = 0 ∧ CAL J' S pn RR) ∨ (¬ ((0 ≤ s ∧ s < J 6 12) ∧ (0 ≤ t ∧ t < J 6 12)) ∧ z = -1 ∧ CAL J' S pn RR)))) zN := by
  refine tz_Ok.of hl (by decide +kernel) rfl (tb_c1 rfl) (Nat.le_of_ble_eq_true rfl) ?_
  show tz_At l G M_X11_match (tb_rm 8 0 0) none (tb_ZM G 0 0 (zQ n 0 (zqi (fun z J' => CQ J' J ∧ ((((0 ≤ s ∧ s < J 6 12) ∧ (0 ≤ t ∧ t < J 6 12)) ∧ (omt S s t).1 = true ∧ ED S pn RR (zmt S (omt S s t).2, 1) J' z) ∨ (((0 ≤ s ∧ s < J 6 12) ∧ (0 ≤ t ∧ t < J 6 12)) ∧ (omt S s t).1 = false ∧ z = 0 ∧ CAL J' S pn RR) ∨ (¬ ((0 ≤ s ∧ s < J 6 12) ∧ (0 ≤ t ∧ t < J 6 12)) ∧ z = -1 ∧ CAL J' S pn RR))))) (zX n 0 zN)) 0 0 n J 0 [some (.ref 0), some (zi s), some (zi t)] []
  have hC := hI.1.1.1
  have hm := hI.1.1.2.1
  have hL := hI.1.1.2.2
  have hb := hC.told
  have wb := cc.2.1.b hL
  refine tz_aload_n (pc := 0) dX11_match_0 rfl rfl ?_
  refine tz_fR (pc := 1) dX11_match_1 fl_X11_29 r_0_1 ?_
  refine tz_fR (pc := 4) dX11_match_4 fl_X11_49 r_5_0 ?_
  refine tz_iload_n (pc := 7) dX11_match_7 rfl rfl ?_
  refine tz_cV (pc := 8) (c_has hl n _ _ (by omega)) vl_X11_304 dX11_match_8 o_6 rfl rfl (Nat.le_of_ble_eq_true rfl) ⟨(Nat.le_of_ble_eq_true rfl), (Nat.le_of_ble_eq_true rfl)⟩ rfl rfl (Nat.le_of_ble_eq_true rfl) (Nat.le_of_ble_eq_true rfl) (fun r9 J_8 hq9 => ?_)
  obtain ⟨z_8, rfl, hz_8, rfl, rfl⟩ := hq9
  by_cases hw_11 : 0 ≤ s ∧ s < J 6 12
  · rw [show (if 0 ≤ s ∧ s < J 6 12 then 1 else 0 : Int) = 1 from if_pos hw_11]
    refine tz_if_eqF (pc := 11) (tgt := 28) (by decide) dX11_match_11 (by decide) (by decide) ?_
    refine tz_aload_n (pc := 14) dX11_match_14 rfl rfl ?_
    refine tz_fR (pc := 15) dX11_match_15 fl_X11_29 r_0_1 ?_
    refine tz_fR (pc := 18) dX11_match_18 fl_X11_49 r_5_0 ?_
    refine tz_iload_n (pc := 21) dX11_match_21 rfl rfl ?_
    refine tz_cV (pc := 22) (c_has hl n _ _ (by omega)) vl_X11_304 dX11_match_22 o_6 rfl rfl (Nat.le_of_ble_eq_true rfl) ⟨(Nat.le_of_ble_eq_true rfl), (Nat.le_of_ble_eq_true rfl)⟩ rfl rfl (Nat.le_of_ble_eq_true rfl) (Nat.le_of_ble_eq_true rfl) (fun r9 J_22 hq9 => ?_)
    obtain ⟨z_22, rfl, hz_22, rfl, rfl⟩ := hq9
    by_cases hw_25 : 0 ≤ t ∧ t < J 6 12
    · rw [show (if 0 ≤ t ∧ t < J 6 12 then 1 else 0 : Int) = 1 from if_pos hw_25]
      refine tz_if_neT (pc := 25) (tgt := 35) (by decide) dX11_match_25 (by decide) (by decide) ?_
      refine tz_aload_n (pc := 35) dX11_match_35 rfl rfl ?_
      refine tz_fR (pc := 36) dX11_match_36 fl_X11_55 r_0_6 ?_
      refine tz_iload_n (pc := 39) dX11_match_39 rfl rfl ?_
      refine tz_iload_n (pc := 40) dX11_match_40 rfl rfl ?_
      refine tz_cV (pc := 41) (x_matches hl n _ _ _ (by omega) (by omega) m hC (by omega) (by omega)) vl_X11_326 dX11_match_41 o_139 rfl rfl (Nat.le_of_ble_eq_true rfl) ⟨(Nat.le_of_ble_eq_true rfl), (Nat.le_of_ble_eq_true rfl)⟩ rfl rfl (Nat.le_of_ble_eq_true rfl) (Nat.le_of_ble_eq_true rfl) (fun r9 J1 hq9 => ?_)
      obtain ⟨zc, rfl, hz_41, ⟨σ9, qs, q1⟩, q2, q3⟩ := hq9
      have hw1 := hI.work q2 rfl
      have hI1 := hw1.1
      have cc1 := cc.wk hI q2 rfl
      have qa : (cmt J 6 σ9 s t).1 = (omt S s t).1 ∧ sgA (cmt J 6 σ9 s t).2 (omt S s t).2 := cc.1.mt hC hm (by omega) (by omega) qs
      have qc : zc = 0 ∨ zc = 1 := q1.1.elim (fun q => Or.inr q.2) (fun q => Or.inl q.2)
      refine tz_if_ne (pc := 44) (tgt := 54) dX11_match_44 (by decide) (by omega) (fun h_44 => ?_) (fun h_44 => ?_)
      · refine tz_aload_n (pc := 54) dX11_match_54 rfl rfl ?_
        refine tz_fR (pc := 55) dX11_match_55 fl_X11_29 r_0_1 ?_
        refine tz_cV (pc := 58) (c_begin hl n _) vl_X11_287 dX11_match_58 o_5 rfl rfl (Nat.le_of_ble_eq_true rfl) ⟨(Nat.le_of_ble_eq_true rfl), (Nat.le_of_ble_eq_true rfl)⟩ rfl rfl (Nat.le_of_ble_eq_true rfl) (Nat.le_of_ble_eq_true rfl) (fun r9 Jb hq9 => ?_)
        obtain ⟨rfl, hj⟩ := hq9
        have hb9 : zOf (zbut [19, 61]) Jb J1 := by rw [← hj]; exact zOf.cp rfl (zOf.up rfl zOf.rf)
        have hb19 : ∀ k, ¬ k = 0 → Jb 19 k = J1 19 k := fun k hk => by rw [← hj, zcp_nc (by decide), zup_ne hk]
        have a0 : AC Jb m m := by rw [← hj]; exact hI1.begin
        have hb6 := a0.1.1.2.1
        obtain ⟨cb, kb, lb⟩ := cc1.begin hI1 hj
        refine tz_aload_n (pc := 61) dX11_match_61 rfl rfl ?_
        refine tz_fR (pc := 62) dX11_match_62 fl_X11_55 r_0_6 ?_
        refine tz_fR (pc := 65) dX11_match_65 fl_X11_329 r_139_1 ?_
        refine tz_iconst (pc := 68) dX11_match_68 ?_
        refine tz_aload_n (pc := 69) dX11_match_69 rfl rfl ?_
        refine tz_fR (pc := 70) dX11_match_70 fl_X11_29 r_0_1 ?_
        refine tz_fR (pc := 73) dX11_match_73 fl_X11_156 r_5_1 ?_
        refine tz_fR (pc := 76) dX11_match_76 fl_X11_167 r_18_0 ?_
        refine tz_bipush (pc := 79) dX11_match_79 (by decide) ?_
        refine tz_bipush (pc := 81) dX11_match_81 (by decide) ?_
        refine tz_cp (pc := 83) (sp := 0) (dp := 7) (ln := 8) dX11_match_83 ml_X11_332 a_140 a_19 rfl rfl (by decide) (Nat.le_of_ble_eq_true rfl) (by decide +kernel) ?_
        have fw : zOf (zbut [19]) (zcp Jb 140 19 0 7 8) Jb := zOf.cp rfl zOf.rf
        have a1 : AC (zcp Jb 140 19 0 7 8) m m := a0.led fw (a0.1.1.2.2.got (by rw [hb9 140 rfl]; exact q3))
        refine tz_aload_n (pc := 86) dX11_match_86 rfl rfl ?_
        refine tz_fR (pc := 87) dX11_match_87 fl_X11_29 r_0_1 ?_
        refine tz_cV (pc := 90) (x_keep hl n _ m m a1) vl_X11_305 dX11_match_90 o_5 rfl rfl (Nat.le_of_ble_eq_true rfl) ⟨(Nat.le_of_ble_eq_true rfl), (Nat.le_of_ble_eq_true rfl)⟩ rfl rfl (Nat.le_of_ble_eq_true rfl) (Nat.le_of_ble_eq_true rfl) (fun r9 Jk hq9 => ?_)
        obtain ⟨rfl, k9, kx⟩ := hq9
        refine tz_iconst (pc := 93) dX11_match_93 ?_
        have e9 : sgA (Jb 140) (omt S s t).2 := by rw [hb9 140 rfl, q1.2]; exact qa.2
        exact tz_iret (pc := 94) (z := 1) dX11_match_94 rfl (Nat.le_of_ble_eq_true rfl) (Nat.le_of_ble_eq_true rfl) ⟨Nat.le_refl _, Nat.le_add_right _ _⟩ ⟨_, rfl, (by decide), ⟨(CQ.k k9 (by rw [fw 145 rfl, hb9 145 rfl, hw1.2.1]; omega) ((fw 0 rfl).trans ((hb9 0 rfl).trans hw1.2.2.1)) ((fw.mono (fun c hc => by have := of_decide_eq_true hc; simp [zbut]; omega)).tr ((hb9.mono (fun c hc => by have := of_decide_eq_true hc; simp [zbut]; omega)).tr hw1.2.2.2))), Or.inl ⟨by omega, (qa.1.symm.trans (q1.1.resolve_right (fun k => by have := k.2; omega)).1), act_keep (F := (zmt S (omt S s t).2, 1)) cc1 hI1 hj fw h21 rfl (by show (if 1 ≤ (0 : Int) ∧ (0 : Int) < 9 then (omt S s t).2 (0 - 1) + 1 else S 165 0) = S 165 0; rw [if_neg (by omega)]) (fun c hc => if_neg (fun e => by rw [e] at hc; cases hc)) (cb.2.1.mt wb e9) k9.2 kx⟩⟩⟩
      · refine tz_aload_n (pc := 47) dX11_match_47 rfl rfl ?_
        refine tz_iconst (pc := 48) dX11_match_48 ?_
        refine tz_iconst (pc := 49) dX11_match_49 ?_
        refine tz_cV (pc := 50) (c_refused hl n _ _ _ (by decide) (by omega) (by decide)) vl_X11_284 dX11_match_50 o_0 rfl rfl (Nat.le_of_ble_eq_true rfl) ⟨(Nat.le_of_ble_eq_true rfl), (Nat.le_of_ble_eq_true rfl)⟩ rfl rfl (Nat.le_of_ble_eq_true rfl) (Nat.le_of_ble_eq_true rfl) (fun r9 J_50 hq9 => ?_)
        obtain ⟨z_50, rfl, hz_50, f9, rfl⟩ := hq9
        exact tz_iret (pc := 53) (z := 0) dX11_match_53 rfl (Nat.le_of_ble_eq_true rfl) (Nat.le_of_ble_eq_true rfl) ⟨Nat.le_refl _, Nat.le_add_right _ _⟩ ⟨_, rfl, (by decide), ⟨(SQ.cq ⟨⟨m, hI1.st f9⟩, f9 145 rfl, f9 0 rfl, (f9.mono (fun c hc => by have := of_decide_eq_true hc; simp [zbut]; omega))⟩ (by rw [hw1.2.1]; omega) hw1.2.2.1 hw1.2.2.2), Or.inr (Or.inl ⟨by omega, (qa.1.symm.trans (q1.1.resolve_left (fun k => by have := k.2; omega)).1), rfl, cc1.st hI1 f9⟩)⟩⟩
    · rw [show (if 0 ≤ t ∧ t < J 6 12 then 1 else 0 : Int) = 0 from if_neg hw_25]
      refine tz_if_neF (pc := 25) (tgt := 35) (by decide) dX11_match_25 (by decide) (by decide) ?_
      refine tz_aload_n (pc := 28) dX11_match_28 rfl rfl ?_
      refine tz_iconst (pc := 29) dX11_match_29 ?_
      refine tz_iconst (pc := 30) dX11_match_30 ?_
      refine tz_cV (pc := 31) (c_refused hl n _ _ _ (by decide) (by omega) (by decide)) vl_X11_284 dX11_match_31 o_0 rfl rfl (Nat.le_of_ble_eq_true rfl) ⟨(Nat.le_of_ble_eq_true rfl), (Nat.le_of_ble_eq_true rfl)⟩ rfl rfl (Nat.le_of_ble_eq_true rfl) (Nat.le_of_ble_eq_true rfl) (fun r9 J_31 hq9 => ?_)
      obtain ⟨z_31, rfl, hz_31, f9, rfl⟩ := hq9
      exact tz_iret (pc := 34) (z := (-1)) dX11_match_34 rfl (Nat.le_of_ble_eq_true rfl) (Nat.le_of_ble_eq_true rfl) ⟨Nat.le_refl _, Nat.le_add_right _ _⟩ ⟨_, rfl, (by decide), ⟨(SQ.cq ⟨⟨m, hI.st f9⟩, f9 145 rfl, f9 0 rfl, (f9.mono (fun c hc => by have := of_decide_eq_true hc; simp [zbut]; omega))⟩ (by omega) rfl zOf.rf), Or.inr (Or.inr ⟨by omega, rfl, cc.st hI f9⟩)⟩⟩
  · rw [show (if 0 ≤ s ∧ s < J 6 12 then 1 else 0 : Int) = 0 from if_neg hw_11]
    refine tz_if_eqT (pc := 11) (tgt := 28) (by decide) dX11_match_11 (by decide) (by decide) ?_
    refine tz_aload_n (pc := 28) dX11_match_28 rfl rfl ?_
    refine tz_iconst (pc := 29) dX11_match_29 ?_
    refine tz_iconst (pc := 30) dX11_match_30 ?_
    refine tz_cV (pc := 31) (c_refused hl n _ _ _ (by decide) (by omega) (by decide)) vl_X11_284 dX11_match_31 o_0 rfl rfl (Nat.le_of_ble_eq_true rfl) ⟨(Nat.le_of_ble_eq_true rfl), (Nat.le_of_ble_eq_true rfl)⟩ rfl rfl (Nat.le_of_ble_eq_true rfl) (Nat.le_of_ble_eq_true rfl) (fun r9 J_31 hq9 => ?_)
    obtain ⟨z_31, rfl, hz_31, f9, rfl⟩ := hq9
    exact tz_iret (pc := 34) (z := (-1)) dX11_match_34 rfl (Nat.le_of_ble_eq_true rfl) (Nat.le_of_ble_eq_true rfl) ⟨Nat.le_refl _, Nat.le_add_right _ _⟩ ⟨_, rfl, (by decide), ⟨(SQ.cq ⟨⟨m, hI.st f9⟩, f9 145 rfl, f9 0 rfl, (f9.mono (fun c hc => by have := of_decide_eq_true hc; simp [zbut]; omega))⟩ (by omega) rfl zOf.rf), Or.inr (Or.inr ⟨by omega, rfl, cc.st hI f9⟩)⟩⟩

theorem tbz_6 {J : zJ} {t : Int} (h : 0 ≤ t ∧ t < 400) : tbz J 166 (0 + t) = J 166 (0 + t) := by
  show (if 0 ≤ 0 + t ∧ 0 + t < 400 then J 166 (0 + t) else 0) = _
  rw [if_pos (by omega)]
theorem mmt_z {J : zJ} {s m : Int} (hM : MS J 0 0 0 s m) {σ : Int → Int} {p t : Int} (hp : 0 ≤ p ∧ p < m) (ht : 0 ≤ t ∧ t < m) (e : ∀ k, 0 ≤ k → k < 8 → σ k = -1) : (mmt J 0 0 σ p t).1 = (omt (tbz J) p t).1 ∧ sgA (mmt J 0 0 σ p t).2 (omt (tbz J) p t).2 := by
  have hT := hM.told
  refine mtO_cg hM.td (fun t a c => (hM.ar ⟨a, c⟩).2.1.1) (fun t a c => tbz_6 (by omega)) (fun t a c => ?_) (fun t a c i x y => ?_) (fun s t a b c d q => MS.hd8 q) 6 σ _ p t hp ht e
  · unfold mar
    rw [tbz_6 (by omega)]
    refine arh_cg (fun q => ?_)
    have := (hM.ar ⟨a, c⟩).2.1.2
    show (if 0 ≤ 0 + J 166 (0 + t) ∧ 0 + J 166 (0 + t) < 10 then J 170 (0 + J 166 (0 + t)) else 0) = _
    rw [if_pos (by omega)]
  · have := (hM.ar ⟨a, c⟩).1
    show (if 0 ≤ 3 * (0 + t) + i ∧ 3 * (0 + t) + i < 1200 then J 167 (3 * (0 + t) + i) else 0) = _
    rw [if_pos (by omega)]
    rfl
theorem tb0_mt {J1 Jb S : zJ} {τ τ' : Int → Int} (hb : tb0 Jb = S) (f : zOf (zbut [165]) J1 Jb) (e : sgA τ τ') (x : ∀ q, J1 165 q = if 1 ≤ q ∧ q < 1 + 8 then τ (q - 1) + 1 else Jb 165 q) : tb0 J1 = zmt S τ' := by
  funext q k
  by_cases h5 : q = 165
  · subst h5
    show (if 0 ≤ k ∧ k < 63 then J1 165 k else 0) = if 1 ≤ k ∧ k < 9 then τ' (k - 1) + 1 else S 165 k
    rw [← hb, tb0_5]
    by_cases hk : 0 ≤ k ∧ k < 63
    · rw [if_pos hk, if_pos hk, x k]
      by_cases r : 1 ≤ k ∧ k < 9
      · rw [if_pos (by omega), if_pos r, e (k - 1) (by omega) (by omega)]
      · rw [if_neg (by omega), if_neg r]
    · rw [if_neg hk, if_neg hk, if_neg (by omega)]
  · show tb0 J1 q k = (if q = 165 then _ else S q) k
    rw [if_neg h5, ← hb]
    unfold tb0
    rw [if_neg h5, if_neg h5, f 164 rfl, f 167 rfl]
    by_cases c6 : q = 166 ∨ q = 168
    · rcases c6 with c6 | c6
      · rw [c6, f 166 rfl]
      · rw [c6, f 168 rfl]
    · rw [if_neg c6, if_neg c6]
      by_cases c9 : q = 169 ∨ q = 170 ∨ q = 171
      · rcases c9 with c9 | c9 | c9
        · rw [c9, f 169 rfl]
        · rw [c9, f 170 rfl]
        · rw [c9, f 171 rfl]
      · rw [if_neg c9, if_neg c9]
theorem mt_st {J1 J0 : zJ} {k v : Int} (hk : 0 ≤ k) (hv : v = J0 174 k + 1) (x : ∀ q, J1 165 q = if 1 ≤ q ∧ q < 1 + k then J0 174 (q - 1) + 1 else J0 165 q) : ∀ q, zup J1 165 (1 + k) v 165 q = if 1 ≤ q ∧ q < 1 + (k + 1) then J0 174 (q - 1) + 1 else J0 165 q := fun q => by
  by_cases e : q = 1 + k
  · subst e
    rw [zup_at, if_pos (by omega), hv, show 1 + k - 1 = k from by omega]
  · rw [zup_ne e, x q]
    by_cases r : 1 ≤ q ∧ q < 1 + k
    · rw [if_pos r, if_pos (by omega)]
    · rw [if_neg r, if_neg (by omega)]
theorem AE3 {S J' Jb J : zJ} {F : zJ × Int} {n z : Int} {R : Int → Int → Int} {P P' Q : Prop} (q : MQr J' J) (b : MFI Jb J) (e : MED S n R F J' z ∧ MFI J' Jb) (p : P) (p' : P') : MQr J' J ∧ MFI J' J ∧ ((P ∧ P' ∧ MED S n R F J' z) ∨ Q) := ⟨q, b.tr e.2, Or.inl ⟨p, p', e.1⟩⟩
set_option maxHeartbeats 4000000 in
set_option maxRecDepth 100000 in
theorem v_qmatch {l : Launch} {G : tb_G} (hl : l.stackTraces = false) (n : Nat) (J : zJ) (x : Int) (y : Int) (hr_x : -2147483648 ≤ x ∧ x < 2147483648) (hr_y : -2147483648 ≤ y ∧ y < 2147483648) (m : Int) (pn : Int) (RR : Int → Int → Int) (hI : MI J m) (u9 : MUr J pn RR) : tz_Ok l G M_X12_match 12 0 0 [.ref 164, zi x, zi y] n J (zqi (fun z J' => MQr J' J ∧ MFI J' J ∧ ((((0 ≤ x ∧ x < J 165 0) ∧ (0 ≤ y ∧ y < J 165 0)) ∧ (omt (tbz J) x y).1 = true ∧ MED (tbz J) pn RR (zmt (tbz J) (omt (tbz J) x y).2, 1) J' z) ∨ (((0 ≤ x ∧ x < J 165 0) ∧ (0 ≤ y ∧ y < J 165 0)) ∧ (omt (tbz J) x y).1 = false ∧ z = 0 ∧ MBT J' (tbz J) ∧ MUr J' pn RR) ∨ (¬ ((0 ≤ x ∧ x < J 165 0) ∧ (0 ≤ y ∧ y < J 165 0)) ∧ z = -1 ∧ MBT J' (tbz J) ∧ MUr J' pn RR)))) zN := by
  refine tz_Ok.of hl (by decide +kernel) rfl (tb_c1 rfl) (Nat.le_of_ble_eq_true rfl) ?_
  show tz_At l G M_X12_match (tb_rm 12 0 0) none (tb_ZM G 0 0 (zQ n 0 (zqi (fun z J' => MQr J' J ∧ MFI J' J ∧ ((((0 ≤ x ∧ x < J 165 0) ∧ (0 ≤ y ∧ y < J 165 0)) ∧ (omt (tbz J) x y).1 = true ∧ MED (tbz J) pn RR (zmt (tbz J) (omt (tbz J) x y).2, 1) J' z) ∨ (((0 ≤ x ∧ x < J 165 0) ∧ (0 ≤ y ∧ y < J 165 0)) ∧ (omt (tbz J) x y).1 = false ∧ z = 0 ∧ MBT J' (tbz J) ∧ MUr J' pn RR) ∨ (¬ ((0 ≤ x ∧ x < J 165 0) ∧ (0 ≤ y ∧ y < J 165 0)) ∧ z = -1 ∧ MBT J' (tbz J) ∧ MUr J' pn RR))))) (zX n 0 zN)) 0 0 n J 0 [some (.ref 164), some (zi x), some (zi y), none] []
  have hT := hI.told
  have hW := hI.row
  have hM := hI.1
  have hL := hI.2.1
  refine tz_aload_n (pc := 0) dX12_match_0 rfl rfl ?_
  refine tz_iconst (pc := 1) dX12_match_1 ?_
  refine tz_pI (pc := 2) (kz := 8) dX12_match_2 fl_X12_68 i_164_8 rfl rfl (by decide) ?_
  refine tz_aload_n (pc := 5) dX12_match_5 rfl rfl ?_
  refine tz_iload_n (pc := 6) dX12_match_6 rfl rfl ?_
  refine tz_cV (pc := 7) (m_isTerm hl n _ _ (by omega) (by rw [(show ((zup J 164 8 0) : zJ) 165 0 = (J 165 0) from rfl)]; omega)) vl_X12_376 dX12_match_7 o_164 rfl rfl (Nat.le_of_ble_eq_true rfl) ⟨(Nat.le_of_ble_eq_true rfl), (Nat.le_of_ble_eq_true rfl)⟩ rfl rfl (Nat.le_of_ble_eq_true rfl) (Nat.le_of_ble_eq_true rfl) (fun r9 J_7 hq9 => ?_)
  obtain ⟨z_7, rfl, hz_7, rfl, ht_7⟩ := hq9
  rw [(show ((zup J 164 8 0) : zJ) 165 0 = (J 165 0) from rfl)] at ht_7
  refine tz_if_eq (pc := 10) (tgt := 21) dX12_match_10 (by decide) (by omega) (fun h_10 => ?_) (fun h_10 => ?_)
  · refine tz_aload_n (pc := 21) dX12_match_21 rfl rfl ?_
    refine tz_iconst (pc := 22) dX12_match_22 ?_
    refine tz_iconst (pc := 23) dX12_match_23 ?_
    refine tz_cV (pc := 24) (m_refuses hl n _ _ _ (by decide) (by decide) (by decide)) vl_X12_391 dX12_match_24 o_164 rfl rfl (Nat.le_of_ble_eq_true rfl) ⟨(Nat.le_of_ble_eq_true rfl), (Nat.le_of_ble_eq_true rfl)⟩ rfl rfl (Nat.le_of_ble_eq_true rfl) (Nat.le_of_ble_eq_true rfl) (fun r9 J_24 hq9 => ?_)
    obtain ⟨z_24, rfl, hz_24, rfl, f_24⟩ := hq9
    have y_24 : MZ J_24 J := MZ.tr (MZ.up (k := 8) MZ.rf (by decide)) (MZ.c f_24 (by decide))
    exact tz_iret (pc := 27) (z := (-1)) dX12_match_27 rfl (Nat.le_of_ble_eq_true rfl) (Nat.le_of_ble_eq_true rfl) ⟨Nat.le_refl _, Nat.le_add_right _ _⟩ ⟨_, rfl, (by decide), ⟨MQr.z hI y_24, MFI.z y_24, Or.inr (Or.inr ⟨by omega, rfl, MBT.z hI y_24, u9.z y_24⟩)⟩⟩
  · refine tz_aload_n (pc := 13) dX12_match_13 rfl rfl ?_
    refine tz_iload_n (pc := 14) dX12_match_14 rfl rfl ?_
    refine tz_cV (pc := 15) (m_isTerm hl n _ _ (by omega) (by rw [(show ((zup J 164 8 0) : zJ) 165 0 = (J 165 0) from rfl)]; omega)) vl_X12_376 dX12_match_15 o_164 rfl rfl (Nat.le_of_ble_eq_true rfl) ⟨(Nat.le_of_ble_eq_true rfl), (Nat.le_of_ble_eq_true rfl)⟩ rfl rfl (Nat.le_of_ble_eq_true rfl) (Nat.le_of_ble_eq_true rfl) (fun r9 J_15 hq9 => ?_)
    obtain ⟨z_15, rfl, hz_15, rfl, ht_15⟩ := hq9
    rw [(show ((zup J 164 8 0) : zJ) 165 0 = (J 165 0) from rfl)] at ht_15
    refine tz_if_ne (pc := 18) (tgt := 28) dX12_match_18 (by decide) (by omega) (fun h_18 => ?_) (fun h_18 => ?_)
    · refine tz_aload_n (pc := 28) dX12_match_28 rfl rfl ?_
      refine tz_iload_n (pc := 29) dX12_match_29 rfl rfl ?_
      refine tz_iload_n (pc := 30) dX12_match_30 rfl rfl ?_
      refine tz_cV (pc := 31) (x_doesMatch hl n _ _ _ (by omega) (by omega) 0 0 0 (J 164 9) m (hM.z (MZ.up (k := 8) MZ.rf (by decide))) (by omega) (by omega)) vl_X12_227 dX12_match_31 o_164 rfl rfl (Nat.le_of_ble_eq_true rfl) ⟨(Nat.le_of_ble_eq_true rfl), (Nat.le_of_ble_eq_true rfl)⟩ rfl rfl (Nat.le_of_ble_eq_true rfl) (Nat.le_of_ble_eq_true rfl) (fun r9 J_31 hq9 => ?_)
      obtain ⟨zc, rfl, hz_31, ⟨σ9, qs, q1⟩, f_31, g_31⟩ := hq9
      have y_31 : MZ J_31 J := MZ.tr (MZ.up (k := 8) MZ.rf (by decide)) (MZ.c f_31 (by decide))
      have qa : (mmt J 0 0 σ9 x y).1 = (omt (tbz J) x y).1 ∧ sgA (mmt J 0 0 σ9 x y).2 (omt (tbz J) x y).2 := mmt_z hM (by omega) (by omega) qs
      have q8 : MAM (mmt J 0 0 σ9 x y) zc J_31 := q1
      have qc : zc = 0 ∨ zc = 1 := q1.1.elim (fun q => Or.inr q.2) (fun q => Or.inl q.2)
      refine tz_if_ne (pc := 34) (tgt := 44) dX12_match_34 (by decide) (by omega) (fun h_34 => ?_) (fun h_34 => ?_)
      · refine tz_aload_n (pc := 44) dX12_match_44 rfl rfl ?_
        refine tz_cV (pc := 45) (m_begins hl n _) vl_X12_400 dX12_match_45 o_164 rfl rfl (Nat.le_of_ble_eq_true rfl) ⟨(Nat.le_of_ble_eq_true rfl), (Nat.le_of_ble_eq_true rfl)⟩ rfl rfl (Nat.le_of_ble_eq_true rfl) (Nat.le_of_ble_eq_true rfl) (fun r9 J_45 hq9 => ?_)
        obtain ⟨rfl, hj_45⟩ := hq9
        have a_45 : AM J_45 J m m := by rw [← hj_45]; exact AM.begin (hI.z y_31) ⟨MZ.lo y_31, SC.z y_31⟩
        have br_45 : ∀ k, (k < 63 ∨ 126 ≤ k) → J_45 165 k = (J_31 : zJ) 165 k := fun k hk => by rw [← hj_45]; exact zbg_r hk
        have bl_45 : ∀ k, ¬ k = 34 → ¬ k = 33 → ¬ k = 21 → J_45 164 k = (J_31 : zJ) 164 k := fun k u v w => by rw [← hj_45]; exact zbg_f u v w
        have bo_45 : zOf (zbut [164, 165]) J_45 J_31 := by rw [← hj_45]; exact zbg_of
        have b3_45 : J_45 164 21 = 0 ∧ J_45 164 33 = 0 ∧ J_45 164 34 = 0 := by rw [← hj_45]; exact ⟨rfl, rfl, rfl⟩
        have s9_45 : J_45 164 9 = J 164 9 := (bl_45 9 (by decide) (by decide) (by decide)).trans (y_31.2 9 (by decide) (by decide))
        obtain ⟨⟨bt_45, bs_45, bm_45, ba_45⟩, bu_45, bn_45, bf_45, bi_45⟩ := mbeg hI y_31 hj_45 u9
        refine tz_iconst (pc := 48) dX12_match_48 ?_
        refine tz_istore_n (pc := 49) (L2 := [_, _, _, _]) dX12_match_49 rfl (by decide) rfl ?_
        have loop50 : ∀ (f9 : Nat) (k : Int) (J1 : zJ), ((8 - k).toNat) < f9 → (0 ≤ k ∧ k ≤ 8) → (zOf (zbut [165]) J1 J_45) → (∀ q, (q < 1 ∨ 8 < q) → J1 165 q = J_45 165 q) → (∀ v, 0 ≤ v → v < k → 0 ≤ J1 165 (1 + v) ∧ J1 165 (1 + v) ≤ m) → (∀ q, J1 165 q = if 1 ≤ q ∧ q < 1 + k then J_45 174 (q - 1) + 1 else J_45 165 q) → tz_At l G M_X12_match (tb_rm 12 0 0) none (tb_ZM G 0 0 (zQ n 0 (zqi (fun z J' => MQr J' J ∧ MFI J' J ∧ ((((0 ≤ x ∧ x < J 165 0) ∧ (0 ≤ y ∧ y < J 165 0)) ∧ (omt (tbz J) x y).1 = true ∧ MED (tbz J) pn RR (zmt (tbz J) (omt (tbz J) x y).2, 1) J' z) ∨ (((0 ≤ x ∧ x < J 165 0) ∧ (0 ≤ y ∧ y < J 165 0)) ∧ (omt (tbz J) x y).1 = false ∧ z = 0 ∧ MBT J' (tbz J) ∧ MUr J' pn RR) ∨ (¬ ((0 ≤ x ∧ x < J 165 0) ∧ (0 ≤ y ∧ y < J 165 0)) ∧ z = -1 ∧ MBT J' (tbz J) ∧ MUr J' pn RR))))) (zX n 0 zN)) 0 0 n J1 50 [some (.ref 164), some (zi x), some (zi y), some (zi k)] [] := by
          intro f9
          induction f9 with
          | zero => intro k J1 hm9; exact absurd hm9 (Nat.not_lt_zero _)
          | succ f9 ih50 =>
            intro k J1 hm50 hk f1 e1 h1 x1
            refine tz_iload_n (pc := 50) dX12_match_50 rfl rfl ?_
            refine tz_bipush (pc := 51) dX12_match_51 (by decide) ?_
            refine tz_icmp_ge (pc := 53) (tgt := 78) dX12_match_53 (by decide) (by omega) (by decide) (fun h_53 => ?_) (fun h_53 => ?_)
            · refine tz_aload_n (pc := 78) dX12_match_78 rfl rfl ?_
              refine tz_iconst (pc := 79) dX12_match_79 ?_
              refine tz_cV (pc := 80) (m_keeps hl n _ _ (by decide) ((AM.matchs a_45 f1 e1 (fun v p q => h1 v p (by omega)))).2.2.2.1.1.1 ((AM.matchs a_45 f1 e1 (fun v p q => h1 v p (by omega)))).2.2.2.1.1.2) vl_X12_403 dX12_match_80 o_164 rfl rfl (Nat.le_of_ble_eq_true rfl) ⟨(Nat.le_of_ble_eq_true rfl), (Nat.le_of_ble_eq_true rfl)⟩ rfl rfl (Nat.le_of_ble_eq_true rfl) (Nat.le_of_ble_eq_true rfl) (fun r9 J_80 hq9 => ?_)
              obtain ⟨z_80, rfl, hz_80, k_80⟩ := hq9
              exact tz_iret (pc := 83) (z := z_80) dX12_match_83 rfl (Nat.le_of_ble_eq_true rfl) (Nat.le_of_ble_eq_true rfl) ⟨Nat.le_refl _, Nat.le_add_right _ _⟩ ⟨_, rfl, (by omega), (AE3 (AM.keep (AM.matchs a_45 f1 e1 (fun v p q => h1 v p (by omega))) k_80) bi_45 (mact_end (F := (zmt (tbz J) (omt (tbz J) x y).2, 1)) bt_45 bs_45 bm_45 ba_45 bu_45 bn_45 bf_45 (MOP.r5 f1 (fun k a => e1 k (by omega))) (tb0_mt bt_45 f1 (τ := J_45 174) (by rw [bo_45 174 rfl, q8.2]; exact qa.2) (fun q => by rw [x1 q, show k = 8 from by omega])) (by show (if 1 ≤ (0 : Int) ∧ (0 : Int) < 9 then (omt (tbz J) x y).2 (0 - 1) + 1 else tbz J 165 0) ≤ 400; rw [if_neg (by omega), bs_45]; exact bm_45) (fun _ => rfl) k_80) (by omega) (qa.1.symm.trans (q1.1.resolve_right (fun k => by have := k.2; omega)).1))⟩
            · have hg9 := g_31 k (by omega) (by omega)
              refine tz_aload_n (pc := 56) dX12_match_56 rfl rfl ?_
              refine tz_fR (pc := 57) dX12_match_57 fl_X12_9 r_164_0 ?_
              refine tz_iconst (pc := 60) dX12_match_60 ?_
              refine tz_iload_n (pc := 61) dX12_match_61 rfl rfl ?_
              refine tz_iadd (pc := 62) (v := 1 + k) dX12_match_62 rfl ?_
              refine tz_aload_n (pc := 63) dX12_match_63 rfl rfl ?_
              refine tz_fR (pc := 64) dX12_match_64 fl_X12_41 r_164_22 ?_
              refine tz_iload_n (pc := 67) dX12_match_67 rfl rfl ?_
              refine tz_aL (pc := 68) (z := k) (v := (J_31 174 k)) dX12_match_68 a_174 rfl (by omega) (Eq.trans (congrFun (f1 174 rfl) k) (Eq.trans (congrFun (bo_45 174 rfl) k) rfl)) (fun r_68 => ?_)
              refine tz_iconst (pc := 69) dX12_match_69 ?_
              refine tz_iadd (pc := 70) (v := (J_31 174 k) + 1) dX12_match_70 rfl ?_
              refine tz_aS (pc := 71) (z := (1 + k)) dX12_match_71 a_165 rfl (by omega) (by omega) ?_
              refine tz_iinc (pc := 72) (z := k + 1) (L2 := [_, _, _, _]) dX12_match_72 rfl (by omega) rfl ?_
              refine tz_goto (pc := 75) (tgt := 50) dX12_match_75 (by decide) ?_
              exact ih50 (k + 1) _ (by omega) (by omega) (zOf.up rfl f1) (fun q z => (zup_ne (by omega)).trans (e1 q z)) (fun v p q => (Decidable.em (v = k)).elim (fun e => by rw [e, zup_at]; omega) (fun e => by rw [zup_ne (by omega)]; exact h1 v p (by omega))) (mt_st (by omega) (by rw [bo_45 174 rfl]) x1)
        exact loop50 _ 0 _ (Nat.lt_succ_self _) (by omega) zOf.rf (fun _ _ => rfl) (fun v p q => by omega) (fun q => by rw [if_neg (by omega)])
      · refine tz_aload_n (pc := 37) dX12_match_37 rfl rfl ?_
        refine tz_iconst (pc := 38) dX12_match_38 ?_
        refine tz_iconst (pc := 39) dX12_match_39 ?_
        refine tz_cV (pc := 40) (m_refuses hl n _ _ _ (by decide) (by decide) (by decide)) vl_X12_391 dX12_match_40 o_164 rfl rfl (Nat.le_of_ble_eq_true rfl) ⟨(Nat.le_of_ble_eq_true rfl), (Nat.le_of_ble_eq_true rfl)⟩ rfl rfl (Nat.le_of_ble_eq_true rfl) (Nat.le_of_ble_eq_true rfl) (fun r9 J_40 hq9 => ?_)
        obtain ⟨z_40, rfl, hz_40, rfl, f_40⟩ := hq9
        have y_40 : MZ J_40 J := MZ.tr y_31 (MZ.c f_40 (by decide))
        exact tz_iret (pc := 43) (z := 0) dX12_match_43 rfl (Nat.le_of_ble_eq_true rfl) (Nat.le_of_ble_eq_true rfl) ⟨Nat.le_refl _, Nat.le_add_right _ _⟩ ⟨_, rfl, (by decide), ⟨MQr.z hI y_40, MFI.z y_40, Or.inr (Or.inl ⟨by omega, (qa.1.symm.trans (q1.1.resolve_left (fun k => by have := k.2; omega)).1), rfl, MBT.z hI y_40, u9.z y_40⟩)⟩⟩
    · refine tz_aload_n (pc := 21) dX12_match_21 rfl rfl ?_
      refine tz_iconst (pc := 22) dX12_match_22 ?_
      refine tz_iconst (pc := 23) dX12_match_23 ?_
      refine tz_cV (pc := 24) (m_refuses hl n _ _ _ (by decide) (by decide) (by decide)) vl_X12_391 dX12_match_24 o_164 rfl rfl (Nat.le_of_ble_eq_true rfl) ⟨(Nat.le_of_ble_eq_true rfl), (Nat.le_of_ble_eq_true rfl)⟩ rfl rfl (Nat.le_of_ble_eq_true rfl) (Nat.le_of_ble_eq_true rfl) (fun r9 J_24 hq9 => ?_)
      obtain ⟨z_24, rfl, hz_24, rfl, f_24⟩ := hq9
      have y_24 : MZ J_24 J := MZ.tr (MZ.up (k := 8) MZ.rf (by decide)) (MZ.c f_24 (by decide))
      exact tz_iret (pc := 27) (z := (-1)) dX12_match_27 rfl (Nat.le_of_ble_eq_true rfl) (Nat.le_of_ble_eq_true rfl) ⟨Nat.le_refl _, Nat.le_add_right _ _⟩ ⟨_, rfl, (by decide), ⟨MQr.z hI y_24, MFI.z y_24, Or.inr (Or.inr ⟨by omega, rfl, MBT.z hI y_24, u9.z y_24⟩)⟩⟩

end
section
/-! ===== putting bindings in, as a function ===== -/
/-- an argument, if there is one -/
def apA (T : zJ → Int → zJ × Int) (G : zJ) (t A i : Int) : zJ × Int := if i < A then T G (G 167 (3 * (0 + t) + i)) else (G, 0)
/-- a term whose arguments are made anew by T -/
def ap0 (T : zJ → Int → zJ × Int) (G : zJ) (t : Int) : zJ × Int := apA T G t (oar G (G 166 (0 + t))) 0
def ap1 (T : zJ → Int → zJ × Int) (G : zJ) (t : Int) : zJ × Int := apA T (ap0 T G t).1 t (oar G (G 166 (0 + t))) 1
def ap2 (T : zJ → Int → zJ × Int) (G : zJ) (t : Int) : zJ × Int := apA T (ap1 T G t).1 t (oar G (G 166 (0 + t))) 2
noncomputable def apR (T : zJ → Int → zJ × Int) (G : zJ) (t : Int) : zJ × Int := tmO (ap2 T G t).1 (G 166 (0 + t)) (ap0 T G t).2 (ap1 T G t).2 (ap2 T G t).2
noncomputable def apO (β : Int → Int) : Nat → zJ → Int → zJ × Int
  | 0, G, _ => (zup G 164 21 1, 0)
  | k + 1, G, t => if G 164 21 = 0 then (if G 166 (0 + t) < 0 then (G, if β (-1 - G 166 (0 + t)) = -1 then t else β (-1 - G 166 (0 + t))) else apR (apO β k) G t) else (G, 0)
theorem apO_s {β : Int → Int} {k : Nat} {G : zJ} {t : Int} : apO β (k + 1) G t = if G 164 21 = 0 then (if G 166 (0 + t) < 0 then (G, if β (-1 - G 166 (0 + t)) = -1 then t else β (-1 - G 166 (0 + t))) else apR (apO β k) G t) else (G, 0) := rfl
theorem apO_f {β : Int → Int} {k : Nat} {G : zJ} {t : Int} (h : ¬ G 164 21 = 0) : ¬ (apO β k G t).1 164 21 = 0 := by
  cases k with
  | zero => show ¬ (1 : Int) = 0; decide
  | succ k => rw [apO_s, if_neg h]; exact h
theorem tmO_f {G : zJ} {h x y w : Int} (q : ¬ G 164 21 = 0) : tmO G h x y w = (G, 0) := by unfold tmO; rw [if_neg q]
/-- what the class answers, and where it is then -/
def EXO (F : zJ × Int) (z : Int) (J' : zJ) : Prop := (z = -3 ∧ ¬ F.1 164 21 = 0) ∨ (0 ≤ z ∧ F.1 164 21 = 0 ∧ A0 J' F.1 ∧ z = F.2)
/-- a stage of the arguments: z is an argument's answer, if there is one -/
def SGE (r : zJ × Int) (J1 : zJ) (z A i : Int) : Prop := r.1 164 21 = 0 ∧ A0 J1 r.1 ∧ (i < A → 0 ≤ z ∧ z = r.2)
theorem sg_st {T : zJ → Int → zJ × Int} {G J1 J : zJ} {t A i z m : Int} (hG : G 164 21 = 0) (E : A0 J G) (hm : J 6 12 = m) (ht : 0 ≤ t ∧ t < m) (hi : 0 ≤ i) (hA : J 8 t = A) (h : (i < A ∧ (∀ S, S 164 21 = 0 → A0 J S → EXO (T S (J 9 (t * 3 + i))) z J1)) ∨ (¬ i < A ∧ J1 = J)) : (i < A ∧ z = -3 ∧ ¬ (apA T G t A i).1 164 21 = 0) ∨ SGE (apA T G t A i) J1 z A i := by
  unfold apA
  rcases h with ⟨h1, h2⟩ | ⟨h1, h2⟩
  · have e : G 167 (3 * (0 + t) + i) = J 9 (t * 3 + i) := (E.2.2.2 t i ht.1 (by have := E.2.1; omega) hi (by omega)).symm
    rw [if_pos h1, e]
    rcases h2 G hG E with ⟨q1, q2⟩ | ⟨q1, q2, q3, q4⟩
    · exact Or.inl ⟨h1, q1, q2⟩
    · exact Or.inr ⟨q2, q3, fun _ => ⟨q1, q4⟩⟩
  · rw [if_neg h1, h2]
    exact Or.inr ⟨hG, E, fun q => absurd q h1⟩
theorem apA_f {T : zJ → Int → zJ × Int} (hT : ∀ S t, ¬ S 164 21 = 0 → ¬ (T S t).1 164 21 = 0) {G : zJ} {t A i : Int} (h : ¬ G 164 21 = 0) : ¬ (apA T G t A i).1 164 21 = 0 := by
  unfold apA
  split
  · exact hT _ _ h
  · exact h
theorem made_neg {J J' : zJ} {m h a b c z : Int} (p : madeP J m h a b c z J') (q : ¬ okA (arh (J 3) h) a b c) : z = -3 := by
  obtain ⟨_, _, p⟩ := p
  rcases p with ⟨⟨pz, _⟩, _⟩ | ⟨⟨_, _, k⟩, _⟩ | ⟨⟨_, _, _, k, _⟩, _⟩
  · exact pz
  · exact absurd k q
  · exact absurd k q
/-- what an argument's call tells (or that there is none) -/
def ARG (T : zJ → Int → zJ × Int) (J1 J : zJ) (t i z m m1 : Int) : Prop := (i < J 8 t ∧ GR J1 J m m1 ∧ (z = -3 ∨ (0 ≤ z ∧ z < m1)) ∧ (∀ S, S 164 21 = 0 → A0 J S → EXO (T S (J 9 (t * 3 + i))) z J1)) ∨ (¬ i < J 8 t ∧ J1 = J ∧ m1 = m)
theorem ARG.gr {T : zJ → Int → zJ × Int} {J1 J : zJ} {t i z m m1 : Int} (a : ARG T J1 J t i z m m1) (C : CT J m) (hm : J 6 12 = m) : GR J1 J m m1 := by
  rcases a with ⟨_, g, _⟩ | ⟨_, e, e'⟩
  · exact g
  · rw [e, e']; exact GR.rf C hm
theorem ap_end {T : zJ → Int → zJ × Int} (hT : ∀ S t, ¬ S 164 21 = 0 → ¬ (T S t).1 164 21 = 0) {G J J0 J1 J2 J' : zJ} {t m m0 m1 m2 z0 z1 z2 z : Int} (hG : G 164 21 = 0) (E : A0 J G) (C : CT J m) (hm : J 6 12 = m) (ht : 0 ≤ t ∧ t < m) (a0 : ARG T J0 J t 0 z0 m m0) (a1 : ARG T J1 J0 t 1 z1 m0 m1) (a2 : ARG T J2 J1 t 2 z2 m1 m2) (p : madeP J2 m2 (J 7 t) z0 z1 z2 z J') : EXO (apR T G t) z J' := by
  have g0 := a0.gr C hm
  have g1 := a1.gr g0.2.1 g0.2.2.1
  have g2 := a2.gr g1.2.1 g1.2.2.1
  have g20 := (g0.tr g1).tr g2
  have l0 := g0.1
  have l1 := g1.1
  have l2 := g2.1
  have e8 := (C.2.1 t ht.1 ht.2).1.1
  have hd := (C.ar ht.1 ht.2).2.2
  have eh : G 166 (0 + t) = J 7 t := (E.2.2.1 t ht.1 (by have := E.2.1; omega)).1.symm
  have eA : oar G (G 166 (0 + t)) = J 8 t := by rw [eh, E.ar hd.2, e8]
  have k0 : J0 8 t = J 8 t := (g0.2.2.2.1.1 t ht.1 ht.2).2.1
  have k1 : J1 8 t = J 8 t := ((g0.tr g1).2.2.2.1.1 t ht.1 ht.2).2.1
  have e3 : J2 3 = J 3 := g20.2.2.2.2 3 rfl
  have e1 : J2 1 = J 1 := g20.2.2.2.2 1 rfl
  have ea : arh (J2 3) (J 7 t) = J 8 t := by rw [e3, e8]
  have st0 : (0 < J 8 t ∧ z0 = -3 ∧ ¬ (ap0 T G t).1 164 21 = 0) ∨ SGE (ap0 T G t) J0 z0 (J 8 t) 0 := by
    have := sg_st (T := T) (J1 := J0) (z := z0) hG E hm ht (i := 0) (by decide) rfl (a0.imp (fun q => ⟨q.1, q.2.2.2⟩) (fun q => ⟨q.1, q.2.1⟩))
    unfold ap0
    rw [eA]
    exact this
  have st1 : ((0 < J 8 t ∧ z0 = -3) ∨ (1 < J 8 t ∧ z1 = -3)) ∧ ¬ (ap1 T G t).1 164 21 = 0 ∨ (SGE (ap0 T G t) J0 z0 (J 8 t) 0 ∧ SGE (ap1 T G t) J1 z1 (J 8 t) 1) := by
    unfold ap1
    rw [eA]
    rcases st0 with ⟨q1, q2, q3⟩ | q
    · exact Or.inl ⟨Or.inl ⟨q1, q2⟩, apA_f hT q3⟩
    · have := sg_st (T := T) (J1 := J1) (z := z1) q.1 q.2.1 g0.2.2.1 ⟨ht.1, by omega⟩ (i := 1) (by decide) k0 (by rw [← k0]; exact a1.imp (fun q => ⟨q.1, q.2.2.2⟩) (fun q => ⟨q.1, q.2.1⟩))
      rcases this with ⟨r1, r2, r3⟩ | r
      · exact Or.inl ⟨Or.inr ⟨r1, r2⟩, r3⟩
      · exact Or.inr ⟨q, r⟩
  have st2 : ((0 < J 8 t ∧ z0 = -3) ∨ (1 < J 8 t ∧ z1 = -3) ∨ (2 < J 8 t ∧ z2 = -3)) ∧ ¬ (ap2 T G t).1 164 21 = 0 ∨ (SGE (ap0 T G t) J0 z0 (J 8 t) 0 ∧ SGE (ap1 T G t) J1 z1 (J 8 t) 1 ∧ SGE (ap2 T G t) J2 z2 (J 8 t) 2) := by
    unfold ap2
    rw [eA]
    rcases st1 with ⟨q1, q3⟩ | ⟨q0, q⟩
    · exact Or.inl ⟨q1.imp id Or.inl, apA_f hT q3⟩
    · have := sg_st (T := T) (J1 := J2) (z := z2) q.1 q.2.1 g1.2.2.1 ⟨ht.1, by omega⟩ (i := 2) (by decide) k1 (by rw [← k1]; exact a2.imp (fun q => ⟨q.1, q.2.2.2⟩) (fun q => ⟨q.1, q.2.1⟩))
      rcases this with ⟨r1, r2, r3⟩ | r
      · exact Or.inl ⟨Or.inr (Or.inr ⟨r1, r2⟩), r3⟩
      · exact Or.inr ⟨q0, q, r⟩
  unfold apR
  rcases st2 with ⟨q1, q2⟩ | ⟨q0, q1, q2⟩
  · refine Or.inl ⟨made_neg p (fun k => ?_), ?_⟩
    · rw [ea] at k
      obtain ⟨k0, k1, k2⟩ := k
      rcases q1 with ⟨u, v⟩ | ⟨u, v⟩ | ⟨u, v⟩
      · have := k0 u; omega
      · have := k1 u; omega
      · have := k2 u; omega
    · rw [tmO_f q2]; exact q2
  · have b0 : 0 < J 8 t → 0 ≤ z0 ∧ z0 < m2 := fun u => by
      have r := q0.2.2 u
      rcases a0 with ⟨_, _, w, _⟩ | ⟨w, _⟩
      · omega
      · omega
    have b1 : 1 < J 8 t → 0 ≤ z1 ∧ z1 < m2 := fun u => by
      have r := q1.2.2 u
      rcases a1 with ⟨_, _, w, _⟩ | ⟨w, _⟩
      · omega
      · omega
    have b2 : 2 < J 8 t → 0 ≤ z2 ∧ z2 < m2 := fun u => by
      have r := q2.2.2 u
      rcases a2 with ⟨_, _, w, _⟩ | ⟨w, _⟩
      · omega
      · omega
    rw [eh]
    have := q2.2.1.made q2.1 g2.2.1 g2.2.2.1 (h := J 7 t) (a := z0) (b := z1) (c := z2) (x := (ap0 T G t).2) (y := (ap1 T G t).2) (w := (ap2 T G t).2) (by rw [e1]; exact hd) (by rw [ea]; exact ⟨fun u => (q0.2.2 u).2, fun u => (q1.2.2 u).2, fun u => (q2.2.2 u).2⟩) (by rw [ea]; exact ⟨b0, b1, b2⟩) p
    exact this.imp (fun u => ⟨u.1.2, u.2⟩) id
end
