/-! ===== normalOf of the class: what its rows show of the machine ===== -/
theorem zof_sr {S : zJ} {f : Int → Int} : zOf (zbut [165]) (sr S f) S := fun c hc => by
  have h : ¬ c = 165 := fun e => by rw [e] at hc; cases hc
  exact if_neg h
theorem sr_5 {S : zJ} {f : Int → Int} : sr S f 165 = f := if_pos rfl
theorem sr_4 {S : zJ} {f : Int → Int} : sr S f 164 = S 164 := if_neg (by decide)
theorem A0.sr {J S : zJ} {f : Int → Int} (E : A0 J S) (h : f 0 = S 165 0) : A0 J (sr S f) := E.g (by rw [sr_5]; exact h) zof_sr
/-- the frames -/
def NFK (m : Int) (J : zJ) (σ : Int) : List NFr → Prop
  | [] => True
  | F :: K => ((0 ≤ F.1 ∧ F.1 < m) ∧ J 159 (K.length : Int) = F.1 ∧ J 160 (K.length : Int) = F.2.1 ∧ (F.2.1 < 4 → (0 < F.2.1 → J 161 ((K.length : Int) * 3) = F.2.2.1 ∧ 0 ≤ F.2.2.1) ∧ (1 < F.2.1 → J 161 ((K.length : Int) * 3 + 1) = F.2.2.2.1 ∧ 0 ≤ F.2.2.2.1) ∧ (2 < F.2.1 → J 161 ((K.length : Int) * 3 + 2) = F.2.2.2.2 ∧ 0 ≤ F.2.2.2.2)) ∧ (K.length : Int) + J 12 F.1 ≤ 6 * (σ + 1)) ∧ NFK m J σ K
theorem nfk_l {F : NFr} {K : List NFr} : (((F :: K).length : Nat) : Int) = (K.length : Int) + 1 := by
  rw [List.length_cons]
  omega
theorem NFK.of {m m' σ σ' : Int} {J' J : zJ} (l : m ≤ m') (s : σ ≤ σ') (e2 : ∀ t, 0 ≤ t → t < m → J' 12 t = J 12 t) : ∀ (K : List NFr), (∀ f, 0 ≤ f → f < (K.length : Int) → J' 159 f = J 159 f ∧ J' 160 f = J 160 f) → (∀ q, 0 ≤ q → q < (K.length : Int) * 3 → J' 161 q = J 161 q) → NFK m J σ K → NFK m' J' σ' K
  | [], _, _, _ => trivial
  | F :: K, e, e1, ⟨⟨a, b, c, d, x⟩, r⟩ => by
    have hl := nfk_l (F := F) (K := K)
    have q := e (K.length : Int) (by omega) (by omega)
    refine ⟨⟨⟨a.1, by omega⟩, q.1.trans b, q.2.trans c, fun y => ?_, ?_⟩, NFK.of l s e2 K (fun f p r => e f p (by omega)) (fun f p r => e1 f p (by omega)) r⟩
    · obtain ⟨d0, d1, d2⟩ := d y
      exact ⟨fun w => ⟨(e1 _ (by omega) (by omega)).trans (d0 w).1, (d0 w).2⟩, fun w => ⟨(e1 _ (by omega) (by omega)).trans (d1 w).1, (d1 w).2⟩, fun w => ⟨(e1 _ (by omega) (by omega)).trans (d2 w).1, (d2 w).2⟩⟩
    · rw [e2 _ a.1 a.2]; omega
theorem NFK.fr {m m' σ σ' : Int} {J' J : zJ} {K : List NFr} (r : NFK m J σ K) (l : m ≤ m') (s : σ ≤ σ') (e2 : ∀ t, 0 ≤ t → t < m → J' 12 t = J 12 t) (e : ∀ f, 0 ≤ f → f < (K.length : Int) → J' 159 f = J 159 f ∧ J' 160 f = J 160 f) (e1 : ∀ q, 0 ≤ q → q < (K.length : Int) * 3 → J' 161 q = J 161 q) : NFK m' J' σ' K := NFK.of l s e2 K e e1 r
/-- the class is where the machine is -/
def NSH (m : Int) (J S : zJ) (σ : Int) (K : List NFr) : Prop := (A0 J S ∧ RW (J 19) (S 165) ∧ S 164 21 = 0 ∧ S 165 40 ≤ S 165 39) ∧ (J 158 8 = 100 - σ ∧ 0 ≤ σ ∧ σ ≤ 100) ∧ J 158 7 = (K.length : Int) ∧ NFK m J σ K
def NCG (m : Int) (J : zJ) (z : Int) (c : NCf) : Prop := (((c.2.2 = -1 ∧ ∃ F K, c.2.1 = F :: K ∧ F.2.1 < 4) ∨ 0 ≤ c.2.2) ∧ z = c.2.2 ∧ NSH m J c.1.1 c.1.2 c.2.1) ∨ (c.2.1 = [] ∧ ((c.2.2 = -3 ∧ z = -3) ∨ (c.2.2 = -4 ∧ z = -2)))
theorem NSH.as {m : Int} {J' J S' S : zJ} {σ : Int} {K : List NFr} (N : NSH m J S σ K) (f : zOf (zbut [19, 140]) J' J) (E : A0 J' S') (W : RW (J' 19) (S' 165)) (q : S' 164 21 = 0) (r : S' 165 40 ≤ S' 165 39) : NSH m J' S' σ K :=
  ⟨⟨E, W, q, r⟩, by rw [f 158 rfl]; exact N.2.1, by rw [f 158 rfl]; exact N.2.2.1, NFK.of (Int.le_refl _) (Int.le_refl _) (fun t _ _ => by rw [f 12 rfl]) K (fun q _ _ => by rw [f 159 rfl, f 160 rfl]; exact ⟨rfl, rfl⟩) (fun q _ _ => by rw [f 161 rfl]) N.2.2.2⟩
theorem z19f {J' J S : zJ} (E : A0 J S) (f : zOf (zbut [19, 140]) J' J) : A0 J' S := E.f (fun c hc => f c (by rcases hc with h | h | h | h | h | h | h | h | h <;> (rw [h]; rfl)))
theorem z19m {J' J : zJ} (f : zOf (zbut [19]) J' J) : zOf (zbut [19, 140]) J' J := f.mono (zbut_sub (fun c hc => by simp at hc ⊢; omega))
theorem NSH.c140 {m : Int} {J' J S : zJ} {σ : Int} {K : List NFr} (N : NSH m J S σ K) (f : zOf (zbut [140]) J' J) : NSH m J' S σ K := N.as (f.mono (zbut_sub (fun c hc => by simp at hc ⊢; omega))) (z19f N.1.1 (f.mono (zbut_sub (fun c hc => by simp at hc ⊢; omega)))) (by rw [f 19 rfl]; exact N.1.2.1) N.1.2.2.1 N.1.2.2.2
theorem NSH.made {m m' : Int} {J' J S' S : zJ} {σ : Int} {K : List NFr} (N : NSH m J S σ K) (g : GR J' J m m') (E : A0 J' S') (h5 : ∀ k, ¬ k = 0 → S' 165 k = S 165 k) (q : S' 164 21 = 0) (l : LI (J 19) m) : NSH m' J' S' σ K :=
  ⟨⟨E, by rw [g.2.2.2.2 19 rfl]; exact N.1.2.1.to l (fun k a b => h5 k (by omega)), q, by rw [h5 40 (by decide), h5 39 (by decide)]; exact N.1.2.2.2⟩, by rw [g.2.2.2.2 158 rfl]; exact N.2.1, by rw [g.2.2.2.2 158 rfl]; exact N.2.2.1, NFK.of g.1 (Int.le_refl _) (fun t a b => (g.2.2.2.1.1 t a b).2.2.2.2.1) K (fun q _ _ => by rw [g.2.2.2.2 159 rfl, g.2.2.2.2 160 rfl]; exact ⟨rfl, rfl⟩) (fun q _ _ => by rw [g.2.2.2.2 161 rfl]) N.2.2.2⟩
theorem ncg_v {m σ t : Int} {J S : zJ} {K : List NFr} (N : NSH m J S σ K) (C : CT J m) (hm : J 6 12 = m) (ht : 0 ≤ t ∧ t < m) (hv : J 7 t < 0) : NCG m J t (nOP S σ K t) := by
  unfold nOP
  rw [if_pos (by rw [(N.1.1.tm C hm ht).1]; exact hv)]
  exact Or.inl ⟨Or.inr ht.1, rfl, N⟩
theorem mhO_r {h : Int → Int} {w : Int} (r : h 40 ≤ h 39 ∧ h 39 ≤ 9) (hw : 0 ≤ w ∧ w < h 40) : mhO h w 40 ≤ mhO h w 39 ∧ mhO h w 0 = h 0 := by
  have a : ∀ k : Int, ¬ k = 61 → (fun k : Int => if k = 61 then zw (h 61 + 1) else h k) k = h k := fun k q => if_neg q
  have m40 : mlO (fun k : Int => if k = 61 then zw (h 61 + 1) else h k) w 40 = h 40 - 1 := (if_pos rfl : mlO (fun k : Int => if k = 61 then zw (h 61 + 1) else h k) w 40 = (fun k : Int => if k = 61 then zw (h 61 + 1) else h k) 40 - 1).trans (by rw [a 40 (by decide)])
  have e40 : mhO h w 40 = h 40 := by
    show maO (mlO (fun k : Int => if k = 61 then zw (h 61 + 1) else h k) w) _ _ 40 = _
    have : maO (mlO (fun k : Int => if k = 61 then zw (h 61 + 1) else h k) w) (h (41 + 2 * w)) (h (41 + 2 * w + 1)) 40 = mlO (fun k : Int => if k = 61 then zw (h 61 + 1) else h k) w 40 + 1 := if_pos rfl
    rw [this, m40]
    omega
  have o : ∀ k : Int, k < 40 → mhO h w k = h k := fun k q => by
    show maO (mlO (fun k : Int => if k = 61 then zw (h 61 + 1) else h k) w) _ _ k = _
    rw [maO_o (Or.inl q) (by rw [m40]; omega), mlO_o (Or.inl q) ⟨hw.1, by rw [if_neg (show ¬ (40 : Int) = 61 by decide)]; omega⟩]
    exact a k (by omega)
  rw [e40, o 39 (by decide), o 0 (by decide)]
  exact ⟨r.1, rfl⟩
theorem mgO_r {h : Int → Int} {t z : Int} (r : 0 ≤ h 40 ∧ h 40 ≤ h 39 ∧ h 39 ≤ 9) : mgO h t z 40 ≤ mgO h t z 39 := by
  rw [mgO_o (k := 39) (Or.inl (by decide)) r]
  unfold mgO
  by_cases a : h 39 = 0
  · rw [if_pos a]; exact r.2.1
  · rw [if_neg a]
    by_cases c : h 40 = h 39
    · rw [if_pos c]
      show mlO h 0 40 + 1 ≤ h 39
      have e40 : mlO h 0 40 = h 40 - 1 := if_pos rfl
      rw [e40]
      omega
    · rw [if_neg c]
      show h 40 + 1 ≤ h 39
      omega
theorem RW.r9 {f h : Int → Int} {m : Int} (W : RW f h) (l : LI f m) : 0 ≤ h 40 ∧ h 39 ≤ 9 := by
  have a := W.1.1
  have b := W.2.2.2.1.1
  have c := l.1
  omega
theorem ncg_m {m σ t i z : Int} {J' J S : zJ} {K : List NFr} (N : NSH m J S σ K) (C : CT J m) (hm : J 6 12 = m) (hL : LI (J 19) m) (ht : 0 ≤ t ∧ t < m) (hv : ¬ J 7 t < 0) (hi : 0 ≤ i ∧ i < J 19 6 ∧ J 19 (43 + i) = t) (hn : ∀ q, 0 ≤ q → q < i → ¬ J 19 (43 + q) = t) (hz : J 19 (52 + i) = z) (e : zaM (zdM (zup J 19 2 (zw (J 19 2 + 1))) i) t z = J') : NCG m J' z (nOP S σ K t) := by
  have W := N.1.2.1
  have b := W.b hL
  have r9 := W.r9 hL
  have d := W.2.2.2.1
  have di := d.2 i hi.1 (by omega)
  have hz0 := (hL.2.2.2.2 i hi.1 hi.2.1).2
  have a9 : mAt S t = i := mAt_y ⟨hi.1, by omega⟩ (di.1.symm.trans hi.2.2) (fun q a b => by rw [← (d.2 q a (by omega)).1]; exact hn q a b)
  have f : zOf (zbut [19]) J' J := by rw [← e]; exact zof_aM.tr (zof_dM.tr (zOf.up rfl zOf.rf))
  have W' := W.mh b (w := i) ⟨hi.1, by omega⟩
  rw [hi.2.2, hz, e] at W'
  have hr := mhO_r (h := S 165) (w := i) ⟨N.1.2.2.2, r9.2⟩ ⟨hi.1, by omega⟩
  unfold nOP
  rw [if_neg (by rw [(N.1.1.tm C hm ht).1]; exact hv), a9, if_neg (by omega)]
  refine Or.inl ⟨Or.inr (by show 0 ≤ S 165 (41 + 2 * i + 1); rw [← di.2]; exact hz0.1), hz.symm.trans di.2, ?_⟩
  exact N.as (z19m f) ((z19f N.1.1 (z19m f)).sr hr.2) (show RW (J' 19) (sr S (mhO (S 165) i) 165) by rw [sr_5]; exact W') (show sr S (mhO (S 165) i) 164 21 = 0 by rw [sr_4]; exact N.1.2.2.1) (show sr S (mhO (S 165) i) 165 40 ≤ sr S (mhO (S 165) i) 165 39 by rw [sr_5]; exact hr.1)
theorem ncg_p {m σ t : Int} {J S : zJ} {K : List NFr} (N : NSH m J S σ K) (C : CT J m) (hm : J 6 12 = m) (ht : 0 ≤ t ∧ t < m) (hv : ¬ J 7 t < 0) (hL : LI (J 19) m) (hn : ∀ i, 0 ≤ i → i < J 19 6 → ¬ J 19 (43 + i) = t) (hk : (K.length : Int) + J 12 t ≤ 6 * (σ + 1)) : NCG m (zup (zup (zup J 159 (J 158 7) t) 160 (J 158 7) 0) 158 7 (J 158 7 + 1)) (-1) (nOP S σ K t) := by
  have W := N.1.2.1
  have b := W.b hL
  have d := W.2.2.2.1
  have h7 := N.2.2.1
  rw [h7]
  have a9 : mAt S t = S 165 40 := mAt_n b.2.2.1 (fun q a c => by rw [← (d.2 q a c).1]; exact hn q a (by omega))
  rw [nop_f (by rw [(N.1.1.tm C hm ht).1]; exact hv) a9]
  refine Or.inl ⟨Or.inl ⟨rfl, _, _, rfl, (by decide : (0 : Int) < 4)⟩, rfl, ⟨N.1.1.f (fun c hc => by rcases hc with h | h | h | h | h | h | h | h | h <;> (rw [h]; rfl)), N.1.2.1, N.1.2.2⟩, N.2.1, ?_, ⟨⟨ht, (zup_at : zup J 159 (K.length : Int) t 159 (K.length : Int) = t), (zup_at : zup (zup J 159 (K.length : Int) t) 160 (K.length : Int) 0 160 (K.length : Int) = 0), fun _ => ⟨fun w => absurd w (by show ¬ (0 : Int) < 0; decide), fun w => absurd w (by show ¬ (1 : Int) < 0; decide), fun w => absurd w (by show ¬ (2 : Int) < 0; decide)⟩, hk⟩, ?_⟩⟩
  · show zup _ 158 7 ((K.length : Int) + 1) 158 7 = _
    rw [zup_at, nfk_l]
  · refine NFK.fr N.2.2.2 (Int.le_refl _) (Int.le_refl _) (fun t _ _ => rfl) (fun q a c => ?_) (fun q _ _ => rfl)
    exact ⟨(zup_ne (by omega) : zup J 159 (K.length : Int) t 159 q = J 159 q), (zup_ne (by omega) : zup J 160 (K.length : Int) 0 160 q = J 160 q)⟩
theorem NSH.close {m σ v : Int} {J S : zJ} {F : NFr} {K : List NFr} (N : NSH m J S σ (F :: K)) (hL : LI (J 19) m) : NSH m (zup (zrM J (J 159 (K.length : Int)) v) 158 7 (K.length : Int)) (sr S (mgO (S 165) F.1 v)) σ K := by
  have W := N.1.2.1
  have b := W.b hL
  have r9 := W.r9 hL
  have f : zOf (zbut [19]) (zrM J (J 159 (K.length : Int)) v) J := zof_rM
  have e9 := N.2.2.2.1.2.1
  rw [e9] at f ⊢
  refine ⟨⟨?_, ?_, by rw [sr_4]; exact N.1.2.2.1, by rw [sr_5]; exact mgO_r ⟨r9.1, N.1.2.2.2, r9.2⟩⟩, ?_, zup_at, ?_⟩
  · exact ((z19f N.1.1 (z19m f)).sr (mgO_o (Or.inl (by decide)) ⟨r9.1, N.1.2.2.2, r9.2⟩)).f (fun c hc => by rcases hc with h | h | h | h | h | h | h | h | h <;> (rw [h]; rfl))
  · rw [sr_5]
    show RW (zrM J F.1 v 19) _
    exact W.mg b ⟨N.1.2.2.2, r9.2⟩
  · have e : zup (zrM J F.1 v) 158 7 (K.length : Int) 158 8 = J 158 8 := (zup_ne (by decide)).trans (congrFun (f 158 rfl) 8)
    rw [e]; exact N.2.1
  · refine NFK.fr N.2.2.2.2 (Int.le_refl _) (Int.le_refl _) (fun t _ _ => ?_) (fun q _ _ => ⟨?_, ?_⟩) (fun q _ _ => ?_)
    · exact congrFun (f 12 rfl) t
    · exact congrFun (f 159 rfl) q
    · exact congrFun (f 160 rfl) q
    · exact congrFun (f 161 rfl) q
theorem NSH.part {m σ v s : Int} {J S : zJ} {F : NFr} {K : List NFr} (N : NSH m J S σ (F :: K)) (hs : F.2.1 = s) (h3 : 0 ≤ s ∧ s < 3) (hv : 0 ≤ v) : NSH m (zup (zup J 161 ((K.length : Int) * 3 + s) v) 160 (K.length : Int) (s + 1)) S σ ((F.1, s + 1, if s = 0 then v else F.2.2.1, if s = 1 then v else F.2.2.2.1, if s = 2 then v else F.2.2.2.2) :: K) := by
  obtain ⟨N1, N2, N3, ⟨a, b, c, d, x⟩, r⟩ := N
  rw [hs] at c d
  refine ⟨⟨N1.1.f (fun c hc => by rcases hc with h | h | h | h | h | h | h | h | h <;> (rw [h]; rfl)), N1.2⟩, N2, N3, ⟨a, b, zup_at, fun y => ?_, x⟩, ?_⟩
  · obtain ⟨d0, d1, d2⟩ := d (by omega)
    have e1 : ∀ k, zup (zup J 161 ((K.length : Int) * 3 + s) v) 160 (K.length : Int) (s + 1) 161 k = if k = (K.length : Int) * 3 + s then v else J 161 k := fun k => rfl
    rw [e1, e1, e1]
    refine ⟨fun w => ?_, fun w => ?_, fun w => ?_⟩
    · show _ = (if s = 0 then v else F.2.2.1) ∧ 0 ≤ (if s = 0 then v else F.2.2.1)
      have w : 0 < s + 1 := w
      by_cases q : s = 0
      · rw [if_pos (by omega), if_pos q]; exact ⟨rfl, hv⟩
      · rw [if_neg (by omega), if_neg q]; exact d0 (by omega)
    · show _ = (if s = 1 then v else F.2.2.2.1) ∧ 0 ≤ (if s = 1 then v else F.2.2.2.1)
      have w : 1 < s + 1 := w
      by_cases q : s = 1
      · rw [if_pos (by omega), if_pos q]; exact ⟨rfl, hv⟩
      · rw [if_neg (by omega), if_neg q]; exact d1 (by omega)
    · show _ = (if s = 2 then v else F.2.2.2.2) ∧ 0 ≤ (if s = 2 then v else F.2.2.2.2)
      have w : 2 < s + 1 := w
      by_cases q : s = 2
      · rw [if_pos (by omega), if_pos q]; exact ⟨rfl, hv⟩
      · omega
  · refine NFK.fr r (Int.le_refl _) (Int.le_refl _) (fun t _ _ => rfl) (fun q a c => ⟨rfl, (zup_ne (by omega) : zup J 160 (K.length : Int) (s + 1) 160 q = J 160 q)⟩) (fun q a c => (zup_ne (by omega) : zup J 161 ((K.length : Int) * 3 + s) v 161 q = J 161 q))
theorem RW.st {f h : Int → Int} (W : RW f h) (b : (0 ≤ h 9 ∧ h 9 ≤ 8) ∧ (0 ≤ h 26 ∧ h 26 ≤ 12) ∧ (0 ≤ h 40 ∧ h 40 ≤ 9)) : RW (fun k => if k = 3 then zw (f 3 + 1) else f k) (fun k => if k = 62 then zw (h 62 + 1) else h k) := by
  obtain ⟨⟨a1, a2, a3⟩, ⟨b1, b2⟩, ⟨c1, c2⟩, ⟨d1, d2⟩, v⟩ := W
  unfold RW
  dsimp only
  refine ⟨⟨a1, a2, ?_⟩, ⟨b1, fun i p q => ?_⟩, ⟨c1, fun i p q => ?_⟩, ⟨d1, fun i p q => ?_⟩, fun i p q => ?_⟩
  · rw [if_pos rfl, if_pos rfl, a3]
  · have q' : i < h 9 := q
    have := b2 i p q'
    rw [if_neg (by omega), if_neg (by omega), if_neg (by omega), if_neg (by omega)]; exact this
  · have q' : i < h 26 := q
    rw [if_neg (by omega), if_neg (by omega)]; exact c2 i p q'
  · have q' : i < h 40 := q
    have := d2 i p q'
    rw [if_neg (by omega), if_neg (by omega), if_neg (by omega), if_neg (by omega)]; exact this
  · rw [if_neg (by omega), if_neg (by omega)]; exact v i p q
theorem NSH.step {m σ : Int} {J S : zJ} {F : NFr} {K : List NFr} (N : NSH m J S σ (F :: K)) (hL : LI (J 19) m) (hσ : σ < 100) : NSH m (zup (zup (zup J 158 8 (J 158 8 - 1)) 19 3 (zw (J 19 3 + 1))) 160 (K.length : Int) 4) (zup S 165 62 (zw (S 165 62 + 1))) (σ + 1) ((F.1, 4, F.2.2) :: K) := by
  obtain ⟨N1, N2, N3, ⟨a, b, c, d, x⟩, r⟩ := N
  have bb := N1.2.1.b hL
  have e5 : ∀ k, ¬ k = 62 → zup S 165 62 (zw (S 165 62 + 1)) 165 k = S 165 k := fun k q => zup_ne q
  refine ⟨⟨(N1.1.r5 (q := 62) (by decide)).f (fun c hc => by rcases hc with h | h | h | h | h | h | h | h | h <;> (rw [h]; rfl)), N1.2.1.st bb, N1.2.2.1, by rw [e5 40 (by decide), e5 39 (by decide)]; exact N1.2.2.2⟩, ⟨?_, by omega, by omega⟩, N3, ⟨a, b, zup_at, fun y => absurd y (by show ¬ (4 : Int) < 4; decide), by show (K.length : Int) + J 12 F.1 ≤ _; omega⟩, ?_⟩
  · show zup J 158 8 (J 158 8 - 1) 158 8 = _
    rw [zup_at]; omega
  · refine NFK.fr r (Int.le_refl _) (by omega) (fun t _ _ => rfl) (fun q a c => ⟨rfl, (zup_ne (by omega) : zup J 160 (K.length : Int) 4 160 q = J 160 q)⟩) (fun q a c => rfl)
theorem st_arg {m σ : Int} {J S : zJ} {F : NFr} {K : List NFr} (N : NSH m J S σ (F :: K)) (C : CT J m) (hm : J 6 12 = m) (h0 : 0 ≤ J 160 (K.length : Int)) (h : J 160 (K.length : Int) < J 8 (J 159 (K.length : Int))) : nST ((S, σ), F :: K, -1) = nOP S σ (F :: K) (J 9 (J 159 (K.length : Int) * 3 + J 160 (K.length : Int))) := by
  obtain ⟨a, b, c, d, x⟩ := N.2.2.2.1
  rw [c] at h0
  rw [b, c] at h ⊢
  obtain ⟨t1, t2, t3⟩ := N.1.1.tm C hm a
  rw [nST_s, if_pos rfl, if_pos (by show F.2.1 < mar S 0 0 F.1; rw [t2]; exact h)]
  show nOP S σ (F :: K) (S 167 (3 * (0 + F.1) + F.2.1)) = _
  rw [t3 _ h0 h]
theorem st_md {m σ : Int} {J S : zJ} {F : NFr} {K : List NFr} (N : NSH m J S σ (F :: K)) (C : CT J m) (hm : J 6 12 = m) (h : ¬ J 160 (K.length : Int) < J 8 (J 159 (K.length : Int))) : nST ((S, σ), F :: K, -1) = nMD (tmO S (J 7 (J 159 (K.length : Int))) F.2.2.1 F.2.2.2.1 F.2.2.2.2) σ K F := by
  obtain ⟨a, b, c, d, x⟩ := N.2.2.2.1
  rw [b, c] at h
  rw [b]
  obtain ⟨t1, t2, t3⟩ := N.1.1.tm C hm a
  rw [nST_s, if_pos rfl, if_neg (by show ¬ F.2.1 < mar S 0 0 F.1; rw [t2]; exact h)]
  show nMD (tmO S (S 166 (0 + F.1)) _ _ _) σ K F = _
  rw [t1]
theorem ncg_c {m σ v : Int} {J S : zJ} {F : NFr} {K : List NFr} (N : NSH m J S σ (F :: K)) (hL : LI (J 19) m) (hv : 0 ≤ v) (h4 : 3 ≤ J 160 (K.length : Int)) : NCG m (zup (zrM J (J 159 (K.length : Int)) v) 158 7 (K.length : Int)) v (nST ((S, σ), F :: K, v)) := by
  have c := N.2.2.2.1.2.2.1
  rw [nST_s, if_neg (by omega), if_pos (by omega)]
  exact Or.inl ⟨Or.inr hv, rfl, N.close hL⟩
theorem ncg_h {m σ v : Int} {J S : zJ} {F : NFr} {K : List NFr} (N : NSH m J S σ (F :: K)) (hv : 0 ≤ v) (h0 : 0 ≤ J 160 (K.length : Int)) (h4 : J 160 (K.length : Int) < 3) : NCG m (zup (zup J 161 ((K.length : Int) * 3 + J 160 (K.length : Int)) v) 160 (K.length : Int) (J 160 (K.length : Int) + 1)) (-1) (nST ((S, σ), F :: K, v)) := by
  have c := N.2.2.2.1.2.2.1
  rw [nST_s, if_neg (by omega), if_neg (by omega), c]
  exact Or.inl ⟨Or.inl ⟨rfl, _, _, rfl, by show F.2.1 + 1 < 4; omega⟩, rfl, N.part rfl (by omega) hv⟩
theorem ncg_go {m z : Int} {J : zJ} {c : NCf} (h : NCG m J z c) (hz : z = -1) : ∃ S σ F K, c = ((S, σ), F :: K, -1) ∧ F.2.1 < 4 ∧ NSH m J S σ (F :: K) := by
  obtain ⟨⟨S, σ⟩, L, w⟩ := c
  rcases h with ⟨a, b, N⟩ | ⟨a, b | b⟩
  · have b' : z = w := b
    have w1 : w = -1 := by omega
    rcases a with ⟨a1, F, K, a2, a3⟩ | a1
    · have a2' : L = F :: K := a2
      subst a2' w1
      exact ⟨S, σ, F, K, rfl, a3, N⟩
    · have a1' : 0 ≤ w := a1
      omega
  · have := b.2; omega
  · have := b.2; omega
theorem ncg_ha {m z : Int} {J : zJ} {c : NCf} (h : NCG m J z c) (hz : 0 ≤ z) (h7 : 0 < J 158 7) : ∃ S σ F K, c = ((S, σ), F :: K, z) ∧ NSH m J S σ (F :: K) := by
  obtain ⟨⟨S, σ⟩, L, w⟩ := c
  rcases h with ⟨a, b, N⟩ | ⟨a, b | b⟩
  · have b' : z = w := b
    subst b'
    cases L with
    | nil =>
      have := N.2.2.1
      have e : J 158 7 = 0 := this
      omega
    | cons F K => exact ⟨S, σ, F, K, rfl, N⟩
  · have := b.2; omega
  · have := b.2; omega
theorem nIT_s2 {n : Nat} {c : NCf} : nIT (n + 1) c = nST (nIT n c) := by
  rw [nIT_add, nIT_1]
theorem ncg_end {m z k : Int} {J : zJ} {c0 : NCf} (h : NCG m J z (nIT k.toNat c0)) (hk : 0 ≤ k ∧ k ≤ 1000000) (he : J 158 7 ≤ 0 ∨ k = 1000000 ∨ z < -1) (f1 : (nIT 1000000 c0).2.1 = []) : NCG m J z (nIT 1000000 c0) ∧ ¬ z = -1 := by
  have e : nIT 1000000 c0 = nIT (1000000 - k.toNat) (nIT k.toNat c0) := by rw [← nIT_add, show k.toNat + (1000000 - k.toNat) = 1000000 by omega]
  have st : (nIT k.toNat c0).2.1 = [] → nIT 1000000 c0 = nIT k.toNat c0 := fun q => by
    rw [e]
    generalize nIT k.toNat c0 = c at q ⊢
    obtain ⟨Q, L, w⟩ := c
    have q' : L = [] := q
    subst q'
    exact nIT_e _ _ _
  have nn : (nIT k.toNat c0).2.1 = [] → NCG m J z (nIT 1000000 c0) ∧ ¬ z = -1 := fun q => by
    refine ⟨by rw [st q]; exact h, fun w => ?_⟩
    obtain ⟨S, σ, F, K, e9, _⟩ := ncg_go h w
    rw [e9] at q
    cases q
  rcases h with ⟨a, b, N⟩ | ⟨a, b⟩
  · rcases he with h7 | h7 | h7
    · refine nn ?_
      have l := N.2.2.1
      cases hL : (nIT k.toNat c0).2.1 with
      | nil => rfl
      | cons F K =>
        rw [hL, nfk_l] at l
        omega
    · have e7 : k.toNat = 1000000 := by omega
      exact nn (by rw [e7]; exact f1)
    · rcases a with ⟨a, _⟩ | a <;> omega
  · exact nn a
/-- a rule's step -/
theorem ncg_r {m9 m7 σ k t z : Int} {J4 J7 J' : zJ} {M : zJ × Int} {F : NFr} {K : List NFr} (h21 : M.1 164 21 = 0) (N : NSH m9 J4 (zup M.1 165 62 (zw (M.1 165 62 + 1))) (σ + 1) ((F.1, 4, F.2.2) :: K)) (hL : LI (J4 19) m9) (hf : nFR M.1 M.2 = k ∧ k < M.1 165 9) (hσ : σ < 100) (hK : (K.length : Int) + 1 ≤ 6 * (σ + 1)) (g : GR J7 J4 m9 m7) (o : EXO (nRT M.1 M.2 k) t J7) (hd : 0 ≤ t → J7 12 t ≤ 6) (x : 0 ≤ t → NSH m7 J7 (nRT M.1 M.2 k).1 (σ + 1) ((F.1, 4, F.2.2) :: K) → ((((F.1, 4, F.2.2) :: K : List NFr).length : Nat) : Int) + J7 12 t ≤ 6 * (σ + 1 + 1) → NCG m7 J' z (nOP (nRT M.1 M.2 k).1 (σ + 1) ((F.1, 4, F.2.2) :: K) t)) (y : t = -3 → z = -3) : NCG m7 J' z (nMD M σ K F) := by
  rw [nmd_u (k := k) h21 hf.1 hf.2]
  rcases o with ⟨o1, o2⟩ | ⟨o1, o2, o3, o4⟩
  · rw [nRU_f (by omega) o2]
    exact Or.inr ⟨rfl, Or.inl ⟨rfl, y o1⟩⟩
  · rw [nRU_o (by omega) o2, ← o4]
    refine x o1 (N.made g o3 (fun q hq => ?_) o2 hL) (by rw [nfk_l]; have := hd o1; omega)
    exact apO_5 6 _ _ q hq
theorem x7_o {J4 J7 : zJ} {M : zJ × Int} {k t z : Int} (x : ∀ (S : zJ) (β : Int → Int), (∀ v, 0 ≤ v → v < 8 → β v = J4 140 (0 + v)) → S 164 21 = 0 → A0 J4 S → EXO (apO β 6 S t) z J7) (h21 : M.1 164 21 = 0) (E : A0 J4 (zup M.1 165 62 (zw (M.1 165 62 + 1)))) (s : sgA (J4 140) (omt M.1 (M.1 165 (10 + 2 * k)) M.2).2) (et : t = M.1 165 (10 + 2 * k + 1)) : EXO (nRT M.1 M.2 k) z J7 := by
  subst et
  exact x _ _ (fun v a c => by rw [Int.zero_add]; exact (s v a c).symm) h21 E
