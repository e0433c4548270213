/-- what a clause leaves -/
def RQ (J' J : zJ) (m m' : Int) : Prop := (CT J' m' ∧ J' 6 12 = m' ∧ LI (J' 19) m' ∧ RD2 J') ∧ zOf (zbut [1, 2, 3, 4, 6, 7, 8, 9, 10, 11, 12, 13, 14, 15, 16, 17, 19, 156, 157, 163]) J' J
theorem RQ.rf {J : zJ} {m : Int} (C : CT J m) (hm : J 6 12 = m) (hL : LI (J 19) m) (hD : RD2 J) : RQ J J m m := ⟨⟨C, hm, hL, hD⟩, zOf.rf⟩
theorem RQ.rt {J2 J1 J : zJ} {m m1 m2 : Int} (g : RQ J1 J m m1) (h : RT J2 J1 m1 m2) : RQ J2 J m m2 := ⟨⟨h.1.2.1, h.1.2.2.1, by rw [h.1.2.2.2.2 19 rfl]; exact g.1.2.2.1.mono h.1.1, h.2.1⟩, (h.1.2.2.2.2.mono (zbut_sub (fun c hc => by simp at hc ⊢; omega))).tr g.2⟩
theorem RQ.rn {J2 J1 J : zJ} {m m1 : Int} (g : RQ J1 J m m1) (h : RN J2 J1) (hD : RD2 J2) : RQ J2 J m m1 := g.rt ((RT.rf g.1.1 g.1.2.1 g.1.2.2.2).rn h hD)
theorem RQ.or {J2 J1 J : zJ} {m m1 : Int} (g : RQ J1 J m m1) (h : zOf (zbut [156, 157]) J2 J1) : RQ J2 J m m1 := ⟨⟨g.1.1.of (fun c hc => h c (by simp [zbut]; omega)), by rw [h 6 rfl]; exact g.1.2.1, by rw [h 19 rfl]; exact g.1.2.2.1, g.1.2.2.2.of (h 163 rfl)⟩, (h.mono (zbut_sub (fun c hc => by simp at hc ⊢; omega))).tr g.2⟩
theorem RQ.led {J2 J1 J : zJ} {m m1 : Int} (g : RQ J1 J m m1) (h : zOf (zbut [19]) J2 J1) (hL : LI (J2 19) m1) : RQ J2 J m m1 := ⟨⟨g.1.1.of (fun c hc => h c (by simp [zbut]; omega)), by rw [h 6 rfl]; exact g.1.2.1, hL, g.1.2.2.2.of (h 163 rfl)⟩, (h.mono (zbut_sub (fun c hc => by simp at hc ⊢; omega))).tr g.2⟩
theorem RQ.tr {J3 J2 J1 : zJ} {m1 m2 m3 : Int} (g : RQ J2 J1 m1 m2) (h : RQ J3 J2 m2 m3) : RQ J3 J1 m1 m3 := ⟨h.1, h.2.tr g.2⟩
theorem zof_aR {J : zJ} {x y : Int} : zOf (zbut [19]) (zaR J x y) J := by
  unfold zaR
  split
  · exact zOf.up rfl (zOf.up rfl (zOf.up rfl (zOf.up rfl zOf.rf)))
  · exact zOf.rf
theorem zof_aE {J : zJ} {x : Int} : zOf (zbut [19]) (zaE J x) J := by
  unfold zaE
  split
  · exact zOf.up rfl (zOf.up rfl zOf.rf)
  · exact zOf.rf
theorem zof_dE {J : zJ} {w : Int} : zOf (zbut [19]) (zdE J w) J := zOf.up rfl (fun c hc => by
  have : ¬ c = 19 := fun e => by rw [e] at hc; cases hc
  simp [zsh, this])
