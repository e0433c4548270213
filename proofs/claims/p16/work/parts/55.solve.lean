def UG (J' J : zJ) (m m' : Int) : Prop := GX [146, 147, 148, 149, 150, 154] J' J m m' ∧ UW J' J 0 m'
theorem UG.rf {J : zJ} {m : Int} (C : CT J m) (hm : J 6 12 = m) (hU : UI J 0 m) : UG J J m m := ⟨GX.rf C hm, UW.rf hU⟩
theorem UG.tr {J3 J2 J1 : zJ} {m1 m2 m3 : Int} (g : UG J2 J1 m1 m2) (h : UG J3 J2 m2 m3) : UG J3 J1 m1 m3 := ⟨g.1.tr h.1, h.2.tr g.2⟩
theorem UG.top {J2 J1 J : zJ} {m m1 : Int} (g : UG J1 J m m1) (h : UW J2 J1 0 m1) (f : zOf (zbut [146, 147, 148, 149, 150, 154]) J2 J1) : UG J2 J m m1 := ⟨g.1.off rfl f, h.tr g.2⟩
theorem UG.made {J2 J1 J : zJ} {m m1 m2 : Int} (g : UG J1 J m m1) (h : GR J2 J1 m1 m2) : UG J2 J m m2 := ⟨g.1.tr h.x, g.2.of h.1 (congrFun (h.2.2.2.2 145 rfl) 10) (fun c hc => h.2.2.2.2 c (by simp [zbut]; omega))⟩
theorem UG.sv {J1 J : zJ} {m m1 x v : Int} (g : UG J1 J m m1) (hv : v = -3 ∨ (0 ≤ v ∧ v < m1)) : UG (zup J1 150 x v) J m m1 := ⟨g.1.off rfl (zOf.up rfl zOf.rf), g.2.p5 (Or.inr hv)⟩
theorem nd.z {m x : Int} (h : nd 0 m x) : 0 ≤ x ∧ x < m := by
  unfold nd at h
  omega
theorem GX.b {J2 J1 J : zJ} {m m1 m2 : Int} (g : GX [19, 146, 147, 148, 149, 150, 154] J1 J m m1) (h : UG J2 J1 m1 m2) : GX [19, 146, 147, 148, 149, 150, 154] J2 J m m2 := g.tr (h.1.mono (fun c hc => by simp at hc ⊢; omega))
theorem UG.made0 {J2 J1 : zJ} {m1 m2 : Int} (hU : UI J1 0 m1) (h : GR J2 J1 m1 m2) : UI J2 0 m2 := hU.of h.1 (congrFun (h.2.2.2.2 145 rfl) 10) (fun c hc => h.2.2.2.2 c (by simp [zbut]; omega))
