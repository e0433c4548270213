/-! ===== the class follows the reading: rules (lemmas) ===== -/
theorem pRu_2 {g : zJ} (h : ¬ g 165 135 < 8) (h9 : g 0 4 = 0) : pP (pRu g) 59 = pFx g 2 := by
  unfold pRu pFx
  rw [if_neg h, if_pos h9, pP_f (by show ¬ (2 : Int) = 0; decide)]
theorem ET.rul {J S : zJ} {x y : Int} (E : ET J S) (h4 : 0 ≤ J 19 4 ∧ J 19 4 < 8) (h5 : 0 ≤ J 19 5 ∧ J 19 5 ≤ 12) : ET (zaR J x y) (zrl S 126 x y) := by
  obtain ⟨E1, E2, ⟨E4, E5⟩, ⟨E6, E7⟩, E8⟩ := E
  unfold zaR
  rw [if_pos h4.2]
  have e : ∀ k, zup (zup (zup (zup J 19 (15 + J 19 4) x) 19 (23 + J 19 4) y) 19 4 (J 19 4 + 1)) 19 6 0 19 k = if k = 6 then 0 else if k = 4 then J 19 4 + 1 else if k = 23 + J 19 4 then y else if k = 15 + J 19 4 then x else J 19 k := fun _ => rfl
  have e' : ∀ k, zrl S 126 x y 165 k = if k = 135 then S 165 135 + 1 else if k = 136 + 2 * S 165 135 + 1 then y else if k = 136 + 2 * S 165 135 then x else S 165 k := fun _ => rfl
  refine ⟨E1, ?_, ⟨?_, fun i p q => ?_⟩, ⟨?_, fun i p q => ?_⟩, ?_⟩
  · rw [e' 126, if_neg (by decide), if_neg (by omega), if_neg (by omega)]
    exact E2
  · rw [e, e', if_neg (by omega), if_pos rfl, if_pos rfl]
    omega
  · rw [e', if_pos rfl] at q
    rw [e, e, e', e']
    by_cases c : i = J 19 4
    · refine ⟨?_, ?_⟩
      · rw [if_neg (by omega), if_neg (by omega), if_neg (by omega), if_pos (by omega), if_neg (by omega), if_neg (by omega), if_pos (by omega)]
      · rw [if_neg (by omega), if_neg (by omega), if_pos (by omega), if_neg (by omega), if_pos (by omega)]
    · have q5 := E5 i p (by omega)
      rw [if_neg (by omega), if_neg (by omega), if_neg (by omega), if_neg (by omega), if_neg (by omega), if_neg (by omega), if_neg (by omega), if_neg (by omega), if_neg (by omega), if_neg (by omega), if_neg (by omega), if_neg (by omega), if_neg (by omega), if_neg (by omega)]
      exact q5
  · rw [e, e', if_neg (by omega), if_neg (by omega), if_neg (by omega), if_neg (by omega), if_neg (by omega), if_neg (by omega), if_neg (by omega)]
    exact E6
  · rw [e', if_neg (by omega), if_neg (by omega), if_neg (by omega)] at q
    rw [e, e', if_neg (by omega), if_neg (by omega), if_neg (by omega), if_neg (by omega), if_neg (by omega), if_neg (by omega), if_neg (by omega)]
    exact E7 i p q
  · exact ⟨by rw [e, e', if_neg (by omega), if_neg (by omega), if_neg (by omega), if_neg (by omega), if_neg (by omega), if_neg (by omega), if_neg (by omega)]; exact E8.1, ⟨by rw [e, e', if_neg (by omega), if_neg (by omega), if_neg (by omega), if_neg (by omega), if_neg (by omega), if_neg (by omega), if_neg (by omega)]; exact E8.2.1.1, by rw [e, e', if_neg (by omega), if_neg (by omega), if_neg (by omega), if_neg (by omega), if_neg (by omega), if_neg (by omega), if_neg (by omega)]; exact E8.2.1.2.1, by rw [e, if_pos rfl]⟩, fun v a b => by rw [e, e', if_neg (by omega), if_neg (by omega), if_neg (by omega), if_neg (by omega), if_neg (by omega), if_neg (by omega), if_neg (by omega)]; exact E8.2.2 v a b⟩
theorem cru_et {J S : zJ} {m u t : Int} (E : ET J S) (C : CT J m) (hm : J 6 12 = m) (hu : 0 ≤ u ∧ u < m) (ht : 0 ≤ t ∧ t < m) : mru S 800 10 u t ↔ cru J u t := by
  obtain ⟨⟨e1, e0⟩, ⟨e6, E2, E3⟩, _⟩ := E
  have h6 : ∀ t, 0 ≤ t → t < m → S 166 (800 + t) = J 7 t := fun t a c => (E2 t a (by omega)).1.symm
  have ha : ∀ t, 0 ≤ t → t < m → mar S 800 10 t = J 8 t := fun t a c => by
    have h7 := (C.ar a c).2.2
    unfold mar
    rw [h6 t a c, (C.2.1 t a c).1.1]
    exact arh_cg (fun q => ((e0 _ q (by omega)).2.1).symm)
  have hg : ∀ t, 0 ≤ t → t < m → ∀ i, 0 ≤ i → i < J 8 t → mag S 800 t i = cag J t i := fun t a c i x y => (E3 t i a (by omega) x y).symm
  have hgw : ∀ t, 0 ≤ t → t < m → mgw S 800 10 t = cgw J t := fun t a c => by
    have h7 := (C.ar a c).2.2
    unfold mgw cgw
    rw [h6 t a c]
    split
    · rfl
    · exact ((e0 _ (by omega) (by omega)).2.2).symm
  have hgc : ∀ v t, 0 ≤ t → t < m → mgc S 800 v t = cgc J v t := fun v t a c => by
    unfold mgc cgc
    rw [h6 t a c]
  have hw : ∀ t, 0 ≤ t → t < m → mwt S 800 10 t = cwt J t := fun t a c => sV_cg C.td hgw ha hg 6 t ⟨a, c⟩
  have hc : ∀ v t, 0 ≤ v → v < 8 → 0 ≤ t → t < m → mcn S 800 10 v t = ccn J v t := fun v t _ _ a c => sV_cg C.td (hgc v) ha hg 6 t ⟨a, c⟩
  have td' : TD m (mar S 800 10) (mag S 800) (J 12) := fun t x y => by
    obtain ⟨a, b, c⟩ := C.td t x y
    refine ⟨by rw [ha t x y]; exact a, b, fun i p q => ?_⟩
    rw [ha t x y] at q
    rw [hg t x y i p q]
    exact c i p q
  have hz : ∀ t, 0 ≤ t → t < m → msz S 800 10 t = J 10 t := fun t a c => by
    have h12 := (C.td t a c).2.1
    rw [C.sz ⟨a, c⟩]
    exact (tsz_sS td' 6 t ⟨a, c⟩ (by omega)).trans (sV_cg C.td (fun _ _ _ => rfl) ha hg 6 t ⟨a, c⟩)
  have hx : ∀ s t, 0 ≤ s → s < m → 0 ≤ t → t < m → J 7 s = J 7 t → J 8 s = J 8 t := fun s t a b c d e => by rw [(C.2.1 s a b).1.1, (C.2.1 t c d).1.1, e]
  have hgt := gtP_cg (cn := ccn J) (cn' := mcn S 800 10) (wt := cwt J) (wt' := mwt S 800 10) (hd := J 7) (hd' := fun t => S 166 (800 + t)) C.td hc hw h6 ha hg hx 6 u t hu ht
  unfold mru mgt cru cgt
  rw [h6 u hu.1 hu.2, hz u hu.1 hu.2, hz t ht.1 ht.2]
  exact ⟨fun ⟨a, b, c⟩ => ⟨a, hgt.1 b, c⟩, fun ⟨a, b, c⟩ => ⟨a, hgt.2 b, c⟩⟩
