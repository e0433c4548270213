/-! ===== new int[N][K] ===== -/
def tb_shM (sh : Nat → tb_Sh) (n N K : Nat) : Nat → tb_Sh := fun k => if k = n then (101, N, (List.range N).map (fun i => some (n + 1 + i))) else if n < k ∧ k < n + 1 + N then (100, K, []) else sh k
def tb_IM (I : tb_I) (n N : Nat) : tb_I := fun k => if n ≤ k ∧ k < n + 1 + N then (fun _ => 0) else I k
def tb_adM (adr : Nat → Nat) (n N q : Nat) (r : Nat → Nat) : Nat → Nat := fun k => if k = n then q else if n < k ∧ k < n + 1 + N then r (k - (n + 1)) else adr k
theorem tb_ws_mna {G : tb_G} {adr : Nat → Nat} {n N K q : Nat} {r : Nat → Nat} {sh : Nat → tb_Sh} {I : tb_I} {f : Nat → va_E} (hc : tb_cl n sh) (hr : ∀ i j : Nat, i < N → j < N → r i = r j → i = j) :
    tb_ws G (tb_adM adr n N q r) (n + 1 + N) (tb_shM sh n N K) (tb_IM I n N) = (tb_ws G adr n sh I ++ [(q, .inl (G.2.2.1, N, .inr (.inr (.inr (.inr (fun i => if i < N then some (r i) else none))))))]) ++ va_pl ([] ++ (List.range N).map r) (vr_up f ((List.range N).map r) (.inl (G.2.1, K, .inl (fun _ => 0)))) := by
  apply List.ext_getElem?
  intro k
  have hl1 : (tb_ws G adr n sh I ++ [(q, (.inl (G.2.2.1, N, .inr (.inr (.inr (.inr (fun i => if i < N then some (r i) else none))))) : va_E))]).length = n + 1 := by simp [tb_ws_len]
  by_cases h1 : k < n
  · rw [tb_ws_at (by omega), List.getElem?_append_left (by rw [hl1]; omega), List.getElem?_append_left (by rw [tb_ws_len]; exact h1), tb_ws_at h1]
    have e1 : tb_adM adr n N q r k = adr k := by
      have : ¬ k = n := by omega
      have h2 : ¬ (n < k ∧ k < n + 1 + N) := by omega
      simp only [tb_adM, this, h2, if_false]
    have e2 : tb_shM sh n N K k = sh k := by
      have : ¬ k = n := by omega
      have h2 : ¬ (n < k ∧ k < n + 1 + N) := by omega
      simp only [tb_shM, this, h2, if_false]
    have e3 : tb_IM I n N k = I k := by
      have h2 : ¬ (n ≤ k ∧ k < n + 1 + N) := by omega
      simp only [tb_IM, h2, if_false]
    rw [e1, e2, e3, tb_en_ad (fun z hz => ?_)]
    have := hc k h1 z hz
    have g1 : ¬ z = n := by omega
    have g2 : ¬ (n < z ∧ z < n + 1 + N) := by omega
    simp only [tb_adM, g1, g2, if_false]
  · by_cases h2 : k = n
    · subst h2
      rw [tb_ws_at (by omega), List.getElem?_append_left (by rw [hl1]; omega), List.getElem?_append_right (by rw [tb_ws_len]; omega), tb_ws_len, Nat.sub_self]
      have e1 : tb_adM adr k N q r k = q := by simp only [tb_adM, if_true]
      have e2 : tb_shM sh k N K k = (101, N, (List.range N).map (fun i => some (k + 1 + i))) := by simp only [tb_shM, if_true]
      rw [e1, e2, tb_en_row, List.getElem?_cons_zero]
      have e3 : (fun i => (((List.range N).map (fun i => some (k + 1 + i))).getD i none).map (tb_adM adr k N q r)) = fun i => if i < N then some (r i) else none := by
        funext i
        by_cases hi : i < N
        · have g0 : ¬ k + 1 + i = k := by omega
          have g1 : k < k + 1 + i ∧ k + 1 + i < k + 1 + N := by omega
          have g2 : k + 1 + i - (k + 1) = i := by omega
          simp [List.getD_eq_getElem?_getD, hi, tb_adM, g0, g1, g2]
        · simp [List.getD_eq_getElem?_getD, hi]
      rw [e3]
    · by_cases h3 : k < n + 1 + N
      · obtain ⟨i, rfl⟩ : ∃ i, k = n + 1 + i := ⟨k - (n + 1), by omega⟩
        have hi : i < N := by omega
        rw [tb_ws_at h3, List.getElem?_append_right (by rw [hl1]; omega), hl1]
        have e1 : tb_adM adr n N q r (n + 1 + i) = r i := by
          have g1 : n < n + 1 + i ∧ n + 1 + i < n + 1 + N := by omega
          have g2 : n + 1 + i - (n + 1) = i := by omega
          simp only [tb_adM, h2, if_false, g1, and_self, if_true, g2]
        have e2 : tb_shM sh n N K (n + 1 + i) = (100, K, []) := by
          have g1 : n < n + 1 + i ∧ n + 1 + i < n + 1 + N := by omega
          simp only [tb_shM, h2, if_false, g1, and_self, if_true]
        have e3 : tb_IM I n N (n + 1 + i) = fun _ => 0 := by
          have g1 : n ≤ n + 1 + i ∧ n + 1 + i < n + 1 + N := by omega
          simp only [tb_IM, g1, and_self, if_true]
        have e4 : n + 1 + i - (n + 1) = i := by omega
        rw [e1, e2, e3, e4]
        have hm : r i ∈ (List.range N).map r := List.mem_map.mpr ⟨i, List.mem_range.mpr hi, rfl⟩
        rw [List.nil_append]
        unfold va_pl
        rw [List.getElem?_map, List.getElem?_map, List.getElem?_range hi]
        simp only [Option.map_some, vr_up_in hm]
        rfl
      · rw [List.getElem?_eq_none (by rw [tb_ws_len]; omega), List.getElem?_eq_none (by rw [List.length_append, hl1]; simp [va_pl]; omega)]
section TBN
variable {l : Launch} {G : tb_G} {y : tb_Mt} {R : Room} {xt : Option (Nat × (Nat → Int32))} {Z : tb_CT → State → Prop} {k1 k2 n : Nat} {sh : Nat → tb_Sh} {I : tb_I} {pc : Nat} {L : List (Option Value)} {S : List Value}
theorem tb_mna {idx N K m1 m2 n' : Nat} {a b : Int32} (hd : decode y.2.1 pc = .ok (.multianewarray idx 2, 4)) (hw1 : Cond.classLink y.1.cls idx ("[" ++ (FieldType.array .int).toString) ∈ tb_W) (hw2 : Cond.arrayClass .int ∈ tb_W) (hns : n + 1 + N < tb_sc) (ha1 : a = nI N) (hb1 : b = nI K) (hN : N ≤ 10000) (hK9 : K ≤ 10000) (h1 : k1 + 1 + N = m1) (h2 : k2 + N + N * K = m2) (h3 : n + 1 + N = n') (hcells : m1 ≤ R.cells) (hslots : m2 ≤ R.slots)
    (kk : tb_At l G y R xt Z m1 m2 n' (tb_shM sh n N K) (tb_IM I n N) (pc + 4) L (.ref n :: S)) : tb_At l G y R xt Z k1 k2 n sh I pc L (.int b :: .int a :: S) := by
  subst h1
  subst h2
  subst h3
  subst ha1
  subst hb1
  intro ok p e s m args below meth c A adr0 n0 bx C H locs adr ls ha hP hD hS hl
  have hts := C.2.2.2.2.2.2.2.2.1
  have hK := C.2.2.2.2.2.2.2.2.2.2.1
  have hE := C.2.2.2.2.2.2.2.2.2.2.2.1
  have hcy : s.vm.findClass (FieldType.array .int).toString = some G.2.1 := (hK.2 0 _ rfl).2
  have eX : tb_ws G adr n sh I ++ va_pl [] (fun _ => (.inr (0, []) : va_E)) = tb_ws G adr n sh I := List.append_nil _
  refine va_mna (D := G.1) (X := tb_ws G adr n sh I) (L := []) (f := fun _ => .inr (0, [])) (z := (K, .inl (fun _ => 0))) (ty := .int) (cy := G.2.1) C.1 C.2.1 C.2.2.2.2.2.1 (hts _ hw1) hE.2.2.2.2.2.2.2.1 (hts _ hw2) hcy hK (by rw [eX]; exact hP) (by rw [eX]; exact hD) hS C.2.2.2.2.2.2.2.2.2.1 (nI_pos (by omega)) (nI_pos (by omega)) (nI_clamp (by omega)) (nI_clamp (by omega)) (by omega) (by show K * 4 ≤ _; omega) (by omega) rfl rfl (by omega) (by omega) (fun c9 => arrV_new c9 K (.int 0)) hd (fun q r cA H1 hinj hfr hK1 hP1 hD1 hS1 => ?_)
  have hcA : cA = G.2.2.1 := by
    have e1 := (hK1.2 3 _ rfl).2
    have e2 := (hK.2 1 _ rfl).2
    exact Option.some.inj (e1.symm.trans e2)
  subst hcA
  rw [← tb_ws_mna (I := I) ok.1 hinj] at hP1 hD1
  have g1 : ∀ k, k < n → tb_adM adr n N q r k = adr k := fun k hk => by
    have z1 : ¬ k = n := by omega
    have z2 : ¬ (n < k ∧ k < n + 1 + N) := by omega
    simp only [tb_adM, z1, z2, if_false]
  have g2 : tb_adM adr n N q r tb_sc = adr tb_sc := by
    have z1 : ¬ tb_sc = n := by omega
    have z2 : ¬ (n < tb_sc ∧ tb_sc < n + 1 + N) := by omega
    simp only [tb_adM, z1, z2, if_false]
  have hmap := tb_rn_map g1 g2 ok.2.2.tail.tail
  have hq : tb_rn (tb_adM adr n N q r) (.ref n) = .ref q := by simp [tb_rn, tb_adM]
  have hcl : tb_cl (n + 1 + N) (tb_shM sh n N K) := by
    intro k hk z hz
    by_cases z1 : k = n
    · simp only [tb_shM, z1, if_true] at hz
      obtain ⟨i, hi, e9⟩ := List.mem_map.mp hz
      have := List.mem_range.mp hi
      cases e9
      omega
    · by_cases z2 : n < k ∧ k < n + 1 + N
      · simp only [tb_shM, z1, if_false, z2, and_self, if_true] at hz
        cases hz
      · simp only [tb_shM, z1, if_false, z2] at hz
        have := ok.1 k (by omega) z hz
        omega
  have hnn : n ≤ n + 1 + N := by omega
  have hnl : n < n + 1 + N := by omega
  have hn0 : n0 ≤ n + 1 + N := by omega
  have h9 := kk ⟨hcl, ok.2.1.mono hnn, .cons (show tb_vk (n + 1 + N) (.ref n) from Or.inl hnl) (ok.2.2.tail.tail.mono hnn)⟩ p e s m args below meth c A adr0 n0 bx C H1 locs (tb_adM adr n N q r) ls ⟨fun k hk => (g1 k (Nat.lt_of_lt_of_le hk ha.2.2.1)).trans (ha.1 k hk), g2.trans ha.2.1, hn0, ha.2.2.2⟩ hP1 hD1 hS1 (hl.ad ok.2.1 g1 g2)
  rw [List.map_cons, hmap, hq] at h9
  exact h9
end TBN
