/-! ===== withPut of the reference, exact: beginnings ===== -/
theorem nmT_c9 {G : zJ} {A h x y w x' y' w' q : Int} (h0 : 0 < A → x = x') (h1 : 1 < A → y = y') (h2 : 2 < A → w = w') : nmT G 0 A h x y w q = nmT G 0 A h x' y' w' q := by
  unfold nmT
  apply propext
  refine ⟨fun ⟨a, b, c, d⟩ => ⟨a, fun e => (b e).trans (h0 e), fun e => (c e).trans (h1 e), fun e => (d e).trans (h2 e)⟩, fun ⟨a, b, c, d⟩ => ⟨a, fun e => (b e).trans (h0 e).symm, fun e => (c e).trans (h1 e).symm, fun e => (d e).trans (h2 e).symm⟩⟩
theorem dpS_c9 {f : Int → Int} {A x y w x' y' w' : Int} (h0 : 0 < A → x = x') (h1 : 1 < A → y = y') (h2 : 2 < A → w = w') : dpS f A x y w = dpS f A x' y' w' := by
  unfold dpS
  split
  · rfl
  · rw [h0 (by omega)]
    split
    · rfl
    · rw [h1 (by omega)]
      split
      · rfl
      · rw [h2 (by omega)]
theorem tmO_c9 {G : zJ} {h x y w x' y' w' : Int} (h0 : 0 < oar G h → x = x') (h1 : 1 < oar G h → y = y') (h2 : 2 < oar G h → w = w') : tmO G h x y w = tmO G h x' y' w' := by
  have e1 : ofi G h x y w = ofi G h x' y' w' := by
    unfold ofi
    congr 1
    funext q
    congr 1
    rw [nmT_c9 h0 h1 h2]
  have e2 : odp G h x y w = odp G h x' y' w' := dpS_c9 h0 h1 h2
  have a0 : (if 0 < oar G h then x else -1) = if 0 < oar G h then x' else -1 := by split; exact h0 ‹_›; rfl
  have a1 : (if 1 < oar G h then y else -1) = if 1 < oar G h then y' else -1 := by split; exact h1 ‹_›; rfl
  have a2 : (if 2 < oar G h then w else -1) = if 2 < oar G h then w' else -1 := by split; exact h2 ‹_›; rfl
  unfold tmO
  rw [e1, e2, a0, a1, a2]
theorem tsz_tb {J : zJ} {s m : Int} (hM : MS J 0 0 0 s m) : ∀ (k : Nat) (t : Int), (0 ≤ t ∧ t < m) → tsz (mar (tb0 J) 0 0) (mag (tb0 J) 0) k t = tsz (mar J 0 0) (mag J 0) k t
  | 0, _, _ => rfl
  | k + 1, t, ht => by
    have hT := hM.told
    have ha := hM.ar ht
    have h6 : tb0 J 166 (0 + t) = J 166 (0 + t) := by rw [tb0_6, if_pos (by omega)]
    have eA : mar (tb0 J) 0 0 t = mar J 0 0 t := by
      unfold mar
      rw [h6]
      exact arh_cg (fun q => by rw [tb0_0, if_pos (by omega)])
    have st : ∀ n : Nat, (n : Int) ≤ mar J 0 0 t → tps (tsz (mar (tb0 J) 0 0) (mag (tb0 J) 0) k) (mag (tb0 J) 0) t n = tps (tsz (mar J 0 0) (mag J 0) k) (mag J 0) t n := fun n => by
      induction n with
      | zero => intro _; rfl
      | succ n ih =>
        intro hn
        show tps _ _ t n + _ = tps _ _ t n + _
        have em : mag (tb0 J) 0 t n = mag J 0 t n := by
          show tb0 J 167 (3 * (0 + t) + n) = J 167 (3 * (0 + t) + n)
          rw [tb0_7, if_pos (by omega)]
        have hg := hM.arg ht (i := n) (by omega)
        rw [ih (by omega), em, tsz_tb hM k (mag J 0 t n) ⟨hg.1.1, by have := hg.1.2; show J 167 (3 * (0 + t) + n) < m; omega⟩]
    show tps _ _ t (mar (tb0 J) 0 0 t).toNat = tps _ _ t (mar J 0 0 t).toNat
    rw [eA, st _ (by omega)]
theorem msz_tb {J : zJ} {s m t : Int} (hM : MS J 0 0 0 s m) (ht : 0 ≤ t ∧ t < m) : msz (tb0 J) 0 0 t = msz J 0 0 t := tsz_tb hM 6 t ht
