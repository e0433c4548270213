/-! ===== normal forms: a machine that both sides come to ===== -/
/-- the row made another one -/
def sr (S : zJ) (f : Int → Int) : zJ := fun c => if c = 165 then f else S c
/-- where the memo has t; the memo's length without -/
noncomputable def mAt (S : zJ) (t : Int) : Int := fnB (fun q => dcB (¬ S 165 (41 + 2 * q) = t)) (S 165 40) 0
/-- the first rule that fits t; their number without -/
noncomputable def nFR (S : zJ) (t : Int) : Int := fnB (fun q => dcB ((omt S (S 165 (10 + 2 * q)) t).1 = false)) (S 165 9) 0
theorem mAt_n {S : zJ} {t : Int} (h0 : 0 ≤ S 165 40) (h : ∀ q, 0 ≤ q → q < S 165 40 → ¬ S 165 (41 + 2 * q) = t) : mAt S t = S 165 40 := fnB_eq h0 (Int.le_refl _) (fun q a b => dcB_t (h q a b)) (Or.inl rfl)
theorem mAt_y {S : zJ} {t z : Int} (hz : 0 ≤ z ∧ z < S 165 40) (e : S 165 (41 + 2 * z) = t) (h : ∀ q, 0 ≤ q → q < z → ¬ S 165 (41 + 2 * q) = t) : mAt S t = z := fnB_eq hz.1 (by omega) (fun q a b => dcB_t (h q a b)) (Or.inr (dcB_f (fun k => k e)))
theorem FRO.n {S : zJ} {t z : Int} {σ : Int → Int} (h0 : 0 ≤ S 165 9) (h : FRO S t z σ) : (z = -1 ∧ nFR S t = S 165 9) ∨ ((0 ≤ z ∧ z < S 165 9) ∧ nFR S t = z ∧ sgA σ (omt S (S 165 (10 + 2 * z)) t).2) := by
  rcases h with ⟨a, b⟩ | ⟨a, b, c, d⟩
  · exact Or.inl ⟨a, fnB_eq h0 (Int.le_refl _) (fun q p r => dcB_t (b q p r)) (Or.inl rfl)⟩
  · exact Or.inr ⟨a, fnB_eq a.1 (by omega) (fun q p r => dcB_t (d q p r)) (Or.inr (dcB_f (fun k => by rw [b] at k; cases k))), c⟩
/-- a frame: the term, how many arguments are normal (4: stepped), they -/
abbrev NFr : Type := Int × Int × Int × Int × Int
/-- a state: what is told and the steps, the frames, a value (-1: go on, -3: full, -4: too much) -/
abbrev NCf : Type := (zJ × Int) × List NFr × Int
/-- what is known at once of a term, else a frame for it -/
noncomputable def nOP (S : zJ) (σ : Int) (K : List NFr) (t : Int) : NCf :=
  if S 166 (0 + t) < 0 then ((S, σ), K, t)
  else if mAt S t = S 165 40 then ((S, σ), (t, 0, 0, 0, 0) :: K, -1)
  else ((sr S (mhO (S 165) (mAt S t)), σ), K, S 165 (41 + 2 * mAt S t + 1))
/-- a step by a rule -/
noncomputable def nRU (S : zJ) (σ : Int) (K : List NFr) (F : NFr) (u k : Int) : NCf :=
  if 100 ≤ σ then ((S, 101), [], -4)
  else if (apO (omt S (S 165 (10 + 2 * k)) u).2 6 (zup S 165 62 (zw (S 165 62 + 1))) (S 165 (10 + 2 * k + 1))).1 164 21 = 0 then nOP (apO (omt S (S 165 (10 + 2 * k)) u).2 6 (zup S 165 62 (zw (S 165 62 + 1))) (S 165 (10 + 2 * k + 1))).1 (σ + 1) ((F.1, 4, F.2.2) :: K) (apO (omt S (S 165 (10 + 2 * k)) u).2 6 (zup S 165 62 (zw (S 165 62 + 1))) (S 165 (10 + 2 * k + 1))).2
  else (((apO (omt S (S 165 (10 + 2 * k)) u).2 6 (zup S 165 62 (zw (S 165 62 + 1))) (S 165 (10 + 2 * k + 1))).1, σ + 1), [], -3)
/-- a term whose arguments are normal: S is the state with it, u it -/
noncomputable def nMD (M : zJ × Int) (σ : Int) (K : List NFr) (F : NFr) : NCf :=
  if M.1 164 21 = 0 then (if nFR M.1 M.2 = M.1 165 9 then ((sr M.1 (mgO (M.1 165) F.1 M.2), σ), K, M.2) else nRU M.1 σ K F M.2 (nFR M.1 M.2)) else ((M.1, σ), [], -3)
noncomputable def nST : NCf → NCf
  | (Q, [], v) => (Q, [], v)
  | (Q, F :: K, v) =>
    if v = -1 then (if F.2.1 < mar Q.1 0 0 F.1 then nOP Q.1 Q.2 (F :: K) (Q.1 167 (3 * (0 + F.1) + F.2.1)) else nMD (tmO Q.1 (Q.1 166 (0 + F.1)) F.2.2.1 F.2.2.2.1 F.2.2.2.2) Q.2 K F)
    else if 3 ≤ F.2.1 then ((sr Q.1 (mgO (Q.1 165) F.1 v), Q.2), K, v)
    else (Q, (F.1, F.2.1 + 1, if F.2.1 = 0 then v else F.2.2.1, if F.2.1 = 1 then v else F.2.2.2.1, if F.2.1 = 2 then v else F.2.2.2.2) :: K, -1)
noncomputable def nIT : Nat → NCf → NCf
  | 0, c => c
  | n + 1, c => nIT n (nST c)
theorem nIT_s {n : Nat} {c : NCf} : nIT (n + 1) c = nIT n (nST c) := rfl
theorem nIT_1 {c : NCf} : nIT 1 c = nST c := nIT_s (n := 0)
theorem nST_s {Q : zJ × Int} {F : NFr} {K : List NFr} {v : Int} : nST (Q, F :: K, v) = if v = -1 then (if F.2.1 < mar Q.1 0 0 F.1 then nOP Q.1 Q.2 (F :: K) (Q.1 167 (3 * (0 + F.1) + F.2.1)) else nMD (tmO Q.1 (Q.1 166 (0 + F.1)) F.2.2.1 F.2.2.2.1 F.2.2.2.2) Q.2 K F) else if 3 ≤ F.2.1 then ((sr Q.1 (mgO (Q.1 165) F.1 v), Q.2), K, v) else (Q, (F.1, F.2.1 + 1, if F.2.1 = 0 then v else F.2.2.1, if F.2.1 = 1 then v else F.2.2.2.1, if F.2.1 = 2 then v else F.2.2.2.2) :: K, -1) := rfl
theorem nIT_add : ∀ (n k : Nat) (c : NCf), nIT (n + k) c = nIT k (nIT n c)
  | 0, k, c => by rw [Nat.zero_add]; rfl
  | n + 1, k, c => by rw [show n + 1 + k = (n + k) + 1 from by omega]; exact nIT_add n k (nST c)
theorem nIT_e : ∀ (n : Nat) (Q : zJ × Int) (v : Int), nIT n (Q, [], v) = (Q, [], v)
  | 0, _, _ => rfl
  | n + 1, Q, v => nIT_e n Q v
/-- from any frames below, t comes to z in n turns -/
def NRN (n : Nat) (S : zJ) (σ t : Int) (S' : zJ) (σ' z : Int) : Prop := ∀ K, nIT n (nOP S σ K t) = ((S', σ'), K, z)
/-- from any frames below, all stops within n turns -/
def NRS (n : Nat) (S : zJ) (σ t : Int) (Q : zJ × Int) (v : Int) : Prop := ∀ K, nIT n (nOP S σ K t) = (Q, [], v)
theorem nrn_v {S : zJ} {σ t : Int} (h : S 166 (0 + t) < 0) : NRN 0 S σ t S σ t := fun K => by
  show nOP S σ K t = _
  unfold nOP
  rw [if_pos h]
theorem nrn_m {S : zJ} {σ t : Int} (h : ¬ S 166 (0 + t) < 0) (e : ¬ mAt S t = S 165 40) : NRN 0 S σ t (sr S (mhO (S 165) (mAt S t))) σ (S 165 (41 + 2 * mAt S t + 1)) := fun K => by
  show nOP S σ K t = _
  unfold nOP
  rw [if_neg h, if_neg e]
theorem nop_f {S : zJ} {σ t : Int} {K : List NFr} (h : ¬ S 166 (0 + t) < 0) (e : mAt S t = S 165 40) : nOP S σ K t = ((S, σ), (t, 0, 0, 0, 0) :: K, -1) := by
  unfold nOP
  rw [if_neg h, if_pos e]
/-- an argument is made normal -/
theorem nit_a {n : Nat} {S S' : zJ} {σ σ' t s a b c z : Int} {K : List NFr} (hs : s < mar S 0 0 t) (h3 : s < 3) (r : NRN n S σ (S 167 (3 * (0 + t) + s)) S' σ' z) (hz : 0 ≤ z) : nIT (1 + n + 1) ((S, σ), (t, s, a, b, c) :: K, -1) = ((S', σ'), (t, s + 1, if s = 0 then z else a, if s = 1 then z else b, if s = 2 then z else c) :: K, -1) := by
  rw [nIT_add, nIT_add]
  have e : nIT 1 ((S, σ), (t, s, a, b, c) :: K, -1) = nOP S σ ((t, s, a, b, c) :: K) (S 167 (3 * (0 + t) + s)) := by
    rw [nIT_1, nST_s]
    rw [if_pos rfl, if_pos hs]
  rw [e, r]
  rw [nIT_1, nST_s]
  rw [if_neg (by omega), if_neg (by show ¬ 3 ≤ s; omega)]
theorem nit_as {n : Nat} {S : zJ} {Q : zJ × Int} {σ t s a b c v : Int} {K : List NFr} (hs : s < mar S 0 0 t) (r : NRS n S σ (S 167 (3 * (0 + t) + s)) Q v) : nIT (1 + n) ((S, σ), (t, s, a, b, c) :: K, -1) = (Q, [], v) := by
  rw [nIT_add]
  have e : nIT 1 ((S, σ), (t, s, a, b, c) :: K, -1) = nOP S σ ((t, s, a, b, c) :: K) (S 167 (3 * (0 + t) + s)) := by
    rw [nIT_1, nST_s]
    rw [if_pos rfl, if_pos hs]
  rw [e, r]
/-- all arguments are normal: it is made -/
theorem nit_d {S : zJ} {σ t s a b c : Int} {K : List NFr} (hs : ¬ s < mar S 0 0 t) : nIT 1 ((S, σ), (t, s, a, b, c) :: K, -1) = nMD (tmO S (S 166 (0 + t)) a b c) σ K (t, s, a, b, c) := by
  rw [nIT_1, nST_s]
  rw [if_pos rfl, if_neg hs]
/-- behind a step: the frame is closed with what came -/
theorem nit_c {S : zJ} {σ t a z : Int} {p : Int × Int × Int} {K : List NFr} (hz : 0 ≤ z) : nIT 1 ((S, σ), (t, 4, p) :: K, z) = ((sr S (mgO (S 165) t z), σ), K, z) := by
  rw [nIT_1, nST_s]
  rw [if_neg (by omega), if_pos (by show (3 : Int) ≤ 4; decide)]
