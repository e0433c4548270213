/-! ===== the machine of normal forms: a term whose arguments are normal ===== -/
/-- what a rule's step makes of a term: the state with the step told, the right side with the bindings put in -/
noncomputable def nRT (S : zJ) (u k : Int) : zJ × Int := apO (omt S (S 165 (10 + 2 * k)) u).2 6 (zup S 165 62 (zw (S 165 62 + 1))) (S 165 (10 + 2 * k + 1))
theorem nRU_t {S : zJ} {σ u k : Int} {K : List NFr} {F : NFr} (h : 100 ≤ σ) : nRU S σ K F u k = ((S, 101), [], -4) := by
  unfold nRU
  rw [if_pos h]
theorem nRU_f {S : zJ} {σ u k : Int} {K : List NFr} {F : NFr} (h : ¬ 100 ≤ σ) (f : ¬ (nRT S u k).1 164 21 = 0) : nRU S σ K F u k = (((nRT S u k).1, σ + 1), [], -3) := by
  unfold nRT at f
  unfold nRU
  rw [if_neg h, if_neg f]
  rfl
theorem nRU_o {S : zJ} {σ u k : Int} {K : List NFr} {F : NFr} (h : ¬ 100 ≤ σ) (f : (nRT S u k).1 164 21 = 0) : nRU S σ K F u k = nOP (nRT S u k).1 (σ + 1) ((F.1, 4, F.2.2) :: K) (nRT S u k).2 := by
  unfold nRT at f
  unfold nRU
  rw [if_neg h, if_pos f]
  rfl
/-- no rule fits: it is its own normal form -/
theorem nmd_n {M : zJ × Int} {σ : Int} {K : List NFr} {F : NFr} (f : M.1 164 21 = 0) (e : nFR M.1 M.2 = M.1 165 9) : nMD M σ K F = ((sr M.1 (mgO (M.1 165) F.1 M.2), σ), K, M.2) := by
  unfold nMD
  rw [if_pos f, if_pos e]
theorem nmd_f {M : zJ × Int} {σ : Int} {K : List NFr} {F : NFr} (f : ¬ M.1 164 21 = 0) : nMD M σ K F = ((M.1, σ), [], -3) := by
  unfold nMD
  rw [if_neg f]
theorem nmd_u {M : zJ × Int} {σ k : Int} {K : List NFr} {F : NFr} (f : M.1 164 21 = 0) (e : nFR M.1 M.2 = k) (hk : k < M.1 165 9) : nMD M σ K F = nRU M.1 σ K F M.2 k := by
  unfold nMD
  rw [if_pos f, if_neg (by omega), e]
/-- a rule fits, and what comes of it has a normal form -/
theorem nmd_r {n : Nat} {M : zJ × Int} {S' : zJ} {σ σ' k z : Int} {K : List NFr} {F : NFr} (f : M.1 164 21 = 0) (e : nFR M.1 M.2 = k) (hk : k < M.1 165 9) (h : ¬ 100 ≤ σ) (g : (nRT M.1 M.2 k).1 164 21 = 0) (r : NRN n (nRT M.1 M.2 k).1 (σ + 1) (nRT M.1 M.2 k).2 S' σ' z) (hz : 0 ≤ z) : nIT (n + 1) (nMD M σ K F) = ((sr S' (mgO (S' 165) F.1 z), σ'), K, z) := by
  rw [nmd_u f e hk, nRU_o h g, nIT_add, r, nit_c (a := 0) hz]
/-- a rule fits, and all stops -/
theorem nmd_s {n : Nat} {M : zJ × Int} {Q : zJ × Int} {σ k v : Int} {K : List NFr} {F : NFr} (f : M.1 164 21 = 0) (e : nFR M.1 M.2 = k) (hk : k < M.1 165 9) (h : ¬ 100 ≤ σ) (g : (nRT M.1 M.2 k).1 164 21 = 0) (r : NRS n (nRT M.1 M.2 k).1 (σ + 1) (nRT M.1 M.2 k).2 Q v) : nIT n (nMD M σ K F) = (Q, [], v) := by
  rw [nmd_u f e hk, nRU_o h g, r]
theorem nmd_t {n : Nat} {M : zJ × Int} {σ k : Int} {K : List NFr} {F : NFr} (f : M.1 164 21 = 0) (e : nFR M.1 M.2 = k) (hk : k < M.1 165 9) (h : 100 ≤ σ) : nIT n (nMD M σ K F) = ((M.1, 101), [], -4) := by
  rw [nmd_u f e hk, nRU_t h, nIT_e]
theorem nmd_x {n : Nat} {M : zJ × Int} {σ k : Int} {K : List NFr} {F : NFr} (f : M.1 164 21 = 0) (e : nFR M.1 M.2 = k) (hk : k < M.1 165 9) (h : ¬ 100 ≤ σ) (g : ¬ (nRT M.1 M.2 k).1 164 21 = 0) : nIT n (nMD M σ K F) = (((nRT M.1 M.2 k).1, σ + 1), [], -3) := by
  rw [nmd_u f e hk, nRU_f h g, nIT_e]
/-- once stopped, it stays so -/
theorem NRS.m {n k : Nat} {S : zJ} {Q : zJ × Int} {σ t v : Int} (h : NRS n S σ t Q v) : NRS (n + k) S σ t Q v := fun K => by
  rw [nIT_add, h, nIT_e]
/-- the turns that a term of depth d may need, without a step -/
def nWT : Nat → Int
  | 0 => 0
  | d + 1 => 3 * nWT d + 8
theorem nWT_0 : ∀ d : Nat, 0 ≤ nWT d
  | 0 => Int.le_refl _
  | d + 1 => by
    have := nWT_0 d
    show 0 ≤ 3 * nWT d + 8
    omega
theorem nWT_6 : nWT 6 = 2912 := rfl
