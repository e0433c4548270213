/-! ===== reading, as a function of the bytes ===== -/
noncomputable def cif {α : Type} (p : Prop) (a b : α) : α := @ite α p (Classical.propDecidable p) a b
theorem cif_pos {α : Type} {p : Prop} {a b : α} (h : p) : cif p a b = a := @if_pos p (Classical.propDecidable p) h α a b
theorem cif_neg {α : Type} {p : Prop} {a b : α} (h : ¬ p) : cif p a b = b := @if_neg p (Classical.propDecidable p) h α a b
noncomputable def dcB (p : Prop) : Bool := cif p true false
theorem dcB_t {p : Prop} (h : p) : dcB p = true := cif_pos h
theorem dcB_f {p : Prop} (h : ¬ p) : dcB p = false := cif_neg h
theorem fnF_cg {p q : Int → Bool} {N : Int} : ∀ (k : Nat) (a : Int), (∀ j, a ≤ j → j < N → p j = q j) → fnF p N k a = fnF q N k a
  | 0, _, _ => rfl
  | k + 1, a, h => by
    show (if a < N ∧ p a = true then fnF p N k (a + 1) else a) = if a < N ∧ q a = true then fnF q N k (a + 1) else a
    by_cases e : a < N
    · rw [h a (Int.le_refl _) e]
      split
      · exact fnF_cg k (a + 1) (fun j x y => h j (by omega) y)
      · rfl
    · rw [if_neg (fun w => e w.1), if_neg (fun w => e w.1)]
theorem fnF_rg {p : Int → Bool} {N : Int} : ∀ (k : Nat) (a : Int), a ≤ N → a ≤ fnF p N k a ∧ fnF p N k a ≤ N
  | 0, a, h => ⟨Int.le_refl _, h⟩
  | k + 1, a, h => by
    show a ≤ (if a < N ∧ p a = true then fnF p N k (a + 1) else a) ∧ (if a < N ∧ p a = true then fnF p N k (a + 1) else a) ≤ N
    split
    · next e =>
      have := fnF_rg (p := p) (N := N) k (a + 1) (by omega)
      omega
    · omega
theorem fnF_at {p : Int → Bool} {N : Int} : ∀ (k : Nat) (a : Int), a ≤ N → (N - a).toNat ≤ k → (∀ q, a ≤ q → q < fnF p N k a → p q = true) ∧ (fnF p N k a = N ∨ p (fnF p N k a) = false)
  | 0, a, h, h1 => ⟨fun q x y => by have : q < a := y; omega, Or.inl (by show a = N; omega)⟩
  | k + 1, a, h, h1 => by
    show (∀ q, a ≤ q → q < (if a < N ∧ p a = true then fnF p N k (a + 1) else a) → p q = true) ∧ ((if a < N ∧ p a = true then fnF p N k (a + 1) else a) = N ∨ p (if a < N ∧ p a = true then fnF p N k (a + 1) else a) = false)
    by_cases e : a < N ∧ p a = true
    · rw [if_pos e]
      have g := fnF_at (p := p) (N := N) k (a + 1) (by omega) (by omega)
      refine ⟨fun q x y => ?_, g.2⟩
      by_cases e2 : q = a
      · rw [e2]; exact e.2
      · exact g.1 q (by omega) y
    · rw [if_neg e]
      refine ⟨fun q x y => by omega, ?_⟩
      by_cases e2 : a < N
      · refine Or.inr ?_
        cases hp : p a with
        | true => exact absurd ⟨e2, hp⟩ e
        | false => rfl
      · exact Or.inl (by omega)
theorem fnB_rg {p : Int → Bool} {N a : Int} (h : a ≤ N) : a ≤ fnB p N a ∧ fnB p N a ≤ N := fnF_rg _ a h
theorem fnB_at {p : Int → Bool} {N a : Int} (h : a ≤ N) : (∀ q, a ≤ q → q < fnB p N a → p q = true) ∧ (fnB p N a = N ∨ p (fnB p N a) = false) := fnF_at _ a h (Nat.le_refl _)
theorem fnB_cg {p q : Int → Bool} {N a : Int} (h : ∀ j, a ≤ j → j < N → p j = q j) : fnB p N a = fnB q N a := fnF_cg _ a h
theorem tk_rg {f : Int → Int} {N a : Int} (ha : 0 ≤ a ∧ a ≤ N) : (a ≤ tkS f N a ∧ tkS f N a ≤ tkE f N a ∧ tkE f N a ≤ N) ∧ (tkK f N a = 0 ∨ (tkS f N a < N ∧ tkS f N a < tkE f N a)) := by
  have r1 : a ≤ tkS f N a ∧ tkS f N a ≤ N := fnB_rg ha.2
  by_cases q : tkS f N a < N
  · have e : tkS f N a + 1 ≤ tkE f N a ∧ tkE f N a ≤ N := by
      unfold tkE
      rw [if_pos q]
      split
      · exact fnB_rg (by omega)
      · omega
    exact ⟨by omega, Or.inr ⟨q, by omega⟩⟩
  · have e := tkK_0 (f := f) (N := N) (a := a) rfl q
    exact ⟨by omega, Or.inl e.1⟩
/-- the state of the reading: scalars in 0 (size, start, end, kind, fault, its place), bytes in 1; symbols, table and rows where the reference has those of a text -/
def pN (g : zJ) : zJ := zup (zup (zup g 0 1 (tkS (g 1) (g 0 0) (g 0 2))) 0 3 (tkK (g 1) (g 0 0) (g 0 2))) 0 2 (tkE (g 1) (g 0 0) (g 0 2))
def pF (g : zJ) (c : Int) : zJ := zup (zup g 0 4 c) 0 5 (g 0 1)
def pP (g : zJ) (c : Int) : zJ := if g 0 4 = 0 then (if g 0 3 = c then pN g else pF g 1) else g
def pU (g : zJ) (lo hi : Int) : zJ × Int := if g 0 4 = 0 then (if g 0 3 = 3 then (if g 0 2 = g 0 1 + 1 ∧ lo ≤ g 1 (g 0 1) - 48 ∧ g 1 (g 0 1) - 48 ≤ hi then (pN g, g 1 (g 0 1) - 48) else (pF g 2, lo)) else (pF g 1, lo)) else (g, lo)
def psy (g : zJ) (c : Int) : Int := fnB (fun k => decide (¬ g 169 (10 + k) = c)) (g 164 44) 0
def par (g : zJ) (h : Int) : Int := arh (fun k => g 170 (10 + k)) h
/-- the place of the term that is such a one, or how many there are -/
noncomputable def pfi (g : zJ) (h x y w : Int) : Int := fnB (fun q => dcB (¬ nmT g 800 (par g h) h x y w q)) (g 165 126) 0
def pdp (g : zJ) (h x y w : Int) : Int := dpS (fun t => g 168 (800 + t)) (par g h) x y w
/-- 99: there is no room (which no text comes to) -/
noncomputable def pMd (g : zJ) (h x y w : Int) : zJ × Int := if pfi g h x y w < g 165 126 then (g, pfi g h x y w) else if pdp g h x y w ≤ 6 ∧ g 165 126 < 400 then (chT g 800 126 (g 165 126) h (if 0 < par g h then x else -1) (if 1 < par g h then y else -1) (if 2 < par g h then w else -1) (pdp g h x y w), g 165 126) else (zup g 0 4 99, 0)
noncomputable def pV (g : zJ) : zJ × Int := if (pU (pN g) 0 7).1 0 4 = 0 then pMd (pU (pN g) 0 7).1 (-1 - (pU (pN g) 0 7).2) 0 0 0 else ((pU (pN g) 0 7).1, 0)
/-- the arguments of a term, one by one, and what it is then -/
def pA1 (T : zJ → Int → zJ × Int) (g : zJ) (A d : Int) : zJ × Int := if 0 < A then T (pP g 40) (d + 1) else (g, 0)
def pA2 (T : zJ → Int → zJ × Int) (g : zJ) (A d : Int) : zJ × Int := if 1 < A then T (pP (pA1 T g A d).1 44) (d + 1) else ((pA1 T g A d).1, 0)
def pA3 (T : zJ → Int → zJ × Int) (g : zJ) (A d : Int) : zJ × Int := if 2 < A then T (pP (pA2 T g A d).1 44) (d + 1) else ((pA2 T g A d).1, 0)
def pA4 (T : zJ → Int → zJ × Int) (g : zJ) (A d : Int) : zJ := if 0 < A then pP (pA3 T g A d).1 41 else (pA3 T g A d).1
noncomputable def pC (T : zJ → Int → zJ × Int) (g : zJ) (s d : Int) : zJ × Int := if (pA4 T g (g 170 (10 + s)) d) 0 4 = 0 then pMd (pA4 T g (g 170 (10 + s)) d) s (pA1 T g (g 170 (10 + s)) d).2 (pA2 T g (g 170 (10 + s)) d).2 (pA3 T g (g 170 (10 + s)) d).2 else (pA4 T g (g 170 (10 + s)) d, 0)
noncomputable def pT : Nat → zJ → Int → zJ × Int
  | 0, g, _ => (g, 0)
  | k + 1, g, d => if g 0 4 = 0 then (if g 0 3 = 63 then (if d ≤ 6 then pV g else (pF g 2, 0)) else if g 0 3 = 2 then (if d ≤ 6 ∧ g 0 2 = g 0 1 + 1 then (if psy g (g 1 (g 0 1)) < g 164 44 then pC (pT k) (pN g) (psy g (g 1 (g 0 1))) d else (pF g 3, 0)) else (pF g 2, 0)) else (pF g 1, 0)) else (g, 0)
/-- which word stands here -/
def pIs (g : zJ) (w : List Int) : Prop := g 0 3 = 2 ∧ mtB (g 1) (g 0 1) (g 0 2) w
def pSm (g : zJ) (c n w : Int) : zJ := zup (zup (zup (zup g 169 (10 + g 164 44) c) 170 (10 + g 164 44) n) 171 (10 + g 164 44) w) 164 44 (g 164 44 + 1)
def pNm (g : zJ) : zJ × Int := if g 0 3 = 2 then (if g 0 2 = g 0 1 + 1 then (if psy g (g 1 (g 0 1)) < g 164 44 then (pF g 4, 0) else (pN g, g 1 (g 0 1))) else (pF g 2, 0)) else (pF g 1, 0)
/-- the five clauses, up to the sign behind them -/
def pS1 (g : zJ) : zJ × Int := pNm (pN g)
def pS2 (g : zJ) : zJ × Int := pU (pS1 g).1 0 3
def pS3 (g : zJ) : zJ × Int := pU (pS2 g).1 1 9
def pSy (g : zJ) : zJ := if g 164 44 < 10 then (if (pS3 g).1 0 4 = 0 then pSm (pS3 g).1 (pS1 g).2 (pS2 g).2 (pS3 g).2 else (pS3 g).1) else pF g 2
noncomputable def pTo (g : zJ) : zJ := if g 0 4 = 0 then cif (pIs g [116, 111]) (pN g) (pF g 1) else g
noncomputable def pR1 (g : zJ) : zJ × Int := pT 8 (pN g) 1
noncomputable def pR2 (g : zJ) : zJ × Int := pT 8 (pTo (pR1 g).1) 1
noncomputable def pRu (g : zJ) : zJ := if g 165 135 < 8 then (if (pR2 g).1 0 4 = 0 then (if (pR2 g).1 0 3 = 59 then cif (mru (pR2 g).1 800 10 (pR1 g).2 (pR2 g).2) (zrl (pR2 g).1 126 (pR1 g).2 (pR2 g).2) (pF (pR2 g).1 5) else pF (pR2 g).1 1) else (pR2 g).1) else pF g 2
def pey (g : zJ) (t : Int) : Int := fnB (fun k => decide (¬ g 165 (153 + k) = t)) (g 165 152) 0
noncomputable def pEn (g : zJ) : zJ := if g 165 152 < 12 then (if (pR1 g).1 0 4 = 0 then (if (pR1 g).1 0 3 = 59 then (if pey (pR1 g).1 (pR1 g).2 < (pR1 g).1 165 152 then pF (pR1 g).1 5 else zen (pR1 g).1 126 (pR1 g).2) else pF (pR1 g).1 1) else (pR1 g).1) else pF g 2
def pO1 (g : zJ) : zJ × Int := pU (pN g) 0 9
def pRo (g : zJ) : zJ := if g 164 45 = 0 then (if (pO1 g).1 0 4 = 0 then zup (zup (pO1 g).1 165 165 (pO1 g).2) 164 45 1 else (pO1 g).1) else pF g 4
noncomputable def pCl (g : zJ) : zJ := cif (pIs g [115, 121, 109, 98, 111, 108]) (pSy g) (cif (pIs g [116, 101, 114, 109]) (pR1 g).1 (cif (pIs g [114, 117, 108, 101]) (pRu g) (cif (pIs g [101, 110, 116, 114, 121]) (pEn g) (cif (pIs g [114, 111, 111, 109]) (pRo g) (pF g 1)))))
noncomputable def pAl : Nat → zJ → zJ
  | 0, g => g
  | k + 1, g => if g 0 4 = 0 ∧ ¬ g 0 3 = 0 then pAl k (pP (pCl g) 59) else g
