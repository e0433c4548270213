/-! ===== classes listed with their uses, and taken away ===== -/
def smI (f : Int → Int) : Nat → Int
  | 0 => 0
  | n + 1 => smI f n + f n
theorem smI_s {f : Int → Int} {n : Nat} : smI f (n + 1) = smI f n + f n := rfl
theorem smI_cg {f g : Int → Int} : ∀ (n : Nat), (∀ k : Int, 0 ≤ k → k < n → f k = g k) → smI f n = smI g n
  | 0, _ => rfl
  | n + 1, h => by rw [smI_s, smI_s, smI_cg n (fun k a b => h k a (by omega)), h n (by omega) (by omega)]
theorem smI_up {f g : Int → Int} {d v : Int} : ∀ (n : Nat), (0 ≤ d ∧ d < n) → g d = f d + v → (∀ k : Int, ¬ k = d → g k = f k) → smI g n = smI f n + v
  | 0, h, _, _ => by omega
  | n + 1, h, e, q => by
    rw [smI_s, smI_s]
    by_cases w : d = n
    · rw [smI_cg n (fun k a b => q k (by omega)), ← w, e]
      omega
    · rw [smI_up n (by omega) e q, q n (by omega)]
      omega
theorem smI_nn {f : Int → Int} : ∀ (n : Nat), (∀ k : Int, 0 ≤ f k) → 0 ≤ smI f n
  | 0, _ => Int.le_refl 0
  | n + 1, h => by
    have a := smI_nn n h
    have b := h n
    rw [smI_s]
    omega
theorem smI_ge {f : Int → Int} {d : Int} : ∀ (n : Nat), (∀ k : Int, 0 ≤ f k) → (0 ≤ d ∧ d < n) → f d ≤ smI f n
  | 0, _, h => by omega
  | n + 1, p, h => by
    have a := smI_nn n p
    have b := p n
    rw [smI_s]
    by_cases w : d = n
    · rw [w]; omega
    · have := smI_ge n p (d := d) (by omega)
      omega
theorem smI_ex {f : Int → Int} : ∀ (n : Nat), 0 < smI f n → ∃ d : Int, (0 ≤ d ∧ d < n) ∧ 0 < f d
  | 0, h => by
    have : smI f 0 = 0 := rfl
    omega
  | n + 1, h => by
    rw [smI_s] at h
    by_cases w : 0 < f n
    · exact ⟨n, by omega, w⟩
    · obtain ⟨d, a, b⟩ := smI_ex (f := f) n (by omega)
      exact ⟨d, by omega, b⟩
/-- arguments of a class, as classes -/
def nai (S : zJ) (sh : Int → Int) (d : Int) : Int := if sh d = -1 then 0 else arN S 0 0 (sh d)
def chi (S : zJ) (T sh : Int → Int) (d i : Int) : Int := T (agN S 0 (sh d) i)
def eP (S : zJ) (T sh : Int → Int) (d c i : Int) : Int := (if 0 < i ∧ 0 < nai S sh d ∧ chi S T sh d 0 = c then 1 else 0) + (if 1 < i ∧ 1 < nai S sh d ∧ chi S T sh d 1 = c then 1 else 0) + (if 2 < i ∧ 2 < nai S sh d ∧ chi S T sh d 2 = c then 1 else 0)
theorem eP_0 {S : zJ} {T sh : Int → Int} {d c : Int} : eP S T sh d c 0 = 0 := by
  unfold eP
  rw [if_neg (by omega), if_neg (by omega), if_neg (by omega)]
  rfl
theorem eP_nn {S : zJ} {T sh : Int → Int} {d c i : Int} : 0 ≤ eP S T sh d c i := by
  unfold eP
  (repeat' split) <;> omega
theorem e1_o {S : zJ} {T sh : Int → Int} {d c i j : Int} (h : ¬ j = i) : (if j < i + 1 ∧ j < nai S sh d ∧ chi S T sh d j = c then 1 else 0 : Int) = if j < i ∧ j < nai S sh d ∧ chi S T sh d j = c then 1 else 0 := by
  have : (j < i + 1) ↔ (j < i) := by omega
  simp only [this]
theorem e1_n {S : zJ} {T sh : Int → Int} {d c i : Int} (hn : i < nai S sh d) : (if i < i + 1 ∧ i < nai S sh d ∧ chi S T sh d i = c then 1 else 0 : Int) = (if i < i ∧ i < nai S sh d ∧ chi S T sh d i = c then 1 else 0) + (if chi S T sh d i = c then 1 else 0) := by
  rw [if_neg (fun q : i < i ∧ i < nai S sh d ∧ chi S T sh d i = c => by have := q.1; omega)]
  by_cases w : chi S T sh d i = c
  · rw [if_pos ⟨by omega, hn, w⟩, if_pos w]; rfl
  · rw [if_neg (fun q : i < i + 1 ∧ i < nai S sh d ∧ chi S T sh d i = c => w q.2.2), if_neg w]; rfl
theorem eP_s {S : zJ} {T sh : Int → Int} {d c i : Int} (hi : 0 ≤ i ∧ i < 3) (hn : i < nai S sh d) : eP S T sh d c (i + 1) = eP S T sh d c i + (if chi S T sh d i = c then 1 else 0) := by
  have : i = 0 ∨ i = 1 ∨ i = 2 := by omega
  unfold eP
  rcases this with rfl | rfl | rfl
  · rw [e1_n (i := 0) hn, e1_o (i := 0) (j := 1) (by decide), e1_o (i := 0) (j := 2) (by decide)]; omega
  · rw [e1_n (i := 1) hn, e1_o (i := 1) (j := 0) (by decide), e1_o (i := 1) (j := 2) (by decide)]; omega
  · rw [e1_n (i := 2) hn, e1_o (i := 2) (j := 0) (by decide), e1_o (i := 2) (j := 1) (by decide)]; omega
theorem eP_e {S : zJ} {T sh : Int → Int} {d c i : Int} (h : nai S sh d ≤ i) : eP S T sh d c i = eP S T sh d c 3 := by
  unfold eP
  have e : ∀ j : Int, j < 3 → ((j < i ∧ j < nai S sh d ∧ chi S T sh d j = c) ↔ (j < 3 ∧ j < nai S sh d ∧ chi S T sh d j = c)) := fun j hj => ⟨fun q => ⟨hj, q.2⟩, fun q => ⟨by omega, q.2⟩⟩
  simp only [e 0 (by decide), e 1 (by decide), e 2 (by decide)]
theorem eP_z {S : zJ} {T sh : Int → Int} {d c i : Int} (h : ∀ j, 0 ≤ j → j < i → j < nai S sh d → ¬ chi S T sh d j = c) : eP S T sh d c i = 0 := by
  unfold eP
  rw [if_neg (fun q => h 0 (by decide) q.1 q.2.1 q.2.2), if_neg (fun q => h 1 (by decide) q.1 q.2.1 q.2.2), if_neg (fun q => h 2 (by decide) q.1 q.2.1 q.2.2)]
  rfl
theorem eP_x {S : zJ} {T sh : Int → Int} {d c i : Int} (h : 0 < eP S T sh d c i) : ∃ j, (0 ≤ j ∧ j < i) ∧ j < nai S sh d ∧ chi S T sh d j = c := Classical.byContradiction (fun n => by
  have := eP_z (S := S) (T := T) (sh := sh) (d := d) (c := c) (i := i) (fun j a b e w => n ⟨j, ⟨a, b⟩, e, w⟩)
  omega)
theorem eP_p {S : zJ} {T sh : Int → Int} {d c j : Int} (h : 0 ≤ j ∧ j < 3) (hn : j < nai S sh d) (e : chi S T sh d j = c) : 0 < eP S T sh d c 3 := by
  have : j = 0 ∨ j = 1 ∨ j = 2 := by omega
  unfold eP
  rcases this with rfl | rfl | rfl
  · rw [if_pos ⟨by decide, hn, e⟩]; (repeat' split) <;> omega
  · rw [if_pos (show (1 : Int) < 3 ∧ _ from ⟨by decide, hn, e⟩)]; (repeat' split) <;> omega
  · rw [if_pos (show (2 : Int) < 3 ∧ _ from ⟨by decide, hn, e⟩)]; (repeat' split) <;> omega
/-- uses out of a set of classes -/
noncomputable def SUd (S : zJ) (T sh : Int → Int) (D : Int → Prop) (c : Int) : Int := smI (fun d => @ite _ (D d) (Classical.propDecidable _) (eP S T sh d c 3) 0) 800
theorem SUd_f {D : Int → Prop} {a : Int} (h : 0 ≤ a) {d : Int} : 0 ≤ @ite _ (D d) (Classical.propDecidable _) a 0 := by
  by_cases w : D d
  · rw [@if_pos _ (Classical.propDecidable _) w]; exact h
  · rw [@if_neg _ (Classical.propDecidable _) w]; exact Int.le_refl 0
theorem SUd.cg {S : zJ} {T sh : Int → Int} {D D' : Int → Prop} {c : Int} (h : ∀ d, D' d ↔ D d) : SUd S T sh D' c = SUd S T sh D c := by
  have : D' = D := funext fun d => propext (h d)
  rw [this]
theorem SUd.add {S : zJ} {T sh : Int → Int} {D D' : Int → Prop} {c d0 : Int} (h0 : 0 ≤ d0 ∧ d0 < 800) (n : ¬ D d0) (h : ∀ d, D' d ↔ D d ∨ d = d0) : SUd S T sh D' c = SUd S T sh D c + eP S T sh d0 c 3 := by
  unfold SUd
  refine smI_up 800 h0 ?_ (fun k q => ?_)
  · (try dsimp only)
    rw [@if_pos _ (Classical.propDecidable _) ((h d0).2 (Or.inr rfl)), @if_neg _ (Classical.propDecidable _) n]
    omega
  · (try dsimp only)
    by_cases w : D k
    · rw [@if_pos _ (Classical.propDecidable _) ((h k).2 (Or.inl w)), @if_pos _ (Classical.propDecidable _) w]
    · rw [@if_neg _ (Classical.propDecidable _) (fun y => w (((h k).1 y).resolve_right q)), @if_neg _ (Classical.propDecidable _) w]
theorem SUd.z {S : zJ} {T sh : Int → Int} {D : Int → Prop} {c : Int} (h : ∀ d, D d → eP S T sh d c 3 = 0) : SUd S T sh D c = 0 := by
  unfold SUd
  have e : smI (fun d => @ite _ (D d) (Classical.propDecidable _) (eP S T sh d c 3) 0) 800 = smI (fun _ => 0) 800 := smI_cg 800 (fun k _ _ => by
    by_cases w : D k
    · rw [@if_pos _ (Classical.propDecidable _) w]; exact h k w
    · rw [@if_neg _ (Classical.propDecidable _) w])
  rw [e]
  have z : ∀ n : Nat, smI (fun _ => 0) n = 0 := fun n => by
    induction n with
    | zero => rfl
    | succ n ih => rw [smI_s, ih]; rfl
  exact z 800
theorem SUd.nn {S : zJ} {T sh : Int → Int} {D : Int → Prop} {c : Int} : 0 ≤ SUd S T sh D c := smI_nn 800 (fun _ => SUd_f eP_nn)
theorem SUd.ge {S : zJ} {T sh : Int → Int} {D : Int → Prop} {c d : Int} (hd : 0 ≤ d ∧ d < 800) (w : D d) : eP S T sh d c 3 ≤ SUd S T sh D c := by
  have := smI_ge (f := fun d => @ite _ (D d) (Classical.propDecidable _) (eP S T sh d c 3) 0) (d := d) 800 (fun _ => SUd_f eP_nn) hd
  (try dsimp only at this)
  rw [@if_pos _ (Classical.propDecidable _) w] at this
  exact this
theorem SUd.ex {S : zJ} {T sh : Int → Int} {D : Int → Prop} {c : Int} (h : 0 < SUd S T sh D c) : ∃ d : Int, (0 ≤ d ∧ d < 800) ∧ D d ∧ 0 < eP S T sh d c 3 := by
  obtain ⟨d, a, b⟩ := smI_ex 800 h
  by_cases w : D d
  · rw [@if_pos _ (Classical.propDecidable _) w] at b
    exact ⟨d, a, w, b⟩
  · rw [@if_neg _ (Classical.propDecidable _) w] at b
    omega
/-- what stands in a row -/
def DLr (r : Int → Int) (f c : Int) : Prop := ∃ j, (0 ≤ j ∧ j < f) ∧ r j = c
noncomputable def cnP (D : Int → Prop) : Nat := cnt (fun c => @decide (D c) (Classical.propDecidable _)) 800
theorem cnP_lt {D D' : Int → Prop} (h : ∀ c, (0 ≤ c ∧ c < 800) → D c → D' c) (e : ∃ c, (0 ≤ c ∧ c < 800) ∧ D' c ∧ ¬ D c) : cnP D < cnP D' := by
  obtain ⟨c, hc, e1, e2⟩ := e
  exact cnt_lt 800 (fun k a b q => @decide_eq_true _ (Classical.propDecidable _) (h k ⟨a, by omega⟩ (@of_decide_eq_true _ (Classical.propDecidable _) q))) ⟨c, ⟨hc.1, by omega⟩, @decide_eq_true _ (Classical.propDecidable _) e1, @decide_eq_false _ (Classical.propDecidable _) e2⟩
theorem cnP_8 (D : Int → Prop) : cnP D ≤ 800 := cnt_n 800
theorem cnt_ad {p q : Int → Bool} {d : Int} : ∀ (n : Nat), (0 ≤ d ∧ d < n) → p d = true → q d = false → (∀ k : Int, ¬ k = d → p k = q k) → cnt p n = cnt q n + 1
  | 0, h, _, _, _ => by omega
  | n + 1, h, hp, hq, e => by
    show cnt p n + _ = cnt q n + _ + 1
    by_cases w : d = n
    · subst w
      have c : ∀ k : Nat, k ≤ n → cnt p k = cnt q k := fun k => by
        induction k with
        | zero => intro _; rfl
        | succ k ih =>
          intro hk
          show cnt p k + _ = cnt q k + _
          rw [ih (by omega), e (k : Int) (by omega)]
      rw [c n (Nat.le_refl _), if_pos hp, if_neg (by rw [hq]; decide)]
    · rw [cnt_ad n (by omega) hp hq e, e (n : Int) (by omega)]
      omega
theorem cnP_ad {D D' : Int → Prop} {d : Int} (hd : 0 ≤ d ∧ d < 800) (n : ¬ D d) (h : ∀ c, D' c ↔ D c ∨ c = d) : cnP D' = cnP D + 1 := cnt_ad 800 hd (@decide_eq_true _ (Classical.propDecidable _) ((h d).2 (Or.inr rfl))) (@decide_eq_false _ (Classical.propDecidable _) n) (fun k q => by
  by_cases w : D k
  · rw [@decide_eq_true _ (Classical.propDecidable _) w, @decide_eq_true _ (Classical.propDecidable _) ((h k).2 (Or.inl w))]
  · rw [@decide_eq_false _ (Classical.propDecidable _) w, @decide_eq_false _ (Classical.propDecidable _) (fun y => w (((h k).1 y).resolve_right q))])
theorem DLr.push {r r' : Int → Int} {f z : Int} (hf : 0 ≤ f) (e : ∀ k, r' k = if k = f then z else r k) : ∀ c, DLr r' (f + 1) c ↔ DLr r f c ∨ c = z := fun c => by
  constructor
  · rintro ⟨j, hj, q⟩
    rw [e] at q
    by_cases w : j = f
    · rw [if_pos w] at q; exact Or.inr q.symm
    · rw [if_neg w] at q; exact Or.inl ⟨j, by omega, q⟩
  · rintro (⟨j, hj, q⟩ | q)
    · exact ⟨j, by omega, by rw [e, if_neg (by omega)]; exact q⟩
    · exact ⟨f, by omega, by rw [e, if_pos rfl]; exact q.symm⟩
theorem DLr.cg {r r' : Int → Int} {f : Int} (e : ∀ k, 0 ≤ k → k < f → r' k = r k) : ∀ c, DLr r' f c ↔ DLr r f c := fun c => ⟨fun ⟨j, hj, q⟩ => ⟨j, hj, by rw [← e j hj.1 hj.2]; exact q⟩, fun ⟨j, hj, q⟩ => ⟨j, hj, by rw [e j hj.1 hj.2]; exact q⟩⟩
theorem DLr.s {r : Int → Int} {k : Int} (hk : 0 ≤ k) : ∀ c, DLr r (k + 1) c ↔ DLr r k c ∨ c = r k := fun c => DLr.push hk (fun j => by split; (next h => rw [h]); rfl) c
/-- a greatest one -/
theorem mx_ex {D : Int → Prop} {rk : Int → Nat} : ∀ (n : Nat), (∃ c : Int, (0 ≤ c ∧ c < n) ∧ D c) → ∃ c : Int, (0 ≤ c ∧ c < n) ∧ D c ∧ ∀ d : Int, (0 ≤ d ∧ d < n) → D d → rk d ≤ rk c
  | 0, ⟨c, h, _⟩ => by omega
  | n + 1, ⟨c, h, q⟩ => by
    by_cases e : ∃ c : Int, (0 ≤ c ∧ c < n) ∧ D c
    · obtain ⟨c1, h1, q1, m1⟩ := mx_ex (rk := rk) n e
      by_cases w : D n ∧ rk c1 < rk n
      · refine ⟨n, by omega, w.1, fun d hd qd => ?_⟩
        by_cases y : d = n
        · rw [y]; exact Nat.le_refl _
        · have := m1 d (by omega) qd; omega
      · refine ⟨c1, by omega, q1, fun d hd qd => ?_⟩
        by_cases y : d = n
        · rw [y] at qd ⊢
          exact Nat.le_of_not_lt (fun z => w ⟨qd, z⟩)
        · exact m1 d (by omega) qd
    · have : c = n := Classical.byContradiction (fun y => e ⟨c, by omega, q⟩)
      refine ⟨c, by omega, q, fun d hd qd => ?_⟩
      by_cases y : d = n
      · rw [y, this]; exact Nat.le_refl _
      · exact absurd ⟨d, by omega, qd⟩ e
/-- a row of unlike classes -/
def LIS (c m : Int) (T r : Int → Int) (f : Int) : Prop := (0 ≤ f ∧ f ≤ 800) ∧ (∀ j, 0 ≤ j → j < f → VN c m (r j) ∧ T (r j) = r j) ∧ (∀ i j, 0 ≤ i → i < j → j < f → ¬ r i = r j) ∧ (cnP (DLr r f) : Int) = f
theorem LIS.lt {c m f z : Int} {T r : Int → Int} (h : LIS c m T r f) (hz : 0 ≤ z ∧ z < 800) (n : ¬ DLr r f z) : f < 800 := by
  have a := cnP_lt (D := DLr r f) (D' := fun _ => True) (fun _ _ _ => trivial) ⟨z, hz, trivial, n⟩
  have b := cnP_8 (fun _ => True)
  have e := h.2.2.2
  omega
theorem LIS.push {c m f z : Int} {T r r' : Int → Int} (hc : c = 400 ∨ c = 800) (h : LIS c m T r f) (hz : VN c m z ∧ T z = z) (n : ¬ DLr r f z) (e : ∀ k, r' k = if k = f then z else r k) : LIS c m T r' (f + 1) := by
  have zb := hz.1.b hc
  have l := h.lt zb n
  obtain ⟨h1, h2, h3, h4⟩ := h
  refine ⟨by omega, fun j a b => ?_, fun i j a b d => ?_, ?_⟩
  · rw [e]
    by_cases w : j = f
    · rw [if_pos w]; exact hz
    · rw [if_neg w]; exact h2 j a (by omega)
  · rw [e, e, if_neg (by omega)]
    by_cases w : j = f
    · rw [if_pos w]; exact fun q => n ⟨i, by omega, q⟩
    · rw [if_neg w]; exact h3 i j a b (by omega)
  · have := cnP_ad zb n (DLr.push h1.1 e)
    omega
theorem LIS.cg {c m f : Int} {T r r' : Int → Int} (h : LIS c m T r f) (e : ∀ k, 0 ≤ k → k < f → r' k = r k) : LIS c m T r' f := by
  obtain ⟨h1, h2, h3, h4⟩ := h
  refine ⟨h1, fun j a b => by rw [e j a b]; exact h2 j a b, fun i j a b d => by rw [e i a (by omega), e j (by omega) d]; exact h3 i j a b d, ?_⟩
  have : DLr r' f = DLr r f := funext fun c => propext (DLr.cg e c)
  rw [this]; exact h4
/-- behind k classes and i arguments of the next one -/
def LSI (c m : Int) (S : zJ) (T sh : Int → Int) (x : Int) (r u : Int → Int) (f k i : Int) : Prop := LIS c m T r f ∧ (0 ≤ k ∧ k ≤ f) ∧ (∀ j a, 0 ≤ j → (j < k ∨ (j = k ∧ a < i)) → 0 ≤ a → a < nai S sh (r j) → DLr r f (chi S T sh (r j) a)) ∧ (∀ y, VN c m y → T y = y → (DLr r f y → u y = SUd S T sh (DLr r k) y + eP S T sh (r k) y i) ∧ (¬ DLr r f y → u y = -1)) ∧ (1 ≤ f ∧ r 0 = x) ∧ (∀ y, DLr r f y → ¬ y = x → 1 ≤ u y) ∧ ∀ (rk : Int → Nat) (P : Int → Prop), WTu (VN c m) (hdN S 0) (arN S 0 0) (agN S 0) (fun u v => T u = T v) rk P → P x → ∀ j, 0 ≤ j → j < f → P (r j)
theorem LSI.next {c m x f k i : Int} {S : zJ} {T sh r u : Int → Int} (hc : c = 400 ∨ c = 800) (h : LSI c m S T sh x r u f k i) (hk : k < f) (hi : nai S sh (r k) ≤ i) : LSI c m S T sh x r u f (k + 1) 0 := by
  obtain ⟨h1, h2, h3, h4, h5, h6, h7⟩ := h
  refine ⟨h1, by omega, fun j a p q w y => h3 j a p ((Decidable.em (j = k)).elim (fun e => Or.inr ⟨e, by rw [e] at y; omega⟩) (fun e => Or.inl (by omega))) w y, fun y hy ty => ⟨fun d => ?_, (h4 y hy ty).2⟩, h5, h6, h7⟩
  have kb := (h1.2.1 k h2.1 hk).1.b hc
  have n : ¬ DLr r k (r k) := fun ⟨j, hj, q⟩ => h1.2.2.1 j k hj.1 hj.2 hk q
  rw [(h4 y hy ty).1 d, eP_e hi, SUd.add kb n (DLr.s h2.1), eP_0]
  omega
theorem LSI.old {c m x f k i p : Int} {S : zJ} {T sh r u u' : Int → Int} (h : LSI c m S T sh x r u f k i) (hk : k < f) (hi : 0 ≤ i ∧ i < 3) (hn : i < nai S sh (r k)) (hp : p = chi S T sh (r k) i) (d : DLr r f p) (e : ∀ y, VN c m y → u' y = if y = p then u p + 1 else u y) : LSI c m S T sh x r u' f k (i + 1) := by
  obtain ⟨h1, h2, h3, h4, h5, h6, h7⟩ := h
  have hv : ∀ y, DLr r f y → VN c m y := fun y ⟨j, hj, q⟩ => by rw [← q]; exact (h1.2.1 j hj.1 hj.2).1
  refine ⟨h1, h2, fun j a q1 q2 q3 q4 => ?_, fun y hy ty => ⟨fun dy => ?_, fun ny => ?_⟩, h5, fun y dy ny => ?_, h7⟩
  · by_cases w : j = k ∧ a = i
    · rw [w.1, w.2, ← hp]; exact d
    · exact h3 j a q1 (by omega) q3 q4
  · rw [e y hy, eP_s hi hn, ← hp]
    have := (h4 y hy ty).1 dy
    by_cases w : y = p
    · rw [if_pos w, if_pos w.symm, ← w]; omega
    · rw [if_neg w, if_neg (fun q => w q.symm)]; omega
  · rw [e y hy, if_neg (fun w => ny (by rw [w]; exact d))]
    exact (h4 y hy ty).2 ny
  · have := h6 y dy ny
    rw [e y (hv y dy)]
    split
    · next w => rw [w] at this; omega
    · exact this
theorem LSI.new {c m x f k i p : Int} {S : zJ} {T sh r r' u u' lv : Int → Int} (hc : c = 400 ∨ c = 800) (h : LSI c m S T sh x r u f k i) (hk : k < f) (hi : 0 ≤ i ∧ i < 3) (hn : i < nai S sh (r k)) (hp : p = chi S T sh (r k) i) (vp : VN c m p ∧ T p = p) (hw : ∀ (rk : Int → Nat) (P : Int → Prop), WTu (VN c m) (hdN S 0) (arN S 0 0) (agN S 0) (fun u v => T u = T v) rk P → P (r k) → P p) (d : ¬ DLr r f p) (e : ∀ y, VN c m y → u' y = if y = p then 1 else u y) (er : ∀ k, r' k = if k = f then p else r k) : LSI c m S T sh x r' u' (f + 1) k (i + 1) := by
  have h1' := h.1.push hc vp d er
  obtain ⟨h1, h2, h3, h4, h5, h6, h7⟩ := h
  have f0 := h1.1.1
  have dp := DLr.push f0 er
  have rk0 : ∀ j, j < f → r' j = r j := fun j hj => by rw [er, if_neg (by omega)]
  have dk := DLr.cg (r' := r') (r := r) (f := k) (fun j a b => rk0 j (by omega))
  have hv : ∀ y, DLr r f y → VN c m y := fun y ⟨j, hj, q⟩ => by rw [← q]; exact (h1.2.1 j hj.1 hj.2).1
  refine ⟨h1', by omega, fun j a q1 q2 q3 q4 => ?_, fun y hy ty => ⟨fun dy => ?_, fun ny => ?_⟩, ⟨by omega, by rw [rk0 0 (by omega)]; exact h5.2⟩, fun y dy ny => ?_, fun rk P w px j q1 q2 => ?_⟩
  · rw [rk0 j (by omega)] at q4 ⊢
    rw [dp]
    by_cases w : j = k ∧ a = i
    · rw [w.1, w.2, ← hp]; exact Or.inr rfl
    · exact Or.inl (h3 j a q1 (by omega) q3 q4)
  · rw [e y hy, rk0 k hk, eP_s hi hn, ← hp, SUd.cg dk]
    by_cases w : y = p
    · rw [if_pos w, if_pos w.symm, w]
      have z1 : SUd S T sh (DLr r k) p = 0 := SUd.z (fun q ⟨j, hj, ej⟩ => by
        rw [← ej]
        exact eP_z (fun a a1 a2 a3 a4 => d (by rw [← a4]; exact h3 j a hj.1 (Or.inl hj.2) a1 a3)))
      have z2 : eP S T sh (r k) p i = 0 := eP_z (fun a a1 a2 a3 a4 => d (by rw [← a4]; exact h3 k a h2.1 (Or.inr ⟨rfl, a2⟩) a1 a3))
      omega
    · have := (h4 y hy ty).1 (((dp y).1 dy).resolve_right w)
      rw [if_neg w, if_neg (fun q => w q.symm)]; omega
  · rw [e y hy, if_neg (fun w => ny ((dp y).2 (Or.inr w)))]
    exact (h4 y hy ty).2 (fun w => ny ((dp y).2 (Or.inl w)))
  · by_cases w : y = p
    · rw [w, e p vp.1, if_pos rfl]; exact Int.le_refl 1
    · have dy' := ((dp y).1 dy).resolve_right w
      rw [e y (hv y dy'), if_neg w]
      exact h6 y dy' ny
  · rw [er]
    by_cases w2 : j = f
    · rw [if_pos w2]; exact hw rk P w (h7 rk P w px k h2.1 hk)
    · rw [if_neg w2]; exact h7 rk P w px j q1 (by omega)
/-- what is listed in the end -/
def LSE (c m : Int) (S : zJ) (T sh : Int → Int) (x : Int) (L : Int → Prop) (u : Int → Int) (f : Int) : Prop := ((cnP L : Int) = f ∧ 1 ≤ f ∧ L x) ∧ (∀ y, L y → VN c m y ∧ T y = y) ∧ (∀ y a, L y → 0 ≤ a → a < nai S sh y → L (chi S T sh y a)) ∧ (∀ y, L y → u y = SUd S T sh L y) ∧ (∀ y, L y → ¬ y = x → 1 ≤ u y) ∧ ∀ (rk : Int → Nat) (P : Int → Prop), WTu (VN c m) (hdN S 0) (arN S 0 0) (agN S 0) (fun u v => T u = T v) rk P → P x → ∀ y, L y → P y
theorem LSI.fin {c m x f k : Int} {S : zJ} {T sh r u : Int → Int} (h : LSI c m S T sh x r u f k 0) (hk : f ≤ k) : LSE c m S T sh x (DLr r f) u f := by
  obtain ⟨h1, h2, h3, h4, h5, h6, h7⟩ := h
  have ek : k = f := by omega
  subst ek
  refine ⟨⟨h1.2.2.2, h5.1, ⟨0, by omega, h5.2⟩⟩, fun y ⟨j, hj, e⟩ => by rw [← e]; exact h1.2.1 j hj.1 hj.2, fun y a ⟨j, hj, e⟩ a0 a1 => ?_, fun y d => ?_, h6, fun rk P w px y ⟨j, hj, e⟩ => by rw [← e]; exact h7 rk P w px j hj.1 hj.2⟩
  · rw [← e] at a1 ⊢
    exact h3 j a hj.1 (Or.inl hj.2) a0 a1
  · have q : VN c m y ∧ T y = y := d.elim (fun j ⟨hj, e⟩ => by rw [← e]; exact h1.2.1 j hj.1 hj.2)
    rw [(h4 y q.1 q.2).1 d, eP_0]
    omega
/-- behind k classes taken away, and i arguments of the next one -/
def TKI (c m : Int) (S : zJ) (T sh : Int → Int) (L : Int → Prop) (r u : Int → Int) (g k i : Int) (cur : Int) : Prop := LIS c m T r g ∧ (0 ≤ k ∧ k ≤ g) ∧ (∀ j, 0 ≤ j → j < g → L (r j)) ∧ (∀ y, L y → u y = SUd S T sh (fun d => L d ∧ ¬ DLr r (k + cur) d) y + cur * (eP S T sh (r k) y 3 - eP S T sh (r k) y i)) ∧ (∀ y, L y → (u y = 0 ↔ DLr r g y)) ∧ (∀ j d, 0 ≤ j → j < g → L d → 0 < eP S T sh d (r j) 3 → ∃ j', (0 ≤ j' ∧ j' < j) ∧ r j' = d)
theorem TKI.beg {c m g k i : Int} {S : zJ} {T sh r u : Int → Int} {L : Int → Prop} (hc : c = 400 ∨ c = 800) (h : TKI c m S T sh L r u g k i 0) (hk : k < g) : TKI c m S T sh L r u g k 0 1 := by
  obtain ⟨h1, h2, h3, h4, h5, h6⟩ := h
  refine ⟨h1, h2, h3, fun y ly => ?_, h5, h6⟩
  have kb := (h1.2.1 k h2.1 hk).1.b hc
  have e := SUd.add (S := S) (T := T) (sh := sh) (c := y) (D := fun d => L d ∧ ¬ DLr r (k + 1) d) (D' := fun d => L d ∧ ¬ DLr r (k + 0) d) kb (fun w => w.2 ⟨k, by omega, rfl⟩) (fun d => by
    rw [show k + 0 = k from by omega, DLr.s h2.1]
    constructor
    · rintro ⟨a, b⟩
      by_cases w : d = r k
      · exact Or.inr w
      · exact Or.inl ⟨a, fun q => q.elim b w⟩
    · rintro (⟨a, b⟩ | w)
      · exact ⟨a, fun q => b (Or.inl q)⟩
      · rw [w]
        exact ⟨h3 k h2.1 hk, fun ⟨j, hj, q⟩ => h1.2.2.1 j k hj.1 hj.2 hk q⟩)
  rw [h4 y ly, e, eP_0]
  omega
theorem TKI.shut {c m g k i : Int} {S : zJ} {T sh r u : Int → Int} {L : Int → Prop} (h : TKI c m S T sh L r u g k i 1) (hk : k < g) (hi : nai S sh (r k) ≤ i) : TKI c m S T sh L r u g (k + 1) 0 0 := by
  obtain ⟨h1, h2, h3, h4, h5, h6⟩ := h
  refine ⟨h1, by omega, h3, fun y ly => ?_, h5, h6⟩
  rw [h4 y ly, eP_e hi, show k + 1 + 0 = k + 1 from by omega]
  omega
theorem TKI.step {c m g k i p : Int} {S : zJ} {T sh r u u' : Int → Int} {L : Int → Prop} (h : TKI c m S T sh L r u g k i 1) (hk : k < g) (hi : 0 ≤ i ∧ i < 3) (hn : i < nai S sh (r k)) (hp : p = chi S T sh (r k) i) (lp : L p) (hV : ∀ y, L y → VN c m y) (e : ∀ y, VN c m y → u' y = if y = p then u p - 1 else u y) : (¬ DLr r g p ∧ 1 ≤ u p) ∧ (¬ u p - 1 = 0 → TKI c m S T sh L r u' g k (i + 1) 1) := by
  obtain ⟨h1, h2, h3, h4, h5, h6⟩ := h
  have s := eP_s (T := T) (c := p) hi hn
  rw [← hp, if_pos rfl] at s
  have up : 1 ≤ u p := by
    rw [h4 p lp]
    have a := SUd.nn (S := S) (T := T) (sh := sh) (D := fun d => L d ∧ ¬ DLr r (k + 1) d) (c := p)
    have b : eP S T sh (r k) p (i + 1) ≤ eP S T sh (r k) p 3 := by
      unfold eP
      (repeat' split) <;> omega
    omega
  refine ⟨⟨fun q => by have := (h5 p lp).2 q; omega, up⟩, fun nz => ⟨h1, h2, h3, fun y ly => ?_, fun y ly => ?_, h6⟩⟩
  · rw [e y (hV y ly), eP_s hi hn, ← hp]
    have := h4 y ly
    by_cases w : y = p
    · rw [if_pos w, if_pos w.symm, ← w]; omega
    · rw [if_neg w, if_neg (fun q => w q.symm)]; omega
  · rw [e y (hV y ly)]
    by_cases w : y = p
    · rw [if_pos w, w]
      exact ⟨fun q => absurd q nz, fun q => by have := (h5 p lp).2 q; omega⟩
    · rw [if_neg w]; exact h5 y ly
theorem TKI.zero {c m g k i p : Int} {S : zJ} {T sh r r' u u' : Int → Int} {L : Int → Prop} (hc : c = 400 ∨ c = 800) (h : TKI c m S T sh L r u g k i 1) (hk : k < g) (hi : 0 ≤ i ∧ i < 3) (hn : i < nai S sh (r k)) (hp : p = chi S T sh (r k) i) (lp : L p) (hV : ∀ y, L y → VN c m y ∧ T y = y) (e : ∀ y, VN c m y → u' y = if y = p then u p - 1 else u y) (z : u p - 1 = 0) (er : ∀ k, r' k = if k = g then p else r k) : TKI c m S T sh L r' u' (g + 1) k (i + 1) 1 := by
  have st := (h.step hk hi hn hp lp (fun y ly => (hV y ly).1) e).1
  obtain ⟨h1, h2, h3, h4, h5, h6⟩ := h
  have g0 := h1.1.1
  have dp := DLr.push g0 er
  have rk0 : ∀ j, j < g → r' j = r j := fun j hj => by rw [er, if_neg (by omega)]
  have dk := DLr.cg (r' := r') (r := r) (f := k + 1) (fun j a b => rk0 j (by omega))
  have s := eP_s (T := T) (c := p) hi hn
  rw [← hp, if_pos rfl] at s
  refine ⟨h1.push hc (hV p lp) st.1 er, by omega, fun j a b => ?_, fun y ly => ?_, fun y ly => ?_, fun j d a b ld q => ?_⟩
  · rw [er]
    by_cases w : j = g
    · rw [if_pos w]; exact lp
    · rw [if_neg w]; exact h3 j a (by omega)
  · rw [e y (hV y ly).1, rk0 k hk, eP_s hi hn, ← hp, SUd.cg (D' := fun d => L d ∧ ¬ DLr r' (k + 1) d) (D := fun d => L d ∧ ¬ DLr r (k + 1) d) (fun d => by rw [dk])]
    have := h4 y ly
    by_cases w : y = p
    · rw [if_pos w, if_pos w.symm, ← w]; omega
    · rw [if_neg w, if_neg (fun q => w q.symm)]; omega
  · rw [e y (hV y ly).1, dp]
    by_cases w : y = p
    · rw [if_pos w]
      exact ⟨fun _ => Or.inr w, fun _ => z⟩
    · rw [if_neg w, h5 y ly]
      exact ⟨Or.inl, fun q => q.resolve_right w⟩
  · rw [er] at q
    by_cases w : j = g
    · rw [if_pos w] at q
      have up := h4 p lp
      have a1 := SUd.nn (S := S) (T := T) (sh := sh) (D := fun d => L d ∧ ¬ DLr r (k + 1) d) (c := p)
      have b1 : eP S T sh (r k) p (i + 1) ≤ eP S T sh (r k) p 3 := by
        unfold eP
        (repeat' split) <;> omega
      by_cases y : DLr r (k + 1) d
      · obtain ⟨j', hj', ej⟩ := y
        exact ⟨j', by omega, by rw [rk0 j' (by omega)]; exact ej⟩
      · have := SUd.ge (S := S) (T := T) (sh := sh) (c := p) (D := fun d => L d ∧ ¬ DLr r (k + 1) d) ((hV d ld).1.b hc) ⟨ld, y⟩
        omega
    · rw [if_neg w] at q
      obtain ⟨j', hj', ej⟩ := h6 j d a (by omega) ld q
      exact ⟨j', hj', by rw [rk0 j' (by omega)]; exact ej⟩
