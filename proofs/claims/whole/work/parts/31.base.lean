/-! pure: numbers, least of neighbours, the sums from the end and from the beginning -/
theorem jmin_nI {a b : Nat} (ha : a < 2 ^ 31) (hb : b < 2 ^ 31) : jmin (nI a) (nI b) = nI (min a b) := by
  unfold jmin
  by_cases h : b < a
  · rw [if_pos ((nI_ltI hb ha).mpr h), Nat.min_eq_right (by omega)]
  · rw [if_neg (fun q => h ((nI_ltI hb ha).mp q)), Nat.min_eq_left (by omega)]
theorem jmax_nI {a b : Nat} (ha : a < 2 ^ 31) (hb : b < 2 ^ 31) : jmax (nI a) (nI b) = nI (max a b) := by
  unfold jmax
  by_cases h : a < b
  · rw [if_pos ((nI_ltI ha hb).mpr h), Nat.max_eq_right (by omega)]
  · rw [if_neg (fun q => h ((nI_ltI ha hb).mp q)), Nat.max_eq_left (by omega)]
theorem jrem_nI {a d : Nat} (ha : a < 2 ^ 31) (h0 : 0 < d) (hd : d < 2 ^ 31) : jrem (nI a) (nI d) = nI (a % d) := pk_rem ha h0 hd
theorem cl2 {a b : Nat} (h : a + b < 2 ^ 31) : (nI a + nI b).toNatClampNeg = a + b := by rw [nI_add, nI_clamp h]
theorem in2 {a b N : Nat} (h : a + b < N) (hN : N < 2 ^ 31) : vp_in (nI a + nI b) N := by rw [nI_add]; exact vp_in_nI h hN
/-- the least at v and beside it -/
def nr (f : Nat → Nat) (v : Nat) : Nat := if 8 ≤ v then (if v = 0 then f v else min (f v) (f (v - 1))) else min (if v = 0 then f v else min (f v) (f (v - 1))) (f (v + 1))
theorem nr_le {f : Nat → Nat} {M v : Nat} (h : ∀ k, k < 9 → f k ≤ M) (hv : v < 9) : nr f v ≤ M := by
  have h1 := h v hv
  unfold nr
  split <;> split <;> omega
theorem nr_congr {f g : Nat → Nat} {v : Nat} (h : ∀ k, k < 9 → f k = g k) (hv : v < 9) : nr f v = nr g v := by
  unfold nr
  rw [h v hv]
  by_cases h8 : 8 ≤ v
  · rw [if_pos h8, if_pos h8]
    by_cases h0 : v = 0
    · rw [if_pos h0, if_pos h0]
    · rw [if_neg h0, if_neg h0, h (v - 1) (by omega)]
  · rw [if_neg h8, if_neg h8, h (v + 1) (by omega)]
    by_cases h0 : v = 0
    · rw [if_pos h0, if_pos h0]
    · rw [if_neg h0, if_neg h0, h (v - 1) (by omega)]
/-- the least cost of n later places, seen from place p at speed v -/
def bk (h : Nat → Nat → Nat) : Nat → Nat → Nat → Nat
  | 0, _, _ => 0
  | n + 1, p, v => nr (fun w => h (p + 1) w + bk h n (p + 1) w) v
theorem bk_le {h : Nat → Nat → Nat} {P M : Nat} (hh : ∀ p v, p < P → v < 9 → h p v ≤ M) : ∀ (n p v : Nat), p + n < P → v < 9 → bk h n p v ≤ n * M := by
  intro n
  induction n with
  | zero => intro p v _ _; simp [bk]
  | succ n ih =>
    intro p v hp hv
    show nr _ v ≤ _
    refine nr_le (fun k hk => ?_) hv
    have h1 := hh (p + 1) k (by omega) hk
    have h2 := ih (p + 1) k (by omega) hk
    rw [Nat.succ_mul]
    omega
/-- the least cost of the p earlier places, seen from place p at speed v -/
def fw (h : Nat → Nat → Nat) : Nat → Nat → Nat
  | 0, _ => 0
  | p + 1, v => nr (fun w => fw h p w + h p w) v
theorem fw_le {h : Nat → Nat → Nat} {P M : Nat} (hh : ∀ p v, p < P → v < 9 → h p v ≤ M) : ∀ (p v : Nat), p ≤ P → v < 9 → fw h p v ≤ p * M := by
  intro p
  induction p with
  | zero => intro v _ _; simp [fw]
  | succ n ih =>
    intro v hp hv
    show nr _ v ≤ _
    refine nr_le (fun k hk => ?_) hv
    have h1 := hh n k (by omega) hk
    have h2 := ih k (by omega) hk
    rw [Nat.succ_mul]
    omega
/-- the least of the first k + 1 -/
def mn (f : Nat → Nat) : Nat → Nat
  | 0 => f 0
  | k + 1 => min (mn f k) (f (k + 1))
theorem mn_le {f : Nat → Nat} {M : Nat} : ∀ (k : Nat), (∀ j, j ≤ k → f j ≤ M) → mn f k ≤ M := by
  intro k
  induction k with
  | zero => intro h; exact h 0 (Nat.le_refl _)
  | succ k ih =>
    intro h
    have h1 := ih (fun j hj => h j (by omega))
    show min _ _ ≤ M
    omega
theorem mn_lb {f : Nat → Nat} : ∀ (k j : Nat), j ≤ k → mn f k ≤ f j := by
  intro k
  induction k with
  | zero =>
    intro j hj
    obtain rfl : j = 0 := by omega
    exact Nat.le_refl _
  | succ k ih =>
    intro j hj
    show min _ _ ≤ f j
    by_cases e : j = k + 1
    · subst e; omega
    · have := ih j (by omega); omega
theorem mn_at {f : Nat → Nat} : ∀ (k : Nat), ∃ j, j ≤ k ∧ mn f k = f j := by
  intro k
  induction k with
  | zero => exact ⟨0, Nat.le_refl _, rfl⟩
  | succ k ih =>
    obtain ⟨j, hj, e⟩ := ih
    by_cases h : mn f k ≤ f (k + 1)
    · exact ⟨j, by omega, by show min _ _ = _; omega⟩
    · exact ⟨k + 1, Nat.le_refl _, by show min _ _ = _; omega⟩
theorem mn_congr {f g : Nat → Nat} : ∀ (k : Nat), (∀ j, j ≤ k → f j = g j) → mn f k = mn g k := by
  intro k
  induction k with
  | zero => intro h; exact h 0 (Nat.le_refl _)
  | succ k ih =>
    intro h
    show min _ _ = min _ _
    rw [ih (fun j hj => h j (by omega)), h (k + 1) (Nat.le_refl _)]
theorem mn_eq {f : Nat → Nat} {k m : Nat} (h1 : ∀ j, j ≤ k → m ≤ f j) (h2 : ∃ j, j ≤ k ∧ f j = m) : mn f k = m := by
  obtain ⟨j, hj, e⟩ := h2
  have a := mn_lb (f := f) k j hj
  obtain ⟨i, hi, e2⟩ := mn_at (f := f) k
  have b := h1 i hi
  omega
theorem nr_lb {f : Nat → Nat} {v w : Nat} (hv : v < 9) (hw : w < 9) (h1 : w ≤ v + 1) (h2 : v ≤ w + 1) : nr f v ≤ f w := by
  unfold nr
  rcases (show w = v ∨ w = v + 1 ∨ v = w + 1 by omega) with rfl | rfl | rfl
  · split <;> split <;> omega
  · rw [if_neg (by omega)]; omega
  · have e : w + 1 - 1 = w := by omega
    rw [e, if_neg (by omega : ¬ w + 1 = 0)]
    split <;> omega
theorem nr_at {f : Nat → Nat} {v : Nat} (hv : v < 9) : ∃ w, w < 9 ∧ w ≤ v + 1 ∧ v ≤ w + 1 ∧ nr f v = f w := by
  unfold nr
  by_cases h8 : 8 ≤ v
  · rw [if_pos h8, if_neg (by omega)]
    by_cases h : f v ≤ f (v - 1)
    · exact ⟨v, hv, by omega, by omega, by omega⟩
    · exact ⟨v - 1, by omega, by omega, by omega, by omega⟩
  · rw [if_neg h8]
    by_cases h0 : v = 0
    · rw [if_pos h0]
      by_cases h : f v ≤ f (v + 1)
      · exact ⟨v, hv, by omega, by omega, by omega⟩
      · exact ⟨v + 1, by omega, by omega, by omega, by omega⟩
    · rw [if_neg h0]
      by_cases h : min (f v) (f (v - 1)) ≤ f (v + 1)
      · by_cases h3 : f v ≤ f (v - 1)
        · exact ⟨v, hv, by omega, by omega, by omega⟩
        · exact ⟨v - 1, by omega, by omega, by omega, by omega⟩
      · exact ⟨v + 1, by omega, by omega, by omega, by omega⟩
/-- what stands before and what stands behind may change places: the exchange -/
theorem mn_nr (f g : Nat → Nat) : mn (fun v => nr f v + g v) 8 = mn (fun v => f v + nr g v) 8 := by
  refine Nat.le_antisymm ?_ ?_
  · obtain ⟨v, hv, e⟩ := mn_at (f := fun v => f v + nr g v) 8
    obtain ⟨w, hw, w1, w2, ew⟩ := nr_at (f := g) (v := v) (by omega)
    have a := mn_lb (f := fun v => nr f v + g v) 8 w (by omega)
    have b := nr_lb (f := f) (v := w) (w := v) hw (by omega) (by omega) (by omega)
    omega
  · obtain ⟨v, hv, e⟩ := mn_at (f := fun v => nr f v + g v) 8
    obtain ⟨w, hw, w1, w2, ew⟩ := nr_at (f := f) (v := v) (by omega)
    have a := mn_lb (f := fun v => f v + nr g v) 8 w (by omega)
    have b := nr_lb (f := g) (v := w) (w := v) hw (by omega) (by omega) (by omega)
    omega
