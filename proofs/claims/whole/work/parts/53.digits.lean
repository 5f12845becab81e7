/-! digits of two amounts: one differs; two neighbours change places -/
def dg (n k : Nat) : Nat := n / 10 ^ k % 10
theorem dg_le (n k : Nat) : dg n k ≤ 9 := by unfold dg; omega
theorem dg_st (n k : Nat) : n / 10 ^ k = dg n k + 10 * (n / 10 ^ (k + 1)) := by
  unfold dg
  rw [← dv_succ]
  omega
theorem dg7 {n : Nat} (h : n ≤ 9999999) : n = dg n 0 + 10 * dg n 1 + 100 * dg n 2 + 1000 * dg n 3 + 10000 * dg n 4 + 100000 * dg n 5 + 1000000 * dg n 6 := by
  have e0 := dg_st n 0
  have e1 := dg_st n 1
  have e2 := dg_st n 2
  have e3 := dg_st n 3
  have e4 := dg_st n 4
  have e5 := dg_st n 5
  have e6 := dg_st n 6
  have z0 : n / 10 ^ 0 = n := by rw [Nat.pow_zero, Nat.div_one]
  have z7 : n / 10 ^ (6 + 1) = 0 := Nat.div_eq_of_lt (by omega)
  rw [z0] at e0
  rw [z7] at e6
  generalize n / 10 ^ (0 + 1) = q1 at *
  generalize n / 10 ^ (1 + 1) = q2 at *
  generalize n / 10 ^ (2 + 1) = q3 at *
  generalize n / 10 ^ (3 + 1) = q4 at *
  generalize n / 10 ^ (4 + 1) = q5 at *
  generalize n / 10 ^ (5 + 1) = q6 at *
  have e1 : q1 = dg n 1 + 10 * q2 := e1
  have e2 : q2 = dg n 2 + 10 * q3 := e2
  have e3 : q3 = dg n 3 + 10 * q4 := e3
  have e4 : q4 = dg n 4 + 10 * q5 := e4
  have e5 : q5 = dg n 5 + 10 * q6 := e5
  omega

theorem dig_uniq {x0 x1 x2 x3 x4 x5 x6 y0 y1 y2 y3 y4 y5 y6 : Nat} (hx0 : x0 ≤ 9) (hy0 : y0 ≤ 9) (hx1 : x1 ≤ 9) (hy1 : y1 ≤ 9) (hx2 : x2 ≤ 9) (hy2 : y2 ≤ 9) (hx3 : x3 ≤ 9) (hy3 : y3 ≤ 9) (hx4 : x4 ≤ 9) (hy4 : y4 ≤ 9) (hx5 : x5 ≤ 9) (hy5 : y5 ≤ 9) (hx6 : x6 ≤ 9) (hy6 : y6 ≤ 9) (h : x0 + 10 * x1 + 100 * x2 + 1000 * x3 + 10000 * x4 + 100000 * x5 + 1000000 * x6 = y0 + 10 * y1 + 100 * y2 + 1000 * y3 + 10000 * y4 + 100000 * y5 + 1000000 * y6) : x0 = y0 ∧ x1 = y1 ∧ x2 = y2 ∧ x3 = y3 ∧ x4 = y4 ∧ x5 = y5 ∧ x6 = y6 := by
  have e0 : x0 = y0 := by omega
  subst e0
  have e1 : x1 = y1 := by omega
  subst e1
  have e2 : x2 = y2 := by omega
  subst e2
  have e3 : x3 = y3 := by omega
  subst e3
  have e4 : x4 = y4 := by omega
  subst e4
  have e5 : x5 = y5 := by omega
  subst e5
  have e6 : x6 = y6 := by omega
  subst e6
  exact ⟨rfl, rfl, rfl, rfl, rfl, rfl, rfl⟩
def ne1 (a d k : Nat) : Nat := if dg a k = dg d k then 0 else 1
theorem ne1_e {a d k : Nat} (h : dg a k = dg d k) : ne1 a d k = 0 := if_pos h
theorem ne1_n {a d k : Nat} (h : dg a k ≠ dg d k) : ne1 a d k = 1 := if_neg h
theorem ne1_0 {a d k : Nat} (h : ne1 a d k = 0) : dg a k = dg d k := by
  by_cases c : dg a k = dg d k
  · exact c
  · rw [ne1_n c] at h; omega
theorem ne1_le (a d k : Nat) : ne1 a d k ≤ 1 := by
  by_cases c : dg a k = dg d k
  · rw [ne1_e c]; omega
  · rw [ne1_n c]; omega
def un (a d n : Nat) : Nat := sm (ne1 a d) n
theorem un_le (a d n : Nat) : un a d n ≤ n := by
  have := sm_le (f := ne1 a d) (M := 1) n (fun k _ => ne1_le a d k)
  unfold un; omega
theorem un_0 {a d : Nat} : ∀ n, un a d n = 0 → ∀ j, j < n → dg a j = dg d j := by
  intro n
  induction n with
  | zero => intro _ j hj; exact absurd hj (Nat.not_lt_zero _)
  | succ n ih =>
    intro h j hj
    have s : un a d (n + 1) = un a d n + ne1 a d n := rfl
    by_cases e : j = n
    · rw [e]; exact ne1_0 (by omega)
    · exact ih (by omega) j (by omega)
def od (a d : Nat) : Prop := un a d 7 = 1
def cnd (a d i : Nat) : Prop := dg a i ≠ dg a (i + 1) ∧ d + dg a (i + 1) * 9 * 10 ^ i = a + dg a i * 9 * 10 ^ i
def nb (a d : Nat) : Prop := ∃ i, i < 6 ∧ cnd a d i
theorem un7 (a d : Nat) : un a d 7 = 0 + ne1 a d 0 + ne1 a d 1 + ne1 a d 2 + ne1 a d 3 + ne1 a d 4 + ne1 a d 5 + ne1 a d 6 := rfl
/-- the first digit that differs -/
def fst1 (a d f : Nat) : Prop := f < 7 ∧ dg a f ≠ dg d f ∧ ∀ j, j < f → dg a j = dg d j

theorem nb_a0 {a d : Nat} (ha : a ≤ 9999999) (hd : d ≤ 9999999) (h : cnd a d 0) : un a d 7 = 2 ∧ ∀ f, fst1 a d f → dg a f = dg d (f + 1) ∧ dg a (f + 1) = dg d f := by
  obtain ⟨h0, h⟩ := h
  have h0 : dg a 0 ≠ dg a 1 := h0
  have h : d + dg a 1 * 9 * 1 = a + dg a 0 * 9 * 1 := h
  have e1 := dg7 ha
  have e2 := dg7 hd
  obtain ⟨z0, z1, z2, z3, z4, z5, z6⟩ := dig_uniq (dg_le d 0) (dg_le a 1) (dg_le d 1) (dg_le a 0) (dg_le d 2) (dg_le a 2) (dg_le d 3) (dg_le a 3) (dg_le d 4) (dg_le a 4) (dg_le d 5) (dg_le a 5) (dg_le d 6) (dg_le a 6) (by omega)
  have w2 := ne1_e z2.symm
  have w3 := ne1_e z3.symm
  have w4 := ne1_e z4.symm
  have w5 := ne1_e z5.symm
  have w6 := ne1_e z6.symm
  have w0 := ne1_n (show dg a 0 ≠ dg d 0 by rw [z0]; exact h0)
  have w1 := ne1_n (show dg a 1 ≠ dg d 1 by rw [z1]; exact h0.symm)
  refine ⟨by rw [un7, w0, w1, w2, w3, w4, w5, w6], fun f hf => ?_⟩
  have ef : f = 0 := by
    rcases Nat.lt_trichotomy f 0 with c | c | c
    · exact absurd c (Nat.not_lt_zero _)
    · exact c
    · exact absurd (hf.2.2 0 c) (by rw [z0]; exact h0)
  subst ef
  exact ⟨z1.symm, z0.symm⟩
theorem nb_b0 {a d : Nat} (ha : a ≤ 9999999) (hd : d ≤ 9999999) (hu : un a d 7 = 2) (hn : dg a 0 ≠ dg d 0) (s1 : dg a 0 = dg d 1) (s2 : dg a 1 = dg d 0) : cnd a d 0 := by
  have u := un7 a d
  have w0 := ne1_n hn
  have w1 := ne1_n (show dg a 1 ≠ dg d 1 by rw [s2, ← s1]; exact hn.symm)
  have z2 := ne1_0 (a := a) (d := d) (k := 2) (by omega)
  have z3 := ne1_0 (a := a) (d := d) (k := 3) (by omega)
  have z4 := ne1_0 (a := a) (d := d) (k := 4) (by omega)
  have z5 := ne1_0 (a := a) (d := d) (k := 5) (by omega)
  have z6 := ne1_0 (a := a) (d := d) (k := 6) (by omega)
  refine ⟨?_, ?_⟩
  · show dg a 0 ≠ dg a 1
    rw [s2]; exact hn
  · show d + dg a 1 * 9 * 1 = a + dg a 0 * 9 * 1
    have e1 := dg7 ha
    have e2 := dg7 hd
    omega
theorem nb_a1 {a d : Nat} (ha : a ≤ 9999999) (hd : d ≤ 9999999) (h : cnd a d 1) : un a d 7 = 2 ∧ ∀ f, fst1 a d f → dg a f = dg d (f + 1) ∧ dg a (f + 1) = dg d f := by
  obtain ⟨h0, h⟩ := h
  have h0 : dg a 1 ≠ dg a 2 := h0
  have h : d + dg a 2 * 9 * 10 = a + dg a 1 * 9 * 10 := h
  have e1 := dg7 ha
  have e2 := dg7 hd
  obtain ⟨z0, z1, z2, z3, z4, z5, z6⟩ := dig_uniq (dg_le d 0) (dg_le a 0) (dg_le d 1) (dg_le a 2) (dg_le d 2) (dg_le a 1) (dg_le d 3) (dg_le a 3) (dg_le d 4) (dg_le a 4) (dg_le d 5) (dg_le a 5) (dg_le d 6) (dg_le a 6) (by omega)
  have w0 := ne1_e z0.symm
  have w3 := ne1_e z3.symm
  have w4 := ne1_e z4.symm
  have w5 := ne1_e z5.symm
  have w6 := ne1_e z6.symm
  have w1 := ne1_n (show dg a 1 ≠ dg d 1 by rw [z1]; exact h0)
  have w2 := ne1_n (show dg a 2 ≠ dg d 2 by rw [z2]; exact h0.symm)
  refine ⟨by rw [un7, w0, w1, w2, w3, w4, w5, w6], fun f hf => ?_⟩
  have ef : f = 1 := by
    rcases Nat.lt_trichotomy f 1 with c | c | c
    · exfalso
      have hf1 := hf.2.1
      rcases (show f = 0 by omega) with rfl
      · exact hf1 z0.symm
    · exact c
    · exact absurd (hf.2.2 1 c) (by rw [z1]; exact h0)
  subst ef
  exact ⟨z2.symm, z1.symm⟩
theorem nb_b1 {a d : Nat} (ha : a ≤ 9999999) (hd : d ≤ 9999999) (hu : un a d 7 = 2) (hn : dg a 1 ≠ dg d 1) (s1 : dg a 1 = dg d 2) (s2 : dg a 2 = dg d 1) : cnd a d 1 := by
  have u := un7 a d
  have w1 := ne1_n hn
  have w2 := ne1_n (show dg a 2 ≠ dg d 2 by rw [s2, ← s1]; exact hn.symm)
  have z0 := ne1_0 (a := a) (d := d) (k := 0) (by omega)
  have z3 := ne1_0 (a := a) (d := d) (k := 3) (by omega)
  have z4 := ne1_0 (a := a) (d := d) (k := 4) (by omega)
  have z5 := ne1_0 (a := a) (d := d) (k := 5) (by omega)
  have z6 := ne1_0 (a := a) (d := d) (k := 6) (by omega)
  refine ⟨?_, ?_⟩
  · show dg a 1 ≠ dg a 2
    rw [s2]; exact hn
  · show d + dg a 2 * 9 * 10 = a + dg a 1 * 9 * 10
    have e1 := dg7 ha
    have e2 := dg7 hd
    omega
theorem nb_a2 {a d : Nat} (ha : a ≤ 9999999) (hd : d ≤ 9999999) (h : cnd a d 2) : un a d 7 = 2 ∧ ∀ f, fst1 a d f → dg a f = dg d (f + 1) ∧ dg a (f + 1) = dg d f := by
  obtain ⟨h0, h⟩ := h
  have h0 : dg a 2 ≠ dg a 3 := h0
  have h : d + dg a 3 * 9 * 100 = a + dg a 2 * 9 * 100 := h
  have e1 := dg7 ha
  have e2 := dg7 hd
  obtain ⟨z0, z1, z2, z3, z4, z5, z6⟩ := dig_uniq (dg_le d 0) (dg_le a 0) (dg_le d 1) (dg_le a 1) (dg_le d 2) (dg_le a 3) (dg_le d 3) (dg_le a 2) (dg_le d 4) (dg_le a 4) (dg_le d 5) (dg_le a 5) (dg_le d 6) (dg_le a 6) (by omega)
  have w0 := ne1_e z0.symm
  have w1 := ne1_e z1.symm
  have w4 := ne1_e z4.symm
  have w5 := ne1_e z5.symm
  have w6 := ne1_e z6.symm
  have w2 := ne1_n (show dg a 2 ≠ dg d 2 by rw [z2]; exact h0)
  have w3 := ne1_n (show dg a 3 ≠ dg d 3 by rw [z3]; exact h0.symm)
  refine ⟨by rw [un7, w0, w1, w2, w3, w4, w5, w6], fun f hf => ?_⟩
  have ef : f = 2 := by
    rcases Nat.lt_trichotomy f 2 with c | c | c
    · exfalso
      have hf1 := hf.2.1
      rcases (show f = 0 ∨ f = 1 by omega) with rfl | rfl
      · exact hf1 z0.symm
      · exact hf1 z1.symm
    · exact c
    · exact absurd (hf.2.2 2 c) (by rw [z2]; exact h0)
  subst ef
  exact ⟨z3.symm, z2.symm⟩
theorem nb_b2 {a d : Nat} (ha : a ≤ 9999999) (hd : d ≤ 9999999) (hu : un a d 7 = 2) (hn : dg a 2 ≠ dg d 2) (s1 : dg a 2 = dg d 3) (s2 : dg a 3 = dg d 2) : cnd a d 2 := by
  have u := un7 a d
  have w2 := ne1_n hn
  have w3 := ne1_n (show dg a 3 ≠ dg d 3 by rw [s2, ← s1]; exact hn.symm)
  have z0 := ne1_0 (a := a) (d := d) (k := 0) (by omega)
  have z1 := ne1_0 (a := a) (d := d) (k := 1) (by omega)
  have z4 := ne1_0 (a := a) (d := d) (k := 4) (by omega)
  have z5 := ne1_0 (a := a) (d := d) (k := 5) (by omega)
  have z6 := ne1_0 (a := a) (d := d) (k := 6) (by omega)
  refine ⟨?_, ?_⟩
  · show dg a 2 ≠ dg a 3
    rw [s2]; exact hn
  · show d + dg a 3 * 9 * 100 = a + dg a 2 * 9 * 100
    have e1 := dg7 ha
    have e2 := dg7 hd
    omega
theorem nb_a3 {a d : Nat} (ha : a ≤ 9999999) (hd : d ≤ 9999999) (h : cnd a d 3) : un a d 7 = 2 ∧ ∀ f, fst1 a d f → dg a f = dg d (f + 1) ∧ dg a (f + 1) = dg d f := by
  obtain ⟨h0, h⟩ := h
  have h0 : dg a 3 ≠ dg a 4 := h0
  have h : d + dg a 4 * 9 * 1000 = a + dg a 3 * 9 * 1000 := h
  have e1 := dg7 ha
  have e2 := dg7 hd
  obtain ⟨z0, z1, z2, z3, z4, z5, z6⟩ := dig_uniq (dg_le d 0) (dg_le a 0) (dg_le d 1) (dg_le a 1) (dg_le d 2) (dg_le a 2) (dg_le d 3) (dg_le a 4) (dg_le d 4) (dg_le a 3) (dg_le d 5) (dg_le a 5) (dg_le d 6) (dg_le a 6) (by omega)
  have w0 := ne1_e z0.symm
  have w1 := ne1_e z1.symm
  have w2 := ne1_e z2.symm
  have w5 := ne1_e z5.symm
  have w6 := ne1_e z6.symm
  have w3 := ne1_n (show dg a 3 ≠ dg d 3 by rw [z3]; exact h0)
  have w4 := ne1_n (show dg a 4 ≠ dg d 4 by rw [z4]; exact h0.symm)
  refine ⟨by rw [un7, w0, w1, w2, w3, w4, w5, w6], fun f hf => ?_⟩
  have ef : f = 3 := by
    rcases Nat.lt_trichotomy f 3 with c | c | c
    · exfalso
      have hf1 := hf.2.1
      rcases (show f = 0 ∨ f = 1 ∨ f = 2 by omega) with rfl | rfl | rfl
      · exact hf1 z0.symm
      · exact hf1 z1.symm
      · exact hf1 z2.symm
    · exact c
    · exact absurd (hf.2.2 3 c) (by rw [z3]; exact h0)
  subst ef
  exact ⟨z4.symm, z3.symm⟩
theorem nb_b3 {a d : Nat} (ha : a ≤ 9999999) (hd : d ≤ 9999999) (hu : un a d 7 = 2) (hn : dg a 3 ≠ dg d 3) (s1 : dg a 3 = dg d 4) (s2 : dg a 4 = dg d 3) : cnd a d 3 := by
  have u := un7 a d
  have w3 := ne1_n hn
  have w4 := ne1_n (show dg a 4 ≠ dg d 4 by rw [s2, ← s1]; exact hn.symm)
  have z0 := ne1_0 (a := a) (d := d) (k := 0) (by omega)
  have z1 := ne1_0 (a := a) (d := d) (k := 1) (by omega)
  have z2 := ne1_0 (a := a) (d := d) (k := 2) (by omega)
  have z5 := ne1_0 (a := a) (d := d) (k := 5) (by omega)
  have z6 := ne1_0 (a := a) (d := d) (k := 6) (by omega)
  refine ⟨?_, ?_⟩
  · show dg a 3 ≠ dg a 4
    rw [s2]; exact hn
  · show d + dg a 4 * 9 * 1000 = a + dg a 3 * 9 * 1000
    have e1 := dg7 ha
    have e2 := dg7 hd
    omega
theorem nb_a4 {a d : Nat} (ha : a ≤ 9999999) (hd : d ≤ 9999999) (h : cnd a d 4) : un a d 7 = 2 ∧ ∀ f, fst1 a d f → dg a f = dg d (f + 1) ∧ dg a (f + 1) = dg d f := by
  obtain ⟨h0, h⟩ := h
  have h0 : dg a 4 ≠ dg a 5 := h0
  have h : d + dg a 5 * 9 * 10000 = a + dg a 4 * 9 * 10000 := h
  have e1 := dg7 ha
  have e2 := dg7 hd
  obtain ⟨z0, z1, z2, z3, z4, z5, z6⟩ := dig_uniq (dg_le d 0) (dg_le a 0) (dg_le d 1) (dg_le a 1) (dg_le d 2) (dg_le a 2) (dg_le d 3) (dg_le a 3) (dg_le d 4) (dg_le a 5) (dg_le d 5) (dg_le a 4) (dg_le d 6) (dg_le a 6) (by omega)
  have w0 := ne1_e z0.symm
  have w1 := ne1_e z1.symm
  have w2 := ne1_e z2.symm
  have w3 := ne1_e z3.symm
  have w6 := ne1_e z6.symm
  have w4 := ne1_n (show dg a 4 ≠ dg d 4 by rw [z4]; exact h0)
  have w5 := ne1_n (show dg a 5 ≠ dg d 5 by rw [z5]; exact h0.symm)
  refine ⟨by rw [un7, w0, w1, w2, w3, w4, w5, w6], fun f hf => ?_⟩
  have ef : f = 4 := by
    rcases Nat.lt_trichotomy f 4 with c | c | c
    · exfalso
      have hf1 := hf.2.1
      rcases (show f = 0 ∨ f = 1 ∨ f = 2 ∨ f = 3 by omega) with rfl | rfl | rfl | rfl
      · exact hf1 z0.symm
      · exact hf1 z1.symm
      · exact hf1 z2.symm
      · exact hf1 z3.symm
    · exact c
    · exact absurd (hf.2.2 4 c) (by rw [z4]; exact h0)
  subst ef
  exact ⟨z5.symm, z4.symm⟩
theorem nb_b4 {a d : Nat} (ha : a ≤ 9999999) (hd : d ≤ 9999999) (hu : un a d 7 = 2) (hn : dg a 4 ≠ dg d 4) (s1 : dg a 4 = dg d 5) (s2 : dg a 5 = dg d 4) : cnd a d 4 := by
  have u := un7 a d
  have w4 := ne1_n hn
  have w5 := ne1_n (show dg a 5 ≠ dg d 5 by rw [s2, ← s1]; exact hn.symm)
  have z0 := ne1_0 (a := a) (d := d) (k := 0) (by omega)
  have z1 := ne1_0 (a := a) (d := d) (k := 1) (by omega)
  have z2 := ne1_0 (a := a) (d := d) (k := 2) (by omega)
  have z3 := ne1_0 (a := a) (d := d) (k := 3) (by omega)
  have z6 := ne1_0 (a := a) (d := d) (k := 6) (by omega)
  refine ⟨?_, ?_⟩
  · show dg a 4 ≠ dg a 5
    rw [s2]; exact hn
  · show d + dg a 5 * 9 * 10000 = a + dg a 4 * 9 * 10000
    have e1 := dg7 ha
    have e2 := dg7 hd
    omega
theorem nb_a5 {a d : Nat} (ha : a ≤ 9999999) (hd : d ≤ 9999999) (h : cnd a d 5) : un a d 7 = 2 ∧ ∀ f, fst1 a d f → dg a f = dg d (f + 1) ∧ dg a (f + 1) = dg d f := by
  obtain ⟨h0, h⟩ := h
  have h0 : dg a 5 ≠ dg a 6 := h0
  have h : d + dg a 6 * 9 * 100000 = a + dg a 5 * 9 * 100000 := h
  have e1 := dg7 ha
  have e2 := dg7 hd
  obtain ⟨z0, z1, z2, z3, z4, z5, z6⟩ := dig_uniq (dg_le d 0) (dg_le a 0) (dg_le d 1) (dg_le a 1) (dg_le d 2) (dg_le a 2) (dg_le d 3) (dg_le a 3) (dg_le d 4) (dg_le a 4) (dg_le d 5) (dg_le a 6) (dg_le d 6) (dg_le a 5) (by omega)
  have w0 := ne1_e z0.symm
  have w1 := ne1_e z1.symm
  have w2 := ne1_e z2.symm
  have w3 := ne1_e z3.symm
  have w4 := ne1_e z4.symm
  have w5 := ne1_n (show dg a 5 ≠ dg d 5 by rw [z5]; exact h0)
  have w6 := ne1_n (show dg a 6 ≠ dg d 6 by rw [z6]; exact h0.symm)
  refine ⟨by rw [un7, w0, w1, w2, w3, w4, w5, w6], fun f hf => ?_⟩
  have ef : f = 5 := by
    rcases Nat.lt_trichotomy f 5 with c | c | c
    · exfalso
      have hf1 := hf.2.1
      rcases (show f = 0 ∨ f = 1 ∨ f = 2 ∨ f = 3 ∨ f = 4 by omega) with rfl | rfl | rfl | rfl | rfl
      · exact hf1 z0.symm
      · exact hf1 z1.symm
      · exact hf1 z2.symm
      · exact hf1 z3.symm
      · exact hf1 z4.symm
    · exact c
    · exact absurd (hf.2.2 5 c) (by rw [z5]; exact h0)
  subst ef
  exact ⟨z6.symm, z5.symm⟩
theorem nb_b5 {a d : Nat} (ha : a ≤ 9999999) (hd : d ≤ 9999999) (hu : un a d 7 = 2) (hn : dg a 5 ≠ dg d 5) (s1 : dg a 5 = dg d 6) (s2 : dg a 6 = dg d 5) : cnd a d 5 := by
  have u := un7 a d
  have w5 := ne1_n hn
  have w6 := ne1_n (show dg a 6 ≠ dg d 6 by rw [s2, ← s1]; exact hn.symm)
  have z0 := ne1_0 (a := a) (d := d) (k := 0) (by omega)
  have z1 := ne1_0 (a := a) (d := d) (k := 1) (by omega)
  have z2 := ne1_0 (a := a) (d := d) (k := 2) (by omega)
  have z3 := ne1_0 (a := a) (d := d) (k := 3) (by omega)
  have z4 := ne1_0 (a := a) (d := d) (k := 4) (by omega)
  refine ⟨?_, ?_⟩
  · show dg a 5 ≠ dg a 6
    rw [s2]; exact hn
  · show d + dg a 6 * 9 * 100000 = a + dg a 5 * 9 * 100000
    have e1 := dg7 ha
    have e2 := dg7 hd
    omega
theorem nb_a {a d : Nat} (ha : a ≤ 9999999) (hd : d ≤ 9999999) (h : nb a d) : un a d 7 = 2 ∧ ∀ f, fst1 a d f → dg a f = dg d (f + 1) ∧ dg a (f + 1) = dg d f := by
  obtain ⟨i, hi, h⟩ := h
  rcases (show i = 0 ∨ i = 1 ∨ i = 2 ∨ i = 3 ∨ i = 4 ∨ i = 5 by omega) with rfl | rfl | rfl | rfl | rfl | rfl
  · exact nb_a0 ha hd h
  · exact nb_a1 ha hd h
  · exact nb_a2 ha hd h
  · exact nb_a3 ha hd h
  · exact nb_a4 ha hd h
  · exact nb_a5 ha hd h
theorem nb_b {a d f : Nat} (ha : a ≤ 9999999) (hd : d ≤ 9999999) (hu : un a d 7 = 2) (hf : fst1 a d f) (s1 : dg a f = dg d (f + 1)) (s2 : dg a (f + 1) = dg d f) : nb a d := by
  have h7 := hf.1
  rcases (show f = 0 ∨ f = 1 ∨ f = 2 ∨ f = 3 ∨ f = 4 ∨ f = 5 ∨ f = 6 by omega) with rfl | rfl | rfl | rfl | rfl | rfl | rfl
  · exact ⟨0, by decide, nb_b0 ha hd hu hf.2.1 s1 s2⟩
  · exact ⟨1, by decide, nb_b1 ha hd hu hf.2.1 s1 s2⟩
  · exact ⟨2, by decide, nb_b2 ha hd hu hf.2.1 s1 s2⟩
  · exact ⟨3, by decide, nb_b3 ha hd hu hf.2.1 s1 s2⟩
  · exact ⟨4, by decide, nb_b4 ha hd hu hf.2.1 s1 s2⟩
  · exact ⟨5, by decide, nb_b5 ha hd hu hf.2.1 s1 s2⟩
  · exfalso
    have u := un7 a d
    have w0 := ne1_e (hf.2.2 0 (by decide))
    have w1 := ne1_e (hf.2.2 1 (by decide))
    have w2 := ne1_e (hf.2.2 2 (by decide))
    have w3 := ne1_e (hf.2.2 3 (by decide))
    have w4 := ne1_e (hf.2.2 4 (by decide))
    have w5 := ne1_e (hf.2.2 5 (by decide))
    have w6 := ne1_le a d 6
    omega
/-! the class's two looks at a pair of amounts -/
theorem s_differOne {a d : Nat} (ha : a ≤ 9999999) (hd : d ≤ 9999999) {Q : Int32 → Prop} (h1 : od a d → Q 1) (h0 : ¬ od a d → Q 0) : p_X4_differInOneDigit (nI a) (nI d) Q := by
  unfold p_X4_differInOneDigit
  refine wf4_3 (N := 7) (I := fun k x y c => x = nI (a / 10 ^ k) ∧ y = nI (d / 10 ^ k) ∧ c = nI (un a d k)) ?_ ?_ 0 (nI a) (nI d) 0 (Nat.zero_le _) ⟨by rw [Nat.pow_zero, Nat.div_one], by rw [Nat.pow_zero, Nat.div_one], rfl⟩
  · intro R x y c hI
    unfold p_X4_differInOneDigit_B10 p_X4_differInOneDigit_J58
    refine ⟨fun _ => ?_, fun q => absurd (by decide) q⟩
    have hu := un_le a d 7
    exact (pk_eq (un a d 7) 1 (fun e => ⟨rfl, h1 e⟩) (fun e => ⟨rfl, h0 e⟩) hI.2.2).symm
  · intro R k x y c hk hI hR
    unfold p_X4_differInOneDigit_B10 p_X4_differInOneDigit_J31
    refine pk_le 7 k (fun q => by omega) (fun _ => ?_)
    have ba : a / 10 ^ k < 2 ^ 31 := Nat.lt_of_le_of_lt (Nat.div_le_self _ _) (by omega)
    have bd : d / 10 ^ k < 2 ^ 31 := Nat.lt_of_le_of_lt (Nat.div_le_self _ _) (by omega)
    obtain ⟨rfl, rfl, rfl⟩ := hI
    rw [show (10 : Int32) = nI 10 from rfl, jrem_nI ba (by decide) (by decide), jrem_nI bd (by decide) (by decide), pk_div ba (by decide) (by decide), pk_div bd (by decide) (by decide), dv_succ, dv_succ]
    have s : un a d (k + 1) = un a d k + ne1 a d k := rfl
    refine pk_eq (dg a k) (dg d k) (fun e => ?_) (fun e => ?_) rfl rfl (Nat.lt_of_le_of_lt (dg_le a k) (by decide)) (Nat.lt_of_le_of_lt (dg_le d k) (by decide))
    · exact hR _ _ _ ⟨rfl, rfl, by rw [s, ne1_e e]; rfl⟩
    · exact hR _ _ _ ⟨rfl, rfl, by rw [s, ne1_n e, nI_1]⟩
theorem sub_x (x y z w : Int32) : x - y = z - w ↔ x + w = y + z := by
  constructor
  · intro q
    have e : x = z - w + y := by rw [← q, Int32.sub_add_cancel]
    rw [e, Int32.sub_eq_add_neg, Int32.add_assoc, Int32.add_comm y w, ← Int32.add_assoc, Int32.add_assoc z, Int32.add_comm (-w) w, ← Int32.sub_eq_add_neg, Int32.sub_self, Int32.add_zero, Int32.add_comm]
  · intro q
    have e : x = y + z - w := by rw [← q, Int32.add_sub_cancel]
    rw [e, Int32.sub_eq_add_neg, Int32.sub_eq_add_neg, Int32.sub_eq_add_neg, Int32.add_assoc y z, Int32.add_comm y, Int32.add_assoc, ← Int32.sub_eq_add_neg y y, Int32.sub_self, Int32.add_zero]
theorem nbq {a d l h r : Nat} (h1 : d + h * 9 * r < 2 ^ 31) (h2 : a + l * 9 * r < 2 ^ 31) : (nI d - nI a = ((nI l - nI h) * 9) * nI r) ↔ d + h * 9 * r = a + l * 9 * r := by
  rw [show (9 : Int32) = nI 9 from rfl, Int32.sub_mul, Int32.sub_mul, pk_mul, pk_mul, pk_mul, pk_mul, sub_x, nI_add, nI_add, nI_eq h1 h2]
theorem s_differNb {a d : Nat} (ha : a ≤ 9999999) (hd : d ≤ 9999999) {Q : Int32 → Prop} (h1 : nb a d → Q 1) (h0 : ¬ nb a d → Q 0) : p_X4_differByNeighbours (nI a) (nI d) Q := by
  unfold p_X4_differByNeighbours
  refine wf3_2 (N := 6) (I := fun k x y => x = nI (a / 10 ^ k) ∧ y = nI (10 ^ k) ∧ ∀ i, i < k → ¬ cnd a d i) ?_ ?_ 0 (nI a) 1 (Nat.zero_le _) ⟨by rw [Nat.pow_zero, Nat.div_one], rfl, fun j hj => absurd hj (Nat.not_lt_zero _)⟩
  · intro R x y hI
    unfold p_X4_differByNeighbours_B7
    exact ⟨fun _ => ⟨rfl, h0 (fun z => by obtain ⟨i, hi, z⟩ := z; exact hI.2.2 i hi z)⟩, fun q => absurd (by decide) q⟩
  · intro R k x y hk hI hR
    unfold p_X4_differByNeighbours_B7 p_X4_differByNeighbours_J56
    refine pk_le 6 k (fun q => by omega) (fun _ => ?_)
    have ba : a / 10 ^ k < 2 ^ 31 := Nat.lt_of_le_of_lt (Nat.div_le_self _ _) (by omega)
    have bb : a / 10 ^ (k + 1) < 2 ^ 31 := Nat.lt_of_le_of_lt (Nat.div_le_self _ _) (by omega)
    obtain ⟨rfl, rfl, hI⟩ := hI
    have p5 : 10 ^ k ≤ 10 ^ 5 := Nat.pow_le_pow_right (by decide) (by omega)
    have p5 : 10 ^ k ≤ 100000 := p5
    have g1 : ∀ j, dg a j * 9 * 10 ^ k ≤ 9 * 9 * 100000 := fun j => Nat.mul_le_mul (Nat.mul_le_mul_right 9 (dg_le a j)) p5
    have g2 := g1 k
    have g3 := g1 (k + 1)
    rw [show (10 : Int32) = nI 10 from rfl, pk_div ba (by decide) (by decide), dv_succ, jrem_nI ba (by decide) (by decide), jrem_nI bb (by decide) (by decide), pk_mul, ← Nat.pow_succ]
    have nx : ¬ cnd a d k → R (nI (a / 10 ^ (k + 1))) (nI (10 ^ (k + 1))) (nI k + 1) := fun z => hR _ _ ⟨rfl, rfl, fun i hi => by
      by_cases e : i = k
      · rw [e]; exact z
      · exact hI i (by omega)⟩
    refine pk_eq (dg a k) (dg a (k + 1)) (fun e => nx (fun z => z.1 e)) (fun e => ?_) rfl rfl (Nat.lt_of_le_of_lt (dg_le a k) (by decide)) (Nat.lt_of_le_of_lt (dg_le a (k + 1)) (by decide))
    have q0 := nbq (a := a) (d := d) (l := dg a k) (h := dg a (k + 1)) (r := 10 ^ k) (by omega) (by omega)
    have q1 : (nI d - nI a = ((nI (a / 10 ^ k % 10) - nI (a / 10 ^ (k + 1) % 10)) * 9) * nI (10 ^ k)) ↔ d + dg a (k + 1) * 9 * 10 ^ k = a + dg a k * 9 * 10 ^ k := q0
    rw [q1]
    exact ⟨fun z => nx (fun y => z y.2), fun z => ⟨rfl, h1 ⟨k, hk, e, z⟩⟩⟩
/-! the reference's look at a pair of amounts -/
theorem s_isSlip {a d : Nat} {kd : Int32} (ha : a ≤ 9999999) (hd : d ≤ 9999999) {Q : Int32 → Prop} (h1 : (kd = 0 → od a d) → (¬ kd = 0 → nb a d) → Q 1) (h0 : (kd = 0 → ¬ od a d) → (¬ kd = 0 → ¬ nb a d) → Q 0) : p_X6_isSlip kd (nI a) (nI d) Q := by
  unfold p_X6_isSlip
  refine wf5_4 (N := 7) (I := fun k x3 x4 x5 x6 => x3 = nI (un a d k) ∧ x5 = nI (a / 10 ^ k) ∧ x6 = nI (d / 10 ^ k) ∧ ∃ f, x4 = nI f ∧ (un a d k ≠ 0 → fst1 a d f)) ?_ ?_ 0 0 0 (nI a) (nI d) (Nat.zero_le _) ⟨rfl, by rw [Nat.pow_zero, Nat.div_one], by rw [Nat.pow_zero, Nat.div_one], 0, rfl, fun z => absurd rfl z⟩
  · intro R x3 x4 x5 x6 hI
    unfold p_X6_isSlip_B14
    refine ⟨fun _ => ?_, fun q => absurd (by decide) q⟩
    obtain ⟨rfl, -, -, f, rfl, hf⟩ := hI
    have hu := un_le a d 7
    by_cases hk : kd = 0
    · refine ⟨fun q => absurd hk q, fun _ => ?_⟩
      unfold p_X6_isSlip_J84
      exact (pk_eq (un a d 7) 1 (fun e => ⟨rfl, h1 (fun _ => e) (fun q => absurd hk q)⟩) (fun e => ⟨rfl, h0 (fun _ => e) (fun q => absurd hk q)⟩)).symm
    · refine ⟨fun _ => ?_, fun q => absurd q hk⟩
      have y1 : nb a d → Q 1 := fun z => h1 (fun q => absurd q hk) (fun _ => z)
      have y0 : ¬ nb a d → Q 0 := fun z => h0 (fun q => absurd q hk) (fun _ => z)
      refine pk_eq (un a d 7) 2 (fun e => ?_) (fun e => ⟨rfl, y0 (fun z => e (nb_a ha hd z).1)⟩)
      have hf := hf (by omega)
      have h7 := hf.1
      refine wf2_1 (N := f) (I := fun k x7 => x7 = nI (10 ^ k)) ?_ ?_ 0 1 (Nat.zero_le _) rfl
      · intro R2 x7 hI2
        unfold p_X6_isSlip_B98 p_X6_isSlip_J162 p_X6_isSlip_J163
        refine ⟨fun _ => ?_, fun q => absurd (Int32.le_refl _) q⟩
        have p0 : 0 < 10 ^ f := Nat.pos_of_ne_zero (by
          intro z
          have := Nat.pow_pos (a := 10) (n := f) (by decide)
          omega)
        have p6 : 10 ^ f ≤ 10 ^ 6 := Nat.pow_le_pow_right (by decide) (by omega)
        have p6 : 10 ^ f ≤ 1000000 := p6
        have nz : ¬ x7 = 0 := by rw [hI2]; exact nI_ne0 p0 (by omega)
        have ba : a / 10 ^ f < 2 ^ 31 := Nat.lt_of_le_of_lt (Nat.div_le_self _ _) (by omega)
        have bd : d / 10 ^ f < 2 ^ 31 := Nat.lt_of_le_of_lt (Nat.div_le_self _ _) (by omega)
        have bb : a / 10 ^ (f + 1) < 2 ^ 31 := Nat.lt_of_le_of_lt (Nat.div_le_self _ _) (by omega)
        have bc : d / 10 ^ (f + 1) < 2 ^ 31 := Nat.lt_of_le_of_lt (Nat.div_le_self _ _) (by omega)
        refine ⟨nz, nz, ?_⟩
        rw [hI2, show (10 : Int32) = nI 10 from rfl, pk_div (by omega) p0 (by omega), pk_div (by omega) p0 (by omega), pk_div ba (by decide) (by decide), pk_div bd (by decide) (by decide), dv_succ, dv_succ, jrem_nI ba (by decide) (by decide), jrem_nI bd (by decide) (by decide), jrem_nI bb (by decide) (by decide), jrem_nI bc (by decide) (by decide)]
        have sm1 : ∀ n k, dg n k < 2 ^ 31 := fun n k => Nat.lt_of_le_of_lt (dg_le n k) (by decide)
        refine (pk_eq (dg a f) (dg d (f + 1)) (fun e1 => ?_) (fun e1 => ⟨rfl, y0 (fun z => e1 ((nb_a ha hd z).2 f hf).1)⟩) rfl rfl (sm1 _ _) (sm1 _ _)).symm
        rw [← hI2]
        refine ⟨nz, nz, ?_⟩
        exact (pk_eq (dg a (f + 1)) (dg d f) (fun e2 => ⟨rfl, y1 (nb_b ha hd e hf e1 e2)⟩) (fun e2 => ⟨rfl, y0 (fun z => e2 ((nb_a ha hd z).2 f hf).2)⟩) rfl rfl (sm1 _ _) (sm1 _ _)).symm
      · intro R2 k x7 hk2 hI2 hR2
        unfold p_X6_isSlip_B98
        refine pk_le f k (fun q => by omega) (fun _ => ?_)
        exact hR2 _ (by rw [hI2, show (10 : Int32) = nI 10 from rfl, pk_mul, ← Nat.pow_succ])
  · intro R k x3 x4 x5 x6 hk hI hR
    unfold p_X6_isSlip_B14 p_X6_isSlip_J45 p_X6_isSlip_J50
    refine pk_le 7 k (fun q => by omega) (fun _ => ?_)
    have ba : a / 10 ^ k < 2 ^ 31 := Nat.lt_of_le_of_lt (Nat.div_le_self _ _) (by omega)
    have bd : d / 10 ^ k < 2 ^ 31 := Nat.lt_of_le_of_lt (Nat.div_le_self _ _) (by omega)
    obtain ⟨rfl, rfl, rfl, f, rfl, hf⟩ := hI
    rw [show (10 : Int32) = nI 10 from rfl, jrem_nI ba (by decide) (by decide), jrem_nI bd (by decide) (by decide), pk_div ba (by decide) (by decide), pk_div bd (by decide) (by decide), dv_succ, dv_succ]
    have s : un a d (k + 1) = un a d k + ne1 a d k := rfl
    have hu := un_le a d k
    refine pk_eq (dg a k) (dg d k) (fun e => ?_) (fun e => ?_) rfl rfl (Nat.lt_of_le_of_lt (dg_le a k) (by decide)) (Nat.lt_of_le_of_lt (dg_le d k) (by decide))
    · exact hR _ _ _ _ ⟨by rw [s, ne1_e e]; rfl, rfl, rfl, f, rfl, fun z => hf (by rw [s, ne1_e e] at z; exact z)⟩
    · refine (pk_eq (un a d k) 0 (fun z => ?_) (fun z => ?_)).symm
      · exact hR _ _ _ _ ⟨by rw [s, ne1_n e, nI_1], rfl, rfl, k, rfl, fun _ => ⟨hk, e, un_0 k z⟩⟩
      · exact hR _ _ _ _ ⟨by rw [s, ne1_n e, nI_1], rfl, rfl, f, rfl, fun _ => hf z⟩
