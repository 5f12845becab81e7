/-! digits, the reference's fits, the OTHERS -/
def vl (σ : Nat → Nat) (s : Nat) : Nat → Nat
  | 0 => 0
  | n + 1 => vl σ s n * 10 + σ (s + n)
def dgs (σ : Nat → Nat) (s n : Nat) : Prop := ∀ i, i < n → σ (s + i) < 10
theorem vl_lt {σ : Nat → Nat} {s : Nat} : ∀ n, dgs σ s n → vl σ s n < 10 ^ n := by
  intro n
  induction n with
  | zero => intro _; show 0 < 1; omega
  | succ n ih =>
    intro h
    have a := ih (fun i hi => h i (by omega))
    have b := h n (by omega)
    show vl σ s n * 10 + σ (s + n) < 10 ^ (n + 1)
    rw [Nat.pow_succ]; omega
theorem vl_lt6 {σ : Nat → Nat} {s n : Nat} (hn : n ≤ 6) (h : dgs σ s n) : vl σ s n < 1000000 := Nat.lt_of_lt_of_le (vl_lt n h) (Nat.pow_le_pow_right (n := 10) (by decide) hn)
theorem s_digits {signs : Nat → Int32} {σ : Nat → Nat} {s n : Nat} {x1 x2 : Int32} (e1 : x1 = nI s) (e2 : x2 = nI n) (hn : n ≤ 6) (hs18 : s + n ≤ 18) (hs : ∀ q, q < 18 → signs q = nI (σ q) ∧ σ q < 12) {Q : Int32 → Prop} (h1 : dgs σ s n → Q (nI (vl σ s n))) (h0 : ¬ dgs σ s n → Q (-1)) : p_X6_digits signs x1 x2 Q := by
  subst e1 e2
  unfold p_X6_digits
  refine wf2_1 (N := s + n) (I := fun k v => s ≤ k ∧ ((dgs σ s (k - s) ∧ v = nI (vl σ s (k - s))) ∨ (¬ dgs σ s (k - s) ∧ v = -1))) ?_ ?_ s 0 (Nat.le_add_right _ _) ⟨Nat.le_refl _, Or.inl ⟨fun i hi => by omega, by rw [Nat.sub_self]; rfl⟩⟩
  · intro R v hI
    unfold p_X6_digits_B5
    rw [nI_add]
    refine ⟨fun _ => ?_, fun q => absurd (Int32.le_refl _) q⟩
    rw [Nat.add_sub_cancel_left] at hI
    rcases hI.2 with ⟨a, b⟩ | ⟨a, b⟩
    · rw [b]; exact h1 a
    · rw [b]; exact h0 a
  · intro R k v hk hI hR
    unfold p_X6_digits_B5 p_X6_digits_J44 p_X6_digits_J45
    rw [nI_add]
    refine pk_le (s + n) k (fun q => by omega) (fun _ => ?_)
    refine ⟨vp_in_nI (by omega) (by decide), ?_⟩
    rw [nI_clamp (show k < 2 ^ 31 by omega), (hs k (by omega)).1]
    have hk12 := (hs k (by omega)).2
    obtain ⟨hsk, hI⟩ := hI
    have ek : k + 1 - s = (k - s) + 1 := by omega
    have es : s + (k - s) = k := by omega
    refine pk_le 10 (σ k) (fun q => ?_) (fun q => ?_)
    · refine hR _ ⟨by omega, Or.inr ⟨fun z => ?_, rfl⟩⟩
      have := z (k - s) (by omega)
      rw [es] at this; omega
    · rcases hI with ⟨a, b⟩ | ⟨a, b⟩
      · rw [b]
        have hb := vl_lt6 (show k - s ≤ 6 by omega) a
        refine ⟨fun z => absurd z (nI_pos (by omega)), fun _ => ⟨vp_in_nI (by omega) (by decide), ?_⟩⟩
        rw [show (10 : Int32) = nI 10 from rfl, pk_mul, nI_add]
        refine hR _ ⟨by omega, Or.inl ⟨fun i hi => ?_, ?_⟩⟩
        · by_cases e : i = k - s
          · rw [e, es]; omega
          · exact a i (by omega)
        · rw [ek]
          show _ = nI (vl σ s (k - s) * 10 + σ (s + (k - s)))
          rw [es, Nat.mul_comm]
      · rw [b]
        refine ⟨fun _ => ?_, fun z => absurd (by decide) z⟩
        exact hR _ ⟨by omega, Or.inr ⟨fun z => a (fun i hi => z i (by omega)), rfl⟩⟩
theorem s_digitsOf {signs : Nat → Int32} {σ : Nat → Nat} {f s n : Nat} {x : Int32} (ex : x = nI f) (hf : f < 3) (e1 : s_FIELD_STARTS f = nI s) (e2 : s_FIELD_LENGTHS f = nI n) (hn : s + n ≤ 18) (hs : ∀ q, q < 18 → signs q = nI (σ q)) {Q : Int32 → Prop} (h : Q (nI (vl σ s n))) : p_X3_digitsOf signs x Q := by
  subst ex
  unfold p_X3_digitsOf
  refine ⟨vp_in_nI hf (by decide), ?_⟩
  rw [nI_clamp (show f < 2 ^ 31 by omega), e1]
  refine wf2_1 (N := n) (I := fun k v => v = nI (vl σ s k)) ?_ ?_ 0 0 (Nat.zero_le _) rfl
  · intro R v hI
    unfold p_X3_digitsOf_B11
    refine ⟨vp_in_nI hf (by decide), ?_⟩
    rw [nI_clamp (show f < 2 ^ 31 by omega), e2]
    exact ⟨fun _ => by rw [hI]; exact h, fun q => absurd (Int32.le_refl _) q⟩
  · intro R k v hk hI hR
    unfold p_X3_digitsOf_B11
    refine ⟨vp_in_nI hf (by decide), ?_⟩
    rw [nI_clamp (show f < 2 ^ 31 by omega), e2]
    refine pk_le n k (fun q => by omega) (fun _ => ?_)
    refine ⟨in2 (by omega) (by decide), ?_⟩
    rw [cl2 (by omega), hs _ (by omega), hI, show (10 : Int32) = nI 10 from rfl, pk_mul, nI_add]
    exact hR _ rfl
theorem cks_sum (σ : Nat → Nat) : cks σ 18 = 7 * σ 6 + 3 * σ 7 + σ 8 + 7 * σ 9 + 3 * σ 10 + σ 11 := by
  have e : cks σ 18 = 0 + wt 0 * σ 0 + wt 1 * σ 1 + wt 2 * σ 2 + wt 3 * σ 3 + wt 4 * σ 4 + wt 5 * σ 5 + wt 6 * σ 6 + wt 7 * σ 7 + wt 8 * σ 8 + wt 9 * σ 9 + wt 10 * σ 10 + wt 11 * σ 11 + wt 12 * σ 12 + wt 13 * σ 13 + wt 14 * σ 14 + wt 15 * σ 15 + wt 16 * σ 16 + wt 17 * σ 17 := rfl
  rw [e]; simp [wt]
theorem bl_dg {p s : Nat} (h : ¬ (p = 0 ∨ p = 17)) (h2 : ¬ (p = 5 ∨ p = 12)) : bl p s = true ↔ s < 10 := by
  unfold bl; rw [if_neg h, if_neg h2, decide_eq_true_eq]
theorem bl_10 {p s : Nat} (h : p = 0 ∨ p = 17) : bl p s = true ↔ s = 10 := by
  unfold bl; rw [if_pos h, beq_iff_eq]
theorem bl_11 {p s : Nat} (h : ¬ (p = 0 ∨ p = 17)) (h2 : p = 5 ∨ p = 12) : bl p s = true ↔ s = 11 := by
  unfold bl; rw [if_neg h, if_pos h2, beq_iff_eq]
theorem ft_iff (σ : Nat → Nat) : ft σ ↔ (σ 0 = 10 ∧ σ 5 = 11 ∧ σ 12 = 11 ∧ σ 17 = 10 ∧ dgs σ 1 4 ∧ dgs σ 6 6 ∧ dgs σ 13 4 ∧ (7 * σ 6 + 3 * σ 7 + σ 8 + 7 * σ 9 + 3 * σ 10 + σ 11) % 10 = 0) := by
  refine ⟨fun h => ?_, fun h => ?_⟩
  · have b := ft_bl h
    refine ⟨(bl_10 (by omega)).mp (b 0 (by decide)), (bl_11 (by omega) (by omega)).mp (b 5 (by decide)), (bl_11 (by omega) (by omega)).mp (b 12 (by decide)), (bl_10 (by omega)).mp (b 17 (by decide)), fun i hi => (bl_dg (by omega) (by omega)).mp (b (1 + i) (by omega)), fun i hi => (bl_dg (by omega) (by omega)).mp (b (6 + i) (by omega)), fun i hi => (bl_dg (by omega) (by omega)).mp (b (13 + i) (by omega)), ?_⟩
    rw [← cks_sum]; exact h.2
  · obtain ⟨a0, a5, a12, a17, d1, d6, d13, hc⟩ := h
    refine ⟨?_, by rw [cks_sum]; exact hc⟩
    have key : ∀ p, p < 18 → bl p (σ p) = true := by
      intro p hp
      by_cases c0 : p = 0
      · subst c0; exact (bl_10 (by omega)).mpr a0
      by_cases c17 : p = 17
      · subst c17; exact (bl_10 (by omega)).mpr a17
      by_cases c5 : p = 5
      · subst c5; exact (bl_11 (by omega) (by omega)).mpr a5
      by_cases c12 : p = 12
      · subst c12; exact (bl_11 (by omega) (by omega)).mpr a12
      refine (bl_dg (by omega) (by omega)).mpr ?_
      by_cases l1 : p < 5
      · have := d1 (p - 1) (by omega); rw [show 1 + (p - 1) = p by omega] at this; exact this
      by_cases l2 : p < 12
      · have := d6 (p - 6) (by omega); rw [show 6 + (p - 6) = p by omega] at this; exact this
      · have := d13 (p - 13) (by omega); rw [show 13 + (p - 13) = p by omega] at this; exact this
    have := sm_le (f := fun p => if bl p (σ p) = true then 0 else 1) (M := 0) 18 (fun k hk => by show (if bl k (σ k) = true then 0 else 1) ≤ 0; rw [if_pos (key k hk)]; exact Nat.le_refl _)
    exact Nat.le_zero.mp this
theorem s_fitsR {a : Nat → Int32} {σ : Nat → Nat} {P : Nat} {ir rp : Int32} (hrp : rp = nI P) (hP : P ≤ 20) (hir : ir = 0 ∨ ir = 1) (hs : ir = 1 → P = 18 → ∀ q, q < 18 → a q = nI (σ q) ∧ σ q < 12) {Q : Int32 → Prop} (h1 : ir = 1 → P = 18 → ft σ → Q 1) (h0 : ¬ (ir = 1 ∧ P = 18 ∧ ft σ) → Q 0) : p_X6_fits rp ir a Q := by
  unfold p_X6_fits p_X6_fits_J16 p_X6_fits_J94 p_X6_fits_J164
  rcases hir with e | e
  · subst e
    exact ⟨fun _ => ⟨rfl, h0 (fun z => absurd z.1 (by decide))⟩, fun q => absurd rfl q⟩
  refine ⟨fun q => absurd (e.symm.trans q) (by decide), fun _ => ?_⟩
  rw [hrp]
  refine pk_eq P 18 (fun e2 => ?_) (fun e2 => ⟨rfl, h0 (fun z => e2 z.2.1)⟩)
  have hs := hs e e2
  have h1 := h1 e e2
  have h0 : ¬ ft σ → Q 0 := fun z => h0 (fun y => z y.2.2)
  rw [ft_iff] at h1 h0
  have kc : ∀ (k : Nat) (x y : Int32) (m : Nat), k < 18 → x.toNatClampNeg = k → y = nI m → m < 100 → (a x.toNatClampNeg = y ↔ σ k = m) := by
    intro k x y m hk ex ey hm
    have := (hs k hk).2
    rw [ex, ey, (hs k hk).1, nI_eq (by omega) (by omega)]
  rw [kc 0 0 10 10 (by decide) rfl rfl (by decide), kc 5 5 11 11 (by decide) rfl rfl (by decide), kc 12 12 11 11 (by decide) rfl rfl (by decide), kc 17 17 10 10 (by decide) rfl rfl (by decide)]
  refine ⟨pk_in 0 20 (by decide), fun q => ⟨rfl, h0 (fun z => q z.1)⟩, fun q0 => ?_⟩
  refine ⟨pk_in 5 20 (by decide), fun q => ⟨rfl, h0 (fun z => q z.2.1)⟩, fun q5 => ?_⟩
  refine ⟨pk_in 12 20 (by decide), fun q => ⟨rfl, h0 (fun z => q z.2.2.1)⟩, fun q12 => ?_⟩
  refine ⟨pk_in 17 20 (by decide), fun q => ⟨rfl, h0 (fun z => q z.2.2.2.1)⟩, fun q17 => ?_⟩
  refine s_digits (s := 1) (n := 4) rfl rfl (by decide) (by decide) hs (fun d1 => ?_) (fun d1 => ⟨fun _ => ⟨rfl, h0 (fun z => d1 z.2.2.2.2.1)⟩, fun q => absurd (by decide) q⟩)
  have b1 := vl_lt6 (by decide) d1
  refine ⟨fun q => absurd q (nI_pos (by omega)), fun _ => ?_⟩
  refine s_digits (s := 6) (n := 6) rfl rfl (by decide) (by decide) hs (fun d2 => ?_) (fun d2 => ⟨fun _ => ⟨rfl, h0 (fun z => d2 z.2.2.2.2.2.1)⟩, fun q => absurd (by decide) q⟩)
  have b2 := vl_lt6 (by decide) d2
  refine ⟨fun q => absurd q (nI_pos (by omega)), fun _ => ?_⟩
  refine s_digits (s := 13) (n := 4) rfl rfl (by decide) (by decide) hs (fun d3 => ?_) (fun d3 => ⟨fun q => absurd q (by decide), fun _ => ⟨rfl, h0 (fun z => d3 z.2.2.2.2.2.2.1)⟩⟩)
  have b3 := vl_lt6 (by decide) d3
  refine ⟨fun _ => ?_, fun q => absurd (nI_pos' (by omega)) q⟩
  refine ⟨pk_in 6 20 (by decide), pk_in 7 20 (by decide), pk_in 8 20 (by decide), pk_in 9 20 (by decide), pk_in 10 20 (by decide), pk_in 11 20 (by decide), ?_⟩
  rw [show Int32.toNatClampNeg 6 = 6 from rfl, show Int32.toNatClampNeg 7 = 7 from rfl, show Int32.toNatClampNeg 8 = 8 from rfl, show Int32.toNatClampNeg 9 = 9 from rfl, show Int32.toNatClampNeg 10 = 10 from rfl, show Int32.toNatClampNeg 11 = 11 from rfl]
  rw [(hs 6 (by decide)).1, (hs 7 (by decide)).1, (hs 8 (by decide)).1, (hs 9 (by decide)).1, (hs 10 (by decide)).1, (hs 11 (by decide)).1]
  have c6 := (hs 6 (by decide)).2
  have c7 := (hs 7 (by decide)).2
  have c8 := (hs 8 (by decide)).2
  have c9 := (hs 9 (by decide)).2
  have c10 := (hs 10 (by decide)).2
  have c11 := (hs 11 (by decide)).2
  rw [show (7 : Int32) = nI 7 from rfl, show (3 : Int32) = nI 3 from rfl, pk_mul, pk_mul, pk_mul, pk_mul, nI_add, nI_add, nI_add, nI_add, nI_add, show (10 : Int32) = nI 10 from rfl, jrem_nI (by omega) (by decide) (by decide), show (0 : Int32) = nI 0 from rfl, nI_eq (by omega) (by decide)]
  exact ⟨fun q => ⟨rfl, h0 (fun z => q z.2.2.2.2.2.2.2)⟩, fun q => ⟨rfl, h1 ⟨q0, q5, q12, q17, d1, d2, d3, q⟩⟩⟩
