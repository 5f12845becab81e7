/-! the line: where marks and digits stand, the sum of check -/
def bl (p s : Nat) : Bool := if p = 0 ∨ p = 17 then s == 10 else if p = 5 ∨ p = 12 then s == 11 else decide (s < 10)
def wt (p : Nat) : Nat := if p = 6 ∨ p = 9 then 7 else if p = 7 ∨ p = 10 then 3 else if p = 8 ∨ p = 11 then 1 else 0
theorem lay_at : ∀ p, p < 18 → s_LAYOUT p = if p = 0 ∨ p = 17 then nI 10 else if p = 5 ∨ p = 12 then nI 11 else -1 := by decide
theorem wt_at : ∀ p, p < 18 → s_WEIGHTS p = nI (wt p) := by decide
theorem wt_le (p : Nat) : wt p ≤ 7 := by
  unfold wt
  split
  · omega
  · split
    · omega
    · split <;> omega
def stg (σ : Nat → Nat) (n : Nat) : Nat := sm (fun p => if bl p (σ p) = true then 0 else 1) n
def cks (σ : Nat → Nat) (n : Nat) : Nat := sm (fun p => wt p * σ p) n
theorem s_isLong {P : Nat} (hP : P < 2 ^ 31) {Q : Int32 → Prop} (h1 : P = 18 → Q 1) (h0 : P ≠ 18 → Q 0) : p_X3_isLong (nI P) Q := by
  unfold p_X3_isLong p_X3_isLong_J14
  refine ⟨fun q => ⟨rfl, h0 ?_⟩, fun q => ⟨rfl, h1 ?_⟩⟩
  · rw [show (18 : Int32) = nI 18 from rfl, nI_eq hP (by decide)] at q; exact q
  · rw [show (18 : Int32) = nI 18 from rfl, nI_eq hP (by decide)] at q; exact q
theorem s_belongs {p s : Nat} (hp : p < 18) (hs : s < 12) {Q : Int32 → Prop} (h1 : bl p s = true → Q 1) (h0 : ¬ bl p s = true → Q 0) : p_X3_belongs (nI p) (nI s) Q := by
  unfold p_X3_belongs p_X3_belongs_J37
  refine ⟨vp_in_nI hp (by decide), ?_⟩
  rw [nI_clamp (show p < 2 ^ 31 by omega), lay_at p hp]
  by_cases e1 : p = 0 ∨ p = 17
  · rw [if_pos e1]
    have eb : bl p s = (s == 10) := by unfold bl; rw [if_pos e1]
    rw [eb, beq_iff_eq] at h1 h0
    refine ⟨fun _ => ⟨vp_in_nI hp (by decide), fun q => ⟨rfl, h0 ?_⟩, fun q => ⟨rfl, h1 ?_⟩⟩, fun q => absurd q (by decide)⟩
    · rw [nI_eq (by omega) (by decide)] at q; exact q
    · rw [nI_eq (by omega) (by decide)] at q; exact q
  · rw [if_neg e1]
    by_cases e2 : p = 5 ∨ p = 12
    · rw [if_pos e2]
      have eb : bl p s = (s == 11) := by unfold bl; rw [if_neg e1, if_pos e2]
      rw [eb, beq_iff_eq] at h1 h0
      refine ⟨fun _ => ⟨vp_in_nI hp (by decide), fun q => ⟨rfl, h0 ?_⟩, fun q => ⟨rfl, h1 ?_⟩⟩, fun q => absurd q (by decide)⟩
      · rw [nI_eq (by omega) (by decide)] at q; exact q
      · rw [nI_eq (by omega) (by decide)] at q; exact q
    · rw [if_neg e2]
      have eb : bl p s = decide (s < 10) := by unfold bl; rw [if_neg e1, if_neg e2]
      rw [eb, decide_eq_true_eq] at h1 h0
      refine ⟨fun q => absurd rfl q, fun _ => ?_⟩
      exact pk_le 10 s (fun q => ⟨rfl, h0 (by omega)⟩) (fun q => ⟨rfl, h1 (by omega)⟩)
theorem stg_le (σ : Nat → Nat) (n : Nat) : stg σ n ≤ n := by
  have := sm_le (f := fun p => if bl p (σ p) = true then 0 else 1) (M := 1) n (fun k _ => by show (if _ then 0 else 1) ≤ 1; split <;> omega)
  unfold stg; omega
theorem cks_le {σ : Nat → Nat} {n : Nat} (h : ∀ p, p < n → σ p < 12) : cks σ n ≤ n * 84 := sm_le n (fun k hk => by
  have := Nat.mul_le_mul (wt_le k) (show σ k ≤ 12 by have := h k hk; omega)
  exact this)
theorem s_checkLine {signs : Nat → Int32} {σ : Nat → Nat} {P : Nat} {s0 c0 : Int32} (hP : P ≤ 20) (hs : ∀ p, p < P → signs p = nI (σ p) ∧ σ p < 12) {Q : Int32 → Int32 → Prop} (h1 : P = 18 → Q (nI (stg σ 18)) (nI (cks σ 18))) (h0 : P ≠ 18 → Q 0 0) : p_X3_checkLine (nI P) s0 c0 signs Q := by
  unfold p_X3_checkLine
  refine s_isLong (by omega) (fun e => ?_) (fun e => ?_)
  · refine ⟨fun _ => ?_, fun q => absurd q (by decide)⟩
    subst e
    refine wf3_0 (N := 18) (I := fun k s c => s = nI (stg σ k) ∧ c = nI (cks σ k)) ?_ ?_ 0 0 0 (Nat.zero_le _) ⟨rfl, rfl⟩
    · intro R s c hI
      unfold p_X3_checkLine_B20
      refine ⟨fun _ => ?_, fun q => absurd (by decide) q⟩
      rw [hI.1, hI.2]; exact h1 rfl
    · intro R k s c hk hI hR
      unfold p_X3_checkLine_B20
      refine pk_le 18 k (fun q => by omega) (fun _ => ?_)
      refine ⟨vp_in_nI (by omega) (by decide), ?_⟩
      have hsk := (hs k hk).2
      have fin : ∀ y : Nat, y = stg σ (k + 1) → p_X3_checkLine_J49 (nI y) c signs R (nI k) := by
        intro y ey
        unfold p_X3_checkLine_J49
        refine ⟨vp_in_nI (by omega) (by decide), vp_in_nI (by omega) (by decide), ?_⟩
        rw [nI_clamp (show k < 2 ^ 31 by omega), wt_at k hk, (hs k hk).1, hI.2, pk_mul, nI_add]
        exact hR _ _ ⟨by rw [ey], rfl⟩
      rw [nI_clamp (show k < 2 ^ 31 by omega), (hs k hk).1]
      refine s_belongs hk hsk (fun b => ?_) (fun b => ?_)
      · refine ⟨fun _ => ?_, fun q => absurd q (by decide)⟩
        rw [hI.1]
        refine fin _ ?_
        show _ = stg σ k + (if bl k (σ k) = true then 0 else 1)
        rw [if_pos b]; rfl
      · refine ⟨fun q => absurd rfl q, fun _ => ?_⟩
        rw [hI.1, nI_1]
        refine fin _ ?_
        show _ = stg σ k + (if bl k (σ k) = true then 0 else 1)
        rw [if_neg b]
  · exact ⟨fun q => absurd rfl q, fun _ => h0 e⟩
/-- it fits -/
def ft (σ : Nat → Nat) : Prop := stg σ 18 = 0 ∧ cks σ 18 % 10 = 0
theorem s_fits {σ : Nat → Nat} {P : Nat} {s c : Int32} (hP : P ≤ 20) (hσ : P = 18 → ∀ p, p < 18 → σ p < 12) (hs : P = 18 → s = nI (stg σ 18)) (hc : P = 18 → c = nI (cks σ 18)) {Q : Int32 → Prop} (h1 : P = 18 → ft σ → Q 1) (h0 : ¬ (P = 18 ∧ ft σ) → Q 0) : p_X3_fits (nI P) s c Q := by
  unfold p_X3_fits p_X3_fits_J28 p_X3_fits_J29
  refine s_isLong (by omega) (fun e => ?_) (fun e => ?_)
  · refine ⟨fun q => absurd q (by decide), fun _ => ?_⟩
    have a1 := stg_le σ 18
    have a2 := cks_le (n := 18) (hσ e)
    rw [hs e, hc e, show (10 : Int32) = nI 10 from rfl, jrem_nI (by omega) (by decide) (by decide), show (0 : Int32) = nI 0 from rfl, nI_eq (by omega) (by decide), nI_eq (by omega) (by decide)]
    exact ⟨fun q => ⟨rfl, h0 (fun z => q z.2.1)⟩, fun q => ⟨fun r => ⟨rfl, h0 (fun z => r z.2.2)⟩, fun r => ⟨rfl, h1 e ⟨q, r⟩⟩⟩⟩
  · exact ⟨fun _ => ⟨rfl, h0 (fun z => e z.1)⟩, fun q => absurd rfl q⟩
