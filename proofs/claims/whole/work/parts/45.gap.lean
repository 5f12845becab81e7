theorem ct_le2 {t w : Nat → Nat} {p g v : Nat} (ht : ∀ i, 1 ≤ t i ∧ t i ≤ 60) (hw : ∀ i, i < 6 → 1 ≤ w (g * 6 + i) ∧ w (g * 6 + i) ≤ 3) (hv : v < 9) : ct t w p g v ≤ 336 := by
  have h := sm_le (f := fun i => ad (t (p * 6 + i)) ((4 + v) * w (g * 6 + i))) (M := 56) 6 (fun k hk => by
    have h1 := ht (p * 6 + k)
    have h2 : (4 + v) * w (g * 6 + k) ≤ 12 * 3 := Nat.mul_le_mul (by omega) (hw k hk).2
    have h3 : 4 * 1 ≤ (4 + v) * w (g * 6 + k) := Nat.mul_le_mul (by omega) (hw k hk).1
    show ad _ _ ≤ _
    unfold ad; omega)
  unfold ct; omega
theorem gap_eq {C : Nat → Nat → Nat → Nat} {P : Nat} {σ : Nat → Nat} (hP : P ≤ 20) (hP0 : 0 < P) (hb : ∀ p g v, g < 12 → v < 9 → C p g v ≤ 336) : gq (fun p g => th C (ha C) P (fw (ha C) p) p g) σ 7201 P = gq (fun p g => th C (ha C) P (fw (ha C) p) p g) σ 100000000 P := by
  have hh : ∀ p v, p < P → v < 9 → ha C p v ≤ 336 := fun p v _ hv => Nat.le_trans (mn_lb (f := fun g => C p g v) 11 0 (by decide)) (hb p 0 v (by decide) hv)
  have e := gq_min (fun p g => th C (ha C) P (fw (ha C) p) p g) σ 7201 100000000 P
  rw [show min 7201 100000000 = 7201 from rfl] at e
  rw [e]
  refine Nat.min_eq_right ?_
  obtain ⟨g, hg, hgs⟩ : ∃ g, g < 12 ∧ g ≠ σ 0 := by
    by_cases z : σ 0 = 0
    · exact ⟨1, by decide, by omega⟩
    · exact ⟨0, by decide, fun q => z q.symm⟩
  refine Nat.le_trans ((gq_le (fun p g => th C (ha C) P (fw (ha C) p) p g) σ 100000000 P).2 0 g hP0 hg hgs) ?_
  show th C (ha C) P (fw (ha C) 0) 0 g ≤ 7201
  unfold th
  refine Nat.le_trans (mn_lb 8 0 (by decide)) ?_
  have a1 := hb 0 g 0 hg (by decide)
  have a2 := bk_le (h := ha C) (P := P) hh (P - 1 - 0) 0 0 (by omega) (by decide)
  have a3 : (P - 1 - 0) * 336 ≤ 19 * 336 := Nat.mul_le_mul_right _ (by omega)
  show 0 + _ + _ ≤ _
  omega
theorem cx_le2 {t num : Nat → Nat} {P : Nat} {x : Int32} (htb : ∀ i, 1 ≤ t i ∧ t i ≤ 60) (hw : ∀ i, i < 72 → 1 ≤ wd num i ∧ wd num i ≤ 3) (p g v : Nat) (hg : g < 12) (hv : v < 9) : cx t num P x p g v ≤ 336 := by
  unfold cx
  refine ct_le2 (fun i => ?_) (fun i hi => hw _ (by omega)) hv
  by_cases e : x = 0
  · rw [if_pos e]; exact htb _
  · rw [if_neg e]; exact htb _
/-! others: one sign changed -/
theorem sm_wth (F : Nat → Nat → Nat) (σ : Nat → Nat) (p g : Nat) : ∀ n, (n ≤ p → sm (fun q => F q (wth σ p g q)) n = sm (fun q => F q (σ q)) n) ∧ (p < n → sm (fun q => F q (wth σ p g q)) n + F p (σ p) = sm (fun q => F q (σ q)) n + F p g) := by
  intro n
  induction n with
  | zero => exact ⟨fun _ => rfl, fun h => absurd h (Nat.not_lt_zero _)⟩
  | succ n ih =>
    have s1 : sm (fun q => F q (wth σ p g q)) (n + 1) = sm (fun q => F q (wth σ p g q)) n + F n (wth σ p g n) := rfl
    have s2 : sm (fun q => F q (σ q)) (n + 1) = sm (fun q => F q (σ q)) n + F n (σ n) := rfl
    refine ⟨fun h => ?_, fun h => ?_⟩
    · have e : wth σ p g n = σ n := if_neg (by omega)
      rw [s1, s2, ih.1 (by omega), e]
    · by_cases z : n = p
      · subst z
        have e : wth σ n g n = g := if_pos rfl
        rw [s1, s2, ih.1 (Nat.le_refl _), e]
        omega
      · have e : wth σ p g n = σ n := if_neg z
        have := ih.2 (by omega)
        rw [s1, s2, e]
        omega
/-- the sign g at p is one of the OTHERS -/
def isO (σ : Nat → Nat) (p g : Nat) : Prop := g ≠ σ p ∧ ft (wth σ p g)
theorem ft_bl {σ : Nat → Nat} (h : ft σ) : ∀ p, p < 18 → bl p (σ p) = true := by
  have key : ∀ n, sm (fun p => if bl p (σ p) = true then 0 else 1) n = 0 → ∀ p, p < n → bl p (σ p) = true := by
    intro n
    induction n with
    | zero => intro _ p hp; exact absurd hp (Nat.not_lt_zero _)
    | succ n ih =>
      intro h p hp
      have s1 : sm (fun p => if bl p (σ p) = true then 0 else 1) (n + 1) = sm (fun p => if bl p (σ p) = true then 0 else 1) n + (if bl n (σ n) = true then 0 else 1) := rfl
      rw [s1] at h
      by_cases e : p = n
      · subst e
        by_cases b : bl p (σ p) = true
        · exact b
        · rw [if_neg b] at h; omega
      · exact ih (by omega) p (by omega)
  exact key 18 h.1
theorem s_isOther {signs : Nat → Int32} {σ : Nat → Nat} {p g : Nat} (hp : p < 18) (hg : g < 12) (hs : ∀ q, q < 18 → signs q = nI (σ q) ∧ σ q < 12) {Q : Int32 → Prop} (h1 : isO σ p g → Q 1) (h0 : ¬ isO σ p g → Q 0) : p_X3_isOther (nI (stg σ 18)) (nI (cks σ 18)) signs (nI p) (nI g) Q := by
  unfold p_X3_isOther
  refine ⟨vp_in_nI (by omega) (by decide), ?_⟩
  rw [nI_clamp (show p < 2 ^ 31 by omega), (hs p hp).1]
  have hsp := (hs p hp).2
  have a1 := stg_le σ 18
  have a2 := cks_le (n := 18) (fun q hq => (hs q hq).2)
  have e1 := (sm_wth (fun q s => if bl q s = true then 0 else 1) σ p g 18).2 hp
  have e2 := (sm_wth (fun q s => wt q * s) σ p g 18).2 hp
  have e1 : stg (wth σ p g) 18 + (if bl p (σ p) = true then 0 else 1) = stg σ 18 + (if bl p g = true then 0 else 1) := e1
  have e2 : cks (wth σ p g) 18 + wt p * σ p = cks σ 18 + wt p * g := e2
  have a3 : wt p * g ≤ 7 * 12 := Nat.mul_le_mul (wt_le p) (by omega)
  refine pk_eq g (σ p) (fun e => ?_) (fun e => ?_)
  · unfold p_X3_isOther_J20
    exact ⟨rfl, h0 (fun z => z.1 e)⟩
  · refine s_belongs hp hg (fun b => ?_) (fun b => ?_)
    · refine ⟨fun _ => ?_, fun q => absurd q (by decide)⟩
      rw [if_pos b] at e1
      have fin : ∀ y : Nat, y = stg (wth σ p g) 18 → p_X3_isOther_J43 (nI (cks σ 18)) Q (nI p) (nI g) (nI (σ p)) (nI y) := by
        intro y ey
        unfold p_X3_isOther_J43 p_X3_isOther_J74 p_X3_isOther_J75
        have ec : nI (cks σ 18) + nI (wt p) * (nI g - nI (σ p)) = nI (cks (wth σ p g) 18) := by
          have e3 : nI (cks (wth σ p g) 18) + nI (wt p * σ p) = nI (cks σ 18) + nI (wt p * g) := by rw [nI_add, nI_add, e2]
          rw [← pk_mul, ← pk_mul] at e3
          have e4 : nI (cks (wth σ p g) 18) = nI (cks σ 18) + nI (wt p) * nI g - nI (wt p) * nI (σ p) := by rw [← e3, Int32.add_sub_cancel]
          rw [e4, Int32.mul_sub, Int32.sub_eq_add_neg, Int32.sub_eq_add_neg, Int32.add_assoc]
        rw [nI_clamp (show p < 2 ^ 31 by omega), wt_at p hp, ec, show (10 : Int32) = nI 10 from rfl, jrem_nI (by omega) (by decide) (by decide), show (0 : Int32) = nI 0 from rfl, nI_eq (by have := stg_le (wth σ p g) 18; omega) (by decide), nI_eq (by omega) (by decide)]
        exact ⟨fun q => ⟨rfl, h0 (fun z => q (by rw [ey]; exact z.2.1))⟩, fun q => ⟨vp_in_nI hp (by decide), fun r => ⟨rfl, h0 (fun z => r z.2.2)⟩, fun r => ⟨rfl, h1 ⟨e, by rw [← ey]; exact q, r⟩⟩⟩⟩
      refine s_belongs hp hsp (fun b2 => ?_) (fun b2 => ?_)
      · rw [if_pos b2] at e1
        refine ⟨fun q => absurd q (by decide), fun _ => fin _ (by omega)⟩
      · rw [if_neg b2] at e1
        refine ⟨fun _ => ?_, fun q => absurd rfl q⟩
        rw [show (1 : Int32) = nI 1 from rfl, pk_sub (by omega)]
        exact fin _ (by omega)
    · refine ⟨fun q => absurd rfl q, fun _ => ?_⟩
      unfold p_X3_isOther_J20
      refine ⟨rfl, h0 (fun z => b ?_)⟩
      have := ft_bl z.2 p hp
      rw [show wth σ p g p = g from if_pos rfl] at this
      exact this
