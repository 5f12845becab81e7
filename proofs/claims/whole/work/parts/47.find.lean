/-! counting and finding the OTHERS -/
def isOb (σ : Nat → Nat) (p g : Nat) : Bool := decide (g ≠ σ p ∧ (stg (wth σ p g) 18 = 0 ∧ cks (wth σ p g) 18 % 10 = 0))
theorem isOb_iff {σ : Nat → Nat} {p g : Nat} : isOb σ p g = true ↔ isO σ p g := by unfold isOb; rw [decide_eq_true_iff]; exact Iff.rfl
def oc (σ : Nat → Nat) (n : Nat) : Nat := sm (fun c => if isOb σ (c / 12) (c % 12) = true then 1 else 0) n
theorem oc_pg (σ : Nat → Nat) {p g : Nat} (hg : g < 12) : oc σ (p * 12 + (g + 1)) = oc σ (p * 12 + g) + if isOb σ p g = true then 1 else 0 := by
  have e : oc σ (p * 12 + (g + 1)) = oc σ (p * 12 + g) + if isOb σ ((p * 12 + g) / 12) ((p * 12 + g) % 12) = true then 1 else 0 := rfl
  rw [e, show (p * 12 + g) / 12 = p by omega, show (p * 12 + g) % 12 = g by omega]
theorem oc_le (σ : Nat → Nat) (n : Nat) : oc σ n ≤ n := by
  have := sm_le (f := fun c => if isOb σ (c / 12) (c % 12) = true then 1 else 0) (M := 1) n (fun k _ => by show (if _ then 1 else 0) ≤ 1; split <;> omega)
  unfold oc; omega
theorem oc_mono (σ : Nat → Nat) {m n : Nat} (h : m ≤ n) : oc σ m ≤ oc σ n := by
  induction n with
  | zero => obtain rfl : m = 0 := by omega
            exact Nat.le_refl _
  | succ n ih =>
    by_cases e : m = n + 1
    · rw [e]; exact Nat.le_refl _
    · exact Nat.le_trans (ih (by omega)) (Nat.le_add_right _ _)
theorem oc_uniq {σ : Nat → Nat} {p g p2 g2 : Nat} (hg : g < 12) (hg2 : g2 < 12) (h1 : isO σ p g) (h2 : isO σ p2 g2) (e : oc σ (p * 12 + g) = oc σ (p2 * 12 + g2)) : p = p2 ∧ g = g2 := by
  have a1 := oc_pg σ (p := p) hg
  have a2 := oc_pg σ (p := p2) hg2
  rw [if_pos (isOb_iff.mpr h1)] at a1
  rw [if_pos (isOb_iff.mpr h2)] at a2
  rcases Nat.lt_trichotomy (p * 12 + g) (p2 * 12 + g2) with c | c | c
  · have := oc_mono σ (m := p * 12 + (g + 1)) (n := p2 * 12 + g2) (by omega)
    omega
  · omega
  · have := oc_mono σ (m := p2 * 12 + (g2 + 1)) (n := p * 12 + g) (by omega)
    omega
theorem s_countOthers {signs : Nat → Int32} {σ : Nat → Nat} {P : Nat} {st ch : Int32} (hP : P ≤ 20) (hs : P = 18 → ∀ q, q < 18 → signs q = nI (σ q) ∧ σ q < 12) (hst : P = 18 → st = nI (stg σ 18)) (hch : P = 18 → ch = nI (cks σ 18)) {Q : Int32 → Prop} (h1 : P = 18 → Q (nI (oc σ 216))) (h0 : P ≠ 18 → Q 0) : p_X3_countOthers (nI P) st ch signs Q := by
  unfold p_X3_countOthers
  refine s_isLong (by omega) (fun e => ?_) (fun e => ⟨fun q => absurd rfl q, fun _ => h0 e⟩)
  refine ⟨fun _ => ?_, fun q => absurd q (by decide)⟩
  rw [hst e, hch e]
  have hs := hs e
  refine wf2_1 (N := 18) (I := fun p v => v = nI (oc σ (p * 12))) ?_ ?_ 0 0 (Nat.zero_le _) rfl
  · intro R v hI
    unfold p_X3_countOthers_B13
    exact ⟨fun _ => by rw [hI]; exact h1 e, fun q => absurd (by decide) q⟩
  · intro R p v hp hI hR
    unfold p_X3_countOthers_B13
    refine pk_le 18 p (fun q => by omega) (fun _ => ?_)
    refine wf2_1 (N := 12) (I := fun g v => v = nI (oc σ (p * 12 + g))) ?_ ?_ 0 v (Nat.zero_le _) hI
    · intro R2 v2 hI2
      unfold p_X3_countOthers_B21
      refine ⟨fun _ => ?_, fun q => absurd (by decide) q⟩
      exact hR _ (by rw [hI2, show (p + 1) * 12 = p * 12 + 12 by omega])
    · intro R2 g v2 hg hI2 hR2
      unfold p_X3_countOthers_B21 p_X3_countOthers_J39
      refine pk_le 12 g (fun q => by omega) (fun _ => ?_)
      have eo := oc_pg σ (p := p) hg
      refine s_isOther hp hg hs (fun b => ?_) (fun b => ?_)
      · refine ⟨fun q => absurd q (by decide), fun _ => ?_⟩
        rw [if_pos (isOb_iff.mpr b)] at eo
        exact hR2 _ (by rw [eo, hI2, nI_1])
      · refine ⟨fun _ => ?_, fun q => absurd rfl q⟩
        rw [if_neg (fun y => b (isOb_iff.mp y))] at eo
        exact hR2 _ (by rw [eo, hI2]; rfl)
theorem s_findOther {signs : Nat → Int32} {σ : Nat → Nat} {P : Nat} {st ch k : Int32} (hP : P ≤ 20) (hs : P = 18 → ∀ q, q < 18 → signs q = nI (σ q) ∧ σ q < 12) (hst : P = 18 → st = nI (stg σ 18)) (hch : P = 18 → ch = nI (cks σ 18)) {Q : Int32 → Prop} (h1 : ∀ kk p g, P = 18 → k = nI kk → kk < 2 ^ 31 → p < 18 → g < 12 → isO σ p g → oc σ (p * 12 + g) = kk → Q (nI (p * 12 + g))) (h0 : (∀ kk, P = 18 → k = nI kk → kk < 2 ^ 31 → oc σ 216 ≤ kk) → Q (-1)) : p_X3_findOther (nI P) st ch signs k Q := by
  unfold p_X3_findOther p_X3_findOther_J11
  refine s_isLong (by omega) (fun e => ?_) (fun e => ⟨fun _ => h0 (fun _ e2 => absurd e2 e), fun q => absurd rfl q⟩)
  refine ⟨fun q => absurd q (by decide), fun _ => ?_⟩
  have hs := hs e
  refine ⟨fun q => ?_, fun q => h0 (fun kk _ e2 hk => absurd (by rw [e2]; exact nI_pos' hk) q)⟩
  obtain ⟨kk, hkk, rfl⟩ := nI_of (x := k) (by rw [Int32.not_lt]; exact q)
  rw [hst e, hch e]
  refine wf2_1 (N := 18) (I := fun p v => v = nI (kk - oc σ (p * 12)) ∧ oc σ (p * 12) ≤ kk) ?_ ?_ 0 (nI kk) (Nat.zero_le _) ⟨rfl, Nat.zero_le _⟩
  · intro R v hI
    unfold p_X3_findOther_B17
    refine ⟨fun _ => h0 (fun k2 _ e2 hk => ?_), fun q => absurd (by decide) q⟩
    rw [nI_eq hkk hk] at e2
    have : oc σ 216 ≤ kk := hI.2
    omega
  · intro R p v hp hI hR
    unfold p_X3_findOther_B17
    refine pk_le 18 p (fun q => by omega) (fun _ => ?_)
    refine wf2_1 (N := 12) (I := fun g v => v = nI (kk - oc σ (p * 12 + g)) ∧ oc σ (p * 12 + g) ≤ kk) ?_ ?_ 0 v (Nat.zero_le _) hI
    · intro R2 v2 hI2
      unfold p_X3_findOther_B26
      refine ⟨fun _ => ?_, fun q => absurd (by decide) q⟩
      have ee : (p + 1) * 12 = p * 12 + 12 := by omega
      exact hR _ ⟨by rw [hI2.1, ee], by rw [ee]; exact hI2.2⟩
    · intro R2 g v2 hg hI2 hR2
      unfold p_X3_findOther_B26 p_X3_findOther_J58
      refine pk_le 12 g (fun q => by omega) (fun _ => ?_)
      have eo := oc_pg σ (p := p) hg
      obtain ⟨i1, i2⟩ := hI2
      refine s_isOther hp hg hs (fun b => ?_) (fun b => ?_)
      · refine ⟨fun q => absurd q (by decide), fun _ => ?_⟩
        rw [if_pos (isOb_iff.mpr b)] at eo
        rw [i1]
        refine (pk_eq (kk - oc σ (p * 12 + g)) 0 (fun z => ?_) (fun z => ?_)).symm
        · rw [show (12 : Int32) = nI 12 from rfl, pk_mul, nI_add]
          exact h1 kk p g e rfl hkk hp hg b (by omega)
        · refine hR2 _ ⟨?_, by rw [eo]; omega⟩
          rw [eo, show kk - oc σ (p * 12 + g) = (kk - (oc σ (p * 12 + g) + 1)) + 1 by omega, pk_m1]
      · refine ⟨fun _ => ?_, fun q => absurd rfl q⟩
        rw [if_neg (fun y => b (isOb_iff.mp y))] at eo
        exact hR2 _ ⟨by rw [eo, i1]; rfl, by rw [eo]; exact i2⟩
theorem upd_back (f : Nat → Int32) (k : Nat) (x y : Int32) (h : f k = y) : upd (upd f k x) k y = f := by
  funext j
  by_cases e : j = k
  · rw [e, pk_us, h]
  · rw [pk_un e, pk_un e]
theorem s_finds {signs : Nat → Int32} {σ : Nat → Nat} {P kk : Nat} {ir rp op os : Int32} (hrp : rp = nI P) (hP : P ≤ 20) (hir : ir = 0 ∨ ir = 1) (hk : kk ≤ 1000) (hs : ir = 1 → P = 18 → ∀ q, q < 18 → signs q = nI (σ q) ∧ σ q < 12) {Q : Int32 → Int32 → Int32 → (Nat → Int32) → Prop} (h1 : ∀ p g, ir = 1 → P = 18 → p < 18 → g < 12 → isO σ p g → oc σ (p * 12 + g) = kk → Q (nI (kk + 1)) (nI p) (nI g) signs) (h2 : ∀ op' os', ir = 1 → P = 18 → oc σ 216 ≤ kk → Q (nI (oc σ 216)) op' os' signs) (h0 : ¬ (ir = 1 ∧ P = 18) → Q 0 op os signs) : p_X6_finds rp ir op os signs (nI kk) Q := by
  unfold p_X6_finds p_X6_finds_J18
  rcases hir with e | e
  · subst e
    exact ⟨fun _ => h0 (fun z => absurd z.1 (by decide)), fun q => absurd rfl q⟩
  refine ⟨fun q => absurd (e.symm.trans q) (by decide), fun _ => ?_⟩
  rw [hrp]
  refine pk_eq P 18 (fun e2 => ?_) (fun e2 => h0 (fun z => e2 z.2))
  have hs := hs e e2
  refine wf5_1 (N := 18) (I := fun p v _ _ a => v = nI (oc σ (p * 12)) ∧ oc σ (p * 12) ≤ kk ∧ a = signs) ?_ ?_ 0 0 op os signs (Nat.zero_le _) ⟨rfl, Nat.zero_le _, rfl⟩
  · intro R v o1 o2 a hI
    unfold p_X6_finds_B22
    refine ⟨fun _ => ?_, fun q => absurd (by decide) q⟩
    rw [hI.1, hI.2.2]
    exact h2 _ _ e e2 hI.2.1
  · intro R p v o1 o2 a hp hI hR
    unfold p_X6_finds_B22
    refine pk_le 18 p (fun q => by omega) (fun _ => ?_)
    obtain ⟨i1, i2, rfl⟩ := hI
    refine ⟨vp_in_nI (by omega) (by decide), ?_⟩
    rw [nI_clamp (show p < 2 ^ 31 by omega), (hs p hp).1]
    have hsp := (hs p hp).2
    refine wf5_1 (N := 12) (I := fun g v _ _ b => v = nI (oc σ (p * 12 + g)) ∧ oc σ (p * 12 + g) ≤ kk ∧ b = a) ?_ ?_ 0 v o1 o2 a (Nat.zero_le _) ⟨i1, i2, rfl⟩
    · intro R2 v2 p1 p2 b hI2
      unfold p_X6_finds_B39
      refine ⟨fun _ => ?_, fun q => absurd (by decide) q⟩
      have ee : (p + 1) * 12 = p * 12 + 12 := by omega
      exact hR _ _ _ _ ⟨by rw [hI2.1, ee], by rw [ee]; exact hI2.2.1, hI2.2.2⟩
    · intro R2 g v2 p1 p2 b hg hI2 hR2
      unfold p_X6_finds_B39 p_X6_finds_J109
      refine pk_le 12 g (fun q => by omega) (fun _ => ?_)
      have eo := oc_pg σ (p := p) hg
      obtain ⟨j1, j2, rfl⟩ := hI2
      have hoc := oc_le σ (p * 12 + g)
      refine (pk_eq g (σ p) (fun z => ?_) (fun z => ?_)).symm
      · rw [if_neg (fun y => (isOb_iff.mp y).1 z)] at eo
        exact hR2 _ _ _ _ ⟨by rw [eo, j1]; rfl, by rw [eo]; exact j2, rfl⟩
      · refine ⟨vp_in_nI (by omega) (by decide), ?_⟩
        rw [nI_clamp (show p < 2 ^ 31 by omega), upd_back _ _ _ _ (hs p hp).1]
        have hs2 : ∀ q, q < 18 → upd b p (nI g) q = nI (wth σ p g q) ∧ wth σ p g q < 12 := by
          intro q hq
          unfold wth
          by_cases y : q = p
          · subst y; rw [pk_us, if_pos rfl]; exact ⟨rfl, hg⟩
          · rw [pk_un y, if_neg y]; exact hs q hq
        refine s_fitsR (σ := wth σ p g) rfl hP (Or.inr e) (fun _ _ => hs2) (fun _ _ f => ?_) (fun f => ?_)
        · rw [if_pos (isOb_iff.mpr ⟨z, f⟩)] at eo
          refine ⟨vp_in_nI (by omega) (by decide), fun _ => ?_, fun q => absurd q (by decide)⟩
          rw [j1, nI_1, nI_1]
          refine (pk_eq (oc σ (p * 12 + g) + 1) (kk + 1) (fun y => ?_) (fun y => ?_) rfl rfl (by omega) (by omega)).symm
          · rw [y]; exact h1 p g e e2 hp hg ⟨z, f⟩ (by omega)
          · exact hR2 _ _ _ _ ⟨by rw [eo], by rw [eo]; omega, rfl⟩
        · rw [if_neg (fun y => f ⟨e, e2, (isOb_iff.mp y).2⟩)] at eo
          refine ⟨vp_in_nI (by omega) (by decide), fun q => absurd rfl q, fun _ => ?_⟩
          exact hR2 _ _ _ _ ⟨by rw [eo, j1]; rfl, by rw [eo]; exact j2, rfl⟩
