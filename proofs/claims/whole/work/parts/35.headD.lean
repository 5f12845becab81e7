/-- the first of n from g on that gives L, or the one behind them -/
def ff (T : Nat → Nat) (L : Nat) : Nat → Nat → Nat
  | 0, g => g
  | n + 1, g => if T g = L then g else ff T L n (g + 1)
theorem ff_spec (T : Nat → Nat) (L : Nat) : ∀ (n g : Nat), g ≤ ff T L n g ∧ ff T L n g ≤ g + n ∧ (∀ j, g ≤ j → j < ff T L n g → T j ≠ L) ∧ (ff T L n g < g + n → T (ff T L n g) = L) := by
  intro n
  induction n with
  | zero => intro g; exact ⟨Nat.le_refl _, Nat.le_refl _, fun j h1 h2 => by have : ff T L 0 g = g := rfl; omega, fun h => by have : ff T L 0 g = g := rfl; omega⟩
  | succ n ih =>
    intro g
    by_cases e : T g = L
    · have e2 : ff T L (n + 1) g = g := if_pos e
      rw [e2]
      exact ⟨Nat.le_refl _, by omega, fun j h1 h2 => by omega, fun _ => e⟩
    · have e2 : ff T L (n + 1) g = ff T L n (g + 1) := if_neg e
      obtain ⟨h1, h2, h3, h4⟩ := ih (g + 1)
      rw [e2]
      refine ⟨by omega, by omega, fun j j1 j2 => ?_, fun h => h4 (by omega)⟩
      by_cases ej : j = g
      · subst ej; exact e
      · exact h3 j (by omega) j2
theorem ff_uniq {T : Nat → Nat} {L n g r : Nat} (h1 : g ≤ r) (h2 : r ≤ g + n) (h3 : ∀ j, g ≤ j → j < r → T j ≠ L) (h4 : T r = L) : ff T L n g = r := by
  obtain ⟨a1, a2, a3, a4⟩ := ff_spec T L n g
  rcases Nat.lt_trichotomy (ff T L n g) r with h | h | h
  · exact absurd (a4 (by omega)) (h3 _ a1 h)
  · exact h
  · exact absurd h4 (a3 r h1 h)
/-- the least cost through sign g at place p, with this row before it -/
def th (C : Nat → Nat → Nat → Nat) (h0 : Nat → Nat → Nat) (P : Nat) (row : Nat → Nat) (p g : Nat) : Nat := mn (fun v => row v + C p g v + bk h0 (P - 1 - p) p v) 8
/-- the row before place p as the picked signs give it -/
def pz (C : Nat → Nat → Nat → Nat) (h0 : Nat → Nat → Nat) (P L : Nat) : Nat → Nat → Nat
  | 0 => fun _ => 0
  | p + 1 => fun v => nr (fun w => pz C h0 P L p w + C p (ff (th C h0 P (pz C h0 P L p) p) L 11 0) w) v
def sg (C : Nat → Nat → Nat → Nat) (h0 : Nat → Nat → Nat) (P L p : Nat) : Nat := ff (th C h0 P (pz C h0 P L p) p) L 11 0
theorem sg_lt (C : Nat → Nat → Nat → Nat) (h0 : Nat → Nat → Nat) (P L p : Nat) : sg C h0 P L p < 12 := by
  have := (ff_spec (th C h0 P (pz C h0 P L p) p) L 11 0).2.1
  unfold sg; omega
theorem pz_le {C : Nat → Nat → Nat → Nat} {h0 : Nat → Nat → Nat} {P L M : Nat} (hb : ∀ p g v, v < 9 → C p g v ≤ M) : ∀ (p v : Nat), v < 9 → pz C h0 P L p v ≤ p * M := by
  intro p
  induction p with
  | zero => intro v _; simp [pz]
  | succ n ih =>
    intro v hv
    show nr (fun w => pz C h0 P L n w + C n (ff (th C h0 P (pz C h0 P L n) n) L 11 0) w) v ≤ _
    refine nr_le (fun k hk => ?_) hv
    have h1 := hb n (ff (th C h0 P (pz C h0 P L n) n) L 11 0) k hk
    have h2 := ih k hk
    rw [Nat.succ_mul]
    omega
theorem bk_le2 {h : Nat → Nat → Nat} {P M p v : Nat} (hP : P ≤ 20) (hh : ∀ p v, p < P → v < 9 → h p v ≤ M) (hp : p < P) (hv : v < 9) : bk h (P - 1 - p) p v ≤ 20 * M := Nat.le_trans (bk_le hh (P - 1 - p) p v (by omega) hv) (Nat.mul_le_mul_right _ (by omega))
theorem s_pickSigns {before behind costs joined signs : Nat → Int32} {C : Nat → Nat → Nat → Nat} {h0 : Nat → Nat → Nat} {P L : Nat} (hP : P ≤ 20) (hL : L < 2 ^ 31) (hc : cok costs C (P * 108)) (hb : ∀ p g v, v < 9 → C p g v ≤ 1000) (hh0 : ∀ p v, p < P → v < 9 → h0 p v ≤ 1000) (hd : ∀ p v, p < P → v < 9 → behind (p * 9 + v) = nI (bk h0 (P - 1 - p) p v)) {Q : (Nat → Int32) → (Nat → Int32) → (Nat → Int32) → Prop}
    (hQ : ∀ b' j' s', (∀ p, p < P → s' p = nI (sg C h0 P L p)) → Q b' j' s') : p_X1_pickSigns (nI P) before behind costs joined signs (nI L) Q := by
  unfold p_X1_pickSigns
  refine s_startWalk (fun b0 hb0 => ?_)
  refine wf4_0 (N := P) (I := fun k b _ s => (∀ v, v < 9 → b v = nI (pz C h0 P L k v)) ∧ (∀ p, p < k → s p = nI (sg C h0 P L p))) ?_ ?_ 0 b0 joined signs (Nat.zero_le _) ⟨hb0, fun p hp => absurd hp (Nat.not_lt_zero _)⟩
  · intro R b j s hI
    unfold p_X1_pickSigns_B6
    exact ⟨fun _ => hQ b j s hI.2, fun q => absurd ((nI_leI (by omega) (by omega)).mpr (Nat.le_refl _)) q⟩
  · intro R k b j s hk hI hR
    unfold p_X1_pickSigns_B6
    refine pk_le P k (fun q => by omega) (fun _ => ?_)
    have hpz : ∀ v, v < 9 → pz C h0 P L k v ≤ 20000 := fun v hv => Nat.le_trans (pz_le (M := 1000) hb k v hv) (by have : k * 1000 ≤ 20 * 1000 := Nat.mul_le_mul_right _ (by omega); omega)
    have hbk : ∀ v, v < 9 → bk h0 (P - 1 - k) k v ≤ 20000 := fun v hv => bk_le2 hP hh0 hk hv
    have hsg := sg_lt C h0 P L k
    have fin : ∀ g : Nat, g = sg C h0 P L k → (vp_in (nI k) 20 ∧ (p_X1_rowOf (nI k) (nI g) (fun r54 => p_X1_walkOn 2160 b j costs r54 (fun a_before_57 a_joined_57 => R (nI k + 1) a_before_57 a_joined_57 (upd s (Int32.toNatClampNeg (nI k)) (nI g)))))) := by
      intro g eg
      refine ⟨vp_in_nI (by omega) (by decide), ?_⟩
      refine s_rowOf ?_
      refine s_walkOn (b := pz C h0 P L k) (c := C k g) (by decide) (by omega) hI.1 (fun v hv => hc k g v (by omega) hv (by omega)) (fun v hv => ?_) (fun b' j' h1 => ?_)
      · have a1 := hpz v hv; have a2 := hb k g v hv; omega
      · rw [nI_clamp (show k < 2 ^ 31 by omega)]
        refine hR b' j' _ ⟨fun v hv => ?_, fun p hp => ?_⟩
        · rw [h1 v hv, eg]; rfl
        · by_cases e : p = k
          · subst e; rw [pk_us, eg]
          · rw [pk_un e]; exact hI.2 p (by omega)
    refine wf1_0 (N := 11) (I := fun g => ff (th C h0 P (pz C h0 P L k) k) L (11 - g) g = sg C h0 P L k) ?_ ?_ 0 (Nat.zero_le _) rfl
    · intro R' hg
      unfold p_X1_pickSigns_B17
      exact ⟨fun _ => fin 11 hg, fun q => absurd (by decide) q⟩
    · intro R' g hg hI' hR'
      unfold p_X1_pickSigns_B17
      refine pk_le 11 g (fun q => by omega) (fun _ => ?_)
      refine s_leastThrough (b := pz C h0 P L k) (c := C k g) (d := fun v => bk h0 (P - 1 - k) k v) (by omega) (by omega) hI.1 (fun v hv => hc k g v (by omega) hv (by omega)) (fun v hv => hd k v hk hv) (fun v hv => ?_) ?_
      · have a1 := hpz v hv; have a2 := hb k g v hv; have a3 := hbk v hv; omega
      · have hm : mn (fun v => pz C h0 P L k v + C k g v + bk h0 (P - 1 - k) k v) 8 < 2 ^ 31 := Nat.lt_of_le_of_lt (mn_lb 8 0 (by decide)) (by have a1 := hpz 0 (by decide); have a2 := hb k g 0 (by decide); have a3 := hbk 0 (by decide); omega)
        have e11 : 11 - g = (11 - (g + 1)) + 1 := by omega
        rw [e11] at hI'
        refine pk_eq _ L (fun e => ?_) (fun e => ?_) rfl rfl hm hL
        · refine fin g ?_
          rw [← hI']
          exact (if_pos e).symm
        · refine hR' ?_
          rw [← hI']
          exact (if_neg e).symm
/-- the least of T over g < n but s, and a -/
def gi (T : Nat → Nat) (s a : Nat) : Nat → Nat
  | 0 => a
  | g + 1 => if g = s then gi T s a g else min (gi T s a g) (T g)
def gq (T : Nat → Nat → Nat) (σ : Nat → Nat) (a : Nat) : Nat → Nat
  | 0 => a
  | p + 1 => gi (T p) (σ p) (gq T σ a p) 12
theorem gi_min (T : Nat → Nat) (s a c : Nat) : ∀ n, gi T s (min a c) n = min a (gi T s c n) := by
  intro n
  induction n with
  | zero => rfl
  | succ n ih =>
    show (if n = s then _ else _) = min a (if n = s then _ else _)
    by_cases e : n = s
    · rw [if_pos e, if_pos e, ih]
    · rw [if_neg e, if_neg e, ih]; omega
theorem gq_min (T : Nat → Nat → Nat) (σ : Nat → Nat) (a c : Nat) : ∀ n, gq T σ (min a c) n = min a (gq T σ c n) := by
  intro n
  induction n with
  | zero => rfl
  | succ n ih =>
    show gi (T n) (σ n) _ 12 = min a (gi (T n) (σ n) _ 12)
    rw [ih, gi_min]
theorem gi_le (T : Nat → Nat) (s a : Nat) : ∀ n, gi T s a n ≤ a ∧ ∀ g, g < n → g ≠ s → gi T s a n ≤ T g := by
  intro n
  induction n with
  | zero => exact ⟨Nat.le_refl _, fun g hg => absurd hg (Nat.not_lt_zero _)⟩
  | succ n ih =>
    show (if n = s then _ else _) ≤ a ∧ ∀ g, g < n + 1 → g ≠ s → (if n = s then _ else _) ≤ T g
    by_cases e : n = s
    · rw [if_pos e]
      exact ⟨ih.1, fun g hg hs => ih.2 g (by omega) hs⟩
    · rw [if_neg e]
      refine ⟨by have := ih.1; omega, fun g hg hs => ?_⟩
      by_cases eg : g = n
      · subst eg; omega
      · have := ih.2 g (by omega) hs; omega
theorem gq_le (T : Nat → Nat → Nat) (σ : Nat → Nat) (a : Nat) : ∀ n, gq T σ a n ≤ a ∧ ∀ p g, p < n → g < 12 → g ≠ σ p → gq T σ a n ≤ T p g := by
  intro n
  induction n with
  | zero => exact ⟨Nat.le_refl _, fun p g hp => absurd hp (Nat.not_lt_zero _)⟩
  | succ n ih =>
    have h := gi_le (T n) (σ n) (gq T σ a n) 12
    refine ⟨Nat.le_trans h.1 ih.1, fun p g hp hg hs => ?_⟩
    by_cases e : p = n
    · subst e; exact h.2 g hg hs
    · exact Nat.le_trans h.1 (ih.2 p g (by omega) hg hs)
theorem s_leastCostBeside {before behind costs here joined signs : Nat → Int32} {C : Nat → Nat → Nat → Nat} {h0 : Nat → Nat → Nat} {σ : Nat → Nat} {P : Nat} (hP : P ≤ 20) (hc : cok costs C (P * 108)) (hb : ∀ p g v, v < 9 → C p g v ≤ 1000) (hh0 : ∀ p v, p < P → v < 9 → h0 p v ≤ 1000) (hh : ∀ p v, p < P → v < 9 → here (p * 9 + v) = nI (h0 p v)) (hd : ∀ p v, p < P → v < 9 → behind (p * 9 + v) = nI (bk h0 (P - 1 - p) p v)) (hs : ∀ p, p < P → signs p = nI (σ p) ∧ σ p < 12) {Q : Int32 → (Nat → Int32) → (Nat → Int32) → Prop}
    (hQ : ∀ b' j', Q (nI (gq (fun p g => th C h0 P (fw h0 p) p g) σ 7201 P)) b' j') : p_X1_leastCostBeside (nI P) before behind costs here joined signs Q := by
  unfold p_X1_leastCostBeside
  refine s_startWalk (fun b0 hb0 => ?_)
  refine wf4_1 (N := P) (I := fun k x b _ => x = nI (gq (fun p g => th C h0 P (fw h0 p) p g) σ 7201 k) ∧ (∀ v, v < 9 → b v = nI (fw h0 k v))) ?_ ?_ 0 7201 b0 joined (Nat.zero_le _) ⟨rfl, hb0⟩
  · intro R x b j hI
    unfold p_X1_leastCostBeside_B10
    refine ⟨fun _ => ?_, fun q => absurd ((nI_leI (by omega) (by omega)).mpr (Nat.le_refl _)) q⟩
    rw [hI.1]; exact hQ b j
  · intro R k x b j hk hI hR
    unfold p_X1_leastCostBeside_B10
    refine pk_le P k (fun q => by omega) (fun _ => ?_)
    have hfw : ∀ v, v < 9 → fw h0 k v ≤ 20000 := fun v hv => Nat.le_trans (fw_le (P := P) (M := 1000) hh0 k v (by omega) hv) (by have : k * 1000 ≤ 20 * 1000 := Nat.mul_le_mul_right _ (by omega); omega)
    have hbk : ∀ v, v < 9 → bk h0 (P - 1 - k) k v ≤ 20000 := fun v hv => bk_le2 hP hh0 hk hv
    have ha : gq (fun p g => th C h0 P (fw h0 p) p g) σ 7201 k ≤ 7201 := (gq_le _ σ 7201 k).1
    refine wf2_1 (N := 12) (I := fun g y => y = nI (gi (fun g => th C h0 P (fw h0 k) k g) (σ k) (gq (fun p g => th C h0 P (fw h0 p) p g) σ 7201 k) g)) ?_ ?_ 0 x (Nat.zero_le _) hI.1
    · intro R2 y hy
      unfold p_X1_leastCostBeside_B21
      refine ⟨fun _ => ?_, fun q => absurd (by decide) q⟩
      rw [show (9 : Int32) = nI 9 from rfl, pk_mul]
      refine s_walkOn (b := fw h0 k) (c := h0 k) (by decide) (by omega) hI.2 (fun v hv => hh k v hk hv) (fun v hv => ?_) (fun b' j' h1 => ?_)
      · have a1 := hfw v hv; have a2 := hh0 k v hk hv; omega
      · exact hR y b' j' ⟨hy, h1⟩
    · intro R2 g y hg hy hR2
      unfold p_X1_leastCostBeside_B21
      refine pk_le 12 g (fun q => by omega) (fun _ => ?_)
      refine ⟨vp_in_nI (by omega) (by decide), ?_⟩
      rw [nI_clamp (show k < 2 ^ 31 by omega), (hs k hk).1]
      have hsk := (hs k hk).2
      refine pk_eq g (σ k) (fun e => ?_) (fun e => ?_)
      · unfold p_X1_leastCostBeside_J48
        refine hR2 y ?_
        rw [hy]
        exact congrArg nI (if_pos e).symm
      · refine s_leastThrough (b := fw h0 k) (c := C k g) (d := fun v => bk h0 (P - 1 - k) k v) (by omega) (by omega) hI.2 (fun v hv => hc k g v (by omega) hv (by omega)) (fun v hv => hd k v hk hv) (fun v hv => ?_) ?_
        · have a1 := hfw v hv; have a2 := hb k g v hv; have a3 := hbk v hv; omega
        · unfold p_X1_leastCostBeside_J48
          have hm : mn (fun v => fw h0 k v + C k g v + bk h0 (P - 1 - k) k v) 8 < 2 ^ 31 := Nat.lt_of_le_of_lt (mn_lb 8 0 (by decide)) (by have a1 := hfw 0 (by decide); have a2 := hb k g 0 (by decide); have a3 := hbk 0 (by decide); omega)
          have hg1 := (gi_le (fun g => th C h0 P (fw h0 k) k g) (σ k) (gq (fun p g => th C h0 P (fw h0 p) p g) σ 7201 k) g).1
          rw [hy, jmin_nI (by omega) hm]
          refine hR2 _ ?_
          exact congrArg nI (if_neg e).symm
