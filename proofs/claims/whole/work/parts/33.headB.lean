/-- sums of the first n -/
def sm (f : Nat → Nat) : Nat → Nat
  | 0 => 0
  | n + 1 => sm f n + f n
theorem sm_le {f : Nat → Nat} {M : Nat} : ∀ n, (∀ k, k < n → f k ≤ M) → sm f n ≤ n * M := by
  intro n
  induction n with
  | zero => intro _; simp [sm]
  | succ n ih =>
    intro h
    have h1 := ih (fun k hk => h k (by omega))
    have h2 := h n (by omega)
    show sm f n + f n ≤ _
    rw [Nat.succ_mul]; omega
/-- how far apart -/
def ad (a b : Nat) : Nat := (a - b) + (b - a)
theorem jabs_nI {a b : Nat} (ha : a < 2 ^ 30) (hb : b < 2 ^ 30) : jabs (nI a - nI b) = nI (ad a b) := by
  unfold jabs ad
  have e := pk_sub_toInt ha hb
  by_cases h : b ≤ a
  · rw [if_pos (by rw [Int32.le_iff_toInt_le, e]; show (0 : Int) ≤ _; omega), pk_sub h]
    exact congrArg nI (by omega)
  · rw [if_neg (by rw [Int32.le_iff_toInt_le, e]; show ¬ (0 : Int) ≤ _; omega)]
    have e2 : nI b - nI a = nI (b - a) := pk_sub (by omega)
    have e3 : (0 : Int32) - (nI a - nI b) = nI b - nI a := by
      apply Int32.toInt_inj.mp
      rw [Int32.toInt_sub, e, pk_sub_toInt hb ha]
      show Int.bmod (0 - _) _ = _
      rw [show (0 : Int) - ((a : Int) - b) = (b : Int) - a by omega]
      exact Int.bmod_eq_of_le (by omega) (by omega)
    rw [e3, e2]
    exact congrArg nI (by omega)
/-- the costs as a table: all up to the n-th place -/
def cok (a : Nat → Int32) (C : Nat → Nat → Nat → Nat) (n : Nat) : Prop := ∀ p g v, g < 12 → v < 9 → (p * 12 + g) * 9 + v < n → a ((p * 12 + g) * 9 + v) = nI (C p g v)
theorem cok.at {a : Nat → Int32} {C : Nat → Nat → Nat → Nat} {n m : Nat} (h : cok a C n) (e : m = n) : cok a C m := e ▸ h
theorem cok.step {a : Nat → Int32} {C : Nat → Nat → Nat → Nat} {p g v : Nat} (hg : g < 12) (hv : v < 9) (h : cok a C ((p * 12 + g) * 9 + v)) : cok (upd a ((p * 12 + g) * 9 + v) (nI (C p g v))) C ((p * 12 + g) * 9 + v + 1) := by
  intro p' g' v' hg' hv' hn
  by_cases e : (p' * 12 + g') * 9 + v' = (p * 12 + g) * 9 + v
  · obtain ⟨rfl, rfl, rfl⟩ : p' = p ∧ g' = g ∧ v' = v := by omega
    exact pk_us
  · rw [pk_un e]
    exact h p' g' v' hg' hv' (by omega)
theorem s_allowAt {costs here : Nat → Int32} {c : Nat → Nat} {p g : Nat} (hp : p < 20) (hg : g < 12) (hc : ∀ v, v < 9 → costs ((p * 12 + g) * 9 + v) = nI (c v)) {Q : (Nat → Int32) → Prop} (hQ : ∀ h', (∀ v, v < 9 → h' (p * 9 + v) = nI (c v)) → (∀ k, (k < p * 9 ∨ p * 9 + 9 ≤ k) → h' k = here k) → Q h') : p_X1_allowAt costs here (nI p) (nI g) Q := by
  unfold p_X1_allowAt
  refine wf2_0 (N := 9) (I := fun k a => (∀ v, v < k → a (p * 9 + v) = nI (c v)) ∧ (∀ j, (j < p * 9 ∨ p * 9 + k ≤ j) → a j = here j)) ?_ ?_ 0 here (Nat.zero_le _) ⟨fun v hv => absurd hv (Nat.not_lt_zero _), fun _ _ => rfl⟩
  · intro R a ha
    unfold p_X1_allowAt_B2
    exact ⟨fun _ => hQ a ha.1 ha.2, fun q => absurd (by decide) q⟩
  · intro R k a hk ha hR
    unfold p_X1_allowAt_B2
    refine pk_le 9 k (fun q => by omega) (fun _ => ?_)
    refine s_rowOf ?_
    rw [show (9 : Int32) = nI 9 from rfl, pk_mul]
    refine ⟨in2 (by omega) (by decide), in2 (by omega) (by decide), ?_⟩
    rw [cl2 (by omega), cl2 (by omega), hc k hk]
    refine hR _ ⟨fun v hv => ?_, fun j hj => ?_⟩
    · by_cases e : v = k
      · subst e; exact pk_us
      · rw [pk_un (by omega)]; exact ha.1 v (by omega)
    · rw [pk_un (by omega)]; exact ha.2 j (by omega)
theorem s_allowOnly {costs here signs : Nat → Int32} {C : Nat → Nat → Nat → Nat} {σ : Nat → Nat} {P : Nat} (hP : P ≤ 20) (hc : cok costs C (P * 108)) (hs : ∀ p, p < P → signs p = nI (σ p) ∧ σ p < 12) {Q : (Nat → Int32) → Prop} (hQ : ∀ h', (∀ p v, p < P → v < 9 → h' (p * 9 + v) = nI (C p (σ p) v)) → Q h') : p_X1_allowOnly (nI P) costs here signs Q := by
  unfold p_X1_allowOnly
  refine wf2_0 (N := P) (I := fun k a => ∀ p v, p < k → v < 9 → a (p * 9 + v) = nI (C p (σ p) v)) ?_ ?_ 0 here (Nat.zero_le _) (fun p v hp => absurd hp (Nat.not_lt_zero _))
  · intro R a ha
    unfold p_X1_allowOnly_B2
    exact ⟨fun _ => hQ a ha, fun q => absurd ((nI_leI (by omega) (by omega)).mpr (Nat.le_refl _)) q⟩
  · intro R k a hk ha hR
    unfold p_X1_allowOnly_B2
    refine pk_le P k (fun q => by omega) (fun _ => ?_)
    refine ⟨vp_in_nI (by omega) (by decide), ?_⟩
    rw [nI_clamp (show k < 2 ^ 31 by omega), (hs k hk).1]
    have hg := (hs k hk).2
    refine s_allowAt (c := C k (σ k)) (by omega) hg (fun v hv => hc k (σ k) v hg hv (by omega)) (fun h' h1 h2 => hR h' (fun p v hp hv => ?_))
    by_cases e : p = k
    · subst e; exact h1 v hv
    · rw [h2 _ (by omega)]; exact ha p v (by omega) hv
/-- the row of SIGNS but for one place -/
def wth (σ : Nat → Nat) (place sign : Nat) : Nat → Nat := fun p => if p = place then sign else σ p
/-- the least cost with these SIGNS -/
def lw (C : Nat → Nat → Nat → Nat) (σ : Nat → Nat) (P : Nat) : Nat := mn (fun v => C 0 (σ 0) v + bk (fun p v => C p (σ p) v) (P - 1) 0 v) 8
theorem s_leastCostWith {costs here behind joined signs : Nat → Int32} {C : Nat → Nat → Nat → Nat} {σ : Nat → Nat} {P place sign : Nat} (hP : P ≤ 20) (hP0 : 0 < P) (hc : cok costs C (P * 108)) (hb : ∀ p g v, C p g v ≤ 1000) (hs : ∀ p, p < P → signs p = nI (σ p) ∧ σ p < 12) (hpl : place < P) (hsg : sign < 12) {Q : Int32 → (Nat → Int32) → (Nat → Int32) → (Nat → Int32) → Prop} (hQ : ∀ b h j, Q (nI (lw C (wth σ place sign) P)) b h j) : p_X1_leastCostWith (nI P) behind costs here joined signs (nI place) (nI sign) Q := by
  unfold p_X1_leastCostWith
  refine s_allowOnly hP hc hs (fun h' h1 => ?_)
  refine s_allowAt (c := C place sign) (by omega) hsg (fun v hv => hc place sign v hsg hv (by omega)) (fun h2 h3 h4 => ?_)
  have hh : ∀ p v, p < P → v < 9 → h2 (p * 9 + v) = nI (C p (wth σ place sign p) v) := by
    intro p v hp hv
    unfold wth
    by_cases e : p = place
    · subst e; rw [if_pos rfl]; exact h3 v hv
    · rw [if_neg e, h4 _ (by omega)]; exact h1 p v hp hv
  refine s_sumEnd (h := fun p v => C p (wth σ place sign p) v) hP hh (fun p v _ _ => hb _ _ _) (fun b' j' h5 => ?_)
  refine s_leastCost (h := fun v => C 0 (wth σ place sign 0) v) (b := fun v => bk (fun p v => C p (wth σ place sign p) v) (P - 1) 0 v) (fun v hv => ?_) (fun v hv => ?_) (fun v hv => ?_) ?_
  · have := hh 0 v hP0 hv; rw [Nat.zero_mul, Nat.zero_add] at this; exact this
  · have := h5 0 v hP0 hv; rw [Nat.zero_mul, Nat.zero_add] at this; exact this
  · have h6 := bk_le (h := fun p v => C p (wth σ place sign p) v) (P := P) (M := 1000) (fun p v _ _ => hb _ _ _) (P - 1) 0 v (by omega) hv
    have h7 : (P - 1) * 1000 ≤ 20 * 1000 := Nat.mul_le_mul_right _ (by omega)
    have h8 := hb 0 (wth σ place sign 0) v
    omega
  · exact hQ b' h2 j'
theorem s_distance {laid widths : Nat → Int32} {t w : Nat → Nat} {p g sp : Nat} (hp : p < 20) (hg : g < 12) (hsp : sp ≤ 12) (ht : ∀ i, i < 6 → laid (p * 6 + i) = nI (t i) ∧ t i ≤ 60) (hw : ∀ i, i < 6 → widths (g * 6 + i) = nI (w i) ∧ w i ≤ 9) {Q : Int32 → Prop} (hQ : Q (nI (sm (fun i => ad (t i) (sp * w i)) 6))) : p_X1_distance laid widths (nI p) (nI g) (nI sp) Q := by
  unfold p_X1_distance
  refine wf2_1 (N := 6) (I := fun k x => x = nI (sm (fun i => ad (t i) (sp * w i)) k)) ?_ ?_ 0 0 (Nat.zero_le _) rfl
  · intro R x hx
    unfold p_X1_distance_B6
    exact ⟨fun _ => by rw [hx]; exact hQ, fun q => absurd (by decide) q⟩
  · intro R k x hk hx hR
    unfold p_X1_distance_B6
    refine pk_le 6 k (fun q => by omega) (fun _ => ?_)
    rw [show (6 : Int32) = nI 6 from rfl, pk_mul, pk_mul]
    refine ⟨in2 (by omega) (by decide), in2 (by omega) (by decide), ?_⟩
    have h1 := (ht k hk).2
    have h2 : sp * w k ≤ 12 * 9 := Nat.mul_le_mul hsp (hw k hk).2
    rw [cl2 (by omega), cl2 (by omega), (ht k hk).1, (hw k hk).1, pk_mul, jabs_nI (by omega) (by omega), hx, nI_add]
    exact hR _ rfl
/-- the table of costs: ticks t of each place, widths w of each sign -/
def ct (t w : Nat → Nat) (p g v : Nat) : Nat := sm (fun i => ad (t (p * 6 + i)) ((4 + v) * w (g * 6 + i))) 6
theorem ct_le {t w : Nat → Nat} {p g v : Nat} (ht : ∀ i, t i ≤ 60) (hw : ∀ i, w i ≤ 9) (hv : v < 9) : ct t w p g v ≤ 1000 := by
  have h := sm_le (f := fun i => ad (t (p * 6 + i)) ((4 + v) * w (g * 6 + i))) (M := 108) 6 (fun k _ => by
    have h1 := ht (p * 6 + k)
    have h2 : (4 + v) * w (g * 6 + k) ≤ 12 * 9 := Nat.mul_le_mul (by omega) (hw _)
    simp only [ad]; omega)
  unfold ct; omega
theorem s_weigh {laid widths costs : Nat → Int32} {t w : Nat → Nat} {P : Nat} (hP : P ≤ 20) (ht : ∀ i, i < P * 6 → laid i = nI (t i)) (htb : ∀ i, t i ≤ 60) (hw : ∀ i, i < 72 → widths i = nI (w i)) (hwb : ∀ i, w i ≤ 9) {Q : (Nat → Int32) → Prop} (hQ : ∀ c', cok c' (ct t w) (P * 108) → Q c') : p_X1_weigh (nI P) costs laid widths Q := by
  unfold p_X1_weigh
  refine wf2_0 (N := P) (I := fun k a => cok a (ct t w) (k * 108)) ?_ ?_ 0 costs (Nat.zero_le _) (fun p g v _ _ h => by omega)
  · intro R a ha
    unfold p_X1_weigh_B2
    exact ⟨fun _ => hQ a ha, fun q => absurd ((nI_leI (by omega) (by omega)).mpr (Nat.le_refl _)) q⟩
  · intro R p a hp ha hR
    unfold p_X1_weigh_B2
    refine pk_le P p (fun q => by omega) (fun _ => ?_)
    refine wf2_0 (N := 12) (I := fun g a => cok a (ct t w) ((p * 12 + g) * 9)) ?_ ?_ 0 a (Nat.zero_le _) (ha.at (by omega))
    · intro R2 a2 ha2
      unfold p_X1_weigh_B12
      exact ⟨fun _ => hR a2 (ha2.at (by omega)), fun q => absurd (by decide) q⟩
    · intro R2 g a2 hg ha2 hR2
      unfold p_X1_weigh_B12
      refine pk_le 12 g (fun q => by omega) (fun _ => ?_)
      refine s_rowOf ?_
      refine wf2_0 (N := 9) (I := fun v a => cok a (ct t w) ((p * 12 + g) * 9 + v)) ?_ ?_ 0 a2 (Nat.zero_le _) (ha2.at (by omega))
      · intro R3 a3 ha3
        unfold p_X1_weigh_B28
        exact ⟨fun _ => hR2 a3 (ha3.at (by omega)), fun q => absurd (by decide) q⟩
      · intro R3 v a3 hv ha3 hR3
        unfold p_X1_weigh_B28
        refine pk_le 9 v (fun q => by omega) (fun _ => ?_)
        rw [show (4 : Int32) = nI 4 from rfl, nI_add]
        refine s_distance (t := fun i => t (p * 6 + i)) (w := fun i => w (g * 6 + i)) (by omega) hg (by omega) (fun i hi => ⟨ht _ (by omega), htb _⟩) (fun i hi => ⟨hw _ (by omega), hwb _⟩) ?_
        refine ⟨in2 (by omega) (by decide), ?_⟩
        rw [cl2 (by omega)]
        exact hR3 _ (cok.step hg hv ha3)
