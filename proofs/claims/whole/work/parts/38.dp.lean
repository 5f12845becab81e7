/-! forward and backward sums agree; the picks exist -/
theorem fb {h : Nat → Nat → Nat} {P : Nat} : ∀ p, p < P → mn (fun v => fw h p v + h p v + bk h (P - 1 - p) p v) 8 = mn (fun v => h 0 v + bk h (P - 1) 0 v) 8 := by
  intro p
  induction p with
  | zero => intro _; exact mn_congr 8 (fun v _ => by show 0 + _ + _ = _; rw [Nat.zero_add, Nat.sub_zero])
  | succ p ih =>
    intro hp
    rw [← ih (by omega)]
    have e : P - 1 - p = (P - 1 - (p + 1)) + 1 := by omega
    have a : mn (fun v => fw h p v + h p v + bk h (P - 1 - p) p v) 8 = mn (fun v => (fw h p v + h p v) + nr (fun w => h (p + 1) w + bk h (P - 1 - (p + 1)) (p + 1) w) v) 8 := mn_congr 8 (fun v _ => by rw [e]; rfl)
    rw [a, ← mn_nr (fun v => fw h p v + h p v) (fun w => h (p + 1) w + bk h (P - 1 - (p + 1)) (p + 1) w)]
    exact mn_congr 8 (fun v _ => by show fw h (p + 1) v + _ + _ = nr _ v + (_ + _); rw [Nat.add_assoc]; rfl)
theorem fb_end {h : Nat → Nat → Nat} {P : Nat} (hP : 0 < P) : mn (fun v => fw h (P - 1) v + h (P - 1) v) 8 = mn (fun v => h 0 v + bk h (P - 1) 0 v) 8 := by
  rw [← fb (h := h) (P := P) (P - 1) (by omega)]
  exact mn_congr 8 (fun v _ => by rw [Nat.sub_self]; rfl)
/-- any sign -/
def ha (C : Nat → Nat → Nat → Nat) (p v : Nat) : Nat := mn (fun g => C p g v) 11
def bs (C : Nat → Nat → Nat → Nat) (P : Nat) : Nat := mn (fun v => ha C 0 v + bk (ha C) (P - 1) 0 v) 8
theorem bk_succ (h : Nat → Nat → Nat) (n p v : Nat) : bk h (n + 1) p v = nr (fun w => h (p + 1) w + bk h n (p + 1) w) v := rfl
theorem pz_succ (C : Nat → Nat → Nat → Nat) (h0 : Nat → Nat → Nat) (P L p v : Nat) : pz C h0 P L (p + 1) v = nr (fun w => pz C h0 P L p w + C p (sg C h0 P L p) w) v := rfl
theorem pick1 {C : Nat → Nat → Nat → Nat} {P p L : Nat} {row : Nat → Nat} (e1 : mn (fun v => row v + ha C p v + bk (ha C) (P - 1 - p) p v) 8 = L) : th C (ha C) P row p (ff (th C (ha C) P row p) L 11 0) = L := by
  obtain ⟨v, hv, ev⟩ := mn_at (f := fun v => row v + ha C p v + bk (ha C) (P - 1 - p) p v) 8
  obtain ⟨g, hg, eg⟩ := mn_at (f := fun g => C p g v) 11
  have eg : ha C p v = C p g v := eg
  rw [e1] at ev
  have up : L ≤ th C (ha C) P row p g := by
    obtain ⟨w, hw, ew⟩ := mn_at (f := fun v => row v + C p g v + bk (ha C) (P - 1 - p) p v) 8
    have a1 : ha C p w ≤ C p g w := mn_lb (f := fun g => C p g w) 11 g hg
    have a2 := mn_lb (f := fun v => row v + ha C p v + bk (ha C) (P - 1 - p) p v) 8 w hw
    rw [e1] at a2
    unfold th
    rw [ew]
    omega
  have lo : th C (ha C) P row p g = L := by
    refine Nat.le_antisymm ?_ up
    have a2 := mn_lb (f := fun v => row v + C p g v + bk (ha C) (P - 1 - p) p v) 8 v hv
    unfold th
    refine Nat.le_trans a2 ?_
    omega
  have sp := ff_spec (th C (ha C) P row p) L 11 0
  by_cases q : ff (th C (ha C) P row p) L 11 0 < 0 + 11
  · exact sp.2.2.2 q
  · have e11 : ff (th C (ha C) P row p) L 11 0 = 11 := by omega
    have eg2 : g = 11 := by
      rcases Nat.lt_or_ge g 11 with z | z
      · exact absurd lo (sp.2.2.1 g (Nat.zero_le _) (by omega))
      · omega
    rw [e11, ← eg2]; exact lo
theorem pick_ok {C : Nat → Nat → Nat → Nat} {P L : Nat} (hL : bs C P = L) : ∀ p, p < P → mn (fun v => pz C (ha C) P L p v + ha C p v + bk (ha C) (P - 1 - p) p v) 8 = L ∧ th C (ha C) P (pz C (ha C) P L p) p (sg C (ha C) P L p) = L := by
  intro p
  induction p with
  | zero =>
    intro hp
    have e1 : mn (fun v => pz C (ha C) P L 0 v + ha C 0 v + bk (ha C) (P - 1 - 0) 0 v) 8 = L := by
      rw [← hL]
      exact mn_congr 8 (fun v _ => by show 0 + _ + _ = _; rw [Nat.zero_add, Nat.sub_zero])
    exact ⟨e1, pick1 e1⟩
  | succ p ih =>
    intro hp
    obtain ⟨-, i2⟩ := ih (by omega)
    have e : P - 1 - p = (P - 1 - (p + 1)) + 1 := by omega
    have e1 : mn (fun v => pz C (ha C) P L (p + 1) v + ha C (p + 1) v + bk (ha C) (P - 1 - (p + 1)) (p + 1) v) 8 = L := by
      have a : mn (fun v => (pz C (ha C) P L p v + C p (sg C (ha C) P L p) v) + nr (fun w => ha C (p + 1) w + bk (ha C) (P - 1 - (p + 1)) (p + 1) w) v) 8 = L := by
        refine Eq.trans ?_ i2
        unfold th
        exact mn_congr 8 (fun v _ => by rw [e, bk_succ])
      rw [← mn_nr (fun v => pz C (ha C) P L p v + C p (sg C (ha C) P L p) v) (fun w => ha C (p + 1) w + bk (ha C) (P - 1 - (p + 1)) (p + 1) w)] at a
      refine Eq.trans ?_ a
      exact mn_congr 8 (fun v _ => by rw [pz_succ, Nat.add_assoc])
    exact ⟨e1, pick1 e1⟩
theorem pz_fw (C : Nat → Nat → Nat → Nat) (h0 : Nat → Nat → Nat) (P L : Nat) : ∀ p v, pz C h0 P L p v = fw (fun p v => C p (sg C h0 P L p) v) p v := by
  intro p
  induction p with
  | zero => intro v; rfl
  | succ p ih =>
    intro v
    show nr (fun w => pz C h0 P L p w + C p (sg C h0 P L p) w) v = nr (fun w => fw (fun p v => C p (sg C h0 P L p) v) p w + C p (sg C h0 P L p) w) v
    exact congrArg (fun f => nr f v) (funext fun w => by rw [ih w])
/-- the picked signs cost the least -/
theorem pick_cost {C : Nat → Nat → Nat → Nat} {P L : Nat} (hP : 0 < P) (hL : bs C P = L) : mn (fun v => C 0 (sg C (ha C) P L 0) v + bk (fun p v => C p (sg C (ha C) P L p) v) (P - 1) 0 v) 8 = L := by
  refine Eq.trans (fb_end (h := fun p v => C p (sg C (ha C) P L p) v) hP).symm ?_
  refine Eq.trans ?_ (pick_ok hL (P - 1) (by omega)).2
  unfold th
  refine mn_congr 8 (fun v _ => ?_)
  rw [pz_fw, Nat.sub_self]
  exact (Nat.add_zero _).symm
/-- the picked speeds give the least -/
theorem speed_ok {h : Nat → Nat → Nat} {P L M : Nat} (hP : 0 < P) (hL : mn (fun v => h 0 v + bk h (P - 1) 0 v) 8 = L) (hh : ∀ p v, p < P → v < 9 → h p v ≤ M) : ∀ p, p < P → (ps h P L p).1 + h p (sv h P L p) + bk h (P - 1 - p) p (sv h P L p) = L := by
  have fin : ∀ p, p < P → (∃ v, (ps h P L p).2.1 ≤ v ∧ v ≤ (ps h P L p).2.2 ∧ (ps h P L p).1 + h p v + bk h (P - 1 - p) p v = L) → (ps h P L p).1 + h p (sv h P L p) + bk h (P - 1 - p) p (sv h P L p) = L := by
    intro p hp hv
    obtain ⟨v, v1, v2, v3⟩ := hv
    have sp := ff_spec (fun v => (ps h P L p).1 + h p v + bk h (P - 1 - p) p v) L ((ps h P L p).2.2 - (ps h P L p).2.1) (ps h P L p).2.1
    by_cases q : sv h P L p < (ps h P L p).2.1 + ((ps h P L p).2.2 - (ps h P L p).2.1)
    · exact sp.2.2.2 q
    · have e : v = sv h P L p := by
        rcases Nat.lt_or_ge v (sv h P L p) with z | z
        · exact absurd v3 (sp.2.2.1 v v1 z)
        · omega
      rw [← e]; exact v3
  intro p
  induction p with
  | zero =>
    intro hp
    refine fin 0 hp ?_
    obtain ⟨v, hv, ev⟩ := mn_at (f := fun v => h 0 v + bk h (P - 1) 0 v) 8
    exact ⟨v, Nat.zero_le _, hv, by show 0 + _ + _ = L; rw [Nat.zero_add, Nat.sub_zero, ← hL, ev]⟩
  | succ p ih =>
    intro hp
    have i := ih (by omega)
    refine fin (p + 1) hp ?_
    have s8 := sv_le (L := L) hh (show p < P by omega)
    have e : P - 1 - p = (P - 1 - (p + 1)) + 1 := by omega
    rw [e] at i
    obtain ⟨w, w1, w2, w3, w4⟩ := nr_at (f := fun w => h (p + 1) w + bk h (P - 1 - (p + 1)) (p + 1) w) (v := sv h P L p) (by omega)
    have i2 : (ps h P L p).1 + h p (sv h P L p) + nr (fun w => h (p + 1) w + bk h (P - 1 - (p + 1)) (p + 1) w) (sv h P L p) = L := i
    rw [w4] at i2
    refine ⟨w, ?_, ?_, ?_⟩
    · rw [ps_succ]; show _ - 1 ≤ w; omega
    · rw [ps_succ]; show w ≤ min 8 _; omega
    · rw [ps_succ, Nat.add_assoc]; exact i2
