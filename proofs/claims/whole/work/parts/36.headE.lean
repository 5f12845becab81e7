/-- spent, first and last speed before place p, as the picked speeds give them -/
def ps (h : Nat → Nat → Nat) (P L : Nat) : Nat → Nat × Nat × Nat
  | 0 => (0, 0, 8)
  | p + 1 => ((ps h P L p).1 + h p (ff (fun v => (ps h P L p).1 + h p v + bk h (P - 1 - p) p v) L ((ps h P L p).2.2 - (ps h P L p).2.1) (ps h P L p).2.1), ff (fun v => (ps h P L p).1 + h p v + bk h (P - 1 - p) p v) L ((ps h P L p).2.2 - (ps h P L p).2.1) (ps h P L p).2.1 - 1, min 8 (ff (fun v => (ps h P L p).1 + h p v + bk h (P - 1 - p) p v) L ((ps h P L p).2.2 - (ps h P L p).2.1) (ps h P L p).2.1 + 1))
def sv (h : Nat → Nat → Nat) (P L p : Nat) : Nat := ff (fun v => (ps h P L p).1 + h p v + bk h (P - 1 - p) p v) L ((ps h P L p).2.2 - (ps h P L p).2.1) (ps h P L p).2.1
theorem ps_succ (h : Nat → Nat → Nat) (P L p : Nat) : ps h P L (p + 1) = ((ps h P L p).1 + h p (sv h P L p), sv h P L p - 1, min 8 (sv h P L p + 1)) := rfl
theorem ps_ok {h : Nat → Nat → Nat} {P L M : Nat} (hh : ∀ p v, p < P → v < 9 → h p v ≤ M) : ∀ p, p ≤ P → (ps h P L p).1 ≤ p * M ∧ (ps h P L p).2.1 ≤ (ps h P L p).2.2 ∧ (ps h P L p).2.2 ≤ 8 := by
  intro p
  induction p with
  | zero => intro _; exact ⟨Nat.zero_le _, (by decide : 0 ≤ 8), (by decide : 8 ≤ 8)⟩
  | succ p ih =>
    intro hp
    obtain ⟨h1, h2, h3⟩ := ih (by omega)
    have a := ff_spec (fun v => (ps h P L p).1 + h p v + bk h (P - 1 - p) p v) L ((ps h P L p).2.2 - (ps h P L p).2.1) (ps h P L p).2.1
    have b : sv h P L p ≤ 8 := by unfold sv; omega
    have c := hh p (sv h P L p) (by omega) (by omega)
    rw [ps_succ, Nat.succ_mul]
    refine ⟨?_, ?_, ?_⟩
    · show _ + _ ≤ _; omega
    · show _ - 1 ≤ min 8 _; omega
    · show min 8 _ ≤ 8; omega
theorem sv_le {h : Nat → Nat → Nat} {P L M p : Nat} (hh : ∀ p v, p < P → v < 9 → h p v ≤ M) (hp : p < P) : sv h P L p ≤ 8 := by
  obtain ⟨h1, h2, h3⟩ := ps_ok (L := L) hh p (by omega)
  have a := ff_spec (fun v => (ps h P L p).1 + h p v + bk h (P - 1 - p) p v) L ((ps h P L p).2.2 - (ps h P L p).2.1) (ps h P L p).2.1
  unfold sv; omega
theorem jmax0 (v : Nat) (hv : v < 2 ^ 31) : jmax 0 (nI v - 1) = nI (v - 1) := by
  cases v with
  | zero => decide
  | succ v =>
    rw [nI_pred, show (0 : Int32) = nI 0 from rfl, jmax_nI (by decide) (by omega)]
    exact congrArg nI (by omega)
theorem s_pickSpeeds {behind costs here joined signs speeds : Nat → Int32} {C : Nat → Nat → Nat → Nat} {σ : Nat → Nat} {P L : Nat} (hP : P ≤ 20) (hL : L < 2 ^ 31) (hc : cok costs C (P * 108)) (hb : ∀ p g v, v < 9 → C p g v ≤ 1000) (hs : ∀ p, p < P → signs p = nI (σ p) ∧ σ p < 12) {Q : (Nat → Int32) → (Nat → Int32) → (Nat → Int32) → (Nat → Int32) → Prop}
    (hQ : ∀ b' h' j' s', (∀ p, p < P → s' p = nI (4 + sv (fun p v => C p (σ p) v) P L p)) → Q b' h' j' s') : p_X1_pickSpeeds (nI P) behind costs here joined signs speeds (nI L) Q := by
  unfold p_X1_pickSpeeds
  refine s_allowOnly hP hc hs (fun h' h1 => ?_)
  have hh : ∀ p v, p < P → v < 9 → (fun p v => C p (σ p) v) p v ≤ 1000 := fun p v _ hv => hb _ _ _ hv
  refine s_sumEnd (h := fun p v => C p (σ p) v) hP h1 hh (fun b' j' h2 => ?_)
  refine wf5_3 (N := P) (I := fun k x4 x5 x6 s => x4 = nI (ps (fun p v => C p (σ p) v) P L k).1 ∧ x5 = nI (ps (fun p v => C p (σ p) v) P L k).2.1 ∧ x6 = nI (ps (fun p v => C p (σ p) v) P L k).2.2 ∧ (∀ p, p < k → s p = nI (4 + sv (fun p v => C p (σ p) v) P L p))) ?_ ?_ 0 0 0 8 speeds (Nat.zero_le _) ⟨rfl, rfl, rfl, fun p hp => absurd hp (Nat.not_lt_zero _)⟩
  · intro R x4 x5 x6 s hI
    unfold p_X1_pickSpeeds_B22
    exact ⟨fun _ => hQ b' h' j' s hI.2.2.2, fun q => absurd ((nI_leI (by omega) (by omega)).mpr (Nat.le_refl _)) q⟩
  · intro R k x4 x5 x6 s hk hI hR
    obtain ⟨e4, e5, e6, es⟩ := hI
    subst e4; subst e5; subst e6
    unfold p_X1_pickSpeeds_B22
    refine pk_le P k (fun q => by omega) (fun _ => ?_)
    obtain ⟨o1, o2, o3⟩ := ps_ok (L := L) hh k (by omega)
    have o4 : k * 1000 ≤ 20 * 1000 := Nat.mul_le_mul_right _ (by omega)
    have hbk : ∀ v, v < 9 → bk (fun p v => C p (σ p) v) (P - 1 - k) k v ≤ 20000 := fun v hv => bk_le2 hP hh hk hv
    rw [show (9 : Int32) = nI 9 from rfl, pk_mul]
    have fin : ∀ v : Nat, v < 9 → v = sv (fun p v => C p (σ p) v) P L k → (vp_in (nI k) 20 ∧ (vp_in (nI (k * 9) + nI v) 180 ∧ (R (nI (ps (fun p v => C p (σ p) v) P L k).1 + (h' (Int32.toNatClampNeg (nI (k * 9) + nI v)))) (jmax 0 (nI v - 1)) (jmin 8 (nI v + 1)) (nI k + 1) (upd s (Int32.toNatClampNeg (nI k)) (4 + nI v))))) := by
      intro v hv ev
      refine ⟨vp_in_nI (by omega) (by decide), in2 (by omega) (by decide), ?_⟩
      rw [cl2 (by omega), h1 k v hk hv, nI_add, jmax0 v (by omega), nI_1, show (8 : Int32) = nI 8 from rfl, jmin_nI (by decide) (by omega), nI_clamp (show k < 2 ^ 31 by omega), show (4 : Int32) = nI 4 from rfl, nI_add]
      refine hR _ _ _ _ ⟨?_, ?_, ?_, fun p hp => ?_⟩
      · rw [ps_succ, ← ev]
      · rw [ps_succ, ← ev]
      · rw [ps_succ, ← ev]
      · by_cases e : p = k
        · subst e; rw [pk_us, ← ev]
        · rw [pk_un e]; exact es p (by omega)
    refine wf1_0 (N := (ps (fun p v => C p (σ p) v) P L k).2.2) (I := fun v => (ps (fun p v => C p (σ p) v) P L k).2.1 ≤ v ∧ ff (fun v => (ps (fun p v => C p (σ p) v) P L k).1 + C k (σ k) v + bk (fun p v => C p (σ p) v) (P - 1 - k) k v) L ((ps (fun p v => C p (σ p) v) P L k).2.2 - v) v = sv (fun p v => C p (σ p) v) P L k) ?_ ?_ (ps (fun p v => C p (σ p) v) P L k).2.1 o2 ⟨Nat.le_refl _, rfl⟩
    · intro R' hg
      unfold p_X1_pickSpeeds_B42
      refine ⟨fun _ => fin _ (by omega) ?_, fun q => absurd ((nI_leI (by omega) (by omega)).mpr (Nat.le_refl _)) q⟩
      have e := hg.2
      rw [Nat.sub_self] at e
      exact e
    · intro R' v hv hI' hR'
      unfold p_X1_pickSpeeds_B42
      refine pk_le (ps (fun p v => C p (σ p) v) P L k).2.2 v (fun q => by omega) (fun _ => ?_)
      refine ⟨in2 (by omega) (by decide), in2 (by omega) (by decide), ?_⟩
      have a2 := hb k (σ k) v (by omega)
      have a3 := hbk v (by omega)
      rw [cl2 (by omega), h1 k v hk (by omega), h2 k v hk (by omega), nI_add, nI_add]
      obtain ⟨i1, i2⟩ := hI'
      rw [show (ps (fun p v => C p (σ p) v) P L k).2.2 - v = ((ps (fun p v => C p (σ p) v) P L k).2.2 - (v + 1)) + 1 by omega] at i2
      refine pk_eq _ L (fun e => ?_) (fun e => ?_) rfl rfl (by omega) hL
      · refine fin v (by omega) ?_
        rw [← i2]
        exact (if_pos e).symm
      · refine hR' ⟨by omega, ?_⟩
        rw [← i2]
        exact (if_neg e).symm
theorem s_lay {ticks laid : Nat → Int32} {t : Nat → Nat} {n : Nat} {pl x3 : Int32} (hn : n ≤ 120) (ht : ∀ i, i < n → ticks i = nI (t i)) {Q : Int32 → (Nat → Int32) → Prop} (hQ : ∀ l', (∀ i, i < n → l' i = nI (if x3 = 0 then t i else t (n - 1 - i))) → Q (nI (n / 6)) l') : p_X1_lay pl laid ticks (nI n) x3 Q := by
  unfold p_X1_lay
  rw [show (6 : Int32) = nI 6 from rfl, pk_div (by omega) (by decide) (by decide)]
  refine wf2_0 (N := n) (I := fun k a => ∀ i, i < k → a i = nI (if x3 = 0 then t i else t (n - 1 - i))) ?_ ?_ 0 laid (Nat.zero_le _) (fun i hi => absurd hi (Nat.not_lt_zero _))
  · intro R a ha
    unfold p_X1_lay_B11
    exact ⟨fun _ => hQ a ha, fun q => absurd ((nI_leI (by omega) (by omega)).mpr (Nat.le_refl _)) q⟩
  · intro R k a hk ha hR
    unfold p_X1_lay_B11
    refine pk_le n k (fun q => by omega) (fun _ => ?_)
    have fin : ∀ x : Nat, x = (if x3 = 0 then t k else t (n - 1 - k)) → p_X1_lay_J42 a R (nI k) (nI x) (nI k) := by
      intro x ex
      unfold p_X1_lay_J42
      refine ⟨vp_in_nI (by omega) (by decide), ?_⟩
      rw [nI_clamp (show k < 2 ^ 31 by omega)]
      refine hR _ (fun i hi => ?_)
      by_cases e : i = k
      · subst e; rw [pk_us, ex]
      · rw [pk_un e]; exact ha i (by omega)
    refine ⟨fun q => ?_, fun q => ?_⟩
    · refine ⟨vp_in_nI (by omega) (by decide), ?_⟩
      rw [nI_clamp (show k < 2 ^ 31 by omega), ht k hk]
      exact fin _ (if_pos q).symm
    · rw [show (1 : Int32) = nI 1 from rfl, pk_sub (by omega), pk_sub (by omega)]
      refine ⟨vp_in_nI (by omega) (by decide), ?_⟩
      rw [nI_clamp (show n - 1 - k < 2 ^ 31 by omega), ht _ (by omega)]
      exact fin _ (if_neg q).symm
