theorem m9 (p : Nat) : (9 : Int32) * nI p = nI (p * 9) := by rw [show (9 : Int32) = nI 9 from rfl, pk_mul, Nat.mul_comm]
theorem s_withSign {costs fr told : Nat → Int32} {p g : Nat} {c f tl : Nat → Nat} (hp : p < 20) (hg : g < 12) (hc : ∀ v, v < 9 → costs ((p * 12 + g) * 9 + v) = nI (c v) ∧ c v ≤ 1000) (hf : ∀ v, v < 9 → fr ((p + 1) * 9 + v) = nI (f v) ∧ f v ≤ 30000) (ht : p ≠ 0 → ∀ v, v < 9 → told v = nI (tl v) ∧ tl v ≤ 30000) {Q : Int32 → Prop} (hQ : Q (nI (mn (fun v => (if p = 0 then 0 else nr tl v) + c v + nr f v) 8))) : p_X6_withSign costs fr told (nI p) (nI g) Q := by
  have hr : ∀ v, v < 9 → (if p = 0 then 0 else nr tl v) ≤ 30000 := fun v hv => by
    by_cases e : p = 0
    · rw [if_pos e]; omega
    · rw [if_neg e]; exact nr_le (fun k hk => (ht e k hk).2) hv
  have hnf : ∀ v, v < 9 → nr f v ≤ 30000 := fun v hv => nr_le (fun k hk => (hf k hk).2) hv
  unfold p_X6_withSign
  refine wf2_1 (N := 9) (I := fun k x => x = nI (mf (fun v => (if p = 0 then 0 else nr tl v) + c v + nr f v) 100000000 k)) ?_ ?_ 0 100000000 (Nat.zero_le _) rfl
  · intro R x hx
    unfold p_X6_withSign_B6
    refine ⟨fun _ => ?_, fun q => absurd (by decide) q⟩
    rw [hx, mf_mn (by have a1 := hr 0 (by decide); have a2 := (hc 0 (by decide)).2; have a3 := hnf 0 (by decide); omega) 8]; exact hQ
  · intro R v x hv hx hR
    unfold p_X6_withSign_B6
    refine pk_le 9 v (fun q => by omega) (fun _ => ?_)
    have a1 := hr v hv
    have a2 := (hc v hv).2
    have a3 := hnf v hv
    have m1 := mf_le (f := fun v => (if p = 0 then 0 else nr tl v) + c v + nr f v) (a := 100000000) v
    have fin : ∀ y : Nat, y = (if p = 0 then 0 else nr tl v) → p_X6_withSign_J31 costs fr R (nI p) (nI g) x (nI v) (nI y) := by
      intro y ey
      unfold p_X6_withSign_J31
      refine s_cell ?_
      refine ⟨vp_in_nI (by omega) (by decide), ?_⟩
      rw [nI_1, m9]
      refine s_near (f := f) (by decide) (by omega) (fun k hk => (hf k hk).1) (fun k hk => by have := (hf k hk).2; omega) hv ?_
      rw [nI_clamp (show (p * 12 + g) * 9 + v < 2 ^ 31 by omega), (hc v hv).1, nI_add, nI_add, hx, ey]
      refine pk_le (mf (fun v => (if p = 0 then 0 else nr tl v) + c v + nr f v) 100000000 v) ((if p = 0 then 0 else nr tl v) + c v + nr f v) (fun z => ?_) (fun z => ?_)
      · unfold p_X6_withSign_J74
        refine hR _ ?_
        show _ = nI (min _ _)
        rw [Nat.min_eq_left z]
      · unfold p_X6_withSign_J74
        refine hR _ ?_
        show _ = nI (min _ _)
        rw [Nat.min_eq_right (Nat.le_of_lt z)]
    refine ⟨fun q => ?_, fun q => ?_⟩
    · rw [show (0 : Int32) = nI 0 from rfl, nI_eq (by omega) (by decide)] at q
      refine s_near (base := 0) (f := tl) (by decide) (by decide) (fun k hk => by rw [Nat.zero_add]; exact (ht q k hk).1) (fun k hk => by have := (ht q k hk).2; omega) hv ?_
      exact fin _ (if_neg q).symm
    · rw [show (0 : Int32) = nI 0 from rfl, nI_eq (by omega) (by decide)] at q
      exact fin 0 (if_pos q).symm
/-- the reference finds the same signs -/
theorem s_choosesA {costs fr next signs told : Nat → Int32} {C : Nat → Nat → Nat → Nat} {P L : Nat} (hP : P ≤ 20) (hP0 : 0 < P) (hL : bs C P = L) (hL2 : L < 2 ^ 31) (hc : cok costs C (P * 108)) (hb : ∀ p g v, v < 9 → C p g v ≤ 1000)
    (hf1 : ∀ p v, p < P → v < 9 → fr (p * 9 + v) = nI (ha C p v + bk (ha C) (P - 1 - p) p v)) (hf2 : ∀ v, v < 9 → fr (P * 9 + v) = nI 0) {K : Int32 → (Nat → Int32) → (Nat → Int32) → (Nat → Int32) → Prop}
    (hK : ∀ n' s' t', (∀ p, p < P → s' p = nI (sg C (ha C) P L p)) → K (nI P) n' s' t') : ∃ n : Nat, wl4 (p_X6_chooses_B2 (nI P) costs fr (nI L) K) n 0 next signs told := by
  have hh : ∀ p v, p < P → v < 9 → ha C p v ≤ 1000 := fun p v _ hv => mn_le 11 (fun g _ => hb p g v hv)
  have hbk : ∀ p v, p < P → v < 9 → bk (ha C) (P - 1 - p) p v ≤ 20000 := fun p v hp hv => bk_le2 hP hh hp hv
  have hpz : ∀ p v, p < P → v < 9 → pz C (ha C) P L p v ≤ 20000 := fun p v hp hv => Nat.le_trans (pz_le (M := 1000) hb p v hv) (by have : p * 1000 ≤ 20 * 1000 := Nat.mul_le_mul_right _ (by omega); omega)
  refine wf4_0 (N := P) (I := fun p _ s t => (∀ q, q < p → s q = nI (sg C (ha C) P L q)) ∧ (p ≠ 0 → ∀ v, v < 9 → t v = nI (pz C (ha C) P L (p - 1) v + C (p - 1) (sg C (ha C) P L (p - 1)) v))) ?_ ?_ 0 next signs told (Nat.zero_le _) ⟨fun q hq => absurd hq (Nat.not_lt_zero _), fun h => absurd rfl h⟩
  · intro R n' s' t' hI
    unfold p_X6_chooses_B2
    exact ⟨fun _ => hK n' s' t' hI.1, fun q => absurd ((nI_leI (by omega) (by omega)).mpr (Nat.le_refl _)) q⟩
  · intro R p n' s' t' hp hI hR
    unfold p_X6_chooses_B2
    refine pk_le P p (fun q => by omega) (fun _ => ?_)
    -- the row before p
    have hrow : ∀ v, v < 9 → (if p = 0 then 0 else nr (fun w => pz C (ha C) P L (p - 1) w + C (p - 1) (sg C (ha C) P L (p - 1)) w) v) = pz C (ha C) P L p v := fun v hv => by
      cases p with
      | zero => rfl
      | succ p => rw [if_neg (by omega), pz_succ]; rfl
    have hfr : ∃ f : Nat → Nat, (∀ v, v < 9 → fr ((p + 1) * 9 + v) = nI (f v) ∧ f v ≤ 30000) ∧ ∀ v, v < 9 → nr f v = bk (ha C) (P - 1 - p) p v := by
      by_cases e : p + 1 = P
      · refine ⟨fun _ => 0, fun v hv => ⟨by rw [e]; exact hf2 v hv, Nat.zero_le _⟩, fun v hv => ?_⟩
        rw [show P - 1 - p = 0 by omega]
        have := nr_le (f := fun _ => 0) (M := 0) (v := v) (fun _ _ => Nat.le_refl _) hv
        show _ = 0
        omega
      · refine ⟨fun w => ha C (p + 1) w + bk (ha C) (P - 1 - (p + 1)) (p + 1) w, fun v hv => ⟨hf1 (p + 1) v (by omega) hv, ?_⟩, fun v hv => ?_⟩
        · have a1 := hh (p + 1) v (by omega) hv; have a2 := hbk (p + 1) v (by omega) hv; show _ + _ ≤ _; omega
        · rw [show P - 1 - p = (P - 1 - (p + 1)) + 1 by omega, bk_succ]
    obtain ⟨f, hf, hnf⟩ := hfr
    have htl : p ≠ 0 → ∀ v, v < 9 → t' v = nI ((fun w => pz C (ha C) P L (p - 1) w + C (p - 1) (sg C (ha C) P L (p - 1)) w) v) ∧ (fun w => pz C (ha C) P L (p - 1) w + C (p - 1) (sg C (ha C) P L (p - 1)) w) v ≤ 30000 := fun q v hv => ⟨hI.2 q v hv, by have a1 := hpz (p - 1) v (by omega) hv; have a2 := hb (p - 1) (sg C (ha C) P L (p - 1)) v hv; show _ + _ ≤ _; omega⟩
    have hTe : ∀ g, mn (fun v => (if p = 0 then 0 else nr (fun w => pz C (ha C) P L (p - 1) w + C (p - 1) (sg C (ha C) P L (p - 1)) w) v) + C p g v + nr f v) 8 = th C (ha C) P (pz C (ha C) P L p) p g := fun g => by
      unfold th
      exact mn_congr 8 (fun v hv => by rw [hrow v (by omega), hnf v (by omega)])
    have hsg := sg_lt C (ha C) P L p
    have hok := (pick_ok hL p hp).2
    have hsp := (ff_spec (th C (ha C) P (pz C (ha C) P L p) p) L 11 0).2.2.1
    have fin : (vp_in (nI p) 20 ∧ (∃ n38 : Nat, wl2 (p_X6_chooses_B38 costs t' (nI p) (nI (sg C (ha C) P L p)) (fun x4_89 a_next_89 => ∃ n92 : Nat, wl2 (p_X6_chooses_B92 a_next_89 (fun x4_119 a_told_119 => R (nI p + 1) a_next_89 (upd s' (Int32.toNatClampNeg (nI p)) (nI (sg C (ha C) P L p))) a_told_119)) n92 0 t')) n38 0 n')) := by
      refine ⟨vp_in_nI (by omega) (by decide), ?_⟩
      refine wf2_0 (N := 9) (I := fun k a => ∀ v, v < k → a v = nI (pz C (ha C) P L p v + C p (sg C (ha C) P L p) v)) ?_ ?_ 0 n' (Nat.zero_le _) (fun v hv => absurd hv (Nat.not_lt_zero _))
      · intro R2 a ha2
        unfold p_X6_chooses_B38
        refine ⟨fun _ => ?_, fun q => absurd (by decide) q⟩
        refine wf2_0 (N := 9) (I := fun k t => ∀ v, v < k → t v = nI (pz C (ha C) P L p v + C p (sg C (ha C) P L p) v)) ?_ ?_ 0 t' (Nat.zero_le _) (fun v hv => absurd hv (Nat.not_lt_zero _))
        · intro R3 t3 ht3
          unfold p_X6_chooses_B92
          refine ⟨fun _ => ?_, fun q => absurd (by decide) q⟩
          rw [nI_clamp (show p < 2 ^ 31 by omega)]
          refine hR _ _ _ ⟨fun q hq => ?_, fun _ => ht3⟩
          by_cases e : q = p
          · subst e; exact pk_us
          · rw [pk_un e]; exact hI.1 q (by omega)
        · intro R3 v t3 hv ht3 hR3
          unfold p_X6_chooses_B92
          refine pk_le 9 v (fun q => by omega) (fun _ => ?_)
          refine ⟨vp_in_nI hv (by decide), vp_in_nI hv (by decide), ?_⟩
          rw [nI_clamp (show v < 2 ^ 31 by omega), ha2 v hv]
          refine hR3 _ (fun w hw => ?_)
          by_cases e : w = v
          · subst e; exact pk_us
          · rw [pk_un e]; exact ht3 w (by omega)
      · intro R2 v a hv ha2 hR2
        unfold p_X6_chooses_B38
        refine pk_le 9 v (fun q => by omega) (fun _ => ?_)
        have fin2 : ∀ y : Nat, y = pz C (ha C) P L p v → p_X6_chooses_J69 costs a R2 (nI p) (nI (sg C (ha C) P L p)) (nI v) (nI y) (nI v) := by
          intro y ey
          unfold p_X6_chooses_J69
          refine s_cell ?_
          refine ⟨vp_in_nI (by omega) (by decide), vp_in_nI hv (by decide), ?_⟩
          rw [nI_clamp (show (p * 12 + sg C (ha C) P L p) * 9 + v < 2 ^ 31 by omega), hc p _ v hsg hv (by omega), nI_add, nI_clamp (show v < 2 ^ 31 by omega), ey]
          refine hR2 _ (fun w hw => ?_)
          by_cases e : w = v
          · subst e; exact pk_us
          · rw [pk_un e]; exact ha2 w (by omega)
        refine ⟨fun q => ?_, fun q => ?_⟩
        · rw [show (0 : Int32) = nI 0 from rfl, nI_eq (by omega) (by decide)] at q
          refine s_near (base := 0) (f := fun w => pz C (ha C) P L (p - 1) w + C (p - 1) (sg C (ha C) P L (p - 1)) w) (by decide) (by decide) (fun k hk => by rw [Nat.zero_add]; exact (htl q k hk).1) (fun k hk => Nat.lt_of_le_of_lt (htl q k hk).2 (by decide)) hv ?_
          refine fin2 _ ?_
          have := hrow v hv
          rw [if_neg q] at this; exact this
        · rw [show (0 : Int32) = nI 0 from rfl, nI_eq (by omega) (by decide)] at q
          refine fin2 0 ?_
          subst q; rfl
    refine wf1_0 (N := sg C (ha C) P L p) (I := fun g => g ≤ sg C (ha C) P L p) ?_ ?_ 0 (Nat.zero_le _) (Nat.zero_le _)
    · intro R' _
      unfold p_X6_chooses_B12
      refine s_withSign (c := C p (sg C (ha C) P L p)) (f := f) (by omega) hsg (fun v hv => ⟨hc p _ v hsg hv (by omega), hb _ _ _ hv⟩) hf htl ?_
      rw [hTe, hok]
      exact ⟨fun _ => fin, fun q => absurd rfl q⟩
    · intro R' g hg _ hR'
      unfold p_X6_chooses_B12
      refine s_withSign (c := C p g) (f := f) (by omega) (by omega) (fun v hv => ⟨hc p _ v (by omega) hv (by omega), hb _ _ _ hv⟩) hf htl ?_
      have hm : th C (ha C) P (pz C (ha C) P L p) p g < 2 ^ 31 := by
        unfold th
        refine Nat.lt_of_le_of_lt (mn_lb 8 0 (by decide)) ?_
        have a1 := hpz p 0 hp (by decide); have a2 := hb p g 0 (by decide); have a3 := hbk p 0 hp (by decide)
        omega
      rw [hTe]
      refine pk_eq _ L (fun e => ?_) (fun e => hR' hg) rfl rfl hm hL2
      exact absurd e (hsp g (Nat.zero_le _) hg)
