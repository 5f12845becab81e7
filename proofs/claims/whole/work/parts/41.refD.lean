theorem s_gapOf {costs fr up signs told : Nat → Int32} {C : Nat → Nat → Nat → Nat} {σ : Nat → Nat} {P : Nat} {l : Int32} (hP : P ≤ 20) (hc : cok costs C (P * 108)) (hb : ∀ p g v, v < 9 → C p g v ≤ 1000)
    (hf1 : ∀ p v, p < P → v < 9 → fr (p * 9 + v) = nI (ha C p v + bk (ha C) (P - 1 - p) p v)) (hf2 : ∀ v, v < 9 → fr (P * 9 + v) = nI 0) (hu : ∀ p v, p < P → v < 9 → up (p * 9 + v) = nI (fw (ha C) p v + ha C p v)) (hs : ∀ p, p < P → signs p = nI (σ p) ∧ σ p < 12) {Q : Int32 → (Nat → Int32) → Prop}
    (hQ : ∀ t', Q (nI (gq (fun p g => th C (ha C) P (fw (ha C) p) p g) σ 100000000 P) - l) t') : p_X6_gapOf (nI P) costs fr signs told up l Q := by
  have hh : ∀ p v, p < P → v < 9 → ha C p v ≤ 1000 := fun p v _ hv => mn_le 11 (fun g _ => hb p g v hv)
  have hbk : ∀ p v, p < P → v < 9 → bk (ha C) (P - 1 - p) p v ≤ 20000 := fun p v hp hv => bk_le2 hP hh hp hv
  have hfw : ∀ p v, p ≤ P → v < 9 → fw (ha C) p v ≤ 20000 := fun p v hp hv => Nat.le_trans (fw_le (P := P) hh p v hp hv) (by have : p * 1000 ≤ 20 * 1000 := Nat.mul_le_mul_right _ (by omega); omega)
  unfold p_X6_gapOf
  refine wf3_1 (N := P) (I := fun p x _ => x = nI (gq (fun p g => th C (ha C) P (fw (ha C) p) p g) σ 100000000 p)) ?_ ?_ 0 100000000 told (Nat.zero_le _) rfl
  · intro R x t hI
    unfold p_X6_gapOf_B5
    refine ⟨fun _ => ?_, fun q => absurd ((nI_leI (by omega) (by omega)).mpr (Nat.le_refl _)) q⟩
    rw [hI]; exact hQ t
  · intro R p x t hp hI hR
    unfold p_X6_gapOf_B5
    refine pk_le P p (fun q => by omega) (fun _ => ?_)
    refine wf2_0 (N := 9) (I := fun k a => p ≠ 0 → ∀ v, v < k → a v = nI (fw (ha C) (p - 1) v + ha C (p - 1) v)) ?_ ?_ 0 t (Nat.zero_le _) (fun _ v hv => absurd hv (Nat.not_lt_zero _))
    · intro R2 t2 ht2
      unfold p_X6_gapOf_B16
      refine ⟨fun _ => ?_, fun q => absurd (by decide) q⟩
      have hrow : ∀ v, v < 9 → (if p = 0 then 0 else nr (fun w => fw (ha C) (p - 1) w + ha C (p - 1) w) v) = fw (ha C) p v := fun v hv => by
        cases p with
        | zero => rfl
        | succ p => rw [if_neg (by omega)]; rfl
      have hfr : ∃ f : Nat → Nat, (∀ v, v < 9 → fr ((p + 1) * 9 + v) = nI (f v) ∧ f v ≤ 30000) ∧ ∀ v, v < 9 → nr f v = bk (ha C) (P - 1 - p) p v := by
        by_cases e : p + 1 = P
        · refine ⟨fun _ => 0, fun v hv => ⟨by rw [e]; exact hf2 v hv, Nat.zero_le _⟩, fun v hv => ?_⟩
          rw [show P - 1 - p = 0 by omega]
          have := nr_le (f := fun _ => 0) (M := 0) (v := v) (fun _ _ => Nat.le_refl _) hv
          show _ = 0
          omega
        · refine ⟨fun w => ha C (p + 1) w + bk (ha C) (P - 1 - (p + 1)) (p + 1) w, fun v hv => ⟨hf1 (p + 1) v (by omega) hv, ?_⟩, fun v hv => ?_⟩
          · have a1 := hh (p + 1) v (by omega) hv; have a2 := hbk (p + 1) v (by omega) hv; show _ + _ ≤ _; omega
          · rw [show P - 1 - p = (P - 1 - (p + 1)) + 1 by omega, bk_succ]
      obtain ⟨f, hf, hnf⟩ := hfr
      have htl : p ≠ 0 → ∀ v, v < 9 → t2 v = nI ((fun w => fw (ha C) (p - 1) w + ha C (p - 1) w) v) ∧ (fun w => fw (ha C) (p - 1) w + ha C (p - 1) w) v ≤ 30000 := fun q v hv => ⟨ht2 q v hv, by have a1 := hfw (p - 1) v (by omega) hv; have a2 := hh (p - 1) v (by omega) hv; show _ + _ ≤ _; omega⟩
      have hTe : ∀ g, mn (fun v => (if p = 0 then 0 else nr (fun w => fw (ha C) (p - 1) w + ha C (p - 1) w) v) + C p g v + nr f v) 8 = th C (ha C) P (fw (ha C) p) p g := fun g => by
        unfold th
        exact mn_congr 8 (fun v hv => by rw [hrow v (by omega), hnf v (by omega)])
      have ha0 : gq (fun p g => th C (ha C) P (fw (ha C) p) p g) σ 100000000 p ≤ 100000000 := (gq_le _ σ 100000000 p).1
      refine wf2_1 (N := 12) (I := fun g y => y = nI (gi (fun g => th C (ha C) P (fw (ha C) p) p g) (σ p) (gq (fun p g => th C (ha C) P (fw (ha C) p) p g) σ 100000000 p) g)) ?_ ?_ 0 x (Nat.zero_le _) hI
      · intro R3 y hy
        unfold p_X6_gapOf_B61
        exact ⟨fun _ => hR y t2 hy, fun q => absurd (by decide) q⟩
      · intro R3 g y hg hy hR3
        unfold p_X6_gapOf_B61
        refine pk_le 12 g (fun q => by omega) (fun _ => ?_)
        refine ⟨vp_in_nI (by omega) (by decide), ?_⟩
        rw [nI_clamp (show p < 2 ^ 31 by omega), (hs p hp).1]
        have hsk := (hs p hp).2
        refine ⟨fun q => ?_, fun q => ?_⟩
        · rw [nI_eq (by omega) (by omega)] at q
          refine s_withSign (c := C p g) (f := f) (by omega) hg (fun v hv => ⟨hc p _ v hg hv (by omega), hb _ _ _ hv⟩) hf htl ?_
          have hm : th C (ha C) P (fw (ha C) p) p g < 2 ^ 31 := by
            unfold th
            refine Nat.lt_of_le_of_lt (mn_lb 8 0 (by decide)) ?_
            have a1 := hfw p 0 (by omega) (by decide); have a2 := hb p g 0 (by decide); have a3 := hbk p 0 hp (by decide)
            omega
          have hg1 := (gi_le (fun g => th C (ha C) P (fw (ha C) p) p g) (σ p) (gq (fun p g => th C (ha C) P (fw (ha C) p) p g) σ 100000000 p) g).1
          rw [hTe, hy]
          refine pk_le _ (th C (ha C) P (fw (ha C) p) p g) (fun z => ?_) (fun z => ?_) rfl rfl (by omega) hm
          · unfold p_X6_gapOf_J103 p_X6_gapOf_J104
            refine hR3 _ ?_
            show _ = nI (if g = σ p then _ else min _ _)
            rw [if_neg q, Nat.min_eq_left z]
          · unfold p_X6_gapOf_J103 p_X6_gapOf_J104
            refine hR3 _ ?_
            show _ = nI (if g = σ p then _ else min _ _)
            rw [if_neg q, Nat.min_eq_right (Nat.le_of_lt z)]
        · rw [nI_eq (by omega) (by omega)] at q
          unfold p_X6_gapOf_J104
          refine hR3 _ ?_
          rw [hy]
          show _ = nI (if g = σ p then _ else min _ _)
          rw [if_pos q]
    · intro R2 v t2 hv ht2 hR2
      unfold p_X6_gapOf_B16
      refine pk_le 9 v (fun q => by omega) (fun _ => ?_)
      refine ⟨fun q => ?_, fun q => ?_⟩
      · rw [show (0 : Int32) = nI 0 from rfl, nI_eq (by omega) (by decide)] at q
        obtain ⟨p0, rfl⟩ : ∃ p0, p = p0 + 1 := ⟨p - 1, by omega⟩
        rw [nI_pred, m9]
        refine ⟨in2 (by omega) (by decide), ?_⟩
        unfold p_X6_gapOf_J51
        refine ⟨vp_in_nI hv (by decide), ?_⟩
        rw [cl2 (by omega), hu p0 v (by omega) hv, nI_clamp (show v < 2 ^ 31 by omega)]
        refine hR2 _ (fun _ w hw => ?_)
        by_cases e : w = v
        · subst e; exact pk_us
        · rw [pk_un e]; exact ht2 q w (by omega)
      · rw [show (0 : Int32) = nI 0 from rfl, nI_eq (by omega) (by decide)] at q
        unfold p_X6_gapOf_J51
        exact ⟨vp_in_nI hv (by decide), hR2 _ (fun z => absurd q z)⟩
/-- the widths of each sign out of its number -/
def wd (num : Nat → Nat) (i : Nat) : Nat := num (i / 6) / 10 ^ (5 - i % 6) % 10
theorem wd_le (num : Nat → Nat) (i : Nat) : wd num i ≤ 9 := by
  have := Nat.mod_lt (num (i / 6) / 10 ^ (5 - i % 6)) (show 0 < 10 by decide)
  unfold wd; omega
theorem wd_at (num : Nat → Nat) {g k : Nat} (hk : k < 6) : wd num (g * 6 + k) = num g / 10 ^ (5 - k) % 10 := by
  unfold wd
  rw [show (g * 6 + k) / 6 = g by omega, show (g * 6 + k) % 6 = k by omega]
theorem sm_rev (f : Nat → Nat) : sm (fun j => f (5 - j)) 6 = sm f 6 := by
  show 0 + f 5 + f 4 + f 3 + f 2 + f 1 + f 0 = 0 + f 0 + f 1 + f 2 + f 3 + f 4 + f 5
  omega
theorem s_costOf {taught ticks : Nat → Int32} {t num : Nat → Nat} {n p g v : Nat} {x4 : Int32} (hn : n ≤ 120) (hp : p * 6 + 6 ≤ n) (hg : g < 12) (hv : v < 9) (ht : ∀ i, i < n → ticks i = nI (t i)) (htb : ∀ i, t i ≤ 60) (hw : taught g = nI (num g)) (hwb : num g < 2 ^ 31) {Q : Int32 → Prop} (hQ : Q (nI (ct (fun i => if x4 = 0 then t i else t (n - 1 - i)) (wd num) p g v))) : p_X6_costOf (nI n) taught ticks (nI p) (nI g) (nI v) x4 Q := by
  unfold p_X6_costOf
  refine ⟨vp_in_nI hg (by decide), ?_⟩
  rw [nI_clamp (show g < 2 ^ 31 by omega), hw, show (5 : Int32) = nI 6 - 1 from by decide]
  refine wd3_2 (N := 6) (I := fun i x5 x6 => x5 = nI (sm (fun j => ad (if x4 = 0 then t (p * 6 + (5 - j)) else t (n - 1 - (p * 6 + (5 - j)))) ((4 + v) * wd num (g * 6 + (5 - j)))) (6 - i)) ∧ x6 = nI (num g / 10 ^ (6 - i))) ?_ ?_ 6 0 (nI (num g)) (Nat.le_refl _) ⟨rfl, by rw [Nat.sub_self, Nat.pow_zero, Nat.div_one]⟩
  · intro R x5 x6 hI
    unfold p_X6_costOf_B14
    refine ⟨fun _ => ?_, fun q => absurd (by decide) q⟩
    rw [hI.1, Nat.sub_zero, sm_rev (fun i => ad (if x4 = 0 then t (p * 6 + i) else t (n - 1 - (p * 6 + i))) ((4 + v) * wd num (g * 6 + i)))]
    exact hQ
  · intro R i x5 x6 hi hI hR
    have e6 : 6 - i = (6 - (i + 1)) + 1 := by omega
    have hd : num g / 10 ^ (6 - (i + 1)) < 2 ^ 31 := Nat.lt_of_le_of_lt (Nat.div_le_self _ _) hwb
    have key : ∀ s0 : Nat, s0 < 120 → ticks s0 = nI (if x4 = 0 then t (p * 6 + i) else t (n - 1 - (p * 6 + i))) → p_X6_costOf_J51 ticks R (nI v) x5 x6 (nI i) (nI s0) := by
      intro s0 hs0 hts
      unfold p_X6_costOf_J51
      refine ⟨vp_in_nI hs0 (by decide), ?_⟩
      have hT : (if x4 = 0 then t (p * 6 + i) else t (n - 1 - (p * 6 + i))) ≤ 60 := by
        by_cases e : x4 = 0
        · rw [if_pos e]; exact htb _
        · rw [if_neg e]; exact htb _
      have hwd : num g / 10 ^ (6 - (i + 1)) % 10 = wd num (g * 6 + i) := by rw [wd_at num (by omega), show 6 - (i + 1) = 5 - i by omega]
      have hE : (4 + v) * wd num (g * 6 + i) ≤ 12 * 9 := Nat.mul_le_mul (by omega) (wd_le _ _)
      rw [nI_clamp (show s0 < 2 ^ 31 by omega), hts, hI.2, show (10 : Int32) = nI 10 from rfl, jrem_nI hd (by decide) (by decide), hwd, show (4 : Int32) = nI 4 from rfl, nI_add, pk_mul]
      have hab := jabs_nI (a := if x4 = 0 then t (p * 6 + i) else t (n - 1 - (p * 6 + i))) (b := (4 + v) * wd num (g * 6 + i)) (by omega) (by omega)
      have fin : ∀ y : Int32, y = nI (ad (if x4 = 0 then t (p * 6 + i) else t (n - 1 - (p * 6 + i))) ((4 + v) * wd num (g * 6 + i))) → p_X6_costOf_J79 R (nI (num g / 10 ^ (6 - (i + 1)))) (nI i) y x5 := by
        intro y ey
        unfold p_X6_costOf_J79
        rw [ey, hI.1, nI_add, show (10 : Int32) = nI 10 from rfl, pk_div hd (by decide) (by decide)]
        refine hR _ _ ⟨?_, ?_⟩
        · rw [e6]
          show _ = nI (sm _ (6 - (i + 1)) + ad (if x4 = 0 then t (p * 6 + (5 - (6 - (i + 1)))) else t (n - 1 - (p * 6 + (5 - (6 - (i + 1)))))) ((4 + v) * wd num (g * 6 + (5 - (6 - (i + 1))))))
          rw [show 5 - (6 - (i + 1)) = i by omega]
        · rw [e6, Nat.pow_succ, Nat.div_div_eq_div_mul]
      unfold jabs at hab
      refine ⟨fun q => ?_, fun q => ?_⟩
      · rw [if_pos q] at hab
        exact fin _ hab
      · rw [if_neg q] at hab
        exact fin _ hab
    unfold p_X6_costOf_B14
    refine ⟨fun q => absurd q (nI_pos (by omega)), fun _ => ?_⟩
    rw [show (6 : Int32) = nI 6 from rfl, pk_mul, nI_add, Nat.mul_comm 6 p]
    refine ⟨fun q => ?_, fun q => ?_⟩
    · exact key _ (by omega) (by rw [if_pos q]; exact ht _ (by omega))
    · rw [show (1 : Int32) = nI 1 from rfl, pk_sub (by omega), pk_sub (by omega)]
      exact key _ (by omega) (by rw [if_neg q]; exact ht _ (by omega))
theorem s_fills {taught ticks costs : Nat → Int32} {t num : Nat → Nat} {n P : Nat} {x1 : Int32} (hn : n ≤ 120) (hnP : n = P * 6) (ht : ∀ i, i < n → ticks i = nI (t i)) (htb : ∀ i, t i ≤ 60) (hw : ∀ g, g < 12 → taught g = nI (num g) ∧ num g < 2 ^ 31) {Q : (Nat → Int32) → Prop} (hQ : ∀ c', cok c' (ct (fun i => if x1 = 0 then t i else t (n - 1 - i)) (wd num)) (P * 108) → Q c') : p_X6_fills (nI n) (nI P) costs taught ticks x1 Q := by
  unfold p_X6_fills
  refine wf2_0 (N := P) (I := fun k a => cok a (ct (fun i => if x1 = 0 then t i else t (n - 1 - i)) (wd num)) (k * 108)) ?_ ?_ 0 costs (Nat.zero_le _) (fun p g v _ _ h => by omega)
  · intro R a ha
    unfold p_X6_fills_B2
    exact ⟨fun _ => hQ a ha, fun q => absurd ((nI_leI (by omega) (by omega)).mpr (Nat.le_refl _)) q⟩
  · intro R p a hp ha hR
    unfold p_X6_fills_B2
    refine pk_le P p (fun q => by omega) (fun _ => ?_)
    refine wf2_0 (N := 12) (I := fun g a => cok a (ct (fun i => if x1 = 0 then t i else t (n - 1 - i)) (wd num)) ((p * 12 + g) * 9)) ?_ ?_ 0 a (Nat.zero_le _) (ha.at (by omega))
    · intro R2 a2 ha2
      unfold p_X6_fills_B12
      exact ⟨fun _ => hR a2 (ha2.at (by omega)), fun q => absurd (by decide) q⟩
    · intro R2 g a2 hg ha2 hR2
      unfold p_X6_fills_B12
      refine pk_le 12 g (fun q => by omega) (fun _ => ?_)
      refine wf2_0 (N := 9) (I := fun v a => cok a (ct (fun i => if x1 = 0 then t i else t (n - 1 - i)) (wd num)) ((p * 12 + g) * 9 + v)) ?_ ?_ 0 a2 (Nat.zero_le _) (ha2.at (by omega))
      · intro R3 a3 ha3
        unfold p_X6_fills_B21
        exact ⟨fun _ => hR2 a3 (ha3.at (by omega)), fun q => absurd (by decide) q⟩
      · intro R3 v a3 hv ha3 hR3
        unfold p_X6_fills_B21
        refine pk_le 9 v (fun q => by omega) (fun _ => ?_)
        refine s_cell ?_
        refine s_costOf (t := t) (num := num) hn (by omega) hg hv ht htb (hw g hg).1 (hw g hg).2 ?_
        refine ⟨vp_in_nI (by omega) (by decide), ?_⟩
        rw [nI_clamp (show (p * 12 + g) * 9 + v < 2 ^ 31 by omega)]
        exact hR3 _ (cok.step hg hv ha3)
