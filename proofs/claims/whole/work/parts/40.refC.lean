/-- the reference's sums with the signs, and its speeds -/
theorem s_choosesB {costs fr signs speeds : Nat → Int32} {C : Nat → Nat → Nat → Nat} {σ : Nat → Nat} {P L : Nat} (hP : P ≤ 20) (hP0 : 0 < P) (hL : mn (fun v => C 0 (σ 0) v + bk (fun p v => C p (σ p) v) (P - 1) 0 v) 8 = L) (hc : cok costs C (P * 108)) (hb : ∀ p g v, v < 9 → C p g v ≤ 1000) (hs : ∀ p, p < P → signs p = nI (σ p) ∧ σ p < 12) {Q : (Nat → Int32) → (Nat → Int32) → Prop}
    (hQ : ∀ f' s', (∀ p, p < P → s' p = nI (sv (fun p v => C p (σ p) v) P L p)) → Q f' s') : ∃ n127 : Nat, wl2 (p_X6_chooses_B127 (nI P) (fun x2_154 a_from_154 => ∃ n161 : Nat, wl2 (p_X6_chooses_B161 costs signs (fun x2_227 a_from_227 => ∃ n231 : Nat, wl3 (p_X6_chooses_B231 (nI P) costs a_from_227 signs (fun x2_330 x3_330 a_speeds_330 => Q a_from_227 a_speeds_330)) n231 (nI L) 0 speeds)) n161 (nI P - 1) a_from_154)) n127 0 fr := by
  have hh : ∀ p v, p < P → v < 9 → (fun p v => C p (σ p) v) p v ≤ 1000 := fun p v _ hv => hb _ _ _ hv
  have hh2 : ∀ p v, p < P → v < 9 → C p (σ p) v ≤ 1000 := fun p v _ hv => hb _ _ _ hv
  have hbk : ∀ p v, p < P → v < 9 → bk (fun p v => C p (σ p) v) (P - 1 - p) p v ≤ 20000 := fun p v hp hv => bk_le2 hP hh hp hv
  refine wf2_0 (N := 9) (I := fun k a => ∀ v, v < k → a (P * 9 + v) = nI 0) ?_ ?_ 0 fr (Nat.zero_le _) (fun v hv => absurd hv (Nat.not_lt_zero _))
  · intro R f1 hf1
    unfold p_X6_chooses_B127
    refine ⟨fun _ => ?_, fun q => absurd (by decide) q⟩
    refine wd2_0 (N := P) (I := fun i a => (∀ v, v < 9 → a (P * 9 + v) = nI 0) ∧ (∀ p v, i ≤ p → p < P → v < 9 → a (p * 9 + v) = nI (C p (σ p) v + bk (fun p v => C p (σ p) v) (P - 1 - p) p v))) ?_ ?_ P f1 (Nat.le_refl _) ⟨hf1, fun p v h1 h2 _ => by omega⟩
    · intro R2 f2 hf2
      unfold p_X6_chooses_B161
      refine ⟨fun _ => ?_, fun q => absurd (by decide) q⟩
      have hsp := speed_ok (h := fun p v => C p (σ p) v) hP0 hL hh
      refine wf3_1 (N := P) (I := fun k x s => x = nI (L - (ps (fun p v => C p (σ p) v) P L k).1) ∧ (∀ p, p < k → s p = nI (sv (fun p v => C p (σ p) v) P L p))) ?_ ?_ 0 (nI L) speeds (Nat.zero_le _) ⟨rfl, fun p hp => absurd hp (Nat.not_lt_zero _)⟩
      · intro R3 x s hI
        unfold p_X6_chooses_B231
        exact ⟨fun _ => hQ f2 s hI.2, fun q => absurd ((nI_leI (by omega) (by omega)).mpr (Nat.le_refl _)) q⟩
      · intro R3 p x s hp hI hR3
        unfold p_X6_chooses_B231
        refine pk_le P p (fun q => by omega) (fun _ => ?_)
        have e := hsp p hp
        have s8 := sv_le (L := L) hh hp
        obtain ⟨o1, o2, o3⟩ := ps_ok (L := L) hh p (by omega)
        have o4 : p * 1000 ≤ 20 * 1000 := Nat.mul_le_mul_right _ (by omega)
        have b1 := hh2 p (sv (fun p v => C p (σ p) v) P L p) hp (by omega)
        have b2 := hbk p (sv (fun p v => C p (σ p) v) P L p) hp (by omega)
        have lmin : (ps (fun p v => C p (σ p) v) P L p).2.1 ≤ sv (fun p v => C p (σ p) v) P L p := (ff_spec _ L _ _).1
        have hno := (ff_spec (fun v => (ps (fun p v => C p (σ p) v) P L p).1 + C p (σ p) v + bk (fun p v => C p (σ p) v) (P - 1 - p) p v) L ((ps (fun p v => C p (σ p) v) P L p).2.2 - (ps (fun p v => C p (σ p) v) P L p).2.1) (ps (fun p v => C p (σ p) v) P L p).2.1).2.2.1
        have key : ∀ v0 : Nat, v0 = (ps (fun p v => C p (σ p) v) P L p).2.1 → p_X6_chooses_J272 costs f2 signs s R3 x (nI p) (nI v0) := by
          intro v0 ev0
          unfold p_X6_chooses_J272
          refine wf1_0 (N := sv (fun p v => C p (σ p) v) P L p) (I := fun v => (ps (fun p v => C p (σ p) v) P L p).2.1 ≤ v) ?_ ?_ v0 (by omega) (by omega)
          · intro R4 _
            unfold p_X6_chooses_B274
            rw [m9]
            refine ⟨in2 (by omega) (by decide), ?_⟩
            rw [cl2 (by omega), hf2.2 p _ (Nat.zero_le _) hp (by omega), hI.1]
            refine pk_eq _ (L - (ps (fun p v => C p (σ p) v) P L p).1) (fun _ => ?_) (fun q => absurd (by omega) q) rfl rfl (by omega) (by omega)
            refine ⟨vp_in_nI (by omega) (by decide), vp_in_nI (by omega) (by decide), ?_⟩
            rw [nI_clamp (show p < 2 ^ 31 by omega), (hs p hp).1]
            have hg := (hs p hp).2
            refine s_cell ?_
            refine ⟨vp_in_nI (by omega) (by decide), ?_⟩
            rw [nI_clamp (show (p * 12 + σ p) * 9 + sv (fun p v => C p (σ p) v) P L p < 2 ^ 31 by omega), hc p _ _ hg (by omega) (by omega), pk_sub (by omega)]
            refine hR3 _ _ ⟨?_, fun q hq => ?_⟩
            · rw [ps_succ]
              exact congrArg nI (by show _ - _ - _ = L - (_ + _); omega)
            · by_cases eq : q = p
              · subst eq; exact pk_us
              · rw [pk_un eq]; exact hI.2 q (by omega)
          · intro R4 v hv hv0 hR4
            unfold p_X6_chooses_B274
            rw [m9]
            refine ⟨in2 (by omega) (by decide), ?_⟩
            have c1 := hh2 p v hp (by omega)
            have c2 := hbk p v hp (by omega)
            rw [cl2 (by omega), hf2.2 p v (Nat.zero_le _) hp (by omega), hI.1]
            refine pk_eq _ (L - (ps (fun p v => C p (σ p) v) P L p).1) (fun q => ?_) (fun q => hR4 (by omega)) rfl rfl (by omega) (by omega)
            refine absurd ?_ (hno v hv0 hv)
            show _ + _ + _ = L
            omega
        refine ⟨fun q => ?_, fun q => ?_⟩
        · rw [show (0 : Int32) = nI 0 from rfl, nI_eq (by omega) (by decide)] at q
          obtain ⟨p0, rfl⟩ : ∃ p0, p = p0 + 1 := ⟨p - 1, by omega⟩
          have s80 := sv_le (L := L) hh (show p0 < P by omega)
          have eps : (ps (fun p v => C p (σ p) v) P L (p0 + 1)).2.1 = sv (fun p v => C p (σ p) v) P L p0 - 1 := by rw [ps_succ]
          rw [nI_pred, nI_clamp (show p0 < 2 ^ 31 by omega), hI.2 p0 (by omega)]
          refine ⟨vp_in_nI (by omega) (by decide), ?_⟩
          refine pk_le _ 0 (fun z => ?_) (fun z => ⟨vp_in_nI (by omega) (by decide), ?_⟩) rfl rfl (by omega) (by decide)
          · exact key 0 (by omega)
          · rw [show (1 : Int32) = nI 1 from rfl, pk_sub (by omega)]
            exact key _ eps.symm
        · rw [show (0 : Int32) = nI 0 from rfl, nI_eq (by omega) (by decide)] at q
          subst q
          exact key 0 rfl
    · intro R2 p f2 hp hf2 hR2
      unfold p_X6_chooses_B161
      refine ⟨fun q => absurd q (nI_pos (by omega)), fun _ => ?_⟩
      refine wf2_0 (N := 9) (I := fun k a => (∀ v, v < 9 → a (P * 9 + v) = nI 0) ∧ (∀ p' v, p + 1 ≤ p' → p' < P → v < 9 → a (p' * 9 + v) = nI (C p' (σ p') v + bk (fun p v => C p (σ p) v) (P - 1 - p') p' v)) ∧ (∀ v, v < k → a (p * 9 + v) = nI (C p (σ p) v + bk (fun p v => C p (σ p) v) (P - 1 - p) p v))) ?_ ?_ 0 f2 (Nat.zero_le _) ⟨hf2.1, hf2.2, fun v hv => absurd hv (Nat.not_lt_zero _)⟩
      · intro R3 f3 hf3
        unfold p_X6_chooses_B167
        refine ⟨fun _ => hR2 f3 ⟨hf3.1, fun p' v h1 h2 h3 => ?_⟩, fun q => absurd (by decide) q⟩
        by_cases e : p' = p
        · subst e; exact hf3.2.2 v h3
        · exact hf3.2.1 p' v (by omega) h2 h3
      · intro R3 v f3 hv hf3 hR3
        unfold p_X6_chooses_B167
        refine pk_le 9 v (fun q => by omega) (fun _ => ?_)
        refine ⟨vp_in_nI (by omega) (by decide), ?_⟩
        rw [nI_clamp (show p < 2 ^ 31 by omega), (hs p hp).1]
        have hg := (hs p hp).2
        refine s_cell ?_
        refine ⟨vp_in_nI (by omega) (by decide), ?_⟩
        rw [nI_clamp (show (p * 12 + σ p) * 9 + v < 2 ^ 31 by omega), hc p _ v hg hv (by omega), nI_1, m9, m9]
        have fin : ∀ x : Nat, x = bk (fun p v => C p (σ p) v) (P - 1 - p) p v → (vp_in (nI (p * 9) + nI v) 189 ∧ (R3 (nI v + 1) (upd f3 (Int32.toNatClampNeg (nI (p * 9) + nI v)) (nI (C p (σ p) v) + nI x)))) := by
          intro x ex
          refine ⟨in2 (by omega) (by decide), ?_⟩
          rw [cl2 (by omega), nI_add]
          refine hR3 _ ⟨fun w hw => ?_, fun p' w h1 h2 h3 => ?_, fun w hw => ?_⟩
          · rw [pk_un (by omega)]; exact hf3.1 w hw
          · rw [pk_un (by omega)]; exact hf3.2.1 p' w h1 h2 h3
          · by_cases e : w = v
            · subst e; rw [pk_us, ex]
            · rw [pk_un (by omega)]; exact hf3.2.2 w (by omega)
        by_cases e : p + 1 = P
        · refine s_near (f := fun _ => 0) (by decide) (by omega) (fun w hw => ?_) (fun _ _ => by decide) hv ?_
          · rw [e]; exact hf3.1 w hw
          · refine fin _ ?_
            rw [show P - 1 - p = 0 by omega]
            have := nr_le (f := fun _ => 0) (M := 0) (v := v) (fun _ _ => Nat.le_refl _) hv
            show _ = 0
            omega
        · refine s_near (f := fun w => C (p + 1) (σ (p + 1)) w + bk (fun p v => C p (σ p) v) (P - 1 - (p + 1)) (p + 1) w) (by decide) (by omega) (fun w hw => hf3.2.1 (p + 1) w (Nat.le_refl _) (by omega) hw) (fun w hw => ?_) hv ?_
          · have a1 := hbk (p + 1) w (by omega) hw; have a2 := hh2 (p + 1) w (by omega) hw
            show _ + _ < _
            omega
          · refine fin _ ?_
            rw [show P - 1 - p = (P - 1 - (p + 1)) + 1 by omega, bk_succ]
  · intro R k a hk ha hR
    unfold p_X6_chooses_B127
    refine pk_le 9 k (fun q => by omega) (fun _ => ?_)
    rw [m9]
    refine ⟨in2 (by omega) (by decide), ?_⟩
    rw [cl2 (by omega)]
    refine hR _ (fun v hv => ?_)
    by_cases e : v = k
    · subst e; exact pk_us
    · rw [pk_un (by omega)]; exact ha v (by omega)
theorem s_chooses {costs fr next signs speeds told : Nat → Int32} {C : Nat → Nat → Nat → Nat} {P L : Nat} (hP : P ≤ 20) (hP0 : 0 < P) (hL : bs C P = L) (hL2 : L < 2 ^ 31) (hc : cok costs C (P * 108)) (hb : ∀ p g v, v < 9 → C p g v ≤ 1000)
    (hf1 : ∀ p v, p < P → v < 9 → fr (p * 9 + v) = nI (ha C p v + bk (ha C) (P - 1 - p) p v)) (hf2 : ∀ v, v < 9 → fr (P * 9 + v) = nI 0) {Q : (Nat → Int32) → (Nat → Int32) → (Nat → Int32) → (Nat → Int32) → (Nat → Int32) → Prop}
    (hQ : ∀ f' n' s' v' t', (∀ p, p < P → s' p = nI (sg C (ha C) P L p)) → (∀ p, p < P → v' p = nI (sv (fun p v => C p (sg C (ha C) P L p) v) P L p)) → Q f' n' s' v' t') : p_X6_chooses (nI P) costs fr next signs speeds told (nI L) Q := by
  unfold p_X6_chooses
  refine s_choosesA hP hP0 hL hL2 hc hb hf1 hf2 (fun n' s' t' h1 => ?_)
  exact s_choosesB (σ := sg C (ha C) P L) hP hP0 (pick_cost hP0 hL) hc hb (fun p hp => ⟨h1 p hp, sg_lt _ _ _ _ _⟩) (fun f' v' h2 => hQ f' n' s' v' t' h1 h2)
