theorem s_allowAny {costs here behind joined : Nat → Int32} {C : Nat → Nat → Nat → Nat} {P : Nat} (hP : P ≤ 20) (hc : cok costs C (P * 108)) (hb : ∀ p g v, v < 9 → C p g v ≤ 1000) {Q : (Nat → Int32) → (Nat → Int32) → (Nat → Int32) → Prop}
    (hQ : ∀ b' h' j', (∀ p v, p < P → v < 9 → h' (p * 9 + v) = nI (mn (fun g => C p g v) 11)) → (∀ p v, p < P → v < 9 → b' (p * 9 + v) = nI (bk (fun p v => mn (fun g => C p g v) 11) (P - 1 - p) p v)) → Q b' h' j') : p_X1_allowAnySigns (nI P) behind costs here joined Q := by
  unfold p_X1_allowAnySigns
  refine wf2_0 (N := P) (I := fun k a => ∀ p v, v < 9 → p * 9 + v < k * 9 → a (p * 9 + v) = nI (mn (fun g => C p g v) 11)) ?_ ?_ 0 here (Nat.zero_le _) (fun p v _ h => by omega)
  · intro R a ha
    unfold p_X1_allowAnySigns_B2
    refine ⟨fun _ => ?_, fun q => absurd ((nI_leI (by omega) (by omega)).mpr (Nat.le_refl _)) q⟩
    refine s_sumEnd (h := fun p v => mn (fun g => C p g v) 11) hP (fun p v hp hv => ha p v hv (by omega)) (fun p v hp hv => mn_le 11 (fun g hg => hb p g v hv)) (fun b' j' h5 => ?_)
    exact hQ b' a j' (fun p v hp hv => ha p v hv (by omega)) h5
  · intro R p a hp ha hR
    unfold p_X1_allowAnySigns_B2
    refine pk_le P p (fun q => by omega) (fun _ => ?_)
    refine wf2_0 (N := 9) (I := fun k a => ∀ p' v, v < 9 → p' * 9 + v < p * 9 + k → a (p' * 9 + v) = nI (mn (fun g => C p' g v) 11)) ?_ ?_ 0 a (Nat.zero_le _) (fun p' v hv h => ha p' v hv (by omega))
    · intro R2 a2 ha2
      unfold p_X1_allowAnySigns_B12
      exact ⟨fun _ => hR a2 (fun p' v hv h => ha2 p' v hv (by omega)), fun q => absurd (by decide) q⟩
    · intro R2 v a2 hv ha2 hR2
      unfold p_X1_allowAnySigns_B12
      refine pk_le 9 v (fun q => by omega) (fun _ => ?_)
      refine s_rowOf (g := 0) ?_
      refine ⟨in2 (by omega) (by decide), ?_⟩
      rw [cl2 (by omega), hc p 0 v (by decide) hv (by omega)]
      refine wf2_1 (N := 12) (I := fun k x => 1 ≤ k ∧ x = nI (mn (fun g => C p g v) (k - 1))) ?_ ?_ 1 _ (by decide) ⟨by decide, rfl⟩
      · intro R3 x hx
        unfold p_X1_allowAnySigns_B34
        refine ⟨fun _ => ?_, fun q => absurd (by decide) q⟩
        rw [show (9 : Int32) = nI 9 from rfl, pk_mul]
        refine ⟨in2 (by omega) (by decide), ?_⟩
        rw [cl2 (by omega), hx.2]
        refine hR2 _ (fun p' v' hv' h => ?_)
        by_cases e : p' * 9 + v' = p * 9 + v
        · obtain ⟨rfl, rfl⟩ : p' = p ∧ v' = v := by omega
          exact pk_us
        · rw [pk_un e]; exact ha2 p' v' hv' (by omega)
      · intro R3 g x hg hx hR3
        unfold p_X1_allowAnySigns_B34
        refine pk_le 12 g (fun q => by omega) (fun _ => ?_)
        refine s_rowOf ?_
        refine ⟨in2 (by omega) (by decide), ?_⟩
        have m1 : mn (fun g => C p g v) (g - 1) ≤ 1000 := mn_le _ (fun j _ => hb p j v hv)
        have m2 := hb p g v hv
        rw [cl2 (by omega), hc p g v hg hv (by omega), hx.2, jmin_nI (by omega) (by omega)]
        refine hR3 _ ⟨by omega, ?_⟩
        obtain ⟨j, rfl⟩ : ∃ j, g = j + 1 := ⟨g - 1, by omega⟩
        rfl
theorem s_startWalk {before : Nat → Int32} {Q : (Nat → Int32) → Prop} (hQ : ∀ b', (∀ v, v < 9 → b' v = nI 0) → Q b') : p_X1_startWalk before Q := by
  unfold p_X1_startWalk
  refine wf2_0 (N := 9) (I := fun k a => ∀ v, v < k → a v = nI 0) ?_ ?_ 0 before (Nat.zero_le _) (fun v hv => absurd hv (Nat.not_lt_zero _))
  · intro R a ha
    unfold p_X1_startWalk_B2
    exact ⟨fun _ => hQ a ha, fun q => absurd (by decide) q⟩
  · intro R k a hk ha hR
    unfold p_X1_startWalk_B2
    refine pk_le 9 k (fun q => by omega) (fun _ => ?_)
    refine ⟨vp_in_nI hk (by decide), ?_⟩
    rw [nI_clamp (show k < 2 ^ 31 by omega)]
    refine hR _ (fun v hv => ?_)
    by_cases e : v = k
    · subst e; exact pk_us
    · rw [pk_un e]; exact ha v (by omega)
theorem s_walkOn {before joined table : Nat → Int32} {n row : Nat} {b c : Nat → Nat} (hn : n < 2 ^ 31) (hr : row + 9 ≤ n) (hb : ∀ v, v < 9 → before v = nI (b v)) (hc : ∀ v, v < 9 → table (row + v) = nI (c v)) (hl : ∀ v, v < 9 → b v + c v < 2 ^ 31) {Q : (Nat → Int32) → (Nat → Int32) → Prop} (hQ : ∀ b' j', (∀ v, v < 9 → b' v = nI (nr (fun w => b w + c w) v)) → Q b' j') : p_X1_walkOn n before joined table (nI row) Q := by
  unfold p_X1_walkOn
  refine wf2_0 (N := 9) (I := fun k a => ∀ v, v < k → a v = nI (b v + c v)) ?_ ?_ 0 joined (Nat.zero_le _) (fun v hv => absurd hv (Nat.not_lt_zero _))
  · intro R j hj
    unfold p_X1_walkOn_B2
    refine ⟨fun _ => ?_, fun q => absurd (by decide) q⟩
    refine wf2_0 (N := 9) (I := fun k a => ∀ v, v < k → a v = nI (nr (fun w => b w + c w) v)) ?_ ?_ 0 before (Nat.zero_le _) (fun v hv => absurd hv (Nat.not_lt_zero _))
    · intro R2 a ha
      unfold p_X1_walkOn_B34
      exact ⟨fun _ => hQ a j ha, fun q => absurd (by decide) q⟩
    · intro R2 k a hk ha hR2
      unfold p_X1_walkOn_B34
      refine pk_le 9 k (fun q => by omega) (fun _ => ?_)
      refine s_leastNear (f := fun w => b w + c w) hj hl hk ?_
      refine ⟨vp_in_nI hk (by decide), ?_⟩
      rw [nI_clamp (show k < 2 ^ 31 by omega)]
      refine hR2 _ (fun v hv => ?_)
      by_cases e : v = k
      · subst e; exact pk_us
      · rw [pk_un e]; exact ha v (by omega)
  · intro R k a hk ha hR
    unfold p_X1_walkOn_B2
    refine pk_le 9 k (fun q => by omega) (fun _ => ?_)
    refine ⟨vp_in_nI hk (by decide), in2 (by omega) hn, vp_in_nI hk (by decide), ?_⟩
    rw [nI_clamp (show k < 2 ^ 31 by omega), cl2 (by omega), hb k hk, hc k hk, nI_add]
    refine hR _ (fun v hv => ?_)
    by_cases e : v = k
    · subst e; exact pk_us
    · rw [pk_un e]; exact ha v (by omega)
theorem s_leastThrough {before behind costs : Nat → Int32} {p g : Nat} {b c d : Nat → Nat} (hp : p < 20) (hg : g < 12) (hb : ∀ v, v < 9 → before v = nI (b v)) (hc : ∀ v, v < 9 → costs ((p * 12 + g) * 9 + v) = nI (c v)) (hd : ∀ v, v < 9 → behind (p * 9 + v) = nI (d v)) (hl : ∀ v, v < 9 → b v + c v + d v < 2 ^ 31) {Q : Int32 → Prop} (hQ : Q (nI (mn (fun v => b v + c v + d v) 8))) : p_X1_leastThrough before behind costs (nI p) (nI g) Q := by
  unfold p_X1_leastThrough
  refine s_rowOf ?_
  rw [show (9 : Int32) = nI 9 from rfl, pk_mul]
  refine ⟨vp_in_nI (n := 0) (by decide) (by decide), vp_in_nI (by omega) (by decide), vp_in_nI (by omega) (by decide), ?_⟩
  have e1 := hc 0 (by decide)
  have e2 := hd 0 (by decide)
  rw [Nat.add_zero] at e1 e2
  rw [show Int32.toNatClampNeg 0 = 0 from rfl, nI_clamp (show (p * 12 + g) * 9 < 2 ^ 31 by omega), nI_clamp (show p * 9 < 2 ^ 31 by omega), hb 0 (by decide), e1, e2, nI_add, nI_add]
  refine wf2_1 (N := 9) (I := fun k x => 1 ≤ k ∧ x = nI (mn (fun v => b v + c v + d v) (k - 1))) ?_ ?_ 1 _ (by decide) ⟨by decide, rfl⟩
  · intro R x hx
    unfold p_X1_leastThrough_B38
    refine ⟨fun _ => ?_, fun q => absurd (by decide) q⟩
    rw [hx.2]; exact hQ
  · intro R k x hk hx hR
    unfold p_X1_leastThrough_B38
    refine pk_le 9 k (fun q => by omega) (fun _ => ?_)
    refine ⟨vp_in_nI hk (by decide), in2 (by omega) (by decide), in2 (by omega) (by decide), ?_⟩
    have m1 : mn (fun v => b v + c v + d v) (k - 1) < 2 ^ 31 := Nat.lt_of_le_of_lt (mn_lb (k - 1) 0 (by omega)) (hl 0 (by decide))
    have m2 := hl k hk
    rw [nI_clamp (show k < 2 ^ 31 by omega), cl2 (by omega), cl2 (by omega), hb k hk, hc k hk, hd k hk, nI_add, nI_add, hx.2, jmin_nI m1 m2]
    refine hR _ ⟨by omega, ?_⟩
    obtain ⟨j, rfl⟩ : ∃ j, k = j + 1 := ⟨k - 1, by omega⟩
    rfl
