/-! the head's sums: what the class's methods do, in numbers -/
theorem s_rowOf {p g : Nat} {Q : Int32 → Prop} (h : Q (nI ((p * 12 + g) * 9))) : p_X1_rowOf (nI p) (nI g) Q := by
  unfold p_X1_rowOf
  rw [show (12 : Int32) = nI 12 from rfl, show (9 : Int32) = nI 9 from rfl, pk_mul, nI_add, pk_mul]
  exact h
theorem s_leastNear {a : Nat → Int32} {f : Nat → Nat} {v : Nat} (ha : ∀ k, k < 9 → a k = nI (f k)) (hf : ∀ k, k < 9 → f k < 2 ^ 31) (hv : v < 9) {Q : Int32 → Prop} (h : Q (nI (nr f v))) : p_X1_leastNear a (nI v) Q := by
  have f0 := hf v hv
  have key : ∀ x : Nat, x < 2 ^ 31 → (8 ≤ v → x = nr f v) → (v < 8 → min x (f (v + 1)) = nr f v) → p_X1_leastNear_J24 a Q (nI v) (nI x) := by
    intro x hx h1 h2
    unfold p_X1_leastNear_J24
    refine pk_le 8 v (fun q => ?_) (fun q => ?_)
    · unfold p_X1_leastNear_J43
      rw [h1 q]; exact h
    · refine ⟨in2 (a := v) (b := 1) (by omega) (by decide), ?_⟩
      unfold p_X1_leastNear_J43
      rw [show (nI v + 1 : Int32).toNatClampNeg = v + 1 from cl2 (a := v) (b := 1) (by omega), ha (v + 1) (by omega), jmin_nI hx (hf _ (by omega)), h2 q]
      exact h
  unfold p_X1_leastNear
  refine ⟨vp_in_nI hv (by decide), ?_⟩
  rw [nI_clamp (show v < 2 ^ 31 by omega), ha v hv]
  refine pk_le v 0 (fun q => ?_) (fun q => ?_)
  · refine key _ f0 (fun z => ?_) (fun z => ?_)
    · omega
    · unfold nr; rw [if_neg (by omega), if_pos (by omega)]
  · obtain ⟨w, rfl⟩ : ∃ w, v = w + 1 := ⟨v - 1, by omega⟩
    rw [nI_pred]
    refine ⟨vp_in_nI (by omega) (by decide), ?_⟩
    rw [nI_clamp (show w < 2 ^ 31 by omega), ha w (by omega), jmin_nI f0 (hf _ (by omega))]
    refine key _ (by omega) (fun z => ?_) (fun z => ?_)
    · unfold nr; rw [if_pos z, if_neg (by omega)]; rfl
    · unfold nr; rw [if_neg (by omega), if_neg (by omega)]; rfl
theorem s_sumEnd {here behind joined : Nat → Int32} {h : Nat → Nat → Nat} {P : Nat} (hP : P ≤ 20) (hh : ∀ p v, p < P → v < 9 → here (p * 9 + v) = nI (h p v)) (hb : ∀ p v, p < P → v < 9 → h p v ≤ 1000) {Q : (Nat → Int32) → (Nat → Int32) → Prop} (hQ : ∀ b' j', (∀ p v, p < P → v < 9 → b' (p * 9 + v) = nI (bk h (P - 1 - p) p v)) → Q b' j') : p_X1_sumFromTheEnd (nI P) behind here joined Q := by
  have hbk : ∀ p v, p < P → v < 9 → bk h (P - 1 - p) p v ≤ 20000 := fun p v h1 h2 => Nat.le_trans (bk_le (P := P) hb (P - 1 - p) p v (by omega) h2) (by have : (P - 1 - p) * 1000 ≤ 20 * 1000 := Nat.mul_le_mul_right _ (by omega); omega)
  unfold p_X1_sumFromTheEnd
  refine wd3_0 (N := P) (I := fun i bh jn => (∀ p v, i ≤ p → p < P → v < 9 → bh (p * 9 + v) = nI (bk h (P - 1 - p) p v)) ∧ (i < P → ∀ v, v < 9 → jn v = nI (h i v + bk h (P - 1 - i) i v))) ?_ ?_ P behind joined (Nat.le_refl _) ⟨fun p v h1 h2 _ => by omega, fun q => absurd q (Nat.lt_irrefl _)⟩
  · intro R bh jn hI
    unfold p_X1_sumFromTheEnd_B7
    exact ⟨fun _ => hQ _ _ (fun p v hp hv => hI.1 p v (Nat.zero_le _) hp hv), fun q => absurd (by decide) q⟩
  · intro R i bh jn hi hI hR
    have key : ∀ s0 : Int32, (s0 = 0 ∧ i + 1 < P) ∨ (s0 = 1 ∧ i + 1 = P) → p_X1_sumFromTheEnd_J31 bh here jn R (nI i) (nI i * 9) s0 := by
      intro s0 hs0
      unfold p_X1_sumFromTheEnd_J31
      rw [show (9 : Int32) = nI 9 from rfl, pk_mul]
      refine wf2_0 (N := 9) (I := fun k b => (∀ p v, i + 1 ≤ p → p < P → v < 9 → b (p * 9 + v) = nI (bk h (P - 1 - p) p v)) ∧ (∀ v, v < k → b (i * 9 + v) = nI (bk h (P - 1 - i) i v))) ?_ ?_ 0 bh (Nat.zero_le _) ⟨hI.1, fun v hv => absurd hv (Nat.not_lt_zero _)⟩
      · intro R' b hb'
        unfold p_X1_sumFromTheEnd_B35
        refine ⟨fun _ => ?_, fun q => absurd (by decide) q⟩
        refine wf2_0 (N := 9) (I := fun k j => ∀ v, v < k → j v = nI (h i v + bk h (P - 1 - i) i v)) ?_ ?_ 0 jn (Nat.zero_le _) (fun v hv => absurd hv (Nat.not_lt_zero _))
        · intro R2 j hj
          unfold p_X1_sumFromTheEnd_B74
          refine ⟨fun _ => hR _ _ ⟨fun p v h1 h2 h3 => ?_, fun _ => hj⟩, fun q => absurd (by decide) q⟩
          by_cases e : p = i
          · subst e; exact hb'.2 v h3
          · exact hb'.1 p v (by omega) h2 h3
        · intro R2 k j hk hj hR2
          unfold p_X1_sumFromTheEnd_B74
          refine pk_le 9 k (fun q => by omega) (fun _ => ?_)
          have e1 : (nI (i * 9) + nI k).toNatClampNeg = i * 9 + k := cl2 (by omega)
          refine ⟨in2 (by omega) (by decide), in2 (by omega) (by decide), vp_in_nI hk (by decide), ?_⟩
          rw [e1, nI_clamp (show k < 2 ^ 31 by omega), hh i k hi hk, hb'.2 k hk, nI_add]
          refine hR2 _ (fun v hv => ?_)
          by_cases e : v = k
          · subst e; exact pk_us
          · rw [pk_un e]; exact hj v (by omega)
      · intro R' k b hk hb' hR'
        unfold p_X1_sumFromTheEnd_B35
        refine pk_le 9 k (fun q => by omega) (fun _ => ?_)
        have e1 : (nI (i * 9) + nI k).toNatClampNeg = i * 9 + k := cl2 (by omega)
        have fin : ∀ x : Nat, x = bk h (P - 1 - i) i k → p_X1_sumFromTheEnd_J64 b R' (nI k) (nI x) (nI (i * 9) + nI k) := by
          intro x ex
          unfold p_X1_sumFromTheEnd_J64
          refine ⟨in2 (by omega) (by decide), ?_⟩
          rw [e1]
          refine hR' _ ⟨fun p v h1 h2 h3 => ?_, fun v hv => ?_⟩
          · rw [pk_un (by omega)]; exact hb'.1 p v h1 h2 h3
          · by_cases e : v = k
            · subst e; rw [pk_us, ex]
            · rw [pk_un (by omega)]; exact hb'.2 v (by omega)
        rcases hs0 with ⟨rfl, hs⟩ | ⟨rfl, hs⟩
        · refine ⟨fun _ => ?_, fun q => absurd rfl q⟩
          refine s_leastNear (f := fun w => h (i + 1) w + bk h (P - 1 - (i + 1)) (i + 1) w) (fun w hw => hI.2 hs w hw) (fun w hw => ?_) hk ?_
          · have := hb (i + 1) w hs hw
            have := hbk (i + 1) w hs hw
            show _ + _ < _
            omega
          · refine fin _ ?_
            rw [show P - 1 - i = (P - 1 - (i + 1)) + 1 by omega]
            rfl
        · refine ⟨fun q => absurd q (by decide), fun _ => ?_⟩
          refine fin 0 ?_
          rw [show P - 1 - i = 0 by omega]
          rfl
    unfold p_X1_sumFromTheEnd_B7
    refine ⟨fun q => absurd q (nI_pos (by omega)), fun _ => ?_⟩
    obtain ⟨P', rfl⟩ : ∃ P', P = P' + 1 := ⟨P - 1, by omega⟩
    rw [nI_pred]
    refine ⟨fun q => ?_, fun q => ?_⟩
    · refine key 0 (Or.inl ⟨rfl, ?_⟩)
      rw [nI_eq (by omega) (by omega)] at q
      omega
    · refine key 1 (Or.inr ⟨rfl, ?_⟩)
      rw [nI_eq (by omega) (by omega)] at q
      omega
theorem s_leastCost {here behind : Nat → Int32} {h b : Nat → Nat} (hh : ∀ v, v < 9 → here v = nI (h v)) (hb : ∀ v, v < 9 → behind v = nI (b v)) (hl : ∀ v, v < 9 → h v + b v < 2 ^ 30) {Q : Int32 → Prop} (hQ : Q (nI (mn (fun v => h v + b v) 8))) : p_X1_leastCost behind here Q := by
  unfold p_X1_leastCost
  refine ⟨vp_in_nI (n := 0) (by decide) (by decide), vp_in_nI (n := 0) (by decide) (by decide), ?_⟩
  rw [show Int32.toNatClampNeg 0 = 0 from rfl, hh 0 (by decide), hb 0 (by decide), nI_add]
  refine wf2_1 (N := 9) (I := fun k x => 1 ≤ k ∧ x = nI (mn (fun v => h v + b v) (k - 1))) ?_ ?_ 1 _ (by decide) ⟨by decide, rfl⟩
  · intro R x hx
    unfold p_X1_leastCost_B16
    refine ⟨fun _ => ?_, fun q => absurd (by decide) q⟩
    rw [hx.2]; exact hQ
  · intro R k x hk hx hR
    unfold p_X1_leastCost_B16
    refine pk_le 9 k (fun q => by omega) (fun _ => ?_)
    refine ⟨vp_in_nI (by omega) (by decide), vp_in_nI (by omega) (by decide), ?_⟩
    have m1 : mn (fun v => h v + b v) (k - 1) < 2 ^ 31 := Nat.lt_of_le_of_lt (mn_lb (k - 1) 0 (by omega)) (by have := hl 0 (by decide); omega)
    have m2 := hl k hk
    rw [nI_clamp (show k < 2 ^ 31 by omega), hh k hk, hb k hk, nI_add, hx.2, jmin_nI m1 (by omega)]
    refine hR _ ⟨by omega, ?_⟩
    obtain ⟨j, rfl⟩ : ∃ j, k = j + 1 := ⟨k - 1, by omega⟩
    rfl
