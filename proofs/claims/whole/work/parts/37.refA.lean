/-! the reference's sums -/
theorem s_near {n : Nat} {a : Nat → Int32} {base v : Nat} {f : Nat → Nat} (hn : n < 2 ^ 31) (hb : base + 9 ≤ n) (ha : ∀ k, k < 9 → a (base + k) = nI (f k)) (hf : ∀ k, k < 9 → f k < 2 ^ 31) (hv : v < 9) {Q : Int32 → Prop} (h : Q (nI (nr f v))) : p_X6_near n a (nI base) (nI v) Q := by
  have f0 := hf v hv
  have key : ∀ x : Nat, x < 2 ^ 31 → (8 ≤ v → x = nr f v) → (v < 8 → min x (f (v + 1)) = nr f v) → p_X6_near_J29 n a Q (nI base) (nI v) (nI x) := by
    intro x hx h1 h2
    unfold p_X6_near_J29
    refine pk_le 8 v (fun q => ?_) (fun q => ?_)
    · unfold p_X6_near_J54
      rw [h1 q]; exact h
    · rw [nI_add, nI_1]
      have e : a (nI (base + v + 1)).toNatClampNeg = nI (f (v + 1)) := by rw [nI_clamp (by omega), Nat.add_assoc]; exact ha (v + 1) (by omega)
      have h3 := h2 q
      refine ⟨vp_in_nI (by omega) hn, ?_⟩
      rw [e]
      refine pk_le x (f (v + 1)) (fun z => ?_) (fun z => ⟨vp_in_nI (by omega) hn, ?_⟩) rfl rfl hx (hf _ (by omega))
      · unfold p_X6_near_J54
        rw [show x = nr f v by omega]; exact h
      · unfold p_X6_near_J54
        rw [show f (v + 1) = nr f v by omega]; exact h
  unfold p_X6_near
  rw [nI_add]
  refine ⟨vp_in_nI (by omega) hn, ?_⟩
  rw [nI_clamp (show base + v < 2 ^ 31 by omega), ha v hv]
  refine pk_le v 0 (fun q => ?_) (fun q => ?_)
  · refine key _ f0 (fun z => ?_) (fun z => ?_)
    · omega
    · unfold nr; rw [if_neg (by omega), if_pos (by omega)]
  · obtain ⟨w, rfl⟩ : ∃ w, v = w + 1 := ⟨v - 1, by omega⟩
    rw [← Nat.add_assoc, nI_pred, nI_clamp (show base + w < 2 ^ 31 by omega), ha w (by omega)]
    have fw1 := hf w (by omega)
    refine ⟨vp_in_nI (by omega) hn, ?_⟩
    have k1 : p_X6_near_J29 n a Q (nI base) (nI (w + 1)) (nI (min (f (w + 1)) (f w))) := by
      refine key _ (by omega) (fun z => ?_) (fun z => ?_)
      · unfold nr; rw [if_pos z, if_neg (by omega)]; rfl
      · unfold nr; rw [if_neg (by omega), if_neg (by omega)]; rfl
    refine pk_le (f (w + 1)) (f w) (fun z => ?_) (fun z => ⟨vp_in_nI (by omega) hn, ?_⟩) rfl rfl f0 fw1
    · rw [Nat.min_eq_left z] at k1; exact k1
    · rw [Nat.min_eq_right (by omega)] at k1; exact k1
/-- the least of a and the first n -/
def mf (f : Nat → Nat) (a : Nat) : Nat → Nat
  | 0 => a
  | n + 1 => min (mf f a n) (f n)
theorem mf_mn {f : Nat → Nat} {a : Nat} (h : f 0 ≤ a) : ∀ n, mf f a (n + 1) = mn f n := by
  intro n
  induction n with
  | zero => show min a (f 0) = f 0; omega
  | succ n ih => show min (mf f a (n + 1)) _ = min (mn f n) _; rw [ih]
theorem mf_le {f : Nat → Nat} {a : Nat} : ∀ n, mf f a n ≤ a := by
  intro n
  induction n with
  | zero => exact Nat.le_refl _
  | succ n ih => show min _ _ ≤ a; omega
theorem s_cell {p g v : Nat} {Q : Int32 → Prop} (h : Q (nI ((p * 12 + g) * 9 + v))) : p_X6_cell (nI p) (nI g) (nI v) Q := by
  unfold p_X6_cell
  rw [show (12 : Int32) = nI 12 from rfl, show (9 : Int32) = nI 9 from rfl, pk_mul, nI_add, pk_mul, nI_add, Nat.mul_comm 12 p]
  exact h
theorem s_cheapest {costs : Nat → Int32} {c : Nat → Nat} {p v : Nat} (hp : p < 20) (hv : v < 9) (hc : ∀ g, g < 12 → costs ((p * 12 + g) * 9 + v) = nI (c g) ∧ c g ≤ 1000) {Q : Int32 → Prop} (hQ : Q (nI (mn c 11))) : p_X6_cheapest costs (nI p) (nI v) Q := by
  unfold p_X6_cheapest
  refine wf2_1 (N := 12) (I := fun k x => x = nI (mf c 100000000 k)) ?_ ?_ 0 100000000 (Nat.zero_le _) rfl
  · intro R x hx
    unfold p_X6_cheapest_B6
    refine ⟨fun _ => ?_, fun q => absurd (by decide) q⟩
    rw [hx, mf_mn (by have := (hc 0 (by decide)).2; omega) 11]; exact hQ
  · intro R g x hg hx hR
    unfold p_X6_cheapest_B6
    refine pk_le 12 g (fun q => by omega) (fun _ => ?_)
    refine s_cell ?_
    refine ⟨vp_in_nI (by omega) (by decide), ?_⟩
    have m1 := mf_le (f := c) (a := 100000000) g
    have m2 := (hc g hg).2
    have e : costs (nI ((p * 12 + g) * 9 + v)).toNatClampNeg = nI (c g) := by rw [nI_clamp (by omega)]; exact (hc g hg).1
    rw [e, hx]
    refine pk_le (mf c 100000000 g) (c g) (fun z => ?_) (fun z => ?_)
    · unfold p_X6_cheapest_J45
      refine hR _ ?_
      show _ = nI (min _ _)
      rw [Nat.min_eq_left z]
    · refine s_cell ?_
      refine ⟨vp_in_nI (by omega) (by decide), ?_⟩
      unfold p_X6_cheapest_J45
      rw [e]
      refine hR _ ?_
      show _ = nI (min _ _)
      rw [Nat.min_eq_right (by omega)]
theorem s_sums {costs fr up : Nat → Int32} {C : Nat → Nat → Nat → Nat} {P : Nat} (hP : P ≤ 20) (hP0 : 0 < P) (hc : cok costs C (P * 108)) (hb : ∀ p g v, v < 9 → C p g v ≤ 1000) {Q : Int32 → (Nat → Int32) → (Nat → Int32) → Prop}
    (hQ : ∀ f' u', (∀ p v, p < P → v < 9 → f' (p * 9 + v) = nI (mn (fun g => C p g v) 11 + bk (fun p v => mn (fun g => C p g v) 11) (P - 1 - p) p v)) → (∀ v, v < 9 → f' (P * 9 + v) = nI 0) → (∀ p v, p < P → v < 9 → u' (p * 9 + v) = nI (fw (fun p v => mn (fun g => C p g v) 11) p v + mn (fun g => C p g v) 11)) → Q (nI (mn (fun v => mn (fun g => C 0 g v) 11 + bk (fun p v => mn (fun g => C p g v) 11) (P - 1) 0 v) 8)) f' u') : p_X6_sums (nI P) costs fr up Q := by
  have hh : ∀ p v, p < P → v < 9 → (fun p v => mn (fun g => C p g v) 11) p v ≤ 1000 := fun p v _ hv => mn_le 11 (fun g _ => hb p g v hv)
  have hbk : ∀ p v, p < P → v < 9 → bk (fun p v => mn (fun g => C p g v) 11) (P - 1 - p) p v ≤ 20000 := fun p v hp hv => bk_le2 hP hh hp hv
  have hfw : ∀ p v, p ≤ P → v < 9 → fw (fun p v => mn (fun g => C p g v) 11) p v ≤ 20000 := fun p v hp hv => Nat.le_trans (fw_le (P := P) hh p v hp hv) (by have : p * 1000 ≤ 20 * 1000 := Nat.mul_le_mul_right _ (by omega); omega)
  have hch : ∀ p v, p < P → v < 9 → ∀ g, g < 12 → costs ((p * 12 + g) * 9 + v) = nI (C p g v) ∧ C p g v ≤ 1000 := fun p v hp hv g hg => ⟨hc p g v hg hv (by omega), hb p g v hv⟩
  unfold p_X6_sums
  refine wf2_0 (N := 9) (I := fun k a => ∀ v, v < k → a (P * 9 + v) = nI 0) ?_ ?_ 0 fr (Nat.zero_le _) (fun v hv => absurd hv (Nat.not_lt_zero _))
  · intro R f1 hf1
    unfold p_X6_sums_B2
    refine ⟨fun _ => ?_, fun q => absurd (by decide) q⟩
    refine wd2_0 (N := P) (I := fun i a => (∀ v, v < 9 → a (P * 9 + v) = nI 0) ∧ (∀ p v, i ≤ p → p < P → v < 9 → a (p * 9 + v) = nI (mn (fun g => C p g v) 11 + bk (fun p v => mn (fun g => C p g v) 11) (P - 1 - p) p v))) ?_ ?_ P f1 (Nat.le_refl _) ⟨hf1, fun p v h1 h2 _ => by omega⟩
    · intro R2 f2 hf2
      unfold p_X6_sums_B36
      refine ⟨fun _ => ?_, fun q => absurd (by decide) q⟩
      refine wf2_0 (N := P) (I := fun i a => ∀ p v, v < 9 → p * 9 + v < i * 9 → a (p * 9 + v) = nI (fw (fun p v => mn (fun g => C p g v) 11) p v + mn (fun g => C p g v) 11)) ?_ ?_ 0 up (Nat.zero_le _) (fun p v _ h => by omega)
      · intro R3 u3 hu3
        unfold p_X6_sums_B94
        refine ⟨fun _ => ?_, fun q => absurd ((nI_leI (by omega) (by omega)).mpr (Nat.le_refl _)) q⟩
        have hz : ∀ v, v < 9 → f2 v = nI (mn (fun g => C 0 g v) 11 + bk (fun p v => mn (fun g => C p g v) 11) (P - 1) 0 v) := fun v hv => by
          have := hf2.2 0 v (Nat.zero_le _) hP0 hv
          rw [Nat.zero_mul, Nat.zero_add] at this; exact this
        have hzl : ∀ v, v < 9 → mn (fun g => C 0 g v) 11 + bk (fun p v => mn (fun g => C p g v) 11) (P - 1) 0 v ≤ 21000 := fun v hv => by
          have a1 : mn (fun g => C 0 g v) 11 ≤ 1000 := hh 0 v hP0 hv
          have a2 := hbk 0 v hP0 hv
          rw [Nat.sub_zero] at a2; omega
        refine wf2_1 (N := 9) (I := fun k x => x = nI (mf (fun v => mn (fun g => C 0 g v) 11 + bk (fun p v => mn (fun g => C p g v) 11) (P - 1) 0 v) 100000000 k)) ?_ ?_ 0 100000000 (Nat.zero_le _) rfl
        · intro R4 x hx
          unfold p_X6_sums_B167
          refine ⟨fun _ => ?_, fun q => absurd (by decide) q⟩
          rw [hx, mf_mn (by have := hzl 0 (by decide); omega) 8]
          exact hQ f2 u3 (fun p v hp hv => hf2.2 p v (Nat.zero_le _) hp hv) hf2.1 (fun p v hp hv => hu3 p v hv (by omega))
        · intro R4 k x hk hx hR4
          unfold p_X6_sums_B167
          refine pk_le 9 k (fun q => by omega) (fun _ => ?_)
          refine ⟨vp_in_nI (by omega) (by decide), ?_⟩
          have m1 := mf_le (f := fun v => mn (fun g => C 0 g v) 11 + bk (fun p v => mn (fun g => C p g v) 11) (P - 1) 0 v) (a := 100000000) k
          have m2 := hzl k hk
          rw [nI_clamp (show k < 2 ^ 31 by omega), hz k hk, hx]
          refine pk_le (mf (fun v => mn (fun g => C 0 g v) 11 + bk (fun p v => mn (fun g => C p g v) 11) (P - 1) 0 v) 100000000 k) (mn (fun g => C 0 g k) 11 + bk (fun p v => mn (fun g => C p g v) 11) (P - 1) 0 k) (fun z => ?_) (fun z => ⟨vp_in_nI (by omega) (by decide), ?_⟩)
          · unfold p_X6_sums_J193
            refine hR4 _ ?_
            show _ = nI (min _ _)
            rw [Nat.min_eq_left z]
          · unfold p_X6_sums_J193
            refine hR4 _ ?_
            show _ = nI (min _ _)
            rw [Nat.min_eq_right (Nat.le_of_lt z)]
      · intro R3 p u3 hp hu3 hR3
        unfold p_X6_sums_B94
        refine pk_le P p (fun q => by omega) (fun _ => ?_)
        refine wf2_0 (N := 9) (I := fun k a => ∀ p' v, v < 9 → p' * 9 + v < p * 9 + k → a (p' * 9 + v) = nI (fw (fun p v => mn (fun g => C p g v) 11) p' v + mn (fun g => C p' g v) 11)) ?_ ?_ 0 u3 (Nat.zero_le _) (fun p' v hv h => hu3 p' v hv (by omega))
        · intro R4 u4 hu4
          unfold p_X6_sums_B104
          exact ⟨fun _ => hR3 u4 (fun p' v hv h => hu4 p' v hv (by omega)), fun q => absurd (by decide) q⟩
        · intro R4 v u4 hv hu4 hR4
          unfold p_X6_sums_B104
          refine pk_le 9 v (fun q => by omega) (fun _ => ?_)
          refine s_cheapest (c := fun g => C p g v) (by omega) hv (hch p v hp hv) ?_
          have fin : ∀ x : Nat, x = fw (fun p v => mn (fun g => C p g v) 11) p v → p_X6_sums_J148 u4 R4 (nI v) (nI x) (nI (mn (fun g => C p g v) 11)) (9 * nI p + nI v) := by
            intro x ex
            unfold p_X6_sums_J148
            rw [show (9 : Int32) = nI 9 from rfl, pk_mul, Nat.mul_comm 9 p]
            refine ⟨in2 (by omega) (by decide), ?_⟩
            rw [cl2 (by omega), nI_add]
            refine hR4 _ (fun p' v' hv' h => ?_)
            by_cases e : p' * 9 + v' = p * 9 + v
            · obtain ⟨rfl, rfl⟩ : p' = p ∧ v' = v := by omega
              rw [pk_us, ex, Nat.add_comm]
            · rw [pk_un e]; exact hu4 p' v' hv' (by omega)
          refine ⟨fun q => ?_, fun q => ?_⟩
          · rw [show (0 : Int32) = nI 0 from rfl, nI_eq (by omega) (by decide)] at q
            obtain ⟨p0, rfl⟩ : ∃ p0, p = p0 + 1 := ⟨p - 1, by omega⟩
            rw [nI_pred, show (9 : Int32) * nI p0 = nI (p0 * 9) by rw [show (9 : Int32) = nI 9 from rfl, pk_mul, Nat.mul_comm]]
            refine s_near (f := fun w => fw (fun p v => mn (fun g => C p g v) 11) p0 w + mn (fun g => C p0 g w) 11) (by decide) (by omega) (fun w hw => hu4 p0 w hw (by omega)) (fun w hw => ?_) hv ?_
            · have a1 := hfw p0 w (by omega) hw; have a2 := hh p0 w (by omega) hw
              show _ + _ < _
              simp only at a2; omega
            · exact fin _ rfl
          · rw [show (0 : Int32) = nI 0 from rfl, nI_eq (by omega) (by decide)] at q
            subst q
            exact fin 0 rfl
    · intro R2 p f2 hp hf2 hR2
      unfold p_X6_sums_B36
      refine ⟨fun q => absurd q (nI_pos (by omega)), fun _ => ?_⟩
      refine wf2_0 (N := 9) (I := fun k a => (∀ v, v < 9 → a (P * 9 + v) = nI 0) ∧ (∀ p' v, p + 1 ≤ p' → p' < P → v < 9 → a (p' * 9 + v) = nI (mn (fun g => C p' g v) 11 + bk (fun p v => mn (fun g => C p g v) 11) (P - 1 - p') p' v)) ∧ (∀ v, v < k → a (p * 9 + v) = nI (mn (fun g => C p g v) 11 + bk (fun p v => mn (fun g => C p g v) 11) (P - 1 - p) p v))) ?_ ?_ 0 f2 (Nat.zero_le _) ⟨hf2.1, hf2.2, fun v hv => absurd hv (Nat.not_lt_zero _)⟩
      · intro R3 f3 hf3
        unfold p_X6_sums_B42
        refine ⟨fun _ => hR2 f3 ⟨hf3.1, fun p' v h1 h2 h3 => ?_⟩, fun q => absurd (by decide) q⟩
        by_cases e : p' = p
        · subst e; exact hf3.2.2 v h3
        · exact hf3.2.1 p' v (by omega) h2 h3
      · intro R3 v f3 hv hf3 hR3
        unfold p_X6_sums_B42
        refine pk_le 9 v (fun q => by omega) (fun _ => ?_)
        refine s_cheapest (c := fun g => C p g v) (by omega) hv (hch p v hp hv) ?_
        rw [nI_1, show (9 : Int32) * nI (p + 1) = nI ((p + 1) * 9) by rw [show (9 : Int32) = nI 9 from rfl, pk_mul, Nat.mul_comm], show (9 : Int32) * nI p = nI (p * 9) by rw [show (9 : Int32) = nI 9 from rfl, pk_mul, Nat.mul_comm]]
        have fin : ∀ x : Nat, x = bk (fun p v => mn (fun g => C p g v) 11) (P - 1 - p) p v → (vp_in (nI (p * 9) + nI v) 189 ∧ (R3 (nI v + 1) (upd f3 (Int32.toNatClampNeg (nI (p * 9) + nI v)) (nI (mn (fun g => C p g v) 11) + nI x)))) := by
          intro x ex
          refine ⟨in2 (by omega) (by decide), ?_⟩
          rw [cl2 (by omega), nI_add]
          refine hR3 _ ⟨fun w hw => ?_, fun p' w h1 h2 h3 => ?_, fun w hw => ?_⟩
          · rw [pk_un (by omega)]; exact hf3.1 w hw
          · rw [pk_un (by omega)]; exact hf3.2.1 p' w h1 h2 h3
          · by_cases e : w = v
            · subst e; rw [pk_us, ex]
            · rw [pk_un (by omega)]; exact hf3.2.2 w (by omega)
        by_cases e : p + 1 = P
        · refine s_near (f := fun _ => 0) (by decide) (by omega) (fun w hw => ?_) (fun _ _ => by decide) hv ?_
          · rw [e]; exact hf3.1 w hw
          · refine fin _ ?_
            rw [show P - 1 - p = 0 by omega]
            have := nr_le (f := fun _ => 0) (M := 0) (v := v) (fun _ _ => Nat.le_refl _) hv
            show _ = 0
            omega
        · refine s_near (f := fun w => mn (fun g => C (p + 1) g w) 11 + bk (fun p v => mn (fun g => C p g v) 11) (P - 1 - (p + 1)) (p + 1) w) (by decide) (by omega) (fun w hw => hf3.2.1 (p + 1) w (Nat.le_refl _) (by omega) hw) (fun w hw => ?_) hv ?_
          · have a1 := hbk (p + 1) w (by omega) hw; have a2 := hh (p + 1) w (by omega) hw
            show _ + _ < _
            simp only at a2; omega
          · refine fin _ ?_
            rw [show P - 1 - p = (P - 1 - (p + 1)) + 1 by omega]
            rfl
  · intro R k a hk ha hR
    unfold p_X6_sums_B2
    refine pk_le 9 k (fun q => by omega) (fun _ => ?_)
    rw [show (9 : Int32) * nI P = nI (P * 9) by rw [show (9 : Int32) = nI 9 from rfl, pk_mul, Nat.mul_comm]]
    refine ⟨in2 (by omega) (by decide), ?_⟩
    rw [cl2 (by omega)]
    refine hR _ (fun v hv => ?_)
    by_cases e : v = k
    · subst e; exact pk_us
    · rw [pk_un (by omega)]; exact ha v (by omega)
