theorem s_costWith {kept next signs told : Nat → Int32} {C : Nat → Nat → Nat → Nat} {σ : Nat → Nat} {place sign : Nat} (hc : cok kept C (18 * 108)) (hb : ∀ p g v, v < 9 → C p g v ≤ 1000) (hs : ∀ p, p < 18 → signs p = nI (σ p) ∧ σ p < 12) (hpl : place < 18) (hsg : sign < 12) {Q : Int32 → (Nat → Int32) → (Nat → Int32) → Prop} (hQ : ∀ n' t', Q (nI (lw C (wth σ place sign) 18)) n' t') : p_X6_costWith kept next signs told (nI place) (nI sign) Q := by
  have hτ : ∀ p, p < 18 → wth σ place sign p < 12 := fun p hp => by
    unfold wth
    by_cases e : p = place
    · rw [if_pos e]; exact hsg
    · rw [if_neg e]; exact (hs p hp).2
  have hh : ∀ p v, p < 18 → v < 9 → (fun p v => C p (wth σ place sign p) v) p v ≤ 1000 := fun p v _ hv => hb _ _ _ hv
  have hh2 : ∀ p v, v < 9 → C p (wth σ place sign p) v ≤ 1000 := fun p v hv => hb _ _ _ hv
  have hfw : ∀ p v, p ≤ 18 → v < 9 → fw (fun p v => C p (wth σ place sign p) v) p v ≤ 20000 := fun p v hp hv => Nat.le_trans (fw_le (P := 18) hh p v hp hv) (by have : p * 1000 ≤ 20 * 1000 := Nat.mul_le_mul_right _ (by omega); omega)
  unfold p_X6_costWith
  refine wf2_0 (N := 9) (I := fun k a => ∀ v, v < k → a v = nI 0) ?_ ?_ 0 told (Nat.zero_le _) (fun v hv => absurd hv (Nat.not_lt_zero _))
  · intro R t1 ht1
    unfold p_X6_costWith_B2
    refine ⟨fun _ => ?_, fun q => absurd (by decide) q⟩
    -- told at place p: joined of p - 1, zero at the start; near of it is fw p
    refine wf3_0 (N := 18) (I := fun p _ t => ∃ tl : Nat → Nat, (∀ v, v < 9 → t v = nI (tl v) ∧ tl v ≤ 30000) ∧ (∀ v, v < 9 → nr tl v = fw (fun p v => C p (wth σ place sign p) v) p v) ∧ (p = 18 → ∀ v, v < 9 → tl v = fw (fun p v => C p (wth σ place sign p) v) 17 v + C 17 (wth σ place sign 17) v)) ?_ ?_ 0 next t1 (Nat.zero_le _) ⟨fun _ => 0, fun v hv => ⟨ht1 v hv, Nat.zero_le _⟩, fun v hv => ?_, fun q => by omega⟩
    · intro R2 n' t' hI
      obtain ⟨tl, h1, -, h3⟩ := hI
      unfold p_X6_costWith_B23
      refine ⟨fun _ => ?_, fun q => absurd (by decide) q⟩
      have hm : mn tl 8 = lw C (wth σ place sign) 18 := by
        unfold lw
        refine Eq.trans (mn_congr 8 (fun v hv => h3 rfl v (by omega))) ?_
        exact fb_end (h := fun p v => C p (wth σ place sign p) v) (P := 18) (by decide)
      refine wf2_1 (N := 9) (I := fun k x => x = nI (mf tl 100000000 k)) ?_ ?_ 0 100000000 (Nat.zero_le _) rfl
      · intro R3 x hx
        unfold p_X6_costWith_B135
        refine ⟨fun _ => ?_, fun q => absurd (by decide) q⟩
        rw [hx, mf_mn (by have := (h1 0 (by decide)).2; omega) 8, hm]
        exact hQ n' t'
      · intro R3 k x hk hx hR3
        unfold p_X6_costWith_B135
        refine pk_le 9 k (fun q => by omega) (fun _ => ?_)
        refine ⟨vp_in_nI hk (by decide), ?_⟩
        have m1 := mf_le (f := tl) (a := 100000000) k
        have m2 := (h1 k hk).2
        rw [nI_clamp (show k < 2 ^ 31 by omega), (h1 k hk).1, hx]
        refine pk_le (mf tl 100000000 k) (tl k) (fun z => ?_) (fun z => ⟨vp_in_nI hk (by decide), ?_⟩)
        · unfold p_X6_costWith_J164
          refine hR3 _ ?_
          show _ = nI (min _ _)
          rw [Nat.min_eq_left z]
        · unfold p_X6_costWith_J164
          refine hR3 _ ?_
          show _ = nI (min _ _)
          rw [Nat.min_eq_right (Nat.le_of_lt z)]
    · intro R2 p n' t' hp hI hR2
      obtain ⟨tl, h1, h2, -⟩ := hI
      unfold p_X6_costWith_B23
      refine pk_le 18 p (fun q => by omega) (fun _ => ?_)
      have key : ∀ g : Nat, g = wth σ place sign p → p_X6_costWith_J44 kept n' t' R2 (nI p) (nI g) := by
        intro g eg
        have hg : g < 12 := by rw [eg]; exact hτ p hp
        unfold p_X6_costWith_J44
        refine wf2_0 (N := 9) (I := fun k a => ∀ v, v < k → a v = nI (fw (fun p v => C p (wth σ place sign p) v) p v + C p g v)) ?_ ?_ 0 n' (Nat.zero_le _) (fun v hv => absurd hv (Nat.not_lt_zero _))
        · intro R3 a ha3
          unfold p_X6_costWith_B49
          refine ⟨fun _ => ?_, fun q => absurd (by decide) q⟩
          refine wf2_0 (N := 9) (I := fun k t => ∀ v, v < k → t v = nI (fw (fun p v => C p (wth σ place sign p) v) p v + C p g v)) ?_ ?_ 0 t' (Nat.zero_le _) (fun v hv => absurd hv (Nat.not_lt_zero _))
          · intro R4 t4 ht4
            unfold p_X6_costWith_B96
            refine ⟨fun _ => ?_, fun q => absurd (by decide) q⟩
            refine hR2 _ _ ⟨fun w => fw (fun p v => C p (wth σ place sign p) v) p w + C p g w, fun v hv => ⟨ht4 v hv, ?_⟩, fun v hv => ?_, fun q v hv => ?_⟩
            · have a1 := hfw p v (by omega) hv; have a2 := hb p g v hv; show _ + _ ≤ _; omega
            · rw [eg]; rfl
            · obtain rfl : p = 17 := by omega
              rw [eg]
          · intro R4 v t4 hv ht4 hR4
            unfold p_X6_costWith_B96
            refine pk_le 9 v (fun q => by omega) (fun _ => ?_)
            refine ⟨vp_in_nI hv (by decide), vp_in_nI hv (by decide), ?_⟩
            rw [nI_clamp (show v < 2 ^ 31 by omega), ha3 v hv]
            refine hR4 _ (fun w hw => ?_)
            by_cases e : w = v
            · subst e; exact pk_us
            · rw [pk_un e]; exact ht4 w (by omega)
        · intro R3 v a hv ha3 hR3
          unfold p_X6_costWith_B49
          refine pk_le 9 v (fun q => by omega) (fun _ => ?_)
          refine s_near (base := 0) (f := tl) (by decide) (by decide) (fun k hk => by rw [Nat.zero_add]; exact (h1 k hk).1) (fun k hk => Nat.lt_of_le_of_lt (h1 k hk).2 (by decide)) hv ?_
          refine s_cell ?_
          refine ⟨vp_in_nI (by omega) (by decide), vp_in_nI hv (by decide), ?_⟩
          rw [nI_clamp (show (p * 12 + g) * 9 + v < 2 ^ 31 by omega), hc p g v hg hv (by omega), nI_add, nI_clamp (show v < 2 ^ 31 by omega), h2 v hv]
          refine hR3 _ (fun w hw => ?_)
          by_cases e : w = v
          · subst e; exact pk_us
          · rw [pk_un e]; exact ha3 w (by omega)
      refine ⟨fun q => ?_, fun q => ?_⟩
      · rw [nI_eq (by omega) (by omega)] at q
        refine ⟨vp_in_nI (by omega) (by decide), ?_⟩
        rw [nI_clamp (show p < 2 ^ 31 by omega), (hs p hp).1]
        exact key _ (by unfold wth; rw [if_neg q])
      · rw [nI_eq (by omega) (by omega)] at q
        exact key _ (by unfold wth; rw [if_pos q])
    · have := nr_le (f := fun _ => 0) (M := 0) (v := v) (fun _ _ => Nat.le_refl _) hv
      show _ = 0
      omega
  · intro R k a hk ha2 hR
    unfold p_X6_costWith_B2
    refine pk_le 9 k (fun q => by omega) (fun _ => ?_)
    refine ⟨vp_in_nI hk (by decide), ?_⟩
    rw [nI_clamp (show k < 2 ^ 31 by omega)]
    refine hR _ (fun v hv => ?_)
    by_cases e : v = k
    · subst e; exact pk_us
    · rw [pk_un e]; exact ha2 v (by omega)
/-- one way of laying: places, costs, and the sums of any signs -/
theorem s_measure {ticks widths behind costs here joined laid : Nat → Int32} {t num : Nat → Nat} {P : Nat} {pl x1 : Int32} (hP : P ≤ 20) (hP0 : 0 < P) (ht : ∀ i, i < P * 6 → ticks i = nI (t i)) (htb : ∀ i, t i ≤ 60) (hw : ∀ i, i < 72 → widths i = nI (wd num i)) {Q : Int32 → Int32 → (Nat → Int32) → (Nat → Int32) → (Nat → Int32) → (Nat → Int32) → (Nat → Int32) → Prop}
    (hQ : ∀ b' c' h' j' l', cok c' (ct (fun i => if x1 = 0 then t i else t (P * 6 - 1 - i)) (wd num)) (P * 108) → (∀ p v, p < P → v < 9 → h' (p * 9 + v) = nI (ha (ct (fun i => if x1 = 0 then t i else t (P * 6 - 1 - i)) (wd num)) p v)) → (∀ p v, p < P → v < 9 → b' (p * 9 + v) = nI (bk (ha (ct (fun i => if x1 = 0 then t i else t (P * 6 - 1 - i)) (wd num))) (P - 1 - p) p v)) → Q (nI (bs (ct (fun i => if x1 = 0 then t i else t (P * 6 - 1 - i)) (wd num)) P)) (nI P) b' c' h' j' l') : p_X5_measure (nI (P * 6)) pl ticks widths behind costs here joined laid x1 Q := by
  unfold p_X5_measure
  have htb2 : ∀ i, (if x1 = 0 then t i else t (P * 6 - 1 - i)) ≤ 60 := fun i => by
    by_cases e : x1 = 0
    · rw [if_pos e]; exact htb _
    · rw [if_neg e]; exact htb _
  refine s_lay (t := t) (by omega) ht (fun l' h1 => ?_)
  rw [show P * 6 / 6 = P by omega]
  refine s_weigh (t := fun i => if x1 = 0 then t i else t (P * 6 - 1 - i)) (w := wd num) hP h1 htb2 hw (wd_le num) (fun c' hc => ?_)
  refine s_allowAny (C := ct (fun i => if x1 = 0 then t i else t (P * 6 - 1 - i)) (wd num)) hP hc (fun p g v hv => ct_le htb2 (wd_le num) hv) (fun b' h' j' h2 h3 => ?_)
  have hh : ∀ p v, p < P → v < 9 → ha (ct (fun i => if x1 = 0 then t i else t (P * 6 - 1 - i)) (wd num)) p v ≤ 1000 := fun p v _ hv => mn_le 11 (fun g _ => ct_le htb2 (wd_le num) hv)
  refine s_leastCost (h := fun v => ha (ct (fun i => if x1 = 0 then t i else t (P * 6 - 1 - i)) (wd num)) 0 v) (b := fun v => bk (ha (ct (fun i => if x1 = 0 then t i else t (P * 6 - 1 - i)) (wd num))) (P - 1) 0 v) (fun v hv => ?_) (fun v hv => ?_) (fun v hv => ?_) ?_
  · have := h2 0 v hP0 hv; rw [Nat.zero_mul, Nat.zero_add] at this; exact this
  · have := h3 0 v hP0 hv; rw [Nat.zero_mul, Nat.zero_add] at this; exact this
  · have a1 := hh 0 v hP0 hv
    have a2 := bk_le2 hP hh hP0 hv
    rw [Nat.sub_zero] at a2
    omega
  · exact hQ b' c' h' j' l' hc h2 h3
