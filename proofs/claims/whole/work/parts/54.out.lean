/-! what is out -/
def osm (amt bat : Nat → Int32) (b : Int32) : Nat → Int64
  | 0 => 0
  | n + 1 => if bat n = b then osm amt bat b n + Int32.toInt64 (amt n) else osm amt bat b n
def ot (amt bat told : Nat → Int32) (b P : Nat) : Int64 := osm amt bat (nI b) P - Int32.toInt64 (told b)
theorem osm_n {amt bat : Nat → Int32} {b : Int32} {P : Nat} (ha : ∀ i, i < P → ∃ a, amt i = nI a ∧ a ≤ 9999999) : ∀ n, n ≤ P → ∃ s : Nat, s ≤ n * 9999999 ∧ osm amt bat b n = lN s := by
  intro n
  induction n with
  | zero => intro _; exact ⟨0, Nat.zero_le _, rfl⟩
  | succ n ih =>
    intro hn
    obtain ⟨s, hs, e⟩ := ih (by omega)
    have st : osm amt bat b (n + 1) = if bat n = b then osm amt bat b n + Int32.toInt64 (amt n) else osm amt bat b n := rfl
    by_cases c : bat n = b
    · obtain ⟨a, e2, h2⟩ := ha n (by omega)
      exact ⟨s + a, by omega, by rw [st, if_pos c, e, e2, nI_l (by omega), lN_add]⟩
    · exact ⟨s, Nat.le_trans hs (Nat.mul_le_mul_right _ (Nat.le_succ n)), by rw [st, if_neg c]; exact e⟩
theorem s_sumOut {amt bat told : Nat → Int32} {b P : Nat} (hb : b < 20) (hP : P ≤ 100) {Q : Int64 → Prop} (h : Q (ot amt bat told b P)) : p_X2_sumOut (nI P) amt bat told (nI b) Q := by
  unfold p_X2_sumOut
  refine wf2_1 (N := P) (I := fun k v => v = osm amt bat (nI b) k) ?_ ?_ 0 0 (Nat.zero_le _) rfl
  · intro R v hI
    unfold p_X2_sumOut_B5
    refine ⟨fun _ => ⟨vp_in_nI hb (by decide), ?_⟩, fun q => absurd (Int32.le_refl _) q⟩
    rw [nI_clamp (show b < 2 ^ 31 by omega), hI]; exact h
  · intro R k v hk hI hR
    unfold p_X2_sumOut_B5 p_X2_sumOut_J36
    have st : osm amt bat (nI b) (k + 1) = if bat k = nI b then osm amt bat (nI b) k + Int32.toInt64 (amt k) else osm amt bat (nI b) k := rfl
    refine pk_le P k (fun q => by omega) (fun _ => ?_)
    refine ⟨vp_in_nI (by omega) (by decide), ?_⟩
    rw [nI_clamp (show k < 2 ^ 31 by omega)]
    refine ⟨fun q => ?_, fun q => ⟨vp_in_nI (by omega) (by decide), ?_⟩⟩
    · exact hR _ (by rw [st, if_neg q]; exact hI)
    · exact hR _ (by rw [st, if_pos q, hI])
theorem neg_l {t : Nat} (ht : t ≤ 1000000000) : (jneg (nI t)).toInt64 = 0 - lN t := by
  apply Int64.toInt_inj.mp
  rw [Int32.toInt_toInt64, Int64.toInt_sub, pk_lT (by omega)]
  show (nI 0 - nI t).toInt = _
  rw [pk_sub_toInt (by decide) (by omega), show (0 : Int64).toInt = 0 by decide]
  refine (Int.bmod_eq_of_le (by omega) (by omega)).symm
theorem s_outOf {amt bat told : Nat → Int32} {b P t : Nat} (hb : b < 20) (hP : P ≤ 100) (ht : told b = nI t) (htl : t ≤ 1000000000) {Q : Int64 → Prop} (h : Q (ot amt bat told b P)) : p_X6_outOf (nI P) amt bat told (nI b) Q := by
  unfold p_X6_outOf
  refine ⟨vp_in_nI hb (by decide), ?_⟩
  rw [nI_clamp (show b < 2 ^ 31 by omega)]
  refine wf2_1 (N := P) (I := fun k v => v = Int32.toInt64 (jneg (told b)) + osm amt bat (nI b) k) ?_ ?_ 0 _ (Nat.zero_le _) (Int64.add_zero _).symm
  · intro R v hI
    unfold p_X6_outOf_B12
    refine ⟨fun _ => ?_, fun q => absurd (Int32.le_refl _) q⟩
    have e : v = ot amt bat told b P := by
      unfold ot
      rw [hI, ht, neg_l htl, nI_l (by omega), Int64.sub_eq_add_neg, Int64.zero_add, Int64.add_comm, ← Int64.sub_eq_add_neg]
    rw [e]; exact h
  · intro R k v hk hI hR
    unfold p_X6_outOf_B12 p_X6_outOf_J45
    have st : osm amt bat (nI b) (k + 1) = if bat k = nI b then osm amt bat (nI b) k + Int32.toInt64 (amt k) else osm amt bat (nI b) k := rfl
    refine pk_le P k (fun q => by omega) (fun _ => ?_)
    refine ⟨vp_in_nI (by omega) (by decide), ?_⟩
    rw [nI_clamp (show k < 2 ^ 31 by omega)]
    refine ⟨fun q => ?_, fun q => ⟨vp_in_nI (by omega) (by decide), ?_⟩⟩
    · exact hR _ (by rw [st, if_neg q, hI, Int64.add_zero])
    · exact hR _ (by rw [st, if_pos q, hI, Int64.add_assoc])
theorem b_out {v1 : Prop} {x1 thr b1 b2 p1 p2 : Int32} {a3 : Nat → Int64} {acc amt bnk bat num told acc2 amt2 bnk2 bat2 num2 told2 : Nat → Int32} (h1 : v1) (h : IL b1 b2 p1 p2 acc amt bnk bat num told acc2 amt2 bnk2 bat2 num2 told2) {K : Int32 → (Nat → Int64) → Int64 → Int32 → Prop} (hK : ∀ k a3' b thr', thr' = k → (k = 0 → lg_cmp (a3' (Int32.toNatClampNeg 0)) b = 0) → K k a3' b thr') : p_L_out b1 p1 a3 amt bat told x1 (fun k a3' => v1 ∧ (p_X6_out thr b2 p2 amt2 bat2 told2 x1 (fun b thr' => K k a3' b thr'))) := by
  unfold p_L_out p_X5_out p_X6_out p_X6_out_J17
  obtain ⟨rfl, rfl, rfl, rfl, rfl, rfl, B, P, hB, hP, rfl, rfl, rfl, rfl, ha, htd⟩ := h
  refine s_reqBatch hB (fun b eb hb => ?_) (fun z => ?_)
  · subst eb
    obtain ⟨t, e, ht⟩ := htd b hb
    refine s_sumOut (by omega) hP ⟨pk_in 0 1 (by decide), h1, ?_⟩
    refine s_isBatch hB (fun _ _ _ => ⟨no1, fun _ => ?_⟩) (fun z => absurd z (nob hB rfl hb))
    exact s_outOf (by omega) hP e ht (hK 0 _ _ _ rfl (fun _ => cmp_l _ _))
  · refine ⟨rfl, h1, s_isBatch hB (fun b e hb => absurd z (nob hB e hb)) (fun _ => ⟨fun _ => ?_, fun z => absurd rfl z⟩)⟩
    exact hK 1 _ _ _ rfl no1
/-- what is out, and its negative, in numbers -/
theorem ot_c {amt bat told : Nat → Int32} {b P t : Nat} (hP : P ≤ 100) (ha : ∀ i, i < P → ∃ a, amt i = nI a ∧ a ≤ 9999999) (ht : told b = nI t) (htl : t ≤ 1000000000) : (∃ z, z ≤ 1000000000 ∧ ot amt bat told b P = lN z) ∨ (∃ z, 0 < z ∧ z ≤ 1000000000 ∧ ot amt bat told b P < 0 ∧ jlneg (ot amt bat told b P) = lN z) := by
  obtain ⟨s, hs, e⟩ := osm_n (bat := bat) (b := nI b) ha P (Nat.le_refl _)
  have hs2 : s ≤ 1000000000 := by omega
  have eo : ot amt bat told b P = lN s - lN t := by unfold ot; rw [e, ht, nI_l (by omega)]
  rw [eo]
  by_cases c : t ≤ s
  · exact Or.inl ⟨s - t, by omega, lN_sub c⟩
  · refine Or.inr ⟨t - s, by omega, by omega, ?_, ?_⟩
    · rw [Int64.lt_iff_toInt_lt, Int64.toInt_sub, pk_lT (by omega), pk_lT (by omega), show (0 : Int64).toInt = 0 by decide, Int.bmod_eq_of_le (by omega) (by omega)]
      omega
    · have e2 : lN t - lN s = lN (t - s) := lN_sub (by omega)
      rw [← e2]
      show 0 - (lN s - lN t) = lN t - lN s
      apply Int64.toInt_inj.mp
      rw [Int64.toInt_sub, Int64.toInt_sub, Int64.toInt_sub, pk_lT (by omega), pk_lT (by omega), show (0 : Int64).toInt = 0 by decide, Int.bmod_eq_of_le (n := (s : Int) - t) (by omega) (by omega), Int.bmod_eq_of_le (n := (t : Int) - s) (by omega) (by omega), Int.bmod_eq_of_le (by omega) (by omega)]
      omega
