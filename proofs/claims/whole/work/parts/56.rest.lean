/-! slips, slip, count, read -/
theorem b_slips {v1 : Prop} {x1 thr b1 b2 p1 p2 sz c1 c2 c3 : Int32} {a3 : Nat → Int64} {am ki pa acc amt bnk bat num told acc2 amt2 bnk2 bat2 num2 told2 : Nat → Int32} (h1 : v1) (h : IL b1 b2 p1 p2 acc amt bnk bat num told acc2 amt2 bnk2 bat2 num2 told2) {K : Int32 → Int32 → (Nat → Int64) → (Nat → Int32) → (Nat → Int32) → (Nat → Int32) → Int32 → Int32 → Int32 → Int32 → Int32 → Prop} (hK : ∀ k sz' a3' am' ki' pa' b thr' c1' c2' c3', thr' = k → (k = 0 → lg_cmp (a3' (Int32.toNatClampNeg 0)) (Int32.toInt64 b) = 0) → K k sz' a3' am' ki' pa' b thr' c1' c2' c3') : p_L_slips sz b1 p1 a3 am ki pa amt bat told x1 (fun k sz' a3' am' ki' pa' => v1 ∧ (p_X6_slips thr b2 p2 c1 c2 c3 amt2 bat2 told2 x1 (fun b thr' c1' c2' c3' => K k sz' a3' am' ki' pa' b thr' c1' c2' c3'))) := by
  unfold p_L_slips p_X5_slips p_X6_slips p_X6_slips_J19
  obtain ⟨rfl, rfl, rfl, rfl, rfl, rfl, B, P, hB, hP, rfl, rfl, rfl, rfl, ha, htd⟩ := h
  refine s_reqBatch hB (fun b eb hb => ?_) (fun z => ?_)
  · subst eb
    obtain ⟨t, e, ht⟩ := htd b hb
    rw [show (100000 : Int32) = nI 100000 from rfl]
    refine s_explain rfl (by omega) hP ha (fun z am' ki' pa' => ?_) (fun z sz' am' ki' pa' hr => ?_)
    · refine ⟨pk_in 0 1 (by decide), h1, s_isBatch hB (fun _ _ _ => ⟨no1, fun _ => ?_⟩) (fun z => absurd z (nob hB rfl hb))⟩
      exact s_looks rfl (by omega) hP ha e ht (by decide) (fun _ _ _ _ => hK 0 _ _ _ _ _ _ _ _ _ _ rfl (fun _ => cmp_b _ _)) (fun y => absurd z y) (fun y => absurd z y)
    · obtain ⟨rfl, hj⟩ := hr
      have hle := ful_le amt bat (nI b) (ot amt bat told b P) P
      refine ⟨pk_in 0 1 (by decide), h1, s_isBatch hB (fun _ _ _ => ⟨no1, fun _ => ?_⟩) (fun z => absurd z (nob hB rfl hb))⟩
      exact s_looks rfl (by omega) hP ha e ht (by decide) (fun y => absurd y z) (fun _ e he => absurd (none_at (by omega) he) id) (fun _ _ _ _ _ => hK 0 _ _ _ _ _ _ _ _ _ _ rfl (fun _ => cmp_b _ _))
  · refine ⟨rfl, h1, s_isBatch hB (fun b e hb => absurd z (nob hB e hb)) (fun _ => ⟨fun _ => ?_, fun z => absurd rfl z⟩)⟩
    exact hK 1 _ _ _ _ _ _ _ _ _ _ rfl no1
theorem b_slip {v1 v2 v3 : Prop} {x1 x2 x3 thr b1 b2 p1 p2 sz c1 c2 c3 : Int32} {a3 : Nat → Int64} {am ki pa acc amt bnk bat num told acc2 amt2 bnk2 bat2 num2 told2 : Nat → Int32} (h1 : v1) (h2 : v2) (h3 : v3) (h : IL b1 b2 p1 p2 acc amt bnk bat num told acc2 amt2 bnk2 bat2 num2 told2) {K : Int32 → Int32 → (Nat → Int64) → (Nat → Int32) → (Nat → Int32) → (Nat → Int32) → Int32 → Int32 → Int32 → Int32 → Int32 → Prop} (hK : ∀ k sz' a3' am' ki' pa' b thr' c1' c2' c3', thr' = k → (k = 0 → lg_cmp (a3' (Int32.toNatClampNeg 0)) (Int32.toInt64 b) = 0) → K k sz' a3' am' ki' pa' b thr' c1' c2' c3') : p_L_slip sz b1 p1 a3 am ki pa amt bat told x1 x2 x3 (fun k sz' a3' am' ki' pa' => v1 ∧ (v2 ∧ (v3 ∧ (p_X6_slip thr b2 p2 c1 c2 c3 amt2 bat2 told2 x1 x2 x3 (fun b thr' c1' c2' c3' => K k sz' a3' am' ki' pa' b thr' c1' c2' c3'))))) := by
  unfold p_L_slip p_X5_slip p_X5_slip_J14 p_X5_slip_J51 p_X5_slip_J93 p_X6_slip p_X6_slip_J18 p_X6_slip_J23 p_X6_slip_J30 p_X6_slip_J52 p_X6_slip_J81
  obtain ⟨rfl, rfl, rfl, rfl, rfl, rfl, B, P, hB, hP, rfl, rfl, rfl, rfl, ha, htd⟩ := h
  refine s_reqBatch hB (fun b eb hb => ?_) (fun z => ?_)
  · subst eb
    obtain ⟨t, e, ht⟩ := htd b hb
    have rb : ∀ {A : Int32 → Prop} {D : Int32 → Int32 → Prop}, A 0 → p_X6_isBatch thr (nI B) (nI b) (fun r f => (r = 0 → D r f) ∧ (¬ r = 0 → A f)) := fun hA => s_isBatch hB (fun _ _ _ => ⟨no1, fun _ => hA⟩) (fun z => absurd z (nob hB rfl hb))
    by_cases hz : x3 < 0 ∨ ¬ x3 ≤ 2
    · exact hcb hz (Or.inr ⟨rfl, h1, h2, h3, rb (hdb hz ⟨no1, fun _ => hK 2 _ _ _ _ _ _ _ _ _ _ rfl (fun z => absurd z (by decide))⟩)⟩)
    obtain ⟨hx, hy⟩ := hzo hz
    refine hcx hx hy ?_
    have ok : ∀ b sz' am' ki' pa' c1' c2' c3', K 0 sz' (vp_updL a3 (Int32.toNatClampNeg 0) (Int32.toInt64 b)) am' ki' pa' b 0 c1' c2' c3' := fun b _ _ _ _ _ _ _ => hK 0 _ _ _ _ _ _ _ _ _ _ rfl (fun _ => cmp_b _ _)
    refine s_explain rfl (by omega) hP ha (fun z am' ki' pa' => ?_) (fun z sz' am' ki' pa' hr => ?_)
    · by_cases n0 : x2 < 0
      · exact ⟨fun _ => ⟨pk_in 0 1 (by decide), h1, h2, h3, rb (hdx hx hy ⟨fun _ => ok _ _ _ _ _ _ _ _, fun q => absurd n0 q⟩)⟩, fun q => absurd n0 q⟩
      · refine ⟨fun q => absurd q n0, fun _ => ⟨fun q => absurd q n0, fun _ => ⟨pk_in 0 1 (by decide), h1, h2, h3, rb (hdx hx hy ⟨fun _ => ok _ _ _ _ _ _ _ _, fun _ => ⟨fun _ => ok _ _ _ _ _ _ _ _, fun n1 => ?_⟩⟩)⟩⟩⟩
        obtain ⟨j, hj, rfl⟩ := nI_of n0
        rw [show (100000 : Int32) = nI 100000 from rfl, nI_ltI (by decide) hj] at n1
        exact s_looks rfl (by omega) hP ha e ht (by omega) (fun _ _ _ _ => ⟨fun q => absurd q n0, fun _ => ok _ _ _ _ _ _ _ _⟩) (fun y => absurd z y) (fun y => absurd z y)
    · obtain ⟨rfl, hj⟩ := hr
      have hle := ful_le amt bat (nI b) (ot amt bat told b P) P
      by_cases n0 : x2 < 0
      · exact ⟨fun _ => ⟨pk_in 0 1 (by decide), h1, h2, h3, rb (hdx hx hy ⟨fun _ => ok _ _ _ _ _ _ _ _, fun q => absurd n0 q⟩)⟩, fun q => absurd n0 q⟩
      obtain ⟨j, hjl, rfl⟩ := nI_of n0
      refine ⟨fun q => absurd q n0, fun _ => pk_lt j (ful amt bat (nI b) (ot amt bat told b P) P).length (fun q => ?_) (fun q => ?_) rfl rfl hjl (by omega)⟩
      · obtain ⟨f, hf⟩ : ∃ f, (ful amt bat (nI b) (ot amt bat told b P) P)[j]? = some f := ⟨_, List.getElem?_eq_getElem q⟩
        obtain ⟨g1, g2, g3⟩ := hj j f hf
        have n1 : ¬ (100000 : Int32) < nI j := nI_nlt (b := j) (a := 100000) (by omega) (by decide)
        have hv : vp_in (nI j) 301 := vp_in_nI (by omega) (by decide)
        rw [nI_clamp hjl, g1, g2, g3]
        have lk : ∀ (Q : Int32 → Int32 → Int32 → Int32 → Prop), (nI j < nI (j + 1) → Q (nI (j + 1)) f.1 f.2.1 f.2.2) → p_X6_looks (nI P) c1 c2 c3 amt bat told (nI b) (nI j) Q := fun Q hQ => s_looks rfl (by omega) hP ha e ht (by omega) (fun y => absurd y z) (fun _ f2 hf2 => by
          rw [hf] at hf2
          obtain rfl := Option.some.inj hf2
          exact hQ (nI_lt (by omega) (by omega))) (fun _ y => by omega)
        rcases c012 hx hy with rfl | rfl | rfl
        · exact ⟨fun q => absurd rfl q, fun _ => ⟨hv, pk_in 0 1 (by decide), h1, h2, h3, rb (hdx hx hy ⟨fun q => absurd q n0, fun _ => ⟨fun q => absurd q n1, fun _ => lk _ (fun hlt => ⟨fun _ => ⟨fun q => absurd rfl q, fun _ => ok _ _ _ _ _ _ _ _⟩, fun q => absurd hlt q⟩)⟩⟩)⟩⟩
        · exact ⟨fun _ => ⟨fun q => absurd rfl q, fun _ => ⟨hv, pk_in 0 1 (by decide), h1, h2, h3, rb (hdx hx hy ⟨fun q => absurd q n0, fun _ => ⟨fun q => absurd q n1, fun _ => lk _ (fun hlt => ⟨fun _ => ⟨fun _ => ⟨fun q => absurd rfl q, fun _ => ok _ _ _ _ _ _ _ _⟩, no1⟩, fun q => absurd hlt q⟩)⟩⟩)⟩⟩, no1⟩
        · exact ⟨fun _ => ⟨fun _ => ⟨hv, pk_in 0 1 (by decide), h1, h2, h3, rb (hdx hx hy ⟨fun q => absurd q n0, fun _ => ⟨fun q => absurd q n1, fun _ => lk _ (fun hlt => ⟨fun _ => ⟨fun _ => ⟨fun _ => ok _ _ _ _ _ _ _ _, fun q => absurd q (by decide)⟩, fun q => absurd q (by decide)⟩, fun q => absurd hlt q⟩)⟩⟩)⟩, fun q => absurd q (by decide)⟩, fun q => absurd q (by decide)⟩
      · refine ⟨pk_in 0 1 (by decide), h1, h2, h3, rb (hdx hx hy ⟨fun q => absurd q n0, fun _ => ⟨fun _ => ok _ _ _ _ _ _ _ _, fun n1 => ?_⟩⟩)⟩
        rw [show (100000 : Int32) = nI 100000 from rfl, nI_ltI (by decide) hjl] at n1
        exact s_looks rfl (by omega) hP ha e ht (by omega) (fun y => absurd y z) (fun _ f2 hf2 => absurd (none_at q hf2) id) (fun _ _ _ _ _ => ⟨fun y => absurd y (nI_nlt q hjl), fun _ => ok _ _ _ _ _ _ _ _⟩)
  · refine Or.inl ⟨rfl, h1, h2, h3, s_isBatch hB (fun b e hb => absurd z (nob hB e hb)) (fun _ => ⟨fun _ => ?_, fun z => absurd rfl z⟩)⟩
    exact hK 1 _ _ _ _ _ _ _ _ _ _ rfl no1
theorem b_count {v1 : Prop} {x1 thr al tc tm b1 b2 p1 p2 : Int32} {nu wid tau t1 t2 acc amt bnk bat num told acc2 amt2 bnk2 bat2 num2 told2 : Nat → Int32} (h1 : v1) (hA : IA al nu wid tau) (hT : IT tc tm t1 t2) (hl : IL b1 b2 p1 p2 acc amt bnk bat num told acc2 amt2 bnk2 bat2 num2 told2) {K : Int32 → Int32 → Int32 → Prop} (hK : ∀ r thr', K r r thr') : p_X5_count tc al b1 p1 x1 (fun r => v1 ∧ (p_X6_count thr tm b2 p2 tau x1 (fun r' thr' => K r r' thr'))) := by
  unfold p_X5_count p_X6_count
  obtain ⟨-, nm, hn1, hw, rfl⟩ := hA
  obtain ⟨-, n, t, hn, rfl, rfl, ht, hti⟩ := hT
  obtain ⟨-, -, -, -, -, -, B, P, hB, hP, rfl, rfl, rfl, rfl, ha, htd⟩ := hl
  refine ⟨fun e => ⟨h1, ?_⟩, fun e => ⟨h1, ?_⟩, fun e => ⟨h1, ?_⟩, fun e => ⟨h1, ?_⟩, fun n0 n1 n2 n3 => ⟨h1, ?_⟩⟩
  · subst e
    exact ⟨fun _ => s_countR (Q := fun r => K (nI (tn nm)) r 0) (fun g hg => ⟨(hn1 g hg).1, okw_lt (hn1 g hg).2⟩) (hK _ _), fun q => absurd q (by decide), fun q => absurd q (by decide), fun q => absurd q (by decide), fun q => absurd rfl q⟩
  · subst e
    exact ⟨fun q => absurd q (by decide), fun _ => hK _ _, fun q => absurd q (by decide), fun q => absurd q (by decide), fun _ q => absurd rfl q⟩
  · subst e
    exact ⟨fun q => absurd q (by decide), fun q => absurd q (by decide), fun _ => hK _ _, fun q => absurd q (by decide), fun _ _ q => absurd rfl q⟩
  · subst e
    exact ⟨fun q => absurd q (by decide), fun q => absurd q (by decide), fun q => absurd q (by decide), fun _ => hK _ _, fun _ _ _ q => absurd rfl q⟩
  · exact ⟨fun q => absurd q n0, fun q => absurd q n1, fun q => absurd q n2, fun q => absurd q n3, fun _ _ _ _ => hK _ _⟩
theorem s_readR1 {thr tm pl rp co ga ir it : Int32} {ticks taught costs fr kept next signs speeds told up : Nat → Int32} {nm : Nat → Nat} (hw : ∀ g, g < 12 → taught g = nI (nm g) ∧ nm g < 2 ^ 31) (hz : ∃ g, g < 12 ∧ nm g = 0) {Q : Int32 → Int32 → Int32 → Int32 → Int32 → Int32 → Int32 → Int32 → Int32 → (Nat → Int32) → (Nat → Int32) → (Nat → Int32) → (Nat → Int32) → (Nat → Int32) → (Nat → Int32) → (Nat → Int32) → (Nat → Int32) → Prop} (hQ : Q (-1) 0 tm pl rp co ga ir it costs fr kept next signs speeds told up) : p_X6_read thr tm pl rp co ga ir it costs fr kept next signs speeds taught ticks told up Q := by
  unfold p_X6_read
  refine wf1_0 (N := 12) (I := fun k => ∀ g, g < k → nm g ≠ 0) ?_ ?_ 0 (Nat.zero_le _) (fun g hg => absurd hg (Nat.not_lt_zero _))
  · intro R hI
    obtain ⟨g, hg, e⟩ := hz
    exact absurd e (hI g hg)
  · intro R g hg hI hR
    unfold p_X6_read_B7
    refine pk_le 12 g (fun q => by omega) (fun _ => ?_)
    refine ⟨vp_in_nI hg (by decide), ?_⟩
    rw [nI_clamp (show g < 2 ^ 31 by omega), (hw g hg).1]
    refine (pk_eq (nm g) 0 (fun _ => hQ) (fun z => hR (fun j hj => ?_)) rfl rfl (hw g hg).2 (by decide)).symm
    by_cases e : j = g
    · rw [e]; exact z
    · exact hI j (by omega)
theorem s_readR2 {thr pl rp co ga ir it : Int32} {ticks taught costs fr kept next signs speeds told up : Nat → Int32} {nm : Nat → Nat} {n : Nat} (hn : n ≤ 120) (hw : ∀ g, g < 12 → taught g = nI (nm g) ∧ nm g < 2 ^ 31) (ha : ∀ g, g < 12 → nm g ≠ 0) (h6 : ¬ (n ≠ 0 ∧ n % 6 = 0)) {Q : Int32 → Int32 → Int32 → Int32 → Int32 → Int32 → Int32 → Int32 → Int32 → (Nat → Int32) → (Nat → Int32) → (Nat → Int32) → (Nat → Int32) → (Nat → Int32) → (Nat → Int32) → (Nat → Int32) → (Nat → Int32) → Prop} (hQ : Q (-2) 0 (nI n) pl rp co ga ir it costs fr kept next signs speeds told up) : p_X6_read thr (nI n) pl rp co ga ir it costs fr kept next signs speeds taught ticks told up Q := by
  unfold p_X6_read
  refine wf1_0 (N := 12) (I := fun _ => True) ?_ ?_ 0 (Nat.zero_le _) trivial
  · intro R _
    unfold p_X6_read_B7 p_X6_read_J47
    refine ⟨fun _ => ?_, fun q => absurd (by decide) q⟩
    refine pk_eq n 0 (fun _ => hQ) (fun z => ?_)
    rw [show (6 : Int32) = nI 6 from rfl, jrem_nI (by omega) (by decide) (by decide)]
    exact pk_le (n % 6) 0 (fun q => absurd ⟨z, by omega⟩ h6) (fun _ => hQ)
  · intro R g hg _ hR
    unfold p_X6_read_B7
    refine pk_le 12 g (fun q => by omega) (fun _ => ?_)
    refine ⟨vp_in_nI hg (by decide), ?_⟩
    rw [nI_clamp (show g < 2 ^ 31 by omega), (hw g hg).1]
    exact (pk_eq (nm g) 0 (fun z => absurd z (ha g hg)) (fun _ => hR trivial) rfl rfl (hw g hg).2 (by decide)).symm
theorem wd_ok {nm : Nat → Nat} (h : ∀ g, g < 12 → okw (nm g)) : ∀ i, i < 72 → 1 ≤ wd nm i ∧ wd nm i ≤ 3 := by
  intro i hi
  unfold wd
  exact (h (i / 6) (by omega)).2.2 (5 - i % 6) (by omega)
theorem cok_min {a : Nat → Int32} {C : Nat → Nat → Nat → Nat} {n : Nat} (hC : ∀ p g v, v < 9 → C p g v ≤ 1000) (h : cok a C n) : cok a (fun p g v => min (C p g v) 1000) n := by
  intro p g v hg hv hn
  have e : min (C p g v) 1000 = C p g v := Nat.min_eq_left (hC p g v hv)
  show _ = nI (min (C p g v) 1000)
  rw [e]; exact h p g v hg hv hn
theorem b_read {tc al hp rp rc rg rt rs rk thr tm pl mp mc mg mi mt : Int32} {t1 wid bf be co he jo la si sp nu cs fr ke nx s2 v2 tau t2 to up : Nat → Int32} (hA : IA al nu wid tau) (hT : IT tc tm t1 t2) (h : IR hp rp rc rg rt rs rk mp mc mg mi mt co si sp ke s2 v2)
    {K : Int32 → Int32 → Int32 → Int32 → Int32 → Int32 → Int32 → Int32 → Int32 → (Nat → Int32) → (Nat → Int32) → (Nat → Int32) → (Nat → Int32) → (Nat → Int32) → (Nat → Int32) → (Nat → Int32) → (Nat → Int32) → Int32 → Int32 → Int32 → Int32 → Int32 → Int32 → Int32 → Int32 → Int32 → (Nat → Int32) → (Nat → Int32) → (Nat → Int32) → (Nat → Int32) → (Nat → Int32) → (Nat → Int32) → (Nat → Int32) → (Nat → Int32) → Prop}
    (hK : ∀ r tc' hp' rp' rc' rg' rt' rs' rk' bf' be' co' he' jo' la' si' sp' r' thr' tm' pl' mp' mc' mg' mi' mt' cs' fr' ke' nx' s2' v2' to' up', r = r' → IT tc' tm' t1 t2 → IR hp' rp' rc' rg' rt' rs' rk' mp' mc' mg' mi' mt' co' si' sp' ke' s2' v2' → K r tc' hp' rp' rc' rg' rt' rs' rk' bf' be' co' he' jo' la' si' sp' r' thr' tm' pl' mp' mc' mg' mi' mt' cs' fr' ke' nx' s2' v2' to' up') :
    p_X5_read tc al hp rp rc rg rt rs rk t1 wid bf be co he jo la si sp (fun r tc' hp' rp' rc' rg' rt' rs' rk' bf' be' co' he' jo' la' si' sp' => p_X6_read thr tm pl mp mc mg mi mt cs fr ke nx s2 v2 tau t2 to up (fun r' thr' tm' pl' mp' mc' mg' mi' mt' cs' fr' ke' nx' s2' v2' to' up' => K r tc' hp' rp' rc' rg' rt' rs' rk' bf' be' co' he' jo' la' si' sp' r' thr' tm' pl' mp' mc' mg' mi' mt' cs' fr' ke' nx' s2' v2' to' up')) := by
  have hT' := hT
  obtain ⟨rfl, nm, hn1, hw, rfl⟩ := hA
  obtain ⟨rfl, n, t, hn, rfl, rfl, ht, hti⟩ := hT
  have hw2 : ∀ g, g < 12 → nu g = nI (nm g) ∧ nm g < 2 ^ 31 := fun g hg => ⟨(hn1 g hg).1, okw_lt (hn1 g hg).2⟩
  have htl := tn_le nm
  by_cases hz : ∃ g, g < 12 ∧ nm g = 0
  · obtain ⟨g, hg, e⟩ := id hz
    have hlt := tn_not hg e
    unfold p_X5_read p_X0_isComplete p_X0_isComplete_J14
    refine (pk_eq (tn nm) 12 (fun q => by omega) (fun _ => ?_)).symm
    refine ⟨rfl, fun q => absurd rfl q, fun _ => ?_⟩
    refine s_readR1 hw2 hz ?_
    exact hK _ _ _ _ _ _ _ _ _ _ _ _ _ _ _ _ _ _ _ _ _ _ _ _ _ _ _ _ _ _ _ _ _ _ rfl hT' h
  · have hall : ∀ g, g < 12 → nm g ≠ 0 := fun g hg e => hz ⟨g, hg, e⟩
    have e12 := tn_all hall
    by_cases h6 : n ≠ 0 ∧ n % 6 = 0
    · obtain ⟨P, rfl⟩ : ∃ P, n = P * 6 := ⟨n / 6, by omega⟩
      have hP : P ≤ 20 := by omega
      have hP0 : 0 < P := by omega
      rw [e12]
      have ho : ∀ g, g < 12 → okw (nm g) := fun g hg => (hn1 g hg).2.resolve_left (hall g hg)
      have hb : ∀ p g v, v < 9 → cx t nm P (tnd t nm P) p g v ≤ 1000 := fun p g v hv => cx_le (fun i => (ht i).2) p g v hv
      have hge := gap_eq (C := cx t nm P (tnd t nm P)) (σ := sg (cx t nm P (tnd t nm P)) (ha (cx t nm P (tnd t nm P))) P (bs (cx t nm P (tnd t nm P)) P)) hP hP0 (cx_le2 (num := nm) (P := P) (x := tnd t nm P) ht (wd_ok ho))
      refine s_readC (t := t) (num := nm) hP hP0 hti (fun i => (ht i).2) hw rfl rfl (fun st ch bf' bh' co' he' jo' la' si' sp' e1 e2 e3 e4 => ?_)
      refine s_readR (t := t) (num := nm) hP hP0 hti (fun i => (ht i).2) (fun g hg => ⟨(hw2 g hg).1, (hw2 g hg).2, hall g hg⟩) rfl rfl (fun cs' f' k' n' s2' v2' t' u' g1 g2 g3 => ?_)
      refine hK _ _ _ _ _ _ _ _ _ _ _ _ _ _ _ _ _ _ _ _ _ _ _ _ _ _ _ _ _ _ _ _ _ _ rfl ⟨rfl, 0, t, by decide, rfl, rfl, ht, fun i hi => absurd hi (Nat.not_lt_zero _)⟩ ⟨⟨P, hP, rfl⟩, Or.inr ⟨rfl, P, sg (cx t nm P (tnd t nm P)) (ha (cx t nm P (tnd t nm P))) P (bs (cx t nm P (tnd t nm P)) P), (fun p g v => min (cx t nm P (tnd t nm P) p g v) 1000), ⟨hP0, hP⟩, rfl, rfl, rfl, rfl, by rw [hge], rfl, fun p hp => ⟨e2 p hp, g2 p hp, sg_lt _ _ _ _ _⟩, fun p hp => ?_, e4, fun p g v => Nat.min_le_right _ _, cok_min hb e1, cok_min hb g1⟩⟩
      rw [e3 p hp, g3 p hp, show (4 : Int32) = nI 4 from rfl, nI_add]
    · unfold p_X5_read p_X0_isComplete p_X0_isComplete_J14 p_X5_read_J29
      have fin := s_readR2 (thr := thr) (pl := pl) (rp := mp) (co := mc) (ga := mg) (ir := mi) (it := mt) (ticks := t1) (costs := cs) (fr := fr) (kept := ke) (next := nx) (signs := s2) (speeds := v2) (told := to) (up := up) hn hw2 hall h6 (Q := fun r' thr' tm' pl' mp' mc' mg' mi' mt' cs' fr' ke' nx' s2' v2' to' up' => K (-2) (nI n) hp rp rc rg rt rs rk bf be co he jo la si sp r' thr' tm' pl' mp' mc' mg' mi' mt' cs' fr' ke' nx' s2' v2' to' up') (hK _ _ _ _ _ _ _ _ _ _ _ _ _ _ _ _ _ _ _ _ _ _ _ _ _ _ _ _ _ _ _ _ _ _ rfl hT' h)
      refine (pk_eq (tn nm) 12 (fun _ => ?_) (fun q => absurd e12 q)).symm
      refine ⟨rfl, fun _ => ?_, no1⟩
      refine pk_eq n 0 (fun _ => fin) (fun z => ?_)
      rw [show (6 : Int32) = nI 6 from rfl, jrem_nI (by omega) (by decide) (by decide)]
      exact pk_eq (n % 6) 0 (fun q => absurd ⟨z, q⟩ h6) (fun _ => fin)
