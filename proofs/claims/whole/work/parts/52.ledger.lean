/-! the ledger: batch, paper, amount, twin, out -/
def m3 (bnk acc num : Nat → Int32) (σ : Nat → Nat) (i : Nat) : Prop := bnk i = nI (vl σ 1 4) ∧ acc i = nI (vl σ 6 6) ∧ num i = nI (vl σ 13 4)
theorem s_findTwin {acc bnk num si : Nat → Int32} {σ : Nat → Nat} {P : Nat} (hP : P ≤ 100) (hs : ∀ q, q < 18 → si q = nI (σ q)) {Q : Int32 → Prop} (h1 : ∀ i, i < P → m3 bnk acc num σ i → (∀ j, j < i → ¬ m3 bnk acc num σ j) → Q (nI i)) (h0 : (∀ j, j < P → ¬ m3 bnk acc num σ j) → Q (-1)) : p_X2_findTwin (nI P) acc bnk num si Q := by
  unfold p_X2_findTwin
  refine (s_digC hs _).1 ((s_digC hs _).2.1 ((s_digC hs _).2.2 ?_))
  refine wf1_0 (N := P) (I := fun k => ∀ j, j < k → ¬ m3 bnk acc num σ j) ?_ ?_ 0 (Nat.zero_le _) (fun j hj => absurd hj (Nat.not_lt_zero _))
  · intro R hI
    unfold p_X2_findTwin_B22
    exact ⟨fun _ => h0 hI, fun q => absurd (Int32.le_refl _) q⟩
  · intro R k hk hI hR
    unfold p_X2_findTwin_B22 p_X2_findTwin_J68
    refine pk_le P k (fun q => by omega) (fun _ => ?_)
    have nx : ¬ m3 bnk acc num σ k → R (nI k + 1) := fun z => hR (fun j hj => by
      by_cases e : j = k
      · rw [e]; exact z
      · exact hI j (by omega))
    rw [nI_clamp (show k < 2 ^ 31 by omega)]
    refine ⟨vp_in_nI (by omega) (by decide), fun q => nx (fun z => q z.1), fun q1 => ?_⟩
    refine ⟨vp_in_nI (by omega) (by decide), fun q => nx (fun z => q z.2.1), fun q2 => ?_⟩
    exact ⟨vp_in_nI (by omega) (by decide), fun q => nx (fun z => q z.2.2), fun q3 => h1 k hk ⟨q1, q2, q3⟩ hI⟩
theorem s_twinLoop {acc bnk num s2 : Nat → Int32} {σ : Nat → Nat} {P : Nat} (hP : P ≤ 100) (hs : ∀ q, q < 18 → s2 q = nI (σ q) ∧ σ q < 12) (hf : ft σ) {Q : Int32 → Prop} (h1 : ∀ i, i < P → m3 bnk acc num σ i → (∀ j, j < i → ¬ m3 bnk acc num σ j) → Q (nI i)) (h0 : (∀ j, j < P → ¬ m3 bnk acc num σ j) → Q (-1)) : ∃ n11 : Nat, wl1 (p_X6_twinOf_B11 (nI P) acc bnk num s2 Q (fun x1_69 => Q (-1))) n11 0 := by
  refine wf1_0 (N := P) (I := fun k => ∀ j, j < k → ¬ m3 bnk acc num σ j) ?_ ?_ 0 (Nat.zero_le _) (fun j hj => absurd hj (Nat.not_lt_zero _))
  · intro R hI
    unfold p_X6_twinOf_B11
    exact ⟨fun _ => h0 hI, fun q => absurd (Int32.le_refl _) q⟩
  · intro R k hk hI hR
    unfold p_X6_twinOf_B11 p_X6_twinOf_J63
    refine pk_le P k (fun q => by omega) (fun _ => ?_)
    have nx : ¬ m3 bnk acc num σ k → R (nI k + 1) := fun z => hR (fun j hj => by
      by_cases e : j = k
      · rw [e]; exact z
      · exact hI j (by omega))
    rw [nI_clamp (show k < 2 ^ 31 by omega)]
    refine ⟨vp_in_nI (by omega) (by decide), (s_fieldOf hs hf _).1 ⟨fun q => nx (fun z => q z.1), fun q1 => ?_⟩⟩
    refine ⟨vp_in_nI (by omega) (by decide), (s_fieldOf hs hf _).2.1 ⟨fun q => nx (fun z => q z.2.1), fun q2 => ?_⟩⟩
    exact ⟨vp_in_nI (by omega) (by decide), (s_fieldOf hs hf _).2.2 ⟨fun q => nx (fun z => q z.2.2), fun q3 => h1 k hk ⟨q1, q2, q3⟩ hI⟩⟩
/-- both look for a twin: none, or the same one -/
theorem twin2 {acc bnk num si s2 : Nat → Int32} {σ : Nat → Nat} {P : Nat} (hP : P ≤ 100) (hs : ∀ q, q < 18 → si q = nI (σ q) ∧ s2 q = nI (σ q) ∧ σ q < 12) (hf : ft σ) :
    ((∀ Q : Int32 → Prop, Q (-1) → p_X2_findTwin (nI P) acc bnk num si Q) ∧ (∀ Q : Int32 → Prop, Q (-1) → ∃ n11 : Nat, wl1 (p_X6_twinOf_B11 (nI P) acc bnk num s2 Q (fun x1_69 => Q (-1))) n11 0)) ∨
    (∃ i, i < P ∧ (∀ Q : Int32 → Prop, Q (nI i) → p_X2_findTwin (nI P) acc bnk num si Q) ∧ (∀ Q : Int32 → Prop, Q (nI i) → ∃ n11 : Nat, wl1 (p_X6_twinOf_B11 (nI P) acc bnk num s2 Q (fun x1_69 => Q (-1))) n11 0)) := by
  by_cases hit : ∃ i, i < P ∧ m3 bnk acc num σ i
  · obtain ⟨i, ⟨hi, hm⟩, hl⟩ := pk_least (fun i => i < P ∧ m3 bnk acc num σ i) hit
    have un : ∀ j, j < P → m3 bnk acc num σ j → (∀ k, k < j → ¬ m3 bnk acc num σ k) → j = i := by
      intro j hj hmj hlj
      rcases Nat.lt_trichotomy j i with c | c | c
      · exact absurd ⟨hj, hmj⟩ (hl j c)
      · exact c
      · exact absurd hm (hlj i c)
    refine Or.inr ⟨i, hi, fun Q hQ => ?_, fun Q hQ => ?_⟩
    · exact s_findTwin hP (fun q hq => (hs q hq).1) (fun j a b c => by rw [un j a b c]; exact hQ) (fun z => absurd hm (z i hi))
    · exact s_twinLoop hP (fun q hq => (hs q hq).2) hf (fun j a b c => by rw [un j a b c]; exact hQ) (fun z => absurd hm (z i hi))
  · refine Or.inl ⟨fun Q hQ => ?_, fun Q hQ => ?_⟩
    · exact s_findTwin hP (fun q hq => (hs q hq).1) (fun j a b _ => absurd ⟨j, a, b⟩ hit) (fun _ => hQ)
    · exact s_twinLoop hP (fun q hq => (hs q hq).2) hf (fun j a b _ => absurd ⟨j, a, b⟩ hit) (fun _ => hQ)
theorem b_twin {hp rp rc rg rt rs rk mp mc mg mi mt thr b1 b2 p1 p2 : Int32} {co si sp ke s2 v2 acc amt bnk bat num told acc2 amt2 bnk2 bat2 num2 told2 : Nat → Int32} (h : IR hp rp rc rg rt rs rk mp mc mg mi mt co si sp ke s2 v2) (hl : IL b1 b2 p1 p2 acc amt bnk bat num told acc2 amt2 bnk2 bat2 num2 told2) {K : Int32 → Int32 → Int32 → Prop} (hK : ∀ r thr', K r r thr') : p_X5_twin p1 rp rs rk acc bnk num si (fun r => p_X6_twin thr mp mi p2 acc2 bnk2 num2 s2 (fun r' thr' => K r r' thr')) := by
  unfold p_X5_twin p_X5_twin_J25 p_X6_twin p_X6_twinOf
  obtain ⟨rfl, rfl, rfl, rfl, rfl, rfl, B, P, hB, hP, rfl, rfl, rfl, rfl, ha, ht⟩ := hl
  rcases fits2 h with ⟨f1, f2⟩ | ⟨σ, -, hf, hs, f1, f2⟩
  · exact f1 _ ⟨fun _ => f2 _ ⟨fun q => absurd rfl q, fun _ => hK _ _⟩, fun q => absurd rfl q⟩
  · refine f1 _ ⟨no1, fun _ => ?_⟩
    rcases twin2 (acc := acc) (bnk := bnk) (num := num) hP hs hf with ⟨t1, t2⟩ | ⟨i, hi, t1, t2⟩
    · exact t1 _ (f2 _ ⟨fun _ => t2 _ (hK _ _), no1⟩)
    · exact t1 _ (f2 _ ⟨fun _ => t2 _ (hK _ _), no1⟩)
theorem s_isAmount {a : Int32} {Q : Int32 → Prop} (h1 : ∀ n, a = nI n → n ≤ 9999999 → Q 1) (h0 : (a < 0 ∨ ¬ a ≤ 9999999) → Q 0) : p_X6_isAmount (Int32.toInt64 a) Q := by
  unfold p_X6_isAmount p_X6_isAmount_J18 p_X6_isAmount_J19
  rw [lg_cmp_lt, lg_cmp_gt]
  by_cases hx : a < 0
  · refine ⟨fun _ => ⟨rfl, h0 (Or.inl hx)⟩, fun q => absurd ?_ q⟩
    have e0 : (0 : Int64).toInt = 0 := by decide
    have e1 : (0 : Int32).toInt = 0 := by decide
    rw [Int64.lt_iff_toInt_lt, Int32.toInt_toInt64, e0]
    rw [Int32.lt_iff_toInt_lt, e1] at hx
    exact hx
  · obtain ⟨n, hn, rfl⟩ := nI_of hx
    rw [nI_l hn, show (0 : Int64) = lN 0 from rfl, show (9999999 : Int64) = lN 9999999 from rfl, lN_lt hn (by decide), lN_lt (by decide) hn]
    refine ⟨fun q => absurd q (Nat.not_lt_zero _), fun _ => ⟨fun q => ⟨rfl, h0 (Or.inr ?_)⟩, fun q => ⟨rfl, h1 n rfl (by omega)⟩⟩⟩
    rw [show (9999999 : Int32) = nI 9999999 from rfl, nI_leI hn (by decide)]
    omega
theorem s_isBatch {f x1 : Int32} {B : Nat} (hB : B ≤ 20) {Q : Int32 → Int32 → Prop} (h1 : ∀ b, x1 = nI b → b < B → Q 1 0) (h0 : (x1 < 0 ∨ ¬ x1 < nI B) → Q 0 1) : p_X6_isBatch f (nI B) x1 Q := by
  unfold p_X6_isBatch p_X6_isBatch_J13 p_X6_isBatch_J18 p_X6_isBatch_J33
  by_cases hx : x1 < 0
  · exact ⟨fun _ => ⟨fun _ => ⟨rfl, h0 (Or.inl hx)⟩, no1⟩, fun q => absurd hx q⟩
  · obtain ⟨b, hb, rfl⟩ := nI_of hx
    refine ⟨fun q => absurd q hx, fun _ => pk_lt b B (fun q => ⟨fun z => absurd rfl z, fun _ => ⟨rfl, h1 b rfl q⟩⟩) (fun q => ⟨fun _ => ⟨rfl, h0 (Or.inr (nI_nlt q hb))⟩, no1⟩)⟩
theorem s_reqBatch {x1 : Int32} {B : Nat} (hB : B ≤ 20) {Q : Prop} {X : String → Prop} (h1 : ∀ b, x1 = nI b → b < B → Q) (h0 : (x1 < 0 ∨ ¬ x1 < nI B) → X "java/lang/IndexOutOfBoundsException") : p_X5_requireBatch (nI B) x1 Q X := by
  unfold p_X5_requireBatch p_X5_requireBatch_J15
  by_cases hx : x1 < 0
  · exact ⟨fun _ => h0 (Or.inl hx), fun q => absurd hx q⟩
  · obtain ⟨b, hb, rfl⟩ := nI_of hx
    exact ⟨fun q => absurd q hx, fun _ => pk_lt b B (fun q => h1 b rfl q) (fun q => h0 (Or.inr (nI_nlt q hb)))⟩
theorem s_reqAmount {x1 : Int32} {Q : Prop} {X : String → Prop} (h1 : ∀ n, x1 = nI n → n ≤ 9999999 → Q) (h0 : (x1 < 0 ∨ ¬ x1 ≤ 9999999) → X "java/lang/IllegalArgumentException") : p_X5_requireAmount x1 Q X := by
  unfold p_X5_requireAmount p_X5_requireAmount_J10
  by_cases hx : x1 < 0
  · exact ⟨fun _ => h0 (Or.inl hx), fun q => absurd hx q⟩
  · obtain ⟨b, hb, rfl⟩ := nI_of hx
    refine ⟨fun q => absurd q hx, fun _ => pk_le b 9999999 (fun q => h1 b rfl q) (fun q => h0 (Or.inr ?_))⟩
    rw [show (9999999 : Int32) = nI 9999999 from rfl, nI_leI hb (by decide)]
    omega
theorem nob {x1 : Int32} {B b : Nat} (hB : B ≤ 20) (e : x1 = nI b) (hb : b < B) (z : x1 < 0 ∨ ¬ x1 < nI B) : False := by
  subst e
  rcases z with z | z
  · exact nI_pos (by omega) z
  · exact z (nI_lt hb (by omega))
theorem noa {x1 : Int32} {n : Nat} (e : x1 = nI n) (hn : n ≤ 9999999) (z : x1 < 0 ∨ ¬ x1 ≤ 9999999) : False := by
  subst e
  rcases z with z | z
  · exact nI_pos (by omega) z
  · exact z (nI_le (b := 9999999) hn (by decide))
theorem b_batch {v1 : Prop} {x1 thr b1 b2 p1 p2 : Int32} {a3 : Nat → Int64} {acc amt bnk bat num told acc2 amt2 bnk2 bat2 num2 told2 : Nat → Int32} (h1 : v1) (h : IL b1 b2 p1 p2 acc amt bnk bat num told acc2 amt2 bnk2 bat2 num2 told2) {K : Int32 → Int32 → (Nat → Int64) → (Nat → Int32) → Int32 → Int32 → Int32 → (Nat → Int32) → Prop} (hK : ∀ k b1' a3' told' b thr' b2' told2', IL b1' b2' p1 p2 acc amt bnk bat num told' acc2 amt2 bnk2 bat2 num2 told2' → thr' = k → (k = 0 → lg_cmp (a3' (Int32.toNatClampNeg 0)) (Int32.toInt64 b) = 0) → K k b1' a3' told' b thr' b2' told2') : p_L_batch b1 a3 told x1 (fun k b1' a3' told' => v1 ∧ (p_X6_batch thr b2 told2 x1 (fun b thr' b2' told2' => K k b1' a3' told' b thr' b2' told2'))) := by
  unfold p_L_batch p_X5_batch p_X5_batch_J10 p_X6_batch p_X6_batch_J16 p_X6_batch_J21 p_X6_batch_J43 p_X6_batch_J50
  by_cases hz : x1 < 0 ∨ ¬ x1 ≤ 1000000000
  · exact hcb hz (Or.inl ⟨rfl, h1, hdb hz ⟨fun _ => hK 1 _ _ _ _ _ _ _ h rfl no1, no1⟩⟩)
  obtain ⟨hx, hy⟩ := hzo hz
  have rf : ∀ {A A' : Prop} {F : Int32 → Int32 → Prop}, F 0 0 → (x1 < 0 → A) ∧ (¬ x1 < 0 → (x1 ≤ 1000000000 → p_X6_bad 0 0 1 F) ∧ (¬ x1 ≤ 1000000000 → A')) := fun hF => ⟨fun q => absurd q hx, fun _ => ⟨fun _ => s_bad0 hF, fun q => absurd hy q⟩⟩
  obtain ⟨t, ht, rfl⟩ := nI_of hx
  rw [show (1000000000 : Int32) = nI 1000000000 from rfl, nI_leI ht (by decide)] at hy
  have hy2 : nI t ≤ 1000000000 := nI_le (b := 1000000000) hy (by decide)
  refine hcx hx hy2 ?_
  have h' := h
  obtain ⟨rfl, rfl, rfl, rfl, rfl, rfl, B, P, hB, hP, rfl, rfl, rfl, rfl, ha, htd⟩ := h
  refine pk_lt B 20 (fun q => ?_) (fun q => ?_)
  · unfold p_X2_open
    refine ⟨vp_in_nI q (by decide), pk_in 0 1 (by decide), h1, rf ⟨fun z => absurd rfl z, fun _ => (pk_eq B 20 (fun z => by omega) (fun _ => ?_)).symm⟩⟩
    refine s_bad0 ⟨fun _ => ⟨vp_in_nI q (by decide), ?_⟩, fun z => absurd rfl z⟩
    rw [nI_clamp (show B < 2 ^ 31 by omega), nI_1]
    refine hK 0 _ _ _ _ _ _ _ ⟨rfl, rfl, rfl, rfl, rfl, rfl, B + 1, P, by omega, hP, rfl, rfl, rfl, rfl, ha, fun i hi => ?_⟩ rfl (fun _ => cmp_b _ _)
    by_cases e : i = B
    · subst e; exact ⟨t, pk_us, hy⟩
    · obtain ⟨t', a, b⟩ := htd i (by omega)
      exact ⟨t', by rw [pk_un e]; exact a, b⟩
  · refine Or.inr ⟨rfl, h1, rf ⟨fun z => absurd rfl z, fun _ => (pk_eq B 20 (fun _ => ?_) (fun z => by omega)).symm⟩⟩
    exact s_bad1 ⟨no1, fun _ => hK 2 _ _ _ _ _ _ _ h' rfl (fun z => absurd z (by decide))⟩
theorem b_amount {v1 v2 : Prop} {x1 x2 thr b1 b2 p1 p2 : Int32} {a3 : Nat → Int64} {acc amt bnk bat num told acc2 amt2 bnk2 bat2 num2 told2 : Nat → Int32} (h1 : v1) (h2 : v2) (h : IL b1 b2 p1 p2 acc amt bnk bat num told acc2 amt2 bnk2 bat2 num2 told2) {K : Int32 → (Nat → Int64) → (Nat → Int32) → Int32 → Int32 → (Nat → Int32) → Prop} (hK : ∀ k a3' amt' b thr' amt2', IL b1 b2 p1 p2 acc amt' bnk bat num told acc2 amt2' bnk2 bat2 num2 told2 → thr' = k → (k = 0 → lg_cmp (a3' (Int32.toNatClampNeg 0)) (Int32.toInt64 b) = 0) → K k a3' amt' b thr' amt2') : p_L_amount p1 a3 amt x1 x2 (fun k a3' amt' => v1 ∧ (v2 ∧ (p_X6_amount thr p2 amt2 x1 x2 (fun b thr' amt2' => K k a3' amt' b thr' amt2')))) := by
  unfold p_L_amount p_X5_amount p_X5_amount_J15 p_X6_amount p_X6_amount_J18 p_X6_amount_J23 p_X6_amount_J44 p_X6_amount_J51
  have h' := h
  obtain ⟨rfl, rfl, rfl, rfl, rfl, rfl, B, P, hB, hP, rfl, rfl, rfl, rfl, ha, htd⟩ := h
  by_cases hx : x1 < 0
  · exact ⟨fun _ => Or.inl ⟨rfl, h1, h2, fun _ => s_bad1 ⟨fun _ => hK 1 _ _ _ _ _ h' rfl no1, no1⟩, fun q => absurd hx q⟩, fun q => absurd hx q⟩
  obtain ⟨j, hj, rfl⟩ := nI_of hx
  refine ⟨fun q => absurd q hx, fun _ => pk_lt j P (fun q => ?_) (fun q => ?_)⟩
  · have rf : ∀ {A A' : Prop} {F : Int32 → Int32 → Prop}, F 0 0 → (nI j < 0 → A) ∧ (¬ nI j < 0 → (nI j < nI P → p_X6_bad 0 0 1 F) ∧ (¬ nI j < nI P → A')) := fun hF => ⟨fun q => absurd q hx, fun _ => pk_lt j P (fun _ => s_bad0 hF) (fun q => by omega)⟩
    refine s_reqAmount (fun n e hn => ?_) (fun z => ?_)
    · refine ⟨vp_in_nI (by omega) (by decide), vp_in_nI (by omega) (by decide), pk_in 0 1 (by decide), h1, h2, rf ⟨fun z => absurd rfl z, fun _ => ?_⟩⟩
      refine s_isAmount (fun _ _ _ => ⟨fun _ => ?_, no1⟩) (fun z => absurd z (noa e hn))
      refine s_bad0 ⟨fun _ => ⟨vp_in_nI (by omega) (by decide), vp_in_nI (by omega) (by decide), ?_⟩, fun z => absurd rfl z⟩
      rw [nI_clamp hj, e]
      refine hK 0 _ _ _ _ _ ⟨rfl, rfl, rfl, rfl, rfl, rfl, B, P, hB, hP, rfl, rfl, rfl, rfl, fun i hi => ?_, htd⟩ rfl (fun _ => cmp_b _ _)
      by_cases ei : i = j
      · subst ei; exact ⟨n, pk_us, hn⟩
      · obtain ⟨t', a, b⟩ := ha i (by omega)
        exact ⟨t', by rw [pk_un ei]; exact a, b⟩
    · refine Or.inr ⟨rfl, h1, h2, rf ⟨fun z => absurd rfl z, fun _ => ?_⟩⟩
      refine s_isAmount (fun n e hn => absurd z (noa e hn)) (fun _ => ⟨fun z => absurd rfl z, fun _ => ?_⟩)
      exact s_bad1 ⟨no1, fun _ => hK 2 _ _ _ _ _ h' rfl (fun z => absurd z (by decide))⟩
  · exact Or.inl ⟨rfl, h1, h2, fun q => absurd q hx, fun _ => pk_lt j P (fun q => by omega) (fun _ => s_bad1 ⟨fun _ => hK 1 _ _ _ _ _ h' rfl no1, no1⟩)⟩
theorem b_paper {v1 v2' : Prop} {hp rp rc rg rt rs rk mp mc mg mi mt x1 x2 thr b1 b2 p1 p2 : Int32} {a3 : Nat → Int64} {co si sp ke s2 v2 acc amt bnk bat num told acc2 amt2 bnk2 bat2 num2 told2 : Nat → Int32} (h1 : v1) (h2 : v2') (h : IR hp rp rc rg rt rs rk mp mc mg mi mt co si sp ke s2 v2) (hl : IL b1 b2 p1 p2 acc amt bnk bat num told acc2 amt2 bnk2 bat2 num2 told2)
    {K : Int32 → Int32 → Int32 → (Nat → Int64) → (Nat → Int32) → (Nat → Int32) → (Nat → Int32) → (Nat → Int32) → (Nat → Int32) → Int32 → Int32 → Int32 → Int32 → (Nat → Int32) → (Nat → Int32) → (Nat → Int32) → (Nat → Int32) → (Nat → Int32) → Prop}
    (hK : ∀ k p1' rp' a3' acc' amt' bnk' bat' num' b thr' mi' p2' acc2' amt2' bnk2' bat2' num2', IR hp rp' rc rg rt rs rk mp mc mg mi' mt co si sp ke s2 v2 → IL b1 b2 p1' p2' acc' amt' bnk' bat' num' told acc2' amt2' bnk2' bat2' num2' told2 → thr' = k → (k = 0 → lg_cmp (a3' (Int32.toNatClampNeg 0)) (Int32.toInt64 b) = 0) → K k p1' rp' a3' acc' amt' bnk' bat' num' b thr' mi' p2' acc2' amt2' bnk2' bat2' num2') :
    p_L_paper b1 p1 rp rs rk a3 acc amt bnk bat num si x1 x2 (fun k p1' rp' a3' acc' amt' bnk' bat' num' => v1 ∧ (v2' ∧ (p_X6_paper thr mp mi b2 p2 acc2 amt2 bnk2 bat2 num2 s2 x1 x2 (fun b thr' mi' p2' acc2' amt2' bnk2' bat2' num2' => K k p1' rp' a3' acc' amt' bnk' bat' num' b thr' mi' p2' acc2' amt2' bnk2' bat2' num2')))) := by
  unfold p_L_paper p_X5_paper p_X6_paper p_X6_paper_J22 p_X6_paper_J29 p_X6_twinOf
  have hl' := hl
  obtain ⟨rfl, rfl, rfl, rfl, rfl, rfl, B, P, hB, hP, rfl, rfl, rfl, rfl, ha, htd⟩ := hl
  refine s_reqBatch hB (fun b eb hb => ?_) (fun z => ?_)
  · refine s_reqAmount (fun n e hn => ?_) (fun z => ?_)
    · have rb : ∀ {A : Int32 → Prop} {D : Int32 → Int32 → Prop}, A 0 → p_X6_isBatch thr (nI B) x1 (fun r f => (r = 0 → D r f) ∧ (¬ r = 0 → A f)) := fun hA => s_isBatch hB (fun _ _ _ => ⟨no1, fun _ => hA⟩) (fun z => absurd z (nob hB eb hb))
      have ra : ∀ {A D : Prop}, A → p_X6_isAmount (Int32.toInt64 x2) (fun r => (¬ r = 0 → A) ∧ (r = 0 → D)) := fun hA => s_isAmount (fun _ _ _ => ⟨fun _ => hA, no1⟩) (fun z => absurd z (noa e hn))
      have k0 : ∀ b, K 0 (nI P) rp (vp_updL a3 (Int32.toNatClampNeg 0) (Int32.toInt64 b)) acc amt bnk bat num b 0 mi (nI P) acc amt bnk bat num := fun b => hK 0 _ _ _ _ _ _ _ _ _ _ _ _ _ _ _ _ _ h hl' rfl (fun _ => cmp_b _ _)
      rcases fits2 h with ⟨f1, f2⟩ | ⟨σ, hmi, hf, hs, f1, f2⟩
      · refine f1 _ ⟨fun z => absurd rfl z, fun _ => ⟨pk_in 0 1 (by decide), h1, h2, rb (ra (s_bad0 ⟨fun _ => f2 _ ⟨fun z => absurd rfl z, fun _ => ?_⟩, fun z => absurd rfl z⟩))⟩⟩
        exact k0 _
      · refine f1 _ ⟨fun _ => ?_, no1⟩
        rcases twin2 (acc := acc) (bnk := bnk) (num := num) hP hs hf with ⟨t1, t2⟩ | ⟨i, hi, t1, t2⟩
        · refine t1 _ ⟨fun _ => ?_, fun z => absurd rfl z⟩
          refine pk_lt P 100 (fun q => ?_) (fun q => ?_)
          · unfold p_X2_take p_X3_end
            have hv : vp_in (nI P) 100 := vp_in_nI q (by decide)
            have d1 := s_digC (a := si) (σ := σ) (fun q hq => (hs q hq).1)
            have d2 := s_fieldOf (a := s2) (σ := σ) (fun q hq => (hs q hq).2) hf
            refine ⟨hv, hv, (d1 _).1 ⟨hv, (d1 _).2.1 ⟨hv, (d1 _).2.2 ⟨hv, pk_in 0 1 (by decide), h1, h2, rb (ra (s_bad0 ⟨fun _ => f2 _ ⟨fun _ => f2 _ ⟨fun _ => t2 _ ⟨fun _ => (pk_eq P 100 (fun z => by omega) (fun _ => ?_)).symm, fun z => absurd (by decide) z⟩, no1⟩, no1⟩, fun z => absurd rfl z⟩))⟩⟩⟩⟩
            refine ⟨hv, hv, (d2 _).1 ⟨hv, (d2 _).2.1 ⟨hv, (d2 _).2.2 ⟨hv, ⟨rfl, rfl⟩, ?_⟩⟩⟩⟩
            rw [nI_clamp (show P < 2 ^ 31 by omega), nI_1, e]
            refine hK 0 _ _ _ _ _ _ _ _ _ _ _ _ _ _ _ _ _ ⟨h.1, Or.inl ⟨rfl, rfl⟩⟩ ⟨rfl, rfl, rfl, rfl, rfl, rfl, B, P + 1, hB, by omega, rfl, rfl, rfl, rfl, fun i hi => ?_, htd⟩ rfl (fun _ => cmp_b _ _)
            by_cases ei : i = P
            · subst ei; exact ⟨n, pk_us, hn⟩
            · obtain ⟨t', a, b⟩ := ha i (by omega)
              exact ⟨t', by rw [pk_un ei]; exact a, b⟩
          · refine ⟨pk_in 0 1 (by decide), h1, h2, rb (ra (s_bad0 ⟨fun _ => f2 _ ⟨fun _ => f2 _ ⟨fun _ => t2 _ ⟨fun _ => (pk_eq P 100 (fun _ => ?_) (fun z => by omega)).symm, fun z => absurd (by decide) z⟩, no1⟩, no1⟩, fun z => absurd rfl z⟩))⟩
            exact k0 _
        · have hn1 : ¬ nI i = -1 := fun q => nI_pos (n := i) (by omega) (by rw [q]; decide)
          refine t1 _ ⟨fun z => absurd z hn1, fun _ => ⟨pk_in 0 1 (by decide), h1, h2, rb (ra (s_bad0 ⟨fun _ => f2 _ ⟨fun _ => f2 _ ⟨fun _ => t2 _ ⟨fun z => absurd z (nI_pos (by omega)), fun _ => ?_⟩, no1⟩, no1⟩, fun z => absurd rfl z⟩))⟩⟩
          exact k0 _
    · refine Or.inr ⟨rfl, h1, h2, s_isBatch hB (fun _ _ _ => ⟨no1, fun _ => ?_⟩) (fun z => absurd z (nob hB eb hb))⟩
      refine s_isAmount (fun n e hn => absurd z (noa e hn)) (fun _ => ⟨fun z => absurd rfl z, fun _ => ?_⟩)
      exact s_bad1 ⟨no1, fun _ => hK 2 _ _ _ _ _ _ _ _ _ _ _ _ _ _ _ _ _ h hl' rfl (fun z => absurd z (by decide))⟩
  · refine Or.inl ⟨rfl, h1, h2, s_isBatch hB (fun b e hb => absurd z (nob hB e hb)) (fun _ => ⟨fun _ => ?_, fun z => absurd rfl z⟩)⟩
    exact hK 1 _ _ _ _ _ _ _ _ _ _ _ _ _ _ _ _ _ h hl' rfl no1
