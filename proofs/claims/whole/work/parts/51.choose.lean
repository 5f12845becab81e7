/-! other and choose -/
theorem oc_hit {σ : Nat → Nat} {p g : Nat} (hp : p < 18) (hg : g < 12) (h : isO σ p g) : oc σ (p * 12 + g) < oc σ 216 := by
  have a := oc_pg σ (p := p) hg
  rw [if_pos (isOb_iff.mpr h)] at a
  have b := oc_mono σ (m := p * 12 + (g + 1)) (n := 216) (by omega)
  omega
/-- both look for the k-th of the OTHERS: none, or the same one -/
theorem find2 {hp rp rc rg rt rs rk mp mc mg mi mt x1 op os : Int32} {co si sp ke s2 v2 : Nat → Int32} (h : IR hp rp rc rg rt rs rk mp mc mg mi mt co si sp ke s2 v2) :
    ((∀ Q : Int32 → Prop, Q (-1) → p_X3_findOther rp rs rk si x1 Q) ∧ (¬ x1 < 0 → ¬ 1000 < x1 → ∀ Q : Int32 → Int32 → Int32 → (Nat → Int32) → Prop, (∀ r op' os', ¬ x1 < r → Q r op' os' s2) → p_X6_finds mp mi op os s2 x1 Q)) ∨
    (∃ (p g : Nat) (σ : Nat → Nat) (C : Nat → Nat → Nat → Nat), mi = 1 ∧ rp = nI 18 ∧ mp = nI 18 ∧ hp = nI 18 ∧ rc = mc ∧ rg = mg ∧ rt = mt ∧ p < 18 ∧ g < 12 ∧ (∀ q, q < 18 → si q = nI (σ q) ∧ s2 q = nI (σ q) ∧ σ q < 12) ∧ (∀ q, q < 18 → sp q = 4 + v2 q) ∧ (∀ p g v, C p g v ≤ 1000) ∧ cok co C (18 * 108) ∧ cok ke C (18 * 108) ∧ ¬ x1 < 0 ∧ ¬ 1000 < x1 ∧ (∀ Q : Int32 → Prop, Q (nI (p * 12 + g)) → p_X3_findOther rp rs rk si x1 Q) ∧ (∀ Q : Int32 → Int32 → Int32 → (Nat → Int32) → Prop, (∀ r, x1 < r → Q r (nI p) (nI g) s2) → p_X6_finds mp mi op os s2 x1 Q)) := by
  obtain ⟨⟨M, hM, eM⟩, ⟨rfl, rfl⟩ | ⟨rfl, P, σ, C, hP, rfl, rfl, rfl, rfl, rfl, rfl, hs, hv, hk, hC, hc1, hc2⟩⟩ := h
  · refine Or.inl ⟨fun Q hQ => ?_, fun n0 n1 Q hQ => ?_⟩
    · exact s_findOther (σ := fun _ => 0) (P := 0) (by decide) (fun e => absurd e (by decide)) (fun e => absurd e (by decide)) (fun e => absurd e (by decide)) (fun _ _ _ e => absurd e (by decide)) (fun _ => hQ)
    · obtain ⟨j, hj, rfl⟩ := nI_of n0
      rw [show (1000 : Int32) = nI 1000 from rfl, nI_ltI (by decide) hj] at n1
      exact s_finds (σ := fun _ => 0) (kk := j) eM hM (Or.inl rfl) (by omega) (fun e => absurd e (by decide)) (fun _ _ e => absurd e (by decide)) (fun _ _ e => absurd e (by decide)) (fun _ => hQ _ _ _ n0)
  · have hs1 : ∀ e : P = 18, ∀ q, q < 18 → si q = nI (σ q) ∧ σ q < 12 := fun e q hq => ⟨(hs q (by omega)).1, (hs q (by omega)).2.2⟩
    have hs2 : ∀ e : P = 18, ∀ q, q < 18 → s2 q = nI (σ q) ∧ σ q < 12 := fun e q hq => ⟨(hs q (by omega)).2.1, (hs q (by omega)).2.2⟩
    by_cases hit : ∃ kk p g, P = 18 ∧ x1 = nI kk ∧ kk < 2 ^ 31 ∧ p < 18 ∧ g < 12 ∧ isO σ p g ∧ oc σ (p * 12 + g) = kk
    · obtain ⟨kk, p, g, e18, rfl, hkk, hp, hg, ho, eo⟩ := hit
      have hl := oc_le σ (p * 12 + g)
      have hh := oc_hit hp hg ho
      subst e18
      refine Or.inr ⟨p, g, σ, C, rfl, rfl, rfl, rfl, rfl, rfl, rfl, hp, hg, hs, hv, hC, hc1, hc2, nI_pos hkk, nI_nlt (a := 1000) (b := kk) (by omega) (by decide), fun Q hQ => ?_, fun Q hQ => ?_⟩
      · refine s_findOther (σ := σ) (by decide) (fun e => hs1 e) (fun e => (hk e).1) (fun e => (hk e).2) (fun k2 p2 g2 _ ek hk2 hp2 hg2 ho2 eo2 => ?_) (fun z => ?_)
        · rw [nI_eq hkk hk2] at ek
          obtain ⟨rfl, rfl⟩ := oc_uniq hg hg2 ho ho2 (by omega)
          exact hQ
        · have := z kk rfl rfl hkk
          omega
      · refine s_finds (σ := σ) (kk := kk) rfl (by decide) (Or.inr rfl) (by omega) (fun _ e => hs2 e) (fun p2 g2 _ _ hp2 hg2 ho2 eo2 => ?_) (fun _ _ _ _ z => by omega) (fun z => absurd ⟨rfl, rfl⟩ z)
        obtain ⟨rfl, rfl⟩ := oc_uniq hg hg2 ho ho2 (by omega)
        exact hQ _ (nI_lt (by omega) (by omega))
    · refine Or.inl ⟨fun Q hQ => ?_, fun n0 n1 Q hQ => ?_⟩
      · exact s_findOther (σ := σ) hP.2 (fun e => hs1 e) (fun e => (hk e).1) (fun e => (hk e).2) (fun k2 p2 g2 a b c d f i j => absurd ⟨k2, p2, g2, a, b, c, d, f, i, j⟩ hit) (fun _ => hQ)
      · obtain ⟨j, hj, rfl⟩ := nI_of n0
        rw [show (1000 : Int32) = nI 1000 from rfl, nI_ltI (by decide) hj] at n1
        refine s_finds (σ := σ) (kk := j) rfl hP.2 (Or.inr rfl) (by omega) (fun _ e => hs2 e) (fun p2 g2 _ e hp2 hg2 ho2 eo2 => absurd ⟨j, p2, g2, e, rfl, hj, hp2, hg2, ho2, eo2⟩ hit) (fun _ _ _ _ z => hQ _ _ _ (nI_nlt z hj)) (fun _ => hQ _ _ _ n0)
theorem dm12 {p g : Nat} (hp : p < 18) (hg : g < 12) : nI (p * 12 + g) / 12 = nI p ∧ jrem (nI (p * 12 + g)) 12 = nI g ∧ ¬ nI (p * 12 + g) = -1 := by
  refine ⟨?_, ?_, fun q => ?_⟩
  · rw [show (12 : Int32) = nI 12 from rfl, pk_div (by omega) (by decide) (by decide), show (p * 12 + g) / 12 = p by omega]
  · rw [show (12 : Int32) = nI 12 from rfl, jrem_nI (by omega) (by decide) (by decide), show (p * 12 + g) % 12 = g by omega]
  · exact nI_pos (n := p * 12 + g) (by omega) (by rw [q]; decide)
theorem b_other {v1 v2' : Prop} {hp rp rc rg rt rs rk mp mc mg mi mt x1 x2 thr op os : Int32} {co si sp ke s2 v2 be he jo nx to : Nat → Int32} {a3 : Nat → Int64} (h1 : v1) (h2 : v2') (h : IR hp rp rc rg rt rs rk mp mc mg mi mt co si sp ke s2 v2) {K : Int32 → (Nat → Int64) → (Nat → Int32) → (Nat → Int32) → (Nat → Int32) → Int32 → Int32 → Int32 → Int32 → (Nat → Int32) → (Nat → Int32) → (Nat → Int32) → Prop} (hK : ∀ k a3' be' he' jo' b thr' op' os' nx' to', thr' = k → (k = 0 → lg_cmp (a3' (Int32.toNatClampNeg 0)) (Int32.toInt64 b) = 0) → K k a3' be' he' jo' b thr' op' os' nx' s2 to') : p_L_other hp rp rc rs rk a3 be co he jo si x1 x2 (fun k a3' be' he' jo' => v1 ∧ (v2' ∧ (p_X6_other thr mp mc mi op os ke nx s2 to x1 x2 (fun b thr' op' os' nx' s2' to' => K k a3' be' he' jo' b thr' op' os' nx' s2' to')))) := by
  unfold p_L_other p_X5_other p_X5_other_J9 p_X6_other p_X6_other_J15 p_X6_other_J20 p_X6_other_J49 p_X6_other_J91
  by_cases hz : x2 < 0 ∨ ¬ x2 ≤ 2
  · exact hcb hz ⟨rfl, h1, h2, hdb hz ⟨no1, fun _ => hK 1 _ _ _ _ _ _ _ _ _ _ rfl no1⟩⟩
  obtain ⟨hx, hy⟩ := hzo hz
  refine hcx hx hy ?_
  have ok : ∀ b be' he' jo' op' os' nx' to', K 0 (vp_updL a3 (Int32.toNatClampNeg 0) (Int32.toInt64 b)) be' he' jo' b 0 op' os' nx' s2 to' := fun b _ _ _ _ _ _ _ => hK 0 _ _ _ _ _ _ _ _ _ _ rfl (fun _ => cmp_b _ _)
  rcases find2 (x1 := x1) (op := op) (os := os) h with ⟨f1, f2⟩ | ⟨p, g, σ, C, rfl, rfl, rfl, rfl, rfl, rfl, rfl, hp, hg, hs, hv, hC, hc1, hc2, n0, n1, f1, f2⟩
  · refine f1 _ ⟨fun q => absurd rfl q, fun _ => ⟨pk_in 0 1 (by decide), h1, h2, hdx hx hy ⟨fun _ => ok _ _ _ _ _ _ _ _, fun n0 => ⟨fun _ => ok _ _ _ _ _ _ _ _, fun n1 => ?_⟩⟩⟩⟩
    exact f2 n0 n1 _ (fun r op' os' hr => ⟨fun q => absurd q hr, fun _ => ok _ _ _ _ _ _ _ _⟩)
  · obtain ⟨d1, d2, d3⟩ := dm12 hp hg
    refine f1 _ ⟨fun _ => ?_, fun q => absurd q d3⟩
    rw [d1, d2]
    rcases c012 hx hy with rfl | rfl | rfl
    · refine ⟨fun q => absurd rfl q, fun _ => ⟨pk_in 0 1 (by decide), h1, h2, hdx hx hy ⟨fun q => absurd q n0, fun _ => ⟨fun q => absurd q n1, fun _ => f2 _ (fun r hr => ⟨fun _ => ⟨fun q => absurd rfl q, fun _ => ok _ _ _ _ _ _ _ _⟩, fun q => absurd hr q⟩)⟩⟩⟩⟩
    · refine ⟨fun _ => ⟨fun q => absurd rfl q, fun _ => ⟨pk_in 0 1 (by decide), h1, h2, hdx hx hy ⟨fun q => absurd q n0, fun _ => ⟨fun q => absurd q n1, fun _ => f2 _ (fun r hr => ⟨fun _ => ⟨fun _ => ⟨fun q => absurd rfl q, fun _ => ok _ _ _ _ _ _ _ _⟩, no1⟩, fun q => absurd hr q⟩)⟩⟩⟩⟩, no1⟩
    · refine ⟨fun _ => ⟨fun _ => ?_, fun q => absurd q (by decide)⟩, fun q => absurd q (by decide)⟩
      refine s_leastCostWith (σ := σ) (C := C) (by decide) (by decide) hc1 hC (fun q hq => ⟨(hs q hq).1, (hs q hq).2.2⟩) hp hg (fun b' h' j' => ?_)
      refine ⟨pk_in 0 1 (by decide), h1, h2, hdx hx hy ⟨fun q => absurd q n0, fun _ => ⟨fun q => absurd q n1, fun _ => f2 _ (fun r hr => ⟨fun _ => ⟨fun _ => ⟨fun _ => ?_, fun q => absurd q (by decide)⟩, fun q => absurd q (by decide)⟩, fun q => absurd hr q⟩)⟩⟩⟩
      exact s_costWith (σ := σ) (C := C) hc2 (fun p g v _ => hC p g v) (fun q hq => (hs q hq).2) hp hg (fun n' t' => ok _ _ _ _ _ _ _ _)
theorem b_choose {v1 : Prop} {hp rp rc rg rt rs rk mp mc mg mi mt x1 thr op os : Int32} {co si sp ke s2 v2 be he jo nx to : Nat → Int32} (h1 : v1) (h : IR hp rp rc rg rt rs rk mp mc mg mi mt co si sp ke s2 v2) {K : Int32 → Int32 → Int32 → Int32 → Int32 → (Nat → Int32) → (Nat → Int32) → (Nat → Int32) → (Nat → Int32) → Int32 → Int32 → Int32 → Int32 → Int32 → Int32 → (Nat → Int32) → (Nat → Int32) → (Nat → Int32) → Prop} (hK : ∀ r rc' rg' rs' rk' be' he' jo' si' r' thr' mc' mg' op' os' nx' s2' to', r = r' → IR hp rp rc' rg' rt rs' rk' mp mc' mg' mi mt co si' sp ke s2' v2 → K r rc' rg' rs' rk' be' he' jo' si' r' thr' mc' mg' op' os' nx' s2' to') : p_X5_choose hp rp rc rg rs rk be co he jo si x1 (fun r rc' rg' rs' rk' be' he' jo' si' => v1 ∧ (p_X6_choose thr mp mc mg mi op os ke nx s2 to x1 (fun r' thr' mc' mg' op' os' nx' s2' to' => K r rc' rg' rs' rk' be' he' jo' si' r' thr' mc' mg' op' os' nx' s2' to'))) := by
  unfold p_X5_choose p_X6_choose p_X6_choose_J25
  rcases find2 (x1 := x1) (op := op) (os := os) h with ⟨f1, f2⟩ | ⟨p, g, σ, C, rfl, rfl, rfl, rfl, rfl, rfl, rfl, hp, hg, hs, hv, hC, hc1, hc2, n0, n1, f1, f2⟩
  · refine f1 _ ⟨fun q => absurd rfl q, fun _ => ⟨h1, fun _ => hK _ _ _ _ _ _ _ _ _ _ _ _ _ _ _ _ _ _ rfl h, fun n0 => ⟨fun _ => hK _ _ _ _ _ _ _ _ _ _ _ _ _ _ _ _ _ _ rfl h, fun n1 => ?_⟩⟩⟩
    exact f2 n0 n1 _ (fun r op' os' hr => ⟨fun q => absurd q hr, fun _ => hK _ _ _ _ _ _ _ _ _ _ _ _ _ _ _ _ _ _ rfl h⟩)
  · obtain ⟨d1, d2, d3⟩ := dm12 hp hg
    refine f1 _ ⟨fun _ => ?_, fun q => absurd q d3⟩
    rw [d1, d2]
    refine s_leastCostWith (σ := σ) (C := C) (by decide) (by decide) hc1 hC (fun q hq => ⟨(hs q hq).1, (hs q hq).2.2⟩) hp hg (fun b' h' j' => ?_)
    unfold p_X3_become
    refine ⟨vp_in_nI (by omega) (by decide), ?_⟩
    rw [nI_clamp (show p < 2 ^ 31 by omega)]
    have hw : ∀ (a : Nat → Int32), (∀ q, q < 18 → a q = nI (σ q)) → ∀ q, q < 18 → upd a p (nI g) q = nI (wth σ p g q) ∧ wth σ p g q < 12 := by
      intro a ha q hq
      unfold wth
      by_cases y : q = p
      · subst y; rw [pk_us, if_pos rfl]; exact ⟨rfl, hg⟩
      · rw [pk_un y, if_neg y]; exact ⟨ha q hq, (hs q hq).2.2⟩
    have hw1 := hw si (fun q hq => (hs q hq).1)
    have hw2 := hw s2 (fun q hq => (hs q hq).2.1)
    refine s_checkLine (σ := wth σ p g) (by decide) hw1 (fun _ => ?_) (fun e => absurd rfl e)
    refine ⟨h1, fun q => absurd q n0, fun _ => ⟨fun q => absurd q n1, fun _ => f2 _ (fun r hr => ⟨fun _ => ?_, fun q => absurd hr q⟩)⟩⟩
    refine s_costWith (σ := σ) (C := C) hc2 (fun p g v _ => hC p g v) (fun q hq => (hs q hq).2) hp hg (fun n' t' => ?_)
    refine ⟨vp_in_nI (by omega) (by decide), ?_⟩
    rw [nI_clamp (show p < 2 ^ 31 by omega)]
    refine hK _ _ _ _ _ _ _ _ _ _ _ _ _ _ _ _ _ _ rfl ⟨⟨18, by decide, rfl⟩, Or.inr ⟨rfl, 18, wth σ p g, C, ⟨by decide, by decide⟩, rfl, rfl, rfl, rfl, rfl, rfl, fun q hq => ⟨(hw1 q hq).1, (hw2 q hq).1, (hw1 q hq).2⟩, hv, fun _ => ⟨rfl, rfl⟩, hC, hc1, hc2⟩⟩
