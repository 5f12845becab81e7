/-! about, place, field, others, other, choose -/
theorem hdx {x1 m y : Int32} {A A' : Prop} {B : Int32 → Prop} {D : Int32 → Int32 → Prop} (hx : ¬ x1 < 0) (hy : x1 ≤ m) (h : B 0) : (x1 < 0 → A) ∧ (¬ x1 < 0 → (x1 ≤ m → p_X6_bad 0 0 y (fun r f => (r = 0 → B f) ∧ (¬ r = 0 → D r f))) ∧ (¬ x1 ≤ m → A')) := ⟨fun q => absurd q hx, fun _ => ⟨fun _ => s_bad0 ⟨fun _ => h, fun q => absurd rfl q⟩, fun q => absurd hy q⟩⟩
theorem hdb {x1 m y : Int32} {A : Prop} {F : Int32 → Int32 → Prop} (hz : x1 < 0 ∨ ¬ x1 ≤ m) (h : F 1 y) : (x1 < 0 → p_X6_bad 0 1 y F) ∧ (¬ x1 < 0 → (x1 ≤ m → A) ∧ (¬ x1 ≤ m → p_X6_bad 0 1 y F)) := ⟨fun _ => s_bad1 h, fun q => ⟨fun r => absurd r (hz.resolve_left q), fun _ => s_bad1 h⟩⟩
theorem hcb {x1 m : Int32} {A X : Prop} (hz : x1 < 0 ∨ ¬ x1 ≤ m) (h : X) : (x1 < 0 → X) ∧ (¬ x1 < 0 → (x1 ≤ m → A) ∧ (¬ x1 ≤ m → X)) := ⟨fun _ => h, fun q => ⟨fun r => absurd r (hz.resolve_left q), fun _ => h⟩⟩
theorem hcx {x1 m : Int32} {A X Y : Prop} (hx : ¬ x1 < 0) (hy : x1 ≤ m) (h : A) : (x1 < 0 → X) ∧ (¬ x1 < 0 → (x1 ≤ m → A) ∧ (¬ x1 ≤ m → Y)) := ⟨fun q => absurd q hx, fun _ => ⟨fun _ => h, fun q => absurd hy q⟩⟩
theorem hzo {x m : Int32} (hz : ¬ (x < 0 ∨ ¬ x ≤ m)) : ¬ x < 0 ∧ x ≤ m := ⟨fun q => hz (Or.inl q), Classical.byContradiction (fun q => hz (Or.inr q))⟩
theorem fits2 {hp rp rc rg rt rs rk mp mc mg mi mt : Int32} {co si sp ke s2 v2 : Nat → Int32} (h : IR hp rp rc rg rt rs rk mp mc mg mi mt co si sp ke s2 v2) :
    ((∀ Q : Int32 → Prop, Q 0 → p_X3_fits rp rs rk Q) ∧ (∀ Q : Int32 → Prop, Q 0 → p_X6_fits mp mi s2 Q)) ∨ (∃ σ : Nat → Nat, mi = 1 ∧ ft σ ∧ (∀ q, q < 18 → si q = nI (σ q) ∧ s2 q = nI (σ q) ∧ σ q < 12) ∧ (∀ Q : Int32 → Prop, Q 1 → p_X3_fits rp rs rk Q) ∧ (∀ Q : Int32 → Prop, Q 1 → p_X6_fits mp mi s2 Q)) := by
  obtain ⟨⟨M, hM, eM⟩, ⟨rfl, rfl⟩ | ⟨rfl, P, σ, C, hP, rfl, rfl, rfl, rfl, rfl, rfl, hs, hv, hk, hC, hc1, hc2⟩⟩ := h
  · refine Or.inl ⟨fun Q hQ => ?_, fun Q hQ => ?_⟩
    · exact s_fits (σ := fun _ => 0) (P := 0) (by decide) (fun e => absurd e (by decide)) (fun e => absurd e (by decide)) (fun e => absurd e (by decide)) (fun e => absurd e (by decide)) (fun _ => hQ)
    · exact s_fitsR (σ := fun _ => 0) eM hM (Or.inl rfl) (fun e => absurd e (by decide)) (fun e => absurd e (by decide)) (fun _ => hQ)
  · have h18 : ∀ e : P = 18, ∀ q, q < 18 → s2 q = nI (σ q) ∧ σ q < 12 := fun e q hq => ⟨(hs q (by omega)).2.1, (hs q (by omega)).2.2⟩
    by_cases hf : P = 18 ∧ ft σ
    · have e18 := hf.1
      refine Or.inr ⟨σ, rfl, hf.2, fun q hq => hs q (by omega), fun Q hQ => ?_, fun Q hQ => ?_⟩
      · exact s_fits (σ := σ) hP.2 (fun e q hq => (hs q (by omega)).2.2) (fun e => (hk e).1) (fun e => (hk e).2) (fun _ _ => hQ) (fun z => absurd hf z)
      · exact s_fitsR (σ := σ) rfl hP.2 (Or.inr rfl) (fun _ e => h18 e) (fun _ _ _ => hQ) (fun z => absurd ⟨rfl, hf⟩ z)
    · refine Or.inl ⟨fun Q hQ => ?_, fun Q hQ => ?_⟩
      · exact s_fits (σ := σ) hP.2 (fun e q hq => (hs q (by omega)).2.2) (fun e => (hk e).1) (fun e => (hk e).2) (fun a b => absurd ⟨a, b⟩ hf) (fun _ => hQ)
      · exact s_fitsR (σ := σ) rfl hP.2 (Or.inr rfl) (fun _ e => h18 e) (fun _ a b => absurd ⟨a, b⟩ hf) (fun _ => hQ)
theorem b_about {v1 : Prop} {hp rp rc rg rt rs rk mp mc mg mi mt x1 thr : Int32} {co si sp ke s2 v2 : Nat → Int32} {a3 : Nat → Int64} (h1 : v1) (h : IR hp rp rc rg rt rs rk mp mc mg mi mt co si sp ke s2 v2) {K : Int32 → (Nat → Int64) → Int32 → Int32 → Prop} (hK : ∀ k a3' b thr', thr' = k → (k = 0 → lg_cmp (a3' (Int32.toNatClampNeg 0)) (Int32.toInt64 b) = 0) → K k a3' b thr') : p_L_about rp rc rg rt rs rk a3 x1 (fun k a3' => v1 ∧ (p_X6_about thr mp mc mg mi mt s2 x1 (fun b thr' => K k a3' b thr'))) := by
  unfold p_L_about p_X5_about p_X5_about_J9 p_X5_about_J103 p_X5_about_J119 p_X6_about p_X6_about_J15 p_X6_about_J20 p_X6_about_J105
  by_cases hz : x1 < 0 ∨ ¬ x1 ≤ 4
  · exact hcb hz ⟨rfl, h1, hdb hz ⟨no1, fun _ => hK 1 _ _ _ rfl no1⟩⟩
  obtain ⟨hx, hy⟩ := hzo hz
  refine hcx hx hy ?_
  have hf := fits2 h
  obtain ⟨⟨M, hM, eM⟩, ⟨rfl, rfl⟩ | ⟨rfl, P, σ, C, hP, rfl, rfl, rfl, rfl, rfl, rfl, hs, hv, hk, hC, hc1, hc2⟩⟩ := h
  · unfold p_X3_isThere p_X3_isThere_J12
    refine ⟨fun _ => ⟨rfl, fun q => absurd rfl q, fun _ => ⟨pk_in 0 1 (by decide), h1, hdx hx hy ?_⟩⟩, fun q => absurd (by decide) q⟩
    exact ⟨fun q => absurd rfl q, fun _ => hK 0 _ _ _ rfl (fun _ => cmp_b _ _)⟩
  · unfold p_X3_isThere p_X3_isThere_J12
    refine pk_le P 0 (fun q => by omega) (fun _ => ⟨rfl, fun _ => ⟨fun e => ?_, fun e => ?_, fun e => ?_, fun e => ?_, fun n0 n1 n2 n3 => ?_⟩, no1⟩)
    · refine ⟨pk_in 0 1 (by decide), h1, hdx hx hy ⟨fun _ => ⟨fun q => absurd e q, fun _ => ?_⟩, no1⟩⟩
      exact hK 0 _ _ _ rfl (fun _ => cmp_b _ _)
    · subst e
      refine ⟨pk_in 0 1 (by decide), h1, hdx hx hy ⟨fun _ => ⟨fun _ => ⟨fun q => absurd rfl q, fun _ => ?_⟩, no1⟩, no1⟩⟩
      exact hK 0 _ _ _ rfl (fun _ => cmp_b _ _)
    · subst e
      refine ⟨pk_in 0 1 (by decide), h1, hdx hx hy ⟨fun _ => ⟨fun _ => ⟨fun _ => ⟨fun q => absurd rfl q, fun _ => ?_⟩, fun q => absurd q (by decide)⟩, fun q => absurd q (by decide)⟩, no1⟩⟩
      exact hK 0 _ _ _ rfl (fun _ => cmp_b _ _)
    · subst e
      have go : ∀ b : Int32, ((rt = 0 → K 0 (vp_updL a3 (Int32.toNatClampNeg 0) (Int32.toInt64 b)) 0 0) ∧ (¬ rt = 0 → K 0 (vp_updL a3 (Int32.toNatClampNeg 0) (Int32.toInt64 b)) 1 0)) → (¬ (1 : Int32) = 0 → (¬ (3 : Int32) = 0 → (¬ (3 : Int32) = 1 → (¬ (3 : Int32) = 2 → (¬ (3 : Int32) = 3 → p_X6_fits (nI P) 1 s2 (fun r94 => (r94 = 0 → K 0 (vp_updL a3 (Int32.toNatClampNeg 0) (Int32.toInt64 b)) 0 0) ∧ (¬ r94 = 0 → K 0 (vp_updL a3 (Int32.toNatClampNeg 0) (Int32.toInt64 b)) 1 0))) ∧ ((3 : Int32) = 3 → (rt = 0 → K 0 (vp_updL a3 (Int32.toNatClampNeg 0) (Int32.toInt64 b)) 0 0) ∧ (¬ rt = 0 → K 0 (vp_updL a3 (Int32.toNatClampNeg 0) (Int32.toInt64 b)) 1 0))) ∧ ((3 : Int32) = 2 → K 0 (vp_updL a3 (Int32.toNatClampNeg 0) (Int32.toInt64 b)) rg 0)) ∧ ((3 : Int32) = 1 → K 0 (vp_updL a3 (Int32.toNatClampNeg 0) (Int32.toInt64 b)) rc 0)) ∧ ((3 : Int32) = 0 → K 0 (vp_updL a3 (Int32.toNatClampNeg 0) (Int32.toInt64 b)) (nI P) 0)) ∧ ((1 : Int32) = 0 → K 0 (vp_updL a3 (Int32.toNatClampNeg 0) (Int32.toInt64 b)) (-1) 0) := fun b hb => ⟨fun _ => ⟨fun _ => ⟨fun _ => ⟨fun _ => ⟨fun q => absurd rfl q, fun _ => hb⟩, fun q => absurd q (by decide)⟩, fun q => absurd q (by decide)⟩, fun q => absurd q (by decide)⟩, no1⟩
      refine ⟨fun e => ⟨pk_in 0 1 (by decide), h1, hdx hx hy (go 0 ⟨fun _ => ?_, fun q => absurd e q⟩)⟩, fun e => ⟨pk_in 0 1 (by decide), h1, hdx hx hy (go 1 ⟨fun q => absurd q e, fun _ => ?_⟩)⟩⟩
      · exact hK 0 _ _ _ rfl (fun _ => cmp_b _ _)
      · exact hK 0 _ _ _ rfl (fun _ => cmp_b _ _)
    · rcases hf with ⟨f1, f2⟩ | ⟨σ2, -, -, -, f1, f2⟩
      · refine f1 _ ⟨fun _ => ⟨pk_in 0 1 (by decide), h1, hdx hx hy ⟨fun _ => ⟨fun _ => ⟨fun _ => ⟨fun _ => ⟨fun _ => f2 _ ⟨fun _ => ?_, fun q => absurd rfl q⟩, fun q => absurd q n3⟩, fun q => absurd q n2⟩, fun q => absurd q n1⟩, fun q => absurd q n0⟩, no1⟩⟩, fun q => absurd rfl q⟩
        exact hK 0 _ _ _ rfl (fun _ => cmp_b _ _)
      · refine f1 _ ⟨no1, fun _ => ⟨pk_in 0 1 (by decide), h1, hdx hx hy ⟨fun _ => ⟨fun _ => ⟨fun _ => ⟨fun _ => ⟨fun _ => f2 _ ⟨no1, fun _ => ?_⟩, fun q => absurd q n3⟩, fun q => absurd q n2⟩, fun q => absurd q n1⟩, fun q => absurd q n0⟩, no1⟩⟩⟩
        exact hK 0 _ _ _ rfl (fun _ => cmp_b _ _)
theorem b_place {v1 v2' : Prop} {hp rp rc rg rt rs rk mp mc mg mi mt x1 x2 thr : Int32} {co si sp ke s2 v2 : Nat → Int32} {a3 : Nat → Int64} (h1 : v1) (h2 : v2') (h : IR hp rp rc rg rt rs rk mp mc mg mi mt co si sp ke s2 v2) {K : Int32 → (Nat → Int64) → Int32 → Int32 → Prop} (hK : ∀ k a3' b thr', thr' = k → (k = 0 → lg_cmp (a3' (Int32.toNatClampNeg 0)) (Int32.toInt64 b) = 0) → K k a3' b thr') : p_L_place rp a3 si sp x1 x2 (fun k a3' => v1 ∧ (v2' ∧ (p_X6_place thr mp mi s2 v2 x1 x2 (fun b thr' => K k a3' b thr')))) := by
  unfold p_L_place p_X5_place p_X5_place_J9 p_X5_place_J34 p_X5_place_J61 p_X6_place p_X6_place_J15 p_X6_place_J20 p_X6_place_J48 p_X6_place_J71
  by_cases hz : x2 < 0 ∨ ¬ x2 ≤ 1
  · exact hcb hz ⟨rfl, h1, h2, hdb hz ⟨no1, fun _ => hK 1 _ _ _ rfl no1⟩⟩
  obtain ⟨hx, hy⟩ := hzo hz
  refine hcx hx hy ?_
  have ok : ∀ b, K 0 (vp_updL a3 (Int32.toNatClampNeg 0) (Int32.toInt64 b)) b 0 := fun b => hK 0 _ _ _ rfl (fun _ => cmp_b _ _)
  obtain ⟨⟨M, hM, eM⟩, ⟨rfl, rfl⟩ | ⟨rfl, P, σ, C, hP, rfl, rfl, rfl, rfl, rfl, rfl, hs, hv, hk, hC, hc1, hc2⟩⟩ := h
  · refine ⟨fun _ => ⟨pk_in 0 1 (by decide), h1, h2, hdx hx hy ⟨fun _ => ok _, fun q => absurd rfl q⟩⟩, fun n0 => ⟨fun q => absurd q n0, fun _ => ⟨pk_in 0 1 (by decide), h1, h2, hdx hx hy ⟨fun _ => ok _, fun q => absurd rfl q⟩⟩⟩⟩
  · by_cases hn : x1 < 0
    · exact ⟨fun _ => ⟨pk_in 0 1 (by decide), h1, h2, hdx hx hy ⟨no1, fun _ => ⟨fun _ => ok _, fun q => absurd hn q⟩⟩⟩, fun q => absurd hn q⟩
    obtain ⟨j, hj, rfl⟩ := nI_of hn
    refine ⟨fun q => absurd q hn, fun _ => pk_lt j P (fun q => ?_) (fun q => ?_)⟩
    · have hvj := hv j q
      rw [nI_clamp hj]
      refine ⟨fun e => ⟨vp_in_nI (by omega) (by decide), pk_in 0 1 (by decide), h1, h2, hdx hx hy ⟨no1, fun _ => ⟨fun q => absurd q hn, fun _ => pk_lt j P (fun _ => ⟨fun _ => ⟨vp_in_nI (by omega) (by decide), ?_⟩, fun q => absurd q e⟩) (fun q => by omega)⟩⟩⟩, fun e => ⟨vp_in_nI (by omega) (by decide), pk_in 0 1 (by decide), h1, h2, hdx hx hy ⟨no1, fun _ => ⟨fun q => absurd q hn, fun _ => pk_lt j P (fun _ => ⟨fun q => absurd e q, fun _ => ⟨vp_in_nI (by omega) (by decide), ?_⟩⟩) (fun q => by omega)⟩⟩⟩⟩
      · rw [hvj]; exact ok _
      · rw [(hs j q).1, (hs j q).2.1]; exact ok _
    · exact ⟨pk_in 0 1 (by decide), h1, h2, hdx hx hy ⟨no1, fun _ => ⟨fun q => absurd q hn, fun _ => pk_lt j P (fun q => by omega) (fun _ => ok _)⟩⟩⟩
theorem s_fieldOf {a : Nat → Int32} {σ : Nat → Nat} (hs : ∀ q, q < 18 → a q = nI (σ q) ∧ σ q < 12) (hf : ft σ) (Q : Int32 → Prop) : (Q (nI (vl σ 1 4)) → p_X6_fieldOf a 0 Q) ∧ (Q (nI (vl σ 6 6)) → p_X6_fieldOf a 1 Q) ∧ (Q (nI (vl σ 13 4)) → p_X6_fieldOf a 2 Q) := by
  rw [ft_iff] at hf
  unfold p_X6_fieldOf p_X6_fieldOf_J36
  refine ⟨fun h => ⟨fun q => absurd rfl q, fun _ => ?_⟩, fun h => ⟨fun _ => ⟨fun q => absurd rfl q, fun _ => ?_⟩, no1⟩, fun h => ⟨fun _ => ⟨fun _ => ?_, fun q => absurd q (by decide)⟩, fun q => absurd q (by decide)⟩⟩
  · exact s_digits (s := 1) (n := 4) rfl rfl (by decide) (by decide) hs (fun _ => h) (fun z => absurd hf.2.2.2.2.1 z)
  · exact s_digits (s := 6) (n := 6) rfl rfl (by decide) (by decide) hs (fun _ => h) (fun z => absurd hf.2.2.2.2.2.1 z)
  · exact s_digits (s := 13) (n := 4) rfl rfl (by decide) (by decide) hs (fun _ => h) (fun z => absurd hf.2.2.2.2.2.2.1 z)
theorem s_digC {a : Nat → Int32} {σ : Nat → Nat} (hs : ∀ q, q < 18 → a q = nI (σ q)) (Q : Int32 → Prop) : (Q (nI (vl σ 1 4)) → p_X3_digitsOf a 0 Q) ∧ (Q (nI (vl σ 6 6)) → p_X3_digitsOf a 1 Q) ∧ (Q (nI (vl σ 13 4)) → p_X3_digitsOf a 2 Q) :=
  ⟨fun h => s_digitsOf (f := 0) (s := 1) (n := 4) rfl (by decide) rfl rfl (by decide) hs h, fun h => s_digitsOf (f := 1) (s := 6) (n := 6) rfl (by decide) rfl rfl (by decide) hs h, fun h => s_digitsOf (f := 2) (s := 13) (n := 4) rfl (by decide) rfl rfl (by decide) hs h⟩
theorem c012 {x : Int32} (hx : ¬ x < 0) (hy : x ≤ 2) : x = 0 ∨ x = 1 ∨ x = 2 := by
  obtain ⟨j, hj, rfl⟩ := nI_of2 (M := 2) (n := 2) rfl hx hy
  rcases (show j = 0 ∨ j = 1 ∨ j = 2 by omega) with rfl | rfl | rfl
  · exact Or.inl rfl
  · exact Or.inr (Or.inl rfl)
  · exact Or.inr (Or.inr rfl)
theorem b_field {v1 : Prop} {hp rp rc rg rt rs rk mp mc mg mi mt x1 thr : Int32} {co si sp ke s2 v2 : Nat → Int32} {a3 : Nat → Int64} (h1 : v1) (h : IR hp rp rc rg rt rs rk mp mc mg mi mt co si sp ke s2 v2) {K : Int32 → (Nat → Int64) → Int32 → Int32 → Prop} (hK : ∀ k a3' b thr', thr' = k → (k = 0 → lg_cmp (a3' (Int32.toNatClampNeg 0)) (Int32.toInt64 b) = 0) → K k a3' b thr') : p_L_field rp rs rk a3 si x1 (fun k a3' => v1 ∧ (p_X6_field thr mp mi s2 x1 (fun b thr' => K k a3' b thr'))) := by
  unfold p_L_field p_X5_field p_X5_field_J9 p_X5_field_J41 p_X6_field p_X6_field_J15 p_X6_field_J20 p_X6_field_J45
  by_cases hz : x1 < 0 ∨ ¬ x1 ≤ 2
  · exact hcb hz ⟨rfl, h1, hdb hz ⟨no1, fun _ => hK 1 _ _ _ rfl no1⟩⟩
  obtain ⟨hx, hy⟩ := hzo hz
  refine hcx hx hy ?_
  have ok : ∀ b, K 0 (vp_updL a3 (Int32.toNatClampNeg 0) (Int32.toInt64 b)) b 0 := fun b => hK 0 _ _ _ rfl (fun _ => cmp_b _ _)
  rcases fits2 h with ⟨f1, f2⟩ | ⟨σ, -, hf, hs, f1, f2⟩
  · exact f1 _ ⟨fun _ => ⟨pk_in 0 1 (by decide), h1, hdx hx hy (f2 _ ⟨fun _ => ok _, fun q => absurd rfl q⟩)⟩, fun q => absurd rfl q⟩
  · refine f1 _ ⟨no1, fun _ => ?_⟩
    have d1 := s_digC (a := si) (σ := σ) (fun q hq => (hs q hq).1)
    have d2 := s_fieldOf (a := s2) (σ := σ) (fun q hq => (hs q hq).2) hf
    rcases c012 hx hy with rfl | rfl | rfl
    · exact (d1 _).1 ⟨pk_in 0 1 (by decide), h1, hdx hx hy (f2 _ ⟨no1, fun _ => (d2 _).1 (ok _)⟩)⟩
    · exact (d1 _).2.1 ⟨pk_in 0 1 (by decide), h1, hdx hx hy (f2 _ ⟨no1, fun _ => (d2 _).2.1 (ok _)⟩)⟩
    · exact (d1 _).2.2 ⟨pk_in 0 1 (by decide), h1, hdx hx hy (f2 _ ⟨no1, fun _ => (d2 _).2.2 (ok _)⟩)⟩
theorem b_others {hp rp rc rg rt rs rk mp mc mg mi mt thr op os : Int32} {co si sp ke s2 v2 : Nat → Int32} (h : IR hp rp rc rg rt rs rk mp mc mg mi mt co si sp ke s2 v2) {K : Int32 → Int32 → Int32 → Int32 → Int32 → (Nat → Int32) → Prop} (hK : ∀ r thr' op' os', K r r thr' op' os' s2) : p_X5_others rp rs rk si (fun r => p_X6_others thr mp mi op os s2 (fun r' thr' op' os' s2' => K r r' thr' op' os' s2')) := by
  unfold p_X5_others p_X6_others
  obtain ⟨⟨M, hM, eM⟩, ⟨rfl, rfl⟩ | ⟨rfl, P, σ, C, hP, rfl, rfl, rfl, rfl, rfl, rfl, hs, hv, hk, hC, hc1, hc2⟩⟩ := h
  · refine s_countOthers (σ := fun _ => 0) (P := 0) (by decide) (fun e => absurd e (by decide)) (fun e => absurd e (by decide)) (fun e => absurd e (by decide)) (fun e => absurd e (by decide)) (fun _ => ?_)
    exact s_finds (σ := fun _ => 0) (kk := 1000) eM hM (Or.inl rfl) (by decide) (fun e => absurd e (by decide)) (fun _ _ e => absurd e (by decide)) (fun _ _ e => absurd e (by decide)) (fun _ => hK _ _ _ _)
  · refine s_countOthers (σ := σ) hP.2 (fun e q hq => ⟨(hs q (by omega)).1, (hs q (by omega)).2.2⟩) (fun e => (hk e).1) (fun e => (hk e).2) (fun e => ?_) (fun e => ?_)
    · refine s_finds (σ := σ) (kk := 1000) rfl hP.2 (Or.inr rfl) (by decide) (fun _ e q hq => ⟨(hs q (by omega)).2.1, (hs q (by omega)).2.2⟩) (fun p g _ _ hp hg _ eo => ?_) (fun _ _ _ _ _ => hK _ _ _ _) (fun z => absurd ⟨rfl, e⟩ z)
      have := oc_le σ (p * 12 + g)
      omega
    · exact s_finds (σ := σ) (kk := 1000) rfl hP.2 (Or.inr rfl) (by decide) (fun _ e2 => absurd e2 e) (fun _ _ _ e2 => absurd e2 e) (fun _ _ _ e2 => absurd e2 e) (fun _ => hK _ _ _ _)
