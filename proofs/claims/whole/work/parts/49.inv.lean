/-! what holds between the calls, in four groups; the ends of the cases -/
theorem upd_id {f : Nat → Int32} {k : Nat} {x : Int32} (h : f k = x) : upd f k x = f := by
  funext j
  by_cases e : j = k
  · rw [e, pk_us, h]
  · rw [pk_un e]
theorem fin_t {k thr : Int32} {c R : Prop} (e1 : thr = k) (e2 : k = 0 → c) (hR : R) : p_X6_thrown thr (fun r => (r = k → (¬ k = 0 → R) ∧ (k = 0 → vp_in 0 1 ∧ ((c → R) ∧ (¬ c → False)))) ∧ (¬ r = k → False)) := by
  unfold p_X6_thrown
  exact ⟨fun _ => ⟨fun _ => hR, fun z => ⟨pk_in 0 1 (by decide), fun _ => hR, fun y => y (e2 z)⟩⟩, fun z => z e1⟩
theorem fin_e {a b : Int32} {R : Prop} (e : a = b) (hR : R) : (a = b → R) ∧ (¬ a = b → False) := ⟨fun _ => hR, fun z => z e⟩
theorem cmp_b (a3 : Nat → Int64) (x : Int32) : lg_cmp (vp_updL a3 (Int32.toNatClampNeg 0) (Int32.toInt64 x) (Int32.toNatClampNeg 0)) (Int32.toInt64 x) = 0 := (lg_cmp_eq _ _).mpr pk_uLs
theorem cmp_l (a3 : Nat → Int64) (x : Int64) : lg_cmp (vp_updL a3 (Int32.toNatClampNeg 0) x (Int32.toNatClampNeg 0)) x = 0 := (lg_cmp_eq _ _).mpr pk_uLs
theorem no1 {p : Prop} : (1 : Int32) = 0 → p := fun q => absurd q (by decide)
theorem s_bad1 {f x2 : Int32} {Q : Int32 → Int32 → Prop} (h : Q 1 x2) : p_X6_bad f 1 x2 Q := by
  unfold p_X6_bad p_X6_bad_J9
  exact ⟨fun q => absurd q (by decide), fun _ => ⟨rfl, h⟩⟩
theorem s_bad0 {f x2 : Int32} {Q : Int32 → Int32 → Prop} (h : Q 0 f) : p_X6_bad f 0 x2 Q := by
  unfold p_X6_bad p_X6_bad_J9
  exact ⟨fun _ => ⟨rfl, h⟩, fun q => absurd rfl q⟩
/-- the alphabet -/
def IA (tc : Int32) (num wid tau : Nat → Int32) : Prop := num = tau ∧ ∃ nm : Nat → Nat, (∀ g, g < 12 → tau g = nI (nm g) ∧ (nm g = 0 ∨ okw (nm g))) ∧ (∀ i, i < 72 → wid i = nI (wd nm i)) ∧ tc = nI (tn nm)
/-- the ticks -/
def IT (tc tm : Int32) (t1 t2 : Nat → Int32) : Prop := t1 = t2 ∧ ∃ (n : Nat) (t : Nat → Nat), n ≤ 120 ∧ tc = nI n ∧ tm = nI n ∧ (∀ i, 1 ≤ t i ∧ t i ≤ 60) ∧ ∀ i, i < n → t2 i = nI (t i)
/-- what is read -/
def IR1 (hp rp rc rg rt rs rk mp mc mg mt : Int32) (co si sp ke s2 v2 : Nat → Int32) : Prop :=
  ∃ (P : Nat) (σ : Nat → Nat) (C : Nat → Nat → Nat → Nat), (0 < P ∧ P ≤ 20) ∧ rp = nI P ∧ mp = nI P ∧ hp = nI P ∧ rc = mc ∧ rg = mg ∧ rt = mt ∧ (∀ p, p < P → si p = nI (σ p) ∧ s2 p = nI (σ p) ∧ σ p < 12) ∧ (∀ p, p < P → sp p = 4 + v2 p) ∧ (P = 18 → rs = nI (stg σ 18) ∧ rk = nI (cks σ 18)) ∧ (∀ p g v, C p g v ≤ 1000) ∧ cok co C (P * 108) ∧ cok ke C (P * 108)
def IR (hp rp rc rg rt rs rk mp mc mg mi mt : Int32) (co si sp ke s2 v2 : Nat → Int32) : Prop :=
  (∃ M : Nat, M ≤ 20 ∧ mp = nI M) ∧ ((mi = 0 ∧ rp = 0) ∨ (mi = 1 ∧ IR1 hp rp rc rg rt rs rk mp mc mg mt co si sp ke s2 v2))
/-- the batches and the papers -/
def IL (b1 b2 p1 p2 : Int32) (acc amt bnk bat num told acc2 amt2 bnk2 bat2 num2 told2 : Nat → Int32) : Prop :=
  acc = acc2 ∧ amt = amt2 ∧ bnk = bnk2 ∧ bat = bat2 ∧ num = num2 ∧ told = told2 ∧ ∃ (B P : Nat), B ≤ 20 ∧ P ≤ 100 ∧ b1 = nI B ∧ b2 = nI B ∧ p1 = nI P ∧ p2 = nI P ∧ (∀ i, i < P → ∃ a, amt2 i = nI a ∧ a ≤ 9999999) ∧ (∀ i, i < B → ∃ t, told2 i = nI t ∧ t ≤ 1000000000)
theorem okw_lt {n : Nat} (h : n = 0 ∨ okw n) : n < 2 ^ 31 := by
  rcases h with h | h
  · omega
  · have := h.2.1; omega
theorem b_teach {v1 v2 : Prop} {tc x1 x2 thr : Int32} {a3 : Nat → Int64} {num wid tau : Nat → Int32} (h1 : v1) (h2 : v2) (h : IA tc num wid tau) {K : Int32 → Int32 → (Nat → Int64) → (Nat → Int32) → (Nat → Int32) → Int32 → Int32 → (Nat → Int32) → Prop} (hK : ∀ k tc' a3' num' wid' b thr' tau', IA tc' num' wid' tau' → thr' = k → (k = 0 → lg_cmp (a3' (Int32.toNatClampNeg 0)) (Int32.toInt64 b) = 0) → K k tc' a3' num' wid' b thr' tau') : p_L_teach tc a3 num wid x1 x2 (fun k tc' a3' num' wid' => v1 ∧ (v2 ∧ (p_X6_teach thr tau x1 x2 (fun b thr' tau' => K k tc' a3' num' wid' b thr' tau')))) := by
  unfold p_L_teach p_X5_teach p_X5_teach_J10 p_X5_teach_J54
  have bad : (∀ g n, x1 = nI g → g < 12 → x2 = nI n → n < 2 ^ 31 → ¬ okw n) → (v1 ∧ (v2 ∧ p_X6_teach thr tau x1 x2 (fun b thr' tau' => K 1 tc a3 num wid b thr' tau'))) := fun z => ⟨h1, h2, s_teachR (fun g n e1 hg e2 hn ho => absurd ho (z g n e1 hg e2 hn)) (fun _ => hK 1 _ _ _ _ _ _ _ h rfl no1)⟩
  by_cases hx : x1 < 0
  · exact ⟨fun _ => ⟨rfl, bad (fun g n e hg _ _ => absurd (neg_of hx g e (by omega)) id)⟩, fun q => absurd hx q⟩
  obtain ⟨g, hg, rfl⟩ := nI_of hx
  refine ⟨fun q => absurd q hx, fun _ => ?_⟩
  refine pk_lt g 12 (fun hg12 => ?_) (fun q => ⟨rfl, bad (fun g2 n e hg2 _ _ => by rw [nI_eq hg (by omega)] at e; omega)⟩)
  refine s_areWidths (fun n e hn ho => ?_) (fun z => ⟨fun q => absurd rfl q, fun _ => ⟨rfl, bad (fun _ n _ _ e hn => z n e hn)⟩⟩)
  subst e
  refine ⟨fun _ => ?_, fun q => absurd q (by decide)⟩
  obtain ⟨rfl, nm, hn1, hw, rfl⟩ := h
  refine s_learn (num := nm) hg12 hn (fun g hg => ⟨(hn1 g hg).1, okw_lt (hn1 g hg).2⟩) hw (fun e => ?_) (fun w' e hw' => ?_)
  · refine ⟨fun _ => ⟨pk_in 0 1 (by decide), h1, h2, ?_⟩, fun q => absurd rfl q⟩
    refine s_teachR (fun g2 n2 e1 hg2 e2 hn2 _ => ?_) (fun z => absurd ho (z g n rfl hg12 rfl hn))
    rw [nI_eq hg (by omega)] at e1
    subst e1
    have et : num g = nI n := by rw [(hn1 g hg12).1, e]
    rw [if_pos et, upd_id et]
    exact hK 0 _ _ _ _ _ _ _ ⟨rfl, nm, hn1, hw, rfl⟩ rfl (fun _ => cmp_b _ _)
  · refine ⟨no1, fun _ => ⟨pk_in 0 1 (by decide), h1, h2, ?_⟩⟩
    refine s_teachR (fun g2 n2 e1 hg2 e2 hn2 _ => ?_) (fun z => absurd ho (z g n rfl hg12 rfl hn))
    rw [nI_eq hg (by omega)] at e1
    subst e1
    have et : ¬ num g = nI n := by
      rw [(hn1 g hg12).1, nI_eq (okw_lt (hn1 g hg12).2) hn]; exact e
    rw [if_neg et]
    refine hK 0 _ _ _ _ _ _ _ ⟨rfl, wth nm g n, fun g3 hg3 => ?_, hw', ?_⟩ rfl (fun _ => cmp_b _ _)
    · unfold wth
      by_cases y : g3 = g
      · subst y; rw [pk_us, if_pos rfl]; exact ⟨rfl, Or.inr ho⟩
      · rw [pk_un y, if_neg y]; exact hn1 g3 hg3
    · rw [tn_wth hg12 (by have := ho.1; omega)]
      by_cases y : nm g = 0
      · rw [if_pos y, if_pos y, nI_1]
      · rw [if_neg y, if_neg y]
theorem b_tick {v1 : Prop} {tc tm x1 thr : Int32} {a3 : Nat → Int64} {t1 t2 : Nat → Int32} (h1 : v1) (h : IT tc tm t1 t2) {K : Int32 → Int32 → (Nat → Int64) → (Nat → Int32) → Int32 → Int32 → Int32 → (Nat → Int32) → Prop} (hK : ∀ k tc' a3' t1' b thr' tm' t2', IT tc' tm' t1' t2' → thr' = k → (k = 0 → lg_cmp (a3' (Int32.toNatClampNeg 0)) (Int32.toInt64 b) = 0) → K k tc' a3' t1' b thr' tm' t2') : p_L_tick tc a3 t1 x1 (fun k tc' a3' t1' => v1 ∧ (p_X6_tick thr tm t2 x1 (fun b thr' tm' t2' => K k tc' a3' t1' b thr' tm' t2'))) := by
  unfold p_L_tick p_X5_tick p_X5_tick_J11 p_X6_tick p_X6_tick_J17 p_X6_tick_J22
  have bad : ∀ s, IT tc s t1 t2 → p_X6_bad 0 1 1 (fun r23 f_thrown_23 => (r23 = 0 → (¬ s = 120 → vp_in s 120 ∧ (K 1 tc a3 t1 (s + 1) f_thrown_23 (s + 1) (upd t2 (Int32.toNatClampNeg s) x1))) ∧ (s = 120 → K 1 tc a3 t1 (-1) f_thrown_23 s t2)) ∧ (¬ r23 = 0 → K 1 tc a3 t1 0 f_thrown_23 s t2)) := fun s hs => s_bad1 ⟨no1, fun _ => hK 1 _ _ _ _ _ _ _ hs rfl no1⟩
  by_cases hx : x1 < 1
  · exact ⟨fun _ => ⟨rfl, h1, fun _ => bad _ h, fun q => absurd hx q⟩, fun q => absurd hx q⟩
  by_cases hy : x1 ≤ 60
  · have hz : ¬ x1 < 0 := fun q => hx (Int32.lt_trans q (by decide))
    obtain ⟨a, ha, rfl⟩ := nI_of hz
    rw [show (1 : Int32) = nI 1 from rfl, nI_ltI ha (by decide)] at hx
    rw [show (60 : Int32) = nI 60 from rfl, nI_leI ha (by decide)] at hy
    obtain ⟨rfl, n, t, hn, rfl, rfl, ht, hti⟩ := h
    refine pk_lt a 1 (fun q => by omega) (fun _ => ?_)
    refine pk_le a 60 (fun _ => ?_) (fun q => by omega)
    refine pk_lt n 120 (fun q => ?_) (fun q => ?_)
    · refine ⟨vp_in_nI q (by decide), pk_in 0 1 (by decide), h1, ?_⟩
      refine pk_lt a 1 (fun q => by omega) (fun _ => ?_)
      refine pk_le a 60 (fun _ => ?_) (fun q => by omega)
      refine s_bad0 ⟨fun _ => (pk_eq n 120 (fun z => by omega) (fun _ => ?_)).symm, fun q => absurd rfl q⟩
      refine ⟨vp_in_nI q (by decide), ?_⟩
      rw [nI_1, nI_clamp (show n < 2 ^ 31 by omega)]
      refine hK 0 _ _ _ _ _ _ _ ⟨rfl, n + 1, wth t n a, by omega, rfl, rfl, fun i => ?_, fun i hi => ?_⟩ rfl (fun _ => cmp_b _ _)
      · unfold wth
        by_cases y : i = n
        · rw [if_pos y]; omega
        · rw [if_neg y]; exact ht i
      · unfold wth
        by_cases y : i = n
        · subst y; rw [pk_us, if_pos rfl]
        · rw [pk_un y, if_neg y]; exact hti i (by omega)
    · refine ⟨pk_in 0 1 (by decide), h1, ?_⟩
      refine pk_lt a 1 (fun q => by omega) (fun _ => ?_)
      refine pk_le a 60 (fun _ => ?_) (fun q => by omega)
      refine s_bad0 ⟨fun _ => (pk_eq n 120 (fun _ => ?_) (fun z => by omega)).symm, fun q => absurd rfl q⟩
      exact hK 0 _ _ _ _ _ _ _ ⟨rfl, n, t, hn, rfl, rfl, ht, hti⟩ rfl (fun _ => cmp_b _ _)
  · exact ⟨fun q => absurd q hx, fun _ => ⟨fun q => absurd q hy, fun _ => ⟨rfl, h1, fun q => absurd q hx, fun _ => ⟨fun q => absurd q hy, fun _ => bad _ h⟩⟩⟩⟩
