/-! the reading, as both read it -/
def cx (t num : Nat → Nat) (P : Nat) (x : Int32) : Nat → Nat → Nat → Nat := ct (fun i => if x = 0 then t i else t (P * 6 - 1 - i)) (wd num)
def tnd (t num : Nat → Nat) (P : Nat) : Int32 := if bs (cx t num P 1) P < bs (cx t num P 0) P then 1 else 0
theorem tnd_b (t num : Nat → Nat) (P : Nat) : tnd t num P = 0 ∨ tnd t num P = 1 := by
  unfold tnd
  split
  · exact Or.inr rfl
  · exact Or.inl rfl
theorem cx_le {t num : Nat → Nat} {P : Nat} {x : Int32} (htb : ∀ i, t i ≤ 60) (p g v : Nat) (hv : v < 9) : cx t num P x p g v ≤ 1000 := by
  unfold cx
  refine ct_le (fun i => ?_) (wd_le num) hv
  by_cases e : x = 0
  · rw [if_pos e]; exact htb _
  · rw [if_neg e]; exact htb _
theorem bs_le {C : Nat → Nat → Nat → Nat} {P : Nat} (hP : P ≤ 20) (hP0 : 0 < P) (hb : ∀ p g v, v < 9 → C p g v ≤ 1000) : bs C P ≤ 21000 := by
  unfold bs
  have hh : ∀ p v, p < P → v < 9 → ha C p v ≤ 1000 := fun p v _ hv => mn_le 11 (fun g _ => hb p g v hv)
  refine mn_le 8 (fun v hv => ?_)
  have a1 := hh 0 v hP0 (by omega)
  have a2 := bk_le2 hP hh hP0 (show v < 9 by omega)
  rw [Nat.sub_zero] at a2
  omega
theorem s_layCheaper {ticks widths behind costs here joined laid : Nat → Int32} {t num : Nat → Nat} {P : Nat} {pl : Int32} (hP : P ≤ 20) (hP0 : 0 < P) (ht : ∀ i, i < P * 6 → ticks i = nI (t i)) (htb : ∀ i, t i ≤ 60) (hw : ∀ i, i < 72 → widths i = nI (wd num i)) {Q : Int32 → Int32 → (Nat → Int32) → (Nat → Int32) → (Nat → Int32) → (Nat → Int32) → (Nat → Int32) → Prop}
    (hQ : ∀ b' c' h' j' l', cok c' (cx t num P (tnd t num P)) (P * 108) → (∀ p v, p < P → v < 9 → h' (p * 9 + v) = nI (ha (cx t num P (tnd t num P)) p v)) → (∀ p v, p < P → v < 9 → b' (p * 9 + v) = nI (bk (ha (cx t num P (tnd t num P))) (P - 1 - p) p v)) → Q (tnd t num P) (nI P) b' c' h' j' l') : p_X5_layTheCheaperWay (nI (P * 6)) pl ticks widths behind costs here joined laid Q := by
  unfold p_X5_layTheCheaperWay
  refine s_measure (t := t) (num := num) hP hP0 ht htb hw (fun b1 c1 h1 j1 l1 _ _ _ => ?_)
  refine s_measure (t := t) (num := num) hP hP0 ht htb hw (fun b2 c2 h2 j2 l2 d1 d2 d3 => ?_)
  have e1 : bs (cx t num P 1) P < 2 ^ 31 := Nat.lt_of_le_of_lt (bs_le hP hP0 (fun p g v hv => cx_le htb p g v hv)) (by decide)
  have e0 : bs (cx t num P 0) P < 2 ^ 31 := Nat.lt_of_le_of_lt (bs_le hP hP0 (fun p g v hv => cx_le htb p g v hv)) (by decide)
  refine pk_lt (bs (cx t num P 1) P) (bs (cx t num P 0) P) (fun q => ?_) (fun q => ?_) rfl rfl e1 e0
  · have et : tnd t num P = 1 := if_pos q
    refine s_measure (t := t) (num := num) hP hP0 ht htb hw (fun b3 c3 h3 j3 l3 f1 f2 f3 => ?_)
    refine ⟨rfl, ?_⟩
    rw [et] at hQ
    exact hQ b3 c3 h3 j3 l3 f1 f2 f3
  · have et : tnd t num P = 0 := if_neg (by omega)
    refine ⟨rfl, ?_⟩
    rw [et] at hQ
    exact hQ b2 c2 h2 j2 l2 d1 d2 d3
theorem s_readC {ticks widths before behind costs here joined laid signs speeds : Nat → Int32} {t num : Nat → Nat} {P : Nat} {hpl rpl rco rga rtu rst rch : Int32} (hP : P ≤ 20) (hP0 : 0 < P) (ht : ∀ i, i < P * 6 → ticks i = nI (t i)) (htb : ∀ i, t i ≤ 60) (hw : ∀ i, i < 72 → widths i = nI (wd num i)) {C : Nat → Nat → Nat → Nat} {L : Nat} (hC : cx t num P (tnd t num P) = C) (hL : bs C P = L)
    {Q : Int32 → Int32 → Int32 → Int32 → Int32 → Int32 → Int32 → Int32 → Int32 → (Nat → Int32) → (Nat → Int32) → (Nat → Int32) → (Nat → Int32) → (Nat → Int32) → (Nat → Int32) → (Nat → Int32) → (Nat → Int32) → Prop}
    (hQ : ∀ st ch bf bh co he jo la si sp, cok co C (P * 108) → (∀ p, p < P → si p = nI (sg C (ha C) P L p)) → (∀ p, p < P → sp p = nI (4 + sv (fun p v => C p (sg C (ha C) P L p) v) P L p)) → (P = 18 → st = nI (stg (sg C (ha C) P L) 18) ∧ ch = nI (cks (sg C (ha C) P L) 18)) → Q (nI L) 0 (nI P) (nI P) (nI L) (nI (gq (fun p g => th C (ha C) P (fw (ha C) p) p g) (sg C (ha C) P L) 7201 P) - nI L) (tnd t num P) st ch bf bh co he jo la si sp) : p_X5_read (nI (P * 6)) (nI 12) hpl rpl rco rga rtu rst rch ticks widths before behind costs here joined laid signs speeds Q := by
  have hb : ∀ p g v, v < 9 → C p g v ≤ 1000 := fun p g v hv => by rw [← hC]; exact cx_le htb p g v hv
  have hh : ∀ p v, p < P → v < 9 → ha C p v ≤ 1000 := fun p v _ hv => mn_le 11 (fun g _ => hb p g v hv)
  have hL2 : L < 2 ^ 31 := by rw [← hL]; exact Nat.lt_of_le_of_lt (bs_le hP hP0 hb) (by decide)
  unfold p_X5_read p_X0_isComplete p_X0_isComplete_J14
  refine ⟨fun q => absurd rfl q, fun _ => ⟨rfl, fun _ => ?_, fun q => absurd q (by decide)⟩⟩
  refine ⟨fun q => ?_, fun _ => ?_⟩
  · rw [show (0 : Int32) = nI 0 from rfl, nI_eq (by omega) (by decide)] at q
    omega
  rw [show (6 : Int32) = nI 6 from rfl, jrem_nI (by omega) (by decide) (by decide), pk_div (by omega) (by decide) (by decide), show P * 6 % 6 = 0 by omega, show P * 6 / 6 = P by omega]
  refine ⟨fun _ => ?_, fun q => absurd rfl q⟩
  refine s_layCheaper (t := t) (num := num) hP hP0 ht htb hw (fun b' c' h' j' l' d1 d2 d3 => ?_)
  rw [hC] at d1 d2 d3
  refine s_leastCost (h := fun v => ha C 0 v) (b := fun v => bk (ha C) (P - 1) 0 v) (fun v hv => ?_) (fun v hv => ?_) (fun v hv => ?_) ?_
  · have := d2 0 v hP0 hv; rw [Nat.zero_mul, Nat.zero_add] at this; exact this
  · have := d3 0 v hP0 hv; rw [Nat.zero_mul, Nat.zero_add] at this; exact this
  · have a1 := hh 0 v hP0 hv
    have a2 := bk_le2 hP hh hP0 hv
    rw [Nat.sub_zero] at a2
    omega
  rw [show mn (fun v => ha C 0 v + bk (ha C) (P - 1) 0 v) 8 = L from hL]
  unfold p_X3_begin
  refine ⟨by rcases tnd_b t num P with e | e <;> rw [e] <;> exact ⟨rfl, rfl⟩, ?_⟩
  refine s_pickSigns (h0 := ha C) hP hL2 d1 hb hh d3 (fun bf jo si e1 => ?_)
  refine s_leastCostBeside (h0 := ha C) (σ := sg C (ha C) P L) hP d1 hb hh d2 d3 (fun p hp => ⟨e1 p hp, sg_lt _ _ _ _ _⟩) (fun bf2 jo2 => ?_)
  refine s_pickSpeeds (σ := sg C (ha C) P L) hP hL2 d1 hb (fun p hp => ⟨e1 p hp, sg_lt _ _ _ _ _⟩) (fun b3 h3 j3 sp e2 => ?_)
  refine s_checkLine (σ := sg C (ha C) P L) hP (fun p hp => ⟨e1 p hp, sg_lt _ _ _ _ _⟩) (fun e => ?_) (fun e => ?_)
  · exact hQ _ _ _ _ _ _ _ _ _ _ d1 e1 e2 (fun _ => ⟨rfl, rfl⟩)
  · exact hQ _ _ _ _ _ _ _ _ _ _ d1 e1 e2 (fun z => absurd z e)
theorem s_readR {ticks taught costs fr kept next signs speeds told up : Nat → Int32} {t num : Nat → Nat} {P : Nat} {thr pl rp co ga ir it : Int32} (hP : P ≤ 20) (hP0 : 0 < P) (ht : ∀ i, i < P * 6 → ticks i = nI (t i)) (htb : ∀ i, t i ≤ 60) (hw : ∀ g, g < 12 → taught g = nI (num g) ∧ num g < 2 ^ 31 ∧ num g ≠ 0) {C : Nat → Nat → Nat → Nat} {L : Nat} (hC : cx t num P (tnd t num P) = C) (hL : bs C P = L)
    {Q : Int32 → Int32 → Int32 → Int32 → Int32 → Int32 → Int32 → Int32 → Int32 → (Nat → Int32) → (Nat → Int32) → (Nat → Int32) → (Nat → Int32) → (Nat → Int32) → (Nat → Int32) → (Nat → Int32) → (Nat → Int32) → Prop}
    (hQ : ∀ cs f' k' n' si sp t' u', cok k' C (P * 108) → (∀ p, p < P → si p = nI (sg C (ha C) P L p)) → (∀ p, p < P → sp p = nI (sv (fun p v => C p (sg C (ha C) P L p) v) P L p)) → Q (nI L) 0 0 (nI P) (nI P) (nI L) (nI (gq (fun p g => th C (ha C) P (fw (ha C) p) p g) (sg C (ha C) P L) 100000000 P) - nI L) 1 (tnd t num P) cs f' k' n' si sp t' u') : p_X6_read thr (nI (P * 6)) pl rp co ga ir it costs fr kept next signs speeds taught ticks told up Q := by
  have hb : ∀ p g v, v < 9 → C p g v ≤ 1000 := fun p g v hv => by rw [← hC]; exact cx_le htb p g v hv
  have hbx : ∀ (x : Int32) p g v, v < 9 → cx t num P x p g v ≤ 1000 := fun x p g v hv => cx_le htb p g v hv
  have hL2 : L < 2 ^ 31 := by rw [← hL]; exact Nat.lt_of_le_of_lt (bs_le hP hP0 hb) (by decide)
  have hw2 : ∀ g, g < 12 → taught g = nI (num g) ∧ num g < 2 ^ 31 := fun g hg => ⟨(hw g hg).1, (hw g hg).2.1⟩
  unfold p_X6_read
  refine wf1_0 (N := 12) (I := fun _ => True) ?_ ?_ 0 (Nat.zero_le _) trivial
  · intro R _
    unfold p_X6_read_B7
    refine ⟨fun _ => ?_, fun q => absurd (by decide) q⟩
    refine ⟨fun q => ?_, fun _ => ?_⟩
    · rw [show (0 : Int32) = nI 0 from rfl, nI_eq (by omega) (by decide)] at q
      omega
    rw [show (6 : Int32) = nI 6 from rfl, jrem_nI (by omega) (by decide) (by decide), pk_div (by omega) (by decide) (by decide), show P * 6 % 6 = 0 by omega, show P * 6 / 6 = P by omega]
    refine ⟨fun _ => ?_, fun q => absurd (by decide) q⟩
    -- the rest, over a table of costs and its sums
    have rest : ∀ cs f1 u1, cok cs C (P * 108) → p_X6_read_J123 0 (nI P) (nI L) (tnd t num P) cs f1 kept next signs speeds told u1 Q := by
      intro cs f1 u1 hcs
      unfold p_X6_read_J123
      refine s_sums hP hP0 hcs hb (fun f2 u2 g1 g2 g3 => ?_)
      refine s_chooses hP hP0 hL hL2 hcs hb g1 g2 (fun f3 n3 s3 v3 t3 e1 e2 => ?_)
      refine s_sums hP hP0 hcs hb (fun f4 u4 k1 k2 k3 => ?_)
      refine s_gapOf (σ := sg C (ha C) P L) hP hcs hb k1 k2 k3 (fun p hp => ⟨e1 p hp, sg_lt _ _ _ _ _⟩) (fun t5 => ?_)
      refine wf2_0 (N := 2160) (I := fun k a => ∀ i, i < k → a i = cs i) ?_ ?_ 0 kept (Nat.zero_le _) (fun i hi => absurd hi (Nat.not_lt_zero _))
      · intro R2 a ha2
        unfold p_X6_read_B155
        refine ⟨fun _ => ⟨⟨rfl, rfl⟩, ?_⟩, fun q => absurd (by decide) q⟩
        exact hQ cs f4 a n3 s3 v3 t5 u4 (fun p g v hg hv hn => by rw [ha2 _ (by omega)]; exact hcs p g v hg hv hn) e1 e2
      · intro R2 i a hi ha2 hR2
        unfold p_X6_read_B155
        refine pk_le 2160 i (fun q => by omega) (fun _ => ?_)
        refine ⟨vp_in_nI hi (by decide), vp_in_nI hi (by decide), ?_⟩
        rw [nI_clamp (show i < 2 ^ 31 by omega)]
        refine hR2 _ (fun j hj => ?_)
        by_cases e : j = i
        · subst e; exact pk_us
        · rw [pk_un e]; exact ha2 j (by omega)
    refine s_fills (t := t) (num := num) (by omega) rfl ht htb hw2 (fun c0 hc0 => ?_)
    refine s_sums (C := cx t num P 0) hP hP0 hc0 (hbx 0) (fun f1 u1 _ _ _ => ?_)
    refine s_fills (t := t) (num := num) (by omega) rfl ht htb hw2 (fun c1 hc1 => ?_)
    refine s_sums (C := cx t num P 1) hP hP0 hc1 (hbx 1) (fun f2 u2 _ _ _ => ?_)
    have e1 : bs (cx t num P 1) P < 2 ^ 31 := Nat.lt_of_le_of_lt (bs_le hP hP0 (hbx 1)) (by decide)
    have e0 : bs (cx t num P 0) P < 2 ^ 31 := Nat.lt_of_le_of_lt (bs_le hP hP0 (hbx 0)) (by decide)
    refine pk_le (bs (cx t num P 0) P) (bs (cx t num P 1) P) (fun q => ?_) (fun q => ?_) rfl rfl e0 e1
    · have et : tnd t num P = 0 := if_neg (by omega)
      rw [et] at hC rest
      unfold p_X6_read_J92 p_X6_read_J108
      refine ⟨⟨rfl, rfl⟩, fun _ => ⟨fun z => absurd rfl z, fun _ => ?_⟩, fun z => absurd rfl z⟩
      refine s_fills (t := t) (num := num) (by omega) rfl ht htb hw2 (fun c2 hc2 => ?_)
      rw [show mn (fun v => mn (fun g => cx t num P 0 0 g v) 11 + bk (fun p v => mn (fun g => cx t num P 0 p g v) 11) (P - 1) 0 v) 8 = L from by rw [← hL, ← hC]; rfl]
      exact rest c2 f2 u2 (by rw [← hC]; exact hc2)
    · have et : tnd t num P = 1 := if_pos q
      rw [et] at hC rest
      unfold p_X6_read_J92 p_X6_read_J108
      refine ⟨⟨rfl, rfl⟩, fun z => absurd z (by decide), fun _ => ⟨fun _ => ?_, fun z => absurd z (by decide)⟩⟩
      rw [show mn (fun v => mn (fun g => cx t num P 1 0 g v) 11 + bk (fun p v => mn (fun g => cx t num P 1 p g v) 11) (P - 1) 0 v) 8 = L from by rw [← hL, ← hC]; rfl]
      exact rest c1 f2 u2 (by rw [← hC]; exact hc1)
  · intro R g hg _ hR
    unfold p_X6_read_B7
    refine pk_le 12 g (fun q => by omega) (fun _ => ?_)
    refine ⟨vp_in_nI hg (by decide), ?_⟩
    rw [nI_clamp (show g < 2 ^ 31 by omega), (hw g hg).1]
    refine ⟨fun _ => hR trivial, fun q => ?_⟩
    rw [show (0 : Int32) = nI 0 from rfl, nI_eq (hw g hg).2.1 (by decide)] at q
    exact absurd q (hw g hg).2.2
