/-! the slips, as a list that both make -/
theorem l_asym {x y : Int64} (h : x < y) (h2 : y < x) : False := by
  rw [Int64.lt_iff_toInt_lt] at h h2; omega
theorem l_nlt {x y : Int64} (h : x ≤ y) : ¬ y < x := by
  rw [Int64.le_iff_toInt_le] at h
  rw [Int64.lt_iff_toInt_lt]; omega
theorem l_lt {x y : Int64} (h : ¬ x ≤ y) : y < x := by
  rw [Int64.le_iff_toInt_le] at h
  rw [Int64.lt_iff_toInt_lt]; omega
theorem none_at {α : Type} {l : List α} {j : Nat} {e : α} (h : l.length ≤ j) (he : l[j]? = some e) : False := by
  rw [List.getElem?_eq_none h] at he
  cases he
def rng (d : Int64) : Prop := ¬ d < 0 ∧ ¬ 9999999 < d
def sk (a : Int32) (o : Int64) : Nat → Prop
  | 0 => rng (Int32.toInt64 a - o) ∧ od a.toNatClampNeg (Int64.toInt32 (Int32.toInt64 a - o)).toNatClampNeg
  | 1 => rng (Int32.toInt64 a - o) ∧ nb a.toNatClampNeg (Int64.toInt32 (Int32.toInt64 a - o)).toNatClampNeg
  | _ => Int32.toInt64 a = o
def en (p : Nat) (a : Int32) (o : Int64) (k : Nat) : Int32 × Int32 × Int32 := (nI k, nI p, if k = 2 then 0 else Int64.toInt32 (Int32.toInt64 a - o))
noncomputable def bl3 (p : Nat) (a : Int32) (o : Int64) : Nat → List (Int32 × Int32 × Int32)
  | 0 => []
  | k + 1 => bl3 p a o k ++ (@ite _ (sk a o k) (Classical.propDecidable _) [en p a o k] [])
theorem bl3_t (l : List (Int32 × Int32 × Int32)) {p : Nat} {a : Int32} {o : Int64} {k : Nat} (h : sk a o k) : l ++ bl3 p a o (k + 1) = (l ++ bl3 p a o k) ++ [en p a o k] := by
  show l ++ (bl3 p a o k ++ (@ite _ (sk a o k) (Classical.propDecidable _) [en p a o k] [])) = _
  rw [if_pos h, List.append_assoc]
theorem bl3_f (l : List (Int32 × Int32 × Int32)) {p : Nat} {a : Int32} {o : Int64} {k : Nat} (h : ¬ sk a o k) : l ++ bl3 p a o (k + 1) = l ++ bl3 p a o k := by
  show l ++ (bl3 p a o k ++ (@ite _ (sk a o k) (Classical.propDecidable _) [en p a o k] [])) = _
  rw [if_neg h, List.append_nil]
theorem bl3_le (p : Nat) (a : Int32) (o : Int64) : ∀ k, (bl3 p a o k).length ≤ k := by
  intro k
  induction k with
  | zero => exact Nat.le_refl _
  | succ k ih =>
    by_cases h : sk a o k
    · have := bl3_t [] (p := p) h
      rw [List.nil_append, List.nil_append] at this
      rw [this, List.length_append]
      show _ + 1 ≤ _
      omega
    · have := bl3_f [] (p := p) h
      rw [List.nil_append, List.nil_append] at this
      rw [this]; omega
theorem bl3_pre (p : Nat) (a : Int32) (o : Int64) (k : Nat) : ∀ j, k ≤ j → ∃ t, bl3 p a o j = bl3 p a o k ++ t := by
  intro j
  induction j with
  | zero => intro h; obtain rfl : k = 0 := by omega
            exact ⟨[], (List.append_nil _).symm⟩
  | succ j ih =>
    intro h
    by_cases e : k = j + 1
    · rw [e]; exact ⟨[], (List.append_nil _).symm⟩
    · obtain ⟨t, et⟩ := ih (by omega)
      refine ⟨t ++ (@ite _ (sk a o j) (Classical.propDecidable _) [en p a o j] []), ?_⟩
      show bl3 p a o j ++ _ = _
      rw [et, List.append_assoc]
noncomputable def exl (amt bat : Nat → Int32) (b : Int32) (o : Int64) : Nat → List (Int32 × Int32 × Int32)
  | 0 => []
  | n + 1 => exl amt bat b o n ++ (if bat n = b then bl3 n (amt n) o 3 else [])
theorem exl_t {amt bat : Nat → Int32} {b : Int32} {o : Int64} {n : Nat} (h : bat n = b) : exl amt bat b o (n + 1) = exl amt bat b o n ++ bl3 n (amt n) o 3 := by
  show exl amt bat b o n ++ (if bat n = b then bl3 n (amt n) o 3 else []) = _
  rw [if_pos h]
theorem exl_f {amt bat : Nat → Int32} {b : Int32} {o : Int64} {n : Nat} (h : ¬ bat n = b) : exl amt bat b o (n + 1) = exl amt bat b o n := by
  show exl amt bat b o n ++ (if bat n = b then bl3 n (amt n) o 3 else []) = _
  rw [if_neg h, List.append_nil]
theorem exl_le (amt bat : Nat → Int32) (b : Int32) (o : Int64) : ∀ n, (exl amt bat b o n).length ≤ 3 * n := by
  intro n
  induction n with
  | zero => exact Nat.le_refl _
  | succ n ih =>
    by_cases h : bat n = b
    · rw [exl_t h, List.length_append]
      have := bl3_le n (amt n) o 3
      omega
    · rw [exl_f h]; omega
theorem exl_pre (amt bat : Nat → Int32) (b : Int32) (o : Int64) (k : Nat) : ∀ j, k ≤ j → ∃ t, exl amt bat b o j = exl amt bat b o k ++ t := by
  intro j
  induction j with
  | zero => intro h; obtain rfl : k = 0 := by omega
            exact ⟨[], (List.append_nil _).symm⟩
  | succ j ih =>
    intro h
    by_cases e : k = j + 1
    · rw [e]; exact ⟨[], (List.append_nil _).symm⟩
    · obtain ⟨t, et⟩ := ih (by omega)
      refine ⟨t ++ (if bat j = b then bl3 j (amt j) o 3 else []), ?_⟩
      show exl amt bat b o j ++ _ = _
      rw [et, List.append_assoc]
def tlp (o : Int64) : Prop := o < 0 ∧ ¬ 9999999 < jlneg o
noncomputable def ful (amt bat : Nat → Int32) (b : Int32) (o : Int64) (P : Nat) : List (Int32 × Int32 × Int32) := exl amt bat b o P ++ (@ite _ (tlp o) (Classical.propDecidable _) [((3 : Int32), (-1 : Int32), Int64.toInt32 (jlneg o))] [])
theorem ful_t {amt bat : Nat → Int32} {b : Int32} {o : Int64} {P : Nat} (h : tlp o) : ful amt bat b o P = exl amt bat b o P ++ [((3 : Int32), (-1 : Int32), Int64.toInt32 (jlneg o))] := by
  unfold ful; rw [if_pos h]
theorem ful_f {amt bat : Nat → Int32} {b : Int32} {o : Int64} {P : Nat} (h : ¬ tlp o) : ful amt bat b o P = exl amt bat b o P := by
  unfold ful; rw [if_neg h, List.append_nil]
theorem ful_le (amt bat : Nat → Int32) (b : Int32) (o : Int64) (P : Nat) : (ful amt bat b o P).length ≤ 3 * P + 1 := by
  have := exl_le amt bat b o P
  by_cases h : tlp o
  · rw [ful_t h, List.length_append]
    show _ + 1 ≤ _
    omega
  · rw [ful_f h]; omega
theorem ful_pre {amt bat : Nat → Int32} {b : Int32} {o : Int64} {P p k : Nat} (hp : p < P) (hk : k ≤ 3) (h : bat p = b) : ∃ t, ful amt bat b o P = (exl amt bat b o p ++ bl3 p (amt p) o k) ++ t := by
  obtain ⟨t1, e1⟩ := exl_pre amt bat b o (p + 1) P hp
  obtain ⟨t2, e2⟩ := bl3_pre p (amt p) o k 3 hk
  unfold ful
  rw [e1, exl_t h, e2]
  refine ⟨t2 ++ (t1 ++ (@ite _ (tlp o) (Classical.propDecidable _) [((3 : Int32), (-1 : Int32), Int64.toInt32 (jlneg o))] [])), ?_⟩
  simp only [List.append_assoc]
theorem at_end {α : Type} (l t : List α) (x : α) : ((l ++ [x]) ++ t)[l.length]? = some x := by
  rw [List.append_assoc, List.getElem?_append_right (Nat.le_refl _), Nat.sub_self]
  rfl
/-- the class's rows hold the list -/
def rep (sz : Int32) (am ki pa : Nat → Int32) (l : List (Int32 × Int32 × Int32)) : Prop := sz = nI l.length ∧ ∀ j e, l[j]? = some e → ki j = e.1 ∧ pa j = e.2.1 ∧ am j = e.2.2
theorem s_note {sz x1 x2 x3 : Int32} {am ki pa : Nat → Int32} {l : List (Int32 × Int32 × Int32)} (hl : l.length < 301) (hr : rep sz am ki pa l) {Q : Int32 → (Nat → Int32) → (Nat → Int32) → (Nat → Int32) → Prop} (h : ∀ sz' am' ki' pa', rep sz' am' ki' pa' (l ++ [(x1, x2, x3)]) → Q sz' am' ki' pa') : p_X4_note sz am ki pa x1 x2 x3 Q := by
  obtain ⟨rfl, hj⟩ := hr
  unfold p_X4_note
  have hv : vp_in (nI l.length) 301 := vp_in_nI hl (by decide)
  refine pk_lt l.length 301 (fun _ => ⟨hv, hv, hv, ?_⟩) (fun q => by omega)
  rw [nI_clamp (show l.length < 2 ^ 31 by omega), nI_1]
  refine h _ _ _ _ ⟨by rw [List.length_append]; rfl, fun j e he => ?_⟩
  by_cases c : j = l.length
  · subst c
    rw [List.getElem?_append_right (Nat.le_refl _), Nat.sub_self] at he
    have he : some (x1, x2, x3) = some e := he
    have he := Option.some.inj he
    subst he
    exact ⟨pk_us, pk_us, pk_us⟩
  · by_cases c2 : j < l.length
    · rw [List.getElem?_append_left c2] at he
      rw [pk_un c, pk_un c, pk_un c]
      exact hj j e he
    · rw [List.getElem?_append_right (by omega), List.getElem?_eq_none (by show 1 ≤ _; omega)] at he
      cases he
theorem rng_c {d : Int64} (h : rng d) : ∃ n, n ≤ 9999999 ∧ d = lN n := by
  obtain ⟨n, hn, rfl⟩ := pk_lOf h.1
  refine ⟨n, ?_, rfl⟩
  have h2 := h.2
  rw [show (9999999 : Int64) = lN 9999999 from rfl, pk_lLT (by decide) hn] at h2
  omega
theorem sk0_iff {n d : Nat} {o : Int64} (hn : n ≤ 9999999) (hd : d ≤ 9999999) (hr : rng (Int32.toInt64 (nI n) - o)) (e : Int32.toInt64 (nI n) - o = lN d) : (sk (nI n) o 0 ↔ od n d) ∧ (sk (nI n) o 1 ↔ nb n d) := by
  have e0 : sk (nI n) o 0 = (rng (Int32.toInt64 (nI n) - o) ∧ od (nI n).toNatClampNeg (Int64.toInt32 (Int32.toInt64 (nI n) - o)).toNatClampNeg) := rfl
  have e1 : sk (nI n) o 1 = (rng (Int32.toInt64 (nI n) - o) ∧ nb (nI n).toNatClampNeg (Int64.toInt32 (Int32.toInt64 (nI n) - o)).toNatClampNeg) := rfl
  rw [e0, e1, nI_clamp (by omega), e, lN_i, nI_clamp (by omega)]
  rw [e] at hr
  exact ⟨⟨fun z => z.2, fun z => ⟨hr, z⟩⟩, ⟨fun z => z.2, fun z => ⟨hr, z⟩⟩⟩
theorem nsk {a : Int32} {o : Int64} (h : ¬ rng (Int32.toInt64 a - o)) : ¬ sk a o 0 ∧ ¬ sk a o 1 := ⟨fun z => h (And.left (b := od a.toNatClampNeg (Int64.toInt32 (Int32.toInt64 a - o)).toNatClampNeg) z), fun z => h (And.left (b := nb a.toNatClampNeg (Int64.toInt32 (Int32.toInt64 a - o)).toNatClampNeg) z)⟩
theorem s_explainBy {sz : Int32} {am ki pa : Nat → Int32} {l : List (Int32 × Int32 × Int32)} {p n : Nat} {o : Int64} (hn : n ≤ 9999999) (hl : l.length + 3 ≤ 301) (hr : rep sz am ki pa l) {Q : Int32 → (Nat → Int32) → (Nat → Int32) → (Nat → Int32) → Prop} (h : ∀ sz' am' ki' pa', rep sz' am' ki' pa' (l ++ bl3 p (nI n) o 3) → Q sz' am' ki' pa') : p_X4_explainBy sz am ki pa (nI p) (nI n) o Q := by
  have len : ∀ k, (l ++ bl3 p (nI n) o k).length ≤ l.length + k := fun k => by
    rw [List.length_append]
    have := bl3_le p (nI n) o k
    omega
  have t2 : ∀ sz' am' ki' pa', rep sz' am' ki' pa' (l ++ bl3 p (nI n) o 2) → p_X4_explainBy_J60 sz' am' ki' pa' Q (nI p) (nI n) o := by
    intro sz' am' ki' pa' hr'
    unfold p_X4_explainBy_J60 p_X4_explainBy_J74
    rw [lg_cmp_eq]
    refine ⟨fun z => h _ _ _ _ ?_, fun z => ?_⟩
    · rw [bl3_f l (k := 2) z]; exact hr'
    · refine s_note (by have := len 2; omega) hr' (fun sz2 am2 ki2 pa2 h2 => h _ _ _ _ ?_)
      rw [bl3_t l (k := 2) z]; exact h2
  unfold p_X4_explainBy
  rw [lg_cmp_lt, lg_cmp_gt]
  by_cases hg : rng (Int32.toInt64 (nI n) - o)
  · obtain ⟨d, hd, e⟩ := rng_c hg
    obtain ⟨i0, i1⟩ := sk0_iff hn hd hg e
    have t1 : ∀ sz' am' ki' pa', rep sz' am' ki' pa' (l ++ bl3 p (nI n) o 1) → p_X4_explainBy_J41 sz' am' ki' pa' Q (nI p) (nI n) o (Int32.toInt64 (nI n) - o) := by
      intro sz' am' ki' pa' hr'
      unfold p_X4_explainBy_J41
      rw [e, lN_i]
      refine s_differNb hn hd (fun z => ⟨no1, fun _ => ?_⟩) (fun z => ⟨fun _ => t2 _ _ _ _ ?_, fun q => absurd rfl q⟩)
      · refine s_note (by have := len 1; omega) hr' (fun sz2 am2 ki2 pa2 h2 => t2 _ _ _ _ ?_)
        rw [bl3_t l (k := 1) (i1.mpr z)]
        have ee : en p (nI n) o 1 = (1, nI p, nI d) := by
          unfold en
          rw [if_neg (by decide), e, lN_i]; rfl
        rw [ee]; exact h2
      · rw [bl3_f l (k := 1) (fun y => z (i1.mp y))]; exact hr'
    refine ⟨fun q => absurd q hg.1, fun _ => ⟨fun q => absurd q hg.2, fun _ => ?_⟩⟩
    have r0 : rep sz am ki pa (l ++ bl3 p (nI n) o 0) := by
      show rep sz am ki pa (l ++ [])
      rw [List.append_nil]; exact hr
    have x32 : Int64.toInt32 (Int32.toInt64 (nI n) - o) = nI d := by rw [e, lN_i]
    rw [x32]
    refine s_differOne hn hd (fun z => ⟨no1, fun _ => ?_⟩) (fun z => ⟨fun _ => t1 _ _ _ _ ?_, fun q => absurd rfl q⟩)
    · refine s_note (by have := len 0; omega) r0 (fun sz2 am2 ki2 pa2 h2 => t1 _ _ _ _ ?_)
      rw [bl3_t l (k := 0) (i0.mpr z)]
      have ee : en p (nI n) o 0 = (0, nI p, nI d) := by
        unfold en
        rw [if_neg (by decide), x32]; rfl
      rw [ee]; exact h2
    · rw [bl3_f l (k := 0) (fun y => z (i0.mp y))]; exact r0
  · have r2 : rep sz am ki pa (l ++ bl3 p (nI n) o 2) := by
      rw [bl3_f l (k := 1) (nsk hg).2, bl3_f l (k := 0) (nsk hg).1]
      show rep sz am ki pa (l ++ [])
      rw [List.append_nil]; exact hr
    have y := t2 _ _ _ _ r2
    exact ⟨fun _ => y, fun q1 => ⟨fun _ => y, fun q2 => absurd ⟨q1, q2⟩ hg⟩⟩
theorem s_explain {sz : Int32} {am ki pa amt bat told : Nat → Int32} {b P : Nat} {o : Int64} (ho : ot amt bat told b P = o) (hb : b < 20) (hP : P ≤ 100) (ha : ∀ i, i < P → ∃ a, amt i = nI a ∧ a ≤ 9999999) {Q : Int32 → (Nat → Int32) → (Nat → Int32) → (Nat → Int32) → Prop} (hz : o = 0 → ∀ am' ki' pa', Q 0 am' ki' pa') (h : ¬ o = 0 → ∀ sz' am' ki' pa', rep sz' am' ki' pa' (ful amt bat (nI b) o P) → Q sz' am' ki' pa') : p_X4_explain sz (nI P) am ki pa amt bat told (nI b) Q := by
  unfold p_X4_explain
  refine s_sumOut hb hP ?_
  rw [ho, lg_cmp_eq]
  refine ⟨fun z => ?_, fun z => hz z _ _ _⟩
  have h := h z
  refine wf5_0 (N := P) (I := fun k s a1 a2 a3 => rep s a1 a2 a3 (exl amt bat (nI b) o k)) ?_ ?_ 0 0 am ki pa (Nat.zero_le _) ⟨rfl, fun j e he => absurd (none_at (l := []) (Nat.zero_le _) he) id⟩
  · intro R s a1 a2 a3 hI
    unfold p_X4_explain_B21 p_X4_explain_J85
    refine ⟨fun _ => ?_, fun q => absurd (Int32.le_refl _) q⟩
    rw [lg_cmp_ge, lg_cmp_gt]
    refine ⟨fun q => h _ _ _ _ ?_, fun q => ⟨fun q2 => h _ _ _ _ ?_, fun q2 => ?_⟩⟩
    · rw [ful_f (fun y => absurd y.1 (l_nlt q))]; exact hI
    · rw [ful_f (fun y => y.2 q2)]; exact hI
    · refine s_note (by have := exl_le amt bat (nI b) o P; omega) hI (fun s2 b1 b2 b3 h2 => h _ _ _ _ ?_)
      rw [ful_t ⟨l_lt q, q2⟩]; exact h2
  · intro R k s a1 a2 a3 hk hI hR
    unfold p_X4_explain_B21 p_X4_explain_J55
    refine pk_le P k (fun q => by omega) (fun _ => ?_)
    refine ⟨vp_in_nI (by omega) (by decide), ?_⟩
    rw [nI_clamp (show k < 2 ^ 31 by omega)]
    obtain ⟨n, en', hn⟩ := ha k hk
    have hle := exl_le amt bat (nI b) o k
    refine ⟨fun q => hR _ _ _ _ (by rw [exl_f q]; exact hI), fun q => ⟨vp_in_nI (by omega) (by decide), ?_⟩⟩
    rw [en']
    refine s_explainBy hn (by omega) hI (fun s2 b1 b2 b3 h2 => hR _ _ _ _ ?_)
    rw [exl_t q, en']; exact h2
theorem s_isAm {d : Int64} {Q : Int32 → Prop} (h1 : rng d → Q 1) (h0 : ¬ rng d → Q 0) : p_X6_isAmount d Q := by
  unfold p_X6_isAmount p_X6_isAmount_J18 p_X6_isAmount_J19
  rw [lg_cmp_lt, lg_cmp_gt]
  exact ⟨fun q => ⟨rfl, h0 (fun z => z.1 q)⟩, fun q => ⟨fun q2 => ⟨rfl, h0 (fun z => z.2 q2)⟩, fun q2 => ⟨rfl, h1 ⟨q, q2⟩⟩⟩⟩
theorem s_looks {amt bat told : Nat → Int32} {b P t k : Nat} {o : Int64} {c1 c2 c3 : Int32} (ho : ot amt bat told b P = o) (hb : b < 20) (hP : P ≤ 100) (ha : ∀ i, i < P → ∃ a, amt i = nI a ∧ a ≤ 9999999) (ht : told b = nI t) (htl : t ≤ 1000000000) (hk : k ≤ 100000) {Q : Int32 → Int32 → Int32 → Int32 → Prop} (hz : o = 0 → ∀ x y z, Q 0 x y z) (h1 : ¬ o = 0 → ∀ e, (ful amt bat (nI b) o P)[k]? = some e → Q (nI (k + 1)) e.1 e.2.1 e.2.2) (h0 : ¬ o = 0 → (ful amt bat (nI b) o P).length ≤ k → ∀ x y z, Q (nI (ful amt bat (nI b) o P).length) x y z) : p_X6_looks (nI P) c1 c2 c3 amt bat told (nI b) (nI k) Q := by
  unfold p_X6_looks
  refine s_outOf hb hP ht htl ?_
  have hc := ot_c (bat := bat) hP ha ht htl
  rw [ho] at hc ⊢
  rw [lg_cmp_eq]
  refine ⟨fun z => ?_, fun z => hz z _ _ _⟩
  have h1 := h1 z
  have h0 := h0 z
  refine wf5_1 (N := P) (I := fun p n _ _ _ => n = nI (exl amt bat (nI b) o p).length ∧ (exl amt bat (nI b) o p).length ≤ k) ?_ ?_ 0 0 c1 c2 c3 (Nat.zero_le _) ⟨rfl, Nat.zero_le _⟩
  · intro R n d1 d2 d3 hI
    unfold p_X6_looks_B20 p_X6_looks_J195
    refine ⟨fun _ => ?_, fun q => absurd (Int32.le_refl _) q⟩
    obtain ⟨rfl, hI⟩ := hI
    rw [lg_cmp_gt]
    have no : ¬ tlp o → Q (nI (exl amt bat (nI b) o P).length) d1 d2 d3 := by
      intro y
      rw [ful_f y] at h0
      exact h0 hI _ _ _
    refine ⟨fun q => no (fun y => l_asym q y.1), fun q => ?_⟩
    rcases hc with ⟨w, hw, ew⟩ | ⟨w, hw0, hw, ew0, ew⟩
    · exfalso
      rw [ew, show (0 : Int64) = lN 0 from rfl, pk_lLT (by decide) (by omega)] at q
      obtain rfl : w = 0 := by omega
      exact z ew
    · refine s_isAm (fun y => ⟨fun _ => ?_, no1⟩) (fun y => ⟨fun q => absurd rfl q, fun _ => no (fun x => y ⟨?_, x.2⟩)⟩)
      · have tp : tlp o := ⟨ew0, y.2⟩
        rw [nI_1]
        have eq := ful_t (amt := amt) (bat := bat) (b := nI b) (P := P) tp
        by_cases c : (exl amt bat (nI b) o P).length = k
        · rw [c]
          refine h1 ((3 : Int32), (-1 : Int32), Int64.toInt32 (jlneg o)) ?_
          rw [eq, ← c]
          have := at_end (exl amt bat (nI b) o P) [] ((3 : Int32), (-1 : Int32), Int64.toInt32 (jlneg o))
          rw [List.append_nil] at this
          exact this
        · have hlen : (ful amt bat (nI b) o P).length = (exl amt bat (nI b) o P).length + 1 := by rw [eq, List.length_append]; rfl
          rw [← hlen]
          exact h0 (by omega) _ _ _
      · rw [ew, show (0 : Int64) = lN 0 from rfl, pk_lLT (by omega) (by decide)]; omega
  · intro R p n d1 d2 d3 hp hI hR
    unfold p_X6_looks_B20 p_X6_looks_J175
    refine pk_le P p (fun q => by omega) (fun _ => ?_)
    refine ⟨vp_in_nI (by omega) (by decide), ?_⟩
    rw [nI_clamp (show p < 2 ^ 31 by omega)]
    obtain ⟨rfl, hI⟩ := hI
    obtain ⟨a, ea, haa⟩ := ha p hp
    refine ⟨fun q => ?_, fun q => hR _ _ _ _ (by rw [exl_f q]; exact ⟨rfl, hI⟩)⟩
    refine wf5_1 (N := 3) (I := fun j n _ _ _ => n = nI (exl amt bat (nI b) o p ++ bl3 p (amt p) o j).length ∧ (exl amt bat (nI b) o p ++ bl3 p (amt p) o j).length ≤ k) ?_ ?_ 0 _ d1 d2 d3 (Nat.zero_le _) (by
      show nI (exl amt bat (nI b) o p).length = nI (exl amt bat (nI b) o p ++ []).length ∧ (exl amt bat (nI b) o p ++ []).length ≤ k
      rw [List.append_nil]; exact ⟨rfl, hI⟩)
    · intro R2 n2 f1 f2 f3 hI2
      unfold p_X6_looks_B46
      refine ⟨fun _ => ?_, fun q => absurd (by decide) q⟩
      exact hR _ _ _ _ (by rw [exl_t q]; exact hI2)
    · intro R2 j n2 f1 f2 f3 hj hI2 hR2
      unfold p_X6_looks_B46 p_X6_looks_J115
      refine pk_le 3 j (fun q => by omega) (fun _ => ?_)
      refine ⟨vp_in_nI (by omega) (by decide), ?_⟩
      obtain ⟨rfl, hI2⟩ := hI2
      rw [nI_clamp (show p < 2 ^ 31 by omega)]
      have go : ∀ s0 : Int32, (s0 = 0 → ¬ sk (amt p) o j) → (¬ s0 = 0 → sk (amt p) o j) → p_X6_looks_J116 f1 f2 f3 Q R2 (nI k) (nI (exl amt bat (nI b) o p ++ bl3 p (amt p) o j).length) (nI p) (nI j) (Int32.toInt64 (amt p) - o) s0 := by
        intro s0 g0 g1
        unfold p_X6_looks_J116 p_X6_looks_J152 p_X6_looks_J169
        by_cases y : s0 = 0
        · refine ⟨fun q => absurd y q, fun _ => hR2 _ _ _ _ ?_⟩
          rw [bl3_f _ (g0 y)]; exact ⟨rfl, hI2⟩
        · refine ⟨fun _ => ?_, fun q => absurd q y⟩
          have ys := g1 y
          have ll : (exl amt bat (nI b) o p ++ bl3 p (amt p) o (j + 1)).length = (exl amt bat (nI b) o p ++ bl3 p (amt p) o j).length + 1 := by rw [bl3_t _ ys, List.length_append]; rfl
          have fin : ∀ x : Int32, x = (en p (amt p) o j).2.2 → ((¬ nI (exl amt bat (nI b) o p ++ bl3 p (amt p) o j).length + 1 = nI k + 1 → R2 (nI (exl amt bat (nI b) o p ++ bl3 p (amt p) o j).length + 1) (nI j + 1) (nI j) (nI p) x) ∧ (nI (exl amt bat (nI b) o p ++ bl3 p (amt p) o j).length + 1 = nI k + 1 → Q (nI (exl amt bat (nI b) o p ++ bl3 p (amt p) o j).length + 1) (nI j) (nI p) x)) := by
            intro x ex
            rw [nI_1 (exl amt bat (nI b) o p ++ bl3 p (amt p) o j).length, nI_1 k]
            refine (pk_eq ((exl amt bat (nI b) o p ++ bl3 p (amt p) o j).length + 1) (k + 1) (fun c => ?_) (fun c => ?_) rfl rfl (by omega) (by omega)).symm
            · rw [c, ex]
              refine h1 (en p (amt p) o j) ?_
              obtain ⟨tt, et⟩ := ful_pre (amt := amt) (o := o) hp (show j + 1 ≤ 3 by omega) q
              have kk : k = (exl amt bat (nI b) o p ++ bl3 p (amt p) o j).length := by omega
              rw [et, bl3_t _ ys, kk]
              exact at_end _ _ _
            · exact hR2 _ _ _ _ ⟨by rw [ll], by rw [ll]; omega⟩
          refine ⟨fun c => fin _ ?_, fun c => fin _ ?_⟩
          · unfold en
            rw [if_neg (fun c2 => c (show nI j = nI 2 by rw [c2]))]
          · unfold en
            have c2 : j = 2 := (nI_eq (a := j) (b := 2) (by omega) (by decide)).mp c
            rw [if_pos c2]
      rw [ea] at go ⊢
      rcases (show j = 0 ∨ j = 1 ∨ j = 2 by omega) with rfl | rfl | rfl
      · refine ⟨fun _ => s_isAm (fun hg => ⟨no1, fun _ => ⟨vp_in_nI (by omega) (by decide), ?_⟩⟩) (fun hg => ⟨fun _ => go 0 (fun _ => (nsk hg).1) (fun q => absurd rfl q), fun q => absurd rfl q⟩), fun q => absurd q (by decide)⟩
        obtain ⟨d, hd, e⟩ := rng_c hg
        obtain ⟨i0, i1⟩ := sk0_iff haa hd hg e
        have x32 : Int64.toInt32 (Int32.toInt64 (nI a) - o) = nI d := by rw [e, lN_i]
        rw [x32]
        exact s_isSlip haa hd (fun y _ => ⟨no1, fun _ => go 1 no1 (fun _ => i0.mpr (y rfl))⟩) (fun y _ => ⟨fun _ => go 0 (fun _ x => y rfl (i0.mp x)) (fun q => absurd rfl q), fun q => absurd rfl q⟩)
      · refine ⟨fun _ => s_isAm (fun hg => ⟨no1, fun _ => ⟨vp_in_nI (by omega) (by decide), ?_⟩⟩) (fun hg => ⟨fun _ => go 0 (fun _ => (nsk hg).2) (fun q => absurd rfl q), fun q => absurd rfl q⟩), fun q => absurd q (by decide)⟩
        obtain ⟨d, hd, e⟩ := rng_c hg
        obtain ⟨i0, i1⟩ := sk0_iff haa hd hg e
        have x32 : Int64.toInt32 (Int32.toInt64 (nI a) - o) = nI d := by rw [e, lN_i]
        rw [x32]
        exact s_isSlip haa hd (fun _ y => ⟨no1, fun _ => go 1 no1 (fun _ => i1.mpr (y (by decide)))⟩) (fun _ y => ⟨fun _ => go 0 (fun _ x => y (by decide) (i1.mp x)) (fun q => absurd rfl q), fun q => absurd rfl q⟩)
      · refine ⟨fun q => absurd rfl q, fun _ => ?_⟩
        rw [lg_cmp_eq]
        have i2 : Int32.toInt64 (nI a) - o = 0 ↔ sk (nI a) o 2 := by
          show _ ↔ Int32.toInt64 (nI a) = o
          constructor
          · intro y
            have : Int32.toInt64 (nI a) - o + o = 0 + o := by rw [y]
            rw [Int64.sub_add_cancel, Int64.zero_add] at this
            exact this
          · intro y; rw [y, Int64.sub_self]
        exact ⟨fun y => go 0 (fun _ x => y (i2.mpr x)) (fun q => absurd rfl q), fun y => go 1 no1 (fun _ => i2.mp y)⟩
