/-! teach on both sides, read's refusals, count -/
def okw (n : Nat) : Prop := 111111 ≤ n ∧ n ≤ 333333 ∧ ∀ j, j < 6 → 1 ≤ n / 10 ^ j % 10 ∧ n / 10 ^ j % 10 ≤ 3
theorem dv_succ (n k : Nat) : n / 10 ^ k / 10 = n / 10 ^ (k + 1) := by rw [Nat.div_div_eq_div_mul, ← Nat.pow_succ]
theorem neg_of {x : Int32} (h : x < 0) : ∀ n, x = nI n → n < 2 ^ 31 → False := fun n e hn => nI_pos hn (e ▸ h)
theorem s_areWidths {w : Int32} {Q : Int32 → Prop} (h1 : ∀ n, w = nI n → n < 2 ^ 31 → okw n → Q 1) (h0 : (∀ n, w = nI n → n < 2 ^ 31 → ¬ okw n) → Q 0) : p_X0_areWidths w Q := by
  unfold p_X0_areWidths p_X0_areWidths_J12
  by_cases hw : w < 0
  · exact ⟨fun _ => ⟨rfl, h0 (fun n e hn => absurd (neg_of hw n e hn) id)⟩, fun q => absurd (Int32.lt_trans hw (by decide)) q⟩
  obtain ⟨n, hn, rfl⟩ := nI_of hw
  have h0 : ¬ okw n → Q 0 := fun z => h0 (fun m e hm => by rw [nI_eq hn hm] at e; rw [← e]; exact z)
  refine pk_lt n 111111 (fun q => ⟨rfl, h0 (fun z => by have := z.1; omega)⟩) (fun q1 => ?_)
  refine pk_le n 333333 (fun q2 => ?_) (fun q => ⟨rfl, h0 (fun z => by have := z.2.1; omega)⟩)
  refine wf2_1 (N := 6) (I := fun k v => v = nI (n / 10 ^ k) ∧ ∀ j, j < k → 1 ≤ n / 10 ^ j % 10 ∧ n / 10 ^ j % 10 ≤ 3) ?_ ?_ 0 (nI n) (Nat.zero_le _) ⟨by rw [Nat.pow_zero, Nat.div_one], fun j hj => absurd hj (Nat.not_lt_zero _)⟩
  · intro R v hI
    unfold p_X0_areWidths_B18
    exact ⟨fun _ => ⟨rfl, h1 n rfl hn ⟨q1, q2, hI.2⟩⟩, fun q => absurd (by decide) q⟩
  · intro R k v hk hI hR
    unfold p_X0_areWidths_B18 p_X0_areWidths_J39
    refine pk_le 6 k (fun q => by omega) (fun _ => ?_)
    have hd : n / 10 ^ k < 2 ^ 31 := Nat.lt_of_le_of_lt (Nat.div_le_self _ _) hn
    rw [hI.1, show (10 : Int32) = nI 10 from rfl, jrem_nI hd (by decide) (by decide), pk_div hd (by decide) (by decide), dv_succ]
    refine pk_lt (n / 10 ^ k % 10) 1 (fun q => ⟨rfl, h0 (fun z => by have := z.2.2 k hk; omega)⟩) (fun q => ?_)
    refine pk_le (n / 10 ^ k % 10) 3 (fun q2 => ?_) (fun q2 => ⟨rfl, h0 (fun z => by have := z.2.2 k hk; omega)⟩)
    refine hR _ ⟨rfl, fun j hj => ?_⟩
    by_cases e : j = k
    · rw [e]; exact ⟨q, q2⟩
    · exact hI.2 j (by omega)
theorem s_teachR {taught : Nat → Int32} {x1 w thr : Int32} {Q : Int32 → Int32 → (Nat → Int32) → Prop} (h1 : ∀ g n, x1 = nI g → g < 12 → w = nI n → n < 2 ^ 31 → okw n → Q (if taught g = w then 0 else 1) 0 (upd taught g w)) (h0 : (∀ g n, x1 = nI g → g < 12 → w = nI n → n < 2 ^ 31 → ¬ okw n) → Q 0 1 taught) : p_X6_teach thr taught x1 w Q := by
  have bad : (∀ g n, x1 = nI g → g < 12 → w = nI n → n < 2 ^ 31 → ¬ okw n) → p_X6_teach_J32 0 taught Q x1 w 1 := by
    intro z
    unfold p_X6_teach_J32
    refine ⟨1, ?_⟩
    show p_X6_teach_B39 _ _ 1 w 0
    unfold p_X6_teach_B39
    refine ⟨fun q => absurd q (by decide), fun _ => ⟨fun _ => ?_, fun q => absurd q (by decide)⟩⟩
    unfold p_X6_bad p_X6_bad_J9
    exact ⟨fun q => absurd q (by decide), fun _ => ⟨rfl, fun q => absurd q (by decide), fun _ => h0 z⟩⟩
  unfold p_X6_teach p_X6_teach_J27
  by_cases hx : x1 < 0
  · exact ⟨fun _ => bad (fun g n e hg _ _ => absurd (neg_of hx g e (by omega)) id), fun q => absurd hx q⟩
  obtain ⟨g, hg, rfl⟩ := nI_of hx
  refine ⟨fun q => absurd q hx, fun _ => ?_⟩
  refine pk_le 12 g (fun q => bad (fun g2 n e hg2 _ _ => by rw [nI_eq hg (by omega)] at e; omega)) (fun hg12 => ?_)
  by_cases hw : w < 0
  · exact ⟨fun _ => bad (fun _ n _ _ e hn => absurd (neg_of hw n e hn) id), fun q => absurd (Int32.lt_trans hw (by decide)) q⟩
  obtain ⟨n, hn, rfl⟩ := nI_of hw
  have bad : ¬ okw n → p_X6_teach_J32 0 taught Q (nI g) (nI n) 1 := fun z => bad (fun _ m _ _ e hm => by rw [nI_eq hn hm] at e; rw [← e]; exact z)
  have h0 : ¬ okw n → Q 0 1 taught := fun z => h0 (fun _ m _ _ e hm => by rw [nI_eq hn hm] at e; rw [← e]; exact z)
  refine pk_lt n 111111 (fun q => bad (fun z => by have := z.1; omega)) (fun q1 => ?_)
  refine pk_le n 333333 (fun q2 => ?_) (fun q => bad (fun z => by have := z.2.1; omega))
  unfold p_X6_teach_J32
  have fin0 : okw n → p_X6_bad 0 0 1 (fun r90 f_thrown_90 => (r90 = 0 → vp_in (nI g) 12 ∧ ((¬ (taught (Int32.toNatClampNeg (nI g))) = nI n → p_X6_teach_J113 f_thrown_90 taught Q (nI g) (nI n) 1) ∧ ((taught (Int32.toNatClampNeg (nI g))) = nI n → p_X6_teach_J113 f_thrown_90 taught Q (nI g) (nI n) 0))) ∧ (¬ r90 = 0 → Q 0 f_thrown_90 taught)) := by
    intro z
    have h1 := h1 g n rfl hg12 rfl hn z
    unfold p_X6_bad p_X6_bad_J9 p_X6_teach_J113
    refine ⟨fun _ => ⟨rfl, fun _ => ⟨vp_in_nI hg12 (by decide), ?_⟩, fun q => absurd rfl q⟩, fun q => absurd rfl q⟩
    rw [nI_clamp hg]
    refine ⟨fun q => ⟨vp_in_nI hg12 (by decide), ?_⟩, fun q => ⟨vp_in_nI hg12 (by decide), ?_⟩⟩
    · rw [if_neg q] at h1; exact h1
    · rw [if_pos q] at h1; exact h1
  have fin1 : ¬ okw n → p_X6_bad 0 1 1 (fun r90 f_thrown_90 => (r90 = 0 → vp_in (nI g) 12 ∧ ((¬ (taught (Int32.toNatClampNeg (nI g))) = nI n → p_X6_teach_J113 f_thrown_90 taught Q (nI g) (nI n) 1) ∧ ((taught (Int32.toNatClampNeg (nI g))) = nI n → p_X6_teach_J113 f_thrown_90 taught Q (nI g) (nI n) 0))) ∧ (¬ r90 = 0 → Q 0 f_thrown_90 taught)) := by
    intro z
    unfold p_X6_bad p_X6_bad_J9
    exact ⟨fun q => absurd q (by decide), fun _ => ⟨rfl, fun q => absurd q (by decide), fun _ => h0 z⟩⟩
  refine wf3_2 (N := 6) (I := fun k no v => (no = 0 ∧ v = nI (n / 10 ^ k) ∧ ∀ j, j < k → 1 ≤ n / 10 ^ j % 10 ∧ n / 10 ^ j % 10 ≤ 3) ∨ (no = 1 ∧ ¬ okw n)) ?_ ?_ 0 0 (nI n) (Nat.zero_le _) (Or.inl ⟨rfl, by rw [Nat.pow_zero, Nat.div_one], fun j hj => absurd hj (Nat.not_lt_zero _)⟩)
  · intro R no v hI
    unfold p_X6_teach_B39
    refine ⟨fun _ => ?_, fun q => absurd (by decide) q⟩
    rcases hI with ⟨e, _, a⟩ | ⟨e, a⟩
    · rw [e]; exact fin0 ⟨q1, q2, a⟩
    · rw [e]; exact fin1 a
  · intro R k no v hk hI hR
    unfold p_X6_teach_B39 p_X6_teach_J68 p_X6_teach_J73
    refine pk_le 6 k (fun q => by omega) (fun _ => ?_)
    rcases hI with ⟨e, ev, a⟩ | ⟨e, a⟩
    · rw [e]
      refine ⟨fun q => absurd rfl q, fun _ => ?_⟩
      have hd : n / 10 ^ k < 2 ^ 31 := Nat.lt_of_le_of_lt (Nat.div_le_self _ _) hn
      rw [ev, show (10 : Int32) = nI 10 from rfl, jrem_nI hd (by decide) (by decide), pk_div hd (by decide) (by decide), dv_succ]
      refine pk_lt (n / 10 ^ k % 10) 1 (fun q => hR _ _ (Or.inr ⟨rfl, fun z => by have := z.2.2 k hk; omega⟩)) (fun q => ?_)
      refine pk_le (n / 10 ^ k % 10) 3 (fun q2 => ?_) (fun q2 => hR _ _ (Or.inr ⟨rfl, fun z => by have := z.2.2 k hk; omega⟩))
      refine hR _ _ (Or.inl ⟨rfl, rfl, fun j hj => ?_⟩)
      by_cases ej : j = k
      · rw [ej]; exact ⟨q, q2⟩
      · exact a j (by omega)
    · rw [e]
      exact ⟨fun _ => fin1 a, fun q => absurd q (by decide)⟩
theorem s_learn {numbers widths : Nat → Int32} {num : Nat → Nat} {tc : Int32} {g n : Nat} (hg : g < 12) (hn : n < 2 ^ 31) (hnum : ∀ g, g < 12 → numbers g = nI (num g) ∧ num g < 2 ^ 31) (hw : ∀ i, i < 72 → widths i = nI (wd num i)) {Q : Int32 → Int32 → (Nat → Int32) → (Nat → Int32) → Prop} (h0 : num g = n → Q 0 tc numbers widths) (h1 : ∀ w', num g ≠ n → (∀ i, i < 72 → w' i = nI (wd (wth num g n) i)) → Q 1 (if num g = 0 then tc + 1 else tc) (upd numbers g (nI n)) w') : p_X0_learn tc numbers widths (nI g) (nI n) Q := by
  unfold p_X0_learn
  refine ⟨vp_in_nI hg (by decide), ?_⟩
  rw [nI_clamp (show g < 2 ^ 31 by omega), (hnum g hg).1]
  have hng := (hnum g hg).2
  refine (pk_eq (num g) n (fun e => ⟨rfl, h0 e⟩) (fun e => ⟨vp_in_nI hg (by decide), ?_⟩) rfl rfl hng hn).symm
  have fin : ∀ tc', (if num g = 0 then tc + 1 else tc) = tc' → p_X0_learn_J31 tc' numbers widths Q (nI g) (nI n) := by
    intro tc' et
    unfold p_X0_learn_J31
    refine ⟨vp_in_nI hg (by decide), ?_⟩
    refine wd3_1 (N := 6) (I := fun i x a => x = nI (n / 10 ^ (6 - i)) ∧ ∀ j, j < 72 → a j = nI (if j / 6 = g ∧ j % 6 < i then wd num j else wd (wth num g n) j)) ?_ ?_ 6 (nI n) widths (Nat.le_refl _) ⟨by rw [Nat.sub_self, Nat.pow_zero, Nat.div_one], fun j hj => ?_⟩
    · intro R x a hI
      unfold p_X0_learn_B43
      refine ⟨fun _ => ⟨rfl, ?_⟩, fun q => absurd (by decide) q⟩
      rw [nI_clamp (show g < 2 ^ 31 by omega), ← et]
      refine h1 a e (fun i hi => ?_)
      rw [hI.2 i hi, if_neg (by omega)]
    · intro R i x a hi hI hR
      unfold p_X0_learn_B43
      refine ⟨fun q => absurd q (nI_pos (by omega)), fun _ => ?_⟩
      have hd : n / 10 ^ (6 - (i + 1)) < 2 ^ 31 := Nat.lt_of_le_of_lt (Nat.div_le_self _ _) hn
      rw [show (6 : Int32) = nI 6 from rfl, pk_mul]
      refine ⟨in2 (by omega) (by decide), ?_⟩
      rw [cl2 (by omega), hI.1, show (10 : Int32) = nI 10 from rfl, jrem_nI hd (by decide) (by decide), pk_div hd (by decide) (by decide), dv_succ]
      refine hR _ _ ⟨by rw [show 6 - (i + 1) + 1 = 6 - i by omega], fun j hj => ?_⟩
      by_cases ej : j = g * 6 + i
      · subst ej
        rw [pk_us, if_neg (by omega), wd_at _ (by omega), show wth num g n g = n from if_pos rfl, show 6 - (i + 1) = 5 - i by omega]
      · rw [pk_un ej, hI.2 j hj]
        by_cases c : j / 6 = g ∧ j % 6 < i
        · rw [if_pos c, if_pos ⟨c.1, by omega⟩]
        · rw [if_neg c, if_neg (by omega)]
    · rw [hw j hj]
      by_cases c : j / 6 = g
      · rw [if_pos ⟨c, by omega⟩]
      · rw [if_neg (fun z => c z.1)]
        unfold wd
        rw [show wth num g n (j / 6) = num (j / 6) from if_neg c]
  refine (pk_eq (num g) 0 (fun z => ?_) (fun z => ?_) rfl rfl hng (by decide)).symm
  · exact fin _ (if_pos z)
  · exact fin _ (if_neg z)
def tn (num : Nat → Nat) : Nat := sm (fun g => if num g = 0 then 0 else 1) 12
theorem tn_wth {num : Nat → Nat} {g n : Nat} (hg : g < 12) (hn : n ≠ 0) : tn (wth num g n) = if num g = 0 then tn num + 1 else tn num := by
  have e := (sm_wth (fun _ s => if s = 0 then 0 else 1) num g n 12).2 hg
  have e : tn (wth num g n) + (if num g = 0 then 0 else 1) = tn num + (if n = 0 then 0 else 1) := e
  rw [if_neg hn] at e
  by_cases z : num g = 0
  · rw [if_pos z] at e ⊢; omega
  · rw [if_neg z] at e ⊢; omega
theorem tn_le (num : Nat → Nat) : tn num ≤ 12 := by
  have := sm_le (f := fun g => if num g = 0 then 0 else 1) (M := 1) 12 (fun k _ => by show (if _ then 0 else 1) ≤ 1; split <;> omega)
  unfold tn; omega
theorem tn_all {num : Nat → Nat} (h : ∀ g, g < 12 → num g ≠ 0) : tn num = 12 := by
  have key : ∀ n, n ≤ 12 → sm (fun g => if num g = 0 then 0 else 1) n = n := by
    intro n
    induction n with
    | zero => intro _; rfl
    | succ n ih =>
      intro hn
      show sm (fun g => if num g = 0 then 0 else 1) n + (if num n = 0 then 0 else 1) = n + 1
      rw [ih (by omega), if_neg (h n (by omega))]
  exact key 12 (Nat.le_refl _)
theorem tn_not {num : Nat → Nat} {g : Nat} (hg : g < 12) (h : num g = 0) : tn num < 12 := by
  have e := tn_wth (num := num) (n := 1) hg (by decide)
  rw [if_pos h] at e
  have := tn_le (wth num g 1)
  omega
theorem s_countR {taught : Nat → Int32} {num : Nat → Nat} (hw : ∀ g, g < 12 → taught g = nI (num g) ∧ num g < 2 ^ 31) {Q : Int32 → Prop} (h : Q (nI (tn num))) : ∃ n40 : Nat, wl2 (p_X6_count_B40 taught (fun x2_69 _ => Q x2_69)) n40 0 0 := by
  refine wf2_1 (N := 12) (I := fun k v => v = nI (sm (fun g => if num g = 0 then 0 else 1) k)) ?_ ?_ 0 0 (Nat.zero_le _) rfl
  · intro R v hI
    unfold p_X6_count_B40
    exact ⟨fun _ => by rw [hI]; exact h, fun q => absurd (by decide) q⟩
  · intro R k v hk hI hR
    unfold p_X6_count_B40 p_X6_count_J61
    refine pk_le 12 k (fun q => by omega) (fun _ => ?_)
    refine ⟨vp_in_nI hk (by decide), ?_⟩
    rw [nI_clamp (show k < 2 ^ 31 by omega), (hw k hk).1, hI]
    refine pk_le (num k) 0 (fun q => ?_) (fun q => ?_) rfl rfl (hw k hk).2 (by decide)
    · refine hR _ ?_
      show _ = nI (sm (fun g => if num g = 0 then 0 else 1) k + (if num k = 0 then 0 else 1))
      rw [if_pos (by omega), show (0 : Int32) = nI 0 from rfl, nI_add]
    · refine hR _ ?_
      show _ = nI (sm (fun g => if num g = 0 then 0 else 1) k + (if num k = 0 then 0 else 1))
      rw [if_neg (by omega), show (1 : Int32) = nI 1 from rfl, nI_add]
