theorem dn_m1 (x : Int32) : x + (-1) = x - 1 := (Int32.sub_eq_add_neg x 1).symm
theorem wf1_0 {B : (Int32 → Prop) → Int32 → Prop} (N : Nat) (I : Nat → Prop) (hx : ∀ (R : Int32 → Prop), I N → B R (nI N)) (hs : ∀ (R : Int32 → Prop) (i : Nat), i < N → I i → (I (i + 1) → R (nI i + 1)) → B R (nI i)) (i : Nat) (hi : i ≤ N) (h : I i) : ∃ n, wl1 B n (nI i) := by
  have key : ∀ (d i : Nat), i ≤ N → N - i = d → I i → wl1 B (d + 1) (nI i) := by
    intro d
    induction d with
    | zero =>
      intro i hi hd h
      obtain rfl : i = N := by omega
      exact hx _ h
    | succ d ih =>
      intro i hi hd h
      refine hs _ i (by omega) h (fun h2 => ?_)
      rw [nI_1]
      exact ih (i + 1) (by omega) (by omega) h2
  exact ⟨_, key _ i hi rfl h⟩
theorem wd1_0 {B : (Int32 → Prop) → Int32 → Prop} (N : Nat) (I : Nat → Prop) (hx : ∀ (R : Int32 → Prop), I 0 → B R (-1)) (hs : ∀ (R : Int32 → Prop) (i : Nat), i < N → I (i + 1) → (I i → R (nI i + (-1))) → B R (nI i)) (i : Nat) (hi : i ≤ N) (h : I i) : ∃ n, wl1 B n (nI i - 1) := by
  have key : ∀ (i : Nat), i ≤ N → I i → wl1 B (i + 1) (nI i - 1) := by
    intro i
    induction i with
    | zero =>
      intro hi h
      exact hx _ h
    | succ d ih =>
      intro hi h
      rw [nI_pred]
      refine hs _ d (by omega) h (fun h2 => ?_)
      rw [dn_m1]
      exact ih (by omega) h2
  exact ⟨_, key i hi h⟩
theorem wf2_0 {β : Type} {B : (Int32 → β → Prop) → Int32 → β → Prop} (N : Nat) (I : Nat → β → Prop) (hx : ∀ (R : Int32 → β → Prop) (a1 : β), I N a1 → B R (nI N) a1) (hs : ∀ (R : Int32 → β → Prop) (i : Nat) (a1 : β), i < N → I i a1 → (∀ (b1 : β), I (i + 1) b1 → R (nI i + 1) b1) → B R (nI i) a1) (i : Nat) (a1 : β) (hi : i ≤ N) (h : I i a1) : ∃ n, wl2 B n (nI i) a1 := by
  have key : ∀ (d i : Nat) (a1 : β), i ≤ N → N - i = d → I i a1 → wl2 B (d + 1) (nI i) a1 := by
    intro d
    induction d with
    | zero =>
      intro i a1 hi hd h
      obtain rfl : i = N := by omega
      exact hx _ a1 h
    | succ d ih =>
      intro i a1 hi hd h
      refine hs _ i a1 (by omega) h (fun b1 h2 => ?_)
      rw [nI_1]
      exact ih (i + 1) b1 (by omega) (by omega) h2
  exact ⟨_, key _ i a1 hi rfl h⟩
theorem wd2_0 {β : Type} {B : (Int32 → β → Prop) → Int32 → β → Prop} (N : Nat) (I : Nat → β → Prop) (hx : ∀ (R : Int32 → β → Prop) (a1 : β), I 0 a1 → B R (-1) a1) (hs : ∀ (R : Int32 → β → Prop) (i : Nat) (a1 : β), i < N → I (i + 1) a1 → (∀ (b1 : β), I i b1 → R (nI i + (-1)) b1) → B R (nI i) a1) (i : Nat) (a1 : β) (hi : i ≤ N) (h : I i a1) : ∃ n, wl2 B n (nI i - 1) a1 := by
  have key : ∀ (i : Nat) (a1 : β), i ≤ N → I i a1 → wl2 B (i + 1) (nI i - 1) a1 := by
    intro i
    induction i with
    | zero =>
      intro a1 hi h
      exact hx _ a1 h
    | succ d ih =>
      intro a1 hi h
      rw [nI_pred]
      refine hs _ d a1 (by omega) h (fun b1 h2 => ?_)
      rw [dn_m1]
      exact ih b1 (by omega) h2
  exact ⟨_, key i a1 hi h⟩
theorem wf2_1 {α : Type} {B : (α → Int32 → Prop) → α → Int32 → Prop} (N : Nat) (I : Nat → α → Prop) (hx : ∀ (R : α → Int32 → Prop) (a0 : α), I N a0 → B R a0 (nI N)) (hs : ∀ (R : α → Int32 → Prop) (i : Nat) (a0 : α), i < N → I i a0 → (∀ (b0 : α), I (i + 1) b0 → R b0 (nI i + 1)) → B R a0 (nI i)) (i : Nat) (a0 : α) (hi : i ≤ N) (h : I i a0) : ∃ n, wl2 B n a0 (nI i) := by
  have key : ∀ (d i : Nat) (a0 : α), i ≤ N → N - i = d → I i a0 → wl2 B (d + 1) a0 (nI i) := by
    intro d
    induction d with
    | zero =>
      intro i a0 hi hd h
      obtain rfl : i = N := by omega
      exact hx _ a0 h
    | succ d ih =>
      intro i a0 hi hd h
      refine hs _ i a0 (by omega) h (fun b0 h2 => ?_)
      rw [nI_1]
      exact ih (i + 1) b0 (by omega) (by omega) h2
  exact ⟨_, key _ i a0 hi rfl h⟩
theorem wd2_1 {α : Type} {B : (α → Int32 → Prop) → α → Int32 → Prop} (N : Nat) (I : Nat → α → Prop) (hx : ∀ (R : α → Int32 → Prop) (a0 : α), I 0 a0 → B R a0 (-1)) (hs : ∀ (R : α → Int32 → Prop) (i : Nat) (a0 : α), i < N → I (i + 1) a0 → (∀ (b0 : α), I i b0 → R b0 (nI i + (-1))) → B R a0 (nI i)) (i : Nat) (a0 : α) (hi : i ≤ N) (h : I i a0) : ∃ n, wl2 B n a0 (nI i - 1) := by
  have key : ∀ (i : Nat) (a0 : α), i ≤ N → I i a0 → wl2 B (i + 1) a0 (nI i - 1) := by
    intro i
    induction i with
    | zero =>
      intro a0 hi h
      exact hx _ a0 h
    | succ d ih =>
      intro a0 hi h
      rw [nI_pred]
      refine hs _ d a0 (by omega) h (fun b0 h2 => ?_)
      rw [dn_m1]
      exact ih b0 (by omega) h2
  exact ⟨_, key i a0 hi h⟩
theorem wf3_0 {β γ : Type} {B : (Int32 → β → γ → Prop) → Int32 → β → γ → Prop} (N : Nat) (I : Nat → β → γ → Prop) (hx : ∀ (R : Int32 → β → γ → Prop) (a1 : β) (a2 : γ), I N a1 a2 → B R (nI N) a1 a2) (hs : ∀ (R : Int32 → β → γ → Prop) (i : Nat) (a1 : β) (a2 : γ), i < N → I i a1 a2 → (∀ (b1 : β) (b2 : γ), I (i + 1) b1 b2 → R (nI i + 1) b1 b2) → B R (nI i) a1 a2) (i : Nat) (a1 : β) (a2 : γ) (hi : i ≤ N) (h : I i a1 a2) : ∃ n, wl3 B n (nI i) a1 a2 := by
  have key : ∀ (d i : Nat) (a1 : β) (a2 : γ), i ≤ N → N - i = d → I i a1 a2 → wl3 B (d + 1) (nI i) a1 a2 := by
    intro d
    induction d with
    | zero =>
      intro i a1 a2 hi hd h
      obtain rfl : i = N := by omega
      exact hx _ a1 a2 h
    | succ d ih =>
      intro i a1 a2 hi hd h
      refine hs _ i a1 a2 (by omega) h (fun b1 b2 h2 => ?_)
      rw [nI_1]
      exact ih (i + 1) b1 b2 (by omega) (by omega) h2
  exact ⟨_, key _ i a1 a2 hi rfl h⟩
theorem wd3_0 {β γ : Type} {B : (Int32 → β → γ → Prop) → Int32 → β → γ → Prop} (N : Nat) (I : Nat → β → γ → Prop) (hx : ∀ (R : Int32 → β → γ → Prop) (a1 : β) (a2 : γ), I 0 a1 a2 → B R (-1) a1 a2) (hs : ∀ (R : Int32 → β → γ → Prop) (i : Nat) (a1 : β) (a2 : γ), i < N → I (i + 1) a1 a2 → (∀ (b1 : β) (b2 : γ), I i b1 b2 → R (nI i + (-1)) b1 b2) → B R (nI i) a1 a2) (i : Nat) (a1 : β) (a2 : γ) (hi : i ≤ N) (h : I i a1 a2) : ∃ n, wl3 B n (nI i - 1) a1 a2 := by
  have key : ∀ (i : Nat) (a1 : β) (a2 : γ), i ≤ N → I i a1 a2 → wl3 B (i + 1) (nI i - 1) a1 a2 := by
    intro i
    induction i with
    | zero =>
      intro a1 a2 hi h
      exact hx _ a1 a2 h
    | succ d ih =>
      intro a1 a2 hi h
      rw [nI_pred]
      refine hs _ d a1 a2 (by omega) h (fun b1 b2 h2 => ?_)
      rw [dn_m1]
      exact ih b1 b2 (by omega) h2
  exact ⟨_, key i a1 a2 hi h⟩
theorem wf3_1 {α γ : Type} {B : (α → Int32 → γ → Prop) → α → Int32 → γ → Prop} (N : Nat) (I : Nat → α → γ → Prop) (hx : ∀ (R : α → Int32 → γ → Prop) (a0 : α) (a2 : γ), I N a0 a2 → B R a0 (nI N) a2) (hs : ∀ (R : α → Int32 → γ → Prop) (i : Nat) (a0 : α) (a2 : γ), i < N → I i a0 a2 → (∀ (b0 : α) (b2 : γ), I (i + 1) b0 b2 → R b0 (nI i + 1) b2) → B R a0 (nI i) a2) (i : Nat) (a0 : α) (a2 : γ) (hi : i ≤ N) (h : I i a0 a2) : ∃ n, wl3 B n a0 (nI i) a2 := by
  have key : ∀ (d i : Nat) (a0 : α) (a2 : γ), i ≤ N → N - i = d → I i a0 a2 → wl3 B (d + 1) a0 (nI i) a2 := by
    intro d
    induction d with
    | zero =>
      intro i a0 a2 hi hd h
      obtain rfl : i = N := by omega
      exact hx _ a0 a2 h
    | succ d ih =>
      intro i a0 a2 hi hd h
      refine hs _ i a0 a2 (by omega) h (fun b0 b2 h2 => ?_)
      rw [nI_1]
      exact ih (i + 1) b0 b2 (by omega) (by omega) h2
  exact ⟨_, key _ i a0 a2 hi rfl h⟩
theorem wd3_1 {α γ : Type} {B : (α → Int32 → γ → Prop) → α → Int32 → γ → Prop} (N : Nat) (I : Nat → α → γ → Prop) (hx : ∀ (R : α → Int32 → γ → Prop) (a0 : α) (a2 : γ), I 0 a0 a2 → B R a0 (-1) a2) (hs : ∀ (R : α → Int32 → γ → Prop) (i : Nat) (a0 : α) (a2 : γ), i < N → I (i + 1) a0 a2 → (∀ (b0 : α) (b2 : γ), I i b0 b2 → R b0 (nI i + (-1)) b2) → B R a0 (nI i) a2) (i : Nat) (a0 : α) (a2 : γ) (hi : i ≤ N) (h : I i a0 a2) : ∃ n, wl3 B n a0 (nI i - 1) a2 := by
  have key : ∀ (i : Nat) (a0 : α) (a2 : γ), i ≤ N → I i a0 a2 → wl3 B (i + 1) a0 (nI i - 1) a2 := by
    intro i
    induction i with
    | zero =>
      intro a0 a2 hi h
      exact hx _ a0 a2 h
    | succ d ih =>
      intro a0 a2 hi h
      rw [nI_pred]
      refine hs _ d a0 a2 (by omega) h (fun b0 b2 h2 => ?_)
      rw [dn_m1]
      exact ih b0 b2 (by omega) h2
  exact ⟨_, key i a0 a2 hi h⟩
theorem wf3_2 {α β : Type} {B : (α → β → Int32 → Prop) → α → β → Int32 → Prop} (N : Nat) (I : Nat → α → β → Prop) (hx : ∀ (R : α → β → Int32 → Prop) (a0 : α) (a1 : β), I N a0 a1 → B R a0 a1 (nI N)) (hs : ∀ (R : α → β → Int32 → Prop) (i : Nat) (a0 : α) (a1 : β), i < N → I i a0 a1 → (∀ (b0 : α) (b1 : β), I (i + 1) b0 b1 → R b0 b1 (nI i + 1)) → B R a0 a1 (nI i)) (i : Nat) (a0 : α) (a1 : β) (hi : i ≤ N) (h : I i a0 a1) : ∃ n, wl3 B n a0 a1 (nI i) := by
  have key : ∀ (d i : Nat) (a0 : α) (a1 : β), i ≤ N → N - i = d → I i a0 a1 → wl3 B (d + 1) a0 a1 (nI i) := by
    intro d
    induction d with
    | zero =>
      intro i a0 a1 hi hd h
      obtain rfl : i = N := by omega
      exact hx _ a0 a1 h
    | succ d ih =>
      intro i a0 a1 hi hd h
      refine hs _ i a0 a1 (by omega) h (fun b0 b1 h2 => ?_)
      rw [nI_1]
      exact ih (i + 1) b0 b1 (by omega) (by omega) h2
  exact ⟨_, key _ i a0 a1 hi rfl h⟩
theorem wd3_2 {α β : Type} {B : (α → β → Int32 → Prop) → α → β → Int32 → Prop} (N : Nat) (I : Nat → α → β → Prop) (hx : ∀ (R : α → β → Int32 → Prop) (a0 : α) (a1 : β), I 0 a0 a1 → B R a0 a1 (-1)) (hs : ∀ (R : α → β → Int32 → Prop) (i : Nat) (a0 : α) (a1 : β), i < N → I (i + 1) a0 a1 → (∀ (b0 : α) (b1 : β), I i b0 b1 → R b0 b1 (nI i + (-1))) → B R a0 a1 (nI i)) (i : Nat) (a0 : α) (a1 : β) (hi : i ≤ N) (h : I i a0 a1) : ∃ n, wl3 B n a0 a1 (nI i - 1) := by
  have key : ∀ (i : Nat) (a0 : α) (a1 : β), i ≤ N → I i a0 a1 → wl3 B (i + 1) a0 a1 (nI i - 1) := by
    intro i
    induction i with
    | zero =>
      intro a0 a1 hi h
      exact hx _ a0 a1 h
    | succ d ih =>
      intro a0 a1 hi h
      rw [nI_pred]
      refine hs _ d a0 a1 (by omega) h (fun b0 b1 h2 => ?_)
      rw [dn_m1]
      exact ih b0 b1 (by omega) h2
  exact ⟨_, key i a0 a1 hi h⟩
theorem wf4_0 {β γ δ : Type} {B : (Int32 → β → γ → δ → Prop) → Int32 → β → γ → δ → Prop} (N : Nat) (I : Nat → β → γ → δ → Prop) (hx : ∀ (R : Int32 → β → γ → δ → Prop) (a1 : β) (a2 : γ) (a3 : δ), I N a1 a2 a3 → B R (nI N) a1 a2 a3) (hs : ∀ (R : Int32 → β → γ → δ → Prop) (i : Nat) (a1 : β) (a2 : γ) (a3 : δ), i < N → I i a1 a2 a3 → (∀ (b1 : β) (b2 : γ) (b3 : δ), I (i + 1) b1 b2 b3 → R (nI i + 1) b1 b2 b3) → B R (nI i) a1 a2 a3) (i : Nat) (a1 : β) (a2 : γ) (a3 : δ) (hi : i ≤ N) (h : I i a1 a2 a3) : ∃ n, wl4 B n (nI i) a1 a2 a3 := by
  have key : ∀ (d i : Nat) (a1 : β) (a2 : γ) (a3 : δ), i ≤ N → N - i = d → I i a1 a2 a3 → wl4 B (d + 1) (nI i) a1 a2 a3 := by
    intro d
    induction d with
    | zero =>
      intro i a1 a2 a3 hi hd h
      obtain rfl : i = N := by omega
      exact hx _ a1 a2 a3 h
    | succ d ih =>
      intro i a1 a2 a3 hi hd h
      refine hs _ i a1 a2 a3 (by omega) h (fun b1 b2 b3 h2 => ?_)
      rw [nI_1]
      exact ih (i + 1) b1 b2 b3 (by omega) (by omega) h2
  exact ⟨_, key _ i a1 a2 a3 hi rfl h⟩
theorem wd4_0 {β γ δ : Type} {B : (Int32 → β → γ → δ → Prop) → Int32 → β → γ → δ → Prop} (N : Nat) (I : Nat → β → γ → δ → Prop) (hx : ∀ (R : Int32 → β → γ → δ → Prop) (a1 : β) (a2 : γ) (a3 : δ), I 0 a1 a2 a3 → B R (-1) a1 a2 a3) (hs : ∀ (R : Int32 → β → γ → δ → Prop) (i : Nat) (a1 : β) (a2 : γ) (a3 : δ), i < N → I (i + 1) a1 a2 a3 → (∀ (b1 : β) (b2 : γ) (b3 : δ), I i b1 b2 b3 → R (nI i + (-1)) b1 b2 b3) → B R (nI i) a1 a2 a3) (i : Nat) (a1 : β) (a2 : γ) (a3 : δ) (hi : i ≤ N) (h : I i a1 a2 a3) : ∃ n, wl4 B n (nI i - 1) a1 a2 a3 := by
  have key : ∀ (i : Nat) (a1 : β) (a2 : γ) (a3 : δ), i ≤ N → I i a1 a2 a3 → wl4 B (i + 1) (nI i - 1) a1 a2 a3 := by
    intro i
    induction i with
    | zero =>
      intro a1 a2 a3 hi h
      exact hx _ a1 a2 a3 h
    | succ d ih =>
      intro a1 a2 a3 hi h
      rw [nI_pred]
      refine hs _ d a1 a2 a3 (by omega) h (fun b1 b2 b3 h2 => ?_)
      rw [dn_m1]
      exact ih b1 b2 b3 (by omega) h2
  exact ⟨_, key i a1 a2 a3 hi h⟩
theorem wf4_1 {α γ δ : Type} {B : (α → Int32 → γ → δ → Prop) → α → Int32 → γ → δ → Prop} (N : Nat) (I : Nat → α → γ → δ → Prop) (hx : ∀ (R : α → Int32 → γ → δ → Prop) (a0 : α) (a2 : γ) (a3 : δ), I N a0 a2 a3 → B R a0 (nI N) a2 a3) (hs : ∀ (R : α → Int32 → γ → δ → Prop) (i : Nat) (a0 : α) (a2 : γ) (a3 : δ), i < N → I i a0 a2 a3 → (∀ (b0 : α) (b2 : γ) (b3 : δ), I (i + 1) b0 b2 b3 → R b0 (nI i + 1) b2 b3) → B R a0 (nI i) a2 a3) (i : Nat) (a0 : α) (a2 : γ) (a3 : δ) (hi : i ≤ N) (h : I i a0 a2 a3) : ∃ n, wl4 B n a0 (nI i) a2 a3 := by
  have key : ∀ (d i : Nat) (a0 : α) (a2 : γ) (a3 : δ), i ≤ N → N - i = d → I i a0 a2 a3 → wl4 B (d + 1) a0 (nI i) a2 a3 := by
    intro d
    induction d with
    | zero =>
      intro i a0 a2 a3 hi hd h
      obtain rfl : i = N := by omega
      exact hx _ a0 a2 a3 h
    | succ d ih =>
      intro i a0 a2 a3 hi hd h
      refine hs _ i a0 a2 a3 (by omega) h (fun b0 b2 b3 h2 => ?_)
      rw [nI_1]
      exact ih (i + 1) b0 b2 b3 (by omega) (by omega) h2
  exact ⟨_, key _ i a0 a2 a3 hi rfl h⟩
theorem wd4_1 {α γ δ : Type} {B : (α → Int32 → γ → δ → Prop) → α → Int32 → γ → δ → Prop} (N : Nat) (I : Nat → α → γ → δ → Prop) (hx : ∀ (R : α → Int32 → γ → δ → Prop) (a0 : α) (a2 : γ) (a3 : δ), I 0 a0 a2 a3 → B R a0 (-1) a2 a3) (hs : ∀ (R : α → Int32 → γ → δ → Prop) (i : Nat) (a0 : α) (a2 : γ) (a3 : δ), i < N → I (i + 1) a0 a2 a3 → (∀ (b0 : α) (b2 : γ) (b3 : δ), I i b0 b2 b3 → R b0 (nI i + (-1)) b2 b3) → B R a0 (nI i) a2 a3) (i : Nat) (a0 : α) (a2 : γ) (a3 : δ) (hi : i ≤ N) (h : I i a0 a2 a3) : ∃ n, wl4 B n a0 (nI i - 1) a2 a3 := by
  have key : ∀ (i : Nat) (a0 : α) (a2 : γ) (a3 : δ), i ≤ N → I i a0 a2 a3 → wl4 B (i + 1) a0 (nI i - 1) a2 a3 := by
    intro i
    induction i with
    | zero =>
      intro a0 a2 a3 hi h
      exact hx _ a0 a2 a3 h
    | succ d ih =>
      intro a0 a2 a3 hi h
      rw [nI_pred]
      refine hs _ d a0 a2 a3 (by omega) h (fun b0 b2 b3 h2 => ?_)
      rw [dn_m1]
      exact ih b0 b2 b3 (by omega) h2
  exact ⟨_, key i a0 a2 a3 hi h⟩
theorem wf4_2 {α β δ : Type} {B : (α → β → Int32 → δ → Prop) → α → β → Int32 → δ → Prop} (N : Nat) (I : Nat → α → β → δ → Prop) (hx : ∀ (R : α → β → Int32 → δ → Prop) (a0 : α) (a1 : β) (a3 : δ), I N a0 a1 a3 → B R a0 a1 (nI N) a3) (hs : ∀ (R : α → β → Int32 → δ → Prop) (i : Nat) (a0 : α) (a1 : β) (a3 : δ), i < N → I i a0 a1 a3 → (∀ (b0 : α) (b1 : β) (b3 : δ), I (i + 1) b0 b1 b3 → R b0 b1 (nI i + 1) b3) → B R a0 a1 (nI i) a3) (i : Nat) (a0 : α) (a1 : β) (a3 : δ) (hi : i ≤ N) (h : I i a0 a1 a3) : ∃ n, wl4 B n a0 a1 (nI i) a3 := by
  have key : ∀ (d i : Nat) (a0 : α) (a1 : β) (a3 : δ), i ≤ N → N - i = d → I i a0 a1 a3 → wl4 B (d + 1) a0 a1 (nI i) a3 := by
    intro d
    induction d with
    | zero =>
      intro i a0 a1 a3 hi hd h
      obtain rfl : i = N := by omega
      exact hx _ a0 a1 a3 h
    | succ d ih =>
      intro i a0 a1 a3 hi hd h
      refine hs _ i a0 a1 a3 (by omega) h (fun b0 b1 b3 h2 => ?_)
      rw [nI_1]
      exact ih (i + 1) b0 b1 b3 (by omega) (by omega) h2
  exact ⟨_, key _ i a0 a1 a3 hi rfl h⟩
theorem wd4_2 {α β δ : Type} {B : (α → β → Int32 → δ → Prop) → α → β → Int32 → δ → Prop} (N : Nat) (I : Nat → α → β → δ → Prop) (hx : ∀ (R : α → β → Int32 → δ → Prop) (a0 : α) (a1 : β) (a3 : δ), I 0 a0 a1 a3 → B R a0 a1 (-1) a3) (hs : ∀ (R : α → β → Int32 → δ → Prop) (i : Nat) (a0 : α) (a1 : β) (a3 : δ), i < N → I (i + 1) a0 a1 a3 → (∀ (b0 : α) (b1 : β) (b3 : δ), I i b0 b1 b3 → R b0 b1 (nI i + (-1)) b3) → B R a0 a1 (nI i) a3) (i : Nat) (a0 : α) (a1 : β) (a3 : δ) (hi : i ≤ N) (h : I i a0 a1 a3) : ∃ n, wl4 B n a0 a1 (nI i - 1) a3 := by
  have key : ∀ (i : Nat) (a0 : α) (a1 : β) (a3 : δ), i ≤ N → I i a0 a1 a3 → wl4 B (i + 1) a0 a1 (nI i - 1) a3 := by
    intro i
    induction i with
    | zero =>
      intro a0 a1 a3 hi h
      exact hx _ a0 a1 a3 h
    | succ d ih =>
      intro a0 a1 a3 hi h
      rw [nI_pred]
      refine hs _ d a0 a1 a3 (by omega) h (fun b0 b1 b3 h2 => ?_)
      rw [dn_m1]
      exact ih b0 b1 b3 (by omega) h2
  exact ⟨_, key i a0 a1 a3 hi h⟩
theorem wf4_3 {α β γ : Type} {B : (α → β → γ → Int32 → Prop) → α → β → γ → Int32 → Prop} (N : Nat) (I : Nat → α → β → γ → Prop) (hx : ∀ (R : α → β → γ → Int32 → Prop) (a0 : α) (a1 : β) (a2 : γ), I N a0 a1 a2 → B R a0 a1 a2 (nI N)) (hs : ∀ (R : α → β → γ → Int32 → Prop) (i : Nat) (a0 : α) (a1 : β) (a2 : γ), i < N → I i a0 a1 a2 → (∀ (b0 : α) (b1 : β) (b2 : γ), I (i + 1) b0 b1 b2 → R b0 b1 b2 (nI i + 1)) → B R a0 a1 a2 (nI i)) (i : Nat) (a0 : α) (a1 : β) (a2 : γ) (hi : i ≤ N) (h : I i a0 a1 a2) : ∃ n, wl4 B n a0 a1 a2 (nI i) := by
  have key : ∀ (d i : Nat) (a0 : α) (a1 : β) (a2 : γ), i ≤ N → N - i = d → I i a0 a1 a2 → wl4 B (d + 1) a0 a1 a2 (nI i) := by
    intro d
    induction d with
    | zero =>
      intro i a0 a1 a2 hi hd h
      obtain rfl : i = N := by omega
      exact hx _ a0 a1 a2 h
    | succ d ih =>
      intro i a0 a1 a2 hi hd h
      refine hs _ i a0 a1 a2 (by omega) h (fun b0 b1 b2 h2 => ?_)
      rw [nI_1]
      exact ih (i + 1) b0 b1 b2 (by omega) (by omega) h2
  exact ⟨_, key _ i a0 a1 a2 hi rfl h⟩
theorem wd4_3 {α β γ : Type} {B : (α → β → γ → Int32 → Prop) → α → β → γ → Int32 → Prop} (N : Nat) (I : Nat → α → β → γ → Prop) (hx : ∀ (R : α → β → γ → Int32 → Prop) (a0 : α) (a1 : β) (a2 : γ), I 0 a0 a1 a2 → B R a0 a1 a2 (-1)) (hs : ∀ (R : α → β → γ → Int32 → Prop) (i : Nat) (a0 : α) (a1 : β) (a2 : γ), i < N → I (i + 1) a0 a1 a2 → (∀ (b0 : α) (b1 : β) (b2 : γ), I i b0 b1 b2 → R b0 b1 b2 (nI i + (-1))) → B R a0 a1 a2 (nI i)) (i : Nat) (a0 : α) (a1 : β) (a2 : γ) (hi : i ≤ N) (h : I i a0 a1 a2) : ∃ n, wl4 B n a0 a1 a2 (nI i - 1) := by
  have key : ∀ (i : Nat) (a0 : α) (a1 : β) (a2 : γ), i ≤ N → I i a0 a1 a2 → wl4 B (i + 1) a0 a1 a2 (nI i - 1) := by
    intro i
    induction i with
    | zero =>
      intro a0 a1 a2 hi h
      exact hx _ a0 a1 a2 h
    | succ d ih =>
      intro a0 a1 a2 hi h
      rw [nI_pred]
      refine hs _ d a0 a1 a2 (by omega) h (fun b0 b1 b2 h2 => ?_)
      rw [dn_m1]
      exact ih b0 b1 b2 (by omega) h2
  exact ⟨_, key i a0 a1 a2 hi h⟩
theorem wf5_0 {β γ δ ε : Type} {B : (Int32 → β → γ → δ → ε → Prop) → Int32 → β → γ → δ → ε → Prop} (N : Nat) (I : Nat → β → γ → δ → ε → Prop) (hx : ∀ (R : Int32 → β → γ → δ → ε → Prop) (a1 : β) (a2 : γ) (a3 : δ) (a4 : ε), I N a1 a2 a3 a4 → B R (nI N) a1 a2 a3 a4) (hs : ∀ (R : Int32 → β → γ → δ → ε → Prop) (i : Nat) (a1 : β) (a2 : γ) (a3 : δ) (a4 : ε), i < N → I i a1 a2 a3 a4 → (∀ (b1 : β) (b2 : γ) (b3 : δ) (b4 : ε), I (i + 1) b1 b2 b3 b4 → R (nI i + 1) b1 b2 b3 b4) → B R (nI i) a1 a2 a3 a4) (i : Nat) (a1 : β) (a2 : γ) (a3 : δ) (a4 : ε) (hi : i ≤ N) (h : I i a1 a2 a3 a4) : ∃ n, wl5 B n (nI i) a1 a2 a3 a4 := by
  have key : ∀ (d i : Nat) (a1 : β) (a2 : γ) (a3 : δ) (a4 : ε), i ≤ N → N - i = d → I i a1 a2 a3 a4 → wl5 B (d + 1) (nI i) a1 a2 a3 a4 := by
    intro d
    induction d with
    | zero =>
      intro i a1 a2 a3 a4 hi hd h
      obtain rfl : i = N := by omega
      exact hx _ a1 a2 a3 a4 h
    | succ d ih =>
      intro i a1 a2 a3 a4 hi hd h
      refine hs _ i a1 a2 a3 a4 (by omega) h (fun b1 b2 b3 b4 h2 => ?_)
      rw [nI_1]
      exact ih (i + 1) b1 b2 b3 b4 (by omega) (by omega) h2
  exact ⟨_, key _ i a1 a2 a3 a4 hi rfl h⟩
theorem wd5_0 {β γ δ ε : Type} {B : (Int32 → β → γ → δ → ε → Prop) → Int32 → β → γ → δ → ε → Prop} (N : Nat) (I : Nat → β → γ → δ → ε → Prop) (hx : ∀ (R : Int32 → β → γ → δ → ε → Prop) (a1 : β) (a2 : γ) (a3 : δ) (a4 : ε), I 0 a1 a2 a3 a4 → B R (-1) a1 a2 a3 a4) (hs : ∀ (R : Int32 → β → γ → δ → ε → Prop) (i : Nat) (a1 : β) (a2 : γ) (a3 : δ) (a4 : ε), i < N → I (i + 1) a1 a2 a3 a4 → (∀ (b1 : β) (b2 : γ) (b3 : δ) (b4 : ε), I i b1 b2 b3 b4 → R (nI i + (-1)) b1 b2 b3 b4) → B R (nI i) a1 a2 a3 a4) (i : Nat) (a1 : β) (a2 : γ) (a3 : δ) (a4 : ε) (hi : i ≤ N) (h : I i a1 a2 a3 a4) : ∃ n, wl5 B n (nI i - 1) a1 a2 a3 a4 := by
  have key : ∀ (i : Nat) (a1 : β) (a2 : γ) (a3 : δ) (a4 : ε), i ≤ N → I i a1 a2 a3 a4 → wl5 B (i + 1) (nI i - 1) a1 a2 a3 a4 := by
    intro i
    induction i with
    | zero =>
      intro a1 a2 a3 a4 hi h
      exact hx _ a1 a2 a3 a4 h
    | succ d ih =>
      intro a1 a2 a3 a4 hi h
      rw [nI_pred]
      refine hs _ d a1 a2 a3 a4 (by omega) h (fun b1 b2 b3 b4 h2 => ?_)
      rw [dn_m1]
      exact ih b1 b2 b3 b4 (by omega) h2
  exact ⟨_, key i a1 a2 a3 a4 hi h⟩
theorem wf5_1 {α γ δ ε : Type} {B : (α → Int32 → γ → δ → ε → Prop) → α → Int32 → γ → δ → ε → Prop} (N : Nat) (I : Nat → α → γ → δ → ε → Prop) (hx : ∀ (R : α → Int32 → γ → δ → ε → Prop) (a0 : α) (a2 : γ) (a3 : δ) (a4 : ε), I N a0 a2 a3 a4 → B R a0 (nI N) a2 a3 a4) (hs : ∀ (R : α → Int32 → γ → δ → ε → Prop) (i : Nat) (a0 : α) (a2 : γ) (a3 : δ) (a4 : ε), i < N → I i a0 a2 a3 a4 → (∀ (b0 : α) (b2 : γ) (b3 : δ) (b4 : ε), I (i + 1) b0 b2 b3 b4 → R b0 (nI i + 1) b2 b3 b4) → B R a0 (nI i) a2 a3 a4) (i : Nat) (a0 : α) (a2 : γ) (a3 : δ) (a4 : ε) (hi : i ≤ N) (h : I i a0 a2 a3 a4) : ∃ n, wl5 B n a0 (nI i) a2 a3 a4 := by
  have key : ∀ (d i : Nat) (a0 : α) (a2 : γ) (a3 : δ) (a4 : ε), i ≤ N → N - i = d → I i a0 a2 a3 a4 → wl5 B (d + 1) a0 (nI i) a2 a3 a4 := by
    intro d
    induction d with
    | zero =>
      intro i a0 a2 a3 a4 hi hd h
      obtain rfl : i = N := by omega
      exact hx _ a0 a2 a3 a4 h
    | succ d ih =>
      intro i a0 a2 a3 a4 hi hd h
      refine hs _ i a0 a2 a3 a4 (by omega) h (fun b0 b2 b3 b4 h2 => ?_)
      rw [nI_1]
      exact ih (i + 1) b0 b2 b3 b4 (by omega) (by omega) h2
  exact ⟨_, key _ i a0 a2 a3 a4 hi rfl h⟩
theorem wd5_1 {α γ δ ε : Type} {B : (α → Int32 → γ → δ → ε → Prop) → α → Int32 → γ → δ → ε → Prop} (N : Nat) (I : Nat → α → γ → δ → ε → Prop) (hx : ∀ (R : α → Int32 → γ → δ → ε → Prop) (a0 : α) (a2 : γ) (a3 : δ) (a4 : ε), I 0 a0 a2 a3 a4 → B R a0 (-1) a2 a3 a4) (hs : ∀ (R : α → Int32 → γ → δ → ε → Prop) (i : Nat) (a0 : α) (a2 : γ) (a3 : δ) (a4 : ε), i < N → I (i + 1) a0 a2 a3 a4 → (∀ (b0 : α) (b2 : γ) (b3 : δ) (b4 : ε), I i b0 b2 b3 b4 → R b0 (nI i + (-1)) b2 b3 b4) → B R a0 (nI i) a2 a3 a4) (i : Nat) (a0 : α) (a2 : γ) (a3 : δ) (a4 : ε) (hi : i ≤ N) (h : I i a0 a2 a3 a4) : ∃ n, wl5 B n a0 (nI i - 1) a2 a3 a4 := by
  have key : ∀ (i : Nat) (a0 : α) (a2 : γ) (a3 : δ) (a4 : ε), i ≤ N → I i a0 a2 a3 a4 → wl5 B (i + 1) a0 (nI i - 1) a2 a3 a4 := by
    intro i
    induction i with
    | zero =>
      intro a0 a2 a3 a4 hi h
      exact hx _ a0 a2 a3 a4 h
    | succ d ih =>
      intro a0 a2 a3 a4 hi h
      rw [nI_pred]
      refine hs _ d a0 a2 a3 a4 (by omega) h (fun b0 b2 b3 b4 h2 => ?_)
      rw [dn_m1]
      exact ih b0 b2 b3 b4 (by omega) h2
  exact ⟨_, key i a0 a2 a3 a4 hi h⟩
theorem wf5_2 {α β δ ε : Type} {B : (α → β → Int32 → δ → ε → Prop) → α → β → Int32 → δ → ε → Prop} (N : Nat) (I : Nat → α → β → δ → ε → Prop) (hx : ∀ (R : α → β → Int32 → δ → ε → Prop) (a0 : α) (a1 : β) (a3 : δ) (a4 : ε), I N a0 a1 a3 a4 → B R a0 a1 (nI N) a3 a4) (hs : ∀ (R : α → β → Int32 → δ → ε → Prop) (i : Nat) (a0 : α) (a1 : β) (a3 : δ) (a4 : ε), i < N → I i a0 a1 a3 a4 → (∀ (b0 : α) (b1 : β) (b3 : δ) (b4 : ε), I (i + 1) b0 b1 b3 b4 → R b0 b1 (nI i + 1) b3 b4) → B R a0 a1 (nI i) a3 a4) (i : Nat) (a0 : α) (a1 : β) (a3 : δ) (a4 : ε) (hi : i ≤ N) (h : I i a0 a1 a3 a4) : ∃ n, wl5 B n a0 a1 (nI i) a3 a4 := by
  have key : ∀ (d i : Nat) (a0 : α) (a1 : β) (a3 : δ) (a4 : ε), i ≤ N → N - i = d → I i a0 a1 a3 a4 → wl5 B (d + 1) a0 a1 (nI i) a3 a4 := by
    intro d
    induction d with
    | zero =>
      intro i a0 a1 a3 a4 hi hd h
      obtain rfl : i = N := by omega
      exact hx _ a0 a1 a3 a4 h
    | succ d ih =>
      intro i a0 a1 a3 a4 hi hd h
      refine hs _ i a0 a1 a3 a4 (by omega) h (fun b0 b1 b3 b4 h2 => ?_)
      rw [nI_1]
      exact ih (i + 1) b0 b1 b3 b4 (by omega) (by omega) h2
  exact ⟨_, key _ i a0 a1 a3 a4 hi rfl h⟩
theorem wd5_2 {α β δ ε : Type} {B : (α → β → Int32 → δ → ε → Prop) → α → β → Int32 → δ → ε → Prop} (N : Nat) (I : Nat → α → β → δ → ε → Prop) (hx : ∀ (R : α → β → Int32 → δ → ε → Prop) (a0 : α) (a1 : β) (a3 : δ) (a4 : ε), I 0 a0 a1 a3 a4 → B R a0 a1 (-1) a3 a4) (hs : ∀ (R : α → β → Int32 → δ → ε → Prop) (i : Nat) (a0 : α) (a1 : β) (a3 : δ) (a4 : ε), i < N → I (i + 1) a0 a1 a3 a4 → (∀ (b0 : α) (b1 : β) (b3 : δ) (b4 : ε), I i b0 b1 b3 b4 → R b0 b1 (nI i + (-1)) b3 b4) → B R a0 a1 (nI i) a3 a4) (i : Nat) (a0 : α) (a1 : β) (a3 : δ) (a4 : ε) (hi : i ≤ N) (h : I i a0 a1 a3 a4) : ∃ n, wl5 B n a0 a1 (nI i - 1) a3 a4 := by
  have key : ∀ (i : Nat) (a0 : α) (a1 : β) (a3 : δ) (a4 : ε), i ≤ N → I i a0 a1 a3 a4 → wl5 B (i + 1) a0 a1 (nI i - 1) a3 a4 := by
    intro i
    induction i with
    | zero =>
      intro a0 a1 a3 a4 hi h
      exact hx _ a0 a1 a3 a4 h
    | succ d ih =>
      intro a0 a1 a3 a4 hi h
      rw [nI_pred]
      refine hs _ d a0 a1 a3 a4 (by omega) h (fun b0 b1 b3 b4 h2 => ?_)
      rw [dn_m1]
      exact ih b0 b1 b3 b4 (by omega) h2
  exact ⟨_, key i a0 a1 a3 a4 hi h⟩
theorem wf5_3 {α β γ ε : Type} {B : (α → β → γ → Int32 → ε → Prop) → α → β → γ → Int32 → ε → Prop} (N : Nat) (I : Nat → α → β → γ → ε → Prop) (hx : ∀ (R : α → β → γ → Int32 → ε → Prop) (a0 : α) (a1 : β) (a2 : γ) (a4 : ε), I N a0 a1 a2 a4 → B R a0 a1 a2 (nI N) a4) (hs : ∀ (R : α → β → γ → Int32 → ε → Prop) (i : Nat) (a0 : α) (a1 : β) (a2 : γ) (a4 : ε), i < N → I i a0 a1 a2 a4 → (∀ (b0 : α) (b1 : β) (b2 : γ) (b4 : ε), I (i + 1) b0 b1 b2 b4 → R b0 b1 b2 (nI i + 1) b4) → B R a0 a1 a2 (nI i) a4) (i : Nat) (a0 : α) (a1 : β) (a2 : γ) (a4 : ε) (hi : i ≤ N) (h : I i a0 a1 a2 a4) : ∃ n, wl5 B n a0 a1 a2 (nI i) a4 := by
  have key : ∀ (d i : Nat) (a0 : α) (a1 : β) (a2 : γ) (a4 : ε), i ≤ N → N - i = d → I i a0 a1 a2 a4 → wl5 B (d + 1) a0 a1 a2 (nI i) a4 := by
    intro d
    induction d with
    | zero =>
      intro i a0 a1 a2 a4 hi hd h
      obtain rfl : i = N := by omega
      exact hx _ a0 a1 a2 a4 h
    | succ d ih =>
      intro i a0 a1 a2 a4 hi hd h
      refine hs _ i a0 a1 a2 a4 (by omega) h (fun b0 b1 b2 b4 h2 => ?_)
      rw [nI_1]
      exact ih (i + 1) b0 b1 b2 b4 (by omega) (by omega) h2
  exact ⟨_, key _ i a0 a1 a2 a4 hi rfl h⟩
theorem wd5_3 {α β γ ε : Type} {B : (α → β → γ → Int32 → ε → Prop) → α → β → γ → Int32 → ε → Prop} (N : Nat) (I : Nat → α → β → γ → ε → Prop) (hx : ∀ (R : α → β → γ → Int32 → ε → Prop) (a0 : α) (a1 : β) (a2 : γ) (a4 : ε), I 0 a0 a1 a2 a4 → B R a0 a1 a2 (-1) a4) (hs : ∀ (R : α → β → γ → Int32 → ε → Prop) (i : Nat) (a0 : α) (a1 : β) (a2 : γ) (a4 : ε), i < N → I (i + 1) a0 a1 a2 a4 → (∀ (b0 : α) (b1 : β) (b2 : γ) (b4 : ε), I i b0 b1 b2 b4 → R b0 b1 b2 (nI i + (-1)) b4) → B R a0 a1 a2 (nI i) a4) (i : Nat) (a0 : α) (a1 : β) (a2 : γ) (a4 : ε) (hi : i ≤ N) (h : I i a0 a1 a2 a4) : ∃ n, wl5 B n a0 a1 a2 (nI i - 1) a4 := by
  have key : ∀ (i : Nat) (a0 : α) (a1 : β) (a2 : γ) (a4 : ε), i ≤ N → I i a0 a1 a2 a4 → wl5 B (i + 1) a0 a1 a2 (nI i - 1) a4 := by
    intro i
    induction i with
    | zero =>
      intro a0 a1 a2 a4 hi h
      exact hx _ a0 a1 a2 a4 h
    | succ d ih =>
      intro a0 a1 a2 a4 hi h
      rw [nI_pred]
      refine hs _ d a0 a1 a2 a4 (by omega) h (fun b0 b1 b2 b4 h2 => ?_)
      rw [dn_m1]
      exact ih b0 b1 b2 b4 (by omega) h2
  exact ⟨_, key i a0 a1 a2 a4 hi h⟩
theorem wf5_4 {α β γ δ : Type} {B : (α → β → γ → δ → Int32 → Prop) → α → β → γ → δ → Int32 → Prop} (N : Nat) (I : Nat → α → β → γ → δ → Prop) (hx : ∀ (R : α → β → γ → δ → Int32 → Prop) (a0 : α) (a1 : β) (a2 : γ) (a3 : δ), I N a0 a1 a2 a3 → B R a0 a1 a2 a3 (nI N)) (hs : ∀ (R : α → β → γ → δ → Int32 → Prop) (i : Nat) (a0 : α) (a1 : β) (a2 : γ) (a3 : δ), i < N → I i a0 a1 a2 a3 → (∀ (b0 : α) (b1 : β) (b2 : γ) (b3 : δ), I (i + 1) b0 b1 b2 b3 → R b0 b1 b2 b3 (nI i + 1)) → B R a0 a1 a2 a3 (nI i)) (i : Nat) (a0 : α) (a1 : β) (a2 : γ) (a3 : δ) (hi : i ≤ N) (h : I i a0 a1 a2 a3) : ∃ n, wl5 B n a0 a1 a2 a3 (nI i) := by
  have key : ∀ (d i : Nat) (a0 : α) (a1 : β) (a2 : γ) (a3 : δ), i ≤ N → N - i = d → I i a0 a1 a2 a3 → wl5 B (d + 1) a0 a1 a2 a3 (nI i) := by
    intro d
    induction d with
    | zero =>
      intro i a0 a1 a2 a3 hi hd h
      obtain rfl : i = N := by omega
      exact hx _ a0 a1 a2 a3 h
    | succ d ih =>
      intro i a0 a1 a2 a3 hi hd h
      refine hs _ i a0 a1 a2 a3 (by omega) h (fun b0 b1 b2 b3 h2 => ?_)
      rw [nI_1]
      exact ih (i + 1) b0 b1 b2 b3 (by omega) (by omega) h2
  exact ⟨_, key _ i a0 a1 a2 a3 hi rfl h⟩
theorem wd5_4 {α β γ δ : Type} {B : (α → β → γ → δ → Int32 → Prop) → α → β → γ → δ → Int32 → Prop} (N : Nat) (I : Nat → α → β → γ → δ → Prop) (hx : ∀ (R : α → β → γ → δ → Int32 → Prop) (a0 : α) (a1 : β) (a2 : γ) (a3 : δ), I 0 a0 a1 a2 a3 → B R a0 a1 a2 a3 (-1)) (hs : ∀ (R : α → β → γ → δ → Int32 → Prop) (i : Nat) (a0 : α) (a1 : β) (a2 : γ) (a3 : δ), i < N → I (i + 1) a0 a1 a2 a3 → (∀ (b0 : α) (b1 : β) (b2 : γ) (b3 : δ), I i b0 b1 b2 b3 → R b0 b1 b2 b3 (nI i + (-1))) → B R a0 a1 a2 a3 (nI i)) (i : Nat) (a0 : α) (a1 : β) (a2 : γ) (a3 : δ) (hi : i ≤ N) (h : I i a0 a1 a2 a3) : ∃ n, wl5 B n a0 a1 a2 a3 (nI i - 1) := by
  have key : ∀ (i : Nat) (a0 : α) (a1 : β) (a2 : γ) (a3 : δ), i ≤ N → I i a0 a1 a2 a3 → wl5 B (i + 1) a0 a1 a2 a3 (nI i - 1) := by
    intro i
    induction i with
    | zero =>
      intro a0 a1 a2 a3 hi h
      exact hx _ a0 a1 a2 a3 h
    | succ d ih =>
      intro a0 a1 a2 a3 hi h
      rw [nI_pred]
      refine hs _ d a0 a1 a2 a3 (by omega) h (fun b0 b1 b2 b3 h2 => ?_)
      rw [dn_m1]
      exact ih b0 b1 b2 b3 (by omega) h2
  exact ⟨_, key i a0 a1 a2 a3 hi h⟩
