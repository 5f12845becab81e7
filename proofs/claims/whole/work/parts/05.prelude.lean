def wl1 {α : Type} (B : (α → Prop) → α → Prop) : Nat → α → Prop
  | 0 => fun _ => False
  | n + 1 => B (wl1 B n)
theorem wl1_i {α : Type} {B : (α → Prop) → α → Prop} (I : α → Prop) (μ0 : α → Nat) (hs : ∀ (R : α → Prop) (a0 : α), I a0 → (∀ (b0 : α), I b0 → μ0 b0 < μ0 a0 → R b0) → B R a0) (a0 : α) (h : I a0) : ∃ n, wl1 B n a0 := by
  have key : ∀ (n : Nat) (a0 : α), I a0 → μ0 a0 < n → wl1 B n a0 := by
    intro n
    induction n with
    | zero => intro a0 _ h; exact absurd h (Nat.not_lt_zero _)
    | succ n ih => intro a0 hI hm; exact hs _ a0 hI (fun b0 h1 h2 => ih b0 h1 (Nat.lt_of_lt_of_le h2 (Nat.le_of_lt_succ hm)))
  exact ⟨_, key _ a0 h (Nat.lt_succ_self _)⟩
def wl2 {α β : Type} (B : (α → β → Prop) → α → β → Prop) : Nat → α → β → Prop
  | 0 => fun _ _ => False
  | n + 1 => B (wl2 B n)
theorem wl2_i {α β : Type} {B : (α → β → Prop) → α → β → Prop} (I : α → β → Prop) (μ0 : α → β → Nat) (hs : ∀ (R : α → β → Prop) (a0 : α) (a1 : β), I a0 a1 → (∀ (b0 : α) (b1 : β), I b0 b1 → μ0 b0 b1 < μ0 a0 a1 → R b0 b1) → B R a0 a1) (a0 : α) (a1 : β) (h : I a0 a1) : ∃ n, wl2 B n a0 a1 := by
  have key : ∀ (n : Nat) (a0 : α) (a1 : β), I a0 a1 → μ0 a0 a1 < n → wl2 B n a0 a1 := by
    intro n
    induction n with
    | zero => intro a0 a1 _ h; exact absurd h (Nat.not_lt_zero _)
    | succ n ih => intro a0 a1 hI hm; exact hs _ a0 a1 hI (fun b0 b1 h1 h2 => ih b0 b1 h1 (Nat.lt_of_lt_of_le h2 (Nat.le_of_lt_succ hm)))
  exact ⟨_, key _ a0 a1 h (Nat.lt_succ_self _)⟩
def wl3 {α β γ : Type} (B : (α → β → γ → Prop) → α → β → γ → Prop) : Nat → α → β → γ → Prop
  | 0 => fun _ _ _ => False
  | n + 1 => B (wl3 B n)
theorem wl3_i {α β γ : Type} {B : (α → β → γ → Prop) → α → β → γ → Prop} (I : α → β → γ → Prop) (μ0 : α → β → γ → Nat) (hs : ∀ (R : α → β → γ → Prop) (a0 : α) (a1 : β) (a2 : γ), I a0 a1 a2 → (∀ (b0 : α) (b1 : β) (b2 : γ), I b0 b1 b2 → μ0 b0 b1 b2 < μ0 a0 a1 a2 → R b0 b1 b2) → B R a0 a1 a2) (a0 : α) (a1 : β) (a2 : γ) (h : I a0 a1 a2) : ∃ n, wl3 B n a0 a1 a2 := by
  have key : ∀ (n : Nat) (a0 : α) (a1 : β) (a2 : γ), I a0 a1 a2 → μ0 a0 a1 a2 < n → wl3 B n a0 a1 a2 := by
    intro n
    induction n with
    | zero => intro a0 a1 a2 _ h; exact absurd h (Nat.not_lt_zero _)
    | succ n ih => intro a0 a1 a2 hI hm; exact hs _ a0 a1 a2 hI (fun b0 b1 b2 h1 h2 => ih b0 b1 b2 h1 (Nat.lt_of_lt_of_le h2 (Nat.le_of_lt_succ hm)))
  exact ⟨_, key _ a0 a1 a2 h (Nat.lt_succ_self _)⟩
def wl4 {α β γ δ : Type} (B : (α → β → γ → δ → Prop) → α → β → γ → δ → Prop) : Nat → α → β → γ → δ → Prop
  | 0 => fun _ _ _ _ => False
  | n + 1 => B (wl4 B n)
theorem wl4_i {α β γ δ : Type} {B : (α → β → γ → δ → Prop) → α → β → γ → δ → Prop} (I : α → β → γ → δ → Prop) (μ0 : α → β → γ → δ → Nat) (hs : ∀ (R : α → β → γ → δ → Prop) (a0 : α) (a1 : β) (a2 : γ) (a3 : δ), I a0 a1 a2 a3 → (∀ (b0 : α) (b1 : β) (b2 : γ) (b3 : δ), I b0 b1 b2 b3 → μ0 b0 b1 b2 b3 < μ0 a0 a1 a2 a3 → R b0 b1 b2 b3) → B R a0 a1 a2 a3) (a0 : α) (a1 : β) (a2 : γ) (a3 : δ) (h : I a0 a1 a2 a3) : ∃ n, wl4 B n a0 a1 a2 a3 := by
  have key : ∀ (n : Nat) (a0 : α) (a1 : β) (a2 : γ) (a3 : δ), I a0 a1 a2 a3 → μ0 a0 a1 a2 a3 < n → wl4 B n a0 a1 a2 a3 := by
    intro n
    induction n with
    | zero => intro a0 a1 a2 a3 _ h; exact absurd h (Nat.not_lt_zero _)
    | succ n ih => intro a0 a1 a2 a3 hI hm; exact hs _ a0 a1 a2 a3 hI (fun b0 b1 b2 b3 h1 h2 => ih b0 b1 b2 b3 h1 (Nat.lt_of_lt_of_le h2 (Nat.le_of_lt_succ hm)))
  exact ⟨_, key _ a0 a1 a2 a3 h (Nat.lt_succ_self _)⟩
def wl5 {α β γ δ ε : Type} (B : (α → β → γ → δ → ε → Prop) → α → β → γ → δ → ε → Prop) : Nat → α → β → γ → δ → ε → Prop
  | 0 => fun _ _ _ _ _ => False
  | n + 1 => B (wl5 B n)
theorem wl5_i {α β γ δ ε : Type} {B : (α → β → γ → δ → ε → Prop) → α → β → γ → δ → ε → Prop} (I : α → β → γ → δ → ε → Prop) (μ0 : α → β → γ → δ → ε → Nat) (hs : ∀ (R : α → β → γ → δ → ε → Prop) (a0 : α) (a1 : β) (a2 : γ) (a3 : δ) (a4 : ε), I a0 a1 a2 a3 a4 → (∀ (b0 : α) (b1 : β) (b2 : γ) (b3 : δ) (b4 : ε), I b0 b1 b2 b3 b4 → μ0 b0 b1 b2 b3 b4 < μ0 a0 a1 a2 a3 a4 → R b0 b1 b2 b3 b4) → B R a0 a1 a2 a3 a4) (a0 : α) (a1 : β) (a2 : γ) (a3 : δ) (a4 : ε) (h : I a0 a1 a2 a3 a4) : ∃ n, wl5 B n a0 a1 a2 a3 a4 := by
  have key : ∀ (n : Nat) (a0 : α) (a1 : β) (a2 : γ) (a3 : δ) (a4 : ε), I a0 a1 a2 a3 a4 → μ0 a0 a1 a2 a3 a4 < n → wl5 B n a0 a1 a2 a3 a4 := by
    intro n
    induction n with
    | zero => intro a0 a1 a2 a3 a4 _ h; exact absurd h (Nat.not_lt_zero _)
    | succ n ih => intro a0 a1 a2 a3 a4 hI hm; exact hs _ a0 a1 a2 a3 a4 hI (fun b0 b1 b2 b3 b4 h1 h2 => ih b0 b1 b2 b3 b4 h1 (Nat.lt_of_lt_of_le h2 (Nat.le_of_lt_succ hm)))
  exact ⟨_, key _ a0 a1 a2 a3 a4 h (Nat.lt_succ_self _)⟩
def wl6 {α β γ δ ε ζ : Type} (B : (α → β → γ → δ → ε → ζ → Prop) → α → β → γ → δ → ε → ζ → Prop) : Nat → α → β → γ → δ → ε → ζ → Prop
  | 0 => fun _ _ _ _ _ _ => False
  | n + 1 => B (wl6 B n)
theorem wl6_i {α β γ δ ε ζ : Type} {B : (α → β → γ → δ → ε → ζ → Prop) → α → β → γ → δ → ε → ζ → Prop} (I : α → β → γ → δ → ε → ζ → Prop) (μ0 : α → β → γ → δ → ε → ζ → Nat) (hs : ∀ (R : α → β → γ → δ → ε → ζ → Prop) (a0 : α) (a1 : β) (a2 : γ) (a3 : δ) (a4 : ε) (a5 : ζ), I a0 a1 a2 a3 a4 a5 → (∀ (b0 : α) (b1 : β) (b2 : γ) (b3 : δ) (b4 : ε) (b5 : ζ), I b0 b1 b2 b3 b4 b5 → μ0 b0 b1 b2 b3 b4 b5 < μ0 a0 a1 a2 a3 a4 a5 → R b0 b1 b2 b3 b4 b5) → B R a0 a1 a2 a3 a4 a5) (a0 : α) (a1 : β) (a2 : γ) (a3 : δ) (a4 : ε) (a5 : ζ) (h : I a0 a1 a2 a3 a4 a5) : ∃ n, wl6 B n a0 a1 a2 a3 a4 a5 := by
  have key : ∀ (n : Nat) (a0 : α) (a1 : β) (a2 : γ) (a3 : δ) (a4 : ε) (a5 : ζ), I a0 a1 a2 a3 a4 a5 → μ0 a0 a1 a2 a3 a4 a5 < n → wl6 B n a0 a1 a2 a3 a4 a5 := by
    intro n
    induction n with
    | zero => intro a0 a1 a2 a3 a4 a5 _ h; exact absurd h (Nat.not_lt_zero _)
    | succ n ih => intro a0 a1 a2 a3 a4 a5 hI hm; exact hs _ a0 a1 a2 a3 a4 a5 hI (fun b0 b1 b2 b3 b4 b5 h1 h2 => ih b0 b1 b2 b3 b4 b5 h1 (Nat.lt_of_lt_of_le h2 (Nat.le_of_lt_succ hm)))
  exact ⟨_, key _ a0 a1 a2 a3 a4 a5 h (Nat.lt_succ_self _)⟩
def wl7 {α β γ δ ε ζ η : Type} (B : (α → β → γ → δ → ε → ζ → η → Prop) → α → β → γ → δ → ε → ζ → η → Prop) : Nat → α → β → γ → δ → ε → ζ → η → Prop
  | 0 => fun _ _ _ _ _ _ _ => False
  | n + 1 => B (wl7 B n)
theorem wl7_i {α β γ δ ε ζ η : Type} {B : (α → β → γ → δ → ε → ζ → η → Prop) → α → β → γ → δ → ε → ζ → η → Prop} (I : α → β → γ → δ → ε → ζ → η → Prop) (μ0 : α → β → γ → δ → ε → ζ → η → Nat) (hs : ∀ (R : α → β → γ → δ → ε → ζ → η → Prop) (a0 : α) (a1 : β) (a2 : γ) (a3 : δ) (a4 : ε) (a5 : ζ) (a6 : η), I a0 a1 a2 a3 a4 a5 a6 → (∀ (b0 : α) (b1 : β) (b2 : γ) (b3 : δ) (b4 : ε) (b5 : ζ) (b6 : η), I b0 b1 b2 b3 b4 b5 b6 → μ0 b0 b1 b2 b3 b4 b5 b6 < μ0 a0 a1 a2 a3 a4 a5 a6 → R b0 b1 b2 b3 b4 b5 b6) → B R a0 a1 a2 a3 a4 a5 a6) (a0 : α) (a1 : β) (a2 : γ) (a3 : δ) (a4 : ε) (a5 : ζ) (a6 : η) (h : I a0 a1 a2 a3 a4 a5 a6) : ∃ n, wl7 B n a0 a1 a2 a3 a4 a5 a6 := by
  have key : ∀ (n : Nat) (a0 : α) (a1 : β) (a2 : γ) (a3 : δ) (a4 : ε) (a5 : ζ) (a6 : η), I a0 a1 a2 a3 a4 a5 a6 → μ0 a0 a1 a2 a3 a4 a5 a6 < n → wl7 B n a0 a1 a2 a3 a4 a5 a6 := by
    intro n
    induction n with
    | zero => intro a0 a1 a2 a3 a4 a5 a6 _ h; exact absurd h (Nat.not_lt_zero _)
    | succ n ih => intro a0 a1 a2 a3 a4 a5 a6 hI hm; exact hs _ a0 a1 a2 a3 a4 a5 a6 hI (fun b0 b1 b2 b3 b4 b5 b6 h1 h2 => ih b0 b1 b2 b3 b4 b5 b6 h1 (Nat.lt_of_lt_of_le h2 (Nat.le_of_lt_succ hm)))
  exact ⟨_, key _ a0 a1 a2 a3 a4 a5 a6 h (Nat.lt_succ_self _)⟩
def wl8 {α β γ δ ε ζ η ι : Type} (B : (α → β → γ → δ → ε → ζ → η → ι → Prop) → α → β → γ → δ → ε → ζ → η → ι → Prop) : Nat → α → β → γ → δ → ε → ζ → η → ι → Prop
  | 0 => fun _ _ _ _ _ _ _ _ => False
  | n + 1 => B (wl8 B n)
theorem wl8_i {α β γ δ ε ζ η ι : Type} {B : (α → β → γ → δ → ε → ζ → η → ι → Prop) → α → β → γ → δ → ε → ζ → η → ι → Prop} (I : α → β → γ → δ → ε → ζ → η → ι → Prop) (μ0 : α → β → γ → δ → ε → ζ → η → ι → Nat) (hs : ∀ (R : α → β → γ → δ → ε → ζ → η → ι → Prop) (a0 : α) (a1 : β) (a2 : γ) (a3 : δ) (a4 : ε) (a5 : ζ) (a6 : η) (a7 : ι), I a0 a1 a2 a3 a4 a5 a6 a7 → (∀ (b0 : α) (b1 : β) (b2 : γ) (b3 : δ) (b4 : ε) (b5 : ζ) (b6 : η) (b7 : ι), I b0 b1 b2 b3 b4 b5 b6 b7 → μ0 b0 b1 b2 b3 b4 b5 b6 b7 < μ0 a0 a1 a2 a3 a4 a5 a6 a7 → R b0 b1 b2 b3 b4 b5 b6 b7) → B R a0 a1 a2 a3 a4 a5 a6 a7) (a0 : α) (a1 : β) (a2 : γ) (a3 : δ) (a4 : ε) (a5 : ζ) (a6 : η) (a7 : ι) (h : I a0 a1 a2 a3 a4 a5 a6 a7) : ∃ n, wl8 B n a0 a1 a2 a3 a4 a5 a6 a7 := by
  have key : ∀ (n : Nat) (a0 : α) (a1 : β) (a2 : γ) (a3 : δ) (a4 : ε) (a5 : ζ) (a6 : η) (a7 : ι), I a0 a1 a2 a3 a4 a5 a6 a7 → μ0 a0 a1 a2 a3 a4 a5 a6 a7 < n → wl8 B n a0 a1 a2 a3 a4 a5 a6 a7 := by
    intro n
    induction n with
    | zero => intro a0 a1 a2 a3 a4 a5 a6 a7 _ h; exact absurd h (Nat.not_lt_zero _)
    | succ n ih => intro a0 a1 a2 a3 a4 a5 a6 a7 hI hm; exact hs _ a0 a1 a2 a3 a4 a5 a6 a7 hI (fun b0 b1 b2 b3 b4 b5 b6 b7 h1 h2 => ih b0 b1 b2 b3 b4 b5 b6 b7 h1 (Nat.lt_of_lt_of_le h2 (Nat.le_of_lt_succ hm)))
  exact ⟨_, key _ a0 a1 a2 a3 a4 a5 a6 a7 h (Nat.lt_succ_self _)⟩
def jrem (x y : Int32) : Int32 := x - x / y * y
def jneg (x : Int32) : Int32 := 0 - x
def jlneg (x : Int64) : Int64 := 0 - x
def jmin (x y : Int32) : Int32 := if y < x then y else x
def jmax (x y : Int32) : Int32 := if x < y then y else x
def jabs (x : Int32) : Int32 := if 0 ≤ x then x else 0 - x
section MYR
variable {p : Program} {l : Launch} {e : Env} {R : Room} {s : State} {m : MethodId} {args : Array Value} {below : List Frame} {meth : Method} {c : Code} {H : Heap} {locs : List Loc} {cells slots : Nat} {Q : State → Prop} {cc : ByteArray} {pc : Nat} {ls : Array Slot} {rest : List Value}
theorem my_irem (hexec : p.tables.exec = Jvm.exec) (hb : c.code = cc) {x y : Int32} (hdg : decode cc pc = .ok (.irem, 1)) (hne : ¬ y = 0)
    (k : W p l e R s m args below meth c H locs cells slots Q (F0 m (pc + 1) ls (.int (jrem x y) :: rest))) : W p l e R s m args below meth c H locs cells slots Q (F0 m pc ls (.int y :: .int x :: rest)) := lv_irem hexec hb hdg hne k
theorem my_ineg (hexec : p.tables.exec = Jvm.exec) (hb : c.code = cc) {x : Int32} (hdg : decode cc pc = .ok (.ineg, 1))
    (k : W p l e R s m args below meth c H locs cells slots Q (F0 m (pc + 1) ls (.int (jneg x) :: rest))) : W p l e R s m args below meth c H locs cells slots Q (F0 m pc ls (.int x :: rest)) := lv_ineg hexec hb hdg k
theorem my_lneg (hexec : p.tables.exec = Jvm.exec) (hb : c.code = cc) {x : Int64} (hdg : decode cc pc = .ok (.lneg, 1))
    (k : W p l e R s m args below meth c H locs cells slots Q (F0 m (pc + 1) ls (.long (jlneg x) :: rest))) : W p l e R s m args below meth c H locs cells slots Q (F0 m pc ls (.long x :: rest)) := lv_lneg hexec hb hdg k
theorem my_mmin (hexec : p.tables.exec = Jvm.exec) (hb : c.code = cc) (hml : c.maxLocals = ls.size) {own : String} {index : Nat} (hown : s.vm.findClass own = some m.cls) (hlink : (Cond.methodLink own index Lib.Math.min.name).before args s = true) (hstat : (Cond.static Lib.Math.min.name).before args s = true) (hini : (Cond.initialized "java/lang/Math").before args s = true) (hcode : (Cond.code Lib.Math.min.name Lib.Math.min.code 2 (some .int)).before args s = true)
    (hframes : 1 ≤ R.frames) (hlocals : (rest.map fun v => v.category).sum + 13 ≤ R.locals) (hc : cells ≤ R.cells) (hs : slots ≤ R.slots) {x y : Int32} (hdg : decode cc pc = .ok (.invokestatic index, 3))
    (kk : W p l e R s m args below meth c H locs cells slots Q (F0 m (pc + 3) ls (.int (jmin x y) :: rest))) : W p l e R s m args below meth c H locs cells slots Q (F0 m pc ls (.int y :: .int x :: rest)) := va_mmin hexec hb hml hown hlink hstat hini hcode hframes hlocals hc hs hdg kk
theorem my_mmax (hexec : p.tables.exec = Jvm.exec) (hb : c.code = cc) (hml : c.maxLocals = ls.size) {own : String} {index : Nat} (hown : s.vm.findClass own = some m.cls) (hlink : (Cond.methodLink own index Lib.Math.max.name).before args s = true) (hstat : (Cond.static Lib.Math.max.name).before args s = true) (hini : (Cond.initialized "java/lang/Math").before args s = true) (hcode : (Cond.code Lib.Math.max.name Lib.Math.max.code 2 (some .int)).before args s = true)
    (hframes : 1 ≤ R.frames) (hlocals : (rest.map fun v => v.category).sum + 13 ≤ R.locals) (hc : cells ≤ R.cells) (hs : slots ≤ R.slots) {x y : Int32} (hdg : decode cc pc = .ok (.invokestatic index, 3))
    (kk : W p l e R s m args below meth c H locs cells slots Q (F0 m (pc + 3) ls (.int (jmax x y) :: rest))) : W p l e R s m args below meth c H locs cells slots Q (F0 m pc ls (.int y :: .int x :: rest)) := va_mmax hexec hb hml hown hlink hstat hini hcode hframes hlocals hc hs hdg kk
theorem my_mabs (hexec : p.tables.exec = Jvm.exec) (hb : c.code = cc) (hml : c.maxLocals = ls.size) {own : String} {index : Nat} (hown : s.vm.findClass own = some m.cls) (hlink : (Cond.methodLink own index Lib.Math.abs.name).before args s = true) (hstat : (Cond.static Lib.Math.abs.name).before args s = true) (hini : (Cond.initialized "java/lang/Math").before args s = true) (hcode : (Cond.code Lib.Math.abs.name Lib.Math.abs.code 1 (some .int)).before args s = true)
    (hframes : 1 ≤ R.frames) (hlocals : (rest.map fun v => v.category).sum + 13 ≤ R.locals) (hc : cells ≤ R.cells) (hs : slots ≤ R.slots) {x : Int32} (hdg : decode cc pc = .ok (.invokestatic index, 3))
    (kk : W p l e R s m args below meth c H locs cells slots Q (F0 m (pc + 3) ls (.int (jabs x) :: rest))) : W p l e R s m args below meth c H locs cells slots Q (F0 m pc ls (.int x :: rest)) := va_mabs hexec hb hml hown hlink hstat hini hcode hframes hlocals hc hs hdg kk
end MYR
def s_LAYOUT (k : Nat) : Int32 := [(10 : Int32), (-1 : Int32), (-1 : Int32), (-1 : Int32), (-1 : Int32), (11 : Int32), (-1 : Int32), (-1 : Int32), (-1 : Int32), (-1 : Int32), (-1 : Int32), (-1 : Int32), (11 : Int32), (-1 : Int32), (-1 : Int32), (-1 : Int32), (-1 : Int32), (10 : Int32)].getD k 0
def s_WEIGHTS (k : Nat) : Int32 := [(0 : Int32), (0 : Int32), (0 : Int32), (0 : Int32), (0 : Int32), (0 : Int32), (7 : Int32), (3 : Int32), (1 : Int32), (7 : Int32), (3 : Int32), (1 : Int32), (0 : Int32), (0 : Int32), (0 : Int32), (0 : Int32), (0 : Int32), (0 : Int32)].getD k 0
def s_FIELD_STARTS (k : Nat) : Int32 := [(1 : Int32), (6 : Int32), (13 : Int32)].getD k 0
def s_FIELD_LENGTHS (k : Nat) : Int32 := [(4 : Int32), (6 : Int32), (4 : Int32)].getD k 0
def ev_S (t : Nat → Nat) (A : Nat → Prop) (U : State) : Prop := (va_Nw (.fieldLinkNest RX3 49 "ChequeDesk" "LAYOUT" "[I" "ChequeDesk") U ∧ va_Z "ChequeDesk" "LAYOUT" "[I" (.ref (t 0)) A U U.heap ∧ va_T .int (t 0) 18 (fun j => .int (s_LAYOUT j)) A U U.heap) ∧ (va_Nw (.fieldLinkNest RX3 46 "ChequeDesk" "WEIGHTS" "[I" "ChequeDesk") U ∧ va_Z "ChequeDesk" "WEIGHTS" "[I" (.ref (t 1)) A U U.heap ∧ va_T .int (t 1) 18 (fun j => .int (s_WEIGHTS j)) A U U.heap) ∧ (va_Nw (.fieldLinkNest RX3 58 "ChequeDesk" "FIELD_STARTS" "[I" "ChequeDesk") U ∧ va_Z "ChequeDesk" "FIELD_STARTS" "[I" (.ref (t 2)) A U U.heap ∧ va_T .int (t 2) 3 (fun j => .int (s_FIELD_STARTS j)) A U U.heap) ∧ (va_Nw (.fieldLinkNest RX3 61 "ChequeDesk" "FIELD_LENGTHS" "[I" "ChequeDesk") U ∧ va_Z "ChequeDesk" "FIELD_LENGTHS" "[I" (.ref (t 3)) A U U.heap ∧ va_T .int (t 3) 3 (fun j => .int (s_FIELD_LENGTHS j)) A U U.heap)
theorem ev_k_LAYOUT {t : Nat → Nat} {A : Nat → Prop} {U : State} (h : ev_S t A U) : va_Nw (.fieldLinkNest RX3 49 "ChequeDesk" "LAYOUT" "[I" "ChequeDesk") U := h.1.1
theorem ev_z_LAYOUT {t : Nat → Nat} {A : Nat → Prop} {U : State} (h : ev_S t A U) : va_Z "ChequeDesk" "LAYOUT" "[I" (.ref (t 0)) A U U.heap := h.1.2.1
theorem ev_t_LAYOUT {t : Nat → Nat} {A : Nat → Prop} {U : State} (h : ev_S t A U) : va_T .int (t 0) 18 (fun j => .int (s_LAYOUT j)) A U U.heap := h.1.2.2
theorem ev_k_WEIGHTS {t : Nat → Nat} {A : Nat → Prop} {U : State} (h : ev_S t A U) : va_Nw (.fieldLinkNest RX3 46 "ChequeDesk" "WEIGHTS" "[I" "ChequeDesk") U := h.2.1.1
theorem ev_z_WEIGHTS {t : Nat → Nat} {A : Nat → Prop} {U : State} (h : ev_S t A U) : va_Z "ChequeDesk" "WEIGHTS" "[I" (.ref (t 1)) A U U.heap := h.2.1.2.1
theorem ev_t_WEIGHTS {t : Nat → Nat} {A : Nat → Prop} {U : State} (h : ev_S t A U) : va_T .int (t 1) 18 (fun j => .int (s_WEIGHTS j)) A U U.heap := h.2.1.2.2
theorem ev_k_FIELD_STARTS {t : Nat → Nat} {A : Nat → Prop} {U : State} (h : ev_S t A U) : va_Nw (.fieldLinkNest RX3 58 "ChequeDesk" "FIELD_STARTS" "[I" "ChequeDesk") U := h.2.2.1.1
theorem ev_z_FIELD_STARTS {t : Nat → Nat} {A : Nat → Prop} {U : State} (h : ev_S t A U) : va_Z "ChequeDesk" "FIELD_STARTS" "[I" (.ref (t 2)) A U U.heap := h.2.2.1.2.1
theorem ev_t_FIELD_STARTS {t : Nat → Nat} {A : Nat → Prop} {U : State} (h : ev_S t A U) : va_T .int (t 2) 3 (fun j => .int (s_FIELD_STARTS j)) A U U.heap := h.2.2.1.2.2
theorem ev_k_FIELD_LENGTHS {t : Nat → Nat} {A : Nat → Prop} {U : State} (h : ev_S t A U) : va_Nw (.fieldLinkNest RX3 61 "ChequeDesk" "FIELD_LENGTHS" "[I" "ChequeDesk") U := h.2.2.2.1
theorem ev_z_FIELD_LENGTHS {t : Nat → Nat} {A : Nat → Prop} {U : State} (h : ev_S t A U) : va_Z "ChequeDesk" "FIELD_LENGTHS" "[I" (.ref (t 3)) A U U.heap := h.2.2.2.2.1
theorem ev_t_FIELD_LENGTHS {t : Nat → Nat} {A : Nat → Prop} {U : State} (h : ev_S t A U) : va_T .int (t 3) 3 (fun j => .int (s_FIELD_LENGTHS j)) A U U.heap := h.2.2.2.2.2
theorem ev_in {t : Nat → Nat} {A A1 : Nat → Prop} {s U : State} {H : Heap} {locs : List Loc} (h : ev_S t A s) (hS : va_S A s.heap H locs) (hF : ∀ q, A1 q → A q) (hU : U.heap = H) (hW : s.WarmedH U.vm) : ev_S t A1 U := by
  have hk : ∀ a : Nat, a < s.heap.size → ¬ A a → U.heap[a]? = s.heap[a]? := fun a h1 h2 => by rw [hU]; exact hS.2.1 a h1 h2
  exact ⟨⟨(ev_k_LAYOUT h).warmF hW, (((ev_z_LAYOUT h).moved hW.alike).kept hk).narrow hF, (((ev_t_LAYOUT h).moved hW.alike).kept hk).narrow hF⟩, ⟨(ev_k_WEIGHTS h).warmF hW, (((ev_z_WEIGHTS h).moved hW.alike).kept hk).narrow hF, (((ev_t_WEIGHTS h).moved hW.alike).kept hk).narrow hF⟩, ⟨(ev_k_FIELD_STARTS h).warmF hW, (((ev_z_FIELD_STARTS h).moved hW.alike).kept hk).narrow hF, (((ev_t_FIELD_STARTS h).moved hW.alike).kept hk).narrow hF⟩, ⟨(ev_k_FIELD_LENGTHS h).warmF hW, (((ev_z_FIELD_LENGTHS h).moved hW.alike).kept hk).narrow hF, (((ev_t_FIELD_LENGTHS h).moved hW.alike).kept hk).narrow hF⟩⟩
theorem ev_calling {t : Nat → Nat} {A : Nat → Prop} {U : State} {g : JFrame} {mk : MethodId} {a : Array Value} (h : ev_S t A U) : ev_S t A (U.calling g mk a) :=
  ⟨⟨(ev_k_LAYOUT h).same rfl rfl, (ev_z_LAYOUT h).moved (U := U.calling g mk a) (Vm.Alike.refl U.vm), (ev_t_LAYOUT h).moved (U := U.calling g mk a) (Vm.Alike.refl U.vm)⟩, ⟨(ev_k_WEIGHTS h).same rfl rfl, (ev_z_WEIGHTS h).moved (U := U.calling g mk a) (Vm.Alike.refl U.vm), (ev_t_WEIGHTS h).moved (U := U.calling g mk a) (Vm.Alike.refl U.vm)⟩, ⟨(ev_k_FIELD_STARTS h).same rfl rfl, (ev_z_FIELD_STARTS h).moved (U := U.calling g mk a) (Vm.Alike.refl U.vm), (ev_t_FIELD_STARTS h).moved (U := U.calling g mk a) (Vm.Alike.refl U.vm)⟩, ⟨(ev_k_FIELD_LENGTHS h).same rfl rfl, (ev_z_FIELD_LENGTHS h).moved (U := U.calling g mk a) (Vm.Alike.refl U.vm), (ev_t_FIELD_LENGTHS h).moved (U := U.calling g mk a) (Vm.Alike.refl U.vm)⟩⟩
