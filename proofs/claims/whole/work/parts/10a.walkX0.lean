abbrev rm_X0_areWidths : Room := { frames := 0, cells := 0, slots := 0, locals := 0 }
theorem q_X0_areWidths : yX0_areWidths.cls ≠ "java/lang/invoke/MethodHandle" ∧ yX0_areWidths.cls ≠ "java/lang/invoke/VarHandle" ∧ (parseMethodDescriptor yX0_areWidths.desc).map (fun d => d.parameters.length) = some 1 := by decide +kernel
set_option maxHeartbeats 4000000 in
set_option maxRecDepth 100000 in
theorem c_X0_areWidths (l : Launch) (dC : Nat → ClassId) (dI : Nat → Nat → Nat) (cy : ClassId) (sz : Nat) (x0 : Int32) (Q : Int32 → Prop) (h : p_X0_areWidths x0 Q) : Met l yX0_areWidths wsX0_areWidths rm_X0_areWidths (va_Pc [.int x0] (fun U => U.heap.size = sz ∧ va_P (dC, dI) vwCl [] U.heap ∧ va_K (dC, dI) vwCl [(cy, .int)] U ∧ va_D (fun _ => True) [])) (va_Qi (fun (r : Int32) (u : Unit) => Q r) (fun (u : Unit) (t : State) => va_P (dC, dI) vwCl [] t.heap ∧ va_K (dC, dI) vwCl [(cy, .int)] t ∧ va_D (va_A [] sz) []) (va_A [] sz)) 0 0 (va_A [] sz) := by
  refine Met.ofW (cc := cX0_areWidths) (maxL := 4) (ret := (some .boolean)) (by decide) rfl ?_
  intro p e s m args below meth c s₁ B hml hv
  obtain ⟨hargs, hsz, hP, hK, hD0⟩ := hv
  have hx := B.exec
  have hb := B.bytes
  have hr := B.returns
  have hts := atoms_spec (ws := wsX0_areWidths) B.pre
  have hown : s.vm.findClass RX0 = some m.cls := findClass_of_methodNamed B.named
  have hlocks := B.notSynchronized
  subst hsz
  have hD := hD0.self (sz := s.heap.size)
  generalize hAe : va_A [] s.heap.size = A at hD ⊢
  have hA : ∀ q : Nat, s.heap.size ≤ q → A q := fun q h => by rw [← hAe]; exact Or.inr h
  have hS : va_S A s.heap s.heap [] := va_S.rf
  have k_22 := hts (.constant RX0 22 111111) (by decide +kernel)
  have k_23 := hts (.constant RX0 23 333333) (by decide +kernel)
  have hl := lv_entry ([.int x0]) (n := 4) (Nat.le_of_ble_eq_true rfl)
  rw [show entryFrame m args 4 = entryFrame m ([.int x0] : List Value).toArray 4 by rw [hargs], lg_entry_eq]
  generalize (lg_sl ([.int x0]) ++ List.replicate (4 - (lg_sl ([.int x0])).length) Slot.unset).toArray = ls at hl ⊢
  have hl : lv_has ls 4 [(0, .int x0)] := hl
  have hP : va_P (dC, dI) vwCl [] s.heap := hP
  change W p l e rm_X0_areWidths s m args below meth c s.heap [] 0 0 _ _
  generalize hQQ : MQ below _ _ _ _ _ _ = QQ
  have RET : ∀ (r : Int32) (H : Heap) (locs : List Loc) (ls : Array Slot) (pc : Nat), decode cX0_areWidths pc = .ok (.ireturn, 1) → narrow .boolean (.int r) = .int r → Q r → va_P (dC, dI) vwCl [] H → va_D A [] → va_S A s.heap H locs → W p l e rm_X0_areWidths s m args below meth c H locs 0 0 QQ (F0 m pc ls [.int r]) := by
    intro r  H locs ls pc hdg hz hq hP hD hS
    rw [← hQQ]
    exact W.zret (v := r) hx hb hr hz (fun t ht hW => ⟨⟨r, (), rfl, hq, by rw [ht]; exact hP, va_K.moved hW.alike hK, hD⟩, hS.F ht⟩) hS.2.2 hdg
  clear hQQ
  unfold p_X0_areWidths at h
  have L18 : ∀ (K18 : Int32 → Int32 → Prop) (n : Nat) (x1 : Int32) (x2 : Int32) (H : Heap) (locs : List Loc) (ls : Array Slot), wl2 (p_X0_areWidths_B18 Q K18) n x1 x2 → va_P (dC, dI) vwCl [] H → va_D A [] → va_S A s.heap H locs → lv_has ls 4 [(1, .int x1), (2, .int x2)] → (∀ (x1 : Int32) (x2 : Int32) (H : Heap) (locs : List Loc) (ls : Array Slot), K18 x1 x2 → va_P (dC, dI) vwCl [] H → va_D A [] → va_S A s.heap H locs → lv_has ls 4 [] → W p l e rm_X0_areWidths s m args below meth c H locs 0 0 QQ (F0 m 52 ls [])) → W p l e rm_X0_areWidths s m args below meth c H locs 0 0 QQ (F0 m 18 ls []) := by
    intro K18 n
    induction n with
    | zero => intro x1 x2 H locs ls h; exact False.elim h
    | succ n ih =>
      intro x1 x2 H locs ls h hP hD hS hl hk
      have ih := fun x1 x2 H locs ls h hP hD hS hl => ih x1 x2 H locs ls h hP hD hS hl hk
      replace h : p_X0_areWidths_B18 Q K18 (wl2 (p_X0_areWidths_B18 Q K18) n) x1 x2 := h
      unfold p_X0_areWidths_B18 at h
      have J39 : ∀ (H : Heap) (locs : List Loc) (ls : Array Slot), p_X0_areWidths_J39 Q → va_P (dC, dI) vwCl [] H → va_D A [] → va_S A s.heap H locs → lv_has ls 4 [] → W p l e rm_X0_areWidths s m args below meth c H locs 0 0 QQ (F0 m 39 ls []) := by
        intro  H locs ls h hP hD hS hl
        unfold p_X0_areWidths_J39 at h
        refine lv_iconst (v := 0) hx hb dX0_areWidths_39 (by decide) ?_
        obtain ⟨zr40, h⟩ := h
        exact RET 0 H locs ls 40 dX0_areWidths_40 zr40 h hP hD hS
      refine lv_iload_n hx hb dX0_areWidths_18 rfl (lv_at hl 1 rfl) ?_
      refine lv_bipush (v := 6) hx hb dX0_areWidths_19 (by decide) ?_
      refine lv_icmp_ge (tgt := 52) hx hb dX0_areWidths_21 (by decide) (fun c21 => ?_) (fun c21 => ?_)
      · replace h := And.left h c21
        exact hk x1 x2 H locs ls h hP hD hS (lv_sub hl [] rfl)
      · replace h := And.right h c21
        refine lv_iload_n hx hb dX0_areWidths_24 rfl (lv_at hl 0 rfl) ?_
        refine lv_bipush (v := 10) hx hb dX0_areWidths_25 (by decide) ?_
        refine my_irem hx hb dX0_areWidths_27 (by decide) ?_
        refine lv_istore_n (lv' := [(3, .int (jrem x1 10)), (1, .int x1), (2, .int x2)]) hx hb dX0_areWidths_28 rfl hl (by decide) rfl (fun ls hl => ?_)
        refine lv_iload_n hx hb dX0_areWidths_29 rfl (lv_at hl 0 rfl) ?_
        refine lv_iconst (v := 1) hx hb dX0_areWidths_30 (by decide) ?_
        refine lv_icmp_lt (tgt := 39) hx hb dX0_areWidths_31 (by decide) (fun c31 => ?_) (fun c31 => ?_)
        · replace h := And.left h c31
          exact J39  H locs ls h hP hD hS (lv_sub hl [] rfl)
        · replace h := And.right h c31
          refine lv_iload_n hx hb dX0_areWidths_34 rfl (lv_at hl 0 rfl) ?_
          refine lv_iconst (v := 3) hx hb dX0_areWidths_35 (by decide) ?_
          refine lv_icmp_le (tgt := 41) hx hb dX0_areWidths_36 (by decide) (fun c36 => ?_) (fun c36 => ?_)
          · replace h := And.left h c36
            refine lv_iload_n hx hb dX0_areWidths_41 rfl (lv_at hl 1 rfl) ?_
            refine lv_bipush (v := 10) hx hb dX0_areWidths_42 (by decide) ?_
            refine lv_idiv hx hb dX0_areWidths_44 (by decide) ?_
            refine lv_istore_n (lv' := [(1, .int (x1 / 10)), (3, .int (jrem x1 10)), (2, .int x2)]) hx hb dX0_areWidths_45 rfl hl (by decide) rfl (fun ls hl => ?_)
            refine lv_iinc (v := x2 + 1) (lv' := [(2, .int (x2 + 1)), (1, .int (x1 / 10)), (3, .int (jrem x1 10))]) hx hb dX0_areWidths_46 hl (k := 2) rfl (by rfl) (by decide) rfl (fun ls hl => ?_)
            refine lv_goto (tgt := 18) hx hb dX0_areWidths_49 (by decide) ?_
            exact ih (x1 / 10) (x2 + 1) H locs ls h hP hD hS (lv_sub hl [1, 0] rfl)
          · replace h := And.right h c36
            exact J39  H locs ls h hP hD hS (lv_sub hl [] rfl)
  have J12 : ∀ (H : Heap) (locs : List Loc) (ls : Array Slot), p_X0_areWidths_J12 Q → va_P (dC, dI) vwCl [] H → va_D A [] → va_S A s.heap H locs → lv_has ls 4 [] → W p l e rm_X0_areWidths s m args below meth c H locs 0 0 QQ (F0 m 12 ls []) := by
    intro  H locs ls h hP hD hS hl
    unfold p_X0_areWidths_J12 at h
    refine lv_iconst (v := 0) hx hb dX0_areWidths_12 (by decide) ?_
    obtain ⟨zr13, h⟩ := h
    exact RET 0 H locs ls 13 dX0_areWidths_13 zr13 h hP hD hS
  generalize hlo : ([] : List Loc) = locs at hS ⊢
  obtain ⟨H, hH⟩ : ∃ z, z = s.heap := ⟨_, rfl⟩
  rw [show W p l e rm_X0_areWidths s m args below meth c s.heap = W p l e rm_X0_areWidths s m args below meth c H by rw [hH]]
  replace hP : va_P (dC, dI) vwCl [] H := by rw [hH]; exact hP
  replace hS : va_S A s.heap H locs := by rw [hH]; exact hS
  clear hH hlo
  refine lv_iload_n hx hb dX0_areWidths_0 rfl (lv_at hl 0 rfl) ?_
  refine lv_ldc (v := 111111) hx hb hown k_22 dX0_areWidths_1 ?_
  refine lv_icmp_lt (tgt := 12) hx hb dX0_areWidths_3 (by decide) (fun c3 => ?_) (fun c3 => ?_)
  · replace h := And.left h c3
    exact J12  H locs ls h hP hD hS (lv_sub hl [] rfl)
  · replace h := And.right h c3
    refine lv_iload_n hx hb dX0_areWidths_6 rfl (lv_at hl 0 rfl) ?_
    refine lv_ldc (v := 333333) hx hb hown k_23 dX0_areWidths_7 ?_
    refine lv_icmp_le (tgt := 14) hx hb dX0_areWidths_9 (by decide) (fun c9 => ?_) (fun c9 => ?_)
    · replace h := And.left h c9
      refine lv_iload_n hx hb dX0_areWidths_14 rfl (lv_at hl 0 rfl) ?_
      refine lv_istore_n (lv' := [(1, .int x0), (0, .int x0)]) hx hb dX0_areWidths_15 rfl hl (by decide) rfl (fun ls hl => ?_)
      refine lv_iconst (v := 0) hx hb dX0_areWidths_16 (by decide) ?_
      refine lv_istore_n (lv' := [(2, .int 0), (1, .int x0), (0, .int x0)]) hx hb dX0_areWidths_17 rfl hl (by decide) rfl (fun ls hl => ?_)
      obtain ⟨n18, h⟩ := h
      refine L18  _ n18 x0 0 H locs ls h hP hD hS (lv_sub hl [1, 0] rfl) (fun x1_52 x2_52 H locs ls h hP hD hS hl => ?_)
      refine lv_iconst (v := 1) hx hb dX0_areWidths_52 (by decide) ?_
      obtain ⟨zr53, h⟩ := h
      exact RET 1 H locs ls 53 dX0_areWidths_53 zr53 h hP hD hS
    · replace h := And.right h c9
      exact J12  H locs ls h hP hD hS (lv_sub hl [] rfl)
abbrev rm_X0_learn : Room := { frames := 0, cells := 0, slots := 0, locals := 0 }
theorem q_X0_learn : yX0_learn.cls = RX0 ∧ yX0_learn.cls ≠ "java/lang/invoke/MethodHandle" ∧ yX0_learn.cls ≠ "java/lang/invoke/VarHandle" ∧ (parseMethodDescriptor yX0_learn.desc).map (fun d => d.parameters.length) = some 2 := by decide +kernel
set_option maxHeartbeats 4000000 in
set_option maxRecDepth 100000 in
theorem c_X0_learn (l : Launch) (dC : Nat → ClassId) (dI : Nat → Nat → Nat) (cy : ClassId) (h_this : Nat) (h_numbers : Nat) (h_widths : Nat) (sz : Nat) (f_taught : Int32) (a_numbers : Nat → Int32) (a_widths : Nat → Int32) (x1 : Int32) (x2 : Int32) (Q : Int32 → Int32 → (Nat → Int32) → (Nat → Int32) → Prop) (h : p_X0_learn f_taught a_numbers a_widths x1 x2 Q) : Met l yX0_learn wsX0_learn rm_X0_learn (va_Pc [.ref h_this, .int x1, .int x2] (fun U => U.heap.size = sz ∧ va_P (dC, dI) vwCl [(h_this, .inr (0, [.ref h_numbers, .ref h_widths, .int f_taught])), (h_numbers, .inl (cy, 12, .inl a_numbers)), (h_widths, .inl (cy, 72, .inl a_widths))] U.heap ∧ va_K (dC, dI) vwCl [(cy, .int)] U ∧ va_D (fun _ => True) [(h_this, .inr (0, [.ref h_numbers, .ref h_widths, .int f_taught])), (h_numbers, .inl (cy, 12, .inl a_numbers)), (h_widths, .inl (cy, 72, .inl a_widths))])) (va_Qi (fun (r : Int32) (u : Int32 × (Nat → Int32) × (Nat → Int32)) => Q r u.1 u.2.1 u.2.2) (fun (u : Int32 × (Nat → Int32) × (Nat → Int32)) (t : State) => va_P (dC, dI) vwCl [(h_this, .inr (0, [.ref h_numbers, .ref h_widths, .int (u.1)])), (h_numbers, .inl (cy, 12, .inl (u.2.1))), (h_widths, .inl (cy, 72, .inl (u.2.2)))] t.heap ∧ va_K (dC, dI) vwCl [(cy, .int)] t ∧ va_D (va_A [(h_this, .inr (0, [.ref h_numbers, .ref h_widths, .int f_taught])), (h_numbers, .inl (cy, 12, .inl a_numbers)), (h_widths, .inl (cy, 72, .inl a_widths))] sz) [(h_this, .inr (0, [.ref h_numbers, .ref h_widths, .int (u.1)])), (h_numbers, .inl (cy, 12, .inl (u.2.1))), (h_widths, .inl (cy, 72, .inl (u.2.2)))]) (va_A [(h_this, .inr (0, [.ref h_numbers, .ref h_widths, .int f_taught])), (h_numbers, .inl (cy, 12, .inl a_numbers)), (h_widths, .inl (cy, 72, .inl a_widths))] sz)) 0 0 (va_A [(h_this, .inr (0, [.ref h_numbers, .ref h_widths, .int f_taught])), (h_numbers, .inl (cy, 12, .inl a_numbers)), (h_widths, .inl (cy, 72, .inl a_widths))] sz) := by
  refine Met.ofW (cc := cX0_learn) (maxL := 5) (ret := (some .boolean)) (by decide) rfl ?_
  intro p e s m args below meth c s₁ B hml hv
  obtain ⟨hargs, hsz, hP, hK, hD0⟩ := hv
  have hx := B.exec
  have hb := B.bytes
  have hr := B.returns
  have hts := atoms_spec (ws := wsX0_learn) B.pre
  have hown : s.vm.findClass RX0 = some m.cls := findClass_of_methodNamed B.named
  have hlocks := B.notSynchronized
  subst hsz
  have hD := hD0.self (sz := s.heap.size)
  generalize hAe : va_A [(h_this, .inr (0, [.ref h_numbers, .ref h_widths, .int f_taught])), (h_numbers, .inl (cy, 12, .inl a_numbers)), (h_widths, .inl (cy, 72, .inl a_widths))] s.heap.size = A at hD ⊢
  have hA : ∀ q : Nat, s.heap.size ≤ q → A q := fun q h => by rw [← hAe]; exact Or.inr h
  have hS : va_S A s.heap s.heap [] := va_S.rf
  have in_X0 : ∀ w ∈ u_ws RX0 TX0 3, w ∈ wsX0_learn := by decide +kernel
  have k_9 := hts (.fieldLink RX0 9 "ChequeDesk$Alphabet" "numbers" "[I") (by decide +kernel)
  have k_15 := hts (.fieldLink RX0 15 "ChequeDesk$Alphabet" "widths" "[I") (by decide +kernel)
  have k_18 := hts (.fieldLink RX0 18 "ChequeDesk$Alphabet" "taught" "I") (by decide +kernel)
  have hl := lv_entry ([.ref h_this, .int x1, .int x2]) (n := 5) (Nat.le_of_ble_eq_true rfl)
  rw [show entryFrame m args 5 = entryFrame m ([.ref h_this, .int x1, .int x2] : List Value).toArray 5 by rw [hargs], lg_entry_eq]
  generalize (lg_sl ([.ref h_this, .int x1, .int x2]) ++ List.replicate (5 - (lg_sl ([.ref h_this, .int x1, .int x2])).length) Slot.unset).toArray = ls at hl ⊢
  have hl : lv_has ls 5 [(0, .ref h_this), (1, .int x1), (2, .int x2)] := hl
  have hP : va_P (dC, dI) vwCl [(h_this, .inr (0, [.ref h_numbers, .ref h_widths, .int f_taught])), (h_numbers, .inl (cy, 12, .inl a_numbers)), (h_widths, .inl (cy, 72, .inl a_widths))] s.heap := hP
  change W p l e rm_X0_learn s m args below meth c s.heap [] 0 0 _ _
  generalize hQQ : MQ below _ _ _ _ _ _ = QQ
  have RET : ∀ (r : Int32) (f_taught : Int32) (a_numbers : Nat → Int32) (a_widths : Nat → Int32) (H : Heap) (locs : List Loc) (ls : Array Slot) (pc : Nat), decode cX0_learn pc = .ok (.ireturn, 1) → narrow .boolean (.int r) = .int r → Q r f_taught a_numbers a_widths → va_P (dC, dI) vwCl [(h_this, .inr (0, [.ref h_numbers, .ref h_widths, .int f_taught])), (h_numbers, .inl (cy, 12, .inl a_numbers)), (h_widths, .inl (cy, 72, .inl a_widths))] H → va_D A [(h_this, .inr (0, [.ref h_numbers, .ref h_widths, .int f_taught])), (h_numbers, .inl (cy, 12, .inl a_numbers)), (h_widths, .inl (cy, 72, .inl a_widths))] → va_S A s.heap H locs → W p l e rm_X0_learn s m args below meth c H locs 0 0 QQ (F0 m pc ls [.int r]) := by
    intro r f_taught a_numbers a_widths H locs ls pc hdg hz hq hP hD hS
    rw [← hQQ]
    exact W.zret (v := r) hx hb hr hz (fun t ht hW => ⟨⟨r, (f_taught, a_numbers, a_widths), rfl, hq, by rw [ht]; exact hP, va_K.moved hW.alike hK, hD⟩, hS.F ht⟩) hS.2.2 hdg
  clear hQQ
  unfold p_X0_learn at h
  have L43 : ∀ (x1 : Int32) (f_taught : Int32) (a_numbers : Nat → Int32) (K43 : Int32 → Int32 → (Nat → Int32) → Prop) (n : Nat) (x3 : Int32) (x4 : Int32) (a_widths : Nat → Int32) (H : Heap) (locs : List Loc) (ls : Array Slot), wl3 (p_X0_learn_B43 x1 K43) n x3 x4 a_widths → va_P (dC, dI) vwCl [(h_this, .inr (0, [.ref h_numbers, .ref h_widths, .int f_taught])), (h_numbers, .inl (cy, 12, .inl a_numbers)), (h_widths, .inl (cy, 72, .inl a_widths))] H → va_D A [(h_this, .inr (0, [.ref h_numbers, .ref h_widths, .int f_taught])), (h_numbers, .inl (cy, 12, .inl a_numbers)), (h_widths, .inl (cy, 72, .inl a_widths))] → va_S A s.heap H locs → lv_has ls 5 [(0, .ref h_this), (1, .int x1), (3, .int x3), (4, .int x4)] → (∀ (x3 : Int32) (x4 : Int32) (a_widths : Nat → Int32) (H : Heap) (locs : List Loc) (ls : Array Slot), K43 x3 x4 a_widths → va_P (dC, dI) vwCl [(h_this, .inr (0, [.ref h_numbers, .ref h_widths, .int f_taught])), (h_numbers, .inl (cy, 12, .inl a_numbers)), (h_widths, .inl (cy, 72, .inl a_widths))] H → va_D A [(h_this, .inr (0, [.ref h_numbers, .ref h_widths, .int f_taught])), (h_numbers, .inl (cy, 12, .inl a_numbers)), (h_widths, .inl (cy, 72, .inl a_widths))] → va_S A s.heap H locs → lv_has ls 5 [] → W p l e rm_X0_learn s m args below meth c H locs 0 0 QQ (F0 m 75 ls [])) → W p l e rm_X0_learn s m args below meth c H locs 0 0 QQ (F0 m 43 ls []) := by
    intro x1 f_taught a_numbers K43 n
    induction n with
    | zero => intro x3 x4 a_widths H locs ls h; exact False.elim h
    | succ n ih =>
      intro x3 x4 a_widths H locs ls h hP hD hS hl hk
      have ih := fun x3 x4 a_widths H locs ls h hP hD hS hl => ih x3 x4 a_widths H locs ls h hP hD hS hl hk
      replace h : p_X0_learn_B43 x1 K43 (wl3 (p_X0_learn_B43 x1 K43) n) x3 x4 a_widths := h
      unfold p_X0_learn_B43 at h
      refine lv_iload hx hb dX0_learn_43 (lv_at hl 3 rfl) ?_
      refine lv_if_lt (tgt := 75) hx hb dX0_learn_45 (by decide) (fun c45 => ?_) (fun c45 => ?_)
      · replace h := And.left h c45
        exact hk x3 x4 a_widths H locs ls h hP hD hS (lv_sub hl [] rfl)
      · replace h := And.right h c45
        refine lv_aload_n hx hb dX0_learn_48 rfl (lv_at hl 0 rfl) ?_
        refine va_get (D := (dC, dI)) (ci := 0) (v := .ref h_widths) (C := RX0) (T := TX0) (N := 3) hx hb hts in_X0 hown hK hP 0 rfl rfl 1 (by decide) k_15 (fun _ h9 => h9) rfl dX0_learn_49 ?_
        refine lv_iload_n hx hb dX0_learn_52 rfl (lv_at hl 1 rfl) ?_
        refine lv_bipush (v := 6) hx hb dX0_learn_53 (by decide) ?_
        refine lv_imul hx hb dX0_learn_55 ?_
        refine lv_iload hx hb dX0_learn_56 (lv_at hl 3 rfl) ?_
        refine lv_iadd hx hb dX0_learn_58 ?_
        refine lv_iload_n hx hb dX0_learn_59 rfl (lv_at hl 2 rfl) ?_
        refine lv_bipush (v := 10) hx hb dX0_learn_60 (by decide) ?_
        refine my_irem hx hb dX0_learn_62 (by decide) ?_
        obtain ⟨b63, h⟩ := h
        refine va_iast hx hb hK hP hD hS 2 0 rfl rfl b63 dX0_learn_63 (fun H locs hP hD hS => ?_)
        have hP : va_P (dC, dI) vwCl [(h_this, .inr (0, [.ref h_numbers, .ref h_widths, .int f_taught])), (h_numbers, .inl (cy, 12, .inl a_numbers)), (h_widths, .inl (cy, 72, .inl (upd a_widths (Int32.toNatClampNeg ((x1 * 6) + x4)) (jrem x3 10))))] H := hP
        have hD : va_D A [(h_this, .inr (0, [.ref h_numbers, .ref h_widths, .int f_taught])), (h_numbers, .inl (cy, 12, .inl a_numbers)), (h_widths, .inl (cy, 72, .inl (upd a_widths (Int32.toNatClampNeg ((x1 * 6) + x4)) (jrem x3 10))))] := hD
        refine lv_iload_n hx hb dX0_learn_64 rfl (lv_at hl 2 rfl) ?_
        refine lv_bipush (v := 10) hx hb dX0_learn_65 (by decide) ?_
        refine lv_idiv hx hb dX0_learn_67 (by decide) ?_
        refine lv_istore_n (lv' := [(3, .int (x3 / 10)), (0, .ref h_this), (1, .int x1), (4, .int x4)]) hx hb dX0_learn_68 rfl hl (by decide) rfl (fun ls hl => ?_)
        refine lv_iinc (v := x4 + (-1)) (lv' := [(4, .int (x4 + (-1))), (3, .int (x3 / 10)), (0, .ref h_this), (1, .int x1)]) hx hb dX0_learn_69 hl (k := 3) rfl (by rfl) (by decide) rfl (fun ls hl => ?_)
        refine lv_goto (tgt := 43) hx hb dX0_learn_72 (by decide) ?_
        exact ih (x3 / 10) (x4 + (-1)) (upd a_widths (Int32.toNatClampNeg ((x1 * 6) + x4)) (jrem x3 10)) H locs ls h hP hD hS (lv_sub hl [2, 3, 1, 0] rfl)
  have J31 : ∀ (x1 : Int32) (x2 : Int32) (f_taught : Int32) (a_numbers : Nat → Int32) (a_widths : Nat → Int32) (H : Heap) (locs : List Loc) (ls : Array Slot), p_X0_learn_J31 f_taught a_numbers a_widths Q x1 x2 → va_P (dC, dI) vwCl [(h_this, .inr (0, [.ref h_numbers, .ref h_widths, .int f_taught])), (h_numbers, .inl (cy, 12, .inl a_numbers)), (h_widths, .inl (cy, 72, .inl a_widths))] H → va_D A [(h_this, .inr (0, [.ref h_numbers, .ref h_widths, .int f_taught])), (h_numbers, .inl (cy, 12, .inl a_numbers)), (h_widths, .inl (cy, 72, .inl a_widths))] → va_S A s.heap H locs → lv_has ls 5 [(0, .ref h_this), (1, .int x1), (2, .int x2)] → W p l e rm_X0_learn s m args below meth c H locs 0 0 QQ (F0 m 31 ls []) := by
    intro x1 x2 f_taught a_numbers a_widths H locs ls h hP hD hS hl
    unfold p_X0_learn_J31 at h
    refine lv_aload_n hx hb dX0_learn_31 rfl (lv_at hl 0 rfl) ?_
    refine va_get (D := (dC, dI)) (ci := 0) (v := .ref h_numbers) (C := RX0) (T := TX0) (N := 3) hx hb hts in_X0 hown hK hP 0 rfl rfl 0 (by decide) k_9 (fun _ h9 => h9) rfl dX0_learn_32 ?_
    refine lv_iload_n hx hb dX0_learn_35 rfl (lv_at hl 1 rfl) ?_
    refine lv_iload_n hx hb dX0_learn_36 rfl (lv_at hl 2 rfl) ?_
    obtain ⟨b37, h⟩ := h
    refine va_iast hx hb hK hP hD hS 1 0 rfl rfl b37 dX0_learn_37 (fun H locs hP hD hS => ?_)
    have hP : va_P (dC, dI) vwCl [(h_this, .inr (0, [.ref h_numbers, .ref h_widths, .int f_taught])), (h_numbers, .inl (cy, 12, .inl (upd a_numbers (Int32.toNatClampNeg x1) x2))), (h_widths, .inl (cy, 72, .inl a_widths))] H := hP
    have hD : va_D A [(h_this, .inr (0, [.ref h_numbers, .ref h_widths, .int f_taught])), (h_numbers, .inl (cy, 12, .inl (upd a_numbers (Int32.toNatClampNeg x1) x2))), (h_widths, .inl (cy, 72, .inl a_widths))] := hD
    refine lv_iload_n hx hb dX0_learn_38 rfl (lv_at hl 2 rfl) ?_
    refine lv_istore_n (lv' := [(3, .int x2), (0, .ref h_this), (1, .int x1), (2, .int x2)]) hx hb dX0_learn_39 rfl hl (by decide) rfl (fun ls hl => ?_)
    refine lv_iconst (v := 5) hx hb dX0_learn_40 (by decide) ?_
    refine lv_istore (lv' := [(4, .int 5), (3, .int x2), (0, .ref h_this), (1, .int x1), (2, .int x2)]) hx hb dX0_learn_41 hl (by decide) rfl (fun ls hl => ?_)
    obtain ⟨n43, h⟩ := h
    refine L43 x1 f_taught (upd a_numbers (Int32.toNatClampNeg x1) x2) _ n43 x2 5 a_widths H locs ls h hP hD hS (lv_sub hl [2, 3, 1, 0] rfl) (fun x3_75 x4_75 a_widths_75 H locs ls h hP hD hS hl => ?_)
    refine lv_iconst (v := 1) hx hb dX0_learn_75 (by decide) ?_
    obtain ⟨zr76, h⟩ := h
    exact RET 1 f_taught (upd a_numbers (Int32.toNatClampNeg x1) x2) a_widths_75 H locs ls 76 dX0_learn_76 zr76 h hP hD hS
  generalize hlo : ([] : List Loc) = locs at hS ⊢
  obtain ⟨H, hH⟩ : ∃ z, z = s.heap := ⟨_, rfl⟩
  rw [show W p l e rm_X0_learn s m args below meth c s.heap = W p l e rm_X0_learn s m args below meth c H by rw [hH]]
  replace hP : va_P (dC, dI) vwCl [(h_this, .inr (0, [.ref h_numbers, .ref h_widths, .int f_taught])), (h_numbers, .inl (cy, 12, .inl a_numbers)), (h_widths, .inl (cy, 72, .inl a_widths))] H := by rw [hH]; exact hP
  replace hS : va_S A s.heap H locs := by rw [hH]; exact hS
  clear hH hlo
  refine lv_aload_n hx hb dX0_learn_0 rfl (lv_at hl 0 rfl) ?_
  refine va_get (D := (dC, dI)) (ci := 0) (v := .ref h_numbers) (C := RX0) (T := TX0) (N := 3) hx hb hts in_X0 hown hK hP 0 rfl rfl 0 (by decide) k_9 (fun _ h9 => h9) rfl dX0_learn_1 ?_
  refine lv_iload_n hx hb dX0_learn_4 rfl (lv_at hl 1 rfl) ?_
  obtain ⟨b5, h⟩ := h
  refine va_iald hx hb hK hP 1 0 rfl rfl b5 dX0_learn_5 ?_
  refine lv_iload_n hx hb dX0_learn_6 rfl (lv_at hl 2 rfl) ?_
  refine lv_icmp_ne (tgt := 12) hx hb dX0_learn_7 (by decide) (fun c7 => ?_) (fun c7 => ?_)
  · replace h := And.left h c7
    refine lv_aload_n hx hb dX0_learn_12 rfl (lv_at hl 0 rfl) ?_
    refine va_get (D := (dC, dI)) (ci := 0) (v := .ref h_numbers) (C := RX0) (T := TX0) (N := 3) hx hb hts in_X0 hown hK hP 0 rfl rfl 0 (by decide) k_9 (fun _ h9 => h9) rfl dX0_learn_13 ?_
    refine lv_iload_n hx hb dX0_learn_16 rfl (lv_at hl 1 rfl) ?_
    obtain ⟨b17, h⟩ := h
    refine va_iald hx hb hK hP 1 0 rfl rfl b17 dX0_learn_17 ?_
    refine lv_if_ne (tgt := 31) hx hb dX0_learn_18 (by decide) (fun c18 => ?_) (fun c18 => ?_)
    · replace h := And.left h c18
      exact J31 x1 x2 f_taught a_numbers a_widths H locs ls h hP hD hS (lv_sub hl [0, 1, 2] rfl)
    · replace h := And.right h c18
      refine lv_aload_n hx hb dX0_learn_21 rfl (lv_at hl 0 rfl) ?_
      refine lv_dup hx hb dX0_learn_22 rfl ?_
      refine va_get (D := (dC, dI)) (ci := 0) (v := .int f_taught) (C := RX0) (T := TX0) (N := 3) hx hb hts in_X0 hown hK hP 0 rfl rfl 2 (by decide) k_18 (fun _ h9 => h9) rfl dX0_learn_23 ?_
      refine lv_iconst (v := 1) hx hb dX0_learn_26 (by decide) ?_
      refine lv_iadd hx hb dX0_learn_27 ?_
      refine va_put (D := (dC, dI)) (ci := 0) (v := .int (f_taught + 1)) (ty := .int) (C := RX0) (T := TX0) (N := 3) hx hb hts in_X0 tyX0 tyX0_ok nmX0 hown hK hP hD hS 0 rfl rfl 2 (by decide) k_18 (fun _ h9 => h9) rfl (by decide +kernel) rfl rfl (Nat.le_of_ble_eq_true rfl) dX0_learn_28 (fun H locs hP hD hS => ?_)
      have hP : va_P (dC, dI) vwCl [(h_this, .inr (0, [.ref h_numbers, .ref h_widths, .int (f_taught + 1)])), (h_numbers, .inl (cy, 12, .inl a_numbers)), (h_widths, .inl (cy, 72, .inl a_widths))] H := hP
      have hD : va_D A [(h_this, .inr (0, [.ref h_numbers, .ref h_widths, .int (f_taught + 1)])), (h_numbers, .inl (cy, 12, .inl a_numbers)), (h_widths, .inl (cy, 72, .inl a_widths))] := hD
      exact J31 x1 x2 (f_taught + 1) a_numbers a_widths H locs ls h hP hD hS (lv_sub hl [0, 1, 2] rfl)
  · replace h := And.right h c7
    refine lv_iconst (v := 0) hx hb dX0_learn_10 (by decide) ?_
    obtain ⟨zr11, h⟩ := h
    exact RET 0 f_taught a_numbers a_widths H locs ls 11 dX0_learn_11 zr11 h hP hD hS
abbrev rm_X0_isComplete : Room := { frames := 0, cells := 0, slots := 0, locals := 0 }
theorem q_X0_isComplete : yX0_isComplete.cls = RX0 ∧ yX0_isComplete.cls ≠ "java/lang/invoke/MethodHandle" ∧ yX0_isComplete.cls ≠ "java/lang/invoke/VarHandle" ∧ (parseMethodDescriptor yX0_isComplete.desc).map (fun d => d.parameters.length) = some 0 := by decide +kernel
set_option maxHeartbeats 4000000 in
set_option maxRecDepth 100000 in
theorem c_X0_isComplete (l : Launch) (dC : Nat → ClassId) (dI : Nat → Nat → Nat) (cy : ClassId) (h_this : Nat) (sz : Nat) (g_this_0 g_this_1 : Value) (f_taught : Int32) (Q : Int32 → Prop) (h : p_X0_isComplete f_taught Q) : Met l yX0_isComplete wsX0_isComplete rm_X0_isComplete (va_Pc [.ref h_this] (fun U => U.heap.size = sz ∧ va_P (dC, dI) vwCl [(h_this, .inr (0, [g_this_0, g_this_1, .int f_taught]))] U.heap ∧ va_K (dC, dI) vwCl [(cy, .int)] U ∧ va_D (fun _ => True) [(h_this, .inr (0, [g_this_0, g_this_1, .int f_taught]))])) (va_Qi (fun (r : Int32) (u : Unit) => Q r) (fun (u : Unit) (t : State) => va_P (dC, dI) vwCl [(h_this, .inr (0, [g_this_0, g_this_1, .int f_taught]))] t.heap ∧ va_K (dC, dI) vwCl [(cy, .int)] t ∧ va_D (va_A [(h_this, .inr (0, [g_this_0, g_this_1, .int f_taught]))] sz) [(h_this, .inr (0, [g_this_0, g_this_1, .int f_taught]))]) (va_A [(h_this, .inr (0, [g_this_0, g_this_1, .int f_taught]))] sz)) 0 0 (va_A [(h_this, .inr (0, [g_this_0, g_this_1, .int f_taught]))] sz) := by
  refine Met.ofW (cc := cX0_isComplete) (maxL := 1) (ret := (some .boolean)) (by decide) rfl ?_
  intro p e s m args below meth c s₁ B hml hv
  obtain ⟨hargs, hsz, hP, hK, hD0⟩ := hv
  have hx := B.exec
  have hb := B.bytes
  have hr := B.returns
  have hts := atoms_spec (ws := wsX0_isComplete) B.pre
  have hown : s.vm.findClass RX0 = some m.cls := findClass_of_methodNamed B.named
  have hlocks := B.notSynchronized
  subst hsz
  have hD := hD0.self (sz := s.heap.size)
  generalize hAe : va_A [(h_this, .inr (0, [g_this_0, g_this_1, .int f_taught]))] s.heap.size = A at hD ⊢
  have hA : ∀ q : Nat, s.heap.size ≤ q → A q := fun q h => by rw [← hAe]; exact Or.inr h
  have hS : va_S A s.heap s.heap [] := va_S.rf
  have in_X0 : ∀ w ∈ u_ws RX0 TX0 3, w ∈ wsX0_isComplete := by decide +kernel
  have k_18 := hts (.fieldLink RX0 18 "ChequeDesk$Alphabet" "taught" "I") (by decide +kernel)
  have hl := lv_entry ([.ref h_this]) (n := 1) (Nat.le_of_ble_eq_true rfl)
  rw [show entryFrame m args 1 = entryFrame m ([.ref h_this] : List Value).toArray 1 by rw [hargs], lg_entry_eq]
  generalize (lg_sl ([.ref h_this]) ++ List.replicate (1 - (lg_sl ([.ref h_this])).length) Slot.unset).toArray = ls at hl ⊢
  have hl : lv_has ls 1 [(0, .ref h_this)] := hl
  have hP : va_P (dC, dI) vwCl [(h_this, .inr (0, [g_this_0, g_this_1, .int f_taught]))] s.heap := hP
  change W p l e rm_X0_isComplete s m args below meth c s.heap [] 0 0 _ _
  generalize hQQ : MQ below _ _ _ _ _ _ = QQ
  have RET : ∀ (r : Int32) (H : Heap) (locs : List Loc) (ls : Array Slot) (pc : Nat), decode cX0_isComplete pc = .ok (.ireturn, 1) → narrow .boolean (.int r) = .int r → Q r → va_P (dC, dI) vwCl [(h_this, .inr (0, [g_this_0, g_this_1, .int f_taught]))] H → va_D A [(h_this, .inr (0, [g_this_0, g_this_1, .int f_taught]))] → va_S A s.heap H locs → W p l e rm_X0_isComplete s m args below meth c H locs 0 0 QQ (F0 m pc ls [.int r]) := by
    intro r  H locs ls pc hdg hz hq hP hD hS
    rw [← hQQ]
    exact W.zret (v := r) hx hb hr hz (fun t ht hW => ⟨⟨r, (), rfl, hq, by rw [ht]; exact hP, va_K.moved hW.alike hK, hD⟩, hS.F ht⟩) hS.2.2 hdg
  clear hQQ
  unfold p_X0_isComplete at h
  have J14 : ∀ (s0 : Int32) (H : Heap) (locs : List Loc) (ls : Array Slot), p_X0_isComplete_J14 Q s0 → va_P (dC, dI) vwCl [(h_this, .inr (0, [g_this_0, g_this_1, .int f_taught]))] H → va_D A [(h_this, .inr (0, [g_this_0, g_this_1, .int f_taught]))] → va_S A s.heap H locs → lv_has ls 1 [] → W p l e rm_X0_isComplete s m args below meth c H locs 0 0 QQ (F0 m 14 ls [.int s0]) := by
    intro s0 H locs ls h hP hD hS hl
    unfold p_X0_isComplete_J14 at h
    obtain ⟨zr14, h⟩ := h
    exact RET s0 H locs ls 14 dX0_isComplete_14 zr14 h hP hD hS
  generalize hlo : ([] : List Loc) = locs at hS ⊢
  obtain ⟨H, hH⟩ : ∃ z, z = s.heap := ⟨_, rfl⟩
  rw [show W p l e rm_X0_isComplete s m args below meth c s.heap = W p l e rm_X0_isComplete s m args below meth c H by rw [hH]]
  replace hP : va_P (dC, dI) vwCl [(h_this, .inr (0, [g_this_0, g_this_1, .int f_taught]))] H := by rw [hH]; exact hP
  replace hS : va_S A s.heap H locs := by rw [hH]; exact hS
  clear hH hlo
  refine lv_aload_n hx hb dX0_isComplete_0 rfl (lv_at hl 0 rfl) ?_
  refine va_get (D := (dC, dI)) (ci := 0) (v := .int f_taught) (C := RX0) (T := TX0) (N := 3) hx hb hts in_X0 hown hK hP 0 rfl rfl 2 (by decide) k_18 (fun _ h9 => h9) rfl dX0_isComplete_1 ?_
  refine lv_bipush (v := 12) hx hb dX0_isComplete_4 (by decide) ?_
  refine lv_icmp_ne (tgt := 13) hx hb dX0_isComplete_6 (by decide) (fun c6 => ?_) (fun c6 => ?_)
  · replace h := And.left h c6
    refine lv_iconst (v := 0) hx hb dX0_isComplete_13 (by decide) ?_
    exact J14 0 H locs ls h hP hD hS (lv_sub hl [] rfl)
  · replace h := And.right h c6
    refine lv_iconst (v := 1) hx hb dX0_isComplete_9 (by decide) ?_
    refine lv_goto (tgt := 14) hx hb dX0_isComplete_10 (by decide) ?_
    exact J14 1 H locs ls h hP hD hS (lv_sub hl [] rfl)
