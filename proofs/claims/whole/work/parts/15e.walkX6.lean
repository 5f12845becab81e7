abbrev rm_X6_digits : Room := { frames := 0, cells := 0, slots := 0, locals := 0 }
theorem q_X6_digits : yX6_digits.cls = RX6 ∧ yX6_digits.cls ≠ "java/lang/invoke/MethodHandle" ∧ yX6_digits.cls ≠ "java/lang/invoke/VarHandle" ∧ (parseMethodDescriptor yX6_digits.desc).map (fun d => d.parameters.length) = some 2 := by decide +kernel
set_option maxHeartbeats 4000000 in
set_option maxRecDepth 100000 in
theorem c_X6_digits (l : Launch) (dC : Nat → ClassId) (dI : Nat → Nat → Nat) (cy : ClassId) (h_this : Nat) (h_signs : Nat) (sz : Nat) (g_this_0 g_this_1 g_this_2 g_this_3 g_this_4 g_this_5 g_this_6 g_this_7 g_this_8 g_this_9 g_this_10 g_this_11 g_this_12 g_this_13 g_this_15 g_this_16 g_this_17 g_this_18 g_this_19 g_this_20 g_this_21 g_this_22 g_this_23 g_this_24 g_this_25 g_this_26 g_this_27 g_this_28 g_this_29 g_this_30 : Value) (a_signs : Nat → Int32) (x1 : Int32) (x2 : Int32) (Q : Int32 → Prop) (h : p_X6_digits a_signs x1 x2 Q) : Met l yX6_digits wsX6_digits rm_X6_digits (va_Pc [.ref h_this, .int x1, .int x2] (fun U => U.heap.size = sz ∧ va_P (dC, dI) vwCl [(h_this, .inr (6, [g_this_0, g_this_1, g_this_2, g_this_3, g_this_4, g_this_5, g_this_6, g_this_7, g_this_8, g_this_9, g_this_10, g_this_11, g_this_12, g_this_13, .ref h_signs, g_this_15, g_this_16, g_this_17, g_this_18, g_this_19, g_this_20, g_this_21, g_this_22, g_this_23, g_this_24, g_this_25, g_this_26, g_this_27, g_this_28, g_this_29, g_this_30])), (h_signs, .inl (cy, 20, .inl a_signs))] U.heap ∧ va_K (dC, dI) vwCl [(cy, .int)] U ∧ va_D (fun _ => True) [(h_this, .inr (6, [g_this_0, g_this_1, g_this_2, g_this_3, g_this_4, g_this_5, g_this_6, g_this_7, g_this_8, g_this_9, g_this_10, g_this_11, g_this_12, g_this_13, .ref h_signs, g_this_15, g_this_16, g_this_17, g_this_18, g_this_19, g_this_20, g_this_21, g_this_22, g_this_23, g_this_24, g_this_25, g_this_26, g_this_27, g_this_28, g_this_29, g_this_30])), (h_signs, .inl (cy, 20, .inl a_signs))])) (va_Qi (fun (r : Int32) (u : Unit) => Q r) (fun (u : Unit) (t : State) => va_P (dC, dI) vwCl [(h_this, .inr (6, [g_this_0, g_this_1, g_this_2, g_this_3, g_this_4, g_this_5, g_this_6, g_this_7, g_this_8, g_this_9, g_this_10, g_this_11, g_this_12, g_this_13, .ref h_signs, g_this_15, g_this_16, g_this_17, g_this_18, g_this_19, g_this_20, g_this_21, g_this_22, g_this_23, g_this_24, g_this_25, g_this_26, g_this_27, g_this_28, g_this_29, g_this_30])), (h_signs, .inl (cy, 20, .inl a_signs))] t.heap ∧ va_K (dC, dI) vwCl [(cy, .int)] t ∧ va_D (va_A [(h_this, .inr (6, [g_this_0, g_this_1, g_this_2, g_this_3, g_this_4, g_this_5, g_this_6, g_this_7, g_this_8, g_this_9, g_this_10, g_this_11, g_this_12, g_this_13, .ref h_signs, g_this_15, g_this_16, g_this_17, g_this_18, g_this_19, g_this_20, g_this_21, g_this_22, g_this_23, g_this_24, g_this_25, g_this_26, g_this_27, g_this_28, g_this_29, g_this_30])), (h_signs, .inl (cy, 20, .inl a_signs))] sz) [(h_this, .inr (6, [g_this_0, g_this_1, g_this_2, g_this_3, g_this_4, g_this_5, g_this_6, g_this_7, g_this_8, g_this_9, g_this_10, g_this_11, g_this_12, g_this_13, .ref h_signs, g_this_15, g_this_16, g_this_17, g_this_18, g_this_19, g_this_20, g_this_21, g_this_22, g_this_23, g_this_24, g_this_25, g_this_26, g_this_27, g_this_28, g_this_29, g_this_30])), (h_signs, .inl (cy, 20, .inl a_signs))]) (va_A [(h_this, .inr (6, [g_this_0, g_this_1, g_this_2, g_this_3, g_this_4, g_this_5, g_this_6, g_this_7, g_this_8, g_this_9, g_this_10, g_this_11, g_this_12, g_this_13, .ref h_signs, g_this_15, g_this_16, g_this_17, g_this_18, g_this_19, g_this_20, g_this_21, g_this_22, g_this_23, g_this_24, g_this_25, g_this_26, g_this_27, g_this_28, g_this_29, g_this_30])), (h_signs, .inl (cy, 20, .inl a_signs))] sz)) 0 0 (va_A [(h_this, .inr (6, [g_this_0, g_this_1, g_this_2, g_this_3, g_this_4, g_this_5, g_this_6, g_this_7, g_this_8, g_this_9, g_this_10, g_this_11, g_this_12, g_this_13, .ref h_signs, g_this_15, g_this_16, g_this_17, g_this_18, g_this_19, g_this_20, g_this_21, g_this_22, g_this_23, g_this_24, g_this_25, g_this_26, g_this_27, g_this_28, g_this_29, g_this_30])), (h_signs, .inl (cy, 20, .inl a_signs))] sz) := by
  refine Met.ofW (cc := cX6_digits) (maxL := 5) (ret := (some .int)) (by decide) rfl ?_
  intro p e s m args below meth c s₁ B hml hv
  obtain ⟨hargs, hsz, hP, hK, hD0⟩ := hv
  have hx := B.exec
  have hb := B.bytes
  have hr := B.returns
  have hts := atoms_spec (ws := wsX6_digits) B.pre
  have hown : s.vm.findClass RX6 = some m.cls := findClass_of_methodNamed B.named
  have hlocks := B.notSynchronized
  subst hsz
  have hD := hD0.self (sz := s.heap.size)
  generalize hAe : va_A [(h_this, .inr (6, [g_this_0, g_this_1, g_this_2, g_this_3, g_this_4, g_this_5, g_this_6, g_this_7, g_this_8, g_this_9, g_this_10, g_this_11, g_this_12, g_this_13, .ref h_signs, g_this_15, g_this_16, g_this_17, g_this_18, g_this_19, g_this_20, g_this_21, g_this_22, g_this_23, g_this_24, g_this_25, g_this_26, g_this_27, g_this_28, g_this_29, g_this_30])), (h_signs, .inl (cy, 20, .inl a_signs))] s.heap.size = A at hD ⊢
  have hA : ∀ q : Nat, s.heap.size ≤ q → A q := fun q h => by rw [← hAe]; exact Or.inr h
  have hS : va_S A s.heap s.heap [] := va_S.rf
  have in_X6 : ∀ w ∈ u_ws RX6 TX6 31, w ∈ wsX6_digits := by decide +kernel
  have k_28 := hts (.fieldLink RX6 28 "ChequeDeskModel" "signs" "[I") (by decide +kernel)
  have hl := lv_entry ([.ref h_this, .int x1, .int x2]) (n := 5) (Nat.le_of_ble_eq_true rfl)
  rw [show entryFrame m args 5 = entryFrame m ([.ref h_this, .int x1, .int x2] : List Value).toArray 5 by rw [hargs], lg_entry_eq]
  generalize (lg_sl ([.ref h_this, .int x1, .int x2]) ++ List.replicate (5 - (lg_sl ([.ref h_this, .int x1, .int x2])).length) Slot.unset).toArray = ls at hl ⊢
  have hl : lv_has ls 5 [(0, .ref h_this), (1, .int x1), (2, .int x2)] := hl
  have hP : va_P (dC, dI) vwCl [(h_this, .inr (6, [g_this_0, g_this_1, g_this_2, g_this_3, g_this_4, g_this_5, g_this_6, g_this_7, g_this_8, g_this_9, g_this_10, g_this_11, g_this_12, g_this_13, .ref h_signs, g_this_15, g_this_16, g_this_17, g_this_18, g_this_19, g_this_20, g_this_21, g_this_22, g_this_23, g_this_24, g_this_25, g_this_26, g_this_27, g_this_28, g_this_29, g_this_30])), (h_signs, .inl (cy, 20, .inl a_signs))] s.heap := hP
  change W p l e rm_X6_digits s m args below meth c s.heap [] 0 0 _ _
  generalize hQQ : MQ below _ _ _ _ _ _ = QQ
  have RET : ∀ (r : Int32) (H : Heap) (locs : List Loc) (ls : Array Slot) (pc : Nat), decode cX6_digits pc = .ok (.ireturn, 1) → Q r → va_P (dC, dI) vwCl [(h_this, .inr (6, [g_this_0, g_this_1, g_this_2, g_this_3, g_this_4, g_this_5, g_this_6, g_this_7, g_this_8, g_this_9, g_this_10, g_this_11, g_this_12, g_this_13, .ref h_signs, g_this_15, g_this_16, g_this_17, g_this_18, g_this_19, g_this_20, g_this_21, g_this_22, g_this_23, g_this_24, g_this_25, g_this_26, g_this_27, g_this_28, g_this_29, g_this_30])), (h_signs, .inl (cy, 20, .inl a_signs))] H → va_D A [(h_this, .inr (6, [g_this_0, g_this_1, g_this_2, g_this_3, g_this_4, g_this_5, g_this_6, g_this_7, g_this_8, g_this_9, g_this_10, g_this_11, g_this_12, g_this_13, .ref h_signs, g_this_15, g_this_16, g_this_17, g_this_18, g_this_19, g_this_20, g_this_21, g_this_22, g_this_23, g_this_24, g_this_25, g_this_26, g_this_27, g_this_28, g_this_29, g_this_30])), (h_signs, .inl (cy, 20, .inl a_signs))] → va_S A s.heap H locs → W p l e rm_X6_digits s m args below meth c H locs 0 0 QQ (F0 m pc ls [.int r]) := by
    intro r  H locs ls pc hdg hq hP hD hS
    rw [← hQQ]
    exact W.iret (v := r) hx hb hr (fun t ht hW => ⟨⟨r, (), rfl, hq, by rw [ht]; exact hP, va_K.moved hW.alike hK, hD⟩, hS.F ht⟩) hS.2.2 hdg
  clear hQQ
  unfold p_X6_digits at h
  have L5 : ∀ (x1 : Int32) (x2 : Int32) (K5 : Int32 → Int32 → Prop) (n : Nat) (x3 : Int32) (x4 : Int32) (H : Heap) (locs : List Loc) (ls : Array Slot), wl2 (p_X6_digits_B5 a_signs x1 x2 K5) n x3 x4 → va_P (dC, dI) vwCl [(h_this, .inr (6, [g_this_0, g_this_1, g_this_2, g_this_3, g_this_4, g_this_5, g_this_6, g_this_7, g_this_8, g_this_9, g_this_10, g_this_11, g_this_12, g_this_13, .ref h_signs, g_this_15, g_this_16, g_this_17, g_this_18, g_this_19, g_this_20, g_this_21, g_this_22, g_this_23, g_this_24, g_this_25, g_this_26, g_this_27, g_this_28, g_this_29, g_this_30])), (h_signs, .inl (cy, 20, .inl a_signs))] H → va_D A [(h_this, .inr (6, [g_this_0, g_this_1, g_this_2, g_this_3, g_this_4, g_this_5, g_this_6, g_this_7, g_this_8, g_this_9, g_this_10, g_this_11, g_this_12, g_this_13, .ref h_signs, g_this_15, g_this_16, g_this_17, g_this_18, g_this_19, g_this_20, g_this_21, g_this_22, g_this_23, g_this_24, g_this_25, g_this_26, g_this_27, g_this_28, g_this_29, g_this_30])), (h_signs, .inl (cy, 20, .inl a_signs))] → va_S A s.heap H locs → lv_has ls 5 [(0, .ref h_this), (1, .int x1), (2, .int x2), (3, .int x3), (4, .int x4)] → (∀ (x3 : Int32) (x4 : Int32) (H : Heap) (locs : List Loc) (ls : Array Slot), K5 x3 x4 → va_P (dC, dI) vwCl [(h_this, .inr (6, [g_this_0, g_this_1, g_this_2, g_this_3, g_this_4, g_this_5, g_this_6, g_this_7, g_this_8, g_this_9, g_this_10, g_this_11, g_this_12, g_this_13, .ref h_signs, g_this_15, g_this_16, g_this_17, g_this_18, g_this_19, g_this_20, g_this_21, g_this_22, g_this_23, g_this_24, g_this_25, g_this_26, g_this_27, g_this_28, g_this_29, g_this_30])), (h_signs, .inl (cy, 20, .inl a_signs))] H → va_D A [(h_this, .inr (6, [g_this_0, g_this_1, g_this_2, g_this_3, g_this_4, g_this_5, g_this_6, g_this_7, g_this_8, g_this_9, g_this_10, g_this_11, g_this_12, g_this_13, .ref h_signs, g_this_15, g_this_16, g_this_17, g_this_18, g_this_19, g_this_20, g_this_21, g_this_22, g_this_23, g_this_24, g_this_25, g_this_26, g_this_27, g_this_28, g_this_29, g_this_30])), (h_signs, .inl (cy, 20, .inl a_signs))] → va_S A s.heap H locs → lv_has ls 5 [(3, .int x3)] → W p l e rm_X6_digits s m args below meth c H locs 0 0 QQ (F0 m 52 ls [])) → W p l e rm_X6_digits s m args below meth c H locs 0 0 QQ (F0 m 5 ls []) := by
    intro x1 x2 K5 n
    induction n with
    | zero => intro x3 x4 H locs ls h; exact False.elim h
    | succ n ih =>
      intro x3 x4 H locs ls h hP hD hS hl hk
      have ih := fun x3 x4 H locs ls h hP hD hS hl => ih x3 x4 H locs ls h hP hD hS hl hk
      replace h : p_X6_digits_B5 a_signs x1 x2 K5 (wl2 (p_X6_digits_B5 a_signs x1 x2 K5) n) x3 x4 := h
      unfold p_X6_digits_B5 at h
      have J45 : ∀ (x4 : Int32) (s0 : Int32) (H : Heap) (locs : List Loc) (ls : Array Slot), p_X6_digits_J45 (wl2 (p_X6_digits_B5 a_signs x1 x2 K5) n) x4 s0 → va_P (dC, dI) vwCl [(h_this, .inr (6, [g_this_0, g_this_1, g_this_2, g_this_3, g_this_4, g_this_5, g_this_6, g_this_7, g_this_8, g_this_9, g_this_10, g_this_11, g_this_12, g_this_13, .ref h_signs, g_this_15, g_this_16, g_this_17, g_this_18, g_this_19, g_this_20, g_this_21, g_this_22, g_this_23, g_this_24, g_this_25, g_this_26, g_this_27, g_this_28, g_this_29, g_this_30])), (h_signs, .inl (cy, 20, .inl a_signs))] H → va_D A [(h_this, .inr (6, [g_this_0, g_this_1, g_this_2, g_this_3, g_this_4, g_this_5, g_this_6, g_this_7, g_this_8, g_this_9, g_this_10, g_this_11, g_this_12, g_this_13, .ref h_signs, g_this_15, g_this_16, g_this_17, g_this_18, g_this_19, g_this_20, g_this_21, g_this_22, g_this_23, g_this_24, g_this_25, g_this_26, g_this_27, g_this_28, g_this_29, g_this_30])), (h_signs, .inl (cy, 20, .inl a_signs))] → va_S A s.heap H locs → lv_has ls 5 [(0, .ref h_this), (1, .int x1), (2, .int x2), (4, .int x4)] → W p l e rm_X6_digits s m args below meth c H locs 0 0 QQ (F0 m 45 ls [.int s0]) := by
        intro x4 s0 H locs ls h hP hD hS hl
        unfold p_X6_digits_J45 at h
        refine lv_istore_n (lv' := [(3, .int s0), (0, .ref h_this), (1, .int x1), (2, .int x2), (4, .int x4)]) hx hb dX6_digits_45 rfl hl (by decide) rfl (fun ls hl => ?_)
        refine lv_iinc (v := x4 + 1) (lv' := [(4, .int (x4 + 1)), (3, .int s0), (0, .ref h_this), (1, .int x1), (2, .int x2)]) hx hb dX6_digits_46 hl (k := 4) rfl (by rfl) (by decide) rfl (fun ls hl => ?_)
        refine lv_goto (tgt := 5) hx hb dX6_digits_49 (by decide) ?_
        exact ih s0 (x4 + 1) H locs ls h hP hD hS (lv_sub hl [2, 3, 4, 1, 0] rfl)
      have J44 : ∀ (x4 : Int32) (H : Heap) (locs : List Loc) (ls : Array Slot), p_X6_digits_J44 (wl2 (p_X6_digits_B5 a_signs x1 x2 K5) n) x4 → va_P (dC, dI) vwCl [(h_this, .inr (6, [g_this_0, g_this_1, g_this_2, g_this_3, g_this_4, g_this_5, g_this_6, g_this_7, g_this_8, g_this_9, g_this_10, g_this_11, g_this_12, g_this_13, .ref h_signs, g_this_15, g_this_16, g_this_17, g_this_18, g_this_19, g_this_20, g_this_21, g_this_22, g_this_23, g_this_24, g_this_25, g_this_26, g_this_27, g_this_28, g_this_29, g_this_30])), (h_signs, .inl (cy, 20, .inl a_signs))] H → va_D A [(h_this, .inr (6, [g_this_0, g_this_1, g_this_2, g_this_3, g_this_4, g_this_5, g_this_6, g_this_7, g_this_8, g_this_9, g_this_10, g_this_11, g_this_12, g_this_13, .ref h_signs, g_this_15, g_this_16, g_this_17, g_this_18, g_this_19, g_this_20, g_this_21, g_this_22, g_this_23, g_this_24, g_this_25, g_this_26, g_this_27, g_this_28, g_this_29, g_this_30])), (h_signs, .inl (cy, 20, .inl a_signs))] → va_S A s.heap H locs → lv_has ls 5 [(0, .ref h_this), (1, .int x1), (2, .int x2), (4, .int x4)] → W p l e rm_X6_digits s m args below meth c H locs 0 0 QQ (F0 m 44 ls []) := by
        intro x4 H locs ls h hP hD hS hl
        unfold p_X6_digits_J44 at h
        refine lv_iconst (v := (-1)) hx hb dX6_digits_44 (by decide) ?_
        exact J45 x4 (-1) H locs ls h hP hD hS (lv_sub hl [0, 1, 2, 3] rfl)
      refine lv_iload hx hb dX6_digits_5 (lv_at hl 4 rfl) ?_
      refine lv_iload_n hx hb dX6_digits_7 rfl (lv_at hl 1 rfl) ?_
      refine lv_iload_n hx hb dX6_digits_8 rfl (lv_at hl 2 rfl) ?_
      refine lv_iadd hx hb dX6_digits_9 ?_
      refine lv_icmp_ge (tgt := 52) hx hb dX6_digits_10 (by decide) (fun c10 => ?_) (fun c10 => ?_)
      · replace h := And.left h c10
        exact hk x3 x4 H locs ls h hP hD hS (lv_sub hl [3] rfl)
      · replace h := And.right h c10
        refine lv_aload_n hx hb dX6_digits_13 rfl (lv_at hl 0 rfl) ?_
        refine va_get (D := (dC, dI)) (ci := 6) (v := .ref h_signs) (C := RX6) (T := TX6) (N := 31) hx hb hts in_X6 hown hK hP 0 rfl rfl 14 (by decide) k_28 (fun _ h9 => h9) rfl dX6_digits_14 ?_
        refine lv_iload hx hb dX6_digits_17 (lv_at hl 4 rfl) ?_
        obtain ⟨b19, h⟩ := h
        refine va_iald hx hb hK hP 1 0 rfl rfl b19 dX6_digits_19 ?_
        refine lv_bipush (v := 10) hx hb dX6_digits_20 (by decide) ?_
        refine lv_icmp_ge (tgt := 44) hx hb dX6_digits_22 (by decide) (fun c22 => ?_) (fun c22 => ?_)
        · replace h := And.left h c22
          exact J44 x4 H locs ls h hP hD hS (lv_sub hl [0, 1, 2, 4] rfl)
        · replace h := And.right h c22
          refine lv_iload_n hx hb dX6_digits_25 rfl (lv_at hl 3 rfl) ?_
          refine lv_if_lt (tgt := 44) hx hb dX6_digits_26 (by decide) (fun c26 => ?_) (fun c26 => ?_)
          · replace h := And.left h c26
            exact J44 x4 H locs ls h hP hD hS (lv_sub hl [0, 1, 2, 4] rfl)
          · replace h := And.right h c26
            refine lv_bipush (v := 10) hx hb dX6_digits_29 (by decide) ?_
            refine lv_iload_n hx hb dX6_digits_31 rfl (lv_at hl 3 rfl) ?_
            refine lv_imul hx hb dX6_digits_32 ?_
            refine lv_aload_n hx hb dX6_digits_33 rfl (lv_at hl 0 rfl) ?_
            refine va_get (D := (dC, dI)) (ci := 6) (v := .ref h_signs) (C := RX6) (T := TX6) (N := 31) hx hb hts in_X6 hown hK hP 0 rfl rfl 14 (by decide) k_28 (fun _ h9 => h9) rfl dX6_digits_34 ?_
            refine lv_iload hx hb dX6_digits_37 (lv_at hl 4 rfl) ?_
            obtain ⟨b39, h⟩ := h
            refine va_iald hx hb hK hP 1 0 rfl rfl b39 dX6_digits_39 ?_
            refine lv_iadd hx hb dX6_digits_40 ?_
            refine lv_goto (tgt := 45) hx hb dX6_digits_41 (by decide) ?_
            exact J45 x4 ((10 * x3) + (a_signs (Int32.toNatClampNeg x4))) H locs ls h hP hD hS (lv_sub hl [0, 1, 2, 4] rfl)
  generalize hlo : ([] : List Loc) = locs at hS ⊢
  obtain ⟨H, hH⟩ : ∃ z, z = s.heap := ⟨_, rfl⟩
  rw [show W p l e rm_X6_digits s m args below meth c s.heap = W p l e rm_X6_digits s m args below meth c H by rw [hH]]
  replace hP : va_P (dC, dI) vwCl [(h_this, .inr (6, [g_this_0, g_this_1, g_this_2, g_this_3, g_this_4, g_this_5, g_this_6, g_this_7, g_this_8, g_this_9, g_this_10, g_this_11, g_this_12, g_this_13, .ref h_signs, g_this_15, g_this_16, g_this_17, g_this_18, g_this_19, g_this_20, g_this_21, g_this_22, g_this_23, g_this_24, g_this_25, g_this_26, g_this_27, g_this_28, g_this_29, g_this_30])), (h_signs, .inl (cy, 20, .inl a_signs))] H := by rw [hH]; exact hP
  replace hS : va_S A s.heap H locs := by rw [hH]; exact hS
  clear hH hlo
  refine lv_iconst (v := 0) hx hb dX6_digits_0 (by decide) ?_
  refine lv_istore_n (lv' := [(3, .int 0), (0, .ref h_this), (1, .int x1), (2, .int x2)]) hx hb dX6_digits_1 rfl hl (by decide) rfl (fun ls hl => ?_)
  refine lv_iload_n hx hb dX6_digits_2 rfl (lv_at hl 2 rfl) ?_
  refine lv_istore (lv' := [(4, .int x1), (3, .int 0), (0, .ref h_this), (1, .int x1), (2, .int x2)]) hx hb dX6_digits_3 hl (by decide) rfl (fun ls hl => ?_)
  obtain ⟨n5, h⟩ := h
  refine L5 x1 x2 _ n5 0 x1 H locs ls h hP hD hS (lv_sub hl [2, 3, 4, 1, 0] rfl) (fun x3_52 x4_52 H locs ls h hP hD hS hl => ?_)
  refine lv_iload_n hx hb dX6_digits_52 rfl (lv_at hl 0 rfl) ?_
  exact RET x3_52 H locs ls 53 dX6_digits_53 h hP hD hS
abbrev rm_X6_fits : Room := { frames := 1, cells := 0, slots := 0, locals := 24 }
theorem q_X6_fits : yX6_fits.cls = RX6 ∧ yX6_fits.cls ≠ "java/lang/invoke/MethodHandle" ∧ yX6_fits.cls ≠ "java/lang/invoke/VarHandle" ∧ (parseMethodDescriptor yX6_fits.desc).map (fun d => d.parameters.length) = some 0 := by decide +kernel
set_option maxHeartbeats 4000000 in
set_option maxRecDepth 100000 in
theorem c_X6_fits (l : Launch) (dC : Nat → ClassId) (dI : Nat → Nat → Nat) (cy : ClassId) (h_this : Nat) (h_signs : Nat) (sz : Nat) (g_this_0 g_this_1 g_this_2 g_this_3 g_this_4 g_this_5 g_this_6 g_this_8 g_this_9 g_this_10 g_this_11 g_this_13 g_this_15 g_this_16 g_this_17 g_this_18 g_this_19 g_this_20 g_this_21 g_this_22 g_this_23 g_this_24 g_this_25 g_this_26 g_this_27 g_this_28 g_this_29 g_this_30 : Value) (f_readPlaces : Int32) (f_isRead : Int32) (a_signs : Nat → Int32) (Q : Int32 → Prop) (h : p_X6_fits f_readPlaces f_isRead a_signs Q) : Met l yX6_fits wsX6_fits rm_X6_fits (va_Pc [.ref h_this] (fun U => U.heap.size = sz ∧ va_P (dC, dI) vwCl [(h_this, .inr (6, [g_this_0, g_this_1, g_this_2, g_this_3, g_this_4, g_this_5, g_this_6, .int f_readPlaces, g_this_8, g_this_9, g_this_10, g_this_11, .int f_isRead, g_this_13, .ref h_signs, g_this_15, g_this_16, g_this_17, g_this_18, g_this_19, g_this_20, g_this_21, g_this_22, g_this_23, g_this_24, g_this_25, g_this_26, g_this_27, g_this_28, g_this_29, g_this_30])), (h_signs, .inl (cy, 20, .inl a_signs))] U.heap ∧ va_K (dC, dI) vwCl [(cy, .int)] U ∧ va_D (fun _ => True) [(h_this, .inr (6, [g_this_0, g_this_1, g_this_2, g_this_3, g_this_4, g_this_5, g_this_6, .int f_readPlaces, g_this_8, g_this_9, g_this_10, g_this_11, .int f_isRead, g_this_13, .ref h_signs, g_this_15, g_this_16, g_this_17, g_this_18, g_this_19, g_this_20, g_this_21, g_this_22, g_this_23, g_this_24, g_this_25, g_this_26, g_this_27, g_this_28, g_this_29, g_this_30])), (h_signs, .inl (cy, 20, .inl a_signs))])) (va_Qi (fun (r : Int32) (u : Unit) => Q r) (fun (u : Unit) (t : State) => va_P (dC, dI) vwCl [(h_this, .inr (6, [g_this_0, g_this_1, g_this_2, g_this_3, g_this_4, g_this_5, g_this_6, .int f_readPlaces, g_this_8, g_this_9, g_this_10, g_this_11, .int f_isRead, g_this_13, .ref h_signs, g_this_15, g_this_16, g_this_17, g_this_18, g_this_19, g_this_20, g_this_21, g_this_22, g_this_23, g_this_24, g_this_25, g_this_26, g_this_27, g_this_28, g_this_29, g_this_30])), (h_signs, .inl (cy, 20, .inl a_signs))] t.heap ∧ va_K (dC, dI) vwCl [(cy, .int)] t ∧ va_D (va_A [(h_this, .inr (6, [g_this_0, g_this_1, g_this_2, g_this_3, g_this_4, g_this_5, g_this_6, .int f_readPlaces, g_this_8, g_this_9, g_this_10, g_this_11, .int f_isRead, g_this_13, .ref h_signs, g_this_15, g_this_16, g_this_17, g_this_18, g_this_19, g_this_20, g_this_21, g_this_22, g_this_23, g_this_24, g_this_25, g_this_26, g_this_27, g_this_28, g_this_29, g_this_30])), (h_signs, .inl (cy, 20, .inl a_signs))] sz) [(h_this, .inr (6, [g_this_0, g_this_1, g_this_2, g_this_3, g_this_4, g_this_5, g_this_6, .int f_readPlaces, g_this_8, g_this_9, g_this_10, g_this_11, .int f_isRead, g_this_13, .ref h_signs, g_this_15, g_this_16, g_this_17, g_this_18, g_this_19, g_this_20, g_this_21, g_this_22, g_this_23, g_this_24, g_this_25, g_this_26, g_this_27, g_this_28, g_this_29, g_this_30])), (h_signs, .inl (cy, 20, .inl a_signs))]) (va_A [(h_this, .inr (6, [g_this_0, g_this_1, g_this_2, g_this_3, g_this_4, g_this_5, g_this_6, .int f_readPlaces, g_this_8, g_this_9, g_this_10, g_this_11, .int f_isRead, g_this_13, .ref h_signs, g_this_15, g_this_16, g_this_17, g_this_18, g_this_19, g_this_20, g_this_21, g_this_22, g_this_23, g_this_24, g_this_25, g_this_26, g_this_27, g_this_28, g_this_29, g_this_30])), (h_signs, .inl (cy, 20, .inl a_signs))] sz)) 0 0 (va_A [(h_this, .inr (6, [g_this_0, g_this_1, g_this_2, g_this_3, g_this_4, g_this_5, g_this_6, .int f_readPlaces, g_this_8, g_this_9, g_this_10, g_this_11, .int f_isRead, g_this_13, .ref h_signs, g_this_15, g_this_16, g_this_17, g_this_18, g_this_19, g_this_20, g_this_21, g_this_22, g_this_23, g_this_24, g_this_25, g_this_26, g_this_27, g_this_28, g_this_29, g_this_30])), (h_signs, .inl (cy, 20, .inl a_signs))] sz) := by
  refine Met.ofW (cc := cX6_fits) (maxL := 1) (ret := (some .boolean)) (by decide) rfl ?_
  intro p e s m args below meth c s₁ B hml hv
  obtain ⟨hargs, hsz, hP, hK, hD0⟩ := hv
  have hx := B.exec
  have hb := B.bytes
  have hr := B.returns
  have hts := atoms_spec (ws := wsX6_fits) B.pre
  have hown : s.vm.findClass RX6 = some m.cls := findClass_of_methodNamed B.named
  have hlocks := B.notSynchronized
  subst hsz
  have hD := hD0.self (sz := s.heap.size)
  generalize hAe : va_A [(h_this, .inr (6, [g_this_0, g_this_1, g_this_2, g_this_3, g_this_4, g_this_5, g_this_6, .int f_readPlaces, g_this_8, g_this_9, g_this_10, g_this_11, .int f_isRead, g_this_13, .ref h_signs, g_this_15, g_this_16, g_this_17, g_this_18, g_this_19, g_this_20, g_this_21, g_this_22, g_this_23, g_this_24, g_this_25, g_this_26, g_this_27, g_this_28, g_this_29, g_this_30])), (h_signs, .inl (cy, 20, .inl a_signs))] s.heap.size = A at hD ⊢
  have hA : ∀ q : Nat, s.heap.size ≤ q → A q := fun q h => by rw [← hAe]; exact Or.inr h
  have hS : va_S A s.heap s.heap [] := va_S.rf
  have in_X6 : ∀ w ∈ u_ws RX6 TX6 31, w ∈ wsX6_fits := by decide +kernel
  have k_28 := hts (.fieldLink RX6 28 "ChequeDeskModel" "signs" "[I") (by decide +kernel)
  have k_120 := hts (.fieldLink RX6 120 "ChequeDeskModel" "readPlaces" "I") (by decide +kernel)
  have k_123 := hts (.fieldLink RX6 123 "ChequeDeskModel" "isRead" "Z") (by decide +kernel)
  have hl := lv_entry ([.ref h_this]) (n := 1) (Nat.le_of_ble_eq_true rfl)
  rw [show entryFrame m args 1 = entryFrame m ([.ref h_this] : List Value).toArray 1 by rw [hargs], lg_entry_eq]
  generalize (lg_sl ([.ref h_this]) ++ List.replicate (1 - (lg_sl ([.ref h_this])).length) Slot.unset).toArray = ls at hl ⊢
  have hl : lv_has ls 1 [(0, .ref h_this)] := hl
  have hP : va_P (dC, dI) vwCl [(h_this, .inr (6, [g_this_0, g_this_1, g_this_2, g_this_3, g_this_4, g_this_5, g_this_6, .int f_readPlaces, g_this_8, g_this_9, g_this_10, g_this_11, .int f_isRead, g_this_13, .ref h_signs, g_this_15, g_this_16, g_this_17, g_this_18, g_this_19, g_this_20, g_this_21, g_this_22, g_this_23, g_this_24, g_this_25, g_this_26, g_this_27, g_this_28, g_this_29, g_this_30])), (h_signs, .inl (cy, 20, .inl a_signs))] s.heap := hP
  change W p l e rm_X6_fits s m args below meth c s.heap [] 0 0 _ _
  generalize hQQ : MQ below _ _ _ _ _ _ = QQ
  have RET : ∀ (r : Int32) (H : Heap) (locs : List Loc) (ls : Array Slot) (pc : Nat), decode cX6_fits pc = .ok (.ireturn, 1) → narrow .boolean (.int r) = .int r → Q r → va_P (dC, dI) vwCl [(h_this, .inr (6, [g_this_0, g_this_1, g_this_2, g_this_3, g_this_4, g_this_5, g_this_6, .int f_readPlaces, g_this_8, g_this_9, g_this_10, g_this_11, .int f_isRead, g_this_13, .ref h_signs, g_this_15, g_this_16, g_this_17, g_this_18, g_this_19, g_this_20, g_this_21, g_this_22, g_this_23, g_this_24, g_this_25, g_this_26, g_this_27, g_this_28, g_this_29, g_this_30])), (h_signs, .inl (cy, 20, .inl a_signs))] H → va_D A [(h_this, .inr (6, [g_this_0, g_this_1, g_this_2, g_this_3, g_this_4, g_this_5, g_this_6, .int f_readPlaces, g_this_8, g_this_9, g_this_10, g_this_11, .int f_isRead, g_this_13, .ref h_signs, g_this_15, g_this_16, g_this_17, g_this_18, g_this_19, g_this_20, g_this_21, g_this_22, g_this_23, g_this_24, g_this_25, g_this_26, g_this_27, g_this_28, g_this_29, g_this_30])), (h_signs, .inl (cy, 20, .inl a_signs))] → va_S A s.heap H locs → W p l e rm_X6_fits s m args below meth c H locs 0 0 QQ (F0 m pc ls [.int r]) := by
    intro r  H locs ls pc hdg hz hq hP hD hS
    rw [← hQQ]
    exact W.zret (v := r) hx hb hr hz (fun t ht hW => ⟨⟨r, (), rfl, hq, by rw [ht]; exact hP, va_K.moved hW.alike hK, hD⟩, hS.F ht⟩) hS.2.2 hdg
  clear hQQ
  unfold p_X6_fits at h
  have J164 : ∀ (s0 : Int32) (H : Heap) (locs : List Loc) (ls : Array Slot), p_X6_fits_J164 Q s0 → va_P (dC, dI) vwCl [(h_this, .inr (6, [g_this_0, g_this_1, g_this_2, g_this_3, g_this_4, g_this_5, g_this_6, .int f_readPlaces, g_this_8, g_this_9, g_this_10, g_this_11, .int f_isRead, g_this_13, .ref h_signs, g_this_15, g_this_16, g_this_17, g_this_18, g_this_19, g_this_20, g_this_21, g_this_22, g_this_23, g_this_24, g_this_25, g_this_26, g_this_27, g_this_28, g_this_29, g_this_30])), (h_signs, .inl (cy, 20, .inl a_signs))] H → va_D A [(h_this, .inr (6, [g_this_0, g_this_1, g_this_2, g_this_3, g_this_4, g_this_5, g_this_6, .int f_readPlaces, g_this_8, g_this_9, g_this_10, g_this_11, .int f_isRead, g_this_13, .ref h_signs, g_this_15, g_this_16, g_this_17, g_this_18, g_this_19, g_this_20, g_this_21, g_this_22, g_this_23, g_this_24, g_this_25, g_this_26, g_this_27, g_this_28, g_this_29, g_this_30])), (h_signs, .inl (cy, 20, .inl a_signs))] → va_S A s.heap H locs → lv_has ls 1 [] → W p l e rm_X6_fits s m args below meth c H locs 0 0 QQ (F0 m 164 ls [.int s0]) := by
    intro s0 H locs ls h hP hD hS hl
    unfold p_X6_fits_J164 at h
    obtain ⟨zr164, h⟩ := h
    exact RET s0 H locs ls 164 dX6_fits_164 zr164 h hP hD hS
  have J94 : ∀ (H : Heap) (locs : List Loc) (ls : Array Slot), p_X6_fits_J94 Q → va_P (dC, dI) vwCl [(h_this, .inr (6, [g_this_0, g_this_1, g_this_2, g_this_3, g_this_4, g_this_5, g_this_6, .int f_readPlaces, g_this_8, g_this_9, g_this_10, g_this_11, .int f_isRead, g_this_13, .ref h_signs, g_this_15, g_this_16, g_this_17, g_this_18, g_this_19, g_this_20, g_this_21, g_this_22, g_this_23, g_this_24, g_this_25, g_this_26, g_this_27, g_this_28, g_this_29, g_this_30])), (h_signs, .inl (cy, 20, .inl a_signs))] H → va_D A [(h_this, .inr (6, [g_this_0, g_this_1, g_this_2, g_this_3, g_this_4, g_this_5, g_this_6, .int f_readPlaces, g_this_8, g_this_9, g_this_10, g_this_11, .int f_isRead, g_this_13, .ref h_signs, g_this_15, g_this_16, g_this_17, g_this_18, g_this_19, g_this_20, g_this_21, g_this_22, g_this_23, g_this_24, g_this_25, g_this_26, g_this_27, g_this_28, g_this_29, g_this_30])), (h_signs, .inl (cy, 20, .inl a_signs))] → va_S A s.heap H locs → lv_has ls 1 [] → W p l e rm_X6_fits s m args below meth c H locs 0 0 QQ (F0 m 94 ls []) := by
    intro  H locs ls h hP hD hS hl
    unfold p_X6_fits_J94 at h
    refine lv_iconst (v := 0) hx hb dX6_fits_94 (by decide) ?_
    obtain ⟨zr95, h⟩ := h
    exact RET 0 H locs ls 95 dX6_fits_95 zr95 h hP hD hS
  have J16 : ∀ (H : Heap) (locs : List Loc) (ls : Array Slot), p_X6_fits_J16 Q → va_P (dC, dI) vwCl [(h_this, .inr (6, [g_this_0, g_this_1, g_this_2, g_this_3, g_this_4, g_this_5, g_this_6, .int f_readPlaces, g_this_8, g_this_9, g_this_10, g_this_11, .int f_isRead, g_this_13, .ref h_signs, g_this_15, g_this_16, g_this_17, g_this_18, g_this_19, g_this_20, g_this_21, g_this_22, g_this_23, g_this_24, g_this_25, g_this_26, g_this_27, g_this_28, g_this_29, g_this_30])), (h_signs, .inl (cy, 20, .inl a_signs))] H → va_D A [(h_this, .inr (6, [g_this_0, g_this_1, g_this_2, g_this_3, g_this_4, g_this_5, g_this_6, .int f_readPlaces, g_this_8, g_this_9, g_this_10, g_this_11, .int f_isRead, g_this_13, .ref h_signs, g_this_15, g_this_16, g_this_17, g_this_18, g_this_19, g_this_20, g_this_21, g_this_22, g_this_23, g_this_24, g_this_25, g_this_26, g_this_27, g_this_28, g_this_29, g_this_30])), (h_signs, .inl (cy, 20, .inl a_signs))] → va_S A s.heap H locs → lv_has ls 1 [] → W p l e rm_X6_fits s m args below meth c H locs 0 0 QQ (F0 m 16 ls []) := by
    intro  H locs ls h hP hD hS hl
    unfold p_X6_fits_J16 at h
    refine lv_iconst (v := 0) hx hb dX6_fits_16 (by decide) ?_
    obtain ⟨zr17, h⟩ := h
    exact RET 0 H locs ls 17 dX6_fits_17 zr17 h hP hD hS
  generalize hlo : ([] : List Loc) = locs at hS ⊢
  obtain ⟨H, hH⟩ : ∃ z, z = s.heap := ⟨_, rfl⟩
  rw [show W p l e rm_X6_fits s m args below meth c s.heap = W p l e rm_X6_fits s m args below meth c H by rw [hH]]
  replace hP : va_P (dC, dI) vwCl [(h_this, .inr (6, [g_this_0, g_this_1, g_this_2, g_this_3, g_this_4, g_this_5, g_this_6, .int f_readPlaces, g_this_8, g_this_9, g_this_10, g_this_11, .int f_isRead, g_this_13, .ref h_signs, g_this_15, g_this_16, g_this_17, g_this_18, g_this_19, g_this_20, g_this_21, g_this_22, g_this_23, g_this_24, g_this_25, g_this_26, g_this_27, g_this_28, g_this_29, g_this_30])), (h_signs, .inl (cy, 20, .inl a_signs))] H := by rw [hH]; exact hP
  replace hS : va_S A s.heap H locs := by rw [hH]; exact hS
  clear hH hlo
  refine lv_aload_n hx hb dX6_fits_0 rfl (lv_at hl 0 rfl) ?_
  refine va_get (D := (dC, dI)) (ci := 6) (v := .int f_isRead) (C := RX6) (T := TX6) (N := 31) hx hb hts in_X6 hown hK hP 0 rfl rfl 12 (by decide) k_123 (fun _ h9 => h9) rfl dX6_fits_1 ?_
  refine lv_if_eq (tgt := 16) hx hb dX6_fits_4 (by decide) (fun c4 => ?_) (fun c4 => ?_)
  · replace h := And.left h c4
    exact J16  H locs ls h hP hD hS (lv_sub hl [] rfl)
  · replace h := And.right h c4
    refine lv_aload_n hx hb dX6_fits_7 rfl (lv_at hl 0 rfl) ?_
    refine va_get (D := (dC, dI)) (ci := 6) (v := .int f_readPlaces) (C := RX6) (T := TX6) (N := 31) hx hb hts in_X6 hown hK hP 0 rfl rfl 7 (by decide) k_120 (fun _ h9 => h9) rfl dX6_fits_8 ?_
    refine lv_bipush (v := 18) hx hb dX6_fits_11 (by decide) ?_
    refine lv_icmp_eq (tgt := 18) hx hb dX6_fits_13 (by decide) (fun c13 => ?_) (fun c13 => ?_)
    · replace h := And.left h c13
      refine lv_aload_n hx hb dX6_fits_18 rfl (lv_at hl 0 rfl) ?_
      refine va_get (D := (dC, dI)) (ci := 6) (v := .ref h_signs) (C := RX6) (T := TX6) (N := 31) hx hb hts in_X6 hown hK hP 0 rfl rfl 14 (by decide) k_28 (fun _ h9 => h9) rfl dX6_fits_19 ?_
      refine lv_iconst (v := 0) hx hb dX6_fits_22 (by decide) ?_
      obtain ⟨b23, h⟩ := h
      refine va_iald hx hb hK hP 1 0 rfl rfl b23 dX6_fits_23 ?_
      refine lv_bipush (v := 10) hx hb dX6_fits_24 (by decide) ?_
      refine lv_icmp_ne (tgt := 94) hx hb dX6_fits_26 (by decide) (fun c26 => ?_) (fun c26 => ?_)
      · replace h := And.left h c26
        exact J94  H locs ls h hP hD hS (lv_sub hl [] rfl)
      · replace h := And.right h c26
        refine lv_aload_n hx hb dX6_fits_29 rfl (lv_at hl 0 rfl) ?_
        refine va_get (D := (dC, dI)) (ci := 6) (v := .ref h_signs) (C := RX6) (T := TX6) (N := 31) hx hb hts in_X6 hown hK hP 0 rfl rfl 14 (by decide) k_28 (fun _ h9 => h9) rfl dX6_fits_30 ?_
        refine lv_iconst (v := 5) hx hb dX6_fits_33 (by decide) ?_
        obtain ⟨b34, h⟩ := h
        refine va_iald hx hb hK hP 1 0 rfl rfl b34 dX6_fits_34 ?_
        refine lv_bipush (v := 11) hx hb dX6_fits_35 (by decide) ?_
        refine lv_icmp_ne (tgt := 94) hx hb dX6_fits_37 (by decide) (fun c37 => ?_) (fun c37 => ?_)
        · replace h := And.left h c37
          exact J94  H locs ls h hP hD hS (lv_sub hl [] rfl)
        · replace h := And.right h c37
          refine lv_aload_n hx hb dX6_fits_40 rfl (lv_at hl 0 rfl) ?_
          refine va_get (D := (dC, dI)) (ci := 6) (v := .ref h_signs) (C := RX6) (T := TX6) (N := 31) hx hb hts in_X6 hown hK hP 0 rfl rfl 14 (by decide) k_28 (fun _ h9 => h9) rfl dX6_fits_41 ?_
          refine lv_bipush (v := 12) hx hb dX6_fits_44 (by decide) ?_
          obtain ⟨b46, h⟩ := h
          refine va_iald hx hb hK hP 1 0 rfl rfl b46 dX6_fits_46 ?_
          refine lv_bipush (v := 11) hx hb dX6_fits_47 (by decide) ?_
          refine lv_icmp_ne (tgt := 94) hx hb dX6_fits_49 (by decide) (fun c49 => ?_) (fun c49 => ?_)
          · replace h := And.left h c49
            exact J94  H locs ls h hP hD hS (lv_sub hl [] rfl)
          · replace h := And.right h c49
            refine lv_aload_n hx hb dX6_fits_52 rfl (lv_at hl 0 rfl) ?_
            refine va_get (D := (dC, dI)) (ci := 6) (v := .ref h_signs) (C := RX6) (T := TX6) (N := 31) hx hb hts in_X6 hown hK hP 0 rfl rfl 14 (by decide) k_28 (fun _ h9 => h9) rfl dX6_fits_53 ?_
            refine lv_bipush (v := 17) hx hb dX6_fits_56 (by decide) ?_
            obtain ⟨b58, h⟩ := h
            refine va_iald hx hb hK hP 1 0 rfl rfl b58 dX6_fits_58 ?_
            refine lv_bipush (v := 10) hx hb dX6_fits_59 (by decide) ?_
            refine lv_icmp_ne (tgt := 94) hx hb dX6_fits_61 (by decide) (fun c61 => ?_) (fun c61 => ?_)
            · replace h := And.left h c61
              exact J94  H locs ls h hP hD hS (lv_sub hl [] rfl)
            · replace h := And.right h c61
              refine lv_aload_n hx hb dX6_fits_64 rfl (lv_at hl 0 rfl) ?_
              refine lv_iconst (v := 1) hx hb dX6_fits_65 (by decide) ?_
              refine lv_iconst (v := 4) hx hb dX6_fits_66 (by decide) ?_
              have hPc := hP.sub (ws' := [(h_this, .inr (6, [g_this_0, g_this_1, g_this_2, g_this_3, g_this_4, g_this_5, g_this_6, .int f_readPlaces, g_this_8, g_this_9, g_this_10, g_this_11, .int f_isRead, g_this_13, .ref h_signs, g_this_15, g_this_16, g_this_17, g_this_18, g_this_19, g_this_20, g_this_21, g_this_22, g_this_23, g_this_24, g_this_25, g_this_26, g_this_27, g_this_28, g_this_29, g_this_30])), (h_signs, .inl (cy, 20, .inl a_signs))]) [0, 1] rfl
              have hDc := hD.sub (ws' := [(h_this, .inr (6, [g_this_0, g_this_1, g_this_2, g_this_3, g_this_4, g_this_5, g_this_6, .int f_readPlaces, g_this_8, g_this_9, g_this_10, g_this_11, .int f_isRead, g_this_13, .ref h_signs, g_this_15, g_this_16, g_this_17, g_this_18, g_this_19, g_this_20, g_this_21, g_this_22, g_this_23, g_this_24, g_this_25, g_this_26, g_this_27, g_this_28, g_this_29, g_this_30])), (h_signs, .inl (cy, 20, .inl a_signs))]) [0, 1] (by decide) rfl
              have hFc := va_free (wc := [(h_this, .inr (6, [g_this_0, g_this_1, g_this_2, g_this_3, g_this_4, g_this_5, g_this_6, .int f_readPlaces, g_this_8, g_this_9, g_this_10, g_this_11, .int f_isRead, g_this_13, .ref h_signs, g_this_15, g_this_16, g_this_17, g_this_18, g_this_19, g_this_20, g_this_21, g_this_22, g_this_23, g_this_24, g_this_25, g_this_26, g_this_27, g_this_28, g_this_29, g_this_30])), (h_signs, .inl (cy, 20, .inl a_signs))]) hD hS hA [0, 1] rfl
              refine va_calli (va_runV (As := [.int 1, .int 4]) (rest := []) ⟨hx, hb, hml, hown, hts⟩ (c_X6_digits l dC dI cy h_this h_signs H.size (g_this_0) (g_this_1) (g_this_2) (g_this_3) (g_this_4) (g_this_5) (g_this_6) (.int f_readPlaces) (g_this_8) (g_this_9) (g_this_10) (g_this_11) (.int f_isRead) (g_this_13) (g_this_15) (g_this_16) (g_this_17) (g_this_18) (g_this_19) (g_this_20) (g_this_21) (g_this_22) (g_this_23) (g_this_24) (g_this_25) (g_this_26) (g_this_27) (g_this_28) (g_this_29) (g_this_30) a_signs 1 4 _ h) (cwV 2 hts gX6_fits_X6_digits rfl rfl rfl q_X6_digits ⟨Nat.le_of_ble_eq_true rfl, Nat.le_of_ble_eq_true rfl⟩) ⟨fun a U g mk q => by obtain ⟨q0, q1, qP, qK, qD⟩ := q; exact ⟨q0, q1, qP, va_K.moved (u := U) (U := U.calling g mk a) (Vm.Alike.refl U.vm) qK, qD⟩, va_recv hK hP (ci := 6) (q0 := 0) rfl rfl, fun U hU hW => ⟨rfl, by rw [hU], by rw [hU]; exact hPc, va_K.moved hW.alike hK, hDc.weaken (fun _ _ _ _ => trivial)⟩⟩ rfl rfl hl.1 rfl (lv_room (Nat.le_of_ble_eq_true rfl)) dX6_fits_67 ⟨Nat.le_of_ble_eq_true rfl, Nat.le_of_ble_eq_true rfl⟩) hS (fun q _ h => hFc q h) hFc (fun r67 u t H1 locs ht hvm hw hB hz1 hk1 hS => ?_)
              obtain ⟨hP1, hK1, hD1⟩ := hB
              rw [ht] at hP1
              obtain ⟨hP, hD⟩ := va_join (wr := []) (w1 := [(h_this, .inr (6, [g_this_0, g_this_1, g_this_2, g_this_3, g_this_4, g_this_5, g_this_6, .int f_readPlaces, g_this_8, g_this_9, g_this_10, g_this_11, .int f_isRead, g_this_13, .ref h_signs, g_this_15, g_this_16, g_this_17, g_this_18, g_this_19, g_this_20, g_this_21, g_this_22, g_this_23, g_this_24, g_this_25, g_this_26, g_this_27, g_this_28, g_this_29, g_this_30])), (h_signs, .inl (cy, 20, .inl a_signs))]) hP hD [0, 1] [] rfl rfl (by decide) (by decide) hk1 hFc hP1 hD1
              replace hP := hP.sub (ws' := [(h_this, .inr (6, [g_this_0, g_this_1, g_this_2, g_this_3, g_this_4, g_this_5, g_this_6, .int f_readPlaces, g_this_8, g_this_9, g_this_10, g_this_11, .int f_isRead, g_this_13, .ref h_signs, g_this_15, g_this_16, g_this_17, g_this_18, g_this_19, g_this_20, g_this_21, g_this_22, g_this_23, g_this_24, g_this_25, g_this_26, g_this_27, g_this_28, g_this_29, g_this_30])), (h_signs, .inl (cy, 20, .inl a_signs))]) [0, 1] rfl
              replace hD := hD.sub (ws' := [(h_this, .inr (6, [g_this_0, g_this_1, g_this_2, g_this_3, g_this_4, g_this_5, g_this_6, .int f_readPlaces, g_this_8, g_this_9, g_this_10, g_this_11, .int f_isRead, g_this_13, .ref h_signs, g_this_15, g_this_16, g_this_17, g_this_18, g_this_19, g_this_20, g_this_21, g_this_22, g_this_23, g_this_24, g_this_25, g_this_26, g_this_27, g_this_28, g_this_29, g_this_30])), (h_signs, .inl (cy, 20, .inl a_signs))]) [0, 1] (by decide) rfl
              clear hPc hDc hFc hP1 hK1 hD1 hz1 hk1 hvm
              subst ht
              generalize t.heap = H at hP hS ⊢
              replace h := hw
              clear hw
              refine lv_if_lt (tgt := 94) hx hb dX6_fits_70 (by decide) (fun c70 => ?_) (fun c70 => ?_)
              · replace h := And.left h c70
                exact J94  H locs ls h hP hD hS (lv_sub hl [] rfl)
              · replace h := And.right h c70
                refine lv_aload_n hx hb dX6_fits_73 rfl (lv_at hl 0 rfl) ?_
                refine lv_bipush (v := 6) hx hb dX6_fits_74 (by decide) ?_
                refine lv_bipush (v := 6) hx hb dX6_fits_76 (by decide) ?_
                have hPc := hP.sub (ws' := [(h_this, .inr (6, [g_this_0, g_this_1, g_this_2, g_this_3, g_this_4, g_this_5, g_this_6, .int f_readPlaces, g_this_8, g_this_9, g_this_10, g_this_11, .int f_isRead, g_this_13, .ref h_signs, g_this_15, g_this_16, g_this_17, g_this_18, g_this_19, g_this_20, g_this_21, g_this_22, g_this_23, g_this_24, g_this_25, g_this_26, g_this_27, g_this_28, g_this_29, g_this_30])), (h_signs, .inl (cy, 20, .inl a_signs))]) [0, 1] rfl
                have hDc := hD.sub (ws' := [(h_this, .inr (6, [g_this_0, g_this_1, g_this_2, g_this_3, g_this_4, g_this_5, g_this_6, .int f_readPlaces, g_this_8, g_this_9, g_this_10, g_this_11, .int f_isRead, g_this_13, .ref h_signs, g_this_15, g_this_16, g_this_17, g_this_18, g_this_19, g_this_20, g_this_21, g_this_22, g_this_23, g_this_24, g_this_25, g_this_26, g_this_27, g_this_28, g_this_29, g_this_30])), (h_signs, .inl (cy, 20, .inl a_signs))]) [0, 1] (by decide) rfl
                have hFc := va_free (wc := [(h_this, .inr (6, [g_this_0, g_this_1, g_this_2, g_this_3, g_this_4, g_this_5, g_this_6, .int f_readPlaces, g_this_8, g_this_9, g_this_10, g_this_11, .int f_isRead, g_this_13, .ref h_signs, g_this_15, g_this_16, g_this_17, g_this_18, g_this_19, g_this_20, g_this_21, g_this_22, g_this_23, g_this_24, g_this_25, g_this_26, g_this_27, g_this_28, g_this_29, g_this_30])), (h_signs, .inl (cy, 20, .inl a_signs))]) hD hS hA [0, 1] rfl
                refine va_calli (va_runV (As := [.int 6, .int 6]) (rest := []) ⟨hx, hb, hml, hown, hts⟩ (c_X6_digits l dC dI cy h_this h_signs H.size (g_this_0) (g_this_1) (g_this_2) (g_this_3) (g_this_4) (g_this_5) (g_this_6) (.int f_readPlaces) (g_this_8) (g_this_9) (g_this_10) (g_this_11) (.int f_isRead) (g_this_13) (g_this_15) (g_this_16) (g_this_17) (g_this_18) (g_this_19) (g_this_20) (g_this_21) (g_this_22) (g_this_23) (g_this_24) (g_this_25) (g_this_26) (g_this_27) (g_this_28) (g_this_29) (g_this_30) a_signs 6 6 _ h) (cwV 2 hts gX6_fits_X6_digits rfl rfl rfl q_X6_digits ⟨Nat.le_of_ble_eq_true rfl, Nat.le_of_ble_eq_true rfl⟩) ⟨fun a U g mk q => by obtain ⟨q0, q1, qP, qK, qD⟩ := q; exact ⟨q0, q1, qP, va_K.moved (u := U) (U := U.calling g mk a) (Vm.Alike.refl U.vm) qK, qD⟩, va_recv hK hP (ci := 6) (q0 := 0) rfl rfl, fun U hU hW => ⟨rfl, by rw [hU], by rw [hU]; exact hPc, va_K.moved hW.alike hK, hDc.weaken (fun _ _ _ _ => trivial)⟩⟩ rfl rfl hl.1 rfl (lv_room (Nat.le_of_ble_eq_true rfl)) dX6_fits_78 ⟨Nat.le_of_ble_eq_true rfl, Nat.le_of_ble_eq_true rfl⟩) hS (fun q _ h => hFc q h) hFc (fun r78 u t H1 locs ht hvm hw hB hz1 hk1 hS => ?_)
                obtain ⟨hP1, hK1, hD1⟩ := hB
                rw [ht] at hP1
                obtain ⟨hP, hD⟩ := va_join (wr := []) (w1 := [(h_this, .inr (6, [g_this_0, g_this_1, g_this_2, g_this_3, g_this_4, g_this_5, g_this_6, .int f_readPlaces, g_this_8, g_this_9, g_this_10, g_this_11, .int f_isRead, g_this_13, .ref h_signs, g_this_15, g_this_16, g_this_17, g_this_18, g_this_19, g_this_20, g_this_21, g_this_22, g_this_23, g_this_24, g_this_25, g_this_26, g_this_27, g_this_28, g_this_29, g_this_30])), (h_signs, .inl (cy, 20, .inl a_signs))]) hP hD [0, 1] [] rfl rfl (by decide) (by decide) hk1 hFc hP1 hD1
                replace hP := hP.sub (ws' := [(h_this, .inr (6, [g_this_0, g_this_1, g_this_2, g_this_3, g_this_4, g_this_5, g_this_6, .int f_readPlaces, g_this_8, g_this_9, g_this_10, g_this_11, .int f_isRead, g_this_13, .ref h_signs, g_this_15, g_this_16, g_this_17, g_this_18, g_this_19, g_this_20, g_this_21, g_this_22, g_this_23, g_this_24, g_this_25, g_this_26, g_this_27, g_this_28, g_this_29, g_this_30])), (h_signs, .inl (cy, 20, .inl a_signs))]) [0, 1] rfl
                replace hD := hD.sub (ws' := [(h_this, .inr (6, [g_this_0, g_this_1, g_this_2, g_this_3, g_this_4, g_this_5, g_this_6, .int f_readPlaces, g_this_8, g_this_9, g_this_10, g_this_11, .int f_isRead, g_this_13, .ref h_signs, g_this_15, g_this_16, g_this_17, g_this_18, g_this_19, g_this_20, g_this_21, g_this_22, g_this_23, g_this_24, g_this_25, g_this_26, g_this_27, g_this_28, g_this_29, g_this_30])), (h_signs, .inl (cy, 20, .inl a_signs))]) [0, 1] (by decide) rfl
                clear hPc hDc hFc hP1 hK1 hD1 hz1 hk1 hvm
                subst ht
                generalize t.heap = H at hP hS ⊢
                replace h := hw
                clear hw
                refine lv_if_lt (tgt := 94) hx hb dX6_fits_81 (by decide) (fun c81 => ?_) (fun c81 => ?_)
                · replace h := And.left h c81
                  exact J94  H locs ls h hP hD hS (lv_sub hl [] rfl)
                · replace h := And.right h c81
                  refine lv_aload_n hx hb dX6_fits_84 rfl (lv_at hl 0 rfl) ?_
                  refine lv_bipush (v := 13) hx hb dX6_fits_85 (by decide) ?_
                  refine lv_iconst (v := 4) hx hb dX6_fits_87 (by decide) ?_
                  have hPc := hP.sub (ws' := [(h_this, .inr (6, [g_this_0, g_this_1, g_this_2, g_this_3, g_this_4, g_this_5, g_this_6, .int f_readPlaces, g_this_8, g_this_9, g_this_10, g_this_11, .int f_isRead, g_this_13, .ref h_signs, g_this_15, g_this_16, g_this_17, g_this_18, g_this_19, g_this_20, g_this_21, g_this_22, g_this_23, g_this_24, g_this_25, g_this_26, g_this_27, g_this_28, g_this_29, g_this_30])), (h_signs, .inl (cy, 20, .inl a_signs))]) [0, 1] rfl
                  have hDc := hD.sub (ws' := [(h_this, .inr (6, [g_this_0, g_this_1, g_this_2, g_this_3, g_this_4, g_this_5, g_this_6, .int f_readPlaces, g_this_8, g_this_9, g_this_10, g_this_11, .int f_isRead, g_this_13, .ref h_signs, g_this_15, g_this_16, g_this_17, g_this_18, g_this_19, g_this_20, g_this_21, g_this_22, g_this_23, g_this_24, g_this_25, g_this_26, g_this_27, g_this_28, g_this_29, g_this_30])), (h_signs, .inl (cy, 20, .inl a_signs))]) [0, 1] (by decide) rfl
                  have hFc := va_free (wc := [(h_this, .inr (6, [g_this_0, g_this_1, g_this_2, g_this_3, g_this_4, g_this_5, g_this_6, .int f_readPlaces, g_this_8, g_this_9, g_this_10, g_this_11, .int f_isRead, g_this_13, .ref h_signs, g_this_15, g_this_16, g_this_17, g_this_18, g_this_19, g_this_20, g_this_21, g_this_22, g_this_23, g_this_24, g_this_25, g_this_26, g_this_27, g_this_28, g_this_29, g_this_30])), (h_signs, .inl (cy, 20, .inl a_signs))]) hD hS hA [0, 1] rfl
                  refine va_calli (va_runV (As := [.int 13, .int 4]) (rest := []) ⟨hx, hb, hml, hown, hts⟩ (c_X6_digits l dC dI cy h_this h_signs H.size (g_this_0) (g_this_1) (g_this_2) (g_this_3) (g_this_4) (g_this_5) (g_this_6) (.int f_readPlaces) (g_this_8) (g_this_9) (g_this_10) (g_this_11) (.int f_isRead) (g_this_13) (g_this_15) (g_this_16) (g_this_17) (g_this_18) (g_this_19) (g_this_20) (g_this_21) (g_this_22) (g_this_23) (g_this_24) (g_this_25) (g_this_26) (g_this_27) (g_this_28) (g_this_29) (g_this_30) a_signs 13 4 _ h) (cwV 2 hts gX6_fits_X6_digits rfl rfl rfl q_X6_digits ⟨Nat.le_of_ble_eq_true rfl, Nat.le_of_ble_eq_true rfl⟩) ⟨fun a U g mk q => by obtain ⟨q0, q1, qP, qK, qD⟩ := q; exact ⟨q0, q1, qP, va_K.moved (u := U) (U := U.calling g mk a) (Vm.Alike.refl U.vm) qK, qD⟩, va_recv hK hP (ci := 6) (q0 := 0) rfl rfl, fun U hU hW => ⟨rfl, by rw [hU], by rw [hU]; exact hPc, va_K.moved hW.alike hK, hDc.weaken (fun _ _ _ _ => trivial)⟩⟩ rfl rfl hl.1 rfl (lv_room (Nat.le_of_ble_eq_true rfl)) dX6_fits_88 ⟨Nat.le_of_ble_eq_true rfl, Nat.le_of_ble_eq_true rfl⟩) hS (fun q _ h => hFc q h) hFc (fun r88 u t H1 locs ht hvm hw hB hz1 hk1 hS => ?_)
                  obtain ⟨hP1, hK1, hD1⟩ := hB
                  rw [ht] at hP1
                  obtain ⟨hP, hD⟩ := va_join (wr := []) (w1 := [(h_this, .inr (6, [g_this_0, g_this_1, g_this_2, g_this_3, g_this_4, g_this_5, g_this_6, .int f_readPlaces, g_this_8, g_this_9, g_this_10, g_this_11, .int f_isRead, g_this_13, .ref h_signs, g_this_15, g_this_16, g_this_17, g_this_18, g_this_19, g_this_20, g_this_21, g_this_22, g_this_23, g_this_24, g_this_25, g_this_26, g_this_27, g_this_28, g_this_29, g_this_30])), (h_signs, .inl (cy, 20, .inl a_signs))]) hP hD [0, 1] [] rfl rfl (by decide) (by decide) hk1 hFc hP1 hD1
                  replace hP := hP.sub (ws' := [(h_this, .inr (6, [g_this_0, g_this_1, g_this_2, g_this_3, g_this_4, g_this_5, g_this_6, .int f_readPlaces, g_this_8, g_this_9, g_this_10, g_this_11, .int f_isRead, g_this_13, .ref h_signs, g_this_15, g_this_16, g_this_17, g_this_18, g_this_19, g_this_20, g_this_21, g_this_22, g_this_23, g_this_24, g_this_25, g_this_26, g_this_27, g_this_28, g_this_29, g_this_30])), (h_signs, .inl (cy, 20, .inl a_signs))]) [0, 1] rfl
                  replace hD := hD.sub (ws' := [(h_this, .inr (6, [g_this_0, g_this_1, g_this_2, g_this_3, g_this_4, g_this_5, g_this_6, .int f_readPlaces, g_this_8, g_this_9, g_this_10, g_this_11, .int f_isRead, g_this_13, .ref h_signs, g_this_15, g_this_16, g_this_17, g_this_18, g_this_19, g_this_20, g_this_21, g_this_22, g_this_23, g_this_24, g_this_25, g_this_26, g_this_27, g_this_28, g_this_29, g_this_30])), (h_signs, .inl (cy, 20, .inl a_signs))]) [0, 1] (by decide) rfl
                  clear hPc hDc hFc hP1 hK1 hD1 hz1 hk1 hvm
                  subst ht
                  generalize t.heap = H at hP hS ⊢
                  replace h := hw
                  clear hw
                  refine lv_if_ge (tgt := 96) hx hb dX6_fits_91 (by decide) (fun c91 => ?_) (fun c91 => ?_)
                  · replace h := And.left h c91
                    refine lv_bipush (v := 7) hx hb dX6_fits_96 (by decide) ?_
                    refine lv_aload_n hx hb dX6_fits_98 rfl (lv_at hl 0 rfl) ?_
                    refine va_get (D := (dC, dI)) (ci := 6) (v := .ref h_signs) (C := RX6) (T := TX6) (N := 31) hx hb hts in_X6 hown hK hP 0 rfl rfl 14 (by decide) k_28 (fun _ h9 => h9) rfl dX6_fits_99 ?_
                    refine lv_bipush (v := 6) hx hb dX6_fits_102 (by decide) ?_
                    obtain ⟨b104, h⟩ := h
                    refine va_iald hx hb hK hP 1 0 rfl rfl b104 dX6_fits_104 ?_
                    refine lv_imul hx hb dX6_fits_105 ?_
                    refine lv_iconst (v := 3) hx hb dX6_fits_106 (by decide) ?_
                    refine lv_aload_n hx hb dX6_fits_107 rfl (lv_at hl 0 rfl) ?_
                    refine va_get (D := (dC, dI)) (ci := 6) (v := .ref h_signs) (C := RX6) (T := TX6) (N := 31) hx hb hts in_X6 hown hK hP 0 rfl rfl 14 (by decide) k_28 (fun _ h9 => h9) rfl dX6_fits_108 ?_
                    refine lv_bipush (v := 7) hx hb dX6_fits_111 (by decide) ?_
                    obtain ⟨b113, h⟩ := h
                    refine va_iald hx hb hK hP 1 0 rfl rfl b113 dX6_fits_113 ?_
                    refine lv_imul hx hb dX6_fits_114 ?_
                    refine lv_iadd hx hb dX6_fits_115 ?_
                    refine lv_aload_n hx hb dX6_fits_116 rfl (lv_at hl 0 rfl) ?_
                    refine va_get (D := (dC, dI)) (ci := 6) (v := .ref h_signs) (C := RX6) (T := TX6) (N := 31) hx hb hts in_X6 hown hK hP 0 rfl rfl 14 (by decide) k_28 (fun _ h9 => h9) rfl dX6_fits_117 ?_
                    refine lv_bipush (v := 8) hx hb dX6_fits_120 (by decide) ?_
                    obtain ⟨b122, h⟩ := h
                    refine va_iald hx hb hK hP 1 0 rfl rfl b122 dX6_fits_122 ?_
                    refine lv_iadd hx hb dX6_fits_123 ?_
                    refine lv_bipush (v := 7) hx hb dX6_fits_124 (by decide) ?_
                    refine lv_aload_n hx hb dX6_fits_126 rfl (lv_at hl 0 rfl) ?_
                    refine va_get (D := (dC, dI)) (ci := 6) (v := .ref h_signs) (C := RX6) (T := TX6) (N := 31) hx hb hts in_X6 hown hK hP 0 rfl rfl 14 (by decide) k_28 (fun _ h9 => h9) rfl dX6_fits_127 ?_
                    refine lv_bipush (v := 9) hx hb dX6_fits_130 (by decide) ?_
                    obtain ⟨b132, h⟩ := h
                    refine va_iald hx hb hK hP 1 0 rfl rfl b132 dX6_fits_132 ?_
                    refine lv_imul hx hb dX6_fits_133 ?_
                    refine lv_iadd hx hb dX6_fits_134 ?_
                    refine lv_iconst (v := 3) hx hb dX6_fits_135 (by decide) ?_
                    refine lv_aload_n hx hb dX6_fits_136 rfl (lv_at hl 0 rfl) ?_
                    refine va_get (D := (dC, dI)) (ci := 6) (v := .ref h_signs) (C := RX6) (T := TX6) (N := 31) hx hb hts in_X6 hown hK hP 0 rfl rfl 14 (by decide) k_28 (fun _ h9 => h9) rfl dX6_fits_137 ?_
                    refine lv_bipush (v := 10) hx hb dX6_fits_140 (by decide) ?_
                    obtain ⟨b142, h⟩ := h
                    refine va_iald hx hb hK hP 1 0 rfl rfl b142 dX6_fits_142 ?_
                    refine lv_imul hx hb dX6_fits_143 ?_
                    refine lv_iadd hx hb dX6_fits_144 ?_
                    refine lv_aload_n hx hb dX6_fits_145 rfl (lv_at hl 0 rfl) ?_
                    refine va_get (D := (dC, dI)) (ci := 6) (v := .ref h_signs) (C := RX6) (T := TX6) (N := 31) hx hb hts in_X6 hown hK hP 0 rfl rfl 14 (by decide) k_28 (fun _ h9 => h9) rfl dX6_fits_146 ?_
                    refine lv_bipush (v := 11) hx hb dX6_fits_149 (by decide) ?_
                    obtain ⟨b151, h⟩ := h
                    refine va_iald hx hb hK hP 1 0 rfl rfl b151 dX6_fits_151 ?_
                    refine lv_iadd hx hb dX6_fits_152 ?_
                    refine lv_bipush (v := 10) hx hb dX6_fits_153 (by decide) ?_
                    refine my_irem hx hb dX6_fits_155 (by decide) ?_
                    refine lv_if_ne (tgt := 163) hx hb dX6_fits_156 (by decide) (fun c156 => ?_) (fun c156 => ?_)
                    · replace h := And.left h c156
                      refine lv_iconst (v := 0) hx hb dX6_fits_163 (by decide) ?_
                      exact J164 0 H locs ls h hP hD hS (lv_sub hl [] rfl)
                    · replace h := And.right h c156
                      refine lv_iconst (v := 1) hx hb dX6_fits_159 (by decide) ?_
                      refine lv_goto (tgt := 164) hx hb dX6_fits_160 (by decide) ?_
                      exact J164 1 H locs ls h hP hD hS (lv_sub hl [] rfl)
                  · replace h := And.right h c91
                    exact J94  H locs ls h hP hD hS (lv_sub hl [] rfl)
    · replace h := And.right h c13
      exact J16  H locs ls h hP hD hS (lv_sub hl [] rfl)
abbrev rm_X6_about : Room := { frames := 2, cells := 0, slots := 0, locals := 44 }
theorem q_X6_about : yX6_about.cls = RX6 ∧ yX6_about.cls ≠ "java/lang/invoke/MethodHandle" ∧ yX6_about.cls ≠ "java/lang/invoke/VarHandle" ∧ (parseMethodDescriptor yX6_about.desc).map (fun d => d.parameters.length) = some 1 := by decide +kernel
set_option maxHeartbeats 4000000 in
set_option maxRecDepth 100000 in
theorem c_X6_about (l : Launch) (dC : Nat → ClassId) (dI : Nat → Nat → Nat) (cy : ClassId) (h_this : Nat) (h_signs : Nat) (sz : Nat) (g_this_1 g_this_2 g_this_3 g_this_4 g_this_5 g_this_6 g_this_8 g_this_9 g_this_15 g_this_16 g_this_17 g_this_18 g_this_19 g_this_20 g_this_21 g_this_22 g_this_23 g_this_24 g_this_25 g_this_26 g_this_27 g_this_28 g_this_29 g_this_30 : Value) (f_thrown : Int32) (f_readPlaces : Int32) (f_cost : Int32) (f_gap : Int32) (f_isRead : Int32) (f_isTurned : Int32) (a_signs : Nat → Int32) (x1 : Int32) (Q : Int32 → Int32 → Prop) (h : p_X6_about f_thrown f_readPlaces f_cost f_gap f_isRead f_isTurned a_signs x1 Q) : Met l yX6_about wsX6_about rm_X6_about (va_Pc [.ref h_this, .int x1] (fun U => U.heap.size = sz ∧ va_P (dC, dI) vwCl [(h_this, .inr (6, [.int f_thrown, g_this_1, g_this_2, g_this_3, g_this_4, g_this_5, g_this_6, .int f_readPlaces, g_this_8, g_this_9, .int f_cost, .int f_gap, .int f_isRead, .int f_isTurned, .ref h_signs, g_this_15, g_this_16, g_this_17, g_this_18, g_this_19, g_this_20, g_this_21, g_this_22, g_this_23, g_this_24, g_this_25, g_this_26, g_this_27, g_this_28, g_this_29, g_this_30])), (h_signs, .inl (cy, 20, .inl a_signs))] U.heap ∧ va_K (dC, dI) vwCl [(cy, .int)] U ∧ va_D (fun _ => True) [(h_this, .inr (6, [.int f_thrown, g_this_1, g_this_2, g_this_3, g_this_4, g_this_5, g_this_6, .int f_readPlaces, g_this_8, g_this_9, .int f_cost, .int f_gap, .int f_isRead, .int f_isTurned, .ref h_signs, g_this_15, g_this_16, g_this_17, g_this_18, g_this_19, g_this_20, g_this_21, g_this_22, g_this_23, g_this_24, g_this_25, g_this_26, g_this_27, g_this_28, g_this_29, g_this_30])), (h_signs, .inl (cy, 20, .inl a_signs))])) (va_Qi (fun (r : Int32) (u : Int32) => Q r u) (fun (u : Int32) (t : State) => va_P (dC, dI) vwCl [(h_this, .inr (6, [.int u, g_this_1, g_this_2, g_this_3, g_this_4, g_this_5, g_this_6, .int f_readPlaces, g_this_8, g_this_9, .int f_cost, .int f_gap, .int f_isRead, .int f_isTurned, .ref h_signs, g_this_15, g_this_16, g_this_17, g_this_18, g_this_19, g_this_20, g_this_21, g_this_22, g_this_23, g_this_24, g_this_25, g_this_26, g_this_27, g_this_28, g_this_29, g_this_30])), (h_signs, .inl (cy, 20, .inl a_signs))] t.heap ∧ va_K (dC, dI) vwCl [(cy, .int)] t ∧ va_D (va_A [(h_this, .inr (6, [.int f_thrown, g_this_1, g_this_2, g_this_3, g_this_4, g_this_5, g_this_6, .int f_readPlaces, g_this_8, g_this_9, .int f_cost, .int f_gap, .int f_isRead, .int f_isTurned, .ref h_signs, g_this_15, g_this_16, g_this_17, g_this_18, g_this_19, g_this_20, g_this_21, g_this_22, g_this_23, g_this_24, g_this_25, g_this_26, g_this_27, g_this_28, g_this_29, g_this_30])), (h_signs, .inl (cy, 20, .inl a_signs))] sz) [(h_this, .inr (6, [.int u, g_this_1, g_this_2, g_this_3, g_this_4, g_this_5, g_this_6, .int f_readPlaces, g_this_8, g_this_9, .int f_cost, .int f_gap, .int f_isRead, .int f_isTurned, .ref h_signs, g_this_15, g_this_16, g_this_17, g_this_18, g_this_19, g_this_20, g_this_21, g_this_22, g_this_23, g_this_24, g_this_25, g_this_26, g_this_27, g_this_28, g_this_29, g_this_30])), (h_signs, .inl (cy, 20, .inl a_signs))]) (va_A [(h_this, .inr (6, [.int f_thrown, g_this_1, g_this_2, g_this_3, g_this_4, g_this_5, g_this_6, .int f_readPlaces, g_this_8, g_this_9, .int f_cost, .int f_gap, .int f_isRead, .int f_isTurned, .ref h_signs, g_this_15, g_this_16, g_this_17, g_this_18, g_this_19, g_this_20, g_this_21, g_this_22, g_this_23, g_this_24, g_this_25, g_this_26, g_this_27, g_this_28, g_this_29, g_this_30])), (h_signs, .inl (cy, 20, .inl a_signs))] sz)) 0 0 (va_A [(h_this, .inr (6, [.int f_thrown, g_this_1, g_this_2, g_this_3, g_this_4, g_this_5, g_this_6, .int f_readPlaces, g_this_8, g_this_9, .int f_cost, .int f_gap, .int f_isRead, .int f_isTurned, .ref h_signs, g_this_15, g_this_16, g_this_17, g_this_18, g_this_19, g_this_20, g_this_21, g_this_22, g_this_23, g_this_24, g_this_25, g_this_26, g_this_27, g_this_28, g_this_29, g_this_30])), (h_signs, .inl (cy, 20, .inl a_signs))] sz) := by
  refine Met.ofW (cc := cX6_about) (maxL := 2) (ret := (some .int)) (by decide) rfl ?_
  intro p e s m args below meth c s₁ B hml hv
  obtain ⟨hargs, hsz, hP, hK, hD0⟩ := hv
  have hx := B.exec
  have hb := B.bytes
  have hr := B.returns
  have hts := atoms_spec (ws := wsX6_about) B.pre
  have hown : s.vm.findClass RX6 = some m.cls := findClass_of_methodNamed B.named
  have hlocks := B.notSynchronized
  subst hsz
  have hD := hD0.self (sz := s.heap.size)
  generalize hAe : va_A [(h_this, .inr (6, [.int f_thrown, g_this_1, g_this_2, g_this_3, g_this_4, g_this_5, g_this_6, .int f_readPlaces, g_this_8, g_this_9, .int f_cost, .int f_gap, .int f_isRead, .int f_isTurned, .ref h_signs, g_this_15, g_this_16, g_this_17, g_this_18, g_this_19, g_this_20, g_this_21, g_this_22, g_this_23, g_this_24, g_this_25, g_this_26, g_this_27, g_this_28, g_this_29, g_this_30])), (h_signs, .inl (cy, 20, .inl a_signs))] s.heap.size = A at hD ⊢
  have hA : ∀ q : Nat, s.heap.size ≤ q → A q := fun q h => by rw [← hAe]; exact Or.inr h
  have hS : va_S A s.heap s.heap [] := va_S.rf
  have in_X6 : ∀ w ∈ u_ws RX6 TX6 31, w ∈ wsX6_about := by decide +kernel
  have k_58 := hts (.fieldLink RX6 58 "ChequeDeskModel" "thrown" "I") (by decide +kernel)
  have k_102 := hts (.fieldLink RX6 102 "ChequeDeskModel" "isTurned" "Z") (by decide +kernel)
  have k_106 := hts (.fieldLink RX6 106 "ChequeDeskModel" "cost" "I") (by decide +kernel)
  have k_117 := hts (.fieldLink RX6 117 "ChequeDeskModel" "gap" "I") (by decide +kernel)
  have k_120 := hts (.fieldLink RX6 120 "ChequeDeskModel" "readPlaces" "I") (by decide +kernel)
  have k_123 := hts (.fieldLink RX6 123 "ChequeDeskModel" "isRead" "Z") (by decide +kernel)
  have hl := lv_entry ([.ref h_this, .int x1]) (n := 2) (Nat.le_of_ble_eq_true rfl)
  rw [show entryFrame m args 2 = entryFrame m ([.ref h_this, .int x1] : List Value).toArray 2 by rw [hargs], lg_entry_eq]
  generalize (lg_sl ([.ref h_this, .int x1]) ++ List.replicate (2 - (lg_sl ([.ref h_this, .int x1])).length) Slot.unset).toArray = ls at hl ⊢
  have hl : lv_has ls 2 [(0, .ref h_this), (1, .int x1)] := hl
  have hP : va_P (dC, dI) vwCl [(h_this, .inr (6, [.int f_thrown, g_this_1, g_this_2, g_this_3, g_this_4, g_this_5, g_this_6, .int f_readPlaces, g_this_8, g_this_9, .int f_cost, .int f_gap, .int f_isRead, .int f_isTurned, .ref h_signs, g_this_15, g_this_16, g_this_17, g_this_18, g_this_19, g_this_20, g_this_21, g_this_22, g_this_23, g_this_24, g_this_25, g_this_26, g_this_27, g_this_28, g_this_29, g_this_30])), (h_signs, .inl (cy, 20, .inl a_signs))] s.heap := hP
  change W p l e rm_X6_about s m args below meth c s.heap [] 0 0 _ _
  generalize hQQ : MQ below _ _ _ _ _ _ = QQ
  have RET : ∀ (r : Int32) (f_thrown : Int32) (H : Heap) (locs : List Loc) (ls : Array Slot) (pc : Nat), decode cX6_about pc = .ok (.ireturn, 1) → Q r f_thrown → va_P (dC, dI) vwCl [(h_this, .inr (6, [.int f_thrown, g_this_1, g_this_2, g_this_3, g_this_4, g_this_5, g_this_6, .int f_readPlaces, g_this_8, g_this_9, .int f_cost, .int f_gap, .int f_isRead, .int f_isTurned, .ref h_signs, g_this_15, g_this_16, g_this_17, g_this_18, g_this_19, g_this_20, g_this_21, g_this_22, g_this_23, g_this_24, g_this_25, g_this_26, g_this_27, g_this_28, g_this_29, g_this_30])), (h_signs, .inl (cy, 20, .inl a_signs))] H → va_D A [(h_this, .inr (6, [.int f_thrown, g_this_1, g_this_2, g_this_3, g_this_4, g_this_5, g_this_6, .int f_readPlaces, g_this_8, g_this_9, .int f_cost, .int f_gap, .int f_isRead, .int f_isTurned, .ref h_signs, g_this_15, g_this_16, g_this_17, g_this_18, g_this_19, g_this_20, g_this_21, g_this_22, g_this_23, g_this_24, g_this_25, g_this_26, g_this_27, g_this_28, g_this_29, g_this_30])), (h_signs, .inl (cy, 20, .inl a_signs))] → va_S A s.heap H locs → W p l e rm_X6_about s m args below meth c H locs 0 0 QQ (F0 m pc ls [.int r]) := by
    intro r f_thrown H locs ls pc hdg hq hP hD hS
    rw [← hQQ]
    exact W.iret (v := r) hx hb hr (fun t ht hW => ⟨⟨r, f_thrown, rfl, hq, by rw [ht]; exact hP, va_K.moved hW.alike hK, hD⟩, hS.F ht⟩) hS.2.2 hdg
  clear hQQ
  unfold p_X6_about at h
  have J105 : ∀ (s0 : Int32) (f_thrown : Int32) (H : Heap) (locs : List Loc) (ls : Array Slot), p_X6_about_J105 f_thrown Q s0 → va_P (dC, dI) vwCl [(h_this, .inr (6, [.int f_thrown, g_this_1, g_this_2, g_this_3, g_this_4, g_this_5, g_this_6, .int f_readPlaces, g_this_8, g_this_9, .int f_cost, .int f_gap, .int f_isRead, .int f_isTurned, .ref h_signs, g_this_15, g_this_16, g_this_17, g_this_18, g_this_19, g_this_20, g_this_21, g_this_22, g_this_23, g_this_24, g_this_25, g_this_26, g_this_27, g_this_28, g_this_29, g_this_30])), (h_signs, .inl (cy, 20, .inl a_signs))] H → va_D A [(h_this, .inr (6, [.int f_thrown, g_this_1, g_this_2, g_this_3, g_this_4, g_this_5, g_this_6, .int f_readPlaces, g_this_8, g_this_9, .int f_cost, .int f_gap, .int f_isRead, .int f_isTurned, .ref h_signs, g_this_15, g_this_16, g_this_17, g_this_18, g_this_19, g_this_20, g_this_21, g_this_22, g_this_23, g_this_24, g_this_25, g_this_26, g_this_27, g_this_28, g_this_29, g_this_30])), (h_signs, .inl (cy, 20, .inl a_signs))] → va_S A s.heap H locs → lv_has ls 2 [] → W p l e rm_X6_about s m args below meth c H locs 0 0 QQ (F0 m 105 ls [.int s0]) := by
    intro s0 f_thrown H locs ls h hP hD hS hl
    unfold p_X6_about_J105 at h
    exact RET s0 f_thrown H locs ls 105 dX6_about_105 h hP hD hS
  have J20 : ∀ (x1 : Int32) (s0 : Int32) (f_thrown : Int32) (H : Heap) (locs : List Loc) (ls : Array Slot), p_X6_about_J20 f_thrown f_readPlaces f_cost f_gap f_isRead f_isTurned a_signs Q x1 s0 → va_P (dC, dI) vwCl [(h_this, .inr (6, [.int f_thrown, g_this_1, g_this_2, g_this_3, g_this_4, g_this_5, g_this_6, .int f_readPlaces, g_this_8, g_this_9, .int f_cost, .int f_gap, .int f_isRead, .int f_isTurned, .ref h_signs, g_this_15, g_this_16, g_this_17, g_this_18, g_this_19, g_this_20, g_this_21, g_this_22, g_this_23, g_this_24, g_this_25, g_this_26, g_this_27, g_this_28, g_this_29, g_this_30])), (h_signs, .inl (cy, 20, .inl a_signs))] H → va_D A [(h_this, .inr (6, [.int f_thrown, g_this_1, g_this_2, g_this_3, g_this_4, g_this_5, g_this_6, .int f_readPlaces, g_this_8, g_this_9, .int f_cost, .int f_gap, .int f_isRead, .int f_isTurned, .ref h_signs, g_this_15, g_this_16, g_this_17, g_this_18, g_this_19, g_this_20, g_this_21, g_this_22, g_this_23, g_this_24, g_this_25, g_this_26, g_this_27, g_this_28, g_this_29, g_this_30])), (h_signs, .inl (cy, 20, .inl a_signs))] → va_S A s.heap H locs → lv_has ls 2 [(0, .ref h_this), (1, .int x1)] → W p l e rm_X6_about s m args below meth c H locs 0 0 QQ (F0 m 20 ls [.int s0, .ref h_this]) := by
    intro x1 s0 f_thrown H locs ls h hP hD hS hl
    unfold p_X6_about_J20 at h
    refine lv_iconst (v := 1) hx hb dX6_about_20 (by decide) ?_
    have hPc := hP.sub (ws' := [(h_this, .inr (6, [.int f_thrown, g_this_1, g_this_2, g_this_3, g_this_4, g_this_5, g_this_6, .int f_readPlaces, g_this_8, g_this_9, .int f_cost, .int f_gap, .int f_isRead, .int f_isTurned, .ref h_signs, g_this_15, g_this_16, g_this_17, g_this_18, g_this_19, g_this_20, g_this_21, g_this_22, g_this_23, g_this_24, g_this_25, g_this_26, g_this_27, g_this_28, g_this_29, g_this_30]))]) [0] rfl
    have hDc := hD.sub (ws' := [(h_this, .inr (6, [.int f_thrown, g_this_1, g_this_2, g_this_3, g_this_4, g_this_5, g_this_6, .int f_readPlaces, g_this_8, g_this_9, .int f_cost, .int f_gap, .int f_isRead, .int f_isTurned, .ref h_signs, g_this_15, g_this_16, g_this_17, g_this_18, g_this_19, g_this_20, g_this_21, g_this_22, g_this_23, g_this_24, g_this_25, g_this_26, g_this_27, g_this_28, g_this_29, g_this_30]))]) [0] (by decide) rfl
    have hFc := va_free (wc := [(h_this, .inr (6, [.int f_thrown, g_this_1, g_this_2, g_this_3, g_this_4, g_this_5, g_this_6, .int f_readPlaces, g_this_8, g_this_9, .int f_cost, .int f_gap, .int f_isRead, .int f_isTurned, .ref h_signs, g_this_15, g_this_16, g_this_17, g_this_18, g_this_19, g_this_20, g_this_21, g_this_22, g_this_23, g_this_24, g_this_25, g_this_26, g_this_27, g_this_28, g_this_29, g_this_30]))]) hD hS hA [0] rfl
    refine va_calli (va_runV (As := [.int s0, .int 1]) (rest := []) ⟨hx, hb, hml, hown, hts⟩ (c_X6_bad l dC dI cy h_this H.size (g_this_1) (g_this_2) (g_this_3) (g_this_4) (g_this_5) (g_this_6) (.int f_readPlaces) (g_this_8) (g_this_9) (.int f_cost) (.int f_gap) (.int f_isRead) (.int f_isTurned) (.ref h_signs) (g_this_15) (g_this_16) (g_this_17) (g_this_18) (g_this_19) (g_this_20) (g_this_21) (g_this_22) (g_this_23) (g_this_24) (g_this_25) (g_this_26) (g_this_27) (g_this_28) (g_this_29) (g_this_30) f_thrown s0 1 _ h) (cwV 2 hts gX6_about_X6_bad rfl rfl rfl q_X6_bad ⟨Nat.le_of_ble_eq_true rfl, Nat.le_of_ble_eq_true rfl⟩) ⟨fun a U g mk q => by obtain ⟨q0, q1, qP, qK, qD⟩ := q; exact ⟨q0, q1, qP, va_K.moved (u := U) (U := U.calling g mk a) (Vm.Alike.refl U.vm) qK, qD⟩, va_recv hK hP (ci := 6) (q0 := 0) rfl rfl, fun U hU hW => ⟨rfl, by rw [hU], by rw [hU]; exact hPc, va_K.moved hW.alike hK, hDc.weaken (fun _ _ _ _ => trivial)⟩⟩ rfl rfl hl.1 rfl (lv_room (Nat.le_of_ble_eq_true rfl)) dX6_about_21 ⟨Nat.le_of_ble_eq_true rfl, Nat.le_of_ble_eq_true rfl⟩) hS (fun q _ h => hFc q h) hFc (fun r21 u t H1 locs ht hvm hw hB hz1 hk1 hS => ?_)
    obtain ⟨f_thrown_21, rfl⟩ : ∃ z, z = u := ⟨_, rfl⟩
    obtain ⟨hP1, hK1, hD1⟩ := hB
    rw [ht] at hP1
    obtain ⟨hP, hD⟩ := va_join (wr := [(h_signs, .inl (cy, 20, .inl a_signs))]) (w1 := [(h_this, .inr (6, [.int f_thrown_21, g_this_1, g_this_2, g_this_3, g_this_4, g_this_5, g_this_6, .int f_readPlaces, g_this_8, g_this_9, .int f_cost, .int f_gap, .int f_isRead, .int f_isTurned, .ref h_signs, g_this_15, g_this_16, g_this_17, g_this_18, g_this_19, g_this_20, g_this_21, g_this_22, g_this_23, g_this_24, g_this_25, g_this_26, g_this_27, g_this_28, g_this_29, g_this_30]))]) hP hD [0] [1] rfl rfl (by decide) (by decide) hk1 hFc hP1 hD1
    replace hP := hP.sub (ws' := [(h_this, .inr (6, [.int f_thrown_21, g_this_1, g_this_2, g_this_3, g_this_4, g_this_5, g_this_6, .int f_readPlaces, g_this_8, g_this_9, .int f_cost, .int f_gap, .int f_isRead, .int f_isTurned, .ref h_signs, g_this_15, g_this_16, g_this_17, g_this_18, g_this_19, g_this_20, g_this_21, g_this_22, g_this_23, g_this_24, g_this_25, g_this_26, g_this_27, g_this_28, g_this_29, g_this_30])), (h_signs, .inl (cy, 20, .inl a_signs))]) [1, 0] rfl
    replace hD := hD.sub (ws' := [(h_this, .inr (6, [.int f_thrown_21, g_this_1, g_this_2, g_this_3, g_this_4, g_this_5, g_this_6, .int f_readPlaces, g_this_8, g_this_9, .int f_cost, .int f_gap, .int f_isRead, .int f_isTurned, .ref h_signs, g_this_15, g_this_16, g_this_17, g_this_18, g_this_19, g_this_20, g_this_21, g_this_22, g_this_23, g_this_24, g_this_25, g_this_26, g_this_27, g_this_28, g_this_29, g_this_30])), (h_signs, .inl (cy, 20, .inl a_signs))]) [1, 0] (by decide) rfl
    clear hPc hDc hFc hP1 hK1 hD1 hz1 hk1 hvm
    subst ht
    generalize t.heap = H at hP hS ⊢
    replace h := hw
    clear hw
    refine lv_if_eq (tgt := 29) hx hb dX6_about_24 (by decide) (fun c24 => ?_) (fun c24 => ?_)
    · replace h := And.left h c24
      refine lv_aload_n hx hb dX6_about_29 rfl (lv_at hl 0 rfl) ?_
      refine va_get (D := (dC, dI)) (ci := 6) (v := .int f_isRead) (C := RX6) (T := TX6) (N := 31) hx hb hts in_X6 hown hK hP 0 rfl rfl 12 (by decide) k_123 (fun _ h9 => h9) rfl dX6_about_30 ?_
      refine lv_if_ne (tgt := 38) hx hb dX6_about_33 (by decide) (fun c33 => ?_) (fun c33 => ?_)
      · replace h := And.left h c33
        refine lv_iload_n hx hb dX6_about_38 rfl (lv_at hl 1 rfl) ?_
        refine lv_if_ne (tgt := 49) hx hb dX6_about_39 (by decide) (fun c39 => ?_) (fun c39 => ?_)
        · replace h := And.left h c39
          refine lv_iload_n hx hb dX6_about_49 rfl (lv_at hl 1 rfl) ?_
          refine lv_iconst (v := 1) hx hb dX6_about_50 (by decide) ?_
          refine lv_icmp_ne (tgt := 61) hx hb dX6_about_51 (by decide) (fun c51 => ?_) (fun c51 => ?_)
          · replace h := And.left h c51
            refine lv_iload_n hx hb dX6_about_61 rfl (lv_at hl 1 rfl) ?_
            refine lv_iconst (v := 2) hx hb dX6_about_62 (by decide) ?_
            refine lv_icmp_ne (tgt := 73) hx hb dX6_about_63 (by decide) (fun c63 => ?_) (fun c63 => ?_)
            · replace h := And.left h c63
              refine lv_iload_n hx hb dX6_about_73 rfl (lv_at hl 1 rfl) ?_
              refine lv_iconst (v := 3) hx hb dX6_about_74 (by decide) ?_
              refine lv_icmp_ne (tgt := 93) hx hb dX6_about_75 (by decide) (fun c75 => ?_) (fun c75 => ?_)
              · replace h := And.left h c75
                refine lv_aload_n hx hb dX6_about_93 rfl (lv_at hl 0 rfl) ?_
                have hPc := hP.sub (ws' := [(h_this, .inr (6, [.int f_thrown_21, g_this_1, g_this_2, g_this_3, g_this_4, g_this_5, g_this_6, .int f_readPlaces, g_this_8, g_this_9, .int f_cost, .int f_gap, .int f_isRead, .int f_isTurned, .ref h_signs, g_this_15, g_this_16, g_this_17, g_this_18, g_this_19, g_this_20, g_this_21, g_this_22, g_this_23, g_this_24, g_this_25, g_this_26, g_this_27, g_this_28, g_this_29, g_this_30])), (h_signs, .inl (cy, 20, .inl a_signs))]) [0, 1] rfl
                have hDc := hD.sub (ws' := [(h_this, .inr (6, [.int f_thrown_21, g_this_1, g_this_2, g_this_3, g_this_4, g_this_5, g_this_6, .int f_readPlaces, g_this_8, g_this_9, .int f_cost, .int f_gap, .int f_isRead, .int f_isTurned, .ref h_signs, g_this_15, g_this_16, g_this_17, g_this_18, g_this_19, g_this_20, g_this_21, g_this_22, g_this_23, g_this_24, g_this_25, g_this_26, g_this_27, g_this_28, g_this_29, g_this_30])), (h_signs, .inl (cy, 20, .inl a_signs))]) [0, 1] (by decide) rfl
                have hFc := va_free (wc := [(h_this, .inr (6, [.int f_thrown_21, g_this_1, g_this_2, g_this_3, g_this_4, g_this_5, g_this_6, .int f_readPlaces, g_this_8, g_this_9, .int f_cost, .int f_gap, .int f_isRead, .int f_isTurned, .ref h_signs, g_this_15, g_this_16, g_this_17, g_this_18, g_this_19, g_this_20, g_this_21, g_this_22, g_this_23, g_this_24, g_this_25, g_this_26, g_this_27, g_this_28, g_this_29, g_this_30])), (h_signs, .inl (cy, 20, .inl a_signs))]) hD hS hA [0, 1] rfl
                refine va_calli (va_runV (As := []) (rest := []) ⟨hx, hb, hml, hown, hts⟩ (c_X6_fits l dC dI cy h_this h_signs H.size (.int f_thrown_21) (g_this_1) (g_this_2) (g_this_3) (g_this_4) (g_this_5) (g_this_6) (g_this_8) (g_this_9) (.int f_cost) (.int f_gap) (.int f_isTurned) (g_this_15) (g_this_16) (g_this_17) (g_this_18) (g_this_19) (g_this_20) (g_this_21) (g_this_22) (g_this_23) (g_this_24) (g_this_25) (g_this_26) (g_this_27) (g_this_28) (g_this_29) (g_this_30) f_readPlaces f_isRead a_signs  _ h) (cwV 0 hts gX6_about_X6_fits rfl rfl rfl q_X6_fits ⟨Nat.le_of_ble_eq_true rfl, Nat.le_of_ble_eq_true rfl⟩) ⟨fun a U g mk q => by obtain ⟨q0, q1, qP, qK, qD⟩ := q; exact ⟨q0, q1, qP, va_K.moved (u := U) (U := U.calling g mk a) (Vm.Alike.refl U.vm) qK, qD⟩, va_recv hK hP (ci := 6) (q0 := 0) rfl rfl, fun U hU hW => ⟨rfl, by rw [hU], by rw [hU]; exact hPc, va_K.moved hW.alike hK, hDc.weaken (fun _ _ _ _ => trivial)⟩⟩ rfl rfl hl.1 rfl (lv_room (Nat.le_of_ble_eq_true rfl)) dX6_about_94 ⟨Nat.le_of_ble_eq_true rfl, Nat.le_of_ble_eq_true rfl⟩) hS (fun q _ h => hFc q h) hFc (fun r94 u t H1 locs ht hvm hw hB hz1 hk1 hS => ?_)
                obtain ⟨hP1, hK1, hD1⟩ := hB
                rw [ht] at hP1
                obtain ⟨hP, hD⟩ := va_join (wr := []) (w1 := [(h_this, .inr (6, [.int f_thrown_21, g_this_1, g_this_2, g_this_3, g_this_4, g_this_5, g_this_6, .int f_readPlaces, g_this_8, g_this_9, .int f_cost, .int f_gap, .int f_isRead, .int f_isTurned, .ref h_signs, g_this_15, g_this_16, g_this_17, g_this_18, g_this_19, g_this_20, g_this_21, g_this_22, g_this_23, g_this_24, g_this_25, g_this_26, g_this_27, g_this_28, g_this_29, g_this_30])), (h_signs, .inl (cy, 20, .inl a_signs))]) hP hD [0, 1] [] rfl rfl (by decide) (by decide) hk1 hFc hP1 hD1
                replace hP := hP.sub (ws' := [(h_this, .inr (6, [.int f_thrown_21, g_this_1, g_this_2, g_this_3, g_this_4, g_this_5, g_this_6, .int f_readPlaces, g_this_8, g_this_9, .int f_cost, .int f_gap, .int f_isRead, .int f_isTurned, .ref h_signs, g_this_15, g_this_16, g_this_17, g_this_18, g_this_19, g_this_20, g_this_21, g_this_22, g_this_23, g_this_24, g_this_25, g_this_26, g_this_27, g_this_28, g_this_29, g_this_30])), (h_signs, .inl (cy, 20, .inl a_signs))]) [0, 1] rfl
                replace hD := hD.sub (ws' := [(h_this, .inr (6, [.int f_thrown_21, g_this_1, g_this_2, g_this_3, g_this_4, g_this_5, g_this_6, .int f_readPlaces, g_this_8, g_this_9, .int f_cost, .int f_gap, .int f_isRead, .int f_isTurned, .ref h_signs, g_this_15, g_this_16, g_this_17, g_this_18, g_this_19, g_this_20, g_this_21, g_this_22, g_this_23, g_this_24, g_this_25, g_this_26, g_this_27, g_this_28, g_this_29, g_this_30])), (h_signs, .inl (cy, 20, .inl a_signs))]) [0, 1] (by decide) rfl
                clear hPc hDc hFc hP1 hK1 hD1 hz1 hk1 hvm
                subst ht
                generalize t.heap = H at hP hS ⊢
                replace h := hw
                clear hw
                refine lv_if_eq (tgt := 104) hx hb dX6_about_97 (by decide) (fun c97 => ?_) (fun c97 => ?_)
                · replace h := And.left h c97
                  refine lv_iconst (v := 0) hx hb dX6_about_104 (by decide) ?_
                  exact J105 0 f_thrown_21 H locs ls h hP hD hS (lv_sub hl [] rfl)
                · replace h := And.right h c97
                  refine lv_iconst (v := 1) hx hb dX6_about_100 (by decide) ?_
                  refine lv_goto (tgt := 105) hx hb dX6_about_101 (by decide) ?_
                  exact J105 1 f_thrown_21 H locs ls h hP hD hS (lv_sub hl [] rfl)
              · replace h := And.right h c75
                refine lv_aload_n hx hb dX6_about_78 rfl (lv_at hl 0 rfl) ?_
                refine va_get (D := (dC, dI)) (ci := 6) (v := .int f_isTurned) (C := RX6) (T := TX6) (N := 31) hx hb hts in_X6 hown hK hP 0 rfl rfl 13 (by decide) k_102 (fun _ h9 => h9) rfl dX6_about_79 ?_
                refine lv_if_eq (tgt := 89) hx hb dX6_about_82 (by decide) (fun c82 => ?_) (fun c82 => ?_)
                · replace h := And.left h c82
                  refine lv_iconst (v := 0) hx hb dX6_about_89 (by decide) ?_
                  refine lv_goto (tgt := 105) hx hb dX6_about_90 (by decide) ?_
                  exact J105 0 f_thrown_21 H locs ls h hP hD hS (lv_sub hl [] rfl)
                · replace h := And.right h c82
                  refine lv_iconst (v := 1) hx hb dX6_about_85 (by decide) ?_
                  refine lv_goto (tgt := 105) hx hb dX6_about_86 (by decide) ?_
                  exact J105 1 f_thrown_21 H locs ls h hP hD hS (lv_sub hl [] rfl)
            · replace h := And.right h c63
              refine lv_aload_n hx hb dX6_about_66 rfl (lv_at hl 0 rfl) ?_
              refine va_get (D := (dC, dI)) (ci := 6) (v := .int f_gap) (C := RX6) (T := TX6) (N := 31) hx hb hts in_X6 hown hK hP 0 rfl rfl 11 (by decide) k_117 (fun _ h9 => h9) rfl dX6_about_67 ?_
              refine lv_goto (tgt := 105) hx hb dX6_about_70 (by decide) ?_
              exact J105 f_gap f_thrown_21 H locs ls h hP hD hS (lv_sub hl [] rfl)
          · replace h := And.right h c51
            refine lv_aload_n hx hb dX6_about_54 rfl (lv_at hl 0 rfl) ?_
            refine va_get (D := (dC, dI)) (ci := 6) (v := .int f_cost) (C := RX6) (T := TX6) (N := 31) hx hb hts in_X6 hown hK hP 0 rfl rfl 10 (by decide) k_106 (fun _ h9 => h9) rfl dX6_about_55 ?_
            refine lv_goto (tgt := 105) hx hb dX6_about_58 (by decide) ?_
            exact J105 f_cost f_thrown_21 H locs ls h hP hD hS (lv_sub hl [] rfl)
        · replace h := And.right h c39
          refine lv_aload_n hx hb dX6_about_42 rfl (lv_at hl 0 rfl) ?_
          refine va_get (D := (dC, dI)) (ci := 6) (v := .int f_readPlaces) (C := RX6) (T := TX6) (N := 31) hx hb hts in_X6 hown hK hP 0 rfl rfl 7 (by decide) k_120 (fun _ h9 => h9) rfl dX6_about_43 ?_
          refine lv_goto (tgt := 105) hx hb dX6_about_46 (by decide) ?_
          exact J105 f_readPlaces f_thrown_21 H locs ls h hP hD hS (lv_sub hl [] rfl)
      · replace h := And.right h c33
        refine lv_iconst (v := (-1)) hx hb dX6_about_36 (by decide) ?_
        exact RET (-1) f_thrown_21 H locs ls 37 dX6_about_37 h hP hD hS
    · replace h := And.right h c24
      refine lv_iconst (v := 0) hx hb dX6_about_27 (by decide) ?_
      exact RET 0 f_thrown_21 H locs ls 28 dX6_about_28 h hP hD hS
  have J15 : ∀ (x1 : Int32) (f_thrown : Int32) (H : Heap) (locs : List Loc) (ls : Array Slot), p_X6_about_J15 f_thrown f_readPlaces f_cost f_gap f_isRead f_isTurned a_signs Q x1 → va_P (dC, dI) vwCl [(h_this, .inr (6, [.int f_thrown, g_this_1, g_this_2, g_this_3, g_this_4, g_this_5, g_this_6, .int f_readPlaces, g_this_8, g_this_9, .int f_cost, .int f_gap, .int f_isRead, .int f_isTurned, .ref h_signs, g_this_15, g_this_16, g_this_17, g_this_18, g_this_19, g_this_20, g_this_21, g_this_22, g_this_23, g_this_24, g_this_25, g_this_26, g_this_27, g_this_28, g_this_29, g_this_30])), (h_signs, .inl (cy, 20, .inl a_signs))] H → va_D A [(h_this, .inr (6, [.int f_thrown, g_this_1, g_this_2, g_this_3, g_this_4, g_this_5, g_this_6, .int f_readPlaces, g_this_8, g_this_9, .int f_cost, .int f_gap, .int f_isRead, .int f_isTurned, .ref h_signs, g_this_15, g_this_16, g_this_17, g_this_18, g_this_19, g_this_20, g_this_21, g_this_22, g_this_23, g_this_24, g_this_25, g_this_26, g_this_27, g_this_28, g_this_29, g_this_30])), (h_signs, .inl (cy, 20, .inl a_signs))] → va_S A s.heap H locs → lv_has ls 2 [(0, .ref h_this), (1, .int x1)] → W p l e rm_X6_about s m args below meth c H locs 0 0 QQ (F0 m 15 ls [.ref h_this]) := by
    intro x1 f_thrown H locs ls h hP hD hS hl
    unfold p_X6_about_J15 at h
    refine lv_iconst (v := 1) hx hb dX6_about_15 (by decide) ?_
    refine lv_goto (tgt := 20) hx hb dX6_about_16 (by decide) ?_
    exact J20 x1 1 f_thrown H locs ls h hP hD hS (lv_sub hl [0, 1] rfl)
  generalize hlo : ([] : List Loc) = locs at hS ⊢
  obtain ⟨H, hH⟩ : ∃ z, z = s.heap := ⟨_, rfl⟩
  rw [show W p l e rm_X6_about s m args below meth c s.heap = W p l e rm_X6_about s m args below meth c H by rw [hH]]
  replace hP : va_P (dC, dI) vwCl [(h_this, .inr (6, [.int f_thrown, g_this_1, g_this_2, g_this_3, g_this_4, g_this_5, g_this_6, .int f_readPlaces, g_this_8, g_this_9, .int f_cost, .int f_gap, .int f_isRead, .int f_isTurned, .ref h_signs, g_this_15, g_this_16, g_this_17, g_this_18, g_this_19, g_this_20, g_this_21, g_this_22, g_this_23, g_this_24, g_this_25, g_this_26, g_this_27, g_this_28, g_this_29, g_this_30])), (h_signs, .inl (cy, 20, .inl a_signs))] H := by rw [hH]; exact hP
  replace hS : va_S A s.heap H locs := by rw [hH]; exact hS
  clear hH hlo
  refine lv_aload_n hx hb dX6_about_0 rfl (lv_at hl 0 rfl) ?_
  refine lv_iconst (v := 0) hx hb dX6_about_1 (by decide) ?_
  refine va_put (D := (dC, dI)) (ci := 6) (v := .int 0) (ty := .int) (C := RX6) (T := TX6) (N := 31) hx hb hts in_X6 tyX6 tyX6_ok nmX6 hown hK hP hD hS 0 rfl rfl 0 (by decide) k_58 (fun _ h9 => h9) rfl (by decide +kernel) rfl rfl (Nat.le_of_ble_eq_true rfl) dX6_about_2 (fun H locs hP hD hS => ?_)
  have hP : va_P (dC, dI) vwCl [(h_this, .inr (6, [.int 0, g_this_1, g_this_2, g_this_3, g_this_4, g_this_5, g_this_6, .int f_readPlaces, g_this_8, g_this_9, .int f_cost, .int f_gap, .int f_isRead, .int f_isTurned, .ref h_signs, g_this_15, g_this_16, g_this_17, g_this_18, g_this_19, g_this_20, g_this_21, g_this_22, g_this_23, g_this_24, g_this_25, g_this_26, g_this_27, g_this_28, g_this_29, g_this_30])), (h_signs, .inl (cy, 20, .inl a_signs))] H := hP
  have hD : va_D A [(h_this, .inr (6, [.int 0, g_this_1, g_this_2, g_this_3, g_this_4, g_this_5, g_this_6, .int f_readPlaces, g_this_8, g_this_9, .int f_cost, .int f_gap, .int f_isRead, .int f_isTurned, .ref h_signs, g_this_15, g_this_16, g_this_17, g_this_18, g_this_19, g_this_20, g_this_21, g_this_22, g_this_23, g_this_24, g_this_25, g_this_26, g_this_27, g_this_28, g_this_29, g_this_30])), (h_signs, .inl (cy, 20, .inl a_signs))] := hD
  refine lv_aload_n hx hb dX6_about_5 rfl (lv_at hl 0 rfl) ?_
  refine lv_iload_n hx hb dX6_about_6 rfl (lv_at hl 1 rfl) ?_
  refine lv_if_lt (tgt := 15) hx hb dX6_about_7 (by decide) (fun c7 => ?_) (fun c7 => ?_)
  · replace h := And.left h c7
    exact J15 x1 0 H locs ls h hP hD hS (lv_sub hl [0, 1] rfl)
  · replace h := And.right h c7
    refine lv_iload_n hx hb dX6_about_10 rfl (lv_at hl 1 rfl) ?_
    refine lv_iconst (v := 4) hx hb dX6_about_11 (by decide) ?_
    refine lv_icmp_le (tgt := 19) hx hb dX6_about_12 (by decide) (fun c12 => ?_) (fun c12 => ?_)
    · replace h := And.left h c12
      refine lv_iconst (v := 0) hx hb dX6_about_19 (by decide) ?_
      exact J20 x1 0 0 H locs ls h hP hD hS (lv_sub hl [0, 1] rfl)
    · replace h := And.right h c12
      exact J15 x1 0 H locs ls h hP hD hS (lv_sub hl [0, 1] rfl)
abbrev rm_X6_place : Room := { frames := 1, cells := 0, slots := 0, locals := 22 }
theorem q_X6_place : yX6_place.cls = RX6 ∧ yX6_place.cls ≠ "java/lang/invoke/MethodHandle" ∧ yX6_place.cls ≠ "java/lang/invoke/VarHandle" ∧ (parseMethodDescriptor yX6_place.desc).map (fun d => d.parameters.length) = some 2 := by decide +kernel
set_option maxHeartbeats 4000000 in
set_option maxRecDepth 100000 in
theorem c_X6_place (l : Launch) (dC : Nat → ClassId) (dI : Nat → Nat → Nat) (cy : ClassId) (h_this : Nat) (h_signs : Nat) (h_speeds : Nat) (sz : Nat) (g_this_1 g_this_2 g_this_3 g_this_4 g_this_5 g_this_6 g_this_8 g_this_9 g_this_10 g_this_11 g_this_13 g_this_16 g_this_17 g_this_18 g_this_19 g_this_20 g_this_21 g_this_22 g_this_23 g_this_24 g_this_25 g_this_26 g_this_27 g_this_28 g_this_29 g_this_30 : Value) (f_thrown : Int32) (f_readPlaces : Int32) (f_isRead : Int32) (a_signs : Nat → Int32) (a_speeds : Nat → Int32) (x1 : Int32) (x2 : Int32) (Q : Int32 → Int32 → Prop) (h : p_X6_place f_thrown f_readPlaces f_isRead a_signs a_speeds x1 x2 Q) : Met l yX6_place wsX6_place rm_X6_place (va_Pc [.ref h_this, .int x1, .int x2] (fun U => U.heap.size = sz ∧ va_P (dC, dI) vwCl [(h_this, .inr (6, [.int f_thrown, g_this_1, g_this_2, g_this_3, g_this_4, g_this_5, g_this_6, .int f_readPlaces, g_this_8, g_this_9, g_this_10, g_this_11, .int f_isRead, g_this_13, .ref h_signs, .ref h_speeds, g_this_16, g_this_17, g_this_18, g_this_19, g_this_20, g_this_21, g_this_22, g_this_23, g_this_24, g_this_25, g_this_26, g_this_27, g_this_28, g_this_29, g_this_30])), (h_signs, .inl (cy, 20, .inl a_signs)), (h_speeds, .inl (cy, 20, .inl a_speeds))] U.heap ∧ va_K (dC, dI) vwCl [(cy, .int)] U ∧ va_D (fun _ => True) [(h_this, .inr (6, [.int f_thrown, g_this_1, g_this_2, g_this_3, g_this_4, g_this_5, g_this_6, .int f_readPlaces, g_this_8, g_this_9, g_this_10, g_this_11, .int f_isRead, g_this_13, .ref h_signs, .ref h_speeds, g_this_16, g_this_17, g_this_18, g_this_19, g_this_20, g_this_21, g_this_22, g_this_23, g_this_24, g_this_25, g_this_26, g_this_27, g_this_28, g_this_29, g_this_30])), (h_signs, .inl (cy, 20, .inl a_signs)), (h_speeds, .inl (cy, 20, .inl a_speeds))])) (va_Qi (fun (r : Int32) (u : Int32) => Q r u) (fun (u : Int32) (t : State) => va_P (dC, dI) vwCl [(h_this, .inr (6, [.int u, g_this_1, g_this_2, g_this_3, g_this_4, g_this_5, g_this_6, .int f_readPlaces, g_this_8, g_this_9, g_this_10, g_this_11, .int f_isRead, g_this_13, .ref h_signs, .ref h_speeds, g_this_16, g_this_17, g_this_18, g_this_19, g_this_20, g_this_21, g_this_22, g_this_23, g_this_24, g_this_25, g_this_26, g_this_27, g_this_28, g_this_29, g_this_30])), (h_signs, .inl (cy, 20, .inl a_signs)), (h_speeds, .inl (cy, 20, .inl a_speeds))] t.heap ∧ va_K (dC, dI) vwCl [(cy, .int)] t ∧ va_D (va_A [(h_this, .inr (6, [.int f_thrown, g_this_1, g_this_2, g_this_3, g_this_4, g_this_5, g_this_6, .int f_readPlaces, g_this_8, g_this_9, g_this_10, g_this_11, .int f_isRead, g_this_13, .ref h_signs, .ref h_speeds, g_this_16, g_this_17, g_this_18, g_this_19, g_this_20, g_this_21, g_this_22, g_this_23, g_this_24, g_this_25, g_this_26, g_this_27, g_this_28, g_this_29, g_this_30])), (h_signs, .inl (cy, 20, .inl a_signs)), (h_speeds, .inl (cy, 20, .inl a_speeds))] sz) [(h_this, .inr (6, [.int u, g_this_1, g_this_2, g_this_3, g_this_4, g_this_5, g_this_6, .int f_readPlaces, g_this_8, g_this_9, g_this_10, g_this_11, .int f_isRead, g_this_13, .ref h_signs, .ref h_speeds, g_this_16, g_this_17, g_this_18, g_this_19, g_this_20, g_this_21, g_this_22, g_this_23, g_this_24, g_this_25, g_this_26, g_this_27, g_this_28, g_this_29, g_this_30])), (h_signs, .inl (cy, 20, .inl a_signs)), (h_speeds, .inl (cy, 20, .inl a_speeds))]) (va_A [(h_this, .inr (6, [.int f_thrown, g_this_1, g_this_2, g_this_3, g_this_4, g_this_5, g_this_6, .int f_readPlaces, g_this_8, g_this_9, g_this_10, g_this_11, .int f_isRead, g_this_13, .ref h_signs, .ref h_speeds, g_this_16, g_this_17, g_this_18, g_this_19, g_this_20, g_this_21, g_this_22, g_this_23, g_this_24, g_this_25, g_this_26, g_this_27, g_this_28, g_this_29, g_this_30])), (h_signs, .inl (cy, 20, .inl a_signs)), (h_speeds, .inl (cy, 20, .inl a_speeds))] sz)) 0 0 (va_A [(h_this, .inr (6, [.int f_thrown, g_this_1, g_this_2, g_this_3, g_this_4, g_this_5, g_this_6, .int f_readPlaces, g_this_8, g_this_9, g_this_10, g_this_11, .int f_isRead, g_this_13, .ref h_signs, .ref h_speeds, g_this_16, g_this_17, g_this_18, g_this_19, g_this_20, g_this_21, g_this_22, g_this_23, g_this_24, g_this_25, g_this_26, g_this_27, g_this_28, g_this_29, g_this_30])), (h_signs, .inl (cy, 20, .inl a_signs)), (h_speeds, .inl (cy, 20, .inl a_speeds))] sz) := by
  refine Met.ofW (cc := cX6_place) (maxL := 3) (ret := (some .int)) (by decide) rfl ?_
  intro p e s m args below meth c s₁ B hml hv
  obtain ⟨hargs, hsz, hP, hK, hD0⟩ := hv
  have hx := B.exec
  have hb := B.bytes
  have hr := B.returns
  have hts := atoms_spec (ws := wsX6_place) B.pre
  have hown : s.vm.findClass RX6 = some m.cls := findClass_of_methodNamed B.named
  have hlocks := B.notSynchronized
  subst hsz
  have hD := hD0.self (sz := s.heap.size)
  generalize hAe : va_A [(h_this, .inr (6, [.int f_thrown, g_this_1, g_this_2, g_this_3, g_this_4, g_this_5, g_this_6, .int f_readPlaces, g_this_8, g_this_9, g_this_10, g_this_11, .int f_isRead, g_this_13, .ref h_signs, .ref h_speeds, g_this_16, g_this_17, g_this_18, g_this_19, g_this_20, g_this_21, g_this_22, g_this_23, g_this_24, g_this_25, g_this_26, g_this_27, g_this_28, g_this_29, g_this_30])), (h_signs, .inl (cy, 20, .inl a_signs)), (h_speeds, .inl (cy, 20, .inl a_speeds))] s.heap.size = A at hD ⊢
  have hA : ∀ q : Nat, s.heap.size ≤ q → A q := fun q h => by rw [← hAe]; exact Or.inr h
  have hS : va_S A s.heap s.heap [] := va_S.rf
  have in_X6 : ∀ w ∈ u_ws RX6 TX6 31, w ∈ wsX6_place := by decide +kernel
  have k_28 := hts (.fieldLink RX6 28 "ChequeDeskModel" "signs" "[I") (by decide +kernel)
  have k_31 := hts (.fieldLink RX6 31 "ChequeDeskModel" "speeds" "[I") (by decide +kernel)
  have k_58 := hts (.fieldLink RX6 58 "ChequeDeskModel" "thrown" "I") (by decide +kernel)
  have k_120 := hts (.fieldLink RX6 120 "ChequeDeskModel" "readPlaces" "I") (by decide +kernel)
  have k_123 := hts (.fieldLink RX6 123 "ChequeDeskModel" "isRead" "Z") (by decide +kernel)
  have hl := lv_entry ([.ref h_this, .int x1, .int x2]) (n := 3) (Nat.le_of_ble_eq_true rfl)
  rw [show entryFrame m args 3 = entryFrame m ([.ref h_this, .int x1, .int x2] : List Value).toArray 3 by rw [hargs], lg_entry_eq]
  generalize (lg_sl ([.ref h_this, .int x1, .int x2]) ++ List.replicate (3 - (lg_sl ([.ref h_this, .int x1, .int x2])).length) Slot.unset).toArray = ls at hl ⊢
  have hl : lv_has ls 3 [(0, .ref h_this), (1, .int x1), (2, .int x2)] := hl
  have hP : va_P (dC, dI) vwCl [(h_this, .inr (6, [.int f_thrown, g_this_1, g_this_2, g_this_3, g_this_4, g_this_5, g_this_6, .int f_readPlaces, g_this_8, g_this_9, g_this_10, g_this_11, .int f_isRead, g_this_13, .ref h_signs, .ref h_speeds, g_this_16, g_this_17, g_this_18, g_this_19, g_this_20, g_this_21, g_this_22, g_this_23, g_this_24, g_this_25, g_this_26, g_this_27, g_this_28, g_this_29, g_this_30])), (h_signs, .inl (cy, 20, .inl a_signs)), (h_speeds, .inl (cy, 20, .inl a_speeds))] s.heap := hP
  change W p l e rm_X6_place s m args below meth c s.heap [] 0 0 _ _
  generalize hQQ : MQ below _ _ _ _ _ _ = QQ
  have RET : ∀ (r : Int32) (f_thrown : Int32) (H : Heap) (locs : List Loc) (ls : Array Slot) (pc : Nat), decode cX6_place pc = .ok (.ireturn, 1) → Q r f_thrown → va_P (dC, dI) vwCl [(h_this, .inr (6, [.int f_thrown, g_this_1, g_this_2, g_this_3, g_this_4, g_this_5, g_this_6, .int f_readPlaces, g_this_8, g_this_9, g_this_10, g_this_11, .int f_isRead, g_this_13, .ref h_signs, .ref h_speeds, g_this_16, g_this_17, g_this_18, g_this_19, g_this_20, g_this_21, g_this_22, g_this_23, g_this_24, g_this_25, g_this_26, g_this_27, g_this_28, g_this_29, g_this_30])), (h_signs, .inl (cy, 20, .inl a_signs)), (h_speeds, .inl (cy, 20, .inl a_speeds))] H → va_D A [(h_this, .inr (6, [.int f_thrown, g_this_1, g_this_2, g_this_3, g_this_4, g_this_5, g_this_6, .int f_readPlaces, g_this_8, g_this_9, g_this_10, g_this_11, .int f_isRead, g_this_13, .ref h_signs, .ref h_speeds, g_this_16, g_this_17, g_this_18, g_this_19, g_this_20, g_this_21, g_this_22, g_this_23, g_this_24, g_this_25, g_this_26, g_this_27, g_this_28, g_this_29, g_this_30])), (h_signs, .inl (cy, 20, .inl a_signs)), (h_speeds, .inl (cy, 20, .inl a_speeds))] → va_S A s.heap H locs → W p l e rm_X6_place s m args below meth c H locs 0 0 QQ (F0 m pc ls [.int r]) := by
    intro r f_thrown H locs ls pc hdg hq hP hD hS
    rw [← hQQ]
    exact W.iret (v := r) hx hb hr (fun t ht hW => ⟨⟨r, f_thrown, rfl, hq, by rw [ht]; exact hP, va_K.moved hW.alike hK, hD⟩, hS.F ht⟩) hS.2.2 hdg
  clear hQQ
  unfold p_X6_place at h
  have J71 : ∀ (s0 : Int32) (f_thrown : Int32) (H : Heap) (locs : List Loc) (ls : Array Slot), p_X6_place_J71 f_thrown Q s0 → va_P (dC, dI) vwCl [(h_this, .inr (6, [.int f_thrown, g_this_1, g_this_2, g_this_3, g_this_4, g_this_5, g_this_6, .int f_readPlaces, g_this_8, g_this_9, g_this_10, g_this_11, .int f_isRead, g_this_13, .ref h_signs, .ref h_speeds, g_this_16, g_this_17, g_this_18, g_this_19, g_this_20, g_this_21, g_this_22, g_this_23, g_this_24, g_this_25, g_this_26, g_this_27, g_this_28, g_this_29, g_this_30])), (h_signs, .inl (cy, 20, .inl a_signs)), (h_speeds, .inl (cy, 20, .inl a_speeds))] H → va_D A [(h_this, .inr (6, [.int f_thrown, g_this_1, g_this_2, g_this_3, g_this_4, g_this_5, g_this_6, .int f_readPlaces, g_this_8, g_this_9, g_this_10, g_this_11, .int f_isRead, g_this_13, .ref h_signs, .ref h_speeds, g_this_16, g_this_17, g_this_18, g_this_19, g_this_20, g_this_21, g_this_22, g_this_23, g_this_24, g_this_25, g_this_26, g_this_27, g_this_28, g_this_29, g_this_30])), (h_signs, .inl (cy, 20, .inl a_signs)), (h_speeds, .inl (cy, 20, .inl a_speeds))] → va_S A s.heap H locs → lv_has ls 3 [] → W p l e rm_X6_place s m args below meth c H locs 0 0 QQ (F0 m 71 ls [.int s0]) := by
    intro s0 f_thrown H locs ls h hP hD hS hl
    unfold p_X6_place_J71 at h
    exact RET s0 f_thrown H locs ls 71 dX6_place_71 h hP hD hS
  have J48 : ∀ (f_thrown : Int32) (H : Heap) (locs : List Loc) (ls : Array Slot), p_X6_place_J48 f_thrown Q → va_P (dC, dI) vwCl [(h_this, .inr (6, [.int f_thrown, g_this_1, g_this_2, g_this_3, g_this_4, g_this_5, g_this_6, .int f_readPlaces, g_this_8, g_this_9, g_this_10, g_this_11, .int f_isRead, g_this_13, .ref h_signs, .ref h_speeds, g_this_16, g_this_17, g_this_18, g_this_19, g_this_20, g_this_21, g_this_22, g_this_23, g_this_24, g_this_25, g_this_26, g_this_27, g_this_28, g_this_29, g_this_30])), (h_signs, .inl (cy, 20, .inl a_signs)), (h_speeds, .inl (cy, 20, .inl a_speeds))] H → va_D A [(h_this, .inr (6, [.int f_thrown, g_this_1, g_this_2, g_this_3, g_this_4, g_this_5, g_this_6, .int f_readPlaces, g_this_8, g_this_9, g_this_10, g_this_11, .int f_isRead, g_this_13, .ref h_signs, .ref h_speeds, g_this_16, g_this_17, g_this_18, g_this_19, g_this_20, g_this_21, g_this_22, g_this_23, g_this_24, g_this_25, g_this_26, g_this_27, g_this_28, g_this_29, g_this_30])), (h_signs, .inl (cy, 20, .inl a_signs)), (h_speeds, .inl (cy, 20, .inl a_speeds))] → va_S A s.heap H locs → lv_has ls 3 [] → W p l e rm_X6_place s m args below meth c H locs 0 0 QQ (F0 m 48 ls []) := by
    intro f_thrown H locs ls h hP hD hS hl
    unfold p_X6_place_J48 at h
    refine lv_iconst (v := (-1)) hx hb dX6_place_48 (by decide) ?_
    exact RET (-1) f_thrown H locs ls 49 dX6_place_49 h hP hD hS
  have J20 : ∀ (x1 : Int32) (x2 : Int32) (s0 : Int32) (f_thrown : Int32) (H : Heap) (locs : List Loc) (ls : Array Slot), p_X6_place_J20 f_thrown f_readPlaces f_isRead a_signs a_speeds Q x1 x2 s0 → va_P (dC, dI) vwCl [(h_this, .inr (6, [.int f_thrown, g_this_1, g_this_2, g_this_3, g_this_4, g_this_5, g_this_6, .int f_readPlaces, g_this_8, g_this_9, g_this_10, g_this_11, .int f_isRead, g_this_13, .ref h_signs, .ref h_speeds, g_this_16, g_this_17, g_this_18, g_this_19, g_this_20, g_this_21, g_this_22, g_this_23, g_this_24, g_this_25, g_this_26, g_this_27, g_this_28, g_this_29, g_this_30])), (h_signs, .inl (cy, 20, .inl a_signs)), (h_speeds, .inl (cy, 20, .inl a_speeds))] H → va_D A [(h_this, .inr (6, [.int f_thrown, g_this_1, g_this_2, g_this_3, g_this_4, g_this_5, g_this_6, .int f_readPlaces, g_this_8, g_this_9, g_this_10, g_this_11, .int f_isRead, g_this_13, .ref h_signs, .ref h_speeds, g_this_16, g_this_17, g_this_18, g_this_19, g_this_20, g_this_21, g_this_22, g_this_23, g_this_24, g_this_25, g_this_26, g_this_27, g_this_28, g_this_29, g_this_30])), (h_signs, .inl (cy, 20, .inl a_signs)), (h_speeds, .inl (cy, 20, .inl a_speeds))] → va_S A s.heap H locs → lv_has ls 3 [(0, .ref h_this), (1, .int x1), (2, .int x2)] → W p l e rm_X6_place s m args below meth c H locs 0 0 QQ (F0 m 20 ls [.int s0, .ref h_this]) := by
    intro x1 x2 s0 f_thrown H locs ls h hP hD hS hl
    unfold p_X6_place_J20 at h
    refine lv_iconst (v := 1) hx hb dX6_place_20 (by decide) ?_
    have hPc := hP.sub (ws' := [(h_this, .inr (6, [.int f_thrown, g_this_1, g_this_2, g_this_3, g_this_4, g_this_5, g_this_6, .int f_readPlaces, g_this_8, g_this_9, g_this_10, g_this_11, .int f_isRead, g_this_13, .ref h_signs, .ref h_speeds, g_this_16, g_this_17, g_this_18, g_this_19, g_this_20, g_this_21, g_this_22, g_this_23, g_this_24, g_this_25, g_this_26, g_this_27, g_this_28, g_this_29, g_this_30]))]) [0] rfl
    have hDc := hD.sub (ws' := [(h_this, .inr (6, [.int f_thrown, g_this_1, g_this_2, g_this_3, g_this_4, g_this_5, g_this_6, .int f_readPlaces, g_this_8, g_this_9, g_this_10, g_this_11, .int f_isRead, g_this_13, .ref h_signs, .ref h_speeds, g_this_16, g_this_17, g_this_18, g_this_19, g_this_20, g_this_21, g_this_22, g_this_23, g_this_24, g_this_25, g_this_26, g_this_27, g_this_28, g_this_29, g_this_30]))]) [0] (by decide) rfl
    have hFc := va_free (wc := [(h_this, .inr (6, [.int f_thrown, g_this_1, g_this_2, g_this_3, g_this_4, g_this_5, g_this_6, .int f_readPlaces, g_this_8, g_this_9, g_this_10, g_this_11, .int f_isRead, g_this_13, .ref h_signs, .ref h_speeds, g_this_16, g_this_17, g_this_18, g_this_19, g_this_20, g_this_21, g_this_22, g_this_23, g_this_24, g_this_25, g_this_26, g_this_27, g_this_28, g_this_29, g_this_30]))]) hD hS hA [0] rfl
    refine va_calli (va_runV (As := [.int s0, .int 1]) (rest := []) ⟨hx, hb, hml, hown, hts⟩ (c_X6_bad l dC dI cy h_this H.size (g_this_1) (g_this_2) (g_this_3) (g_this_4) (g_this_5) (g_this_6) (.int f_readPlaces) (g_this_8) (g_this_9) (g_this_10) (g_this_11) (.int f_isRead) (g_this_13) (.ref h_signs) (.ref h_speeds) (g_this_16) (g_this_17) (g_this_18) (g_this_19) (g_this_20) (g_this_21) (g_this_22) (g_this_23) (g_this_24) (g_this_25) (g_this_26) (g_this_27) (g_this_28) (g_this_29) (g_this_30) f_thrown s0 1 _ h) (cwV 2 hts gX6_place_X6_bad rfl rfl rfl q_X6_bad ⟨Nat.le_of_ble_eq_true rfl, Nat.le_of_ble_eq_true rfl⟩) ⟨fun a U g mk q => by obtain ⟨q0, q1, qP, qK, qD⟩ := q; exact ⟨q0, q1, qP, va_K.moved (u := U) (U := U.calling g mk a) (Vm.Alike.refl U.vm) qK, qD⟩, va_recv hK hP (ci := 6) (q0 := 0) rfl rfl, fun U hU hW => ⟨rfl, by rw [hU], by rw [hU]; exact hPc, va_K.moved hW.alike hK, hDc.weaken (fun _ _ _ _ => trivial)⟩⟩ rfl rfl hl.1 rfl (lv_room (Nat.le_of_ble_eq_true rfl)) dX6_place_21 ⟨Nat.le_of_ble_eq_true rfl, Nat.le_of_ble_eq_true rfl⟩) hS (fun q _ h => hFc q h) hFc (fun r21 u t H1 locs ht hvm hw hB hz1 hk1 hS => ?_)
    obtain ⟨f_thrown_21, rfl⟩ : ∃ z, z = u := ⟨_, rfl⟩
    obtain ⟨hP1, hK1, hD1⟩ := hB
    rw [ht] at hP1
    obtain ⟨hP, hD⟩ := va_join (wr := [(h_signs, .inl (cy, 20, .inl a_signs)), (h_speeds, .inl (cy, 20, .inl a_speeds))]) (w1 := [(h_this, .inr (6, [.int f_thrown_21, g_this_1, g_this_2, g_this_3, g_this_4, g_this_5, g_this_6, .int f_readPlaces, g_this_8, g_this_9, g_this_10, g_this_11, .int f_isRead, g_this_13, .ref h_signs, .ref h_speeds, g_this_16, g_this_17, g_this_18, g_this_19, g_this_20, g_this_21, g_this_22, g_this_23, g_this_24, g_this_25, g_this_26, g_this_27, g_this_28, g_this_29, g_this_30]))]) hP hD [0] [1, 2] rfl rfl (by decide) (by decide) hk1 hFc hP1 hD1
    replace hP := hP.sub (ws' := [(h_this, .inr (6, [.int f_thrown_21, g_this_1, g_this_2, g_this_3, g_this_4, g_this_5, g_this_6, .int f_readPlaces, g_this_8, g_this_9, g_this_10, g_this_11, .int f_isRead, g_this_13, .ref h_signs, .ref h_speeds, g_this_16, g_this_17, g_this_18, g_this_19, g_this_20, g_this_21, g_this_22, g_this_23, g_this_24, g_this_25, g_this_26, g_this_27, g_this_28, g_this_29, g_this_30])), (h_signs, .inl (cy, 20, .inl a_signs)), (h_speeds, .inl (cy, 20, .inl a_speeds))]) [2, 0, 1] rfl
    replace hD := hD.sub (ws' := [(h_this, .inr (6, [.int f_thrown_21, g_this_1, g_this_2, g_this_3, g_this_4, g_this_5, g_this_6, .int f_readPlaces, g_this_8, g_this_9, g_this_10, g_this_11, .int f_isRead, g_this_13, .ref h_signs, .ref h_speeds, g_this_16, g_this_17, g_this_18, g_this_19, g_this_20, g_this_21, g_this_22, g_this_23, g_this_24, g_this_25, g_this_26, g_this_27, g_this_28, g_this_29, g_this_30])), (h_signs, .inl (cy, 20, .inl a_signs)), (h_speeds, .inl (cy, 20, .inl a_speeds))]) [2, 0, 1] (by decide) rfl
    clear hPc hDc hFc hP1 hK1 hD1 hz1 hk1 hvm
    subst ht
    generalize t.heap = H at hP hS ⊢
    replace h := hw
    clear hw
    refine lv_if_eq (tgt := 29) hx hb dX6_place_24 (by decide) (fun c24 => ?_) (fun c24 => ?_)
    · replace h := And.left h c24
      refine lv_aload_n hx hb dX6_place_29 rfl (lv_at hl 0 rfl) ?_
      refine va_get (D := (dC, dI)) (ci := 6) (v := .int f_isRead) (C := RX6) (T := TX6) (N := 31) hx hb hts in_X6 hown hK hP 0 rfl rfl 12 (by decide) k_123 (fun _ h9 => h9) rfl dX6_place_30 ?_
      refine lv_if_eq (tgt := 48) hx hb dX6_place_33 (by decide) (fun c33 => ?_) (fun c33 => ?_)
      · replace h := And.left h c33
        exact J48 f_thrown_21 H locs ls h hP hD hS (lv_sub hl [] rfl)
      · replace h := And.right h c33
        refine lv_iload_n hx hb dX6_place_36 rfl (lv_at hl 1 rfl) ?_
        refine lv_if_lt (tgt := 48) hx hb dX6_place_37 (by decide) (fun c37 => ?_) (fun c37 => ?_)
        · replace h := And.left h c37
          exact J48 f_thrown_21 H locs ls h hP hD hS (lv_sub hl [] rfl)
        · replace h := And.right h c37
          refine lv_iload_n hx hb dX6_place_40 rfl (lv_at hl 1 rfl) ?_
          refine lv_aload_n hx hb dX6_place_41 rfl (lv_at hl 0 rfl) ?_
          refine va_get (D := (dC, dI)) (ci := 6) (v := .int f_readPlaces) (C := RX6) (T := TX6) (N := 31) hx hb hts in_X6 hown hK hP 0 rfl rfl 7 (by decide) k_120 (fun _ h9 => h9) rfl dX6_place_42 ?_
          refine lv_icmp_lt (tgt := 50) hx hb dX6_place_45 (by decide) (fun c45 => ?_) (fun c45 => ?_)
          · replace h := And.left h c45
            refine lv_iload_n hx hb dX6_place_50 rfl (lv_at hl 2 rfl) ?_
            refine lv_if_ne (tgt := 63) hx hb dX6_place_51 (by decide) (fun c51 => ?_) (fun c51 => ?_)
            · replace h := And.left h c51
              refine lv_iconst (v := 4) hx hb dX6_place_63 (by decide) ?_
              refine lv_aload_n hx hb dX6_place_64 rfl (lv_at hl 0 rfl) ?_
              refine va_get (D := (dC, dI)) (ci := 6) (v := .ref h_speeds) (C := RX6) (T := TX6) (N := 31) hx hb hts in_X6 hown hK hP 0 rfl rfl 15 (by decide) k_31 (fun _ h9 => h9) rfl dX6_place_65 ?_
              refine lv_iload_n hx hb dX6_place_68 rfl (lv_at hl 1 rfl) ?_
              obtain ⟨b69, h⟩ := h
              refine va_iald hx hb hK hP 2 0 rfl rfl b69 dX6_place_69 ?_
              refine lv_iadd hx hb dX6_place_70 ?_
              exact J71 (4 + (a_speeds (Int32.toNatClampNeg x1))) f_thrown_21 H locs ls h hP hD hS (lv_sub hl [] rfl)
            · replace h := And.right h c51
              refine lv_aload_n hx hb dX6_place_54 rfl (lv_at hl 0 rfl) ?_
              refine va_get (D := (dC, dI)) (ci := 6) (v := .ref h_signs) (C := RX6) (T := TX6) (N := 31) hx hb hts in_X6 hown hK hP 0 rfl rfl 14 (by decide) k_28 (fun _ h9 => h9) rfl dX6_place_55 ?_
              refine lv_iload_n hx hb dX6_place_58 rfl (lv_at hl 1 rfl) ?_
              obtain ⟨b59, h⟩ := h
              refine va_iald hx hb hK hP 1 0 rfl rfl b59 dX6_place_59 ?_
              refine lv_goto (tgt := 71) hx hb dX6_place_60 (by decide) ?_
              exact J71 (a_signs (Int32.toNatClampNeg x1)) f_thrown_21 H locs ls h hP hD hS (lv_sub hl [] rfl)
          · replace h := And.right h c45
            exact J48 f_thrown_21 H locs ls h hP hD hS (lv_sub hl [] rfl)
    · replace h := And.right h c24
      refine lv_iconst (v := 0) hx hb dX6_place_27 (by decide) ?_
      exact RET 0 f_thrown_21 H locs ls 28 dX6_place_28 h hP hD hS
  have J15 : ∀ (x1 : Int32) (x2 : Int32) (f_thrown : Int32) (H : Heap) (locs : List Loc) (ls : Array Slot), p_X6_place_J15 f_thrown f_readPlaces f_isRead a_signs a_speeds Q x1 x2 → va_P (dC, dI) vwCl [(h_this, .inr (6, [.int f_thrown, g_this_1, g_this_2, g_this_3, g_this_4, g_this_5, g_this_6, .int f_readPlaces, g_this_8, g_this_9, g_this_10, g_this_11, .int f_isRead, g_this_13, .ref h_signs, .ref h_speeds, g_this_16, g_this_17, g_this_18, g_this_19, g_this_20, g_this_21, g_this_22, g_this_23, g_this_24, g_this_25, g_this_26, g_this_27, g_this_28, g_this_29, g_this_30])), (h_signs, .inl (cy, 20, .inl a_signs)), (h_speeds, .inl (cy, 20, .inl a_speeds))] H → va_D A [(h_this, .inr (6, [.int f_thrown, g_this_1, g_this_2, g_this_3, g_this_4, g_this_5, g_this_6, .int f_readPlaces, g_this_8, g_this_9, g_this_10, g_this_11, .int f_isRead, g_this_13, .ref h_signs, .ref h_speeds, g_this_16, g_this_17, g_this_18, g_this_19, g_this_20, g_this_21, g_this_22, g_this_23, g_this_24, g_this_25, g_this_26, g_this_27, g_this_28, g_this_29, g_this_30])), (h_signs, .inl (cy, 20, .inl a_signs)), (h_speeds, .inl (cy, 20, .inl a_speeds))] → va_S A s.heap H locs → lv_has ls 3 [(0, .ref h_this), (1, .int x1), (2, .int x2)] → W p l e rm_X6_place s m args below meth c H locs 0 0 QQ (F0 m 15 ls [.ref h_this]) := by
    intro x1 x2 f_thrown H locs ls h hP hD hS hl
    unfold p_X6_place_J15 at h
    refine lv_iconst (v := 1) hx hb dX6_place_15 (by decide) ?_
    refine lv_goto (tgt := 20) hx hb dX6_place_16 (by decide) ?_
    exact J20 x1 x2 1 f_thrown H locs ls h hP hD hS (lv_sub hl [0, 1, 2] rfl)
  generalize hlo : ([] : List Loc) = locs at hS ⊢
  obtain ⟨H, hH⟩ : ∃ z, z = s.heap := ⟨_, rfl⟩
  rw [show W p l e rm_X6_place s m args below meth c s.heap = W p l e rm_X6_place s m args below meth c H by rw [hH]]
  replace hP : va_P (dC, dI) vwCl [(h_this, .inr (6, [.int f_thrown, g_this_1, g_this_2, g_this_3, g_this_4, g_this_5, g_this_6, .int f_readPlaces, g_this_8, g_this_9, g_this_10, g_this_11, .int f_isRead, g_this_13, .ref h_signs, .ref h_speeds, g_this_16, g_this_17, g_this_18, g_this_19, g_this_20, g_this_21, g_this_22, g_this_23, g_this_24, g_this_25, g_this_26, g_this_27, g_this_28, g_this_29, g_this_30])), (h_signs, .inl (cy, 20, .inl a_signs)), (h_speeds, .inl (cy, 20, .inl a_speeds))] H := by rw [hH]; exact hP
  replace hS : va_S A s.heap H locs := by rw [hH]; exact hS
  clear hH hlo
  refine lv_aload_n hx hb dX6_place_0 rfl (lv_at hl 0 rfl) ?_
  refine lv_iconst (v := 0) hx hb dX6_place_1 (by decide) ?_
  refine va_put (D := (dC, dI)) (ci := 6) (v := .int 0) (ty := .int) (C := RX6) (T := TX6) (N := 31) hx hb hts in_X6 tyX6 tyX6_ok nmX6 hown hK hP hD hS 0 rfl rfl 0 (by decide) k_58 (fun _ h9 => h9) rfl (by decide +kernel) rfl rfl (Nat.le_of_ble_eq_true rfl) dX6_place_2 (fun H locs hP hD hS => ?_)
  have hP : va_P (dC, dI) vwCl [(h_this, .inr (6, [.int 0, g_this_1, g_this_2, g_this_3, g_this_4, g_this_5, g_this_6, .int f_readPlaces, g_this_8, g_this_9, g_this_10, g_this_11, .int f_isRead, g_this_13, .ref h_signs, .ref h_speeds, g_this_16, g_this_17, g_this_18, g_this_19, g_this_20, g_this_21, g_this_22, g_this_23, g_this_24, g_this_25, g_this_26, g_this_27, g_this_28, g_this_29, g_this_30])), (h_signs, .inl (cy, 20, .inl a_signs)), (h_speeds, .inl (cy, 20, .inl a_speeds))] H := hP
  have hD : va_D A [(h_this, .inr (6, [.int 0, g_this_1, g_this_2, g_this_3, g_this_4, g_this_5, g_this_6, .int f_readPlaces, g_this_8, g_this_9, g_this_10, g_this_11, .int f_isRead, g_this_13, .ref h_signs, .ref h_speeds, g_this_16, g_this_17, g_this_18, g_this_19, g_this_20, g_this_21, g_this_22, g_this_23, g_this_24, g_this_25, g_this_26, g_this_27, g_this_28, g_this_29, g_this_30])), (h_signs, .inl (cy, 20, .inl a_signs)), (h_speeds, .inl (cy, 20, .inl a_speeds))] := hD
  refine lv_aload_n hx hb dX6_place_5 rfl (lv_at hl 0 rfl) ?_
  refine lv_iload_n hx hb dX6_place_6 rfl (lv_at hl 2 rfl) ?_
  refine lv_if_lt (tgt := 15) hx hb dX6_place_7 (by decide) (fun c7 => ?_) (fun c7 => ?_)
  · replace h := And.left h c7
    exact J15 x1 x2 0 H locs ls h hP hD hS (lv_sub hl [0, 1, 2] rfl)
  · replace h := And.right h c7
    refine lv_iload_n hx hb dX6_place_10 rfl (lv_at hl 2 rfl) ?_
    refine lv_iconst (v := 1) hx hb dX6_place_11 (by decide) ?_
    refine lv_icmp_le (tgt := 19) hx hb dX6_place_12 (by decide) (fun c12 => ?_) (fun c12 => ?_)
    · replace h := And.left h c12
      refine lv_iconst (v := 0) hx hb dX6_place_19 (by decide) ?_
      exact J20 x1 x2 0 0 H locs ls h hP hD hS (lv_sub hl [0, 1, 2] rfl)
    · replace h := And.right h c12
      exact J15 x1 x2 0 H locs ls h hP hD hS (lv_sub hl [0, 1, 2] rfl)
abbrev rm_X6_fieldOf : Room := { frames := 1, cells := 0, slots := 0, locals := 24 }
theorem q_X6_fieldOf : yX6_fieldOf.cls = RX6 ∧ yX6_fieldOf.cls ≠ "java/lang/invoke/MethodHandle" ∧ yX6_fieldOf.cls ≠ "java/lang/invoke/VarHandle" ∧ (parseMethodDescriptor yX6_fieldOf.desc).map (fun d => d.parameters.length) = some 1 := by decide +kernel
set_option maxHeartbeats 4000000 in
set_option maxRecDepth 100000 in
theorem c_X6_fieldOf (l : Launch) (dC : Nat → ClassId) (dI : Nat → Nat → Nat) (cy : ClassId) (h_this : Nat) (h_signs : Nat) (sz : Nat) (g_this_0 g_this_1 g_this_2 g_this_3 g_this_4 g_this_5 g_this_6 g_this_7 g_this_8 g_this_9 g_this_10 g_this_11 g_this_12 g_this_13 g_this_15 g_this_16 g_this_17 g_this_18 g_this_19 g_this_20 g_this_21 g_this_22 g_this_23 g_this_24 g_this_25 g_this_26 g_this_27 g_this_28 g_this_29 g_this_30 : Value) (a_signs : Nat → Int32) (x1 : Int32) (Q : Int32 → Prop) (h : p_X6_fieldOf a_signs x1 Q) : Met l yX6_fieldOf wsX6_fieldOf rm_X6_fieldOf (va_Pc [.ref h_this, .int x1] (fun U => U.heap.size = sz ∧ va_P (dC, dI) vwCl [(h_this, .inr (6, [g_this_0, g_this_1, g_this_2, g_this_3, g_this_4, g_this_5, g_this_6, g_this_7, g_this_8, g_this_9, g_this_10, g_this_11, g_this_12, g_this_13, .ref h_signs, g_this_15, g_this_16, g_this_17, g_this_18, g_this_19, g_this_20, g_this_21, g_this_22, g_this_23, g_this_24, g_this_25, g_this_26, g_this_27, g_this_28, g_this_29, g_this_30])), (h_signs, .inl (cy, 20, .inl a_signs))] U.heap ∧ va_K (dC, dI) vwCl [(cy, .int)] U ∧ va_D (fun _ => True) [(h_this, .inr (6, [g_this_0, g_this_1, g_this_2, g_this_3, g_this_4, g_this_5, g_this_6, g_this_7, g_this_8, g_this_9, g_this_10, g_this_11, g_this_12, g_this_13, .ref h_signs, g_this_15, g_this_16, g_this_17, g_this_18, g_this_19, g_this_20, g_this_21, g_this_22, g_this_23, g_this_24, g_this_25, g_this_26, g_this_27, g_this_28, g_this_29, g_this_30])), (h_signs, .inl (cy, 20, .inl a_signs))])) (va_Qi (fun (r : Int32) (u : Unit) => Q r) (fun (u : Unit) (t : State) => va_P (dC, dI) vwCl [(h_this, .inr (6, [g_this_0, g_this_1, g_this_2, g_this_3, g_this_4, g_this_5, g_this_6, g_this_7, g_this_8, g_this_9, g_this_10, g_this_11, g_this_12, g_this_13, .ref h_signs, g_this_15, g_this_16, g_this_17, g_this_18, g_this_19, g_this_20, g_this_21, g_this_22, g_this_23, g_this_24, g_this_25, g_this_26, g_this_27, g_this_28, g_this_29, g_this_30])), (h_signs, .inl (cy, 20, .inl a_signs))] t.heap ∧ va_K (dC, dI) vwCl [(cy, .int)] t ∧ va_D (va_A [(h_this, .inr (6, [g_this_0, g_this_1, g_this_2, g_this_3, g_this_4, g_this_5, g_this_6, g_this_7, g_this_8, g_this_9, g_this_10, g_this_11, g_this_12, g_this_13, .ref h_signs, g_this_15, g_this_16, g_this_17, g_this_18, g_this_19, g_this_20, g_this_21, g_this_22, g_this_23, g_this_24, g_this_25, g_this_26, g_this_27, g_this_28, g_this_29, g_this_30])), (h_signs, .inl (cy, 20, .inl a_signs))] sz) [(h_this, .inr (6, [g_this_0, g_this_1, g_this_2, g_this_3, g_this_4, g_this_5, g_this_6, g_this_7, g_this_8, g_this_9, g_this_10, g_this_11, g_this_12, g_this_13, .ref h_signs, g_this_15, g_this_16, g_this_17, g_this_18, g_this_19, g_this_20, g_this_21, g_this_22, g_this_23, g_this_24, g_this_25, g_this_26, g_this_27, g_this_28, g_this_29, g_this_30])), (h_signs, .inl (cy, 20, .inl a_signs))]) (va_A [(h_this, .inr (6, [g_this_0, g_this_1, g_this_2, g_this_3, g_this_4, g_this_5, g_this_6, g_this_7, g_this_8, g_this_9, g_this_10, g_this_11, g_this_12, g_this_13, .ref h_signs, g_this_15, g_this_16, g_this_17, g_this_18, g_this_19, g_this_20, g_this_21, g_this_22, g_this_23, g_this_24, g_this_25, g_this_26, g_this_27, g_this_28, g_this_29, g_this_30])), (h_signs, .inl (cy, 20, .inl a_signs))] sz)) 0 0 (va_A [(h_this, .inr (6, [g_this_0, g_this_1, g_this_2, g_this_3, g_this_4, g_this_5, g_this_6, g_this_7, g_this_8, g_this_9, g_this_10, g_this_11, g_this_12, g_this_13, .ref h_signs, g_this_15, g_this_16, g_this_17, g_this_18, g_this_19, g_this_20, g_this_21, g_this_22, g_this_23, g_this_24, g_this_25, g_this_26, g_this_27, g_this_28, g_this_29, g_this_30])), (h_signs, .inl (cy, 20, .inl a_signs))] sz) := by
  refine Met.ofW (cc := cX6_fieldOf) (maxL := 2) (ret := (some .int)) (by decide) rfl ?_
  intro p e s m args below meth c s₁ B hml hv
  obtain ⟨hargs, hsz, hP, hK, hD0⟩ := hv
  have hx := B.exec
  have hb := B.bytes
  have hr := B.returns
  have hts := atoms_spec (ws := wsX6_fieldOf) B.pre
  have hown : s.vm.findClass RX6 = some m.cls := findClass_of_methodNamed B.named
  have hlocks := B.notSynchronized
  subst hsz
  have hD := hD0.self (sz := s.heap.size)
  generalize hAe : va_A [(h_this, .inr (6, [g_this_0, g_this_1, g_this_2, g_this_3, g_this_4, g_this_5, g_this_6, g_this_7, g_this_8, g_this_9, g_this_10, g_this_11, g_this_12, g_this_13, .ref h_signs, g_this_15, g_this_16, g_this_17, g_this_18, g_this_19, g_this_20, g_this_21, g_this_22, g_this_23, g_this_24, g_this_25, g_this_26, g_this_27, g_this_28, g_this_29, g_this_30])), (h_signs, .inl (cy, 20, .inl a_signs))] s.heap.size = A at hD ⊢
  have hA : ∀ q : Nat, s.heap.size ≤ q → A q := fun q h => by rw [← hAe]; exact Or.inr h
  have hS : va_S A s.heap s.heap [] := va_S.rf
  have hl := lv_entry ([.ref h_this, .int x1]) (n := 2) (Nat.le_of_ble_eq_true rfl)
  rw [show entryFrame m args 2 = entryFrame m ([.ref h_this, .int x1] : List Value).toArray 2 by rw [hargs], lg_entry_eq]
  generalize (lg_sl ([.ref h_this, .int x1]) ++ List.replicate (2 - (lg_sl ([.ref h_this, .int x1])).length) Slot.unset).toArray = ls at hl ⊢
  have hl : lv_has ls 2 [(0, .ref h_this), (1, .int x1)] := hl
  have hP : va_P (dC, dI) vwCl [(h_this, .inr (6, [g_this_0, g_this_1, g_this_2, g_this_3, g_this_4, g_this_5, g_this_6, g_this_7, g_this_8, g_this_9, g_this_10, g_this_11, g_this_12, g_this_13, .ref h_signs, g_this_15, g_this_16, g_this_17, g_this_18, g_this_19, g_this_20, g_this_21, g_this_22, g_this_23, g_this_24, g_this_25, g_this_26, g_this_27, g_this_28, g_this_29, g_this_30])), (h_signs, .inl (cy, 20, .inl a_signs))] s.heap := hP
  change W p l e rm_X6_fieldOf s m args below meth c s.heap [] 0 0 _ _
  generalize hQQ : MQ below _ _ _ _ _ _ = QQ
  have RET : ∀ (r : Int32) (H : Heap) (locs : List Loc) (ls : Array Slot) (pc : Nat), decode cX6_fieldOf pc = .ok (.ireturn, 1) → Q r → va_P (dC, dI) vwCl [(h_this, .inr (6, [g_this_0, g_this_1, g_this_2, g_this_3, g_this_4, g_this_5, g_this_6, g_this_7, g_this_8, g_this_9, g_this_10, g_this_11, g_this_12, g_this_13, .ref h_signs, g_this_15, g_this_16, g_this_17, g_this_18, g_this_19, g_this_20, g_this_21, g_this_22, g_this_23, g_this_24, g_this_25, g_this_26, g_this_27, g_this_28, g_this_29, g_this_30])), (h_signs, .inl (cy, 20, .inl a_signs))] H → va_D A [(h_this, .inr (6, [g_this_0, g_this_1, g_this_2, g_this_3, g_this_4, g_this_5, g_this_6, g_this_7, g_this_8, g_this_9, g_this_10, g_this_11, g_this_12, g_this_13, .ref h_signs, g_this_15, g_this_16, g_this_17, g_this_18, g_this_19, g_this_20, g_this_21, g_this_22, g_this_23, g_this_24, g_this_25, g_this_26, g_this_27, g_this_28, g_this_29, g_this_30])), (h_signs, .inl (cy, 20, .inl a_signs))] → va_S A s.heap H locs → W p l e rm_X6_fieldOf s m args below meth c H locs 0 0 QQ (F0 m pc ls [.int r]) := by
    intro r  H locs ls pc hdg hq hP hD hS
    rw [← hQQ]
    exact W.iret (v := r) hx hb hr (fun t ht hW => ⟨⟨r, (), rfl, hq, by rw [ht]; exact hP, va_K.moved hW.alike hK, hD⟩, hS.F ht⟩) hS.2.2 hdg
  clear hQQ
  unfold p_X6_fieldOf at h
  have J36 : ∀ (s0 : Int32) (H : Heap) (locs : List Loc) (ls : Array Slot), p_X6_fieldOf_J36 Q s0 → va_P (dC, dI) vwCl [(h_this, .inr (6, [g_this_0, g_this_1, g_this_2, g_this_3, g_this_4, g_this_5, g_this_6, g_this_7, g_this_8, g_this_9, g_this_10, g_this_11, g_this_12, g_this_13, .ref h_signs, g_this_15, g_this_16, g_this_17, g_this_18, g_this_19, g_this_20, g_this_21, g_this_22, g_this_23, g_this_24, g_this_25, g_this_26, g_this_27, g_this_28, g_this_29, g_this_30])), (h_signs, .inl (cy, 20, .inl a_signs))] H → va_D A [(h_this, .inr (6, [g_this_0, g_this_1, g_this_2, g_this_3, g_this_4, g_this_5, g_this_6, g_this_7, g_this_8, g_this_9, g_this_10, g_this_11, g_this_12, g_this_13, .ref h_signs, g_this_15, g_this_16, g_this_17, g_this_18, g_this_19, g_this_20, g_this_21, g_this_22, g_this_23, g_this_24, g_this_25, g_this_26, g_this_27, g_this_28, g_this_29, g_this_30])), (h_signs, .inl (cy, 20, .inl a_signs))] → va_S A s.heap H locs → lv_has ls 2 [] → W p l e rm_X6_fieldOf s m args below meth c H locs 0 0 QQ (F0 m 36 ls [.int s0]) := by
    intro s0 H locs ls h hP hD hS hl
    unfold p_X6_fieldOf_J36 at h
    exact RET s0 H locs ls 36 dX6_fieldOf_36 h hP hD hS
  generalize hlo : ([] : List Loc) = locs at hS ⊢
  obtain ⟨H, hH⟩ : ∃ z, z = s.heap := ⟨_, rfl⟩
  rw [show W p l e rm_X6_fieldOf s m args below meth c s.heap = W p l e rm_X6_fieldOf s m args below meth c H by rw [hH]]
  replace hP : va_P (dC, dI) vwCl [(h_this, .inr (6, [g_this_0, g_this_1, g_this_2, g_this_3, g_this_4, g_this_5, g_this_6, g_this_7, g_this_8, g_this_9, g_this_10, g_this_11, g_this_12, g_this_13, .ref h_signs, g_this_15, g_this_16, g_this_17, g_this_18, g_this_19, g_this_20, g_this_21, g_this_22, g_this_23, g_this_24, g_this_25, g_this_26, g_this_27, g_this_28, g_this_29, g_this_30])), (h_signs, .inl (cy, 20, .inl a_signs))] H := by rw [hH]; exact hP
  replace hS : va_S A s.heap H locs := by rw [hH]; exact hS
  clear hH hlo
  refine lv_iload_n hx hb dX6_fieldOf_0 rfl (lv_at hl 1 rfl) ?_
  refine lv_if_ne (tgt := 13) hx hb dX6_fieldOf_1 (by decide) (fun c1 => ?_) (fun c1 => ?_)
  · replace h := And.left h c1
    refine lv_iload_n hx hb dX6_fieldOf_13 rfl (lv_at hl 1 rfl) ?_
    refine lv_iconst (v := 1) hx hb dX6_fieldOf_14 (by decide) ?_
    refine lv_icmp_ne (tgt := 29) hx hb dX6_fieldOf_15 (by decide) (fun c15 => ?_) (fun c15 => ?_)
    · replace h := And.left h c15
      refine lv_aload_n hx hb dX6_fieldOf_29 rfl (lv_at hl 0 rfl) ?_
      refine lv_bipush (v := 13) hx hb dX6_fieldOf_30 (by decide) ?_
      refine lv_iconst (v := 4) hx hb dX6_fieldOf_32 (by decide) ?_
      have hPc := hP.sub (ws' := [(h_this, .inr (6, [g_this_0, g_this_1, g_this_2, g_this_3, g_this_4, g_this_5, g_this_6, g_this_7, g_this_8, g_this_9, g_this_10, g_this_11, g_this_12, g_this_13, .ref h_signs, g_this_15, g_this_16, g_this_17, g_this_18, g_this_19, g_this_20, g_this_21, g_this_22, g_this_23, g_this_24, g_this_25, g_this_26, g_this_27, g_this_28, g_this_29, g_this_30])), (h_signs, .inl (cy, 20, .inl a_signs))]) [0, 1] rfl
      have hDc := hD.sub (ws' := [(h_this, .inr (6, [g_this_0, g_this_1, g_this_2, g_this_3, g_this_4, g_this_5, g_this_6, g_this_7, g_this_8, g_this_9, g_this_10, g_this_11, g_this_12, g_this_13, .ref h_signs, g_this_15, g_this_16, g_this_17, g_this_18, g_this_19, g_this_20, g_this_21, g_this_22, g_this_23, g_this_24, g_this_25, g_this_26, g_this_27, g_this_28, g_this_29, g_this_30])), (h_signs, .inl (cy, 20, .inl a_signs))]) [0, 1] (by decide) rfl
      have hFc := va_free (wc := [(h_this, .inr (6, [g_this_0, g_this_1, g_this_2, g_this_3, g_this_4, g_this_5, g_this_6, g_this_7, g_this_8, g_this_9, g_this_10, g_this_11, g_this_12, g_this_13, .ref h_signs, g_this_15, g_this_16, g_this_17, g_this_18, g_this_19, g_this_20, g_this_21, g_this_22, g_this_23, g_this_24, g_this_25, g_this_26, g_this_27, g_this_28, g_this_29, g_this_30])), (h_signs, .inl (cy, 20, .inl a_signs))]) hD hS hA [0, 1] rfl
      refine va_calli (va_runV (As := [.int 13, .int 4]) (rest := []) ⟨hx, hb, hml, hown, hts⟩ (c_X6_digits l dC dI cy h_this h_signs H.size (g_this_0) (g_this_1) (g_this_2) (g_this_3) (g_this_4) (g_this_5) (g_this_6) (g_this_7) (g_this_8) (g_this_9) (g_this_10) (g_this_11) (g_this_12) (g_this_13) (g_this_15) (g_this_16) (g_this_17) (g_this_18) (g_this_19) (g_this_20) (g_this_21) (g_this_22) (g_this_23) (g_this_24) (g_this_25) (g_this_26) (g_this_27) (g_this_28) (g_this_29) (g_this_30) a_signs 13 4 _ h) (cwV 2 hts gX6_fieldOf_X6_digits rfl rfl rfl q_X6_digits ⟨Nat.le_of_ble_eq_true rfl, Nat.le_of_ble_eq_true rfl⟩) ⟨fun a U g mk q => by obtain ⟨q0, q1, qP, qK, qD⟩ := q; exact ⟨q0, q1, qP, va_K.moved (u := U) (U := U.calling g mk a) (Vm.Alike.refl U.vm) qK, qD⟩, va_recv hK hP (ci := 6) (q0 := 0) rfl rfl, fun U hU hW => ⟨rfl, by rw [hU], by rw [hU]; exact hPc, va_K.moved hW.alike hK, hDc.weaken (fun _ _ _ _ => trivial)⟩⟩ rfl rfl hl.1 rfl (lv_room (Nat.le_of_ble_eq_true rfl)) dX6_fieldOf_33 ⟨Nat.le_of_ble_eq_true rfl, Nat.le_of_ble_eq_true rfl⟩) hS (fun q _ h => hFc q h) hFc (fun r33 u t H1 locs ht hvm hw hB hz1 hk1 hS => ?_)
      obtain ⟨hP1, hK1, hD1⟩ := hB
      rw [ht] at hP1
      obtain ⟨hP, hD⟩ := va_join (wr := []) (w1 := [(h_this, .inr (6, [g_this_0, g_this_1, g_this_2, g_this_3, g_this_4, g_this_5, g_this_6, g_this_7, g_this_8, g_this_9, g_this_10, g_this_11, g_this_12, g_this_13, .ref h_signs, g_this_15, g_this_16, g_this_17, g_this_18, g_this_19, g_this_20, g_this_21, g_this_22, g_this_23, g_this_24, g_this_25, g_this_26, g_this_27, g_this_28, g_this_29, g_this_30])), (h_signs, .inl (cy, 20, .inl a_signs))]) hP hD [0, 1] [] rfl rfl (by decide) (by decide) hk1 hFc hP1 hD1
      replace hP := hP.sub (ws' := [(h_this, .inr (6, [g_this_0, g_this_1, g_this_2, g_this_3, g_this_4, g_this_5, g_this_6, g_this_7, g_this_8, g_this_9, g_this_10, g_this_11, g_this_12, g_this_13, .ref h_signs, g_this_15, g_this_16, g_this_17, g_this_18, g_this_19, g_this_20, g_this_21, g_this_22, g_this_23, g_this_24, g_this_25, g_this_26, g_this_27, g_this_28, g_this_29, g_this_30])), (h_signs, .inl (cy, 20, .inl a_signs))]) [0, 1] rfl
      replace hD := hD.sub (ws' := [(h_this, .inr (6, [g_this_0, g_this_1, g_this_2, g_this_3, g_this_4, g_this_5, g_this_6, g_this_7, g_this_8, g_this_9, g_this_10, g_this_11, g_this_12, g_this_13, .ref h_signs, g_this_15, g_this_16, g_this_17, g_this_18, g_this_19, g_this_20, g_this_21, g_this_22, g_this_23, g_this_24, g_this_25, g_this_26, g_this_27, g_this_28, g_this_29, g_this_30])), (h_signs, .inl (cy, 20, .inl a_signs))]) [0, 1] (by decide) rfl
      clear hPc hDc hFc hP1 hK1 hD1 hz1 hk1 hvm
      subst ht
      generalize t.heap = H at hP hS ⊢
      replace h := hw
      clear hw
      exact J36 r33 H locs ls h hP hD hS (lv_sub hl [] rfl)
    · replace h := And.right h c15
      refine lv_aload_n hx hb dX6_fieldOf_18 rfl (lv_at hl 0 rfl) ?_
      refine lv_bipush (v := 6) hx hb dX6_fieldOf_19 (by decide) ?_
      refine lv_bipush (v := 6) hx hb dX6_fieldOf_21 (by decide) ?_
      have hPc := hP.sub (ws' := [(h_this, .inr (6, [g_this_0, g_this_1, g_this_2, g_this_3, g_this_4, g_this_5, g_this_6, g_this_7, g_this_8, g_this_9, g_this_10, g_this_11, g_this_12, g_this_13, .ref h_signs, g_this_15, g_this_16, g_this_17, g_this_18, g_this_19, g_this_20, g_this_21, g_this_22, g_this_23, g_this_24, g_this_25, g_this_26, g_this_27, g_this_28, g_this_29, g_this_30])), (h_signs, .inl (cy, 20, .inl a_signs))]) [0, 1] rfl
      have hDc := hD.sub (ws' := [(h_this, .inr (6, [g_this_0, g_this_1, g_this_2, g_this_3, g_this_4, g_this_5, g_this_6, g_this_7, g_this_8, g_this_9, g_this_10, g_this_11, g_this_12, g_this_13, .ref h_signs, g_this_15, g_this_16, g_this_17, g_this_18, g_this_19, g_this_20, g_this_21, g_this_22, g_this_23, g_this_24, g_this_25, g_this_26, g_this_27, g_this_28, g_this_29, g_this_30])), (h_signs, .inl (cy, 20, .inl a_signs))]) [0, 1] (by decide) rfl
      have hFc := va_free (wc := [(h_this, .inr (6, [g_this_0, g_this_1, g_this_2, g_this_3, g_this_4, g_this_5, g_this_6, g_this_7, g_this_8, g_this_9, g_this_10, g_this_11, g_this_12, g_this_13, .ref h_signs, g_this_15, g_this_16, g_this_17, g_this_18, g_this_19, g_this_20, g_this_21, g_this_22, g_this_23, g_this_24, g_this_25, g_this_26, g_this_27, g_this_28, g_this_29, g_this_30])), (h_signs, .inl (cy, 20, .inl a_signs))]) hD hS hA [0, 1] rfl
      refine va_calli (va_runV (As := [.int 6, .int 6]) (rest := []) ⟨hx, hb, hml, hown, hts⟩ (c_X6_digits l dC dI cy h_this h_signs H.size (g_this_0) (g_this_1) (g_this_2) (g_this_3) (g_this_4) (g_this_5) (g_this_6) (g_this_7) (g_this_8) (g_this_9) (g_this_10) (g_this_11) (g_this_12) (g_this_13) (g_this_15) (g_this_16) (g_this_17) (g_this_18) (g_this_19) (g_this_20) (g_this_21) (g_this_22) (g_this_23) (g_this_24) (g_this_25) (g_this_26) (g_this_27) (g_this_28) (g_this_29) (g_this_30) a_signs 6 6 _ h) (cwV 2 hts gX6_fieldOf_X6_digits rfl rfl rfl q_X6_digits ⟨Nat.le_of_ble_eq_true rfl, Nat.le_of_ble_eq_true rfl⟩) ⟨fun a U g mk q => by obtain ⟨q0, q1, qP, qK, qD⟩ := q; exact ⟨q0, q1, qP, va_K.moved (u := U) (U := U.calling g mk a) (Vm.Alike.refl U.vm) qK, qD⟩, va_recv hK hP (ci := 6) (q0 := 0) rfl rfl, fun U hU hW => ⟨rfl, by rw [hU], by rw [hU]; exact hPc, va_K.moved hW.alike hK, hDc.weaken (fun _ _ _ _ => trivial)⟩⟩ rfl rfl hl.1 rfl (lv_room (Nat.le_of_ble_eq_true rfl)) dX6_fieldOf_23 ⟨Nat.le_of_ble_eq_true rfl, Nat.le_of_ble_eq_true rfl⟩) hS (fun q _ h => hFc q h) hFc (fun r23 u t H1 locs ht hvm hw hB hz1 hk1 hS => ?_)
      obtain ⟨hP1, hK1, hD1⟩ := hB
      rw [ht] at hP1
      obtain ⟨hP, hD⟩ := va_join (wr := []) (w1 := [(h_this, .inr (6, [g_this_0, g_this_1, g_this_2, g_this_3, g_this_4, g_this_5, g_this_6, g_this_7, g_this_8, g_this_9, g_this_10, g_this_11, g_this_12, g_this_13, .ref h_signs, g_this_15, g_this_16, g_this_17, g_this_18, g_this_19, g_this_20, g_this_21, g_this_22, g_this_23, g_this_24, g_this_25, g_this_26, g_this_27, g_this_28, g_this_29, g_this_30])), (h_signs, .inl (cy, 20, .inl a_signs))]) hP hD [0, 1] [] rfl rfl (by decide) (by decide) hk1 hFc hP1 hD1
      replace hP := hP.sub (ws' := [(h_this, .inr (6, [g_this_0, g_this_1, g_this_2, g_this_3, g_this_4, g_this_5, g_this_6, g_this_7, g_this_8, g_this_9, g_this_10, g_this_11, g_this_12, g_this_13, .ref h_signs, g_this_15, g_this_16, g_this_17, g_this_18, g_this_19, g_this_20, g_this_21, g_this_22, g_this_23, g_this_24, g_this_25, g_this_26, g_this_27, g_this_28, g_this_29, g_this_30])), (h_signs, .inl (cy, 20, .inl a_signs))]) [0, 1] rfl
      replace hD := hD.sub (ws' := [(h_this, .inr (6, [g_this_0, g_this_1, g_this_2, g_this_3, g_this_4, g_this_5, g_this_6, g_this_7, g_this_8, g_this_9, g_this_10, g_this_11, g_this_12, g_this_13, .ref h_signs, g_this_15, g_this_16, g_this_17, g_this_18, g_this_19, g_this_20, g_this_21, g_this_22, g_this_23, g_this_24, g_this_25, g_this_26, g_this_27, g_this_28, g_this_29, g_this_30])), (h_signs, .inl (cy, 20, .inl a_signs))]) [0, 1] (by decide) rfl
      clear hPc hDc hFc hP1 hK1 hD1 hz1 hk1 hvm
      subst ht
      generalize t.heap = H at hP hS ⊢
      replace h := hw
      clear hw
      refine lv_goto (tgt := 36) hx hb dX6_fieldOf_26 (by decide) ?_
      exact J36 r23 H locs ls h hP hD hS (lv_sub hl [] rfl)
  · replace h := And.right h c1
    refine lv_aload_n hx hb dX6_fieldOf_4 rfl (lv_at hl 0 rfl) ?_
    refine lv_iconst (v := 1) hx hb dX6_fieldOf_5 (by decide) ?_
    refine lv_iconst (v := 4) hx hb dX6_fieldOf_6 (by decide) ?_
    have hPc := hP.sub (ws' := [(h_this, .inr (6, [g_this_0, g_this_1, g_this_2, g_this_3, g_this_4, g_this_5, g_this_6, g_this_7, g_this_8, g_this_9, g_this_10, g_this_11, g_this_12, g_this_13, .ref h_signs, g_this_15, g_this_16, g_this_17, g_this_18, g_this_19, g_this_20, g_this_21, g_this_22, g_this_23, g_this_24, g_this_25, g_this_26, g_this_27, g_this_28, g_this_29, g_this_30])), (h_signs, .inl (cy, 20, .inl a_signs))]) [0, 1] rfl
    have hDc := hD.sub (ws' := [(h_this, .inr (6, [g_this_0, g_this_1, g_this_2, g_this_3, g_this_4, g_this_5, g_this_6, g_this_7, g_this_8, g_this_9, g_this_10, g_this_11, g_this_12, g_this_13, .ref h_signs, g_this_15, g_this_16, g_this_17, g_this_18, g_this_19, g_this_20, g_this_21, g_this_22, g_this_23, g_this_24, g_this_25, g_this_26, g_this_27, g_this_28, g_this_29, g_this_30])), (h_signs, .inl (cy, 20, .inl a_signs))]) [0, 1] (by decide) rfl
    have hFc := va_free (wc := [(h_this, .inr (6, [g_this_0, g_this_1, g_this_2, g_this_3, g_this_4, g_this_5, g_this_6, g_this_7, g_this_8, g_this_9, g_this_10, g_this_11, g_this_12, g_this_13, .ref h_signs, g_this_15, g_this_16, g_this_17, g_this_18, g_this_19, g_this_20, g_this_21, g_this_22, g_this_23, g_this_24, g_this_25, g_this_26, g_this_27, g_this_28, g_this_29, g_this_30])), (h_signs, .inl (cy, 20, .inl a_signs))]) hD hS hA [0, 1] rfl
    refine va_calli (va_runV (As := [.int 1, .int 4]) (rest := []) ⟨hx, hb, hml, hown, hts⟩ (c_X6_digits l dC dI cy h_this h_signs H.size (g_this_0) (g_this_1) (g_this_2) (g_this_3) (g_this_4) (g_this_5) (g_this_6) (g_this_7) (g_this_8) (g_this_9) (g_this_10) (g_this_11) (g_this_12) (g_this_13) (g_this_15) (g_this_16) (g_this_17) (g_this_18) (g_this_19) (g_this_20) (g_this_21) (g_this_22) (g_this_23) (g_this_24) (g_this_25) (g_this_26) (g_this_27) (g_this_28) (g_this_29) (g_this_30) a_signs 1 4 _ h) (cwV 2 hts gX6_fieldOf_X6_digits rfl rfl rfl q_X6_digits ⟨Nat.le_of_ble_eq_true rfl, Nat.le_of_ble_eq_true rfl⟩) ⟨fun a U g mk q => by obtain ⟨q0, q1, qP, qK, qD⟩ := q; exact ⟨q0, q1, qP, va_K.moved (u := U) (U := U.calling g mk a) (Vm.Alike.refl U.vm) qK, qD⟩, va_recv hK hP (ci := 6) (q0 := 0) rfl rfl, fun U hU hW => ⟨rfl, by rw [hU], by rw [hU]; exact hPc, va_K.moved hW.alike hK, hDc.weaken (fun _ _ _ _ => trivial)⟩⟩ rfl rfl hl.1 rfl (lv_room (Nat.le_of_ble_eq_true rfl)) dX6_fieldOf_7 ⟨Nat.le_of_ble_eq_true rfl, Nat.le_of_ble_eq_true rfl⟩) hS (fun q _ h => hFc q h) hFc (fun r7 u t H1 locs ht hvm hw hB hz1 hk1 hS => ?_)
    obtain ⟨hP1, hK1, hD1⟩ := hB
    rw [ht] at hP1
    obtain ⟨hP, hD⟩ := va_join (wr := []) (w1 := [(h_this, .inr (6, [g_this_0, g_this_1, g_this_2, g_this_3, g_this_4, g_this_5, g_this_6, g_this_7, g_this_8, g_this_9, g_this_10, g_this_11, g_this_12, g_this_13, .ref h_signs, g_this_15, g_this_16, g_this_17, g_this_18, g_this_19, g_this_20, g_this_21, g_this_22, g_this_23, g_this_24, g_this_25, g_this_26, g_this_27, g_this_28, g_this_29, g_this_30])), (h_signs, .inl (cy, 20, .inl a_signs))]) hP hD [0, 1] [] rfl rfl (by decide) (by decide) hk1 hFc hP1 hD1
    replace hP := hP.sub (ws' := [(h_this, .inr (6, [g_this_0, g_this_1, g_this_2, g_this_3, g_this_4, g_this_5, g_this_6, g_this_7, g_this_8, g_this_9, g_this_10, g_this_11, g_this_12, g_this_13, .ref h_signs, g_this_15, g_this_16, g_this_17, g_this_18, g_this_19, g_this_20, g_this_21, g_this_22, g_this_23, g_this_24, g_this_25, g_this_26, g_this_27, g_this_28, g_this_29, g_this_30])), (h_signs, .inl (cy, 20, .inl a_signs))]) [0, 1] rfl
    replace hD := hD.sub (ws' := [(h_this, .inr (6, [g_this_0, g_this_1, g_this_2, g_this_3, g_this_4, g_this_5, g_this_6, g_this_7, g_this_8, g_this_9, g_this_10, g_this_11, g_this_12, g_this_13, .ref h_signs, g_this_15, g_this_16, g_this_17, g_this_18, g_this_19, g_this_20, g_this_21, g_this_22, g_this_23, g_this_24, g_this_25, g_this_26, g_this_27, g_this_28, g_this_29, g_this_30])), (h_signs, .inl (cy, 20, .inl a_signs))]) [0, 1] (by decide) rfl
    clear hPc hDc hFc hP1 hK1 hD1 hz1 hk1 hvm
    subst ht
    generalize t.heap = H at hP hS ⊢
    replace h := hw
    clear hw
    refine lv_goto (tgt := 36) hx hb dX6_fieldOf_10 (by decide) ?_
    exact J36 r7 H locs ls h hP hD hS (lv_sub hl [] rfl)
