abbrev rm_X6_near : Room := { frames := 0, cells := 0, slots := 0, locals := 0 }
theorem q_X6_near : yX6_near.cls ≠ "java/lang/invoke/MethodHandle" ∧ yX6_near.cls ≠ "java/lang/invoke/VarHandle" ∧ (parseMethodDescriptor yX6_near.desc).map (fun d => d.parameters.length) = some 3 := by decide +kernel
set_option maxHeartbeats 4000000 in
set_option maxRecDepth 100000 in
theorem c_X6_near (l : Launch) (dC : Nat → ClassId) (dI : Nat → Nat → Nat) (cy : ClassId) (n_p0 : Nat) (h_p0 : Nat) (sz : Nat) (a_p0 : Nat → Int32) (x1 : Int32) (x2 : Int32) (Q : Int32 → Prop) (h : p_X6_near n_p0 a_p0 x1 x2 Q) : Met l yX6_near wsX6_near rm_X6_near (va_Pc [.ref h_p0, .int x1, .int x2] (fun U => U.heap.size = sz ∧ va_P (dC, dI) vwCl [(h_p0, .inl (cy, n_p0, .inl a_p0))] U.heap ∧ va_K (dC, dI) vwCl [(cy, .int)] U ∧ va_D (fun _ => True) [(h_p0, .inl (cy, n_p0, .inl a_p0))])) (va_Qi (fun (r : Int32) (u : Unit) => Q r) (fun (u : Unit) (t : State) => va_P (dC, dI) vwCl [(h_p0, .inl (cy, n_p0, .inl a_p0))] t.heap ∧ va_K (dC, dI) vwCl [(cy, .int)] t ∧ va_D (va_A [(h_p0, .inl (cy, n_p0, .inl a_p0))] sz) [(h_p0, .inl (cy, n_p0, .inl a_p0))]) (va_A [(h_p0, .inl (cy, n_p0, .inl a_p0))] sz)) 0 0 (va_A [(h_p0, .inl (cy, n_p0, .inl a_p0))] sz) := by
  refine Met.ofW (cc := cX6_near) (maxL := 4) (ret := (some .int)) (by decide) rfl ?_
  intro p e s m args below meth c s₁ B hml hv
  obtain ⟨hargs, hsz, hP, hK, hD0⟩ := hv
  have hx := B.exec
  have hb := B.bytes
  have hr := B.returns
  have hts := atoms_spec (ws := wsX6_near) B.pre
  have hown : s.vm.findClass RX6 = some m.cls := findClass_of_methodNamed B.named
  have hlocks := B.notSynchronized
  subst hsz
  have hD := hD0.self (sz := s.heap.size)
  generalize hAe : va_A [(h_p0, .inl (cy, n_p0, .inl a_p0))] s.heap.size = A at hD ⊢
  have hA : ∀ q : Nat, s.heap.size ≤ q → A q := fun q h => by rw [← hAe]; exact Or.inr h
  have hS : va_S A s.heap s.heap [] := va_S.rf
  have hl := lv_entry ([.ref h_p0, .int x1, .int x2]) (n := 4) (Nat.le_of_ble_eq_true rfl)
  rw [show entryFrame m args 4 = entryFrame m ([.ref h_p0, .int x1, .int x2] : List Value).toArray 4 by rw [hargs], lg_entry_eq]
  generalize (lg_sl ([.ref h_p0, .int x1, .int x2]) ++ List.replicate (4 - (lg_sl ([.ref h_p0, .int x1, .int x2])).length) Slot.unset).toArray = ls at hl ⊢
  have hl : lv_has ls 4 [(0, .ref h_p0), (1, .int x1), (2, .int x2)] := hl
  have hP : va_P (dC, dI) vwCl [(h_p0, .inl (cy, n_p0, .inl a_p0))] s.heap := hP
  change W p l e rm_X6_near s m args below meth c s.heap [] 0 0 _ _
  generalize hQQ : MQ below _ _ _ _ _ _ = QQ
  have RET : ∀ (r : Int32) (H : Heap) (locs : List Loc) (ls : Array Slot) (pc : Nat), decode cX6_near pc = .ok (.ireturn, 1) → Q r → va_P (dC, dI) vwCl [(h_p0, .inl (cy, n_p0, .inl a_p0))] H → va_D A [(h_p0, .inl (cy, n_p0, .inl a_p0))] → va_S A s.heap H locs → W p l e rm_X6_near s m args below meth c H locs 0 0 QQ (F0 m pc ls [.int r]) := by
    intro r  H locs ls pc hdg hq hP hD hS
    rw [← hQQ]
    exact W.iret (v := r) hx hb hr (fun t ht hW => ⟨⟨r, (), rfl, hq, by rw [ht]; exact hP, va_K.moved hW.alike hK, hD⟩, hS.F ht⟩) hS.2.2 hdg
  clear hQQ
  unfold p_X6_near at h
  have J54 : ∀ (x3 : Int32) (H : Heap) (locs : List Loc) (ls : Array Slot), p_X6_near_J54 Q x3 → va_P (dC, dI) vwCl [(h_p0, .inl (cy, n_p0, .inl a_p0))] H → va_D A [(h_p0, .inl (cy, n_p0, .inl a_p0))] → va_S A s.heap H locs → lv_has ls 4 [(3, .int x3)] → W p l e rm_X6_near s m args below meth c H locs 0 0 QQ (F0 m 54 ls []) := by
    intro x3 H locs ls h hP hD hS hl
    unfold p_X6_near_J54 at h
    refine lv_iload_n hx hb dX6_near_54 rfl (lv_at hl 0 rfl) ?_
    exact RET x3 H locs ls 55 dX6_near_55 h hP hD hS
  have J29 : ∀ (x1 : Int32) (x2 : Int32) (x3 : Int32) (H : Heap) (locs : List Loc) (ls : Array Slot), p_X6_near_J29 n_p0 a_p0 Q x1 x2 x3 → va_P (dC, dI) vwCl [(h_p0, .inl (cy, n_p0, .inl a_p0))] H → va_D A [(h_p0, .inl (cy, n_p0, .inl a_p0))] → va_S A s.heap H locs → lv_has ls 4 [(0, .ref h_p0), (1, .int x1), (2, .int x2), (3, .int x3)] → W p l e rm_X6_near s m args below meth c H locs 0 0 QQ (F0 m 29 ls []) := by
    intro x1 x2 x3 H locs ls h hP hD hS hl
    unfold p_X6_near_J29 at h
    refine lv_iload_n hx hb dX6_near_29 rfl (lv_at hl 2 rfl) ?_
    refine lv_bipush (v := 8) hx hb dX6_near_30 (by decide) ?_
    refine lv_icmp_ge (tgt := 54) hx hb dX6_near_32 (by decide) (fun c32 => ?_) (fun c32 => ?_)
    · replace h := And.left h c32
      exact J54 x3 H locs ls h hP hD hS (lv_sub hl [3] rfl)
    · replace h := And.right h c32
      refine lv_aload_n hx hb dX6_near_35 rfl (lv_at hl 0 rfl) ?_
      refine lv_iload_n hx hb dX6_near_36 rfl (lv_at hl 1 rfl) ?_
      refine lv_iload_n hx hb dX6_near_37 rfl (lv_at hl 2 rfl) ?_
      refine lv_iadd hx hb dX6_near_38 ?_
      refine lv_iconst (v := 1) hx hb dX6_near_39 (by decide) ?_
      refine lv_iadd hx hb dX6_near_40 ?_
      obtain ⟨b41, h⟩ := h
      refine va_iald hx hb hK hP 0 0 rfl rfl b41 dX6_near_41 ?_
      refine lv_iload_n hx hb dX6_near_42 rfl (lv_at hl 3 rfl) ?_
      refine lv_icmp_ge (tgt := 54) hx hb dX6_near_43 (by decide) (fun c43 => ?_) (fun c43 => ?_)
      · replace h := And.left h c43
        exact J54 x3 H locs ls h hP hD hS (lv_sub hl [3] rfl)
      · replace h := And.right h c43
        refine lv_aload_n hx hb dX6_near_46 rfl (lv_at hl 0 rfl) ?_
        refine lv_iload_n hx hb dX6_near_47 rfl (lv_at hl 1 rfl) ?_
        refine lv_iload_n hx hb dX6_near_48 rfl (lv_at hl 2 rfl) ?_
        refine lv_iadd hx hb dX6_near_49 ?_
        refine lv_iconst (v := 1) hx hb dX6_near_50 (by decide) ?_
        refine lv_iadd hx hb dX6_near_51 ?_
        obtain ⟨b52, h⟩ := h
        refine va_iald hx hb hK hP 0 0 rfl rfl b52 dX6_near_52 ?_
        refine lv_istore_n (lv' := [(3, .int (a_p0 (Int32.toNatClampNeg ((x1 + x2) + 1)))), (0, .ref h_p0), (1, .int x1), (2, .int x2)]) hx hb dX6_near_53 rfl hl (by decide) rfl (fun ls hl => ?_)
        exact J54 (a_p0 (Int32.toNatClampNeg ((x1 + x2) + 1))) H locs ls h hP hD hS (lv_sub hl [0] rfl)
  generalize hlo : ([] : List Loc) = locs at hS ⊢
  obtain ⟨H, hH⟩ : ∃ z, z = s.heap := ⟨_, rfl⟩
  rw [show W p l e rm_X6_near s m args below meth c s.heap = W p l e rm_X6_near s m args below meth c H by rw [hH]]
  replace hP : va_P (dC, dI) vwCl [(h_p0, .inl (cy, n_p0, .inl a_p0))] H := by rw [hH]; exact hP
  replace hS : va_S A s.heap H locs := by rw [hH]; exact hS
  clear hH hlo
  refine lv_aload_n hx hb dX6_near_0 rfl (lv_at hl 0 rfl) ?_
  refine lv_iload_n hx hb dX6_near_1 rfl (lv_at hl 1 rfl) ?_
  refine lv_iload_n hx hb dX6_near_2 rfl (lv_at hl 2 rfl) ?_
  refine lv_iadd hx hb dX6_near_3 ?_
  obtain ⟨b4, h⟩ := h
  refine va_iald hx hb hK hP 0 0 rfl rfl b4 dX6_near_4 ?_
  refine lv_istore_n (lv' := [(3, .int (a_p0 (Int32.toNatClampNeg (x1 + x2)))), (0, .ref h_p0), (1, .int x1), (2, .int x2)]) hx hb dX6_near_5 rfl hl (by decide) rfl (fun ls hl => ?_)
  refine lv_iload_n hx hb dX6_near_6 rfl (lv_at hl 3 rfl) ?_
  refine lv_if_le (tgt := 29) hx hb dX6_near_7 (by decide) (fun c7 => ?_) (fun c7 => ?_)
  · replace h := And.left h c7
    exact J29 x1 x2 (a_p0 (Int32.toNatClampNeg (x1 + x2))) H locs ls h hP hD hS (lv_sub hl [1, 2, 3, 0] rfl)
  · replace h := And.right h c7
    refine lv_aload_n hx hb dX6_near_10 rfl (lv_at hl 1 rfl) ?_
    refine lv_iload_n hx hb dX6_near_11 rfl (lv_at hl 2 rfl) ?_
    refine lv_iload_n hx hb dX6_near_12 rfl (lv_at hl 3 rfl) ?_
    refine lv_iadd hx hb dX6_near_13 ?_
    refine lv_iconst (v := 1) hx hb dX6_near_14 (by decide) ?_
    refine lv_isub hx hb dX6_near_15 ?_
    obtain ⟨b16, h⟩ := h
    refine va_iald hx hb hK hP 0 0 rfl rfl b16 dX6_near_16 ?_
    refine lv_iload_n hx hb dX6_near_17 rfl (lv_at hl 0 rfl) ?_
    refine lv_icmp_ge (tgt := 29) hx hb dX6_near_18 (by decide) (fun c18 => ?_) (fun c18 => ?_)
    · replace h := And.left h c18
      exact J29 x1 x2 (a_p0 (Int32.toNatClampNeg (x1 + x2))) H locs ls h hP hD hS (lv_sub hl [1, 2, 3, 0] rfl)
    · replace h := And.right h c18
      refine lv_aload_n hx hb dX6_near_21 rfl (lv_at hl 1 rfl) ?_
      refine lv_iload_n hx hb dX6_near_22 rfl (lv_at hl 2 rfl) ?_
      refine lv_iload_n hx hb dX6_near_23 rfl (lv_at hl 3 rfl) ?_
      refine lv_iadd hx hb dX6_near_24 ?_
      refine lv_iconst (v := 1) hx hb dX6_near_25 (by decide) ?_
      refine lv_isub hx hb dX6_near_26 ?_
      obtain ⟨b27, h⟩ := h
      refine va_iald hx hb hK hP 0 0 rfl rfl b27 dX6_near_27 ?_
      refine lv_istore_n (lv' := [(3, .int (a_p0 (Int32.toNatClampNeg ((x1 + x2) - 1)))), (0, .ref h_p0), (1, .int x1), (2, .int x2)]) hx hb dX6_near_28 rfl hl (by decide) rfl (fun ls hl => ?_)
      exact J29 x1 x2 (a_p0 (Int32.toNatClampNeg ((x1 + x2) - 1))) H locs ls h hP hD hS (lv_sub hl [1, 2, 3, 0] rfl)
abbrev rm_X6_cheapest : Room := { frames := 1, cells := 0, slots := 0, locals := 22 }
theorem q_X6_cheapest : yX6_cheapest.cls = RX6 ∧ yX6_cheapest.cls ≠ "java/lang/invoke/MethodHandle" ∧ yX6_cheapest.cls ≠ "java/lang/invoke/VarHandle" ∧ (parseMethodDescriptor yX6_cheapest.desc).map (fun d => d.parameters.length) = some 2 := by decide +kernel
set_option maxHeartbeats 4000000 in
set_option maxRecDepth 100000 in
theorem c_X6_cheapest (l : Launch) (dC : Nat → ClassId) (dI : Nat → Nat → Nat) (cy : ClassId) (h_this : Nat) (h_costs : Nat) (sz : Nat) (g_this_0 g_this_1 g_this_2 g_this_3 g_this_5 g_this_6 g_this_7 g_this_8 g_this_9 g_this_10 g_this_11 g_this_12 g_this_13 g_this_14 g_this_15 g_this_16 g_this_17 g_this_18 g_this_19 g_this_20 g_this_21 g_this_22 g_this_23 g_this_24 g_this_25 g_this_26 g_this_27 g_this_28 g_this_29 g_this_30 : Value) (a_costs : Nat → Int32) (x1 : Int32) (x2 : Int32) (Q : Int32 → Prop) (h : p_X6_cheapest a_costs x1 x2 Q) : Met l yX6_cheapest wsX6_cheapest rm_X6_cheapest (va_Pc [.ref h_this, .int x1, .int x2] (fun U => U.heap.size = sz ∧ va_P (dC, dI) vwCl [(h_this, .inr (6, [g_this_0, g_this_1, g_this_2, g_this_3, .ref h_costs, g_this_5, g_this_6, g_this_7, g_this_8, g_this_9, g_this_10, g_this_11, g_this_12, g_this_13, g_this_14, g_this_15, g_this_16, g_this_17, g_this_18, g_this_19, g_this_20, g_this_21, g_this_22, g_this_23, g_this_24, g_this_25, g_this_26, g_this_27, g_this_28, g_this_29, g_this_30])), (h_costs, .inl (cy, 2160, .inl a_costs))] U.heap ∧ va_K (dC, dI) vwCl [(cy, .int)] U ∧ va_D (fun _ => True) [(h_this, .inr (6, [g_this_0, g_this_1, g_this_2, g_this_3, .ref h_costs, g_this_5, g_this_6, g_this_7, g_this_8, g_this_9, g_this_10, g_this_11, g_this_12, g_this_13, g_this_14, g_this_15, g_this_16, g_this_17, g_this_18, g_this_19, g_this_20, g_this_21, g_this_22, g_this_23, g_this_24, g_this_25, g_this_26, g_this_27, g_this_28, g_this_29, g_this_30])), (h_costs, .inl (cy, 2160, .inl a_costs))])) (va_Qi (fun (r : Int32) (u : Unit) => Q r) (fun (u : Unit) (t : State) => va_P (dC, dI) vwCl [(h_this, .inr (6, [g_this_0, g_this_1, g_this_2, g_this_3, .ref h_costs, g_this_5, g_this_6, g_this_7, g_this_8, g_this_9, g_this_10, g_this_11, g_this_12, g_this_13, g_this_14, g_this_15, g_this_16, g_this_17, g_this_18, g_this_19, g_this_20, g_this_21, g_this_22, g_this_23, g_this_24, g_this_25, g_this_26, g_this_27, g_this_28, g_this_29, g_this_30])), (h_costs, .inl (cy, 2160, .inl a_costs))] t.heap ∧ va_K (dC, dI) vwCl [(cy, .int)] t ∧ va_D (va_A [(h_this, .inr (6, [g_this_0, g_this_1, g_this_2, g_this_3, .ref h_costs, g_this_5, g_this_6, g_this_7, g_this_8, g_this_9, g_this_10, g_this_11, g_this_12, g_this_13, g_this_14, g_this_15, g_this_16, g_this_17, g_this_18, g_this_19, g_this_20, g_this_21, g_this_22, g_this_23, g_this_24, g_this_25, g_this_26, g_this_27, g_this_28, g_this_29, g_this_30])), (h_costs, .inl (cy, 2160, .inl a_costs))] sz) [(h_this, .inr (6, [g_this_0, g_this_1, g_this_2, g_this_3, .ref h_costs, g_this_5, g_this_6, g_this_7, g_this_8, g_this_9, g_this_10, g_this_11, g_this_12, g_this_13, g_this_14, g_this_15, g_this_16, g_this_17, g_this_18, g_this_19, g_this_20, g_this_21, g_this_22, g_this_23, g_this_24, g_this_25, g_this_26, g_this_27, g_this_28, g_this_29, g_this_30])), (h_costs, .inl (cy, 2160, .inl a_costs))]) (va_A [(h_this, .inr (6, [g_this_0, g_this_1, g_this_2, g_this_3, .ref h_costs, g_this_5, g_this_6, g_this_7, g_this_8, g_this_9, g_this_10, g_this_11, g_this_12, g_this_13, g_this_14, g_this_15, g_this_16, g_this_17, g_this_18, g_this_19, g_this_20, g_this_21, g_this_22, g_this_23, g_this_24, g_this_25, g_this_26, g_this_27, g_this_28, g_this_29, g_this_30])), (h_costs, .inl (cy, 2160, .inl a_costs))] sz)) 0 0 (va_A [(h_this, .inr (6, [g_this_0, g_this_1, g_this_2, g_this_3, .ref h_costs, g_this_5, g_this_6, g_this_7, g_this_8, g_this_9, g_this_10, g_this_11, g_this_12, g_this_13, g_this_14, g_this_15, g_this_16, g_this_17, g_this_18, g_this_19, g_this_20, g_this_21, g_this_22, g_this_23, g_this_24, g_this_25, g_this_26, g_this_27, g_this_28, g_this_29, g_this_30])), (h_costs, .inl (cy, 2160, .inl a_costs))] sz) := by
  refine Met.ofW (cc := cX6_cheapest) (maxL := 5) (ret := (some .int)) (by decide) rfl ?_
  intro p e s m args below meth c s₁ B hml hv
  obtain ⟨hargs, hsz, hP, hK, hD0⟩ := hv
  have hx := B.exec
  have hb := B.bytes
  have hr := B.returns
  have hts := atoms_spec (ws := wsX6_cheapest) B.pre
  have hown : s.vm.findClass RX6 = some m.cls := findClass_of_methodNamed B.named
  have hlocks := B.notSynchronized
  subst hsz
  have hD := hD0.self (sz := s.heap.size)
  generalize hAe : va_A [(h_this, .inr (6, [g_this_0, g_this_1, g_this_2, g_this_3, .ref h_costs, g_this_5, g_this_6, g_this_7, g_this_8, g_this_9, g_this_10, g_this_11, g_this_12, g_this_13, g_this_14, g_this_15, g_this_16, g_this_17, g_this_18, g_this_19, g_this_20, g_this_21, g_this_22, g_this_23, g_this_24, g_this_25, g_this_26, g_this_27, g_this_28, g_this_29, g_this_30])), (h_costs, .inl (cy, 2160, .inl a_costs))] s.heap.size = A at hD ⊢
  have hA : ∀ q : Nat, s.heap.size ≤ q → A q := fun q h => by rw [← hAe]; exact Or.inr h
  have hS : va_S A s.heap s.heap [] := va_S.rf
  have in_X6 : ∀ w ∈ u_ws RX6 TX6 31, w ∈ wsX6_cheapest := by decide +kernel
  have k_16 := hts (.fieldLink RX6 16 "ChequeDeskModel" "costs" "[I") (by decide +kernel)
  have k_82 := hts (.constant RX6 82 100000000) (by decide +kernel)
  have hl := lv_entry ([.ref h_this, .int x1, .int x2]) (n := 5) (Nat.le_of_ble_eq_true rfl)
  rw [show entryFrame m args 5 = entryFrame m ([.ref h_this, .int x1, .int x2] : List Value).toArray 5 by rw [hargs], lg_entry_eq]
  generalize (lg_sl ([.ref h_this, .int x1, .int x2]) ++ List.replicate (5 - (lg_sl ([.ref h_this, .int x1, .int x2])).length) Slot.unset).toArray = ls at hl ⊢
  have hl : lv_has ls 5 [(0, .ref h_this), (1, .int x1), (2, .int x2)] := hl
  have hP : va_P (dC, dI) vwCl [(h_this, .inr (6, [g_this_0, g_this_1, g_this_2, g_this_3, .ref h_costs, g_this_5, g_this_6, g_this_7, g_this_8, g_this_9, g_this_10, g_this_11, g_this_12, g_this_13, g_this_14, g_this_15, g_this_16, g_this_17, g_this_18, g_this_19, g_this_20, g_this_21, g_this_22, g_this_23, g_this_24, g_this_25, g_this_26, g_this_27, g_this_28, g_this_29, g_this_30])), (h_costs, .inl (cy, 2160, .inl a_costs))] s.heap := hP
  change W p l e rm_X6_cheapest s m args below meth c s.heap [] 0 0 _ _
  generalize hQQ : MQ below _ _ _ _ _ _ = QQ
  have RET : ∀ (r : Int32) (H : Heap) (locs : List Loc) (ls : Array Slot) (pc : Nat), decode cX6_cheapest pc = .ok (.ireturn, 1) → Q r → va_P (dC, dI) vwCl [(h_this, .inr (6, [g_this_0, g_this_1, g_this_2, g_this_3, .ref h_costs, g_this_5, g_this_6, g_this_7, g_this_8, g_this_9, g_this_10, g_this_11, g_this_12, g_this_13, g_this_14, g_this_15, g_this_16, g_this_17, g_this_18, g_this_19, g_this_20, g_this_21, g_this_22, g_this_23, g_this_24, g_this_25, g_this_26, g_this_27, g_this_28, g_this_29, g_this_30])), (h_costs, .inl (cy, 2160, .inl a_costs))] H → va_D A [(h_this, .inr (6, [g_this_0, g_this_1, g_this_2, g_this_3, .ref h_costs, g_this_5, g_this_6, g_this_7, g_this_8, g_this_9, g_this_10, g_this_11, g_this_12, g_this_13, g_this_14, g_this_15, g_this_16, g_this_17, g_this_18, g_this_19, g_this_20, g_this_21, g_this_22, g_this_23, g_this_24, g_this_25, g_this_26, g_this_27, g_this_28, g_this_29, g_this_30])), (h_costs, .inl (cy, 2160, .inl a_costs))] → va_S A s.heap H locs → W p l e rm_X6_cheapest s m args below meth c H locs 0 0 QQ (F0 m pc ls [.int r]) := by
    intro r  H locs ls pc hdg hq hP hD hS
    rw [← hQQ]
    exact W.iret (v := r) hx hb hr (fun t ht hW => ⟨⟨r, (), rfl, hq, by rw [ht]; exact hP, va_K.moved hW.alike hK, hD⟩, hS.F ht⟩) hS.2.2 hdg
  clear hQQ
  unfold p_X6_cheapest at h
  have L6 : ∀ (x1 : Int32) (x2 : Int32) (K6 : Int32 → Int32 → Prop) (n : Nat) (x3 : Int32) (x4 : Int32) (H : Heap) (locs : List Loc) (ls : Array Slot), wl2 (p_X6_cheapest_B6 a_costs x1 x2 K6) n x3 x4 → va_P (dC, dI) vwCl [(h_this, .inr (6, [g_this_0, g_this_1, g_this_2, g_this_3, .ref h_costs, g_this_5, g_this_6, g_this_7, g_this_8, g_this_9, g_this_10, g_this_11, g_this_12, g_this_13, g_this_14, g_this_15, g_this_16, g_this_17, g_this_18, g_this_19, g_this_20, g_this_21, g_this_22, g_this_23, g_this_24, g_this_25, g_this_26, g_this_27, g_this_28, g_this_29, g_this_30])), (h_costs, .inl (cy, 2160, .inl a_costs))] H → va_D A [(h_this, .inr (6, [g_this_0, g_this_1, g_this_2, g_this_3, .ref h_costs, g_this_5, g_this_6, g_this_7, g_this_8, g_this_9, g_this_10, g_this_11, g_this_12, g_this_13, g_this_14, g_this_15, g_this_16, g_this_17, g_this_18, g_this_19, g_this_20, g_this_21, g_this_22, g_this_23, g_this_24, g_this_25, g_this_26, g_this_27, g_this_28, g_this_29, g_this_30])), (h_costs, .inl (cy, 2160, .inl a_costs))] → va_S A s.heap H locs → lv_has ls 5 [(0, .ref h_this), (1, .int x1), (2, .int x2), (3, .int x3), (4, .int x4)] → (∀ (x3 : Int32) (x4 : Int32) (H : Heap) (locs : List Loc) (ls : Array Slot), K6 x3 x4 → va_P (dC, dI) vwCl [(h_this, .inr (6, [g_this_0, g_this_1, g_this_2, g_this_3, .ref h_costs, g_this_5, g_this_6, g_this_7, g_this_8, g_this_9, g_this_10, g_this_11, g_this_12, g_this_13, g_this_14, g_this_15, g_this_16, g_this_17, g_this_18, g_this_19, g_this_20, g_this_21, g_this_22, g_this_23, g_this_24, g_this_25, g_this_26, g_this_27, g_this_28, g_this_29, g_this_30])), (h_costs, .inl (cy, 2160, .inl a_costs))] H → va_D A [(h_this, .inr (6, [g_this_0, g_this_1, g_this_2, g_this_3, .ref h_costs, g_this_5, g_this_6, g_this_7, g_this_8, g_this_9, g_this_10, g_this_11, g_this_12, g_this_13, g_this_14, g_this_15, g_this_16, g_this_17, g_this_18, g_this_19, g_this_20, g_this_21, g_this_22, g_this_23, g_this_24, g_this_25, g_this_26, g_this_27, g_this_28, g_this_29, g_this_30])), (h_costs, .inl (cy, 2160, .inl a_costs))] → va_S A s.heap H locs → lv_has ls 5 [(3, .int x3)] → W p l e rm_X6_cheapest s m args below meth c H locs 0 0 QQ (F0 m 52 ls [])) → W p l e rm_X6_cheapest s m args below meth c H locs 0 0 QQ (F0 m 6 ls []) := by
    intro x1 x2 K6 n
    induction n with
    | zero => intro x3 x4 H locs ls h; exact False.elim h
    | succ n ih =>
      intro x3 x4 H locs ls h hP hD hS hl hk
      have ih := fun x3 x4 H locs ls h hP hD hS hl => ih x3 x4 H locs ls h hP hD hS hl hk
      replace h : p_X6_cheapest_B6 a_costs x1 x2 K6 (wl2 (p_X6_cheapest_B6 a_costs x1 x2 K6) n) x3 x4 := h
      unfold p_X6_cheapest_B6 at h
      have J45 : ∀ (x4 : Int32) (s0 : Int32) (H : Heap) (locs : List Loc) (ls : Array Slot), p_X6_cheapest_J45 (wl2 (p_X6_cheapest_B6 a_costs x1 x2 K6) n) x4 s0 → va_P (dC, dI) vwCl [(h_this, .inr (6, [g_this_0, g_this_1, g_this_2, g_this_3, .ref h_costs, g_this_5, g_this_6, g_this_7, g_this_8, g_this_9, g_this_10, g_this_11, g_this_12, g_this_13, g_this_14, g_this_15, g_this_16, g_this_17, g_this_18, g_this_19, g_this_20, g_this_21, g_this_22, g_this_23, g_this_24, g_this_25, g_this_26, g_this_27, g_this_28, g_this_29, g_this_30])), (h_costs, .inl (cy, 2160, .inl a_costs))] H → va_D A [(h_this, .inr (6, [g_this_0, g_this_1, g_this_2, g_this_3, .ref h_costs, g_this_5, g_this_6, g_this_7, g_this_8, g_this_9, g_this_10, g_this_11, g_this_12, g_this_13, g_this_14, g_this_15, g_this_16, g_this_17, g_this_18, g_this_19, g_this_20, g_this_21, g_this_22, g_this_23, g_this_24, g_this_25, g_this_26, g_this_27, g_this_28, g_this_29, g_this_30])), (h_costs, .inl (cy, 2160, .inl a_costs))] → va_S A s.heap H locs → lv_has ls 5 [(0, .ref h_this), (1, .int x1), (2, .int x2), (4, .int x4)] → W p l e rm_X6_cheapest s m args below meth c H locs 0 0 QQ (F0 m 45 ls [.int s0]) := by
        intro x4 s0 H locs ls h hP hD hS hl
        unfold p_X6_cheapest_J45 at h
        refine lv_istore_n (lv' := [(3, .int s0), (0, .ref h_this), (1, .int x1), (2, .int x2), (4, .int x4)]) hx hb dX6_cheapest_45 rfl hl (by decide) rfl (fun ls hl => ?_)
        refine lv_iinc (v := x4 + 1) (lv' := [(4, .int (x4 + 1)), (3, .int s0), (0, .ref h_this), (1, .int x1), (2, .int x2)]) hx hb dX6_cheapest_46 hl (k := 4) rfl (by rfl) (by decide) rfl (fun ls hl => ?_)
        refine lv_goto (tgt := 6) hx hb dX6_cheapest_49 (by decide) ?_
        exact ih s0 (x4 + 1) H locs ls h hP hD hS (lv_sub hl [2, 3, 4, 1, 0] rfl)
      refine lv_iload hx hb dX6_cheapest_6 (lv_at hl 4 rfl) ?_
      refine lv_bipush (v := 12) hx hb dX6_cheapest_8 (by decide) ?_
      refine lv_icmp_ge (tgt := 52) hx hb dX6_cheapest_10 (by decide) (fun c10 => ?_) (fun c10 => ?_)
      · replace h := And.left h c10
        exact hk x3 x4 H locs ls h hP hD hS (lv_sub hl [3] rfl)
      · replace h := And.right h c10
        refine lv_aload_n hx hb dX6_cheapest_13 rfl (lv_at hl 0 rfl) ?_
        refine va_get (D := (dC, dI)) (ci := 6) (v := .ref h_costs) (C := RX6) (T := TX6) (N := 31) hx hb hts in_X6 hown hK hP 0 rfl rfl 4 (by decide) k_16 (fun _ h9 => h9) rfl dX6_cheapest_14 ?_
        refine lv_iload_n hx hb dX6_cheapest_17 rfl (lv_at hl 1 rfl) ?_
        refine lv_iload hx hb dX6_cheapest_18 (lv_at hl 4 rfl) ?_
        refine lv_iload_n hx hb dX6_cheapest_20 rfl (lv_at hl 2 rfl) ?_
        have hPc := hP.sub (ws' := []) [] rfl
        have hDc := hD.sub (ws' := []) [] (by decide) rfl
        have hFc := va_free (wc := []) hD hS hA [] rfl
        refine va_calli (va_runS (As := [.int x1, .int x4, .int x2]) (rest := [.ref h_costs]) ⟨hx, hb, hml, hown, hts⟩ (c_X6_cell l dC dI cy  H.size   x1 x4 x2 _ h) (va_cwS 3 hts gX6_cheapest_X6_cell rfl rfl rfl q_X6_cell ⟨Nat.le_of_ble_eq_true rfl, Nat.le_of_ble_eq_true rfl⟩) ⟨fun a U g mk q => by obtain ⟨q0, q1, qP, qK, qD⟩ := q; exact ⟨q0, q1, qP, va_K.moved (u := U) (U := U.calling g mk a) (Vm.Alike.refl U.vm) qK, qD⟩, fun U hU hW => ⟨rfl, by rw [hU], by rw [hU]; exact hPc, va_K.moved hW.alike hK, hDc.weaken (fun _ _ _ _ => trivial)⟩⟩ rfl rfl hl.1 rfl (lv_room (Nat.le_of_ble_eq_true rfl)) dX6_cheapest_21 ⟨Nat.le_of_ble_eq_true rfl, Nat.le_of_ble_eq_true rfl⟩) hS (fun q _ h => hFc q h) hFc (fun r21 u t H1 locs ht hvm hw hB hz1 hk1 hS => ?_)
        obtain ⟨hP1, hK1, hD1⟩ := hB
        rw [ht] at hP1
        obtain ⟨hP, hD⟩ := va_join (wr := [(h_this, .inr (6, [g_this_0, g_this_1, g_this_2, g_this_3, .ref h_costs, g_this_5, g_this_6, g_this_7, g_this_8, g_this_9, g_this_10, g_this_11, g_this_12, g_this_13, g_this_14, g_this_15, g_this_16, g_this_17, g_this_18, g_this_19, g_this_20, g_this_21, g_this_22, g_this_23, g_this_24, g_this_25, g_this_26, g_this_27, g_this_28, g_this_29, g_this_30])), (h_costs, .inl (cy, 2160, .inl a_costs))]) (w1 := []) hP hD [] [0, 1] rfl rfl (by decide) (by decide) hk1 hFc hP1 hD1
        replace hP := hP.sub (ws' := [(h_this, .inr (6, [g_this_0, g_this_1, g_this_2, g_this_3, .ref h_costs, g_this_5, g_this_6, g_this_7, g_this_8, g_this_9, g_this_10, g_this_11, g_this_12, g_this_13, g_this_14, g_this_15, g_this_16, g_this_17, g_this_18, g_this_19, g_this_20, g_this_21, g_this_22, g_this_23, g_this_24, g_this_25, g_this_26, g_this_27, g_this_28, g_this_29, g_this_30])), (h_costs, .inl (cy, 2160, .inl a_costs))]) [0, 1] rfl
        replace hD := hD.sub (ws' := [(h_this, .inr (6, [g_this_0, g_this_1, g_this_2, g_this_3, .ref h_costs, g_this_5, g_this_6, g_this_7, g_this_8, g_this_9, g_this_10, g_this_11, g_this_12, g_this_13, g_this_14, g_this_15, g_this_16, g_this_17, g_this_18, g_this_19, g_this_20, g_this_21, g_this_22, g_this_23, g_this_24, g_this_25, g_this_26, g_this_27, g_this_28, g_this_29, g_this_30])), (h_costs, .inl (cy, 2160, .inl a_costs))]) [0, 1] (by decide) rfl
        clear hPc hDc hFc hP1 hK1 hD1 hz1 hk1 hvm
        subst ht
        generalize t.heap = H at hP hS ⊢
        replace h := hw
        clear hw
        obtain ⟨b24, h⟩ := h
        refine va_iald hx hb hK hP 1 0 rfl rfl b24 dX6_cheapest_24 ?_
        refine lv_iload_n hx hb dX6_cheapest_25 rfl (lv_at hl 3 rfl) ?_
        refine lv_icmp_ge (tgt := 44) hx hb dX6_cheapest_26 (by decide) (fun c26 => ?_) (fun c26 => ?_)
        · replace h := And.left h c26
          refine lv_iload_n hx hb dX6_cheapest_44 rfl (lv_at hl 3 rfl) ?_
          exact J45 x4 x3 H locs ls h hP hD hS (lv_sub hl [0, 1, 2, 4] rfl)
        · replace h := And.right h c26
          refine lv_aload_n hx hb dX6_cheapest_29 rfl (lv_at hl 0 rfl) ?_
          refine va_get (D := (dC, dI)) (ci := 6) (v := .ref h_costs) (C := RX6) (T := TX6) (N := 31) hx hb hts in_X6 hown hK hP 0 rfl rfl 4 (by decide) k_16 (fun _ h9 => h9) rfl dX6_cheapest_30 ?_
          refine lv_iload_n hx hb dX6_cheapest_33 rfl (lv_at hl 1 rfl) ?_
          refine lv_iload hx hb dX6_cheapest_34 (lv_at hl 4 rfl) ?_
          refine lv_iload_n hx hb dX6_cheapest_36 rfl (lv_at hl 2 rfl) ?_
          have hPc := hP.sub (ws' := []) [] rfl
          have hDc := hD.sub (ws' := []) [] (by decide) rfl
          have hFc := va_free (wc := []) hD hS hA [] rfl
          refine va_calli (va_runS (As := [.int x1, .int x4, .int x2]) (rest := [.ref h_costs]) ⟨hx, hb, hml, hown, hts⟩ (c_X6_cell l dC dI cy  H.size   x1 x4 x2 _ h) (va_cwS 3 hts gX6_cheapest_X6_cell rfl rfl rfl q_X6_cell ⟨Nat.le_of_ble_eq_true rfl, Nat.le_of_ble_eq_true rfl⟩) ⟨fun a U g mk q => by obtain ⟨q0, q1, qP, qK, qD⟩ := q; exact ⟨q0, q1, qP, va_K.moved (u := U) (U := U.calling g mk a) (Vm.Alike.refl U.vm) qK, qD⟩, fun U hU hW => ⟨rfl, by rw [hU], by rw [hU]; exact hPc, va_K.moved hW.alike hK, hDc.weaken (fun _ _ _ _ => trivial)⟩⟩ rfl rfl hl.1 rfl (lv_room (Nat.le_of_ble_eq_true rfl)) dX6_cheapest_37 ⟨Nat.le_of_ble_eq_true rfl, Nat.le_of_ble_eq_true rfl⟩) hS (fun q _ h => hFc q h) hFc (fun r37 u t H1 locs ht hvm hw hB hz1 hk1 hS => ?_)
          obtain ⟨hP1, hK1, hD1⟩ := hB
          rw [ht] at hP1
          obtain ⟨hP, hD⟩ := va_join (wr := [(h_this, .inr (6, [g_this_0, g_this_1, g_this_2, g_this_3, .ref h_costs, g_this_5, g_this_6, g_this_7, g_this_8, g_this_9, g_this_10, g_this_11, g_this_12, g_this_13, g_this_14, g_this_15, g_this_16, g_this_17, g_this_18, g_this_19, g_this_20, g_this_21, g_this_22, g_this_23, g_this_24, g_this_25, g_this_26, g_this_27, g_this_28, g_this_29, g_this_30])), (h_costs, .inl (cy, 2160, .inl a_costs))]) (w1 := []) hP hD [] [0, 1] rfl rfl (by decide) (by decide) hk1 hFc hP1 hD1
          replace hP := hP.sub (ws' := [(h_this, .inr (6, [g_this_0, g_this_1, g_this_2, g_this_3, .ref h_costs, g_this_5, g_this_6, g_this_7, g_this_8, g_this_9, g_this_10, g_this_11, g_this_12, g_this_13, g_this_14, g_this_15, g_this_16, g_this_17, g_this_18, g_this_19, g_this_20, g_this_21, g_this_22, g_this_23, g_this_24, g_this_25, g_this_26, g_this_27, g_this_28, g_this_29, g_this_30])), (h_costs, .inl (cy, 2160, .inl a_costs))]) [0, 1] rfl
          replace hD := hD.sub (ws' := [(h_this, .inr (6, [g_this_0, g_this_1, g_this_2, g_this_3, .ref h_costs, g_this_5, g_this_6, g_this_7, g_this_8, g_this_9, g_this_10, g_this_11, g_this_12, g_this_13, g_this_14, g_this_15, g_this_16, g_this_17, g_this_18, g_this_19, g_this_20, g_this_21, g_this_22, g_this_23, g_this_24, g_this_25, g_this_26, g_this_27, g_this_28, g_this_29, g_this_30])), (h_costs, .inl (cy, 2160, .inl a_costs))]) [0, 1] (by decide) rfl
          clear hPc hDc hFc hP1 hK1 hD1 hz1 hk1 hvm
          subst ht
          generalize t.heap = H at hP hS ⊢
          replace h := hw
          clear hw
          obtain ⟨b40, h⟩ := h
          refine va_iald hx hb hK hP 1 0 rfl rfl b40 dX6_cheapest_40 ?_
          refine lv_goto (tgt := 45) hx hb dX6_cheapest_41 (by decide) ?_
          exact J45 x4 (a_costs (Int32.toNatClampNeg r37)) H locs ls h hP hD hS (lv_sub hl [0, 1, 2, 4] rfl)
  generalize hlo : ([] : List Loc) = locs at hS ⊢
  obtain ⟨H, hH⟩ : ∃ z, z = s.heap := ⟨_, rfl⟩
  rw [show W p l e rm_X6_cheapest s m args below meth c s.heap = W p l e rm_X6_cheapest s m args below meth c H by rw [hH]]
  replace hP : va_P (dC, dI) vwCl [(h_this, .inr (6, [g_this_0, g_this_1, g_this_2, g_this_3, .ref h_costs, g_this_5, g_this_6, g_this_7, g_this_8, g_this_9, g_this_10, g_this_11, g_this_12, g_this_13, g_this_14, g_this_15, g_this_16, g_this_17, g_this_18, g_this_19, g_this_20, g_this_21, g_this_22, g_this_23, g_this_24, g_this_25, g_this_26, g_this_27, g_this_28, g_this_29, g_this_30])), (h_costs, .inl (cy, 2160, .inl a_costs))] H := by rw [hH]; exact hP
  replace hS : va_S A s.heap H locs := by rw [hH]; exact hS
  clear hH hlo
  refine lv_ldc (v := 100000000) hx hb hown k_82 dX6_cheapest_0 ?_
  refine lv_istore_n (lv' := [(3, .int 100000000), (0, .ref h_this), (1, .int x1), (2, .int x2)]) hx hb dX6_cheapest_2 rfl hl (by decide) rfl (fun ls hl => ?_)
  refine lv_iconst (v := 0) hx hb dX6_cheapest_3 (by decide) ?_
  refine lv_istore (lv' := [(4, .int 0), (3, .int 100000000), (0, .ref h_this), (1, .int x1), (2, .int x2)]) hx hb dX6_cheapest_4 hl (by decide) rfl (fun ls hl => ?_)
  obtain ⟨n6, h⟩ := h
  refine L6 x1 x2 _ n6 100000000 0 H locs ls h hP hD hS (lv_sub hl [2, 3, 4, 1, 0] rfl) (fun x3_52 x4_52 H locs ls h hP hD hS hl => ?_)
  refine lv_iload_n hx hb dX6_cheapest_52 rfl (lv_at hl 0 rfl) ?_
  exact RET x3_52 H locs ls 53 dX6_cheapest_53 h hP hD hS
abbrev rm_X6_sums : Room := { frames := 2, cells := 0, slots := 0, locals := 46 }
theorem q_X6_sums : yX6_sums.cls = RX6 ∧ yX6_sums.cls ≠ "java/lang/invoke/MethodHandle" ∧ yX6_sums.cls ≠ "java/lang/invoke/VarHandle" ∧ (parseMethodDescriptor yX6_sums.desc).map (fun d => d.parameters.length) = some 0 := by decide +kernel
set_option maxHeartbeats 4000000 in
set_option maxRecDepth 100000 in
theorem c_X6_sums (l : Launch) (dC : Nat → ClassId) (dI : Nat → Nat → Nat) (cy : ClassId) (h_this : Nat) (h_costs : Nat) (h_from : Nat) (h_upTo : Nat) (sz : Nat) (g_this_0 g_this_1 g_this_2 g_this_3 g_this_5 g_this_7 g_this_10 g_this_11 g_this_12 g_this_13 g_this_14 g_this_15 g_this_16 g_this_17 g_this_18 g_this_19 g_this_20 g_this_21 g_this_22 g_this_23 g_this_24 g_this_25 g_this_26 g_this_27 g_this_28 g_this_29 g_this_30 : Value) (f_places : Int32) (a_costs : Nat → Int32) (a_from : Nat → Int32) (a_upTo : Nat → Int32) (Q : Int32 → (Nat → Int32) → (Nat → Int32) → Prop) (h : p_X6_sums f_places a_costs a_from a_upTo Q) : Met l yX6_sums wsX6_sums rm_X6_sums (va_Pc [.ref h_this] (fun U => U.heap.size = sz ∧ va_P (dC, dI) vwCl [(h_this, .inr (6, [g_this_0, g_this_1, g_this_2, g_this_3, .ref h_costs, g_this_5, .int f_places, g_this_7, .ref h_from, .ref h_upTo, g_this_10, g_this_11, g_this_12, g_this_13, g_this_14, g_this_15, g_this_16, g_this_17, g_this_18, g_this_19, g_this_20, g_this_21, g_this_22, g_this_23, g_this_24, g_this_25, g_this_26, g_this_27, g_this_28, g_this_29, g_this_30])), (h_costs, .inl (cy, 2160, .inl a_costs)), (h_from, .inl (cy, 189, .inl a_from)), (h_upTo, .inl (cy, 180, .inl a_upTo))] U.heap ∧ va_K (dC, dI) vwCl [(cy, .int)] U ∧ va_D (fun _ => True) [(h_this, .inr (6, [g_this_0, g_this_1, g_this_2, g_this_3, .ref h_costs, g_this_5, .int f_places, g_this_7, .ref h_from, .ref h_upTo, g_this_10, g_this_11, g_this_12, g_this_13, g_this_14, g_this_15, g_this_16, g_this_17, g_this_18, g_this_19, g_this_20, g_this_21, g_this_22, g_this_23, g_this_24, g_this_25, g_this_26, g_this_27, g_this_28, g_this_29, g_this_30])), (h_costs, .inl (cy, 2160, .inl a_costs)), (h_from, .inl (cy, 189, .inl a_from)), (h_upTo, .inl (cy, 180, .inl a_upTo))])) (va_Qi (fun (r : Int32) (u : (Nat → Int32) × (Nat → Int32)) => Q r u.1 u.2) (fun (u : (Nat → Int32) × (Nat → Int32)) (t : State) => va_P (dC, dI) vwCl [(h_this, .inr (6, [g_this_0, g_this_1, g_this_2, g_this_3, .ref h_costs, g_this_5, .int f_places, g_this_7, .ref h_from, .ref h_upTo, g_this_10, g_this_11, g_this_12, g_this_13, g_this_14, g_this_15, g_this_16, g_this_17, g_this_18, g_this_19, g_this_20, g_this_21, g_this_22, g_this_23, g_this_24, g_this_25, g_this_26, g_this_27, g_this_28, g_this_29, g_this_30])), (h_costs, .inl (cy, 2160, .inl a_costs)), (h_from, .inl (cy, 189, .inl (u.1))), (h_upTo, .inl (cy, 180, .inl (u.2)))] t.heap ∧ va_K (dC, dI) vwCl [(cy, .int)] t ∧ va_D (va_A [(h_this, .inr (6, [g_this_0, g_this_1, g_this_2, g_this_3, .ref h_costs, g_this_5, .int f_places, g_this_7, .ref h_from, .ref h_upTo, g_this_10, g_this_11, g_this_12, g_this_13, g_this_14, g_this_15, g_this_16, g_this_17, g_this_18, g_this_19, g_this_20, g_this_21, g_this_22, g_this_23, g_this_24, g_this_25, g_this_26, g_this_27, g_this_28, g_this_29, g_this_30])), (h_costs, .inl (cy, 2160, .inl a_costs)), (h_from, .inl (cy, 189, .inl a_from)), (h_upTo, .inl (cy, 180, .inl a_upTo))] sz) [(h_this, .inr (6, [g_this_0, g_this_1, g_this_2, g_this_3, .ref h_costs, g_this_5, .int f_places, g_this_7, .ref h_from, .ref h_upTo, g_this_10, g_this_11, g_this_12, g_this_13, g_this_14, g_this_15, g_this_16, g_this_17, g_this_18, g_this_19, g_this_20, g_this_21, g_this_22, g_this_23, g_this_24, g_this_25, g_this_26, g_this_27, g_this_28, g_this_29, g_this_30])), (h_costs, .inl (cy, 2160, .inl a_costs)), (h_from, .inl (cy, 189, .inl (u.1))), (h_upTo, .inl (cy, 180, .inl (u.2)))]) (va_A [(h_this, .inr (6, [g_this_0, g_this_1, g_this_2, g_this_3, .ref h_costs, g_this_5, .int f_places, g_this_7, .ref h_from, .ref h_upTo, g_this_10, g_this_11, g_this_12, g_this_13, g_this_14, g_this_15, g_this_16, g_this_17, g_this_18, g_this_19, g_this_20, g_this_21, g_this_22, g_this_23, g_this_24, g_this_25, g_this_26, g_this_27, g_this_28, g_this_29, g_this_30])), (h_costs, .inl (cy, 2160, .inl a_costs)), (h_from, .inl (cy, 189, .inl a_from)), (h_upTo, .inl (cy, 180, .inl a_upTo))] sz)) 0 0 (va_A [(h_this, .inr (6, [g_this_0, g_this_1, g_this_2, g_this_3, .ref h_costs, g_this_5, .int f_places, g_this_7, .ref h_from, .ref h_upTo, g_this_10, g_this_11, g_this_12, g_this_13, g_this_14, g_this_15, g_this_16, g_this_17, g_this_18, g_this_19, g_this_20, g_this_21, g_this_22, g_this_23, g_this_24, g_this_25, g_this_26, g_this_27, g_this_28, g_this_29, g_this_30])), (h_costs, .inl (cy, 2160, .inl a_costs)), (h_from, .inl (cy, 189, .inl a_from)), (h_upTo, .inl (cy, 180, .inl a_upTo))] sz) := by
  refine Met.ofW (cc := cX6_sums) (maxL := 3) (ret := (some .int)) (by decide) rfl ?_
  intro p e s m args below meth c s₁ B hml hv
  obtain ⟨hargs, hsz, hP, hK, hD0⟩ := hv
  have hx := B.exec
  have hb := B.bytes
  have hr := B.returns
  have hts := atoms_spec (ws := wsX6_sums) B.pre
  have hown : s.vm.findClass RX6 = some m.cls := findClass_of_methodNamed B.named
  have hlocks := B.notSynchronized
  subst hsz
  have hD := hD0.self (sz := s.heap.size)
  generalize hAe : va_A [(h_this, .inr (6, [g_this_0, g_this_1, g_this_2, g_this_3, .ref h_costs, g_this_5, .int f_places, g_this_7, .ref h_from, .ref h_upTo, g_this_10, g_this_11, g_this_12, g_this_13, g_this_14, g_this_15, g_this_16, g_this_17, g_this_18, g_this_19, g_this_20, g_this_21, g_this_22, g_this_23, g_this_24, g_this_25, g_this_26, g_this_27, g_this_28, g_this_29, g_this_30])), (h_costs, .inl (cy, 2160, .inl a_costs)), (h_from, .inl (cy, 189, .inl a_from)), (h_upTo, .inl (cy, 180, .inl a_upTo))] s.heap.size = A at hD ⊢
  have hA : ∀ q : Nat, s.heap.size ≤ q → A q := fun q h => by rw [← hAe]; exact Or.inr h
  have hS : va_S A s.heap s.heap [] := va_S.rf
  have in_X6 : ∀ w ∈ u_ws RX6 TX6 31, w ∈ wsX6_sums := by decide +kernel
  have k_22 := hts (.fieldLink RX6 22 "ChequeDeskModel" "from" "[I") (by decide +kernel)
  have k_25 := hts (.fieldLink RX6 25 "ChequeDeskModel" "upTo" "[I") (by decide +kernel)
  have k_71 := hts (.fieldLink RX6 71 "ChequeDeskModel" "places" "I") (by decide +kernel)
  have k_82 := hts (.constant RX6 82 100000000) (by decide +kernel)
  have hl := lv_entry ([.ref h_this]) (n := 3) (Nat.le_of_ble_eq_true rfl)
  rw [show entryFrame m args 3 = entryFrame m ([.ref h_this] : List Value).toArray 3 by rw [hargs], lg_entry_eq]
  generalize (lg_sl ([.ref h_this]) ++ List.replicate (3 - (lg_sl ([.ref h_this])).length) Slot.unset).toArray = ls at hl ⊢
  have hl : lv_has ls 3 [(0, .ref h_this)] := hl
  have hP : va_P (dC, dI) vwCl [(h_this, .inr (6, [g_this_0, g_this_1, g_this_2, g_this_3, .ref h_costs, g_this_5, .int f_places, g_this_7, .ref h_from, .ref h_upTo, g_this_10, g_this_11, g_this_12, g_this_13, g_this_14, g_this_15, g_this_16, g_this_17, g_this_18, g_this_19, g_this_20, g_this_21, g_this_22, g_this_23, g_this_24, g_this_25, g_this_26, g_this_27, g_this_28, g_this_29, g_this_30])), (h_costs, .inl (cy, 2160, .inl a_costs)), (h_from, .inl (cy, 189, .inl a_from)), (h_upTo, .inl (cy, 180, .inl a_upTo))] s.heap := hP
  change W p l e rm_X6_sums s m args below meth c s.heap [] 0 0 _ _
  generalize hQQ : MQ below _ _ _ _ _ _ = QQ
  have RET : ∀ (r : Int32) (a_from : Nat → Int32) (a_upTo : Nat → Int32) (H : Heap) (locs : List Loc) (ls : Array Slot) (pc : Nat), decode cX6_sums pc = .ok (.ireturn, 1) → Q r a_from a_upTo → va_P (dC, dI) vwCl [(h_this, .inr (6, [g_this_0, g_this_1, g_this_2, g_this_3, .ref h_costs, g_this_5, .int f_places, g_this_7, .ref h_from, .ref h_upTo, g_this_10, g_this_11, g_this_12, g_this_13, g_this_14, g_this_15, g_this_16, g_this_17, g_this_18, g_this_19, g_this_20, g_this_21, g_this_22, g_this_23, g_this_24, g_this_25, g_this_26, g_this_27, g_this_28, g_this_29, g_this_30])), (h_costs, .inl (cy, 2160, .inl a_costs)), (h_from, .inl (cy, 189, .inl a_from)), (h_upTo, .inl (cy, 180, .inl a_upTo))] H → va_D A [(h_this, .inr (6, [g_this_0, g_this_1, g_this_2, g_this_3, .ref h_costs, g_this_5, .int f_places, g_this_7, .ref h_from, .ref h_upTo, g_this_10, g_this_11, g_this_12, g_this_13, g_this_14, g_this_15, g_this_16, g_this_17, g_this_18, g_this_19, g_this_20, g_this_21, g_this_22, g_this_23, g_this_24, g_this_25, g_this_26, g_this_27, g_this_28, g_this_29, g_this_30])), (h_costs, .inl (cy, 2160, .inl a_costs)), (h_from, .inl (cy, 189, .inl a_from)), (h_upTo, .inl (cy, 180, .inl a_upTo))] → va_S A s.heap H locs → W p l e rm_X6_sums s m args below meth c H locs 0 0 QQ (F0 m pc ls [.int r]) := by
    intro r a_from a_upTo H locs ls pc hdg hq hP hD hS
    rw [← hQQ]
    exact W.iret (v := r) hx hb hr (fun t ht hW => ⟨⟨r, (a_from, a_upTo), rfl, hq, by rw [ht]; exact hP, va_K.moved hW.alike hK, hD⟩, hS.F ht⟩) hS.2.2 hdg
  clear hQQ
  unfold p_X6_sums at h
  have L167 : ∀ (a_from : Nat → Int32) (a_upTo : Nat → Int32) (K167 : Int32 → Int32 → Prop) (n : Nat) (x1 : Int32) (x2 : Int32) (H : Heap) (locs : List Loc) (ls : Array Slot), wl2 (p_X6_sums_B167 a_from K167) n x1 x2 → va_P (dC, dI) vwCl [(h_this, .inr (6, [g_this_0, g_this_1, g_this_2, g_this_3, .ref h_costs, g_this_5, .int f_places, g_this_7, .ref h_from, .ref h_upTo, g_this_10, g_this_11, g_this_12, g_this_13, g_this_14, g_this_15, g_this_16, g_this_17, g_this_18, g_this_19, g_this_20, g_this_21, g_this_22, g_this_23, g_this_24, g_this_25, g_this_26, g_this_27, g_this_28, g_this_29, g_this_30])), (h_costs, .inl (cy, 2160, .inl a_costs)), (h_from, .inl (cy, 189, .inl a_from)), (h_upTo, .inl (cy, 180, .inl a_upTo))] H → va_D A [(h_this, .inr (6, [g_this_0, g_this_1, g_this_2, g_this_3, .ref h_costs, g_this_5, .int f_places, g_this_7, .ref h_from, .ref h_upTo, g_this_10, g_this_11, g_this_12, g_this_13, g_this_14, g_this_15, g_this_16, g_this_17, g_this_18, g_this_19, g_this_20, g_this_21, g_this_22, g_this_23, g_this_24, g_this_25, g_this_26, g_this_27, g_this_28, g_this_29, g_this_30])), (h_costs, .inl (cy, 2160, .inl a_costs)), (h_from, .inl (cy, 189, .inl a_from)), (h_upTo, .inl (cy, 180, .inl a_upTo))] → va_S A s.heap H locs → lv_has ls 3 [(0, .ref h_this), (1, .int x1), (2, .int x2)] → (∀ (x1 : Int32) (x2 : Int32) (H : Heap) (locs : List Loc) (ls : Array Slot), K167 x1 x2 → va_P (dC, dI) vwCl [(h_this, .inr (6, [g_this_0, g_this_1, g_this_2, g_this_3, .ref h_costs, g_this_5, .int f_places, g_this_7, .ref h_from, .ref h_upTo, g_this_10, g_this_11, g_this_12, g_this_13, g_this_14, g_this_15, g_this_16, g_this_17, g_this_18, g_this_19, g_this_20, g_this_21, g_this_22, g_this_23, g_this_24, g_this_25, g_this_26, g_this_27, g_this_28, g_this_29, g_this_30])), (h_costs, .inl (cy, 2160, .inl a_costs)), (h_from, .inl (cy, 189, .inl a_from)), (h_upTo, .inl (cy, 180, .inl a_upTo))] H → va_D A [(h_this, .inr (6, [g_this_0, g_this_1, g_this_2, g_this_3, .ref h_costs, g_this_5, .int f_places, g_this_7, .ref h_from, .ref h_upTo, g_this_10, g_this_11, g_this_12, g_this_13, g_this_14, g_this_15, g_this_16, g_this_17, g_this_18, g_this_19, g_this_20, g_this_21, g_this_22, g_this_23, g_this_24, g_this_25, g_this_26, g_this_27, g_this_28, g_this_29, g_this_30])), (h_costs, .inl (cy, 2160, .inl a_costs)), (h_from, .inl (cy, 189, .inl a_from)), (h_upTo, .inl (cy, 180, .inl a_upTo))] → va_S A s.heap H locs → lv_has ls 3 [(1, .int x1)] → W p l e rm_X6_sums s m args below meth c H locs 0 0 QQ (F0 m 200 ls [])) → W p l e rm_X6_sums s m args below meth c H locs 0 0 QQ (F0 m 167 ls []) := by
    intro a_from a_upTo K167 n
    induction n with
    | zero => intro x1 x2 H locs ls h; exact False.elim h
    | succ n ih =>
      intro x1 x2 H locs ls h hP hD hS hl hk
      have ih := fun x1 x2 H locs ls h hP hD hS hl => ih x1 x2 H locs ls h hP hD hS hl hk
      replace h : p_X6_sums_B167 a_from K167 (wl2 (p_X6_sums_B167 a_from K167) n) x1 x2 := h
      unfold p_X6_sums_B167 at h
      have J193 : ∀ (x2 : Int32) (s0 : Int32) (H : Heap) (locs : List Loc) (ls : Array Slot), p_X6_sums_J193 (wl2 (p_X6_sums_B167 a_from K167) n) x2 s0 → va_P (dC, dI) vwCl [(h_this, .inr (6, [g_this_0, g_this_1, g_this_2, g_this_3, .ref h_costs, g_this_5, .int f_places, g_this_7, .ref h_from, .ref h_upTo, g_this_10, g_this_11, g_this_12, g_this_13, g_this_14, g_this_15, g_this_16, g_this_17, g_this_18, g_this_19, g_this_20, g_this_21, g_this_22, g_this_23, g_this_24, g_this_25, g_this_26, g_this_27, g_this_28, g_this_29, g_this_30])), (h_costs, .inl (cy, 2160, .inl a_costs)), (h_from, .inl (cy, 189, .inl a_from)), (h_upTo, .inl (cy, 180, .inl a_upTo))] H → va_D A [(h_this, .inr (6, [g_this_0, g_this_1, g_this_2, g_this_3, .ref h_costs, g_this_5, .int f_places, g_this_7, .ref h_from, .ref h_upTo, g_this_10, g_this_11, g_this_12, g_this_13, g_this_14, g_this_15, g_this_16, g_this_17, g_this_18, g_this_19, g_this_20, g_this_21, g_this_22, g_this_23, g_this_24, g_this_25, g_this_26, g_this_27, g_this_28, g_this_29, g_this_30])), (h_costs, .inl (cy, 2160, .inl a_costs)), (h_from, .inl (cy, 189, .inl a_from)), (h_upTo, .inl (cy, 180, .inl a_upTo))] → va_S A s.heap H locs → lv_has ls 3 [(0, .ref h_this), (2, .int x2)] → W p l e rm_X6_sums s m args below meth c H locs 0 0 QQ (F0 m 193 ls [.int s0]) := by
        intro x2 s0 H locs ls h hP hD hS hl
        unfold p_X6_sums_J193 at h
        refine lv_istore_n (lv' := [(1, .int s0), (0, .ref h_this), (2, .int x2)]) hx hb dX6_sums_193 rfl hl (by decide) rfl (fun ls hl => ?_)
        refine lv_iinc (v := x2 + 1) (lv' := [(2, .int (x2 + 1)), (1, .int s0), (0, .ref h_this)]) hx hb dX6_sums_194 hl (k := 2) rfl (by rfl) (by decide) rfl (fun ls hl => ?_)
        refine lv_goto (tgt := 167) hx hb dX6_sums_197 (by decide) ?_
        exact ih s0 (x2 + 1) H locs ls h hP hD hS (lv_sub hl [2, 1, 0] rfl)
      refine lv_iload_n hx hb dX6_sums_167 rfl (lv_at hl 2 rfl) ?_
      refine lv_bipush (v := 9) hx hb dX6_sums_168 (by decide) ?_
      refine lv_icmp_ge (tgt := 200) hx hb dX6_sums_170 (by decide) (fun c170 => ?_) (fun c170 => ?_)
      · replace h := And.left h c170
        exact hk x1 x2 H locs ls h hP hD hS (lv_sub hl [1] rfl)
      · replace h := And.right h c170
        refine lv_aload_n hx hb dX6_sums_173 rfl (lv_at hl 0 rfl) ?_
        refine va_get (D := (dC, dI)) (ci := 6) (v := .ref h_from) (C := RX6) (T := TX6) (N := 31) hx hb hts in_X6 hown hK hP 0 rfl rfl 8 (by decide) k_22 (fun _ h9 => h9) rfl dX6_sums_174 ?_
        refine lv_iload_n hx hb dX6_sums_177 rfl (lv_at hl 2 rfl) ?_
        obtain ⟨b178, h⟩ := h
        refine va_iald hx hb hK hP 2 0 rfl rfl b178 dX6_sums_178 ?_
        refine lv_iload_n hx hb dX6_sums_179 rfl (lv_at hl 1 rfl) ?_
        refine lv_icmp_ge (tgt := 192) hx hb dX6_sums_180 (by decide) (fun c180 => ?_) (fun c180 => ?_)
        · replace h := And.left h c180
          refine lv_iload_n hx hb dX6_sums_192 rfl (lv_at hl 1 rfl) ?_
          exact J193 x2 x1 H locs ls h hP hD hS (lv_sub hl [0, 2] rfl)
        · replace h := And.right h c180
          refine lv_aload_n hx hb dX6_sums_183 rfl (lv_at hl 0 rfl) ?_
          refine va_get (D := (dC, dI)) (ci := 6) (v := .ref h_from) (C := RX6) (T := TX6) (N := 31) hx hb hts in_X6 hown hK hP 0 rfl rfl 8 (by decide) k_22 (fun _ h9 => h9) rfl dX6_sums_184 ?_
          refine lv_iload_n hx hb dX6_sums_187 rfl (lv_at hl 2 rfl) ?_
          obtain ⟨b188, h⟩ := h
          refine va_iald hx hb hK hP 2 0 rfl rfl b188 dX6_sums_188 ?_
          refine lv_goto (tgt := 193) hx hb dX6_sums_189 (by decide) ?_
          exact J193 x2 (a_from (Int32.toNatClampNeg x2)) H locs ls h hP hD hS (lv_sub hl [0, 2] rfl)
  have L94 : ∀ (a_from : Nat → Int32) (K94 : Int32 → (Nat → Int32) → Prop) (n : Nat) (x1 : Int32) (a_upTo : Nat → Int32) (H : Heap) (locs : List Loc) (ls : Array Slot), wl2 (p_X6_sums_B94 f_places a_costs K94) n x1 a_upTo → va_P (dC, dI) vwCl [(h_this, .inr (6, [g_this_0, g_this_1, g_this_2, g_this_3, .ref h_costs, g_this_5, .int f_places, g_this_7, .ref h_from, .ref h_upTo, g_this_10, g_this_11, g_this_12, g_this_13, g_this_14, g_this_15, g_this_16, g_this_17, g_this_18, g_this_19, g_this_20, g_this_21, g_this_22, g_this_23, g_this_24, g_this_25, g_this_26, g_this_27, g_this_28, g_this_29, g_this_30])), (h_costs, .inl (cy, 2160, .inl a_costs)), (h_from, .inl (cy, 189, .inl a_from)), (h_upTo, .inl (cy, 180, .inl a_upTo))] H → va_D A [(h_this, .inr (6, [g_this_0, g_this_1, g_this_2, g_this_3, .ref h_costs, g_this_5, .int f_places, g_this_7, .ref h_from, .ref h_upTo, g_this_10, g_this_11, g_this_12, g_this_13, g_this_14, g_this_15, g_this_16, g_this_17, g_this_18, g_this_19, g_this_20, g_this_21, g_this_22, g_this_23, g_this_24, g_this_25, g_this_26, g_this_27, g_this_28, g_this_29, g_this_30])), (h_costs, .inl (cy, 2160, .inl a_costs)), (h_from, .inl (cy, 189, .inl a_from)), (h_upTo, .inl (cy, 180, .inl a_upTo))] → va_S A s.heap H locs → lv_has ls 3 [(0, .ref h_this), (1, .int x1)] → (∀ (x1 : Int32) (a_upTo : Nat → Int32) (H : Heap) (locs : List Loc) (ls : Array Slot), K94 x1 a_upTo → va_P (dC, dI) vwCl [(h_this, .inr (6, [g_this_0, g_this_1, g_this_2, g_this_3, .ref h_costs, g_this_5, .int f_places, g_this_7, .ref h_from, .ref h_upTo, g_this_10, g_this_11, g_this_12, g_this_13, g_this_14, g_this_15, g_this_16, g_this_17, g_this_18, g_this_19, g_this_20, g_this_21, g_this_22, g_this_23, g_this_24, g_this_25, g_this_26, g_this_27, g_this_28, g_this_29, g_this_30])), (h_costs, .inl (cy, 2160, .inl a_costs)), (h_from, .inl (cy, 189, .inl a_from)), (h_upTo, .inl (cy, 180, .inl a_upTo))] H → va_D A [(h_this, .inr (6, [g_this_0, g_this_1, g_this_2, g_this_3, .ref h_costs, g_this_5, .int f_places, g_this_7, .ref h_from, .ref h_upTo, g_this_10, g_this_11, g_this_12, g_this_13, g_this_14, g_this_15, g_this_16, g_this_17, g_this_18, g_this_19, g_this_20, g_this_21, g_this_22, g_this_23, g_this_24, g_this_25, g_this_26, g_this_27, g_this_28, g_this_29, g_this_30])), (h_costs, .inl (cy, 2160, .inl a_costs)), (h_from, .inl (cy, 189, .inl a_from)), (h_upTo, .inl (cy, 180, .inl a_upTo))] → va_S A s.heap H locs → lv_has ls 3 [(0, .ref h_this)] → W p l e rm_X6_sums s m args below meth c H locs 0 0 QQ (F0 m 162 ls [])) → W p l e rm_X6_sums s m args below meth c H locs 0 0 QQ (F0 m 94 ls []) := by
    intro a_from K94 n
    induction n with
    | zero => intro x1 a_upTo H locs ls h; exact False.elim h
    | succ n ih =>
      intro x1 a_upTo H locs ls h hP hD hS hl hk
      have ih := fun x1 a_upTo H locs ls h hP hD hS hl => ih x1 a_upTo H locs ls h hP hD hS hl hk
      replace h : p_X6_sums_B94 f_places a_costs K94 (wl2 (p_X6_sums_B94 f_places a_costs K94) n) x1 a_upTo := h
      unfold p_X6_sums_B94 at h
      have L104 : ∀ (x1 : Int32) (a_from : Nat → Int32) (K104 : Int32 → (Nat → Int32) → Prop) (n : Nat) (x2 : Int32) (a_upTo : Nat → Int32) (H : Heap) (locs : List Loc) (ls : Array Slot), wl2 (p_X6_sums_B104 a_costs x1 K104) n x2 a_upTo → va_P (dC, dI) vwCl [(h_this, .inr (6, [g_this_0, g_this_1, g_this_2, g_this_3, .ref h_costs, g_this_5, .int f_places, g_this_7, .ref h_from, .ref h_upTo, g_this_10, g_this_11, g_this_12, g_this_13, g_this_14, g_this_15, g_this_16, g_this_17, g_this_18, g_this_19, g_this_20, g_this_21, g_this_22, g_this_23, g_this_24, g_this_25, g_this_26, g_this_27, g_this_28, g_this_29, g_this_30])), (h_costs, .inl (cy, 2160, .inl a_costs)), (h_from, .inl (cy, 189, .inl a_from)), (h_upTo, .inl (cy, 180, .inl a_upTo))] H → va_D A [(h_this, .inr (6, [g_this_0, g_this_1, g_this_2, g_this_3, .ref h_costs, g_this_5, .int f_places, g_this_7, .ref h_from, .ref h_upTo, g_this_10, g_this_11, g_this_12, g_this_13, g_this_14, g_this_15, g_this_16, g_this_17, g_this_18, g_this_19, g_this_20, g_this_21, g_this_22, g_this_23, g_this_24, g_this_25, g_this_26, g_this_27, g_this_28, g_this_29, g_this_30])), (h_costs, .inl (cy, 2160, .inl a_costs)), (h_from, .inl (cy, 189, .inl a_from)), (h_upTo, .inl (cy, 180, .inl a_upTo))] → va_S A s.heap H locs → lv_has ls 3 [(0, .ref h_this), (1, .int x1), (2, .int x2)] → (∀ (x2 : Int32) (a_upTo : Nat → Int32) (H : Heap) (locs : List Loc) (ls : Array Slot), K104 x2 a_upTo → va_P (dC, dI) vwCl [(h_this, .inr (6, [g_this_0, g_this_1, g_this_2, g_this_3, .ref h_costs, g_this_5, .int f_places, g_this_7, .ref h_from, .ref h_upTo, g_this_10, g_this_11, g_this_12, g_this_13, g_this_14, g_this_15, g_this_16, g_this_17, g_this_18, g_this_19, g_this_20, g_this_21, g_this_22, g_this_23, g_this_24, g_this_25, g_this_26, g_this_27, g_this_28, g_this_29, g_this_30])), (h_costs, .inl (cy, 2160, .inl a_costs)), (h_from, .inl (cy, 189, .inl a_from)), (h_upTo, .inl (cy, 180, .inl a_upTo))] H → va_D A [(h_this, .inr (6, [g_this_0, g_this_1, g_this_2, g_this_3, .ref h_costs, g_this_5, .int f_places, g_this_7, .ref h_from, .ref h_upTo, g_this_10, g_this_11, g_this_12, g_this_13, g_this_14, g_this_15, g_this_16, g_this_17, g_this_18, g_this_19, g_this_20, g_this_21, g_this_22, g_this_23, g_this_24, g_this_25, g_this_26, g_this_27, g_this_28, g_this_29, g_this_30])), (h_costs, .inl (cy, 2160, .inl a_costs)), (h_from, .inl (cy, 189, .inl a_from)), (h_upTo, .inl (cy, 180, .inl a_upTo))] → va_S A s.heap H locs → lv_has ls 3 [(0, .ref h_this), (1, .int x1)] → W p l e rm_X6_sums s m args below meth c H locs 0 0 QQ (F0 m 156 ls [])) → W p l e rm_X6_sums s m args below meth c H locs 0 0 QQ (F0 m 104 ls []) := by
        intro x1 a_from K104 n
        induction n with
        | zero => intro x2 a_upTo H locs ls h; exact False.elim h
        | succ n ih =>
          intro x2 a_upTo H locs ls h hP hD hS hl hk
          have ih := fun x2 a_upTo H locs ls h hP hD hS hl => ih x2 a_upTo H locs ls h hP hD hS hl hk
          replace h : p_X6_sums_B104 a_costs x1 K104 (wl2 (p_X6_sums_B104 a_costs x1 K104) n) x2 a_upTo := h
          unfold p_X6_sums_B104 at h
          have J148 : ∀ (x2 : Int32) (s0 : Int32) (s1 : Int32) (s2 : Int32) (a_upTo : Nat → Int32) (H : Heap) (locs : List Loc) (ls : Array Slot), p_X6_sums_J148 a_upTo (wl2 (p_X6_sums_B104 a_costs x1 K104) n) x2 s0 s1 s2 → va_P (dC, dI) vwCl [(h_this, .inr (6, [g_this_0, g_this_1, g_this_2, g_this_3, .ref h_costs, g_this_5, .int f_places, g_this_7, .ref h_from, .ref h_upTo, g_this_10, g_this_11, g_this_12, g_this_13, g_this_14, g_this_15, g_this_16, g_this_17, g_this_18, g_this_19, g_this_20, g_this_21, g_this_22, g_this_23, g_this_24, g_this_25, g_this_26, g_this_27, g_this_28, g_this_29, g_this_30])), (h_costs, .inl (cy, 2160, .inl a_costs)), (h_from, .inl (cy, 189, .inl a_from)), (h_upTo, .inl (cy, 180, .inl a_upTo))] H → va_D A [(h_this, .inr (6, [g_this_0, g_this_1, g_this_2, g_this_3, .ref h_costs, g_this_5, .int f_places, g_this_7, .ref h_from, .ref h_upTo, g_this_10, g_this_11, g_this_12, g_this_13, g_this_14, g_this_15, g_this_16, g_this_17, g_this_18, g_this_19, g_this_20, g_this_21, g_this_22, g_this_23, g_this_24, g_this_25, g_this_26, g_this_27, g_this_28, g_this_29, g_this_30])), (h_costs, .inl (cy, 2160, .inl a_costs)), (h_from, .inl (cy, 189, .inl a_from)), (h_upTo, .inl (cy, 180, .inl a_upTo))] → va_S A s.heap H locs → lv_has ls 3 [(0, .ref h_this), (1, .int x1), (2, .int x2)] → W p l e rm_X6_sums s m args below meth c H locs 0 0 QQ (F0 m 148 ls [.int s0, .int s1, .int s2, .ref h_upTo]) := by
            intro x2 s0 s1 s2 a_upTo H locs ls h hP hD hS hl
            unfold p_X6_sums_J148 at h
            refine lv_iadd hx hb dX6_sums_148 ?_
            obtain ⟨b149, h⟩ := h
            refine va_iast hx hb hK hP hD hS 3 0 rfl rfl b149 dX6_sums_149 (fun H locs hP hD hS => ?_)
            have hP : va_P (dC, dI) vwCl [(h_this, .inr (6, [g_this_0, g_this_1, g_this_2, g_this_3, .ref h_costs, g_this_5, .int f_places, g_this_7, .ref h_from, .ref h_upTo, g_this_10, g_this_11, g_this_12, g_this_13, g_this_14, g_this_15, g_this_16, g_this_17, g_this_18, g_this_19, g_this_20, g_this_21, g_this_22, g_this_23, g_this_24, g_this_25, g_this_26, g_this_27, g_this_28, g_this_29, g_this_30])), (h_costs, .inl (cy, 2160, .inl a_costs)), (h_from, .inl (cy, 189, .inl a_from)), (h_upTo, .inl (cy, 180, .inl (upd a_upTo (Int32.toNatClampNeg s2) (s1 + s0))))] H := hP
            have hD : va_D A [(h_this, .inr (6, [g_this_0, g_this_1, g_this_2, g_this_3, .ref h_costs, g_this_5, .int f_places, g_this_7, .ref h_from, .ref h_upTo, g_this_10, g_this_11, g_this_12, g_this_13, g_this_14, g_this_15, g_this_16, g_this_17, g_this_18, g_this_19, g_this_20, g_this_21, g_this_22, g_this_23, g_this_24, g_this_25, g_this_26, g_this_27, g_this_28, g_this_29, g_this_30])), (h_costs, .inl (cy, 2160, .inl a_costs)), (h_from, .inl (cy, 189, .inl a_from)), (h_upTo, .inl (cy, 180, .inl (upd a_upTo (Int32.toNatClampNeg s2) (s1 + s0))))] := hD
            refine lv_iinc (v := x2 + 1) (lv' := [(2, .int (x2 + 1)), (0, .ref h_this), (1, .int x1)]) hx hb dX6_sums_150 hl (k := 2) rfl (by rfl) (by decide) rfl (fun ls hl => ?_)
            refine lv_goto (tgt := 104) hx hb dX6_sums_153 (by decide) ?_
            exact ih (x2 + 1) (upd a_upTo (Int32.toNatClampNeg s2) (s1 + s0)) H locs ls h hP hD hS (lv_sub hl [1, 2, 0] rfl)
          refine lv_iload_n hx hb dX6_sums_104 rfl (lv_at hl 2 rfl) ?_
          refine lv_bipush (v := 9) hx hb dX6_sums_105 (by decide) ?_
          refine lv_icmp_ge (tgt := 156) hx hb dX6_sums_107 (by decide) (fun c107 => ?_) (fun c107 => ?_)
          · replace h := And.left h c107
            exact hk x2 a_upTo H locs ls h hP hD hS (lv_sub hl [0, 1] rfl)
          · replace h := And.right h c107
            refine lv_aload_n hx hb dX6_sums_110 rfl (lv_at hl 0 rfl) ?_
            refine va_get (D := (dC, dI)) (ci := 6) (v := .ref h_upTo) (C := RX6) (T := TX6) (N := 31) hx hb hts in_X6 hown hK hP 0 rfl rfl 9 (by decide) k_25 (fun _ h9 => h9) rfl dX6_sums_111 ?_
            refine lv_bipush (v := 9) hx hb dX6_sums_114 (by decide) ?_
            refine lv_iload_n hx hb dX6_sums_116 rfl (lv_at hl 1 rfl) ?_
            refine lv_imul hx hb dX6_sums_117 ?_
            refine lv_iload_n hx hb dX6_sums_118 rfl (lv_at hl 2 rfl) ?_
            refine lv_iadd hx hb dX6_sums_119 ?_
            refine lv_aload_n hx hb dX6_sums_120 rfl (lv_at hl 0 rfl) ?_
            refine lv_iload_n hx hb dX6_sums_121 rfl (lv_at hl 1 rfl) ?_
            refine lv_iload_n hx hb dX6_sums_122 rfl (lv_at hl 2 rfl) ?_
            have hPc := hP.sub (ws' := [(h_this, .inr (6, [g_this_0, g_this_1, g_this_2, g_this_3, .ref h_costs, g_this_5, .int f_places, g_this_7, .ref h_from, .ref h_upTo, g_this_10, g_this_11, g_this_12, g_this_13, g_this_14, g_this_15, g_this_16, g_this_17, g_this_18, g_this_19, g_this_20, g_this_21, g_this_22, g_this_23, g_this_24, g_this_25, g_this_26, g_this_27, g_this_28, g_this_29, g_this_30])), (h_costs, .inl (cy, 2160, .inl a_costs))]) [0, 1] rfl
            have hDc := hD.sub (ws' := [(h_this, .inr (6, [g_this_0, g_this_1, g_this_2, g_this_3, .ref h_costs, g_this_5, .int f_places, g_this_7, .ref h_from, .ref h_upTo, g_this_10, g_this_11, g_this_12, g_this_13, g_this_14, g_this_15, g_this_16, g_this_17, g_this_18, g_this_19, g_this_20, g_this_21, g_this_22, g_this_23, g_this_24, g_this_25, g_this_26, g_this_27, g_this_28, g_this_29, g_this_30])), (h_costs, .inl (cy, 2160, .inl a_costs))]) [0, 1] (by decide) rfl
            have hFc := va_free (wc := [(h_this, .inr (6, [g_this_0, g_this_1, g_this_2, g_this_3, .ref h_costs, g_this_5, .int f_places, g_this_7, .ref h_from, .ref h_upTo, g_this_10, g_this_11, g_this_12, g_this_13, g_this_14, g_this_15, g_this_16, g_this_17, g_this_18, g_this_19, g_this_20, g_this_21, g_this_22, g_this_23, g_this_24, g_this_25, g_this_26, g_this_27, g_this_28, g_this_29, g_this_30])), (h_costs, .inl (cy, 2160, .inl a_costs))]) hD hS hA [0, 1] rfl
            refine va_calli (va_runV (As := [.int x1, .int x2]) (rest := [.int ((9 * x1) + x2), .ref h_upTo]) ⟨hx, hb, hml, hown, hts⟩ (c_X6_cheapest l dC dI cy h_this h_costs H.size (g_this_0) (g_this_1) (g_this_2) (g_this_3) (g_this_5) (.int f_places) (g_this_7) (.ref h_from) (.ref h_upTo) (g_this_10) (g_this_11) (g_this_12) (g_this_13) (g_this_14) (g_this_15) (g_this_16) (g_this_17) (g_this_18) (g_this_19) (g_this_20) (g_this_21) (g_this_22) (g_this_23) (g_this_24) (g_this_25) (g_this_26) (g_this_27) (g_this_28) (g_this_29) (g_this_30) a_costs x1 x2 _ h) (cwV 2 hts gX6_sums_X6_cheapest rfl rfl rfl q_X6_cheapest ⟨Nat.le_of_ble_eq_true rfl, Nat.le_of_ble_eq_true rfl⟩) ⟨fun a U g mk q => by obtain ⟨q0, q1, qP, qK, qD⟩ := q; exact ⟨q0, q1, qP, va_K.moved (u := U) (U := U.calling g mk a) (Vm.Alike.refl U.vm) qK, qD⟩, va_recv hK hP (ci := 6) (q0 := 0) rfl rfl, fun U hU hW => ⟨rfl, by rw [hU], by rw [hU]; exact hPc, va_K.moved hW.alike hK, hDc.weaken (fun _ _ _ _ => trivial)⟩⟩ rfl rfl hl.1 rfl (lv_room (Nat.le_of_ble_eq_true rfl)) dX6_sums_123 ⟨Nat.le_of_ble_eq_true rfl, Nat.le_of_ble_eq_true rfl⟩) hS (fun q _ h => hFc q h) hFc (fun r123 u t H1 locs ht hvm hw hB hz1 hk1 hS => ?_)
            obtain ⟨hP1, hK1, hD1⟩ := hB
            rw [ht] at hP1
            obtain ⟨hP, hD⟩ := va_join (wr := [(h_from, .inl (cy, 189, .inl a_from)), (h_upTo, .inl (cy, 180, .inl a_upTo))]) (w1 := [(h_this, .inr (6, [g_this_0, g_this_1, g_this_2, g_this_3, .ref h_costs, g_this_5, .int f_places, g_this_7, .ref h_from, .ref h_upTo, g_this_10, g_this_11, g_this_12, g_this_13, g_this_14, g_this_15, g_this_16, g_this_17, g_this_18, g_this_19, g_this_20, g_this_21, g_this_22, g_this_23, g_this_24, g_this_25, g_this_26, g_this_27, g_this_28, g_this_29, g_this_30])), (h_costs, .inl (cy, 2160, .inl a_costs))]) hP hD [0, 1] [2, 3] rfl rfl (by decide) (by decide) hk1 hFc hP1 hD1
            replace hP := hP.sub (ws' := [(h_this, .inr (6, [g_this_0, g_this_1, g_this_2, g_this_3, .ref h_costs, g_this_5, .int f_places, g_this_7, .ref h_from, .ref h_upTo, g_this_10, g_this_11, g_this_12, g_this_13, g_this_14, g_this_15, g_this_16, g_this_17, g_this_18, g_this_19, g_this_20, g_this_21, g_this_22, g_this_23, g_this_24, g_this_25, g_this_26, g_this_27, g_this_28, g_this_29, g_this_30])), (h_costs, .inl (cy, 2160, .inl a_costs)), (h_from, .inl (cy, 189, .inl a_from)), (h_upTo, .inl (cy, 180, .inl a_upTo))]) [2, 3, 0, 1] rfl
            replace hD := hD.sub (ws' := [(h_this, .inr (6, [g_this_0, g_this_1, g_this_2, g_this_3, .ref h_costs, g_this_5, .int f_places, g_this_7, .ref h_from, .ref h_upTo, g_this_10, g_this_11, g_this_12, g_this_13, g_this_14, g_this_15, g_this_16, g_this_17, g_this_18, g_this_19, g_this_20, g_this_21, g_this_22, g_this_23, g_this_24, g_this_25, g_this_26, g_this_27, g_this_28, g_this_29, g_this_30])), (h_costs, .inl (cy, 2160, .inl a_costs)), (h_from, .inl (cy, 189, .inl a_from)), (h_upTo, .inl (cy, 180, .inl a_upTo))]) [2, 3, 0, 1] (by decide) rfl
            clear hPc hDc hFc hP1 hK1 hD1 hz1 hk1 hvm
            subst ht
            generalize t.heap = H at hP hS ⊢
            replace h := hw
            clear hw
            refine lv_iload_n hx hb dX6_sums_126 rfl (lv_at hl 1 rfl) ?_
            refine lv_if_ne (tgt := 134) hx hb dX6_sums_127 (by decide) (fun c127 => ?_) (fun c127 => ?_)
            · replace h := And.left h c127
              refine lv_aload_n hx hb dX6_sums_134 rfl (lv_at hl 0 rfl) ?_
              refine va_get (D := (dC, dI)) (ci := 6) (v := .ref h_upTo) (C := RX6) (T := TX6) (N := 31) hx hb hts in_X6 hown hK hP 0 rfl rfl 9 (by decide) k_25 (fun _ h9 => h9) rfl dX6_sums_135 ?_
              refine lv_bipush (v := 9) hx hb dX6_sums_138 (by decide) ?_
              refine lv_iload_n hx hb dX6_sums_140 rfl (lv_at hl 1 rfl) ?_
              refine lv_iconst (v := 1) hx hb dX6_sums_141 (by decide) ?_
              refine lv_isub hx hb dX6_sums_142 ?_
              refine lv_imul hx hb dX6_sums_143 ?_
              refine lv_iload_n hx hb dX6_sums_144 rfl (lv_at hl 2 rfl) ?_
              have hPc := hP.sub (ws' := [(h_upTo, .inl (cy, 180, .inl a_upTo))]) [3] rfl
              have hDc := hD.sub (ws' := [(h_upTo, .inl (cy, 180, .inl a_upTo))]) [3] (by decide) rfl
              have hFc := va_free (wc := [(h_upTo, .inl (cy, 180, .inl a_upTo))]) hD hS hA [3] rfl
              refine va_calli (va_runS (As := [.ref h_upTo, .int (9 * (x1 - 1)), .int x2]) (rest := [.int r123, .int ((9 * x1) + x2), .ref h_upTo]) ⟨hx, hb, hml, hown, hts⟩ (c_X6_near l dC dI cy 180 h_upTo H.size  a_upTo (9 * (x1 - 1)) x2 _ h) (va_cwS 3 hts gX6_sums_X6_near rfl rfl rfl q_X6_near ⟨Nat.le_of_ble_eq_true rfl, Nat.le_of_ble_eq_true rfl⟩) ⟨fun a U g mk q => by obtain ⟨q0, q1, qP, qK, qD⟩ := q; exact ⟨q0, q1, qP, va_K.moved (u := U) (U := U.calling g mk a) (Vm.Alike.refl U.vm) qK, qD⟩, fun U hU hW => ⟨rfl, by rw [hU], by rw [hU]; exact hPc, va_K.moved hW.alike hK, hDc.weaken (fun _ _ _ _ => trivial)⟩⟩ rfl rfl hl.1 rfl (lv_room (Nat.le_of_ble_eq_true rfl)) dX6_sums_145 ⟨Nat.le_of_ble_eq_true rfl, Nat.le_of_ble_eq_true rfl⟩) hS (fun q _ h => hFc q h) hFc (fun r145 u t H1 locs ht hvm hw hB hz1 hk1 hS => ?_)
              obtain ⟨hP1, hK1, hD1⟩ := hB
              rw [ht] at hP1
              obtain ⟨hP, hD⟩ := va_join (wr := [(h_this, .inr (6, [g_this_0, g_this_1, g_this_2, g_this_3, .ref h_costs, g_this_5, .int f_places, g_this_7, .ref h_from, .ref h_upTo, g_this_10, g_this_11, g_this_12, g_this_13, g_this_14, g_this_15, g_this_16, g_this_17, g_this_18, g_this_19, g_this_20, g_this_21, g_this_22, g_this_23, g_this_24, g_this_25, g_this_26, g_this_27, g_this_28, g_this_29, g_this_30])), (h_costs, .inl (cy, 2160, .inl a_costs)), (h_from, .inl (cy, 189, .inl a_from))]) (w1 := [(h_upTo, .inl (cy, 180, .inl a_upTo))]) hP hD [3] [0, 1, 2] rfl rfl (by decide) (by decide) hk1 hFc hP1 hD1
              replace hP := hP.sub (ws' := [(h_this, .inr (6, [g_this_0, g_this_1, g_this_2, g_this_3, .ref h_costs, g_this_5, .int f_places, g_this_7, .ref h_from, .ref h_upTo, g_this_10, g_this_11, g_this_12, g_this_13, g_this_14, g_this_15, g_this_16, g_this_17, g_this_18, g_this_19, g_this_20, g_this_21, g_this_22, g_this_23, g_this_24, g_this_25, g_this_26, g_this_27, g_this_28, g_this_29, g_this_30])), (h_costs, .inl (cy, 2160, .inl a_costs)), (h_from, .inl (cy, 189, .inl a_from)), (h_upTo, .inl (cy, 180, .inl a_upTo))]) [0, 1, 2, 3] rfl
              replace hD := hD.sub (ws' := [(h_this, .inr (6, [g_this_0, g_this_1, g_this_2, g_this_3, .ref h_costs, g_this_5, .int f_places, g_this_7, .ref h_from, .ref h_upTo, g_this_10, g_this_11, g_this_12, g_this_13, g_this_14, g_this_15, g_this_16, g_this_17, g_this_18, g_this_19, g_this_20, g_this_21, g_this_22, g_this_23, g_this_24, g_this_25, g_this_26, g_this_27, g_this_28, g_this_29, g_this_30])), (h_costs, .inl (cy, 2160, .inl a_costs)), (h_from, .inl (cy, 189, .inl a_from)), (h_upTo, .inl (cy, 180, .inl a_upTo))]) [0, 1, 2, 3] (by decide) rfl
              clear hPc hDc hFc hP1 hK1 hD1 hz1 hk1 hvm
              subst ht
              generalize t.heap = H at hP hS ⊢
              replace h := hw
              clear hw
              exact J148 x2 r145 r123 ((9 * x1) + x2) a_upTo H locs ls h hP hD hS (lv_sub hl [0, 1, 2] rfl)
            · replace h := And.right h c127
              refine lv_iconst (v := 0) hx hb dX6_sums_130 (by decide) ?_
              refine lv_goto (tgt := 148) hx hb dX6_sums_131 (by decide) ?_
              exact J148 x2 0 r123 ((9 * x1) + x2) a_upTo H locs ls h hP hD hS (lv_sub hl [0, 1, 2] rfl)
      refine lv_iload_n hx hb dX6_sums_94 rfl (lv_at hl 1 rfl) ?_
      refine lv_aload_n hx hb dX6_sums_95 rfl (lv_at hl 0 rfl) ?_
      refine va_get (D := (dC, dI)) (ci := 6) (v := .int f_places) (C := RX6) (T := TX6) (N := 31) hx hb hts in_X6 hown hK hP 0 rfl rfl 6 (by decide) k_71 (fun _ h9 => h9) rfl dX6_sums_96 ?_
      refine lv_icmp_ge (tgt := 162) hx hb dX6_sums_99 (by decide) (fun c99 => ?_) (fun c99 => ?_)
      · replace h := And.left h c99
        exact hk x1 a_upTo H locs ls h hP hD hS (lv_sub hl [0] rfl)
      · replace h := And.right h c99
        refine lv_iconst (v := 0) hx hb dX6_sums_102 (by decide) ?_
        refine lv_istore_n (lv' := [(2, .int 0), (0, .ref h_this), (1, .int x1)]) hx hb dX6_sums_103 rfl hl (by decide) rfl (fun ls hl => ?_)
        obtain ⟨n104, h⟩ := h
        refine L104 x1 a_from _ n104 0 a_upTo H locs ls h hP hD hS (lv_sub hl [1, 2, 0] rfl) (fun x2_156 a_upTo_156 H locs ls h hP hD hS hl => ?_)
        refine lv_iinc (v := x1 + 1) (lv' := [(1, .int (x1 + 1)), (0, .ref h_this)]) hx hb dX6_sums_156 hl (k := 1) rfl (by rfl) (by decide) rfl (fun ls hl => ?_)
        refine lv_goto (tgt := 94) hx hb dX6_sums_159 (by decide) ?_
        exact ih (x1 + 1) a_upTo_156 H locs ls h hP hD hS (lv_sub hl [1, 0] rfl)
  have L36 : ∀ (a_upTo : Nat → Int32) (K36 : Int32 → (Nat → Int32) → Prop) (n : Nat) (x1 : Int32) (a_from : Nat → Int32) (H : Heap) (locs : List Loc) (ls : Array Slot), wl2 (p_X6_sums_B36 a_costs K36) n x1 a_from → va_P (dC, dI) vwCl [(h_this, .inr (6, [g_this_0, g_this_1, g_this_2, g_this_3, .ref h_costs, g_this_5, .int f_places, g_this_7, .ref h_from, .ref h_upTo, g_this_10, g_this_11, g_this_12, g_this_13, g_this_14, g_this_15, g_this_16, g_this_17, g_this_18, g_this_19, g_this_20, g_this_21, g_this_22, g_this_23, g_this_24, g_this_25, g_this_26, g_this_27, g_this_28, g_this_29, g_this_30])), (h_costs, .inl (cy, 2160, .inl a_costs)), (h_from, .inl (cy, 189, .inl a_from)), (h_upTo, .inl (cy, 180, .inl a_upTo))] H → va_D A [(h_this, .inr (6, [g_this_0, g_this_1, g_this_2, g_this_3, .ref h_costs, g_this_5, .int f_places, g_this_7, .ref h_from, .ref h_upTo, g_this_10, g_this_11, g_this_12, g_this_13, g_this_14, g_this_15, g_this_16, g_this_17, g_this_18, g_this_19, g_this_20, g_this_21, g_this_22, g_this_23, g_this_24, g_this_25, g_this_26, g_this_27, g_this_28, g_this_29, g_this_30])), (h_costs, .inl (cy, 2160, .inl a_costs)), (h_from, .inl (cy, 189, .inl a_from)), (h_upTo, .inl (cy, 180, .inl a_upTo))] → va_S A s.heap H locs → lv_has ls 3 [(0, .ref h_this), (1, .int x1)] → (∀ (x1 : Int32) (a_from : Nat → Int32) (H : Heap) (locs : List Loc) (ls : Array Slot), K36 x1 a_from → va_P (dC, dI) vwCl [(h_this, .inr (6, [g_this_0, g_this_1, g_this_2, g_this_3, .ref h_costs, g_this_5, .int f_places, g_this_7, .ref h_from, .ref h_upTo, g_this_10, g_this_11, g_this_12, g_this_13, g_this_14, g_this_15, g_this_16, g_this_17, g_this_18, g_this_19, g_this_20, g_this_21, g_this_22, g_this_23, g_this_24, g_this_25, g_this_26, g_this_27, g_this_28, g_this_29, g_this_30])), (h_costs, .inl (cy, 2160, .inl a_costs)), (h_from, .inl (cy, 189, .inl a_from)), (h_upTo, .inl (cy, 180, .inl a_upTo))] H → va_D A [(h_this, .inr (6, [g_this_0, g_this_1, g_this_2, g_this_3, .ref h_costs, g_this_5, .int f_places, g_this_7, .ref h_from, .ref h_upTo, g_this_10, g_this_11, g_this_12, g_this_13, g_this_14, g_this_15, g_this_16, g_this_17, g_this_18, g_this_19, g_this_20, g_this_21, g_this_22, g_this_23, g_this_24, g_this_25, g_this_26, g_this_27, g_this_28, g_this_29, g_this_30])), (h_costs, .inl (cy, 2160, .inl a_costs)), (h_from, .inl (cy, 189, .inl a_from)), (h_upTo, .inl (cy, 180, .inl a_upTo))] → va_S A s.heap H locs → lv_has ls 3 [(0, .ref h_this)] → W p l e rm_X6_sums s m args below meth c H locs 0 0 QQ (F0 m 92 ls [])) → W p l e rm_X6_sums s m args below meth c H locs 0 0 QQ (F0 m 36 ls []) := by
    intro a_upTo K36 n
    induction n with
    | zero => intro x1 a_from H locs ls h; exact False.elim h
    | succ n ih =>
      intro x1 a_from H locs ls h hP hD hS hl hk
      have ih := fun x1 a_from H locs ls h hP hD hS hl => ih x1 a_from H locs ls h hP hD hS hl hk
      replace h : p_X6_sums_B36 a_costs K36 (wl2 (p_X6_sums_B36 a_costs K36) n) x1 a_from := h
      unfold p_X6_sums_B36 at h
      have L42 : ∀ (x1 : Int32) (a_upTo : Nat → Int32) (K42 : Int32 → (Nat → Int32) → Prop) (n : Nat) (x2 : Int32) (a_from : Nat → Int32) (H : Heap) (locs : List Loc) (ls : Array Slot), wl2 (p_X6_sums_B42 a_costs x1 K42) n x2 a_from → va_P (dC, dI) vwCl [(h_this, .inr (6, [g_this_0, g_this_1, g_this_2, g_this_3, .ref h_costs, g_this_5, .int f_places, g_this_7, .ref h_from, .ref h_upTo, g_this_10, g_this_11, g_this_12, g_this_13, g_this_14, g_this_15, g_this_16, g_this_17, g_this_18, g_this_19, g_this_20, g_this_21, g_this_22, g_this_23, g_this_24, g_this_25, g_this_26, g_this_27, g_this_28, g_this_29, g_this_30])), (h_costs, .inl (cy, 2160, .inl a_costs)), (h_from, .inl (cy, 189, .inl a_from)), (h_upTo, .inl (cy, 180, .inl a_upTo))] H → va_D A [(h_this, .inr (6, [g_this_0, g_this_1, g_this_2, g_this_3, .ref h_costs, g_this_5, .int f_places, g_this_7, .ref h_from, .ref h_upTo, g_this_10, g_this_11, g_this_12, g_this_13, g_this_14, g_this_15, g_this_16, g_this_17, g_this_18, g_this_19, g_this_20, g_this_21, g_this_22, g_this_23, g_this_24, g_this_25, g_this_26, g_this_27, g_this_28, g_this_29, g_this_30])), (h_costs, .inl (cy, 2160, .inl a_costs)), (h_from, .inl (cy, 189, .inl a_from)), (h_upTo, .inl (cy, 180, .inl a_upTo))] → va_S A s.heap H locs → lv_has ls 3 [(0, .ref h_this), (1, .int x1), (2, .int x2)] → (∀ (x2 : Int32) (a_from : Nat → Int32) (H : Heap) (locs : List Loc) (ls : Array Slot), K42 x2 a_from → va_P (dC, dI) vwCl [(h_this, .inr (6, [g_this_0, g_this_1, g_this_2, g_this_3, .ref h_costs, g_this_5, .int f_places, g_this_7, .ref h_from, .ref h_upTo, g_this_10, g_this_11, g_this_12, g_this_13, g_this_14, g_this_15, g_this_16, g_this_17, g_this_18, g_this_19, g_this_20, g_this_21, g_this_22, g_this_23, g_this_24, g_this_25, g_this_26, g_this_27, g_this_28, g_this_29, g_this_30])), (h_costs, .inl (cy, 2160, .inl a_costs)), (h_from, .inl (cy, 189, .inl a_from)), (h_upTo, .inl (cy, 180, .inl a_upTo))] H → va_D A [(h_this, .inr (6, [g_this_0, g_this_1, g_this_2, g_this_3, .ref h_costs, g_this_5, .int f_places, g_this_7, .ref h_from, .ref h_upTo, g_this_10, g_this_11, g_this_12, g_this_13, g_this_14, g_this_15, g_this_16, g_this_17, g_this_18, g_this_19, g_this_20, g_this_21, g_this_22, g_this_23, g_this_24, g_this_25, g_this_26, g_this_27, g_this_28, g_this_29, g_this_30])), (h_costs, .inl (cy, 2160, .inl a_costs)), (h_from, .inl (cy, 189, .inl a_from)), (h_upTo, .inl (cy, 180, .inl a_upTo))] → va_S A s.heap H locs → lv_has ls 3 [(0, .ref h_this), (1, .int x1)] → W p l e rm_X6_sums s m args below meth c H locs 0 0 QQ (F0 m 86 ls [])) → W p l e rm_X6_sums s m args below meth c H locs 0 0 QQ (F0 m 42 ls []) := by
        intro x1 a_upTo K42 n
        induction n with
        | zero => intro x2 a_from H locs ls h; exact False.elim h
        | succ n ih =>
          intro x2 a_from H locs ls h hP hD hS hl hk
          have ih := fun x2 a_from H locs ls h hP hD hS hl => ih x2 a_from H locs ls h hP hD hS hl hk
          replace h : p_X6_sums_B42 a_costs x1 K42 (wl2 (p_X6_sums_B42 a_costs x1 K42) n) x2 a_from := h
          unfold p_X6_sums_B42 at h
          refine lv_iload_n hx hb dX6_sums_42 rfl (lv_at hl 2 rfl) ?_
          refine lv_bipush (v := 9) hx hb dX6_sums_43 (by decide) ?_
          refine lv_icmp_ge (tgt := 86) hx hb dX6_sums_45 (by decide) (fun c45 => ?_) (fun c45 => ?_)
          · replace h := And.left h c45
            exact hk x2 a_from H locs ls h hP hD hS (lv_sub hl [0, 1] rfl)
          · replace h := And.right h c45
            refine lv_aload_n hx hb dX6_sums_48 rfl (lv_at hl 0 rfl) ?_
            refine va_get (D := (dC, dI)) (ci := 6) (v := .ref h_from) (C := RX6) (T := TX6) (N := 31) hx hb hts in_X6 hown hK hP 0 rfl rfl 8 (by decide) k_22 (fun _ h9 => h9) rfl dX6_sums_49 ?_
            refine lv_bipush (v := 9) hx hb dX6_sums_52 (by decide) ?_
            refine lv_iload_n hx hb dX6_sums_54 rfl (lv_at hl 1 rfl) ?_
            refine lv_imul hx hb dX6_sums_55 ?_
            refine lv_iload_n hx hb dX6_sums_56 rfl (lv_at hl 2 rfl) ?_
            refine lv_iadd hx hb dX6_sums_57 ?_
            refine lv_aload_n hx hb dX6_sums_58 rfl (lv_at hl 0 rfl) ?_
            refine lv_iload_n hx hb dX6_sums_59 rfl (lv_at hl 1 rfl) ?_
            refine lv_iload_n hx hb dX6_sums_60 rfl (lv_at hl 2 rfl) ?_
            have hPc := hP.sub (ws' := [(h_this, .inr (6, [g_this_0, g_this_1, g_this_2, g_this_3, .ref h_costs, g_this_5, .int f_places, g_this_7, .ref h_from, .ref h_upTo, g_this_10, g_this_11, g_this_12, g_this_13, g_this_14, g_this_15, g_this_16, g_this_17, g_this_18, g_this_19, g_this_20, g_this_21, g_this_22, g_this_23, g_this_24, g_this_25, g_this_26, g_this_27, g_this_28, g_this_29, g_this_30])), (h_costs, .inl (cy, 2160, .inl a_costs))]) [0, 1] rfl
            have hDc := hD.sub (ws' := [(h_this, .inr (6, [g_this_0, g_this_1, g_this_2, g_this_3, .ref h_costs, g_this_5, .int f_places, g_this_7, .ref h_from, .ref h_upTo, g_this_10, g_this_11, g_this_12, g_this_13, g_this_14, g_this_15, g_this_16, g_this_17, g_this_18, g_this_19, g_this_20, g_this_21, g_this_22, g_this_23, g_this_24, g_this_25, g_this_26, g_this_27, g_this_28, g_this_29, g_this_30])), (h_costs, .inl (cy, 2160, .inl a_costs))]) [0, 1] (by decide) rfl
            have hFc := va_free (wc := [(h_this, .inr (6, [g_this_0, g_this_1, g_this_2, g_this_3, .ref h_costs, g_this_5, .int f_places, g_this_7, .ref h_from, .ref h_upTo, g_this_10, g_this_11, g_this_12, g_this_13, g_this_14, g_this_15, g_this_16, g_this_17, g_this_18, g_this_19, g_this_20, g_this_21, g_this_22, g_this_23, g_this_24, g_this_25, g_this_26, g_this_27, g_this_28, g_this_29, g_this_30])), (h_costs, .inl (cy, 2160, .inl a_costs))]) hD hS hA [0, 1] rfl
            refine va_calli (va_runV (As := [.int x1, .int x2]) (rest := [.int ((9 * x1) + x2), .ref h_from]) ⟨hx, hb, hml, hown, hts⟩ (c_X6_cheapest l dC dI cy h_this h_costs H.size (g_this_0) (g_this_1) (g_this_2) (g_this_3) (g_this_5) (.int f_places) (g_this_7) (.ref h_from) (.ref h_upTo) (g_this_10) (g_this_11) (g_this_12) (g_this_13) (g_this_14) (g_this_15) (g_this_16) (g_this_17) (g_this_18) (g_this_19) (g_this_20) (g_this_21) (g_this_22) (g_this_23) (g_this_24) (g_this_25) (g_this_26) (g_this_27) (g_this_28) (g_this_29) (g_this_30) a_costs x1 x2 _ h) (cwV 2 hts gX6_sums_X6_cheapest rfl rfl rfl q_X6_cheapest ⟨Nat.le_of_ble_eq_true rfl, Nat.le_of_ble_eq_true rfl⟩) ⟨fun a U g mk q => by obtain ⟨q0, q1, qP, qK, qD⟩ := q; exact ⟨q0, q1, qP, va_K.moved (u := U) (U := U.calling g mk a) (Vm.Alike.refl U.vm) qK, qD⟩, va_recv hK hP (ci := 6) (q0 := 0) rfl rfl, fun U hU hW => ⟨rfl, by rw [hU], by rw [hU]; exact hPc, va_K.moved hW.alike hK, hDc.weaken (fun _ _ _ _ => trivial)⟩⟩ rfl rfl hl.1 rfl (lv_room (Nat.le_of_ble_eq_true rfl)) dX6_sums_61 ⟨Nat.le_of_ble_eq_true rfl, Nat.le_of_ble_eq_true rfl⟩) hS (fun q _ h => hFc q h) hFc (fun r61 u t H1 locs ht hvm hw hB hz1 hk1 hS => ?_)
            obtain ⟨hP1, hK1, hD1⟩ := hB
            rw [ht] at hP1
            obtain ⟨hP, hD⟩ := va_join (wr := [(h_from, .inl (cy, 189, .inl a_from)), (h_upTo, .inl (cy, 180, .inl a_upTo))]) (w1 := [(h_this, .inr (6, [g_this_0, g_this_1, g_this_2, g_this_3, .ref h_costs, g_this_5, .int f_places, g_this_7, .ref h_from, .ref h_upTo, g_this_10, g_this_11, g_this_12, g_this_13, g_this_14, g_this_15, g_this_16, g_this_17, g_this_18, g_this_19, g_this_20, g_this_21, g_this_22, g_this_23, g_this_24, g_this_25, g_this_26, g_this_27, g_this_28, g_this_29, g_this_30])), (h_costs, .inl (cy, 2160, .inl a_costs))]) hP hD [0, 1] [2, 3] rfl rfl (by decide) (by decide) hk1 hFc hP1 hD1
            replace hP := hP.sub (ws' := [(h_this, .inr (6, [g_this_0, g_this_1, g_this_2, g_this_3, .ref h_costs, g_this_5, .int f_places, g_this_7, .ref h_from, .ref h_upTo, g_this_10, g_this_11, g_this_12, g_this_13, g_this_14, g_this_15, g_this_16, g_this_17, g_this_18, g_this_19, g_this_20, g_this_21, g_this_22, g_this_23, g_this_24, g_this_25, g_this_26, g_this_27, g_this_28, g_this_29, g_this_30])), (h_costs, .inl (cy, 2160, .inl a_costs)), (h_from, .inl (cy, 189, .inl a_from)), (h_upTo, .inl (cy, 180, .inl a_upTo))]) [2, 3, 0, 1] rfl
            replace hD := hD.sub (ws' := [(h_this, .inr (6, [g_this_0, g_this_1, g_this_2, g_this_3, .ref h_costs, g_this_5, .int f_places, g_this_7, .ref h_from, .ref h_upTo, g_this_10, g_this_11, g_this_12, g_this_13, g_this_14, g_this_15, g_this_16, g_this_17, g_this_18, g_this_19, g_this_20, g_this_21, g_this_22, g_this_23, g_this_24, g_this_25, g_this_26, g_this_27, g_this_28, g_this_29, g_this_30])), (h_costs, .inl (cy, 2160, .inl a_costs)), (h_from, .inl (cy, 189, .inl a_from)), (h_upTo, .inl (cy, 180, .inl a_upTo))]) [2, 3, 0, 1] (by decide) rfl
            clear hPc hDc hFc hP1 hK1 hD1 hz1 hk1 hvm
            subst ht
            generalize t.heap = H at hP hS ⊢
            replace h := hw
            clear hw
            refine lv_aload_n hx hb dX6_sums_64 rfl (lv_at hl 0 rfl) ?_
            refine va_get (D := (dC, dI)) (ci := 6) (v := .ref h_from) (C := RX6) (T := TX6) (N := 31) hx hb hts in_X6 hown hK hP 0 rfl rfl 8 (by decide) k_22 (fun _ h9 => h9) rfl dX6_sums_65 ?_
            refine lv_bipush (v := 9) hx hb dX6_sums_68 (by decide) ?_
            refine lv_iload_n hx hb dX6_sums_70 rfl (lv_at hl 1 rfl) ?_
            refine lv_iconst (v := 1) hx hb dX6_sums_71 (by decide) ?_
            refine lv_iadd hx hb dX6_sums_72 ?_
            refine lv_imul hx hb dX6_sums_73 ?_
            refine lv_iload_n hx hb dX6_sums_74 rfl (lv_at hl 2 rfl) ?_
            have hPc := hP.sub (ws' := [(h_from, .inl (cy, 189, .inl a_from))]) [2] rfl
            have hDc := hD.sub (ws' := [(h_from, .inl (cy, 189, .inl a_from))]) [2] (by decide) rfl
            have hFc := va_free (wc := [(h_from, .inl (cy, 189, .inl a_from))]) hD hS hA [2] rfl
            refine va_calli (va_runS (As := [.ref h_from, .int (9 * (x1 + 1)), .int x2]) (rest := [.int r61, .int ((9 * x1) + x2), .ref h_from]) ⟨hx, hb, hml, hown, hts⟩ (c_X6_near l dC dI cy 189 h_from H.size  a_from (9 * (x1 + 1)) x2 _ h) (va_cwS 3 hts gX6_sums_X6_near rfl rfl rfl q_X6_near ⟨Nat.le_of_ble_eq_true rfl, Nat.le_of_ble_eq_true rfl⟩) ⟨fun a U g mk q => by obtain ⟨q0, q1, qP, qK, qD⟩ := q; exact ⟨q0, q1, qP, va_K.moved (u := U) (U := U.calling g mk a) (Vm.Alike.refl U.vm) qK, qD⟩, fun U hU hW => ⟨rfl, by rw [hU], by rw [hU]; exact hPc, va_K.moved hW.alike hK, hDc.weaken (fun _ _ _ _ => trivial)⟩⟩ rfl rfl hl.1 rfl (lv_room (Nat.le_of_ble_eq_true rfl)) dX6_sums_75 ⟨Nat.le_of_ble_eq_true rfl, Nat.le_of_ble_eq_true rfl⟩) hS (fun q _ h => hFc q h) hFc (fun r75 u t H1 locs ht hvm hw hB hz1 hk1 hS => ?_)
            obtain ⟨hP1, hK1, hD1⟩ := hB
            rw [ht] at hP1
            obtain ⟨hP, hD⟩ := va_join (wr := [(h_this, .inr (6, [g_this_0, g_this_1, g_this_2, g_this_3, .ref h_costs, g_this_5, .int f_places, g_this_7, .ref h_from, .ref h_upTo, g_this_10, g_this_11, g_this_12, g_this_13, g_this_14, g_this_15, g_this_16, g_this_17, g_this_18, g_this_19, g_this_20, g_this_21, g_this_22, g_this_23, g_this_24, g_this_25, g_this_26, g_this_27, g_this_28, g_this_29, g_this_30])), (h_costs, .inl (cy, 2160, .inl a_costs)), (h_upTo, .inl (cy, 180, .inl a_upTo))]) (w1 := [(h_from, .inl (cy, 189, .inl a_from))]) hP hD [2] [0, 1, 3] rfl rfl (by decide) (by decide) hk1 hFc hP1 hD1
            replace hP := hP.sub (ws' := [(h_this, .inr (6, [g_this_0, g_this_1, g_this_2, g_this_3, .ref h_costs, g_this_5, .int f_places, g_this_7, .ref h_from, .ref h_upTo, g_this_10, g_this_11, g_this_12, g_this_13, g_this_14, g_this_15, g_this_16, g_this_17, g_this_18, g_this_19, g_this_20, g_this_21, g_this_22, g_this_23, g_this_24, g_this_25, g_this_26, g_this_27, g_this_28, g_this_29, g_this_30])), (h_costs, .inl (cy, 2160, .inl a_costs)), (h_from, .inl (cy, 189, .inl a_from)), (h_upTo, .inl (cy, 180, .inl a_upTo))]) [0, 1, 3, 2] rfl
            replace hD := hD.sub (ws' := [(h_this, .inr (6, [g_this_0, g_this_1, g_this_2, g_this_3, .ref h_costs, g_this_5, .int f_places, g_this_7, .ref h_from, .ref h_upTo, g_this_10, g_this_11, g_this_12, g_this_13, g_this_14, g_this_15, g_this_16, g_this_17, g_this_18, g_this_19, g_this_20, g_this_21, g_this_22, g_this_23, g_this_24, g_this_25, g_this_26, g_this_27, g_this_28, g_this_29, g_this_30])), (h_costs, .inl (cy, 2160, .inl a_costs)), (h_from, .inl (cy, 189, .inl a_from)), (h_upTo, .inl (cy, 180, .inl a_upTo))]) [0, 1, 3, 2] (by decide) rfl
            clear hPc hDc hFc hP1 hK1 hD1 hz1 hk1 hvm
            subst ht
            generalize t.heap = H at hP hS ⊢
            replace h := hw
            clear hw
            refine lv_iadd hx hb dX6_sums_78 ?_
            obtain ⟨b79, h⟩ := h
            refine va_iast hx hb hK hP hD hS 2 0 rfl rfl b79 dX6_sums_79 (fun H locs hP hD hS => ?_)
            have hP : va_P (dC, dI) vwCl [(h_this, .inr (6, [g_this_0, g_this_1, g_this_2, g_this_3, .ref h_costs, g_this_5, .int f_places, g_this_7, .ref h_from, .ref h_upTo, g_this_10, g_this_11, g_this_12, g_this_13, g_this_14, g_this_15, g_this_16, g_this_17, g_this_18, g_this_19, g_this_20, g_this_21, g_this_22, g_this_23, g_this_24, g_this_25, g_this_26, g_this_27, g_this_28, g_this_29, g_this_30])), (h_costs, .inl (cy, 2160, .inl a_costs)), (h_from, .inl (cy, 189, .inl (upd a_from (Int32.toNatClampNeg ((9 * x1) + x2)) (r61 + r75)))), (h_upTo, .inl (cy, 180, .inl a_upTo))] H := hP
            have hD : va_D A [(h_this, .inr (6, [g_this_0, g_this_1, g_this_2, g_this_3, .ref h_costs, g_this_5, .int f_places, g_this_7, .ref h_from, .ref h_upTo, g_this_10, g_this_11, g_this_12, g_this_13, g_this_14, g_this_15, g_this_16, g_this_17, g_this_18, g_this_19, g_this_20, g_this_21, g_this_22, g_this_23, g_this_24, g_this_25, g_this_26, g_this_27, g_this_28, g_this_29, g_this_30])), (h_costs, .inl (cy, 2160, .inl a_costs)), (h_from, .inl (cy, 189, .inl (upd a_from (Int32.toNatClampNeg ((9 * x1) + x2)) (r61 + r75)))), (h_upTo, .inl (cy, 180, .inl a_upTo))] := hD
            refine lv_iinc (v := x2 + 1) (lv' := [(2, .int (x2 + 1)), (0, .ref h_this), (1, .int x1)]) hx hb dX6_sums_80 hl (k := 2) rfl (by rfl) (by decide) rfl (fun ls hl => ?_)
            refine lv_goto (tgt := 42) hx hb dX6_sums_83 (by decide) ?_
            exact ih (x2 + 1) (upd a_from (Int32.toNatClampNeg ((9 * x1) + x2)) (r61 + r75)) H locs ls h hP hD hS (lv_sub hl [1, 2, 0] rfl)
      refine lv_iload_n hx hb dX6_sums_36 rfl (lv_at hl 1 rfl) ?_
      refine lv_if_lt (tgt := 92) hx hb dX6_sums_37 (by decide) (fun c37 => ?_) (fun c37 => ?_)
      · replace h := And.left h c37
        exact hk x1 a_from H locs ls h hP hD hS (lv_sub hl [0] rfl)
      · replace h := And.right h c37
        refine lv_iconst (v := 0) hx hb dX6_sums_40 (by decide) ?_
        refine lv_istore_n (lv' := [(2, .int 0), (0, .ref h_this), (1, .int x1)]) hx hb dX6_sums_41 rfl hl (by decide) rfl (fun ls hl => ?_)
        obtain ⟨n42, h⟩ := h
        refine L42 x1 a_upTo _ n42 0 a_from H locs ls h hP hD hS (lv_sub hl [1, 2, 0] rfl) (fun x2_86 a_from_86 H locs ls h hP hD hS hl => ?_)
        refine lv_iinc (v := x1 + (-1)) (lv' := [(1, .int (x1 + (-1))), (0, .ref h_this)]) hx hb dX6_sums_86 hl (k := 1) rfl (by rfl) (by decide) rfl (fun ls hl => ?_)
        refine lv_goto (tgt := 36) hx hb dX6_sums_89 (by decide) ?_
        exact ih (x1 + (-1)) a_from_86 H locs ls h hP hD hS (lv_sub hl [1, 0] rfl)
  have L2 : ∀ (a_upTo : Nat → Int32) (K2 : Int32 → (Nat → Int32) → Prop) (n : Nat) (x1 : Int32) (a_from : Nat → Int32) (H : Heap) (locs : List Loc) (ls : Array Slot), wl2 (p_X6_sums_B2 f_places K2) n x1 a_from → va_P (dC, dI) vwCl [(h_this, .inr (6, [g_this_0, g_this_1, g_this_2, g_this_3, .ref h_costs, g_this_5, .int f_places, g_this_7, .ref h_from, .ref h_upTo, g_this_10, g_this_11, g_this_12, g_this_13, g_this_14, g_this_15, g_this_16, g_this_17, g_this_18, g_this_19, g_this_20, g_this_21, g_this_22, g_this_23, g_this_24, g_this_25, g_this_26, g_this_27, g_this_28, g_this_29, g_this_30])), (h_costs, .inl (cy, 2160, .inl a_costs)), (h_from, .inl (cy, 189, .inl a_from)), (h_upTo, .inl (cy, 180, .inl a_upTo))] H → va_D A [(h_this, .inr (6, [g_this_0, g_this_1, g_this_2, g_this_3, .ref h_costs, g_this_5, .int f_places, g_this_7, .ref h_from, .ref h_upTo, g_this_10, g_this_11, g_this_12, g_this_13, g_this_14, g_this_15, g_this_16, g_this_17, g_this_18, g_this_19, g_this_20, g_this_21, g_this_22, g_this_23, g_this_24, g_this_25, g_this_26, g_this_27, g_this_28, g_this_29, g_this_30])), (h_costs, .inl (cy, 2160, .inl a_costs)), (h_from, .inl (cy, 189, .inl a_from)), (h_upTo, .inl (cy, 180, .inl a_upTo))] → va_S A s.heap H locs → lv_has ls 3 [(0, .ref h_this), (1, .int x1)] → (∀ (x1 : Int32) (a_from : Nat → Int32) (H : Heap) (locs : List Loc) (ls : Array Slot), K2 x1 a_from → va_P (dC, dI) vwCl [(h_this, .inr (6, [g_this_0, g_this_1, g_this_2, g_this_3, .ref h_costs, g_this_5, .int f_places, g_this_7, .ref h_from, .ref h_upTo, g_this_10, g_this_11, g_this_12, g_this_13, g_this_14, g_this_15, g_this_16, g_this_17, g_this_18, g_this_19, g_this_20, g_this_21, g_this_22, g_this_23, g_this_24, g_this_25, g_this_26, g_this_27, g_this_28, g_this_29, g_this_30])), (h_costs, .inl (cy, 2160, .inl a_costs)), (h_from, .inl (cy, 189, .inl a_from)), (h_upTo, .inl (cy, 180, .inl a_upTo))] H → va_D A [(h_this, .inr (6, [g_this_0, g_this_1, g_this_2, g_this_3, .ref h_costs, g_this_5, .int f_places, g_this_7, .ref h_from, .ref h_upTo, g_this_10, g_this_11, g_this_12, g_this_13, g_this_14, g_this_15, g_this_16, g_this_17, g_this_18, g_this_19, g_this_20, g_this_21, g_this_22, g_this_23, g_this_24, g_this_25, g_this_26, g_this_27, g_this_28, g_this_29, g_this_30])), (h_costs, .inl (cy, 2160, .inl a_costs)), (h_from, .inl (cy, 189, .inl a_from)), (h_upTo, .inl (cy, 180, .inl a_upTo))] → va_S A s.heap H locs → lv_has ls 3 [(0, .ref h_this)] → W p l e rm_X6_sums s m args below meth c H locs 0 0 QQ (F0 m 29 ls [])) → W p l e rm_X6_sums s m args below meth c H locs 0 0 QQ (F0 m 2 ls []) := by
    intro a_upTo K2 n
    induction n with
    | zero => intro x1 a_from H locs ls h; exact False.elim h
    | succ n ih =>
      intro x1 a_from H locs ls h hP hD hS hl hk
      have ih := fun x1 a_from H locs ls h hP hD hS hl => ih x1 a_from H locs ls h hP hD hS hl hk
      replace h : p_X6_sums_B2 f_places K2 (wl2 (p_X6_sums_B2 f_places K2) n) x1 a_from := h
      unfold p_X6_sums_B2 at h
      refine lv_iload_n hx hb dX6_sums_2 rfl (lv_at hl 1 rfl) ?_
      refine lv_bipush (v := 9) hx hb dX6_sums_3 (by decide) ?_
      refine lv_icmp_ge (tgt := 29) hx hb dX6_sums_5 (by decide) (fun c5 => ?_) (fun c5 => ?_)
      · replace h := And.left h c5
        exact hk x1 a_from H locs ls h hP hD hS (lv_sub hl [0] rfl)
      · replace h := And.right h c5
        refine lv_aload_n hx hb dX6_sums_8 rfl (lv_at hl 0 rfl) ?_
        refine va_get (D := (dC, dI)) (ci := 6) (v := .ref h_from) (C := RX6) (T := TX6) (N := 31) hx hb hts in_X6 hown hK hP 0 rfl rfl 8 (by decide) k_22 (fun _ h9 => h9) rfl dX6_sums_9 ?_
        refine lv_bipush (v := 9) hx hb dX6_sums_12 (by decide) ?_
        refine lv_aload_n hx hb dX6_sums_14 rfl (lv_at hl 0 rfl) ?_
        refine va_get (D := (dC, dI)) (ci := 6) (v := .int f_places) (C := RX6) (T := TX6) (N := 31) hx hb hts in_X6 hown hK hP 0 rfl rfl 6 (by decide) k_71 (fun _ h9 => h9) rfl dX6_sums_15 ?_
        refine lv_imul hx hb dX6_sums_18 ?_
        refine lv_iload_n hx hb dX6_sums_19 rfl (lv_at hl 1 rfl) ?_
        refine lv_iadd hx hb dX6_sums_20 ?_
        refine lv_iconst (v := 0) hx hb dX6_sums_21 (by decide) ?_
        obtain ⟨b22, h⟩ := h
        refine va_iast hx hb hK hP hD hS 2 0 rfl rfl b22 dX6_sums_22 (fun H locs hP hD hS => ?_)
        have hP : va_P (dC, dI) vwCl [(h_this, .inr (6, [g_this_0, g_this_1, g_this_2, g_this_3, .ref h_costs, g_this_5, .int f_places, g_this_7, .ref h_from, .ref h_upTo, g_this_10, g_this_11, g_this_12, g_this_13, g_this_14, g_this_15, g_this_16, g_this_17, g_this_18, g_this_19, g_this_20, g_this_21, g_this_22, g_this_23, g_this_24, g_this_25, g_this_26, g_this_27, g_this_28, g_this_29, g_this_30])), (h_costs, .inl (cy, 2160, .inl a_costs)), (h_from, .inl (cy, 189, .inl (upd a_from (Int32.toNatClampNeg ((9 * f_places) + x1)) 0))), (h_upTo, .inl (cy, 180, .inl a_upTo))] H := hP
        have hD : va_D A [(h_this, .inr (6, [g_this_0, g_this_1, g_this_2, g_this_3, .ref h_costs, g_this_5, .int f_places, g_this_7, .ref h_from, .ref h_upTo, g_this_10, g_this_11, g_this_12, g_this_13, g_this_14, g_this_15, g_this_16, g_this_17, g_this_18, g_this_19, g_this_20, g_this_21, g_this_22, g_this_23, g_this_24, g_this_25, g_this_26, g_this_27, g_this_28, g_this_29, g_this_30])), (h_costs, .inl (cy, 2160, .inl a_costs)), (h_from, .inl (cy, 189, .inl (upd a_from (Int32.toNatClampNeg ((9 * f_places) + x1)) 0))), (h_upTo, .inl (cy, 180, .inl a_upTo))] := hD
        refine lv_iinc (v := x1 + 1) (lv' := [(1, .int (x1 + 1)), (0, .ref h_this)]) hx hb dX6_sums_23 hl (k := 1) rfl (by rfl) (by decide) rfl (fun ls hl => ?_)
        refine lv_goto (tgt := 2) hx hb dX6_sums_26 (by decide) ?_
        exact ih (x1 + 1) (upd a_from (Int32.toNatClampNeg ((9 * f_places) + x1)) 0) H locs ls h hP hD hS (lv_sub hl [1, 0] rfl)
  generalize hlo : ([] : List Loc) = locs at hS ⊢
  obtain ⟨H, hH⟩ : ∃ z, z = s.heap := ⟨_, rfl⟩
  rw [show W p l e rm_X6_sums s m args below meth c s.heap = W p l e rm_X6_sums s m args below meth c H by rw [hH]]
  replace hP : va_P (dC, dI) vwCl [(h_this, .inr (6, [g_this_0, g_this_1, g_this_2, g_this_3, .ref h_costs, g_this_5, .int f_places, g_this_7, .ref h_from, .ref h_upTo, g_this_10, g_this_11, g_this_12, g_this_13, g_this_14, g_this_15, g_this_16, g_this_17, g_this_18, g_this_19, g_this_20, g_this_21, g_this_22, g_this_23, g_this_24, g_this_25, g_this_26, g_this_27, g_this_28, g_this_29, g_this_30])), (h_costs, .inl (cy, 2160, .inl a_costs)), (h_from, .inl (cy, 189, .inl a_from)), (h_upTo, .inl (cy, 180, .inl a_upTo))] H := by rw [hH]; exact hP
  replace hS : va_S A s.heap H locs := by rw [hH]; exact hS
  clear hH hlo
  refine lv_iconst (v := 0) hx hb dX6_sums_0 (by decide) ?_
  refine lv_istore_n (lv' := [(1, .int 0), (0, .ref h_this)]) hx hb dX6_sums_1 rfl hl (by decide) rfl (fun ls hl => ?_)
  obtain ⟨n2, h⟩ := h
  refine L2 a_upTo _ n2 0 a_from H locs ls h hP hD hS (lv_sub hl [1, 0] rfl) (fun x1_29 a_from_29 H locs ls h hP hD hS hl => ?_)
  refine lv_aload_n hx hb dX6_sums_29 rfl (lv_at hl 0 rfl) ?_
  refine va_get (D := (dC, dI)) (ci := 6) (v := .int f_places) (C := RX6) (T := TX6) (N := 31) hx hb hts in_X6 hown hK hP 0 rfl rfl 6 (by decide) k_71 (fun _ h9 => h9) rfl dX6_sums_30 ?_
  refine lv_iconst (v := 1) hx hb dX6_sums_33 (by decide) ?_
  refine lv_isub hx hb dX6_sums_34 ?_
  refine lv_istore_n (lv' := [(1, .int (f_places - 1)), (0, .ref h_this)]) hx hb dX6_sums_35 rfl hl (by decide) rfl (fun ls hl => ?_)
  obtain ⟨n36, h⟩ := h
  refine L36 a_upTo _ n36 (f_places - 1) a_from_29 H locs ls h hP hD hS (lv_sub hl [1, 0] rfl) (fun x1_92 a_from_92 H locs ls h hP hD hS hl => ?_)
  refine lv_iconst (v := 0) hx hb dX6_sums_92 (by decide) ?_
  refine lv_istore_n (lv' := [(1, .int 0), (0, .ref h_this)]) hx hb dX6_sums_93 rfl hl (by decide) rfl (fun ls hl => ?_)
  obtain ⟨n94, h⟩ := h
  refine L94 a_from_92 _ n94 0 a_upTo H locs ls h hP hD hS (lv_sub hl [1, 0] rfl) (fun x1_162 a_upTo_162 H locs ls h hP hD hS hl => ?_)
  refine lv_ldc (v := 100000000) hx hb hown k_82 dX6_sums_162 ?_
  refine lv_istore_n (lv' := [(1, .int 100000000), (0, .ref h_this)]) hx hb dX6_sums_164 rfl hl (by decide) rfl (fun ls hl => ?_)
  refine lv_iconst (v := 0) hx hb dX6_sums_165 (by decide) ?_
  refine lv_istore_n (lv' := [(2, .int 0), (1, .int 100000000), (0, .ref h_this)]) hx hb dX6_sums_166 rfl hl (by decide) rfl (fun ls hl => ?_)
  obtain ⟨n167, h⟩ := h
  refine L167 a_from_92 a_upTo_162 _ n167 100000000 0 H locs ls h hP hD hS (lv_sub hl [2, 1, 0] rfl) (fun x1_200 x2_200 H locs ls h hP hD hS hl => ?_)
  refine lv_iload_n hx hb dX6_sums_200 rfl (lv_at hl 0 rfl) ?_
  exact RET x1_200 a_from_92 a_upTo_162 H locs ls 201 dX6_sums_201 h hP hD hS
abbrev rm_X6_withSign : Room := { frames := 1, cells := 0, slots := 0, locals := 23 }
theorem q_X6_withSign : yX6_withSign.cls = RX6 ∧ yX6_withSign.cls ≠ "java/lang/invoke/MethodHandle" ∧ yX6_withSign.cls ≠ "java/lang/invoke/VarHandle" ∧ (parseMethodDescriptor yX6_withSign.desc).map (fun d => d.parameters.length) = some 2 := by decide +kernel
set_option maxHeartbeats 4000000 in
set_option maxRecDepth 100000 in
theorem c_X6_withSign (l : Launch) (dC : Nat → ClassId) (dI : Nat → Nat → Nat) (cy : ClassId) (h_this : Nat) (h_costs : Nat) (h_from : Nat) (h_told : Nat) (sz : Nat) (g_this_0 g_this_1 g_this_2 g_this_3 g_this_5 g_this_6 g_this_7 g_this_9 g_this_10 g_this_11 g_this_12 g_this_13 g_this_14 g_this_15 g_this_17 g_this_18 g_this_19 g_this_20 g_this_21 g_this_22 g_this_23 g_this_24 g_this_25 g_this_26 g_this_27 g_this_28 g_this_29 g_this_30 : Value) (a_costs : Nat → Int32) (a_from : Nat → Int32) (a_told : Nat → Int32) (x1 : Int32) (x2 : Int32) (Q : Int32 → Prop) (h : p_X6_withSign a_costs a_from a_told x1 x2 Q) : Met l yX6_withSign wsX6_withSign rm_X6_withSign (va_Pc [.ref h_this, .int x1, .int x2] (fun U => U.heap.size = sz ∧ va_P (dC, dI) vwCl [(h_this, .inr (6, [g_this_0, g_this_1, g_this_2, g_this_3, .ref h_costs, g_this_5, g_this_6, g_this_7, .ref h_from, g_this_9, g_this_10, g_this_11, g_this_12, g_this_13, g_this_14, g_this_15, .ref h_told, g_this_17, g_this_18, g_this_19, g_this_20, g_this_21, g_this_22, g_this_23, g_this_24, g_this_25, g_this_26, g_this_27, g_this_28, g_this_29, g_this_30])), (h_costs, .inl (cy, 2160, .inl a_costs)), (h_from, .inl (cy, 189, .inl a_from)), (h_told, .inl (cy, 9, .inl a_told))] U.heap ∧ va_K (dC, dI) vwCl [(cy, .int)] U ∧ va_D (fun _ => True) [(h_this, .inr (6, [g_this_0, g_this_1, g_this_2, g_this_3, .ref h_costs, g_this_5, g_this_6, g_this_7, .ref h_from, g_this_9, g_this_10, g_this_11, g_this_12, g_this_13, g_this_14, g_this_15, .ref h_told, g_this_17, g_this_18, g_this_19, g_this_20, g_this_21, g_this_22, g_this_23, g_this_24, g_this_25, g_this_26, g_this_27, g_this_28, g_this_29, g_this_30])), (h_costs, .inl (cy, 2160, .inl a_costs)), (h_from, .inl (cy, 189, .inl a_from)), (h_told, .inl (cy, 9, .inl a_told))])) (va_Qi (fun (r : Int32) (u : Unit) => Q r) (fun (u : Unit) (t : State) => va_P (dC, dI) vwCl [(h_this, .inr (6, [g_this_0, g_this_1, g_this_2, g_this_3, .ref h_costs, g_this_5, g_this_6, g_this_7, .ref h_from, g_this_9, g_this_10, g_this_11, g_this_12, g_this_13, g_this_14, g_this_15, .ref h_told, g_this_17, g_this_18, g_this_19, g_this_20, g_this_21, g_this_22, g_this_23, g_this_24, g_this_25, g_this_26, g_this_27, g_this_28, g_this_29, g_this_30])), (h_costs, .inl (cy, 2160, .inl a_costs)), (h_from, .inl (cy, 189, .inl a_from)), (h_told, .inl (cy, 9, .inl a_told))] t.heap ∧ va_K (dC, dI) vwCl [(cy, .int)] t ∧ va_D (va_A [(h_this, .inr (6, [g_this_0, g_this_1, g_this_2, g_this_3, .ref h_costs, g_this_5, g_this_6, g_this_7, .ref h_from, g_this_9, g_this_10, g_this_11, g_this_12, g_this_13, g_this_14, g_this_15, .ref h_told, g_this_17, g_this_18, g_this_19, g_this_20, g_this_21, g_this_22, g_this_23, g_this_24, g_this_25, g_this_26, g_this_27, g_this_28, g_this_29, g_this_30])), (h_costs, .inl (cy, 2160, .inl a_costs)), (h_from, .inl (cy, 189, .inl a_from)), (h_told, .inl (cy, 9, .inl a_told))] sz) [(h_this, .inr (6, [g_this_0, g_this_1, g_this_2, g_this_3, .ref h_costs, g_this_5, g_this_6, g_this_7, .ref h_from, g_this_9, g_this_10, g_this_11, g_this_12, g_this_13, g_this_14, g_this_15, .ref h_told, g_this_17, g_this_18, g_this_19, g_this_20, g_this_21, g_this_22, g_this_23, g_this_24, g_this_25, g_this_26, g_this_27, g_this_28, g_this_29, g_this_30])), (h_costs, .inl (cy, 2160, .inl a_costs)), (h_from, .inl (cy, 189, .inl a_from)), (h_told, .inl (cy, 9, .inl a_told))]) (va_A [(h_this, .inr (6, [g_this_0, g_this_1, g_this_2, g_this_3, .ref h_costs, g_this_5, g_this_6, g_this_7, .ref h_from, g_this_9, g_this_10, g_this_11, g_this_12, g_this_13, g_this_14, g_this_15, .ref h_told, g_this_17, g_this_18, g_this_19, g_this_20, g_this_21, g_this_22, g_this_23, g_this_24, g_this_25, g_this_26, g_this_27, g_this_28, g_this_29, g_this_30])), (h_costs, .inl (cy, 2160, .inl a_costs)), (h_from, .inl (cy, 189, .inl a_from)), (h_told, .inl (cy, 9, .inl a_told))] sz)) 0 0 (va_A [(h_this, .inr (6, [g_this_0, g_this_1, g_this_2, g_this_3, .ref h_costs, g_this_5, g_this_6, g_this_7, .ref h_from, g_this_9, g_this_10, g_this_11, g_this_12, g_this_13, g_this_14, g_this_15, .ref h_told, g_this_17, g_this_18, g_this_19, g_this_20, g_this_21, g_this_22, g_this_23, g_this_24, g_this_25, g_this_26, g_this_27, g_this_28, g_this_29, g_this_30])), (h_costs, .inl (cy, 2160, .inl a_costs)), (h_from, .inl (cy, 189, .inl a_from)), (h_told, .inl (cy, 9, .inl a_told))] sz) := by
  refine Met.ofW (cc := cX6_withSign) (maxL := 6) (ret := (some .int)) (by decide) rfl ?_
  intro p e s m args below meth c s₁ B hml hv
  obtain ⟨hargs, hsz, hP, hK, hD0⟩ := hv
  have hx := B.exec
  have hb := B.bytes
  have hr := B.returns
  have hts := atoms_spec (ws := wsX6_withSign) B.pre
  have hown : s.vm.findClass RX6 = some m.cls := findClass_of_methodNamed B.named
  have hlocks := B.notSynchronized
  subst hsz
  have hD := hD0.self (sz := s.heap.size)
  generalize hAe : va_A [(h_this, .inr (6, [g_this_0, g_this_1, g_this_2, g_this_3, .ref h_costs, g_this_5, g_this_6, g_this_7, .ref h_from, g_this_9, g_this_10, g_this_11, g_this_12, g_this_13, g_this_14, g_this_15, .ref h_told, g_this_17, g_this_18, g_this_19, g_this_20, g_this_21, g_this_22, g_this_23, g_this_24, g_this_25, g_this_26, g_this_27, g_this_28, g_this_29, g_this_30])), (h_costs, .inl (cy, 2160, .inl a_costs)), (h_from, .inl (cy, 189, .inl a_from)), (h_told, .inl (cy, 9, .inl a_told))] s.heap.size = A at hD ⊢
  have hA : ∀ q : Nat, s.heap.size ≤ q → A q := fun q h => by rw [← hAe]; exact Or.inr h
  have hS : va_S A s.heap s.heap [] := va_S.rf
  have in_X6 : ∀ w ∈ u_ws RX6 TX6 31, w ∈ wsX6_withSign := by decide +kernel
  have k_16 := hts (.fieldLink RX6 16 "ChequeDeskModel" "costs" "[I") (by decide +kernel)
  have k_22 := hts (.fieldLink RX6 22 "ChequeDeskModel" "from" "[I") (by decide +kernel)
  have k_34 := hts (.fieldLink RX6 34 "ChequeDeskModel" "told" "[I") (by decide +kernel)
  have k_82 := hts (.constant RX6 82 100000000) (by decide +kernel)
  have hl := lv_entry ([.ref h_this, .int x1, .int x2]) (n := 6) (Nat.le_of_ble_eq_true rfl)
  rw [show entryFrame m args 6 = entryFrame m ([.ref h_this, .int x1, .int x2] : List Value).toArray 6 by rw [hargs], lg_entry_eq]
  generalize (lg_sl ([.ref h_this, .int x1, .int x2]) ++ List.replicate (6 - (lg_sl ([.ref h_this, .int x1, .int x2])).length) Slot.unset).toArray = ls at hl ⊢
  have hl : lv_has ls 6 [(0, .ref h_this), (1, .int x1), (2, .int x2)] := hl
  have hP : va_P (dC, dI) vwCl [(h_this, .inr (6, [g_this_0, g_this_1, g_this_2, g_this_3, .ref h_costs, g_this_5, g_this_6, g_this_7, .ref h_from, g_this_9, g_this_10, g_this_11, g_this_12, g_this_13, g_this_14, g_this_15, .ref h_told, g_this_17, g_this_18, g_this_19, g_this_20, g_this_21, g_this_22, g_this_23, g_this_24, g_this_25, g_this_26, g_this_27, g_this_28, g_this_29, g_this_30])), (h_costs, .inl (cy, 2160, .inl a_costs)), (h_from, .inl (cy, 189, .inl a_from)), (h_told, .inl (cy, 9, .inl a_told))] s.heap := hP
  change W p l e rm_X6_withSign s m args below meth c s.heap [] 0 0 _ _
  generalize hQQ : MQ below _ _ _ _ _ _ = QQ
  have RET : ∀ (r : Int32) (H : Heap) (locs : List Loc) (ls : Array Slot) (pc : Nat), decode cX6_withSign pc = .ok (.ireturn, 1) → Q r → va_P (dC, dI) vwCl [(h_this, .inr (6, [g_this_0, g_this_1, g_this_2, g_this_3, .ref h_costs, g_this_5, g_this_6, g_this_7, .ref h_from, g_this_9, g_this_10, g_this_11, g_this_12, g_this_13, g_this_14, g_this_15, .ref h_told, g_this_17, g_this_18, g_this_19, g_this_20, g_this_21, g_this_22, g_this_23, g_this_24, g_this_25, g_this_26, g_this_27, g_this_28, g_this_29, g_this_30])), (h_costs, .inl (cy, 2160, .inl a_costs)), (h_from, .inl (cy, 189, .inl a_from)), (h_told, .inl (cy, 9, .inl a_told))] H → va_D A [(h_this, .inr (6, [g_this_0, g_this_1, g_this_2, g_this_3, .ref h_costs, g_this_5, g_this_6, g_this_7, .ref h_from, g_this_9, g_this_10, g_this_11, g_this_12, g_this_13, g_this_14, g_this_15, .ref h_told, g_this_17, g_this_18, g_this_19, g_this_20, g_this_21, g_this_22, g_this_23, g_this_24, g_this_25, g_this_26, g_this_27, g_this_28, g_this_29, g_this_30])), (h_costs, .inl (cy, 2160, .inl a_costs)), (h_from, .inl (cy, 189, .inl a_from)), (h_told, .inl (cy, 9, .inl a_told))] → va_S A s.heap H locs → W p l e rm_X6_withSign s m args below meth c H locs 0 0 QQ (F0 m pc ls [.int r]) := by
    intro r  H locs ls pc hdg hq hP hD hS
    rw [← hQQ]
    exact W.iret (v := r) hx hb hr (fun t ht hW => ⟨⟨r, (), rfl, hq, by rw [ht]; exact hP, va_K.moved hW.alike hK, hD⟩, hS.F ht⟩) hS.2.2 hdg
  clear hQQ
  unfold p_X6_withSign at h
  have L6 : ∀ (x1 : Int32) (x2 : Int32) (K6 : Int32 → Int32 → Prop) (n : Nat) (x3 : Int32) (x4 : Int32) (H : Heap) (locs : List Loc) (ls : Array Slot), wl2 (p_X6_withSign_B6 a_costs a_from a_told x1 x2 K6) n x3 x4 → va_P (dC, dI) vwCl [(h_this, .inr (6, [g_this_0, g_this_1, g_this_2, g_this_3, .ref h_costs, g_this_5, g_this_6, g_this_7, .ref h_from, g_this_9, g_this_10, g_this_11, g_this_12, g_this_13, g_this_14, g_this_15, .ref h_told, g_this_17, g_this_18, g_this_19, g_this_20, g_this_21, g_this_22, g_this_23, g_this_24, g_this_25, g_this_26, g_this_27, g_this_28, g_this_29, g_this_30])), (h_costs, .inl (cy, 2160, .inl a_costs)), (h_from, .inl (cy, 189, .inl a_from)), (h_told, .inl (cy, 9, .inl a_told))] H → va_D A [(h_this, .inr (6, [g_this_0, g_this_1, g_this_2, g_this_3, .ref h_costs, g_this_5, g_this_6, g_this_7, .ref h_from, g_this_9, g_this_10, g_this_11, g_this_12, g_this_13, g_this_14, g_this_15, .ref h_told, g_this_17, g_this_18, g_this_19, g_this_20, g_this_21, g_this_22, g_this_23, g_this_24, g_this_25, g_this_26, g_this_27, g_this_28, g_this_29, g_this_30])), (h_costs, .inl (cy, 2160, .inl a_costs)), (h_from, .inl (cy, 189, .inl a_from)), (h_told, .inl (cy, 9, .inl a_told))] → va_S A s.heap H locs → lv_has ls 6 [(0, .ref h_this), (1, .int x1), (2, .int x2), (3, .int x3), (4, .int x4)] → (∀ (x3 : Int32) (x4 : Int32) (H : Heap) (locs : List Loc) (ls : Array Slot), K6 x3 x4 → va_P (dC, dI) vwCl [(h_this, .inr (6, [g_this_0, g_this_1, g_this_2, g_this_3, .ref h_costs, g_this_5, g_this_6, g_this_7, .ref h_from, g_this_9, g_this_10, g_this_11, g_this_12, g_this_13, g_this_14, g_this_15, .ref h_told, g_this_17, g_this_18, g_this_19, g_this_20, g_this_21, g_this_22, g_this_23, g_this_24, g_this_25, g_this_26, g_this_27, g_this_28, g_this_29, g_this_30])), (h_costs, .inl (cy, 2160, .inl a_costs)), (h_from, .inl (cy, 189, .inl a_from)), (h_told, .inl (cy, 9, .inl a_told))] H → va_D A [(h_this, .inr (6, [g_this_0, g_this_1, g_this_2, g_this_3, .ref h_costs, g_this_5, g_this_6, g_this_7, .ref h_from, g_this_9, g_this_10, g_this_11, g_this_12, g_this_13, g_this_14, g_this_15, .ref h_told, g_this_17, g_this_18, g_this_19, g_this_20, g_this_21, g_this_22, g_this_23, g_this_24, g_this_25, g_this_26, g_this_27, g_this_28, g_this_29, g_this_30])), (h_costs, .inl (cy, 2160, .inl a_costs)), (h_from, .inl (cy, 189, .inl a_from)), (h_told, .inl (cy, 9, .inl a_told))] → va_S A s.heap H locs → lv_has ls 6 [(3, .int x3)] → W p l e rm_X6_withSign s m args below meth c H locs 0 0 QQ (F0 m 81 ls [])) → W p l e rm_X6_withSign s m args below meth c H locs 0 0 QQ (F0 m 6 ls []) := by
    intro x1 x2 K6 n
    induction n with
    | zero => intro x3 x4 H locs ls h; exact False.elim h
    | succ n ih =>
      intro x3 x4 H locs ls h hP hD hS hl hk
      have ih := fun x3 x4 H locs ls h hP hD hS hl => ih x3 x4 H locs ls h hP hD hS hl hk
      replace h : p_X6_withSign_B6 a_costs a_from a_told x1 x2 K6 (wl2 (p_X6_withSign_B6 a_costs a_from a_told x1 x2 K6) n) x3 x4 := h
      unfold p_X6_withSign_B6 at h
      have J74 : ∀ (x4 : Int32) (s0 : Int32) (H : Heap) (locs : List Loc) (ls : Array Slot), p_X6_withSign_J74 (wl2 (p_X6_withSign_B6 a_costs a_from a_told x1 x2 K6) n) x4 s0 → va_P (dC, dI) vwCl [(h_this, .inr (6, [g_this_0, g_this_1, g_this_2, g_this_3, .ref h_costs, g_this_5, g_this_6, g_this_7, .ref h_from, g_this_9, g_this_10, g_this_11, g_this_12, g_this_13, g_this_14, g_this_15, .ref h_told, g_this_17, g_this_18, g_this_19, g_this_20, g_this_21, g_this_22, g_this_23, g_this_24, g_this_25, g_this_26, g_this_27, g_this_28, g_this_29, g_this_30])), (h_costs, .inl (cy, 2160, .inl a_costs)), (h_from, .inl (cy, 189, .inl a_from)), (h_told, .inl (cy, 9, .inl a_told))] H → va_D A [(h_this, .inr (6, [g_this_0, g_this_1, g_this_2, g_this_3, .ref h_costs, g_this_5, g_this_6, g_this_7, .ref h_from, g_this_9, g_this_10, g_this_11, g_this_12, g_this_13, g_this_14, g_this_15, .ref h_told, g_this_17, g_this_18, g_this_19, g_this_20, g_this_21, g_this_22, g_this_23, g_this_24, g_this_25, g_this_26, g_this_27, g_this_28, g_this_29, g_this_30])), (h_costs, .inl (cy, 2160, .inl a_costs)), (h_from, .inl (cy, 189, .inl a_from)), (h_told, .inl (cy, 9, .inl a_told))] → va_S A s.heap H locs → lv_has ls 6 [(0, .ref h_this), (1, .int x1), (2, .int x2), (4, .int x4)] → W p l e rm_X6_withSign s m args below meth c H locs 0 0 QQ (F0 m 74 ls [.int s0]) := by
        intro x4 s0 H locs ls h hP hD hS hl
        unfold p_X6_withSign_J74 at h
        refine lv_istore_n (lv' := [(3, .int s0), (0, .ref h_this), (1, .int x1), (2, .int x2), (4, .int x4)]) hx hb dX6_withSign_74 rfl hl (by decide) rfl (fun ls hl => ?_)
        refine lv_iinc (v := x4 + 1) (lv' := [(4, .int (x4 + 1)), (3, .int s0), (0, .ref h_this), (1, .int x1), (2, .int x2)]) hx hb dX6_withSign_75 hl (k := 4) rfl (by rfl) (by decide) rfl (fun ls hl => ?_)
        refine lv_goto (tgt := 6) hx hb dX6_withSign_78 (by decide) ?_
        exact ih s0 (x4 + 1) H locs ls h hP hD hS (lv_sub hl [2, 3, 4, 1, 0] rfl)
      have J31 : ∀ (x3 : Int32) (x4 : Int32) (s0 : Int32) (H : Heap) (locs : List Loc) (ls : Array Slot), p_X6_withSign_J31 a_costs a_from (wl2 (p_X6_withSign_B6 a_costs a_from a_told x1 x2 K6) n) x1 x2 x3 x4 s0 → va_P (dC, dI) vwCl [(h_this, .inr (6, [g_this_0, g_this_1, g_this_2, g_this_3, .ref h_costs, g_this_5, g_this_6, g_this_7, .ref h_from, g_this_9, g_this_10, g_this_11, g_this_12, g_this_13, g_this_14, g_this_15, .ref h_told, g_this_17, g_this_18, g_this_19, g_this_20, g_this_21, g_this_22, g_this_23, g_this_24, g_this_25, g_this_26, g_this_27, g_this_28, g_this_29, g_this_30])), (h_costs, .inl (cy, 2160, .inl a_costs)), (h_from, .inl (cy, 189, .inl a_from)), (h_told, .inl (cy, 9, .inl a_told))] H → va_D A [(h_this, .inr (6, [g_this_0, g_this_1, g_this_2, g_this_3, .ref h_costs, g_this_5, g_this_6, g_this_7, .ref h_from, g_this_9, g_this_10, g_this_11, g_this_12, g_this_13, g_this_14, g_this_15, .ref h_told, g_this_17, g_this_18, g_this_19, g_this_20, g_this_21, g_this_22, g_this_23, g_this_24, g_this_25, g_this_26, g_this_27, g_this_28, g_this_29, g_this_30])), (h_costs, .inl (cy, 2160, .inl a_costs)), (h_from, .inl (cy, 189, .inl a_from)), (h_told, .inl (cy, 9, .inl a_told))] → va_S A s.heap H locs → lv_has ls 6 [(0, .ref h_this), (1, .int x1), (2, .int x2), (3, .int x3), (4, .int x4)] → W p l e rm_X6_withSign s m args below meth c H locs 0 0 QQ (F0 m 31 ls [.int s0]) := by
        intro x3 x4 s0 H locs ls h hP hD hS hl
        unfold p_X6_withSign_J31 at h
        refine lv_aload_n hx hb dX6_withSign_31 rfl (lv_at hl 0 rfl) ?_
        refine va_get (D := (dC, dI)) (ci := 6) (v := .ref h_costs) (C := RX6) (T := TX6) (N := 31) hx hb hts in_X6 hown hK hP 0 rfl rfl 4 (by decide) k_16 (fun _ h9 => h9) rfl dX6_withSign_32 ?_
        refine lv_iload_n hx hb dX6_withSign_35 rfl (lv_at hl 1 rfl) ?_
        refine lv_iload_n hx hb dX6_withSign_36 rfl (lv_at hl 2 rfl) ?_
        refine lv_iload hx hb dX6_withSign_37 (lv_at hl 4 rfl) ?_
        have hPc := hP.sub (ws' := []) [] rfl
        have hDc := hD.sub (ws' := []) [] (by decide) rfl
        have hFc := va_free (wc := []) hD hS hA [] rfl
        refine va_calli (va_runS (As := [.int x1, .int x2, .int x4]) (rest := [.ref h_costs, .int s0]) ⟨hx, hb, hml, hown, hts⟩ (c_X6_cell l dC dI cy  H.size   x1 x2 x4 _ h) (va_cwS 3 hts gX6_withSign_X6_cell rfl rfl rfl q_X6_cell ⟨Nat.le_of_ble_eq_true rfl, Nat.le_of_ble_eq_true rfl⟩) ⟨fun a U g mk q => by obtain ⟨q0, q1, qP, qK, qD⟩ := q; exact ⟨q0, q1, qP, va_K.moved (u := U) (U := U.calling g mk a) (Vm.Alike.refl U.vm) qK, qD⟩, fun U hU hW => ⟨rfl, by rw [hU], by rw [hU]; exact hPc, va_K.moved hW.alike hK, hDc.weaken (fun _ _ _ _ => trivial)⟩⟩ rfl rfl hl.1 rfl (lv_room (Nat.le_of_ble_eq_true rfl)) dX6_withSign_39 ⟨Nat.le_of_ble_eq_true rfl, Nat.le_of_ble_eq_true rfl⟩) hS (fun q _ h => hFc q h) hFc (fun r39 u t H1 locs ht hvm hw hB hz1 hk1 hS => ?_)
        obtain ⟨hP1, hK1, hD1⟩ := hB
        rw [ht] at hP1
        obtain ⟨hP, hD⟩ := va_join (wr := [(h_this, .inr (6, [g_this_0, g_this_1, g_this_2, g_this_3, .ref h_costs, g_this_5, g_this_6, g_this_7, .ref h_from, g_this_9, g_this_10, g_this_11, g_this_12, g_this_13, g_this_14, g_this_15, .ref h_told, g_this_17, g_this_18, g_this_19, g_this_20, g_this_21, g_this_22, g_this_23, g_this_24, g_this_25, g_this_26, g_this_27, g_this_28, g_this_29, g_this_30])), (h_costs, .inl (cy, 2160, .inl a_costs)), (h_from, .inl (cy, 189, .inl a_from)), (h_told, .inl (cy, 9, .inl a_told))]) (w1 := []) hP hD [] [0, 1, 2, 3] rfl rfl (by decide) (by decide) hk1 hFc hP1 hD1
        replace hP := hP.sub (ws' := [(h_this, .inr (6, [g_this_0, g_this_1, g_this_2, g_this_3, .ref h_costs, g_this_5, g_this_6, g_this_7, .ref h_from, g_this_9, g_this_10, g_this_11, g_this_12, g_this_13, g_this_14, g_this_15, .ref h_told, g_this_17, g_this_18, g_this_19, g_this_20, g_this_21, g_this_22, g_this_23, g_this_24, g_this_25, g_this_26, g_this_27, g_this_28, g_this_29, g_this_30])), (h_costs, .inl (cy, 2160, .inl a_costs)), (h_from, .inl (cy, 189, .inl a_from)), (h_told, .inl (cy, 9, .inl a_told))]) [0, 1, 2, 3] rfl
        replace hD := hD.sub (ws' := [(h_this, .inr (6, [g_this_0, g_this_1, g_this_2, g_this_3, .ref h_costs, g_this_5, g_this_6, g_this_7, .ref h_from, g_this_9, g_this_10, g_this_11, g_this_12, g_this_13, g_this_14, g_this_15, .ref h_told, g_this_17, g_this_18, g_this_19, g_this_20, g_this_21, g_this_22, g_this_23, g_this_24, g_this_25, g_this_26, g_this_27, g_this_28, g_this_29, g_this_30])), (h_costs, .inl (cy, 2160, .inl a_costs)), (h_from, .inl (cy, 189, .inl a_from)), (h_told, .inl (cy, 9, .inl a_told))]) [0, 1, 2, 3] (by decide) rfl
        clear hPc hDc hFc hP1 hK1 hD1 hz1 hk1 hvm
        subst ht
        generalize t.heap = H at hP hS ⊢
        replace h := hw
        clear hw
        obtain ⟨b42, h⟩ := h
        refine va_iald hx hb hK hP 1 0 rfl rfl b42 dX6_withSign_42 ?_
        refine lv_iadd hx hb dX6_withSign_43 ?_
        refine lv_aload_n hx hb dX6_withSign_44 rfl (lv_at hl 0 rfl) ?_
        refine va_get (D := (dC, dI)) (ci := 6) (v := .ref h_from) (C := RX6) (T := TX6) (N := 31) hx hb hts in_X6 hown hK hP 0 rfl rfl 8 (by decide) k_22 (fun _ h9 => h9) rfl dX6_withSign_45 ?_
        refine lv_bipush (v := 9) hx hb dX6_withSign_48 (by decide) ?_
        refine lv_iload_n hx hb dX6_withSign_50 rfl (lv_at hl 1 rfl) ?_
        refine lv_iconst (v := 1) hx hb dX6_withSign_51 (by decide) ?_
        refine lv_iadd hx hb dX6_withSign_52 ?_
        refine lv_imul hx hb dX6_withSign_53 ?_
        refine lv_iload hx hb dX6_withSign_54 (lv_at hl 4 rfl) ?_
        have hPc := hP.sub (ws' := [(h_from, .inl (cy, 189, .inl a_from))]) [2] rfl
        have hDc := hD.sub (ws' := [(h_from, .inl (cy, 189, .inl a_from))]) [2] (by decide) rfl
        have hFc := va_free (wc := [(h_from, .inl (cy, 189, .inl a_from))]) hD hS hA [2] rfl
        refine va_calli (va_runS (As := [.ref h_from, .int (9 * (x1 + 1)), .int x4]) (rest := [.int (s0 + (a_costs (Int32.toNatClampNeg r39)))]) ⟨hx, hb, hml, hown, hts⟩ (c_X6_near l dC dI cy 189 h_from H.size  a_from (9 * (x1 + 1)) x4 _ h) (va_cwS 3 hts gX6_withSign_X6_near rfl rfl rfl q_X6_near ⟨Nat.le_of_ble_eq_true rfl, Nat.le_of_ble_eq_true rfl⟩) ⟨fun a U g mk q => by obtain ⟨q0, q1, qP, qK, qD⟩ := q; exact ⟨q0, q1, qP, va_K.moved (u := U) (U := U.calling g mk a) (Vm.Alike.refl U.vm) qK, qD⟩, fun U hU hW => ⟨rfl, by rw [hU], by rw [hU]; exact hPc, va_K.moved hW.alike hK, hDc.weaken (fun _ _ _ _ => trivial)⟩⟩ rfl rfl hl.1 rfl (lv_room (Nat.le_of_ble_eq_true rfl)) dX6_withSign_56 ⟨Nat.le_of_ble_eq_true rfl, Nat.le_of_ble_eq_true rfl⟩) hS (fun q _ h => hFc q h) hFc (fun r56 u t H1 locs ht hvm hw hB hz1 hk1 hS => ?_)
        obtain ⟨hP1, hK1, hD1⟩ := hB
        rw [ht] at hP1
        obtain ⟨hP, hD⟩ := va_join (wr := [(h_this, .inr (6, [g_this_0, g_this_1, g_this_2, g_this_3, .ref h_costs, g_this_5, g_this_6, g_this_7, .ref h_from, g_this_9, g_this_10, g_this_11, g_this_12, g_this_13, g_this_14, g_this_15, .ref h_told, g_this_17, g_this_18, g_this_19, g_this_20, g_this_21, g_this_22, g_this_23, g_this_24, g_this_25, g_this_26, g_this_27, g_this_28, g_this_29, g_this_30])), (h_costs, .inl (cy, 2160, .inl a_costs)), (h_told, .inl (cy, 9, .inl a_told))]) (w1 := [(h_from, .inl (cy, 189, .inl a_from))]) hP hD [2] [0, 1, 3] rfl rfl (by decide) (by decide) hk1 hFc hP1 hD1
        replace hP := hP.sub (ws' := [(h_this, .inr (6, [g_this_0, g_this_1, g_this_2, g_this_3, .ref h_costs, g_this_5, g_this_6, g_this_7, .ref h_from, g_this_9, g_this_10, g_this_11, g_this_12, g_this_13, g_this_14, g_this_15, .ref h_told, g_this_17, g_this_18, g_this_19, g_this_20, g_this_21, g_this_22, g_this_23, g_this_24, g_this_25, g_this_26, g_this_27, g_this_28, g_this_29, g_this_30])), (h_costs, .inl (cy, 2160, .inl a_costs)), (h_from, .inl (cy, 189, .inl a_from)), (h_told, .inl (cy, 9, .inl a_told))]) [0, 1, 3, 2] rfl
        replace hD := hD.sub (ws' := [(h_this, .inr (6, [g_this_0, g_this_1, g_this_2, g_this_3, .ref h_costs, g_this_5, g_this_6, g_this_7, .ref h_from, g_this_9, g_this_10, g_this_11, g_this_12, g_this_13, g_this_14, g_this_15, .ref h_told, g_this_17, g_this_18, g_this_19, g_this_20, g_this_21, g_this_22, g_this_23, g_this_24, g_this_25, g_this_26, g_this_27, g_this_28, g_this_29, g_this_30])), (h_costs, .inl (cy, 2160, .inl a_costs)), (h_from, .inl (cy, 189, .inl a_from)), (h_told, .inl (cy, 9, .inl a_told))]) [0, 1, 3, 2] (by decide) rfl
        clear hPc hDc hFc hP1 hK1 hD1 hz1 hk1 hvm
        subst ht
        generalize t.heap = H at hP hS ⊢
        replace h := hw
        clear hw
        refine lv_iadd hx hb dX6_withSign_59 ?_
        refine lv_istore (lv' := [(5, .int ((s0 + (a_costs (Int32.toNatClampNeg r39))) + r56)), (0, .ref h_this), (1, .int x1), (2, .int x2), (3, .int x3), (4, .int x4)]) hx hb dX6_withSign_60 hl (by decide) rfl (fun ls hl => ?_)
        refine lv_iload hx hb dX6_withSign_62 (lv_at hl 0 rfl) ?_
        refine lv_iload_n hx hb dX6_withSign_64 rfl (lv_at hl 4 rfl) ?_
        refine lv_icmp_ge (tgt := 73) hx hb dX6_withSign_65 (by decide) (fun c65 => ?_) (fun c65 => ?_)
        · replace h := And.left h c65
          refine lv_iload_n hx hb dX6_withSign_73 rfl (lv_at hl 4 rfl) ?_
          exact J74 x4 x3 H locs ls h hP hD hS (lv_sub hl [1, 2, 3, 5] rfl)
        · replace h := And.right h c65
          refine lv_iload hx hb dX6_withSign_68 (lv_at hl 0 rfl) ?_
          refine lv_goto (tgt := 74) hx hb dX6_withSign_70 (by decide) ?_
          exact J74 x4 ((s0 + (a_costs (Int32.toNatClampNeg r39))) + r56) H locs ls h hP hD hS (lv_sub hl [1, 2, 3, 5] rfl)
      refine lv_iload hx hb dX6_withSign_6 (lv_at hl 4 rfl) ?_
      refine lv_bipush (v := 9) hx hb dX6_withSign_8 (by decide) ?_
      refine lv_icmp_ge (tgt := 81) hx hb dX6_withSign_10 (by decide) (fun c10 => ?_) (fun c10 => ?_)
      · replace h := And.left h c10
        exact hk x3 x4 H locs ls h hP hD hS (lv_sub hl [3] rfl)
      · replace h := And.right h c10
        refine lv_iload_n hx hb dX6_withSign_13 rfl (lv_at hl 1 rfl) ?_
        refine lv_if_ne (tgt := 21) hx hb dX6_withSign_14 (by decide) (fun c14 => ?_) (fun c14 => ?_)
        · replace h := And.left h c14
          refine lv_aload_n hx hb dX6_withSign_21 rfl (lv_at hl 0 rfl) ?_
          refine va_get (D := (dC, dI)) (ci := 6) (v := .ref h_told) (C := RX6) (T := TX6) (N := 31) hx hb hts in_X6 hown hK hP 0 rfl rfl 16 (by decide) k_34 (fun _ h9 => h9) rfl dX6_withSign_22 ?_
          refine lv_iconst (v := 0) hx hb dX6_withSign_25 (by decide) ?_
          refine lv_iload hx hb dX6_withSign_26 (lv_at hl 4 rfl) ?_
          have hPc := hP.sub (ws' := [(h_told, .inl (cy, 9, .inl a_told))]) [3] rfl
          have hDc := hD.sub (ws' := [(h_told, .inl (cy, 9, .inl a_told))]) [3] (by decide) rfl
          have hFc := va_free (wc := [(h_told, .inl (cy, 9, .inl a_told))]) hD hS hA [3] rfl
          refine va_calli (va_runS (As := [.ref h_told, .int 0, .int x4]) (rest := []) ⟨hx, hb, hml, hown, hts⟩ (c_X6_near l dC dI cy 9 h_told H.size  a_told 0 x4 _ h) (va_cwS 3 hts gX6_withSign_X6_near rfl rfl rfl q_X6_near ⟨Nat.le_of_ble_eq_true rfl, Nat.le_of_ble_eq_true rfl⟩) ⟨fun a U g mk q => by obtain ⟨q0, q1, qP, qK, qD⟩ := q; exact ⟨q0, q1, qP, va_K.moved (u := U) (U := U.calling g mk a) (Vm.Alike.refl U.vm) qK, qD⟩, fun U hU hW => ⟨rfl, by rw [hU], by rw [hU]; exact hPc, va_K.moved hW.alike hK, hDc.weaken (fun _ _ _ _ => trivial)⟩⟩ rfl rfl hl.1 rfl (lv_room (Nat.le_of_ble_eq_true rfl)) dX6_withSign_28 ⟨Nat.le_of_ble_eq_true rfl, Nat.le_of_ble_eq_true rfl⟩) hS (fun q _ h => hFc q h) hFc (fun r28 u t H1 locs ht hvm hw hB hz1 hk1 hS => ?_)
          obtain ⟨hP1, hK1, hD1⟩ := hB
          rw [ht] at hP1
          obtain ⟨hP, hD⟩ := va_join (wr := [(h_this, .inr (6, [g_this_0, g_this_1, g_this_2, g_this_3, .ref h_costs, g_this_5, g_this_6, g_this_7, .ref h_from, g_this_9, g_this_10, g_this_11, g_this_12, g_this_13, g_this_14, g_this_15, .ref h_told, g_this_17, g_this_18, g_this_19, g_this_20, g_this_21, g_this_22, g_this_23, g_this_24, g_this_25, g_this_26, g_this_27, g_this_28, g_this_29, g_this_30])), (h_costs, .inl (cy, 2160, .inl a_costs)), (h_from, .inl (cy, 189, .inl a_from))]) (w1 := [(h_told, .inl (cy, 9, .inl a_told))]) hP hD [3] [0, 1, 2] rfl rfl (by decide) (by decide) hk1 hFc hP1 hD1
          replace hP := hP.sub (ws' := [(h_this, .inr (6, [g_this_0, g_this_1, g_this_2, g_this_3, .ref h_costs, g_this_5, g_this_6, g_this_7, .ref h_from, g_this_9, g_this_10, g_this_11, g_this_12, g_this_13, g_this_14, g_this_15, .ref h_told, g_this_17, g_this_18, g_this_19, g_this_20, g_this_21, g_this_22, g_this_23, g_this_24, g_this_25, g_this_26, g_this_27, g_this_28, g_this_29, g_this_30])), (h_costs, .inl (cy, 2160, .inl a_costs)), (h_from, .inl (cy, 189, .inl a_from)), (h_told, .inl (cy, 9, .inl a_told))]) [0, 1, 2, 3] rfl
          replace hD := hD.sub (ws' := [(h_this, .inr (6, [g_this_0, g_this_1, g_this_2, g_this_3, .ref h_costs, g_this_5, g_this_6, g_this_7, .ref h_from, g_this_9, g_this_10, g_this_11, g_this_12, g_this_13, g_this_14, g_this_15, .ref h_told, g_this_17, g_this_18, g_this_19, g_this_20, g_this_21, g_this_22, g_this_23, g_this_24, g_this_25, g_this_26, g_this_27, g_this_28, g_this_29, g_this_30])), (h_costs, .inl (cy, 2160, .inl a_costs)), (h_from, .inl (cy, 189, .inl a_from)), (h_told, .inl (cy, 9, .inl a_told))]) [0, 1, 2, 3] (by decide) rfl
          clear hPc hDc hFc hP1 hK1 hD1 hz1 hk1 hvm
          subst ht
          generalize t.heap = H at hP hS ⊢
          replace h := hw
          clear hw
          exact J31 x3 x4 r28 H locs ls h hP hD hS (lv_sub hl [0, 1, 2, 3, 4] rfl)
        · replace h := And.right h c14
          refine lv_iconst (v := 0) hx hb dX6_withSign_17 (by decide) ?_
          refine lv_goto (tgt := 31) hx hb dX6_withSign_18 (by decide) ?_
          exact J31 x3 x4 0 H locs ls h hP hD hS (lv_sub hl [0, 1, 2, 3, 4] rfl)
  generalize hlo : ([] : List Loc) = locs at hS ⊢
  obtain ⟨H, hH⟩ : ∃ z, z = s.heap := ⟨_, rfl⟩
  rw [show W p l e rm_X6_withSign s m args below meth c s.heap = W p l e rm_X6_withSign s m args below meth c H by rw [hH]]
  replace hP : va_P (dC, dI) vwCl [(h_this, .inr (6, [g_this_0, g_this_1, g_this_2, g_this_3, .ref h_costs, g_this_5, g_this_6, g_this_7, .ref h_from, g_this_9, g_this_10, g_this_11, g_this_12, g_this_13, g_this_14, g_this_15, .ref h_told, g_this_17, g_this_18, g_this_19, g_this_20, g_this_21, g_this_22, g_this_23, g_this_24, g_this_25, g_this_26, g_this_27, g_this_28, g_this_29, g_this_30])), (h_costs, .inl (cy, 2160, .inl a_costs)), (h_from, .inl (cy, 189, .inl a_from)), (h_told, .inl (cy, 9, .inl a_told))] H := by rw [hH]; exact hP
  replace hS : va_S A s.heap H locs := by rw [hH]; exact hS
  clear hH hlo
  refine lv_ldc (v := 100000000) hx hb hown k_82 dX6_withSign_0 ?_
  refine lv_istore_n (lv' := [(3, .int 100000000), (0, .ref h_this), (1, .int x1), (2, .int x2)]) hx hb dX6_withSign_2 rfl hl (by decide) rfl (fun ls hl => ?_)
  refine lv_iconst (v := 0) hx hb dX6_withSign_3 (by decide) ?_
  refine lv_istore (lv' := [(4, .int 0), (3, .int 100000000), (0, .ref h_this), (1, .int x1), (2, .int x2)]) hx hb dX6_withSign_4 hl (by decide) rfl (fun ls hl => ?_)
  obtain ⟨n6, h⟩ := h
  refine L6 x1 x2 _ n6 100000000 0 H locs ls h hP hD hS (lv_sub hl [2, 3, 4, 1, 0] rfl) (fun x3_81 x4_81 H locs ls h hP hD hS hl => ?_)
  refine lv_iload_n hx hb dX6_withSign_81 rfl (lv_at hl 0 rfl) ?_
  exact RET x3_81 H locs ls 82 dX6_withSign_82 h hP hD hS
