abbrev rm_X6_thrown : Room := { frames := 0, cells := 0, slots := 0, locals := 0 }
theorem q_X6_thrown : yX6_thrown.cls = RX6 ∧ yX6_thrown.cls ≠ "java/lang/invoke/MethodHandle" ∧ yX6_thrown.cls ≠ "java/lang/invoke/VarHandle" ∧ (parseMethodDescriptor yX6_thrown.desc).map (fun d => d.parameters.length) = some 0 := by decide +kernel
set_option maxHeartbeats 4000000 in
set_option maxRecDepth 100000 in
theorem c_X6_thrown (l : Launch) (dC : Nat → ClassId) (dI : Nat → Nat → Nat) (cy : ClassId) (h_this : Nat) (sz : Nat) (g_this_1 g_this_2 g_this_3 g_this_4 g_this_5 g_this_6 g_this_7 g_this_8 g_this_9 g_this_10 g_this_11 g_this_12 g_this_13 g_this_14 g_this_15 g_this_16 g_this_17 g_this_18 g_this_19 g_this_20 g_this_21 g_this_22 g_this_23 g_this_24 g_this_25 g_this_26 g_this_27 g_this_28 g_this_29 g_this_30 : Value) (f_thrown : Int32) (Q : Int32 → Prop) (h : p_X6_thrown f_thrown Q) : Met l yX6_thrown wsX6_thrown rm_X6_thrown (va_Pc [.ref h_this] (fun U => U.heap.size = sz ∧ va_P (dC, dI) vwCl [(h_this, .inr (6, [.int f_thrown, g_this_1, g_this_2, g_this_3, g_this_4, g_this_5, g_this_6, g_this_7, g_this_8, g_this_9, g_this_10, g_this_11, g_this_12, g_this_13, g_this_14, g_this_15, g_this_16, g_this_17, g_this_18, g_this_19, g_this_20, g_this_21, g_this_22, g_this_23, g_this_24, g_this_25, g_this_26, g_this_27, g_this_28, g_this_29, g_this_30]))] U.heap ∧ va_K (dC, dI) vwCl [(cy, .int)] U ∧ va_D (fun _ => True) [(h_this, .inr (6, [.int f_thrown, g_this_1, g_this_2, g_this_3, g_this_4, g_this_5, g_this_6, g_this_7, g_this_8, g_this_9, g_this_10, g_this_11, g_this_12, g_this_13, g_this_14, g_this_15, g_this_16, g_this_17, g_this_18, g_this_19, g_this_20, g_this_21, g_this_22, g_this_23, g_this_24, g_this_25, g_this_26, g_this_27, g_this_28, g_this_29, g_this_30]))])) (va_Qi (fun (r : Int32) (u : Unit) => Q r) (fun (u : Unit) (t : State) => va_P (dC, dI) vwCl [(h_this, .inr (6, [.int f_thrown, g_this_1, g_this_2, g_this_3, g_this_4, g_this_5, g_this_6, g_this_7, g_this_8, g_this_9, g_this_10, g_this_11, g_this_12, g_this_13, g_this_14, g_this_15, g_this_16, g_this_17, g_this_18, g_this_19, g_this_20, g_this_21, g_this_22, g_this_23, g_this_24, g_this_25, g_this_26, g_this_27, g_this_28, g_this_29, g_this_30]))] t.heap ∧ va_K (dC, dI) vwCl [(cy, .int)] t ∧ va_D (va_A [(h_this, .inr (6, [.int f_thrown, g_this_1, g_this_2, g_this_3, g_this_4, g_this_5, g_this_6, g_this_7, g_this_8, g_this_9, g_this_10, g_this_11, g_this_12, g_this_13, g_this_14, g_this_15, g_this_16, g_this_17, g_this_18, g_this_19, g_this_20, g_this_21, g_this_22, g_this_23, g_this_24, g_this_25, g_this_26, g_this_27, g_this_28, g_this_29, g_this_30]))] sz) [(h_this, .inr (6, [.int f_thrown, g_this_1, g_this_2, g_this_3, g_this_4, g_this_5, g_this_6, g_this_7, g_this_8, g_this_9, g_this_10, g_this_11, g_this_12, g_this_13, g_this_14, g_this_15, g_this_16, g_this_17, g_this_18, g_this_19, g_this_20, g_this_21, g_this_22, g_this_23, g_this_24, g_this_25, g_this_26, g_this_27, g_this_28, g_this_29, g_this_30]))]) (va_A [(h_this, .inr (6, [.int f_thrown, g_this_1, g_this_2, g_this_3, g_this_4, g_this_5, g_this_6, g_this_7, g_this_8, g_this_9, g_this_10, g_this_11, g_this_12, g_this_13, g_this_14, g_this_15, g_this_16, g_this_17, g_this_18, g_this_19, g_this_20, g_this_21, g_this_22, g_this_23, g_this_24, g_this_25, g_this_26, g_this_27, g_this_28, g_this_29, g_this_30]))] sz)) 0 0 (va_A [(h_this, .inr (6, [.int f_thrown, g_this_1, g_this_2, g_this_3, g_this_4, g_this_5, g_this_6, g_this_7, g_this_8, g_this_9, g_this_10, g_this_11, g_this_12, g_this_13, g_this_14, g_this_15, g_this_16, g_this_17, g_this_18, g_this_19, g_this_20, g_this_21, g_this_22, g_this_23, g_this_24, g_this_25, g_this_26, g_this_27, g_this_28, g_this_29, g_this_30]))] sz) := by
  refine Met.ofW (cc := cX6_thrown) (maxL := 1) (ret := (some .int)) (by decide) rfl ?_
  intro p e s m args below meth c s₁ B hml hv
  obtain ⟨hargs, hsz, hP, hK, hD0⟩ := hv
  have hx := B.exec
  have hb := B.bytes
  have hr := B.returns
  have hts := atoms_spec (ws := wsX6_thrown) B.pre
  have hown : s.vm.findClass RX6 = some m.cls := findClass_of_methodNamed B.named
  have hlocks := B.notSynchronized
  subst hsz
  have hD := hD0.self (sz := s.heap.size)
  generalize hAe : va_A [(h_this, .inr (6, [.int f_thrown, g_this_1, g_this_2, g_this_3, g_this_4, g_this_5, g_this_6, g_this_7, g_this_8, g_this_9, g_this_10, g_this_11, g_this_12, g_this_13, g_this_14, g_this_15, g_this_16, g_this_17, g_this_18, g_this_19, g_this_20, g_this_21, g_this_22, g_this_23, g_this_24, g_this_25, g_this_26, g_this_27, g_this_28, g_this_29, g_this_30]))] s.heap.size = A at hD ⊢
  have hA : ∀ q : Nat, s.heap.size ≤ q → A q := fun q h => by rw [← hAe]; exact Or.inr h
  have hS : va_S A s.heap s.heap [] := va_S.rf
  have in_X6 : ∀ w ∈ u_ws RX6 TX6 31, w ∈ wsX6_thrown := by decide +kernel
  have k_58 := hts (.fieldLink RX6 58 "ChequeDeskModel" "thrown" "I") (by decide +kernel)
  have hl := lv_entry ([.ref h_this]) (n := 1) (Nat.le_of_ble_eq_true rfl)
  rw [show entryFrame m args 1 = entryFrame m ([.ref h_this] : List Value).toArray 1 by rw [hargs], lg_entry_eq]
  generalize (lg_sl ([.ref h_this]) ++ List.replicate (1 - (lg_sl ([.ref h_this])).length) Slot.unset).toArray = ls at hl ⊢
  have hl : lv_has ls 1 [(0, .ref h_this)] := hl
  have hP : va_P (dC, dI) vwCl [(h_this, .inr (6, [.int f_thrown, g_this_1, g_this_2, g_this_3, g_this_4, g_this_5, g_this_6, g_this_7, g_this_8, g_this_9, g_this_10, g_this_11, g_this_12, g_this_13, g_this_14, g_this_15, g_this_16, g_this_17, g_this_18, g_this_19, g_this_20, g_this_21, g_this_22, g_this_23, g_this_24, g_this_25, g_this_26, g_this_27, g_this_28, g_this_29, g_this_30]))] s.heap := hP
  change W p l e rm_X6_thrown s m args below meth c s.heap [] 0 0 _ _
  generalize hQQ : MQ below _ _ _ _ _ _ = QQ
  have RET : ∀ (r : Int32) (H : Heap) (locs : List Loc) (ls : Array Slot) (pc : Nat), decode cX6_thrown pc = .ok (.ireturn, 1) → Q r → va_P (dC, dI) vwCl [(h_this, .inr (6, [.int f_thrown, g_this_1, g_this_2, g_this_3, g_this_4, g_this_5, g_this_6, g_this_7, g_this_8, g_this_9, g_this_10, g_this_11, g_this_12, g_this_13, g_this_14, g_this_15, g_this_16, g_this_17, g_this_18, g_this_19, g_this_20, g_this_21, g_this_22, g_this_23, g_this_24, g_this_25, g_this_26, g_this_27, g_this_28, g_this_29, g_this_30]))] H → va_D A [(h_this, .inr (6, [.int f_thrown, g_this_1, g_this_2, g_this_3, g_this_4, g_this_5, g_this_6, g_this_7, g_this_8, g_this_9, g_this_10, g_this_11, g_this_12, g_this_13, g_this_14, g_this_15, g_this_16, g_this_17, g_this_18, g_this_19, g_this_20, g_this_21, g_this_22, g_this_23, g_this_24, g_this_25, g_this_26, g_this_27, g_this_28, g_this_29, g_this_30]))] → va_S A s.heap H locs → W p l e rm_X6_thrown s m args below meth c H locs 0 0 QQ (F0 m pc ls [.int r]) := by
    intro r  H locs ls pc hdg hq hP hD hS
    rw [← hQQ]
    exact W.iret (v := r) hx hb hr (fun t ht hW => ⟨⟨r, (), rfl, hq, by rw [ht]; exact hP, va_K.moved hW.alike hK, hD⟩, hS.F ht⟩) hS.2.2 hdg
  clear hQQ
  unfold p_X6_thrown at h
  generalize hlo : ([] : List Loc) = locs at hS ⊢
  obtain ⟨H, hH⟩ : ∃ z, z = s.heap := ⟨_, rfl⟩
  rw [show W p l e rm_X6_thrown s m args below meth c s.heap = W p l e rm_X6_thrown s m args below meth c H by rw [hH]]
  replace hP : va_P (dC, dI) vwCl [(h_this, .inr (6, [.int f_thrown, g_this_1, g_this_2, g_this_3, g_this_4, g_this_5, g_this_6, g_this_7, g_this_8, g_this_9, g_this_10, g_this_11, g_this_12, g_this_13, g_this_14, g_this_15, g_this_16, g_this_17, g_this_18, g_this_19, g_this_20, g_this_21, g_this_22, g_this_23, g_this_24, g_this_25, g_this_26, g_this_27, g_this_28, g_this_29, g_this_30]))] H := by rw [hH]; exact hP
  replace hS : va_S A s.heap H locs := by rw [hH]; exact hS
  clear hH hlo
  refine lv_aload_n hx hb dX6_thrown_0 rfl (lv_at hl 0 rfl) ?_
  refine va_get (D := (dC, dI)) (ci := 6) (v := .int f_thrown) (C := RX6) (T := TX6) (N := 31) hx hb hts in_X6 hown hK hP 0 rfl rfl 0 (by decide) k_58 (fun _ h9 => h9) rfl dX6_thrown_1 ?_
  exact RET f_thrown H locs ls 4 dX6_thrown_4 h hP hD hS
abbrev rm_X6_bad : Room := { frames := 0, cells := 0, slots := 0, locals := 0 }
theorem q_X6_bad : yX6_bad.cls = RX6 ∧ yX6_bad.cls ≠ "java/lang/invoke/MethodHandle" ∧ yX6_bad.cls ≠ "java/lang/invoke/VarHandle" ∧ (parseMethodDescriptor yX6_bad.desc).map (fun d => d.parameters.length) = some 2 := by decide +kernel
set_option maxHeartbeats 4000000 in
set_option maxRecDepth 100000 in
theorem c_X6_bad (l : Launch) (dC : Nat → ClassId) (dI : Nat → Nat → Nat) (cy : ClassId) (h_this : Nat) (sz : Nat) (g_this_1 g_this_2 g_this_3 g_this_4 g_this_5 g_this_6 g_this_7 g_this_8 g_this_9 g_this_10 g_this_11 g_this_12 g_this_13 g_this_14 g_this_15 g_this_16 g_this_17 g_this_18 g_this_19 g_this_20 g_this_21 g_this_22 g_this_23 g_this_24 g_this_25 g_this_26 g_this_27 g_this_28 g_this_29 g_this_30 : Value) (f_thrown : Int32) (x1 : Int32) (x2 : Int32) (Q : Int32 → Int32 → Prop) (h : p_X6_bad f_thrown x1 x2 Q) : Met l yX6_bad wsX6_bad rm_X6_bad (va_Pc [.ref h_this, .int x1, .int x2] (fun U => U.heap.size = sz ∧ va_P (dC, dI) vwCl [(h_this, .inr (6, [.int f_thrown, g_this_1, g_this_2, g_this_3, g_this_4, g_this_5, g_this_6, g_this_7, g_this_8, g_this_9, g_this_10, g_this_11, g_this_12, g_this_13, g_this_14, g_this_15, g_this_16, g_this_17, g_this_18, g_this_19, g_this_20, g_this_21, g_this_22, g_this_23, g_this_24, g_this_25, g_this_26, g_this_27, g_this_28, g_this_29, g_this_30]))] U.heap ∧ va_K (dC, dI) vwCl [(cy, .int)] U ∧ va_D (fun _ => True) [(h_this, .inr (6, [.int f_thrown, g_this_1, g_this_2, g_this_3, g_this_4, g_this_5, g_this_6, g_this_7, g_this_8, g_this_9, g_this_10, g_this_11, g_this_12, g_this_13, g_this_14, g_this_15, g_this_16, g_this_17, g_this_18, g_this_19, g_this_20, g_this_21, g_this_22, g_this_23, g_this_24, g_this_25, g_this_26, g_this_27, g_this_28, g_this_29, g_this_30]))])) (va_Qi (fun (r : Int32) (u : Int32) => Q r u) (fun (u : Int32) (t : State) => va_P (dC, dI) vwCl [(h_this, .inr (6, [.int u, g_this_1, g_this_2, g_this_3, g_this_4, g_this_5, g_this_6, g_this_7, g_this_8, g_this_9, g_this_10, g_this_11, g_this_12, g_this_13, g_this_14, g_this_15, g_this_16, g_this_17, g_this_18, g_this_19, g_this_20, g_this_21, g_this_22, g_this_23, g_this_24, g_this_25, g_this_26, g_this_27, g_this_28, g_this_29, g_this_30]))] t.heap ∧ va_K (dC, dI) vwCl [(cy, .int)] t ∧ va_D (va_A [(h_this, .inr (6, [.int f_thrown, g_this_1, g_this_2, g_this_3, g_this_4, g_this_5, g_this_6, g_this_7, g_this_8, g_this_9, g_this_10, g_this_11, g_this_12, g_this_13, g_this_14, g_this_15, g_this_16, g_this_17, g_this_18, g_this_19, g_this_20, g_this_21, g_this_22, g_this_23, g_this_24, g_this_25, g_this_26, g_this_27, g_this_28, g_this_29, g_this_30]))] sz) [(h_this, .inr (6, [.int u, g_this_1, g_this_2, g_this_3, g_this_4, g_this_5, g_this_6, g_this_7, g_this_8, g_this_9, g_this_10, g_this_11, g_this_12, g_this_13, g_this_14, g_this_15, g_this_16, g_this_17, g_this_18, g_this_19, g_this_20, g_this_21, g_this_22, g_this_23, g_this_24, g_this_25, g_this_26, g_this_27, g_this_28, g_this_29, g_this_30]))]) (va_A [(h_this, .inr (6, [.int f_thrown, g_this_1, g_this_2, g_this_3, g_this_4, g_this_5, g_this_6, g_this_7, g_this_8, g_this_9, g_this_10, g_this_11, g_this_12, g_this_13, g_this_14, g_this_15, g_this_16, g_this_17, g_this_18, g_this_19, g_this_20, g_this_21, g_this_22, g_this_23, g_this_24, g_this_25, g_this_26, g_this_27, g_this_28, g_this_29, g_this_30]))] sz)) 0 0 (va_A [(h_this, .inr (6, [.int f_thrown, g_this_1, g_this_2, g_this_3, g_this_4, g_this_5, g_this_6, g_this_7, g_this_8, g_this_9, g_this_10, g_this_11, g_this_12, g_this_13, g_this_14, g_this_15, g_this_16, g_this_17, g_this_18, g_this_19, g_this_20, g_this_21, g_this_22, g_this_23, g_this_24, g_this_25, g_this_26, g_this_27, g_this_28, g_this_29, g_this_30]))] sz) := by
  refine Met.ofW (cc := cX6_bad) (maxL := 3) (ret := (some .boolean)) (by decide) rfl ?_
  intro p e s m args below meth c s₁ B hml hv
  obtain ⟨hargs, hsz, hP, hK, hD0⟩ := hv
  have hx := B.exec
  have hb := B.bytes
  have hr := B.returns
  have hts := atoms_spec (ws := wsX6_bad) B.pre
  have hown : s.vm.findClass RX6 = some m.cls := findClass_of_methodNamed B.named
  have hlocks := B.notSynchronized
  subst hsz
  have hD := hD0.self (sz := s.heap.size)
  generalize hAe : va_A [(h_this, .inr (6, [.int f_thrown, g_this_1, g_this_2, g_this_3, g_this_4, g_this_5, g_this_6, g_this_7, g_this_8, g_this_9, g_this_10, g_this_11, g_this_12, g_this_13, g_this_14, g_this_15, g_this_16, g_this_17, g_this_18, g_this_19, g_this_20, g_this_21, g_this_22, g_this_23, g_this_24, g_this_25, g_this_26, g_this_27, g_this_28, g_this_29, g_this_30]))] s.heap.size = A at hD ⊢
  have hA : ∀ q : Nat, s.heap.size ≤ q → A q := fun q h => by rw [← hAe]; exact Or.inr h
  have hS : va_S A s.heap s.heap [] := va_S.rf
  have in_X6 : ∀ w ∈ u_ws RX6 TX6 31, w ∈ wsX6_bad := by decide +kernel
  have k_58 := hts (.fieldLink RX6 58 "ChequeDeskModel" "thrown" "I") (by decide +kernel)
  have hl := lv_entry ([.ref h_this, .int x1, .int x2]) (n := 3) (Nat.le_of_ble_eq_true rfl)
  rw [show entryFrame m args 3 = entryFrame m ([.ref h_this, .int x1, .int x2] : List Value).toArray 3 by rw [hargs], lg_entry_eq]
  generalize (lg_sl ([.ref h_this, .int x1, .int x2]) ++ List.replicate (3 - (lg_sl ([.ref h_this, .int x1, .int x2])).length) Slot.unset).toArray = ls at hl ⊢
  have hl : lv_has ls 3 [(0, .ref h_this), (1, .int x1), (2, .int x2)] := hl
  have hP : va_P (dC, dI) vwCl [(h_this, .inr (6, [.int f_thrown, g_this_1, g_this_2, g_this_3, g_this_4, g_this_5, g_this_6, g_this_7, g_this_8, g_this_9, g_this_10, g_this_11, g_this_12, g_this_13, g_this_14, g_this_15, g_this_16, g_this_17, g_this_18, g_this_19, g_this_20, g_this_21, g_this_22, g_this_23, g_this_24, g_this_25, g_this_26, g_this_27, g_this_28, g_this_29, g_this_30]))] s.heap := hP
  change W p l e rm_X6_bad s m args below meth c s.heap [] 0 0 _ _
  generalize hQQ : MQ below _ _ _ _ _ _ = QQ
  have RET : ∀ (r : Int32) (f_thrown : Int32) (H : Heap) (locs : List Loc) (ls : Array Slot) (pc : Nat), decode cX6_bad pc = .ok (.ireturn, 1) → narrow .boolean (.int r) = .int r → Q r f_thrown → va_P (dC, dI) vwCl [(h_this, .inr (6, [.int f_thrown, g_this_1, g_this_2, g_this_3, g_this_4, g_this_5, g_this_6, g_this_7, g_this_8, g_this_9, g_this_10, g_this_11, g_this_12, g_this_13, g_this_14, g_this_15, g_this_16, g_this_17, g_this_18, g_this_19, g_this_20, g_this_21, g_this_22, g_this_23, g_this_24, g_this_25, g_this_26, g_this_27, g_this_28, g_this_29, g_this_30]))] H → va_D A [(h_this, .inr (6, [.int f_thrown, g_this_1, g_this_2, g_this_3, g_this_4, g_this_5, g_this_6, g_this_7, g_this_8, g_this_9, g_this_10, g_this_11, g_this_12, g_this_13, g_this_14, g_this_15, g_this_16, g_this_17, g_this_18, g_this_19, g_this_20, g_this_21, g_this_22, g_this_23, g_this_24, g_this_25, g_this_26, g_this_27, g_this_28, g_this_29, g_this_30]))] → va_S A s.heap H locs → W p l e rm_X6_bad s m args below meth c H locs 0 0 QQ (F0 m pc ls [.int r]) := by
    intro r f_thrown H locs ls pc hdg hz hq hP hD hS
    rw [← hQQ]
    exact W.zret (v := r) hx hb hr hz (fun t ht hW => ⟨⟨r, f_thrown, rfl, hq, by rw [ht]; exact hP, va_K.moved hW.alike hK, hD⟩, hS.F ht⟩) hS.2.2 hdg
  clear hQQ
  unfold p_X6_bad at h
  have J9 : ∀ (x1 : Int32) (f_thrown : Int32) (H : Heap) (locs : List Loc) (ls : Array Slot), p_X6_bad_J9 f_thrown Q x1 → va_P (dC, dI) vwCl [(h_this, .inr (6, [.int f_thrown, g_this_1, g_this_2, g_this_3, g_this_4, g_this_5, g_this_6, g_this_7, g_this_8, g_this_9, g_this_10, g_this_11, g_this_12, g_this_13, g_this_14, g_this_15, g_this_16, g_this_17, g_this_18, g_this_19, g_this_20, g_this_21, g_this_22, g_this_23, g_this_24, g_this_25, g_this_26, g_this_27, g_this_28, g_this_29, g_this_30]))] H → va_D A [(h_this, .inr (6, [.int f_thrown, g_this_1, g_this_2, g_this_3, g_this_4, g_this_5, g_this_6, g_this_7, g_this_8, g_this_9, g_this_10, g_this_11, g_this_12, g_this_13, g_this_14, g_this_15, g_this_16, g_this_17, g_this_18, g_this_19, g_this_20, g_this_21, g_this_22, g_this_23, g_this_24, g_this_25, g_this_26, g_this_27, g_this_28, g_this_29, g_this_30]))] → va_S A s.heap H locs → lv_has ls 3 [(1, .int x1)] → W p l e rm_X6_bad s m args below meth c H locs 0 0 QQ (F0 m 9 ls []) := by
    intro x1 f_thrown H locs ls h hP hD hS hl
    unfold p_X6_bad_J9 at h
    refine lv_iload_n hx hb dX6_bad_9 rfl (lv_at hl 0 rfl) ?_
    obtain ⟨zr10, h⟩ := h
    exact RET x1 f_thrown H locs ls 10 dX6_bad_10 zr10 h hP hD hS
  generalize hlo : ([] : List Loc) = locs at hS ⊢
  obtain ⟨H, hH⟩ : ∃ z, z = s.heap := ⟨_, rfl⟩
  rw [show W p l e rm_X6_bad s m args below meth c s.heap = W p l e rm_X6_bad s m args below meth c H by rw [hH]]
  replace hP : va_P (dC, dI) vwCl [(h_this, .inr (6, [.int f_thrown, g_this_1, g_this_2, g_this_3, g_this_4, g_this_5, g_this_6, g_this_7, g_this_8, g_this_9, g_this_10, g_this_11, g_this_12, g_this_13, g_this_14, g_this_15, g_this_16, g_this_17, g_this_18, g_this_19, g_this_20, g_this_21, g_this_22, g_this_23, g_this_24, g_this_25, g_this_26, g_this_27, g_this_28, g_this_29, g_this_30]))] H := by rw [hH]; exact hP
  replace hS : va_S A s.heap H locs := by rw [hH]; exact hS
  clear hH hlo
  refine lv_iload_n hx hb dX6_bad_0 rfl (lv_at hl 1 rfl) ?_
  refine lv_if_eq (tgt := 9) hx hb dX6_bad_1 (by decide) (fun c1 => ?_) (fun c1 => ?_)
  · replace h := And.left h c1
    exact J9 x1 f_thrown H locs ls h hP hD hS (lv_sub hl [1] rfl)
  · replace h := And.right h c1
    refine lv_aload_n hx hb dX6_bad_4 rfl (lv_at hl 0 rfl) ?_
    refine lv_iload_n hx hb dX6_bad_5 rfl (lv_at hl 2 rfl) ?_
    refine va_put (D := (dC, dI)) (ci := 6) (v := .int x2) (ty := .int) (C := RX6) (T := TX6) (N := 31) hx hb hts in_X6 tyX6 tyX6_ok nmX6 hown hK hP hD hS 0 rfl rfl 0 (by decide) k_58 (fun _ h9 => h9) rfl (by decide +kernel) rfl rfl (Nat.le_of_ble_eq_true rfl) dX6_bad_6 (fun H locs hP hD hS => ?_)
    have hP : va_P (dC, dI) vwCl [(h_this, .inr (6, [.int x2, g_this_1, g_this_2, g_this_3, g_this_4, g_this_5, g_this_6, g_this_7, g_this_8, g_this_9, g_this_10, g_this_11, g_this_12, g_this_13, g_this_14, g_this_15, g_this_16, g_this_17, g_this_18, g_this_19, g_this_20, g_this_21, g_this_22, g_this_23, g_this_24, g_this_25, g_this_26, g_this_27, g_this_28, g_this_29, g_this_30]))] H := hP
    have hD : va_D A [(h_this, .inr (6, [.int x2, g_this_1, g_this_2, g_this_3, g_this_4, g_this_5, g_this_6, g_this_7, g_this_8, g_this_9, g_this_10, g_this_11, g_this_12, g_this_13, g_this_14, g_this_15, g_this_16, g_this_17, g_this_18, g_this_19, g_this_20, g_this_21, g_this_22, g_this_23, g_this_24, g_this_25, g_this_26, g_this_27, g_this_28, g_this_29, g_this_30]))] := hD
    exact J9 x1 x2 H locs ls h hP hD hS (lv_sub hl [1] rfl)
abbrev rm_X6_teach : Room := { frames := 1, cells := 0, slots := 0, locals := 22 }
theorem q_X6_teach : yX6_teach.cls = RX6 ∧ yX6_teach.cls ≠ "java/lang/invoke/MethodHandle" ∧ yX6_teach.cls ≠ "java/lang/invoke/VarHandle" ∧ (parseMethodDescriptor yX6_teach.desc).map (fun d => d.parameters.length) = some 2 := by decide +kernel
set_option maxHeartbeats 4000000 in
set_option maxRecDepth 100000 in
theorem c_X6_teach (l : Launch) (dC : Nat → ClassId) (dI : Nat → Nat → Nat) (cy : ClassId) (h_this : Nat) (h_taught : Nat) (sz : Nat) (g_this_2 g_this_3 g_this_4 g_this_5 g_this_6 g_this_7 g_this_8 g_this_9 g_this_10 g_this_11 g_this_12 g_this_13 g_this_14 g_this_15 g_this_16 g_this_17 g_this_18 g_this_19 g_this_20 g_this_21 g_this_22 g_this_23 g_this_24 g_this_25 g_this_26 g_this_27 g_this_28 g_this_29 g_this_30 : Value) (f_thrown : Int32) (a_taught : Nat → Int32) (x1 : Int32) (x2 : Int32) (Q : Int32 → Int32 → (Nat → Int32) → Prop) (h : p_X6_teach f_thrown a_taught x1 x2 Q) : Met l yX6_teach wsX6_teach rm_X6_teach (va_Pc [.ref h_this, .int x1, .int x2] (fun U => U.heap.size = sz ∧ va_P (dC, dI) vwCl [(h_this, .inr (6, [.int f_thrown, .ref h_taught, g_this_2, g_this_3, g_this_4, g_this_5, g_this_6, g_this_7, g_this_8, g_this_9, g_this_10, g_this_11, g_this_12, g_this_13, g_this_14, g_this_15, g_this_16, g_this_17, g_this_18, g_this_19, g_this_20, g_this_21, g_this_22, g_this_23, g_this_24, g_this_25, g_this_26, g_this_27, g_this_28, g_this_29, g_this_30])), (h_taught, .inl (cy, 12, .inl a_taught))] U.heap ∧ va_K (dC, dI) vwCl [(cy, .int)] U ∧ va_D (fun _ => True) [(h_this, .inr (6, [.int f_thrown, .ref h_taught, g_this_2, g_this_3, g_this_4, g_this_5, g_this_6, g_this_7, g_this_8, g_this_9, g_this_10, g_this_11, g_this_12, g_this_13, g_this_14, g_this_15, g_this_16, g_this_17, g_this_18, g_this_19, g_this_20, g_this_21, g_this_22, g_this_23, g_this_24, g_this_25, g_this_26, g_this_27, g_this_28, g_this_29, g_this_30])), (h_taught, .inl (cy, 12, .inl a_taught))])) (va_Qi (fun (r : Int32) (u : Int32 × (Nat → Int32)) => Q r u.1 u.2) (fun (u : Int32 × (Nat → Int32)) (t : State) => va_P (dC, dI) vwCl [(h_this, .inr (6, [.int (u.1), .ref h_taught, g_this_2, g_this_3, g_this_4, g_this_5, g_this_6, g_this_7, g_this_8, g_this_9, g_this_10, g_this_11, g_this_12, g_this_13, g_this_14, g_this_15, g_this_16, g_this_17, g_this_18, g_this_19, g_this_20, g_this_21, g_this_22, g_this_23, g_this_24, g_this_25, g_this_26, g_this_27, g_this_28, g_this_29, g_this_30])), (h_taught, .inl (cy, 12, .inl (u.2)))] t.heap ∧ va_K (dC, dI) vwCl [(cy, .int)] t ∧ va_D (va_A [(h_this, .inr (6, [.int f_thrown, .ref h_taught, g_this_2, g_this_3, g_this_4, g_this_5, g_this_6, g_this_7, g_this_8, g_this_9, g_this_10, g_this_11, g_this_12, g_this_13, g_this_14, g_this_15, g_this_16, g_this_17, g_this_18, g_this_19, g_this_20, g_this_21, g_this_22, g_this_23, g_this_24, g_this_25, g_this_26, g_this_27, g_this_28, g_this_29, g_this_30])), (h_taught, .inl (cy, 12, .inl a_taught))] sz) [(h_this, .inr (6, [.int (u.1), .ref h_taught, g_this_2, g_this_3, g_this_4, g_this_5, g_this_6, g_this_7, g_this_8, g_this_9, g_this_10, g_this_11, g_this_12, g_this_13, g_this_14, g_this_15, g_this_16, g_this_17, g_this_18, g_this_19, g_this_20, g_this_21, g_this_22, g_this_23, g_this_24, g_this_25, g_this_26, g_this_27, g_this_28, g_this_29, g_this_30])), (h_taught, .inl (cy, 12, .inl (u.2)))]) (va_A [(h_this, .inr (6, [.int f_thrown, .ref h_taught, g_this_2, g_this_3, g_this_4, g_this_5, g_this_6, g_this_7, g_this_8, g_this_9, g_this_10, g_this_11, g_this_12, g_this_13, g_this_14, g_this_15, g_this_16, g_this_17, g_this_18, g_this_19, g_this_20, g_this_21, g_this_22, g_this_23, g_this_24, g_this_25, g_this_26, g_this_27, g_this_28, g_this_29, g_this_30])), (h_taught, .inl (cy, 12, .inl a_taught))] sz)) 0 0 (va_A [(h_this, .inr (6, [.int f_thrown, .ref h_taught, g_this_2, g_this_3, g_this_4, g_this_5, g_this_6, g_this_7, g_this_8, g_this_9, g_this_10, g_this_11, g_this_12, g_this_13, g_this_14, g_this_15, g_this_16, g_this_17, g_this_18, g_this_19, g_this_20, g_this_21, g_this_22, g_this_23, g_this_24, g_this_25, g_this_26, g_this_27, g_this_28, g_this_29, g_this_30])), (h_taught, .inl (cy, 12, .inl a_taught))] sz) := by
  refine Met.ofW (cc := cX6_teach) (maxL := 6) (ret := (some .int)) (by decide) rfl ?_
  intro p e s m args below meth c s₁ B hml hv
  obtain ⟨hargs, hsz, hP, hK, hD0⟩ := hv
  have hx := B.exec
  have hb := B.bytes
  have hr := B.returns
  have hts := atoms_spec (ws := wsX6_teach) B.pre
  have hown : s.vm.findClass RX6 = some m.cls := findClass_of_methodNamed B.named
  have hlocks := B.notSynchronized
  subst hsz
  have hD := hD0.self (sz := s.heap.size)
  generalize hAe : va_A [(h_this, .inr (6, [.int f_thrown, .ref h_taught, g_this_2, g_this_3, g_this_4, g_this_5, g_this_6, g_this_7, g_this_8, g_this_9, g_this_10, g_this_11, g_this_12, g_this_13, g_this_14, g_this_15, g_this_16, g_this_17, g_this_18, g_this_19, g_this_20, g_this_21, g_this_22, g_this_23, g_this_24, g_this_25, g_this_26, g_this_27, g_this_28, g_this_29, g_this_30])), (h_taught, .inl (cy, 12, .inl a_taught))] s.heap.size = A at hD ⊢
  have hA : ∀ q : Nat, s.heap.size ≤ q → A q := fun q h => by rw [← hAe]; exact Or.inr h
  have hS : va_S A s.heap s.heap [] := va_S.rf
  have in_X6 : ∀ w ∈ u_ws RX6 TX6 31, w ∈ wsX6_teach := by decide +kernel
  have k_9 := hts (.fieldLink RX6 9 "ChequeDeskModel" "taught" "[I") (by decide +kernel)
  have k_58 := hts (.fieldLink RX6 58 "ChequeDeskModel" "thrown" "I") (by decide +kernel)
  have k_62 := hts (.constant RX6 62 111111) (by decide +kernel)
  have k_63 := hts (.constant RX6 63 333333) (by decide +kernel)
  have hl := lv_entry ([.ref h_this, .int x1, .int x2]) (n := 6) (Nat.le_of_ble_eq_true rfl)
  rw [show entryFrame m args 6 = entryFrame m ([.ref h_this, .int x1, .int x2] : List Value).toArray 6 by rw [hargs], lg_entry_eq]
  generalize (lg_sl ([.ref h_this, .int x1, .int x2]) ++ List.replicate (6 - (lg_sl ([.ref h_this, .int x1, .int x2])).length) Slot.unset).toArray = ls at hl ⊢
  have hl : lv_has ls 6 [(0, .ref h_this), (1, .int x1), (2, .int x2)] := hl
  have hP : va_P (dC, dI) vwCl [(h_this, .inr (6, [.int f_thrown, .ref h_taught, g_this_2, g_this_3, g_this_4, g_this_5, g_this_6, g_this_7, g_this_8, g_this_9, g_this_10, g_this_11, g_this_12, g_this_13, g_this_14, g_this_15, g_this_16, g_this_17, g_this_18, g_this_19, g_this_20, g_this_21, g_this_22, g_this_23, g_this_24, g_this_25, g_this_26, g_this_27, g_this_28, g_this_29, g_this_30])), (h_taught, .inl (cy, 12, .inl a_taught))] s.heap := hP
  change W p l e rm_X6_teach s m args below meth c s.heap [] 0 0 _ _
  generalize hQQ : MQ below _ _ _ _ _ _ = QQ
  have RET : ∀ (r : Int32) (f_thrown : Int32) (a_taught : Nat → Int32) (H : Heap) (locs : List Loc) (ls : Array Slot) (pc : Nat), decode cX6_teach pc = .ok (.ireturn, 1) → Q r f_thrown a_taught → va_P (dC, dI) vwCl [(h_this, .inr (6, [.int f_thrown, .ref h_taught, g_this_2, g_this_3, g_this_4, g_this_5, g_this_6, g_this_7, g_this_8, g_this_9, g_this_10, g_this_11, g_this_12, g_this_13, g_this_14, g_this_15, g_this_16, g_this_17, g_this_18, g_this_19, g_this_20, g_this_21, g_this_22, g_this_23, g_this_24, g_this_25, g_this_26, g_this_27, g_this_28, g_this_29, g_this_30])), (h_taught, .inl (cy, 12, .inl a_taught))] H → va_D A [(h_this, .inr (6, [.int f_thrown, .ref h_taught, g_this_2, g_this_3, g_this_4, g_this_5, g_this_6, g_this_7, g_this_8, g_this_9, g_this_10, g_this_11, g_this_12, g_this_13, g_this_14, g_this_15, g_this_16, g_this_17, g_this_18, g_this_19, g_this_20, g_this_21, g_this_22, g_this_23, g_this_24, g_this_25, g_this_26, g_this_27, g_this_28, g_this_29, g_this_30])), (h_taught, .inl (cy, 12, .inl a_taught))] → va_S A s.heap H locs → W p l e rm_X6_teach s m args below meth c H locs 0 0 QQ (F0 m pc ls [.int r]) := by
    intro r f_thrown a_taught H locs ls pc hdg hq hP hD hS
    rw [← hQQ]
    exact W.iret (v := r) hx hb hr (fun t ht hW => ⟨⟨r, (f_thrown, a_taught), rfl, hq, by rw [ht]; exact hP, va_K.moved hW.alike hK, hD⟩, hS.F ht⟩) hS.2.2 hdg
  clear hQQ
  unfold p_X6_teach at h
  have J113 : ∀ (x1 : Int32) (x2 : Int32) (s0 : Int32) (f_thrown : Int32) (a_taught : Nat → Int32) (H : Heap) (locs : List Loc) (ls : Array Slot), p_X6_teach_J113 f_thrown a_taught Q x1 x2 s0 → va_P (dC, dI) vwCl [(h_this, .inr (6, [.int f_thrown, .ref h_taught, g_this_2, g_this_3, g_this_4, g_this_5, g_this_6, g_this_7, g_this_8, g_this_9, g_this_10, g_this_11, g_this_12, g_this_13, g_this_14, g_this_15, g_this_16, g_this_17, g_this_18, g_this_19, g_this_20, g_this_21, g_this_22, g_this_23, g_this_24, g_this_25, g_this_26, g_this_27, g_this_28, g_this_29, g_this_30])), (h_taught, .inl (cy, 12, .inl a_taught))] H → va_D A [(h_this, .inr (6, [.int f_thrown, .ref h_taught, g_this_2, g_this_3, g_this_4, g_this_5, g_this_6, g_this_7, g_this_8, g_this_9, g_this_10, g_this_11, g_this_12, g_this_13, g_this_14, g_this_15, g_this_16, g_this_17, g_this_18, g_this_19, g_this_20, g_this_21, g_this_22, g_this_23, g_this_24, g_this_25, g_this_26, g_this_27, g_this_28, g_this_29, g_this_30])), (h_taught, .inl (cy, 12, .inl a_taught))] → va_S A s.heap H locs → lv_has ls 6 [(0, .ref h_this), (1, .int x1), (2, .int x2)] → W p l e rm_X6_teach s m args below meth c H locs 0 0 QQ (F0 m 113 ls [.int s0]) := by
    intro x1 x2 s0 f_thrown a_taught H locs ls h hP hD hS hl
    unfold p_X6_teach_J113 at h
    refine lv_istore (lv' := [(4, .int s0), (0, .ref h_this), (1, .int x1), (2, .int x2)]) hx hb dX6_teach_113 hl (by decide) rfl (fun ls hl => ?_)
    refine lv_aload_n hx hb dX6_teach_115 rfl (lv_at hl 1 rfl) ?_
    refine va_get (D := (dC, dI)) (ci := 6) (v := .ref h_taught) (C := RX6) (T := TX6) (N := 31) hx hb hts in_X6 hown hK hP 0 rfl rfl 1 (by decide) k_9 (fun _ h9 => h9) rfl dX6_teach_116 ?_
    refine lv_iload_n hx hb dX6_teach_119 rfl (lv_at hl 2 rfl) ?_
    refine lv_iload_n hx hb dX6_teach_120 rfl (lv_at hl 3 rfl) ?_
    obtain ⟨b121, h⟩ := h
    refine va_iast hx hb hK hP hD hS 1 0 rfl rfl b121 dX6_teach_121 (fun H locs hP hD hS => ?_)
    have hP : va_P (dC, dI) vwCl [(h_this, .inr (6, [.int f_thrown, .ref h_taught, g_this_2, g_this_3, g_this_4, g_this_5, g_this_6, g_this_7, g_this_8, g_this_9, g_this_10, g_this_11, g_this_12, g_this_13, g_this_14, g_this_15, g_this_16, g_this_17, g_this_18, g_this_19, g_this_20, g_this_21, g_this_22, g_this_23, g_this_24, g_this_25, g_this_26, g_this_27, g_this_28, g_this_29, g_this_30])), (h_taught, .inl (cy, 12, .inl (upd a_taught (Int32.toNatClampNeg x1) x2)))] H := hP
    have hD : va_D A [(h_this, .inr (6, [.int f_thrown, .ref h_taught, g_this_2, g_this_3, g_this_4, g_this_5, g_this_6, g_this_7, g_this_8, g_this_9, g_this_10, g_this_11, g_this_12, g_this_13, g_this_14, g_this_15, g_this_16, g_this_17, g_this_18, g_this_19, g_this_20, g_this_21, g_this_22, g_this_23, g_this_24, g_this_25, g_this_26, g_this_27, g_this_28, g_this_29, g_this_30])), (h_taught, .inl (cy, 12, .inl (upd a_taught (Int32.toNatClampNeg x1) x2)))] := hD
    refine lv_iload hx hb dX6_teach_122 (lv_at hl 0 rfl) ?_
    exact RET s0 f_thrown (upd a_taught (Int32.toNatClampNeg x1) x2) H locs ls 124 dX6_teach_124 h hP hD hS
  have L39 : ∀ (x1 : Int32) (x2 : Int32) (f_thrown : Int32) (a_taught : Nat → Int32) (K39 : Int32 → Int32 → Int32 → Prop) (n : Nat) (x3 : Int32) (x4 : Int32) (x5 : Int32) (H : Heap) (locs : List Loc) (ls : Array Slot), wl3 (p_X6_teach_B39 K39) n x3 x4 x5 → va_P (dC, dI) vwCl [(h_this, .inr (6, [.int f_thrown, .ref h_taught, g_this_2, g_this_3, g_this_4, g_this_5, g_this_6, g_this_7, g_this_8, g_this_9, g_this_10, g_this_11, g_this_12, g_this_13, g_this_14, g_this_15, g_this_16, g_this_17, g_this_18, g_this_19, g_this_20, g_this_21, g_this_22, g_this_23, g_this_24, g_this_25, g_this_26, g_this_27, g_this_28, g_this_29, g_this_30])), (h_taught, .inl (cy, 12, .inl a_taught))] H → va_D A [(h_this, .inr (6, [.int f_thrown, .ref h_taught, g_this_2, g_this_3, g_this_4, g_this_5, g_this_6, g_this_7, g_this_8, g_this_9, g_this_10, g_this_11, g_this_12, g_this_13, g_this_14, g_this_15, g_this_16, g_this_17, g_this_18, g_this_19, g_this_20, g_this_21, g_this_22, g_this_23, g_this_24, g_this_25, g_this_26, g_this_27, g_this_28, g_this_29, g_this_30])), (h_taught, .inl (cy, 12, .inl a_taught))] → va_S A s.heap H locs → lv_has ls 6 [(0, .ref h_this), (1, .int x1), (2, .int x2), (3, .int x3), (4, .int x4), (5, .int x5)] → (∀ (x3 : Int32) (x4 : Int32) (x5 : Int32) (H : Heap) (locs : List Loc) (ls : Array Slot), K39 x3 x4 x5 → va_P (dC, dI) vwCl [(h_this, .inr (6, [.int f_thrown, .ref h_taught, g_this_2, g_this_3, g_this_4, g_this_5, g_this_6, g_this_7, g_this_8, g_this_9, g_this_10, g_this_11, g_this_12, g_this_13, g_this_14, g_this_15, g_this_16, g_this_17, g_this_18, g_this_19, g_this_20, g_this_21, g_this_22, g_this_23, g_this_24, g_this_25, g_this_26, g_this_27, g_this_28, g_this_29, g_this_30])), (h_taught, .inl (cy, 12, .inl a_taught))] H → va_D A [(h_this, .inr (6, [.int f_thrown, .ref h_taught, g_this_2, g_this_3, g_this_4, g_this_5, g_this_6, g_this_7, g_this_8, g_this_9, g_this_10, g_this_11, g_this_12, g_this_13, g_this_14, g_this_15, g_this_16, g_this_17, g_this_18, g_this_19, g_this_20, g_this_21, g_this_22, g_this_23, g_this_24, g_this_25, g_this_26, g_this_27, g_this_28, g_this_29, g_this_30])), (h_taught, .inl (cy, 12, .inl a_taught))] → va_S A s.heap H locs → lv_has ls 6 [(0, .ref h_this), (1, .int x1), (2, .int x2), (3, .int x3)] → W p l e rm_X6_teach s m args below meth c H locs 0 0 QQ (F0 m 87 ls [])) → W p l e rm_X6_teach s m args below meth c H locs 0 0 QQ (F0 m 39 ls []) := by
    intro x1 x2 f_thrown a_taught K39 n
    induction n with
    | zero => intro x3 x4 x5 H locs ls h; exact False.elim h
    | succ n ih =>
      intro x3 x4 x5 H locs ls h hP hD hS hl hk
      have ih := fun x3 x4 x5 H locs ls h hP hD hS hl => ih x3 x4 x5 H locs ls h hP hD hS hl hk
      replace h : p_X6_teach_B39 K39 (wl3 (p_X6_teach_B39 K39) n) x3 x4 x5 := h
      unfold p_X6_teach_B39 at h
      have J73 : ∀ (x4 : Int32) (x5 : Int32) (s0 : Int32) (H : Heap) (locs : List Loc) (ls : Array Slot), p_X6_teach_J73 (wl3 (p_X6_teach_B39 K39) n) x4 x5 s0 → va_P (dC, dI) vwCl [(h_this, .inr (6, [.int f_thrown, .ref h_taught, g_this_2, g_this_3, g_this_4, g_this_5, g_this_6, g_this_7, g_this_8, g_this_9, g_this_10, g_this_11, g_this_12, g_this_13, g_this_14, g_this_15, g_this_16, g_this_17, g_this_18, g_this_19, g_this_20, g_this_21, g_this_22, g_this_23, g_this_24, g_this_25, g_this_26, g_this_27, g_this_28, g_this_29, g_this_30])), (h_taught, .inl (cy, 12, .inl a_taught))] H → va_D A [(h_this, .inr (6, [.int f_thrown, .ref h_taught, g_this_2, g_this_3, g_this_4, g_this_5, g_this_6, g_this_7, g_this_8, g_this_9, g_this_10, g_this_11, g_this_12, g_this_13, g_this_14, g_this_15, g_this_16, g_this_17, g_this_18, g_this_19, g_this_20, g_this_21, g_this_22, g_this_23, g_this_24, g_this_25, g_this_26, g_this_27, g_this_28, g_this_29, g_this_30])), (h_taught, .inl (cy, 12, .inl a_taught))] → va_S A s.heap H locs → lv_has ls 6 [(0, .ref h_this), (1, .int x1), (2, .int x2), (4, .int x4), (5, .int x5)] → W p l e rm_X6_teach s m args below meth c H locs 0 0 QQ (F0 m 73 ls [.int s0]) := by
        intro x4 x5 s0 H locs ls h hP hD hS hl
        unfold p_X6_teach_J73 at h
        refine lv_istore_n (lv' := [(3, .int s0), (0, .ref h_this), (1, .int x1), (2, .int x2), (4, .int x4), (5, .int x5)]) hx hb dX6_teach_73 rfl hl (by decide) rfl (fun ls hl => ?_)
        refine lv_iload hx hb dX6_teach_74 (lv_at hl 4 rfl) ?_
        refine lv_bipush (v := 10) hx hb dX6_teach_76 (by decide) ?_
        refine lv_idiv hx hb dX6_teach_78 (by decide) ?_
        refine lv_istore (lv' := [(4, .int (x4 / 10)), (3, .int s0), (0, .ref h_this), (1, .int x1), (2, .int x2), (5, .int x5)]) hx hb dX6_teach_79 hl (by decide) rfl (fun ls hl => ?_)
        refine lv_iinc (v := x5 + 1) (lv' := [(5, .int (x5 + 1)), (4, .int (x4 / 10)), (3, .int s0), (0, .ref h_this), (1, .int x1), (2, .int x2)]) hx hb dX6_teach_81 hl (k := 5) rfl (by rfl) (by decide) rfl (fun ls hl => ?_)
        refine lv_goto (tgt := 39) hx hb dX6_teach_84 (by decide) ?_
        exact ih s0 (x4 / 10) (x5 + 1) H locs ls h hP hD hS (lv_sub hl [3, 4, 5, 2, 1, 0] rfl)
      have J68 : ∀ (x4 : Int32) (x5 : Int32) (H : Heap) (locs : List Loc) (ls : Array Slot), p_X6_teach_J68 (wl3 (p_X6_teach_B39 K39) n) x4 x5 → va_P (dC, dI) vwCl [(h_this, .inr (6, [.int f_thrown, .ref h_taught, g_this_2, g_this_3, g_this_4, g_this_5, g_this_6, g_this_7, g_this_8, g_this_9, g_this_10, g_this_11, g_this_12, g_this_13, g_this_14, g_this_15, g_this_16, g_this_17, g_this_18, g_this_19, g_this_20, g_this_21, g_this_22, g_this_23, g_this_24, g_this_25, g_this_26, g_this_27, g_this_28, g_this_29, g_this_30])), (h_taught, .inl (cy, 12, .inl a_taught))] H → va_D A [(h_this, .inr (6, [.int f_thrown, .ref h_taught, g_this_2, g_this_3, g_this_4, g_this_5, g_this_6, g_this_7, g_this_8, g_this_9, g_this_10, g_this_11, g_this_12, g_this_13, g_this_14, g_this_15, g_this_16, g_this_17, g_this_18, g_this_19, g_this_20, g_this_21, g_this_22, g_this_23, g_this_24, g_this_25, g_this_26, g_this_27, g_this_28, g_this_29, g_this_30])), (h_taught, .inl (cy, 12, .inl a_taught))] → va_S A s.heap H locs → lv_has ls 6 [(0, .ref h_this), (1, .int x1), (2, .int x2), (4, .int x4), (5, .int x5)] → W p l e rm_X6_teach s m args below meth c H locs 0 0 QQ (F0 m 68 ls []) := by
        intro x4 x5 H locs ls h hP hD hS hl
        unfold p_X6_teach_J68 at h
        refine lv_iconst (v := 1) hx hb dX6_teach_68 (by decide) ?_
        refine lv_goto (tgt := 73) hx hb dX6_teach_69 (by decide) ?_
        exact J73 x4 x5 1 H locs ls h hP hD hS (lv_sub hl [0, 1, 2, 3, 4] rfl)
      refine lv_iload hx hb dX6_teach_39 (lv_at hl 5 rfl) ?_
      refine lv_bipush (v := 6) hx hb dX6_teach_41 (by decide) ?_
      refine lv_icmp_ge (tgt := 87) hx hb dX6_teach_43 (by decide) (fun c43 => ?_) (fun c43 => ?_)
      · replace h := And.left h c43
        exact hk x3 x4 x5 H locs ls h hP hD hS (lv_sub hl [0, 1, 2, 3] rfl)
      · replace h := And.right h c43
        refine lv_iload_n hx hb dX6_teach_46 rfl (lv_at hl 3 rfl) ?_
        refine lv_if_ne (tgt := 87) hx hb dX6_teach_47 (by decide) (fun c47 => ?_) (fun c47 => ?_)
        · replace h := And.left h c47
          exact hk x3 x4 x5 H locs ls h hP hD hS (lv_sub hl [0, 1, 2, 3] rfl)
        · replace h := And.right h c47
          refine lv_iload hx hb dX6_teach_50 (lv_at hl 4 rfl) ?_
          refine lv_bipush (v := 10) hx hb dX6_teach_52 (by decide) ?_
          refine my_irem hx hb dX6_teach_54 (by decide) ?_
          refine lv_iconst (v := 1) hx hb dX6_teach_55 (by decide) ?_
          refine lv_icmp_lt (tgt := 68) hx hb dX6_teach_56 (by decide) (fun c56 => ?_) (fun c56 => ?_)
          · replace h := And.left h c56
            exact J68 x4 x5 H locs ls h hP hD hS (lv_sub hl [0, 1, 2, 4, 5] rfl)
          · replace h := And.right h c56
            refine lv_iload hx hb dX6_teach_59 (lv_at hl 4 rfl) ?_
            refine lv_bipush (v := 10) hx hb dX6_teach_61 (by decide) ?_
            refine my_irem hx hb dX6_teach_63 (by decide) ?_
            refine lv_iconst (v := 3) hx hb dX6_teach_64 (by decide) ?_
            refine lv_icmp_le (tgt := 72) hx hb dX6_teach_65 (by decide) (fun c65 => ?_) (fun c65 => ?_)
            · replace h := And.left h c65
              refine lv_iconst (v := 0) hx hb dX6_teach_72 (by decide) ?_
              exact J73 x4 x5 0 H locs ls h hP hD hS (lv_sub hl [0, 1, 2, 4, 5] rfl)
            · replace h := And.right h c65
              exact J68 x4 x5 H locs ls h hP hD hS (lv_sub hl [0, 1, 2, 4, 5] rfl)
  have J32 : ∀ (x1 : Int32) (x2 : Int32) (s0 : Int32) (f_thrown : Int32) (a_taught : Nat → Int32) (H : Heap) (locs : List Loc) (ls : Array Slot), p_X6_teach_J32 f_thrown a_taught Q x1 x2 s0 → va_P (dC, dI) vwCl [(h_this, .inr (6, [.int f_thrown, .ref h_taught, g_this_2, g_this_3, g_this_4, g_this_5, g_this_6, g_this_7, g_this_8, g_this_9, g_this_10, g_this_11, g_this_12, g_this_13, g_this_14, g_this_15, g_this_16, g_this_17, g_this_18, g_this_19, g_this_20, g_this_21, g_this_22, g_this_23, g_this_24, g_this_25, g_this_26, g_this_27, g_this_28, g_this_29, g_this_30])), (h_taught, .inl (cy, 12, .inl a_taught))] H → va_D A [(h_this, .inr (6, [.int f_thrown, .ref h_taught, g_this_2, g_this_3, g_this_4, g_this_5, g_this_6, g_this_7, g_this_8, g_this_9, g_this_10, g_this_11, g_this_12, g_this_13, g_this_14, g_this_15, g_this_16, g_this_17, g_this_18, g_this_19, g_this_20, g_this_21, g_this_22, g_this_23, g_this_24, g_this_25, g_this_26, g_this_27, g_this_28, g_this_29, g_this_30])), (h_taught, .inl (cy, 12, .inl a_taught))] → va_S A s.heap H locs → lv_has ls 6 [(0, .ref h_this), (1, .int x1), (2, .int x2)] → W p l e rm_X6_teach s m args below meth c H locs 0 0 QQ (F0 m 32 ls [.int s0]) := by
    intro x1 x2 s0 f_thrown a_taught H locs ls h hP hD hS hl
    unfold p_X6_teach_J32 at h
    refine lv_istore_n (lv' := [(3, .int s0), (0, .ref h_this), (1, .int x1), (2, .int x2)]) hx hb dX6_teach_32 rfl hl (by decide) rfl (fun ls hl => ?_)
    refine lv_iload_n hx hb dX6_teach_33 rfl (lv_at hl 3 rfl) ?_
    refine lv_istore (lv' := [(4, .int x2), (3, .int s0), (0, .ref h_this), (1, .int x1), (2, .int x2)]) hx hb dX6_teach_34 hl (by decide) rfl (fun ls hl => ?_)
    refine lv_iconst (v := 0) hx hb dX6_teach_36 (by decide) ?_
    refine lv_istore (lv' := [(5, .int 0), (4, .int x2), (3, .int s0), (0, .ref h_this), (1, .int x1), (2, .int x2)]) hx hb dX6_teach_37 hl (by decide) rfl (fun ls hl => ?_)
    obtain ⟨n39, h⟩ := h
    refine L39 x1 x2 f_thrown a_taught _ n39 s0 x2 0 H locs ls h hP hD hS (lv_sub hl [3, 4, 5, 2, 1, 0] rfl) (fun x3_87 x4_87 x5_87 H locs ls h hP hD hS hl => ?_)
    refine lv_aload_n hx hb dX6_teach_87 rfl (lv_at hl 0 rfl) ?_
    refine lv_iload_n hx hb dX6_teach_88 rfl (lv_at hl 3 rfl) ?_
    refine lv_iconst (v := 1) hx hb dX6_teach_89 (by decide) ?_
    have hPc := hP.sub (ws' := [(h_this, .inr (6, [.int f_thrown, .ref h_taught, g_this_2, g_this_3, g_this_4, g_this_5, g_this_6, g_this_7, g_this_8, g_this_9, g_this_10, g_this_11, g_this_12, g_this_13, g_this_14, g_this_15, g_this_16, g_this_17, g_this_18, g_this_19, g_this_20, g_this_21, g_this_22, g_this_23, g_this_24, g_this_25, g_this_26, g_this_27, g_this_28, g_this_29, g_this_30]))]) [0] rfl
    have hDc := hD.sub (ws' := [(h_this, .inr (6, [.int f_thrown, .ref h_taught, g_this_2, g_this_3, g_this_4, g_this_5, g_this_6, g_this_7, g_this_8, g_this_9, g_this_10, g_this_11, g_this_12, g_this_13, g_this_14, g_this_15, g_this_16, g_this_17, g_this_18, g_this_19, g_this_20, g_this_21, g_this_22, g_this_23, g_this_24, g_this_25, g_this_26, g_this_27, g_this_28, g_this_29, g_this_30]))]) [0] (by decide) rfl
    have hFc := va_free (wc := [(h_this, .inr (6, [.int f_thrown, .ref h_taught, g_this_2, g_this_3, g_this_4, g_this_5, g_this_6, g_this_7, g_this_8, g_this_9, g_this_10, g_this_11, g_this_12, g_this_13, g_this_14, g_this_15, g_this_16, g_this_17, g_this_18, g_this_19, g_this_20, g_this_21, g_this_22, g_this_23, g_this_24, g_this_25, g_this_26, g_this_27, g_this_28, g_this_29, g_this_30]))]) hD hS hA [0] rfl
    refine va_calli (va_runV (As := [.int x3_87, .int 1]) (rest := []) ⟨hx, hb, hml, hown, hts⟩ (c_X6_bad l dC dI cy h_this H.size (.ref h_taught) (g_this_2) (g_this_3) (g_this_4) (g_this_5) (g_this_6) (g_this_7) (g_this_8) (g_this_9) (g_this_10) (g_this_11) (g_this_12) (g_this_13) (g_this_14) (g_this_15) (g_this_16) (g_this_17) (g_this_18) (g_this_19) (g_this_20) (g_this_21) (g_this_22) (g_this_23) (g_this_24) (g_this_25) (g_this_26) (g_this_27) (g_this_28) (g_this_29) (g_this_30) f_thrown x3_87 1 _ h) (cwV 2 hts gX6_teach_X6_bad rfl rfl rfl q_X6_bad ⟨Nat.le_of_ble_eq_true rfl, Nat.le_of_ble_eq_true rfl⟩) ⟨fun a U g mk q => by obtain ⟨q0, q1, qP, qK, qD⟩ := q; exact ⟨q0, q1, qP, va_K.moved (u := U) (U := U.calling g mk a) (Vm.Alike.refl U.vm) qK, qD⟩, va_recv hK hP (ci := 6) (q0 := 0) rfl rfl, fun U hU hW => ⟨rfl, by rw [hU], by rw [hU]; exact hPc, va_K.moved hW.alike hK, hDc.weaken (fun _ _ _ _ => trivial)⟩⟩ rfl rfl hl.1 rfl (lv_room (Nat.le_of_ble_eq_true rfl)) dX6_teach_90 ⟨Nat.le_of_ble_eq_true rfl, Nat.le_of_ble_eq_true rfl⟩) hS (fun q _ h => hFc q h) hFc (fun r90 u t H1 locs ht hvm hw hB hz1 hk1 hS => ?_)
    obtain ⟨f_thrown_90, rfl⟩ : ∃ z, z = u := ⟨_, rfl⟩
    obtain ⟨hP1, hK1, hD1⟩ := hB
    rw [ht] at hP1
    obtain ⟨hP, hD⟩ := va_join (wr := [(h_taught, .inl (cy, 12, .inl a_taught))]) (w1 := [(h_this, .inr (6, [.int f_thrown_90, .ref h_taught, g_this_2, g_this_3, g_this_4, g_this_5, g_this_6, g_this_7, g_this_8, g_this_9, g_this_10, g_this_11, g_this_12, g_this_13, g_this_14, g_this_15, g_this_16, g_this_17, g_this_18, g_this_19, g_this_20, g_this_21, g_this_22, g_this_23, g_this_24, g_this_25, g_this_26, g_this_27, g_this_28, g_this_29, g_this_30]))]) hP hD [0] [1] rfl rfl (by decide) (by decide) hk1 hFc hP1 hD1
    replace hP := hP.sub (ws' := [(h_this, .inr (6, [.int f_thrown_90, .ref h_taught, g_this_2, g_this_3, g_this_4, g_this_5, g_this_6, g_this_7, g_this_8, g_this_9, g_this_10, g_this_11, g_this_12, g_this_13, g_this_14, g_this_15, g_this_16, g_this_17, g_this_18, g_this_19, g_this_20, g_this_21, g_this_22, g_this_23, g_this_24, g_this_25, g_this_26, g_this_27, g_this_28, g_this_29, g_this_30])), (h_taught, .inl (cy, 12, .inl a_taught))]) [1, 0] rfl
    replace hD := hD.sub (ws' := [(h_this, .inr (6, [.int f_thrown_90, .ref h_taught, g_this_2, g_this_3, g_this_4, g_this_5, g_this_6, g_this_7, g_this_8, g_this_9, g_this_10, g_this_11, g_this_12, g_this_13, g_this_14, g_this_15, g_this_16, g_this_17, g_this_18, g_this_19, g_this_20, g_this_21, g_this_22, g_this_23, g_this_24, g_this_25, g_this_26, g_this_27, g_this_28, g_this_29, g_this_30])), (h_taught, .inl (cy, 12, .inl a_taught))]) [1, 0] (by decide) rfl
    clear hPc hDc hFc hP1 hK1 hD1 hz1 hk1 hvm
    subst ht
    generalize t.heap = H at hP hS ⊢
    replace h := hw
    clear hw
    refine lv_if_eq (tgt := 98) hx hb dX6_teach_93 (by decide) (fun c93 => ?_) (fun c93 => ?_)
    · replace h := And.left h c93
      refine lv_aload_n hx hb dX6_teach_98 rfl (lv_at hl 0 rfl) ?_
      refine va_get (D := (dC, dI)) (ci := 6) (v := .ref h_taught) (C := RX6) (T := TX6) (N := 31) hx hb hts in_X6 hown hK hP 0 rfl rfl 1 (by decide) k_9 (fun _ h9 => h9) rfl dX6_teach_99 ?_
      refine lv_iload_n hx hb dX6_teach_102 rfl (lv_at hl 1 rfl) ?_
      obtain ⟨b103, h⟩ := h
      refine va_iald hx hb hK hP 1 0 rfl rfl b103 dX6_teach_103 ?_
      refine lv_iload_n hx hb dX6_teach_104 rfl (lv_at hl 2 rfl) ?_
      refine lv_icmp_ne (tgt := 112) hx hb dX6_teach_105 (by decide) (fun c105 => ?_) (fun c105 => ?_)
      · replace h := And.left h c105
        refine lv_iconst (v := 1) hx hb dX6_teach_112 (by decide) ?_
        exact J113 x1 x2 1 f_thrown_90 a_taught H locs ls h hP hD hS (lv_sub hl [0, 1, 2] rfl)
      · replace h := And.right h c105
        refine lv_iconst (v := 0) hx hb dX6_teach_108 (by decide) ?_
        refine lv_goto (tgt := 113) hx hb dX6_teach_109 (by decide) ?_
        exact J113 x1 x2 0 f_thrown_90 a_taught H locs ls h hP hD hS (lv_sub hl [0, 1, 2] rfl)
    · replace h := And.right h c93
      refine lv_iconst (v := 0) hx hb dX6_teach_96 (by decide) ?_
      exact RET 0 f_thrown_90 a_taught H locs ls 97 dX6_teach_97 h hP hD hS
  have J27 : ∀ (x1 : Int32) (x2 : Int32) (f_thrown : Int32) (a_taught : Nat → Int32) (H : Heap) (locs : List Loc) (ls : Array Slot), p_X6_teach_J27 f_thrown a_taught Q x1 x2 → va_P (dC, dI) vwCl [(h_this, .inr (6, [.int f_thrown, .ref h_taught, g_this_2, g_this_3, g_this_4, g_this_5, g_this_6, g_this_7, g_this_8, g_this_9, g_this_10, g_this_11, g_this_12, g_this_13, g_this_14, g_this_15, g_this_16, g_this_17, g_this_18, g_this_19, g_this_20, g_this_21, g_this_22, g_this_23, g_this_24, g_this_25, g_this_26, g_this_27, g_this_28, g_this_29, g_this_30])), (h_taught, .inl (cy, 12, .inl a_taught))] H → va_D A [(h_this, .inr (6, [.int f_thrown, .ref h_taught, g_this_2, g_this_3, g_this_4, g_this_5, g_this_6, g_this_7, g_this_8, g_this_9, g_this_10, g_this_11, g_this_12, g_this_13, g_this_14, g_this_15, g_this_16, g_this_17, g_this_18, g_this_19, g_this_20, g_this_21, g_this_22, g_this_23, g_this_24, g_this_25, g_this_26, g_this_27, g_this_28, g_this_29, g_this_30])), (h_taught, .inl (cy, 12, .inl a_taught))] → va_S A s.heap H locs → lv_has ls 6 [(0, .ref h_this), (1, .int x1), (2, .int x2)] → W p l e rm_X6_teach s m args below meth c H locs 0 0 QQ (F0 m 27 ls []) := by
    intro x1 x2 f_thrown a_taught H locs ls h hP hD hS hl
    unfold p_X6_teach_J27 at h
    refine lv_iconst (v := 1) hx hb dX6_teach_27 (by decide) ?_
    refine lv_goto (tgt := 32) hx hb dX6_teach_28 (by decide) ?_
    exact J32 x1 x2 1 f_thrown a_taught H locs ls h hP hD hS (lv_sub hl [0, 1, 2] rfl)
  generalize hlo : ([] : List Loc) = locs at hS ⊢
  obtain ⟨H, hH⟩ : ∃ z, z = s.heap := ⟨_, rfl⟩
  rw [show W p l e rm_X6_teach s m args below meth c s.heap = W p l e rm_X6_teach s m args below meth c H by rw [hH]]
  replace hP : va_P (dC, dI) vwCl [(h_this, .inr (6, [.int f_thrown, .ref h_taught, g_this_2, g_this_3, g_this_4, g_this_5, g_this_6, g_this_7, g_this_8, g_this_9, g_this_10, g_this_11, g_this_12, g_this_13, g_this_14, g_this_15, g_this_16, g_this_17, g_this_18, g_this_19, g_this_20, g_this_21, g_this_22, g_this_23, g_this_24, g_this_25, g_this_26, g_this_27, g_this_28, g_this_29, g_this_30])), (h_taught, .inl (cy, 12, .inl a_taught))] H := by rw [hH]; exact hP
  replace hS : va_S A s.heap H locs := by rw [hH]; exact hS
  clear hH hlo
  refine lv_aload_n hx hb dX6_teach_0 rfl (lv_at hl 0 rfl) ?_
  refine lv_iconst (v := 0) hx hb dX6_teach_1 (by decide) ?_
  refine va_put (D := (dC, dI)) (ci := 6) (v := .int 0) (ty := .int) (C := RX6) (T := TX6) (N := 31) hx hb hts in_X6 tyX6 tyX6_ok nmX6 hown hK hP hD hS 0 rfl rfl 0 (by decide) k_58 (fun _ h9 => h9) rfl (by decide +kernel) rfl rfl (Nat.le_of_ble_eq_true rfl) dX6_teach_2 (fun H locs hP hD hS => ?_)
  have hP : va_P (dC, dI) vwCl [(h_this, .inr (6, [.int 0, .ref h_taught, g_this_2, g_this_3, g_this_4, g_this_5, g_this_6, g_this_7, g_this_8, g_this_9, g_this_10, g_this_11, g_this_12, g_this_13, g_this_14, g_this_15, g_this_16, g_this_17, g_this_18, g_this_19, g_this_20, g_this_21, g_this_22, g_this_23, g_this_24, g_this_25, g_this_26, g_this_27, g_this_28, g_this_29, g_this_30])), (h_taught, .inl (cy, 12, .inl a_taught))] H := hP
  have hD : va_D A [(h_this, .inr (6, [.int 0, .ref h_taught, g_this_2, g_this_3, g_this_4, g_this_5, g_this_6, g_this_7, g_this_8, g_this_9, g_this_10, g_this_11, g_this_12, g_this_13, g_this_14, g_this_15, g_this_16, g_this_17, g_this_18, g_this_19, g_this_20, g_this_21, g_this_22, g_this_23, g_this_24, g_this_25, g_this_26, g_this_27, g_this_28, g_this_29, g_this_30])), (h_taught, .inl (cy, 12, .inl a_taught))] := hD
  refine lv_iload_n hx hb dX6_teach_5 rfl (lv_at hl 1 rfl) ?_
  refine lv_if_lt (tgt := 27) hx hb dX6_teach_6 (by decide) (fun c6 => ?_) (fun c6 => ?_)
  · replace h := And.left h c6
    exact J27 x1 x2 0 a_taught H locs ls h hP hD hS (lv_sub hl [0, 1, 2] rfl)
  · replace h := And.right h c6
    refine lv_iload_n hx hb dX6_teach_9 rfl (lv_at hl 1 rfl) ?_
    refine lv_bipush (v := 12) hx hb dX6_teach_10 (by decide) ?_
    refine lv_icmp_ge (tgt := 27) hx hb dX6_teach_12 (by decide) (fun c12 => ?_) (fun c12 => ?_)
    · replace h := And.left h c12
      exact J27 x1 x2 0 a_taught H locs ls h hP hD hS (lv_sub hl [0, 1, 2] rfl)
    · replace h := And.right h c12
      refine lv_iload_n hx hb dX6_teach_15 rfl (lv_at hl 2 rfl) ?_
      refine lv_ldc (v := 111111) hx hb hown k_62 dX6_teach_16 ?_
      refine lv_icmp_lt (tgt := 27) hx hb dX6_teach_18 (by decide) (fun c18 => ?_) (fun c18 => ?_)
      · replace h := And.left h c18
        exact J27 x1 x2 0 a_taught H locs ls h hP hD hS (lv_sub hl [0, 1, 2] rfl)
      · replace h := And.right h c18
        refine lv_iload_n hx hb dX6_teach_21 rfl (lv_at hl 2 rfl) ?_
        refine lv_ldc (v := 333333) hx hb hown k_63 dX6_teach_22 ?_
        refine lv_icmp_le (tgt := 31) hx hb dX6_teach_24 (by decide) (fun c24 => ?_) (fun c24 => ?_)
        · replace h := And.left h c24
          refine lv_iconst (v := 0) hx hb dX6_teach_31 (by decide) ?_
          exact J32 x1 x2 0 0 a_taught H locs ls h hP hD hS (lv_sub hl [0, 1, 2] rfl)
        · replace h := And.right h c24
          exact J27 x1 x2 0 a_taught H locs ls h hP hD hS (lv_sub hl [0, 1, 2] rfl)
abbrev rm_X6_tick : Room := { frames := 1, cells := 0, slots := 0, locals := 22 }
theorem q_X6_tick : yX6_tick.cls = RX6 ∧ yX6_tick.cls ≠ "java/lang/invoke/MethodHandle" ∧ yX6_tick.cls ≠ "java/lang/invoke/VarHandle" ∧ (parseMethodDescriptor yX6_tick.desc).map (fun d => d.parameters.length) = some 1 := by decide +kernel
set_option maxHeartbeats 4000000 in
set_option maxRecDepth 100000 in
theorem c_X6_tick (l : Launch) (dC : Nat → ClassId) (dI : Nat → Nat → Nat) (cy : ClassId) (h_this : Nat) (h_ticks : Nat) (sz : Nat) (g_this_1 g_this_4 g_this_5 g_this_6 g_this_7 g_this_8 g_this_9 g_this_10 g_this_11 g_this_12 g_this_13 g_this_14 g_this_15 g_this_16 g_this_17 g_this_18 g_this_19 g_this_20 g_this_21 g_this_22 g_this_23 g_this_24 g_this_25 g_this_26 g_this_27 g_this_28 g_this_29 g_this_30 : Value) (f_thrown : Int32) (f_tickMany : Int32) (a_ticks : Nat → Int32) (x1 : Int32) (Q : Int32 → Int32 → Int32 → (Nat → Int32) → Prop) (h : p_X6_tick f_thrown f_tickMany a_ticks x1 Q) : Met l yX6_tick wsX6_tick rm_X6_tick (va_Pc [.ref h_this, .int x1] (fun U => U.heap.size = sz ∧ va_P (dC, dI) vwCl [(h_this, .inr (6, [.int f_thrown, g_this_1, .ref h_ticks, .int f_tickMany, g_this_4, g_this_5, g_this_6, g_this_7, g_this_8, g_this_9, g_this_10, g_this_11, g_this_12, g_this_13, g_this_14, g_this_15, g_this_16, g_this_17, g_this_18, g_this_19, g_this_20, g_this_21, g_this_22, g_this_23, g_this_24, g_this_25, g_this_26, g_this_27, g_this_28, g_this_29, g_this_30])), (h_ticks, .inl (cy, 120, .inl a_ticks))] U.heap ∧ va_K (dC, dI) vwCl [(cy, .int)] U ∧ va_D (fun _ => True) [(h_this, .inr (6, [.int f_thrown, g_this_1, .ref h_ticks, .int f_tickMany, g_this_4, g_this_5, g_this_6, g_this_7, g_this_8, g_this_9, g_this_10, g_this_11, g_this_12, g_this_13, g_this_14, g_this_15, g_this_16, g_this_17, g_this_18, g_this_19, g_this_20, g_this_21, g_this_22, g_this_23, g_this_24, g_this_25, g_this_26, g_this_27, g_this_28, g_this_29, g_this_30])), (h_ticks, .inl (cy, 120, .inl a_ticks))])) (va_Qi (fun (r : Int32) (u : Int32 × Int32 × (Nat → Int32)) => Q r u.1 u.2.1 u.2.2) (fun (u : Int32 × Int32 × (Nat → Int32)) (t : State) => va_P (dC, dI) vwCl [(h_this, .inr (6, [.int (u.1), g_this_1, .ref h_ticks, .int (u.2.1), g_this_4, g_this_5, g_this_6, g_this_7, g_this_8, g_this_9, g_this_10, g_this_11, g_this_12, g_this_13, g_this_14, g_this_15, g_this_16, g_this_17, g_this_18, g_this_19, g_this_20, g_this_21, g_this_22, g_this_23, g_this_24, g_this_25, g_this_26, g_this_27, g_this_28, g_this_29, g_this_30])), (h_ticks, .inl (cy, 120, .inl (u.2.2)))] t.heap ∧ va_K (dC, dI) vwCl [(cy, .int)] t ∧ va_D (va_A [(h_this, .inr (6, [.int f_thrown, g_this_1, .ref h_ticks, .int f_tickMany, g_this_4, g_this_5, g_this_6, g_this_7, g_this_8, g_this_9, g_this_10, g_this_11, g_this_12, g_this_13, g_this_14, g_this_15, g_this_16, g_this_17, g_this_18, g_this_19, g_this_20, g_this_21, g_this_22, g_this_23, g_this_24, g_this_25, g_this_26, g_this_27, g_this_28, g_this_29, g_this_30])), (h_ticks, .inl (cy, 120, .inl a_ticks))] sz) [(h_this, .inr (6, [.int (u.1), g_this_1, .ref h_ticks, .int (u.2.1), g_this_4, g_this_5, g_this_6, g_this_7, g_this_8, g_this_9, g_this_10, g_this_11, g_this_12, g_this_13, g_this_14, g_this_15, g_this_16, g_this_17, g_this_18, g_this_19, g_this_20, g_this_21, g_this_22, g_this_23, g_this_24, g_this_25, g_this_26, g_this_27, g_this_28, g_this_29, g_this_30])), (h_ticks, .inl (cy, 120, .inl (u.2.2)))]) (va_A [(h_this, .inr (6, [.int f_thrown, g_this_1, .ref h_ticks, .int f_tickMany, g_this_4, g_this_5, g_this_6, g_this_7, g_this_8, g_this_9, g_this_10, g_this_11, g_this_12, g_this_13, g_this_14, g_this_15, g_this_16, g_this_17, g_this_18, g_this_19, g_this_20, g_this_21, g_this_22, g_this_23, g_this_24, g_this_25, g_this_26, g_this_27, g_this_28, g_this_29, g_this_30])), (h_ticks, .inl (cy, 120, .inl a_ticks))] sz)) 0 0 (va_A [(h_this, .inr (6, [.int f_thrown, g_this_1, .ref h_ticks, .int f_tickMany, g_this_4, g_this_5, g_this_6, g_this_7, g_this_8, g_this_9, g_this_10, g_this_11, g_this_12, g_this_13, g_this_14, g_this_15, g_this_16, g_this_17, g_this_18, g_this_19, g_this_20, g_this_21, g_this_22, g_this_23, g_this_24, g_this_25, g_this_26, g_this_27, g_this_28, g_this_29, g_this_30])), (h_ticks, .inl (cy, 120, .inl a_ticks))] sz) := by
  refine Met.ofW (cc := cX6_tick) (maxL := 2) (ret := (some .int)) (by decide) rfl ?_
  intro p e s m args below meth c s₁ B hml hv
  obtain ⟨hargs, hsz, hP, hK, hD0⟩ := hv
  have hx := B.exec
  have hb := B.bytes
  have hr := B.returns
  have hts := atoms_spec (ws := wsX6_tick) B.pre
  have hown : s.vm.findClass RX6 = some m.cls := findClass_of_methodNamed B.named
  have hlocks := B.notSynchronized
  subst hsz
  have hD := hD0.self (sz := s.heap.size)
  generalize hAe : va_A [(h_this, .inr (6, [.int f_thrown, g_this_1, .ref h_ticks, .int f_tickMany, g_this_4, g_this_5, g_this_6, g_this_7, g_this_8, g_this_9, g_this_10, g_this_11, g_this_12, g_this_13, g_this_14, g_this_15, g_this_16, g_this_17, g_this_18, g_this_19, g_this_20, g_this_21, g_this_22, g_this_23, g_this_24, g_this_25, g_this_26, g_this_27, g_this_28, g_this_29, g_this_30])), (h_ticks, .inl (cy, 120, .inl a_ticks))] s.heap.size = A at hD ⊢
  have hA : ∀ q : Nat, s.heap.size ≤ q → A q := fun q h => by rw [← hAe]; exact Or.inr h
  have hS : va_S A s.heap s.heap [] := va_S.rf
  have in_X6 : ∀ w ∈ u_ws RX6 TX6 31, w ∈ wsX6_tick := by decide +kernel
  have k_13 := hts (.fieldLink RX6 13 "ChequeDeskModel" "ticks" "[I") (by decide +kernel)
  have k_58 := hts (.fieldLink RX6 58 "ChequeDeskModel" "thrown" "I") (by decide +kernel)
  have k_68 := hts (.fieldLink RX6 68 "ChequeDeskModel" "tickMany" "I") (by decide +kernel)
  have hl := lv_entry ([.ref h_this, .int x1]) (n := 2) (Nat.le_of_ble_eq_true rfl)
  rw [show entryFrame m args 2 = entryFrame m ([.ref h_this, .int x1] : List Value).toArray 2 by rw [hargs], lg_entry_eq]
  generalize (lg_sl ([.ref h_this, .int x1]) ++ List.replicate (2 - (lg_sl ([.ref h_this, .int x1])).length) Slot.unset).toArray = ls at hl ⊢
  have hl : lv_has ls 2 [(0, .ref h_this), (1, .int x1)] := hl
  have hP : va_P (dC, dI) vwCl [(h_this, .inr (6, [.int f_thrown, g_this_1, .ref h_ticks, .int f_tickMany, g_this_4, g_this_5, g_this_6, g_this_7, g_this_8, g_this_9, g_this_10, g_this_11, g_this_12, g_this_13, g_this_14, g_this_15, g_this_16, g_this_17, g_this_18, g_this_19, g_this_20, g_this_21, g_this_22, g_this_23, g_this_24, g_this_25, g_this_26, g_this_27, g_this_28, g_this_29, g_this_30])), (h_ticks, .inl (cy, 120, .inl a_ticks))] s.heap := hP
  change W p l e rm_X6_tick s m args below meth c s.heap [] 0 0 _ _
  generalize hQQ : MQ below _ _ _ _ _ _ = QQ
  have RET : ∀ (r : Int32) (f_thrown : Int32) (f_tickMany : Int32) (a_ticks : Nat → Int32) (H : Heap) (locs : List Loc) (ls : Array Slot) (pc : Nat), decode cX6_tick pc = .ok (.ireturn, 1) → Q r f_thrown f_tickMany a_ticks → va_P (dC, dI) vwCl [(h_this, .inr (6, [.int f_thrown, g_this_1, .ref h_ticks, .int f_tickMany, g_this_4, g_this_5, g_this_6, g_this_7, g_this_8, g_this_9, g_this_10, g_this_11, g_this_12, g_this_13, g_this_14, g_this_15, g_this_16, g_this_17, g_this_18, g_this_19, g_this_20, g_this_21, g_this_22, g_this_23, g_this_24, g_this_25, g_this_26, g_this_27, g_this_28, g_this_29, g_this_30])), (h_ticks, .inl (cy, 120, .inl a_ticks))] H → va_D A [(h_this, .inr (6, [.int f_thrown, g_this_1, .ref h_ticks, .int f_tickMany, g_this_4, g_this_5, g_this_6, g_this_7, g_this_8, g_this_9, g_this_10, g_this_11, g_this_12, g_this_13, g_this_14, g_this_15, g_this_16, g_this_17, g_this_18, g_this_19, g_this_20, g_this_21, g_this_22, g_this_23, g_this_24, g_this_25, g_this_26, g_this_27, g_this_28, g_this_29, g_this_30])), (h_ticks, .inl (cy, 120, .inl a_ticks))] → va_S A s.heap H locs → W p l e rm_X6_tick s m args below meth c H locs 0 0 QQ (F0 m pc ls [.int r]) := by
    intro r f_thrown f_tickMany a_ticks H locs ls pc hdg hq hP hD hS
    rw [← hQQ]
    exact W.iret (v := r) hx hb hr (fun t ht hW => ⟨⟨r, (f_thrown, f_tickMany, a_ticks), rfl, hq, by rw [ht]; exact hP, va_K.moved hW.alike hK, hD⟩, hS.F ht⟩) hS.2.2 hdg
  clear hQQ
  unfold p_X6_tick at h
  have J22 : ∀ (x1 : Int32) (s0 : Int32) (f_thrown : Int32) (f_tickMany : Int32) (a_ticks : Nat → Int32) (H : Heap) (locs : List Loc) (ls : Array Slot), p_X6_tick_J22 f_thrown f_tickMany a_ticks Q x1 s0 → va_P (dC, dI) vwCl [(h_this, .inr (6, [.int f_thrown, g_this_1, .ref h_ticks, .int f_tickMany, g_this_4, g_this_5, g_this_6, g_this_7, g_this_8, g_this_9, g_this_10, g_this_11, g_this_12, g_this_13, g_this_14, g_this_15, g_this_16, g_this_17, g_this_18, g_this_19, g_this_20, g_this_21, g_this_22, g_this_23, g_this_24, g_this_25, g_this_26, g_this_27, g_this_28, g_this_29, g_this_30])), (h_ticks, .inl (cy, 120, .inl a_ticks))] H → va_D A [(h_this, .inr (6, [.int f_thrown, g_this_1, .ref h_ticks, .int f_tickMany, g_this_4, g_this_5, g_this_6, g_this_7, g_this_8, g_this_9, g_this_10, g_this_11, g_this_12, g_this_13, g_this_14, g_this_15, g_this_16, g_this_17, g_this_18, g_this_19, g_this_20, g_this_21, g_this_22, g_this_23, g_this_24, g_this_25, g_this_26, g_this_27, g_this_28, g_this_29, g_this_30])), (h_ticks, .inl (cy, 120, .inl a_ticks))] → va_S A s.heap H locs → lv_has ls 2 [(0, .ref h_this), (1, .int x1)] → W p l e rm_X6_tick s m args below meth c H locs 0 0 QQ (F0 m 22 ls [.int s0, .ref h_this]) := by
    intro x1 s0 f_thrown f_tickMany a_ticks H locs ls h hP hD hS hl
    unfold p_X6_tick_J22 at h
    refine lv_iconst (v := 1) hx hb dX6_tick_22 (by decide) ?_
    have hPc := hP.sub (ws' := [(h_this, .inr (6, [.int f_thrown, g_this_1, .ref h_ticks, .int f_tickMany, g_this_4, g_this_5, g_this_6, g_this_7, g_this_8, g_this_9, g_this_10, g_this_11, g_this_12, g_this_13, g_this_14, g_this_15, g_this_16, g_this_17, g_this_18, g_this_19, g_this_20, g_this_21, g_this_22, g_this_23, g_this_24, g_this_25, g_this_26, g_this_27, g_this_28, g_this_29, g_this_30]))]) [0] rfl
    have hDc := hD.sub (ws' := [(h_this, .inr (6, [.int f_thrown, g_this_1, .ref h_ticks, .int f_tickMany, g_this_4, g_this_5, g_this_6, g_this_7, g_this_8, g_this_9, g_this_10, g_this_11, g_this_12, g_this_13, g_this_14, g_this_15, g_this_16, g_this_17, g_this_18, g_this_19, g_this_20, g_this_21, g_this_22, g_this_23, g_this_24, g_this_25, g_this_26, g_this_27, g_this_28, g_this_29, g_this_30]))]) [0] (by decide) rfl
    have hFc := va_free (wc := [(h_this, .inr (6, [.int f_thrown, g_this_1, .ref h_ticks, .int f_tickMany, g_this_4, g_this_5, g_this_6, g_this_7, g_this_8, g_this_9, g_this_10, g_this_11, g_this_12, g_this_13, g_this_14, g_this_15, g_this_16, g_this_17, g_this_18, g_this_19, g_this_20, g_this_21, g_this_22, g_this_23, g_this_24, g_this_25, g_this_26, g_this_27, g_this_28, g_this_29, g_this_30]))]) hD hS hA [0] rfl
    refine va_calli (va_runV (As := [.int s0, .int 1]) (rest := []) ⟨hx, hb, hml, hown, hts⟩ (c_X6_bad l dC dI cy h_this H.size (g_this_1) (.ref h_ticks) (.int f_tickMany) (g_this_4) (g_this_5) (g_this_6) (g_this_7) (g_this_8) (g_this_9) (g_this_10) (g_this_11) (g_this_12) (g_this_13) (g_this_14) (g_this_15) (g_this_16) (g_this_17) (g_this_18) (g_this_19) (g_this_20) (g_this_21) (g_this_22) (g_this_23) (g_this_24) (g_this_25) (g_this_26) (g_this_27) (g_this_28) (g_this_29) (g_this_30) f_thrown s0 1 _ h) (cwV 2 hts gX6_tick_X6_bad rfl rfl rfl q_X6_bad ⟨Nat.le_of_ble_eq_true rfl, Nat.le_of_ble_eq_true rfl⟩) ⟨fun a U g mk q => by obtain ⟨q0, q1, qP, qK, qD⟩ := q; exact ⟨q0, q1, qP, va_K.moved (u := U) (U := U.calling g mk a) (Vm.Alike.refl U.vm) qK, qD⟩, va_recv hK hP (ci := 6) (q0 := 0) rfl rfl, fun U hU hW => ⟨rfl, by rw [hU], by rw [hU]; exact hPc, va_K.moved hW.alike hK, hDc.weaken (fun _ _ _ _ => trivial)⟩⟩ rfl rfl hl.1 rfl (lv_room (Nat.le_of_ble_eq_true rfl)) dX6_tick_23 ⟨Nat.le_of_ble_eq_true rfl, Nat.le_of_ble_eq_true rfl⟩) hS (fun q _ h => hFc q h) hFc (fun r23 u t H1 locs ht hvm hw hB hz1 hk1 hS => ?_)
    obtain ⟨f_thrown_23, rfl⟩ : ∃ z, z = u := ⟨_, rfl⟩
    obtain ⟨hP1, hK1, hD1⟩ := hB
    rw [ht] at hP1
    obtain ⟨hP, hD⟩ := va_join (wr := [(h_ticks, .inl (cy, 120, .inl a_ticks))]) (w1 := [(h_this, .inr (6, [.int f_thrown_23, g_this_1, .ref h_ticks, .int f_tickMany, g_this_4, g_this_5, g_this_6, g_this_7, g_this_8, g_this_9, g_this_10, g_this_11, g_this_12, g_this_13, g_this_14, g_this_15, g_this_16, g_this_17, g_this_18, g_this_19, g_this_20, g_this_21, g_this_22, g_this_23, g_this_24, g_this_25, g_this_26, g_this_27, g_this_28, g_this_29, g_this_30]))]) hP hD [0] [1] rfl rfl (by decide) (by decide) hk1 hFc hP1 hD1
    replace hP := hP.sub (ws' := [(h_this, .inr (6, [.int f_thrown_23, g_this_1, .ref h_ticks, .int f_tickMany, g_this_4, g_this_5, g_this_6, g_this_7, g_this_8, g_this_9, g_this_10, g_this_11, g_this_12, g_this_13, g_this_14, g_this_15, g_this_16, g_this_17, g_this_18, g_this_19, g_this_20, g_this_21, g_this_22, g_this_23, g_this_24, g_this_25, g_this_26, g_this_27, g_this_28, g_this_29, g_this_30])), (h_ticks, .inl (cy, 120, .inl a_ticks))]) [1, 0] rfl
    replace hD := hD.sub (ws' := [(h_this, .inr (6, [.int f_thrown_23, g_this_1, .ref h_ticks, .int f_tickMany, g_this_4, g_this_5, g_this_6, g_this_7, g_this_8, g_this_9, g_this_10, g_this_11, g_this_12, g_this_13, g_this_14, g_this_15, g_this_16, g_this_17, g_this_18, g_this_19, g_this_20, g_this_21, g_this_22, g_this_23, g_this_24, g_this_25, g_this_26, g_this_27, g_this_28, g_this_29, g_this_30])), (h_ticks, .inl (cy, 120, .inl a_ticks))]) [1, 0] (by decide) rfl
    clear hPc hDc hFc hP1 hK1 hD1 hz1 hk1 hvm
    subst ht
    generalize t.heap = H at hP hS ⊢
    replace h := hw
    clear hw
    refine lv_if_eq (tgt := 31) hx hb dX6_tick_26 (by decide) (fun c26 => ?_) (fun c26 => ?_)
    · replace h := And.left h c26
      refine lv_aload_n hx hb dX6_tick_31 rfl (lv_at hl 0 rfl) ?_
      refine va_get (D := (dC, dI)) (ci := 6) (v := .int f_tickMany) (C := RX6) (T := TX6) (N := 31) hx hb hts in_X6 hown hK hP 0 rfl rfl 3 (by decide) k_68 (fun _ h9 => h9) rfl dX6_tick_32 ?_
      refine lv_bipush (v := 120) hx hb dX6_tick_35 (by decide) ?_
      refine lv_icmp_ne (tgt := 42) hx hb dX6_tick_37 (by decide) (fun c37 => ?_) (fun c37 => ?_)
      · replace h := And.left h c37
        refine lv_aload_n hx hb dX6_tick_42 rfl (lv_at hl 0 rfl) ?_
        refine va_get (D := (dC, dI)) (ci := 6) (v := .ref h_ticks) (C := RX6) (T := TX6) (N := 31) hx hb hts in_X6 hown hK hP 0 rfl rfl 2 (by decide) k_13 (fun _ h9 => h9) rfl dX6_tick_43 ?_
        refine lv_aload_n hx hb dX6_tick_46 rfl (lv_at hl 0 rfl) ?_
        refine va_get (D := (dC, dI)) (ci := 6) (v := .int f_tickMany) (C := RX6) (T := TX6) (N := 31) hx hb hts in_X6 hown hK hP 0 rfl rfl 3 (by decide) k_68 (fun _ h9 => h9) rfl dX6_tick_47 ?_
        refine lv_iload_n hx hb dX6_tick_50 rfl (lv_at hl 1 rfl) ?_
        obtain ⟨b51, h⟩ := h
        refine va_iast hx hb hK hP hD hS 1 0 rfl rfl b51 dX6_tick_51 (fun H locs hP hD hS => ?_)
        have hP : va_P (dC, dI) vwCl [(h_this, .inr (6, [.int f_thrown_23, g_this_1, .ref h_ticks, .int f_tickMany, g_this_4, g_this_5, g_this_6, g_this_7, g_this_8, g_this_9, g_this_10, g_this_11, g_this_12, g_this_13, g_this_14, g_this_15, g_this_16, g_this_17, g_this_18, g_this_19, g_this_20, g_this_21, g_this_22, g_this_23, g_this_24, g_this_25, g_this_26, g_this_27, g_this_28, g_this_29, g_this_30])), (h_ticks, .inl (cy, 120, .inl (upd a_ticks (Int32.toNatClampNeg f_tickMany) x1)))] H := hP
        have hD : va_D A [(h_this, .inr (6, [.int f_thrown_23, g_this_1, .ref h_ticks, .int f_tickMany, g_this_4, g_this_5, g_this_6, g_this_7, g_this_8, g_this_9, g_this_10, g_this_11, g_this_12, g_this_13, g_this_14, g_this_15, g_this_16, g_this_17, g_this_18, g_this_19, g_this_20, g_this_21, g_this_22, g_this_23, g_this_24, g_this_25, g_this_26, g_this_27, g_this_28, g_this_29, g_this_30])), (h_ticks, .inl (cy, 120, .inl (upd a_ticks (Int32.toNatClampNeg f_tickMany) x1)))] := hD
        refine lv_aload_n hx hb dX6_tick_52 rfl (lv_at hl 0 rfl) ?_
        refine lv_dup hx hb dX6_tick_53 rfl ?_
        refine va_get (D := (dC, dI)) (ci := 6) (v := .int f_tickMany) (C := RX6) (T := TX6) (N := 31) hx hb hts in_X6 hown hK hP 0 rfl rfl 3 (by decide) k_68 (fun _ h9 => h9) rfl dX6_tick_54 ?_
        refine lv_iconst (v := 1) hx hb dX6_tick_57 (by decide) ?_
        refine lv_iadd hx hb dX6_tick_58 ?_
        refine va_put (D := (dC, dI)) (ci := 6) (v := .int (f_tickMany + 1)) (ty := .int) (C := RX6) (T := TX6) (N := 31) hx hb hts in_X6 tyX6 tyX6_ok nmX6 hown hK hP hD hS 0 rfl rfl 3 (by decide) k_68 (fun _ h9 => h9) rfl (by decide +kernel) rfl rfl (Nat.le_of_ble_eq_true rfl) dX6_tick_59 (fun H locs hP hD hS => ?_)
        have hP : va_P (dC, dI) vwCl [(h_this, .inr (6, [.int f_thrown_23, g_this_1, .ref h_ticks, .int (f_tickMany + 1), g_this_4, g_this_5, g_this_6, g_this_7, g_this_8, g_this_9, g_this_10, g_this_11, g_this_12, g_this_13, g_this_14, g_this_15, g_this_16, g_this_17, g_this_18, g_this_19, g_this_20, g_this_21, g_this_22, g_this_23, g_this_24, g_this_25, g_this_26, g_this_27, g_this_28, g_this_29, g_this_30])), (h_ticks, .inl (cy, 120, .inl (upd a_ticks (Int32.toNatClampNeg f_tickMany) x1)))] H := hP
        have hD : va_D A [(h_this, .inr (6, [.int f_thrown_23, g_this_1, .ref h_ticks, .int (f_tickMany + 1), g_this_4, g_this_5, g_this_6, g_this_7, g_this_8, g_this_9, g_this_10, g_this_11, g_this_12, g_this_13, g_this_14, g_this_15, g_this_16, g_this_17, g_this_18, g_this_19, g_this_20, g_this_21, g_this_22, g_this_23, g_this_24, g_this_25, g_this_26, g_this_27, g_this_28, g_this_29, g_this_30])), (h_ticks, .inl (cy, 120, .inl (upd a_ticks (Int32.toNatClampNeg f_tickMany) x1)))] := hD
        refine lv_aload_n hx hb dX6_tick_62 rfl (lv_at hl 0 rfl) ?_
        refine va_get (D := (dC, dI)) (ci := 6) (v := .int (f_tickMany + 1)) (C := RX6) (T := TX6) (N := 31) hx hb hts in_X6 hown hK hP 0 rfl rfl 3 (by decide) k_68 (fun _ h9 => h9) rfl dX6_tick_63 ?_
        exact RET (f_tickMany + 1) f_thrown_23 (f_tickMany + 1) (upd a_ticks (Int32.toNatClampNeg f_tickMany) x1) H locs ls 66 dX6_tick_66 h hP hD hS
      · replace h := And.right h c37
        refine lv_iconst (v := (-1)) hx hb dX6_tick_40 (by decide) ?_
        exact RET (-1) f_thrown_23 f_tickMany a_ticks H locs ls 41 dX6_tick_41 h hP hD hS
    · replace h := And.right h c26
      refine lv_iconst (v := 0) hx hb dX6_tick_29 (by decide) ?_
      exact RET 0 f_thrown_23 f_tickMany a_ticks H locs ls 30 dX6_tick_30 h hP hD hS
  have J17 : ∀ (x1 : Int32) (f_thrown : Int32) (f_tickMany : Int32) (a_ticks : Nat → Int32) (H : Heap) (locs : List Loc) (ls : Array Slot), p_X6_tick_J17 f_thrown f_tickMany a_ticks Q x1 → va_P (dC, dI) vwCl [(h_this, .inr (6, [.int f_thrown, g_this_1, .ref h_ticks, .int f_tickMany, g_this_4, g_this_5, g_this_6, g_this_7, g_this_8, g_this_9, g_this_10, g_this_11, g_this_12, g_this_13, g_this_14, g_this_15, g_this_16, g_this_17, g_this_18, g_this_19, g_this_20, g_this_21, g_this_22, g_this_23, g_this_24, g_this_25, g_this_26, g_this_27, g_this_28, g_this_29, g_this_30])), (h_ticks, .inl (cy, 120, .inl a_ticks))] H → va_D A [(h_this, .inr (6, [.int f_thrown, g_this_1, .ref h_ticks, .int f_tickMany, g_this_4, g_this_5, g_this_6, g_this_7, g_this_8, g_this_9, g_this_10, g_this_11, g_this_12, g_this_13, g_this_14, g_this_15, g_this_16, g_this_17, g_this_18, g_this_19, g_this_20, g_this_21, g_this_22, g_this_23, g_this_24, g_this_25, g_this_26, g_this_27, g_this_28, g_this_29, g_this_30])), (h_ticks, .inl (cy, 120, .inl a_ticks))] → va_S A s.heap H locs → lv_has ls 2 [(0, .ref h_this), (1, .int x1)] → W p l e rm_X6_tick s m args below meth c H locs 0 0 QQ (F0 m 17 ls [.ref h_this]) := by
    intro x1 f_thrown f_tickMany a_ticks H locs ls h hP hD hS hl
    unfold p_X6_tick_J17 at h
    refine lv_iconst (v := 1) hx hb dX6_tick_17 (by decide) ?_
    refine lv_goto (tgt := 22) hx hb dX6_tick_18 (by decide) ?_
    exact J22 x1 1 f_thrown f_tickMany a_ticks H locs ls h hP hD hS (lv_sub hl [0, 1] rfl)
  generalize hlo : ([] : List Loc) = locs at hS ⊢
  obtain ⟨H, hH⟩ : ∃ z, z = s.heap := ⟨_, rfl⟩
  rw [show W p l e rm_X6_tick s m args below meth c s.heap = W p l e rm_X6_tick s m args below meth c H by rw [hH]]
  replace hP : va_P (dC, dI) vwCl [(h_this, .inr (6, [.int f_thrown, g_this_1, .ref h_ticks, .int f_tickMany, g_this_4, g_this_5, g_this_6, g_this_7, g_this_8, g_this_9, g_this_10, g_this_11, g_this_12, g_this_13, g_this_14, g_this_15, g_this_16, g_this_17, g_this_18, g_this_19, g_this_20, g_this_21, g_this_22, g_this_23, g_this_24, g_this_25, g_this_26, g_this_27, g_this_28, g_this_29, g_this_30])), (h_ticks, .inl (cy, 120, .inl a_ticks))] H := by rw [hH]; exact hP
  replace hS : va_S A s.heap H locs := by rw [hH]; exact hS
  clear hH hlo
  refine lv_aload_n hx hb dX6_tick_0 rfl (lv_at hl 0 rfl) ?_
  refine lv_iconst (v := 0) hx hb dX6_tick_1 (by decide) ?_
  refine va_put (D := (dC, dI)) (ci := 6) (v := .int 0) (ty := .int) (C := RX6) (T := TX6) (N := 31) hx hb hts in_X6 tyX6 tyX6_ok nmX6 hown hK hP hD hS 0 rfl rfl 0 (by decide) k_58 (fun _ h9 => h9) rfl (by decide +kernel) rfl rfl (Nat.le_of_ble_eq_true rfl) dX6_tick_2 (fun H locs hP hD hS => ?_)
  have hP : va_P (dC, dI) vwCl [(h_this, .inr (6, [.int 0, g_this_1, .ref h_ticks, .int f_tickMany, g_this_4, g_this_5, g_this_6, g_this_7, g_this_8, g_this_9, g_this_10, g_this_11, g_this_12, g_this_13, g_this_14, g_this_15, g_this_16, g_this_17, g_this_18, g_this_19, g_this_20, g_this_21, g_this_22, g_this_23, g_this_24, g_this_25, g_this_26, g_this_27, g_this_28, g_this_29, g_this_30])), (h_ticks, .inl (cy, 120, .inl a_ticks))] H := hP
  have hD : va_D A [(h_this, .inr (6, [.int 0, g_this_1, .ref h_ticks, .int f_tickMany, g_this_4, g_this_5, g_this_6, g_this_7, g_this_8, g_this_9, g_this_10, g_this_11, g_this_12, g_this_13, g_this_14, g_this_15, g_this_16, g_this_17, g_this_18, g_this_19, g_this_20, g_this_21, g_this_22, g_this_23, g_this_24, g_this_25, g_this_26, g_this_27, g_this_28, g_this_29, g_this_30])), (h_ticks, .inl (cy, 120, .inl a_ticks))] := hD
  refine lv_aload_n hx hb dX6_tick_5 rfl (lv_at hl 0 rfl) ?_
  refine lv_iload_n hx hb dX6_tick_6 rfl (lv_at hl 1 rfl) ?_
  refine lv_iconst (v := 1) hx hb dX6_tick_7 (by decide) ?_
  refine lv_icmp_lt (tgt := 17) hx hb dX6_tick_8 (by decide) (fun c8 => ?_) (fun c8 => ?_)
  · replace h := And.left h c8
    exact J17 x1 0 f_tickMany a_ticks H locs ls h hP hD hS (lv_sub hl [0, 1] rfl)
  · replace h := And.right h c8
    refine lv_iload_n hx hb dX6_tick_11 rfl (lv_at hl 1 rfl) ?_
    refine lv_bipush (v := 60) hx hb dX6_tick_12 (by decide) ?_
    refine lv_icmp_le (tgt := 21) hx hb dX6_tick_14 (by decide) (fun c14 => ?_) (fun c14 => ?_)
    · replace h := And.left h c14
      refine lv_iconst (v := 0) hx hb dX6_tick_21 (by decide) ?_
      exact J22 x1 0 0 f_tickMany a_ticks H locs ls h hP hD hS (lv_sub hl [0, 1] rfl)
    · replace h := And.right h c14
      exact J17 x1 0 f_tickMany a_ticks H locs ls h hP hD hS (lv_sub hl [0, 1] rfl)
abbrev rm_X6_cell : Room := { frames := 0, cells := 0, slots := 0, locals := 0 }
theorem q_X6_cell : yX6_cell.cls ≠ "java/lang/invoke/MethodHandle" ∧ yX6_cell.cls ≠ "java/lang/invoke/VarHandle" ∧ (parseMethodDescriptor yX6_cell.desc).map (fun d => d.parameters.length) = some 3 := by decide +kernel
set_option maxHeartbeats 4000000 in
set_option maxRecDepth 100000 in
theorem c_X6_cell (l : Launch) (dC : Nat → ClassId) (dI : Nat → Nat → Nat) (cy : ClassId) (sz : Nat) (x0 : Int32) (x1 : Int32) (x2 : Int32) (Q : Int32 → Prop) (h : p_X6_cell x0 x1 x2 Q) : Met l yX6_cell wsX6_cell rm_X6_cell (va_Pc [.int x0, .int x1, .int x2] (fun U => U.heap.size = sz ∧ va_P (dC, dI) vwCl [] U.heap ∧ va_K (dC, dI) vwCl [(cy, .int)] U ∧ va_D (fun _ => True) [])) (va_Qi (fun (r : Int32) (u : Unit) => Q r) (fun (u : Unit) (t : State) => va_P (dC, dI) vwCl [] t.heap ∧ va_K (dC, dI) vwCl [(cy, .int)] t ∧ va_D (va_A [] sz) []) (va_A [] sz)) 0 0 (va_A [] sz) := by
  refine Met.ofW (cc := cX6_cell) (maxL := 3) (ret := (some .int)) (by decide) rfl ?_
  intro p e s m args below meth c s₁ B hml hv
  obtain ⟨hargs, hsz, hP, hK, hD0⟩ := hv
  have hx := B.exec
  have hb := B.bytes
  have hr := B.returns
  have hts := atoms_spec (ws := wsX6_cell) B.pre
  have hown : s.vm.findClass RX6 = some m.cls := findClass_of_methodNamed B.named
  have hlocks := B.notSynchronized
  subst hsz
  have hD := hD0.self (sz := s.heap.size)
  generalize hAe : va_A [] s.heap.size = A at hD ⊢
  have hA : ∀ q : Nat, s.heap.size ≤ q → A q := fun q h => by rw [← hAe]; exact Or.inr h
  have hS : va_S A s.heap s.heap [] := va_S.rf
  have hl := lv_entry ([.int x0, .int x1, .int x2]) (n := 3) (Nat.le_of_ble_eq_true rfl)
  rw [show entryFrame m args 3 = entryFrame m ([.int x0, .int x1, .int x2] : List Value).toArray 3 by rw [hargs], lg_entry_eq]
  generalize (lg_sl ([.int x0, .int x1, .int x2]) ++ List.replicate (3 - (lg_sl ([.int x0, .int x1, .int x2])).length) Slot.unset).toArray = ls at hl ⊢
  have hl : lv_has ls 3 [(0, .int x0), (1, .int x1), (2, .int x2)] := hl
  have hP : va_P (dC, dI) vwCl [] s.heap := hP
  change W p l e rm_X6_cell s m args below meth c s.heap [] 0 0 _ _
  generalize hQQ : MQ below _ _ _ _ _ _ = QQ
  have RET : ∀ (r : Int32) (H : Heap) (locs : List Loc) (ls : Array Slot) (pc : Nat), decode cX6_cell pc = .ok (.ireturn, 1) → Q r → va_P (dC, dI) vwCl [] H → va_D A [] → va_S A s.heap H locs → W p l e rm_X6_cell s m args below meth c H locs 0 0 QQ (F0 m pc ls [.int r]) := by
    intro r  H locs ls pc hdg hq hP hD hS
    rw [← hQQ]
    exact W.iret (v := r) hx hb hr (fun t ht hW => ⟨⟨r, (), rfl, hq, by rw [ht]; exact hP, va_K.moved hW.alike hK, hD⟩, hS.F ht⟩) hS.2.2 hdg
  clear hQQ
  unfold p_X6_cell at h
  generalize hlo : ([] : List Loc) = locs at hS ⊢
  obtain ⟨H, hH⟩ : ∃ z, z = s.heap := ⟨_, rfl⟩
  rw [show W p l e rm_X6_cell s m args below meth c s.heap = W p l e rm_X6_cell s m args below meth c H by rw [hH]]
  replace hP : va_P (dC, dI) vwCl [] H := by rw [hH]; exact hP
  replace hS : va_S A s.heap H locs := by rw [hH]; exact hS
  clear hH hlo
  refine lv_bipush (v := 12) hx hb dX6_cell_0 (by decide) ?_
  refine lv_iload_n hx hb dX6_cell_2 rfl (lv_at hl 0 rfl) ?_
  refine lv_imul hx hb dX6_cell_3 ?_
  refine lv_iload_n hx hb dX6_cell_4 rfl (lv_at hl 1 rfl) ?_
  refine lv_iadd hx hb dX6_cell_5 ?_
  refine lv_bipush (v := 9) hx hb dX6_cell_6 (by decide) ?_
  refine lv_imul hx hb dX6_cell_8 ?_
  refine lv_iload_n hx hb dX6_cell_9 rfl (lv_at hl 2 rfl) ?_
  refine lv_iadd hx hb dX6_cell_10 ?_
  exact RET ((((12 * x0) + x1) * 9) + x2) H locs ls 11 dX6_cell_11 h hP hD hS
abbrev rm_X6_costOf : Room := { frames := 0, cells := 0, slots := 0, locals := 0 }
theorem q_X6_costOf : yX6_costOf.cls = RX6 ∧ yX6_costOf.cls ≠ "java/lang/invoke/MethodHandle" ∧ yX6_costOf.cls ≠ "java/lang/invoke/VarHandle" ∧ (parseMethodDescriptor yX6_costOf.desc).map (fun d => d.parameters.length) = some 4 := by decide +kernel
set_option maxHeartbeats 4000000 in
set_option maxRecDepth 100000 in
theorem c_X6_costOf (l : Launch) (dC : Nat → ClassId) (dI : Nat → Nat → Nat) (cy : ClassId) (h_this : Nat) (h_taught : Nat) (h_ticks : Nat) (sz : Nat) (g_this_0 g_this_4 g_this_5 g_this_6 g_this_7 g_this_8 g_this_9 g_this_10 g_this_11 g_this_12 g_this_13 g_this_14 g_this_15 g_this_16 g_this_17 g_this_18 g_this_19 g_this_20 g_this_21 g_this_22 g_this_23 g_this_24 g_this_25 g_this_26 g_this_27 g_this_28 g_this_29 g_this_30 : Value) (f_tickMany : Int32) (a_taught : Nat → Int32) (a_ticks : Nat → Int32) (x1 : Int32) (x2 : Int32) (x3 : Int32) (x4 : Int32) (Q : Int32 → Prop) (h : p_X6_costOf f_tickMany a_taught a_ticks x1 x2 x3 x4 Q) : Met l yX6_costOf wsX6_costOf rm_X6_costOf (va_Pc [.ref h_this, .int x1, .int x2, .int x3, .int x4] (fun U => U.heap.size = sz ∧ va_P (dC, dI) vwCl [(h_this, .inr (6, [g_this_0, .ref h_taught, .ref h_ticks, .int f_tickMany, g_this_4, g_this_5, g_this_6, g_this_7, g_this_8, g_this_9, g_this_10, g_this_11, g_this_12, g_this_13, g_this_14, g_this_15, g_this_16, g_this_17, g_this_18, g_this_19, g_this_20, g_this_21, g_this_22, g_this_23, g_this_24, g_this_25, g_this_26, g_this_27, g_this_28, g_this_29, g_this_30])), (h_taught, .inl (cy, 12, .inl a_taught)), (h_ticks, .inl (cy, 120, .inl a_ticks))] U.heap ∧ va_K (dC, dI) vwCl [(cy, .int)] U ∧ va_D (fun _ => True) [(h_this, .inr (6, [g_this_0, .ref h_taught, .ref h_ticks, .int f_tickMany, g_this_4, g_this_5, g_this_6, g_this_7, g_this_8, g_this_9, g_this_10, g_this_11, g_this_12, g_this_13, g_this_14, g_this_15, g_this_16, g_this_17, g_this_18, g_this_19, g_this_20, g_this_21, g_this_22, g_this_23, g_this_24, g_this_25, g_this_26, g_this_27, g_this_28, g_this_29, g_this_30])), (h_taught, .inl (cy, 12, .inl a_taught)), (h_ticks, .inl (cy, 120, .inl a_ticks))])) (va_Qi (fun (r : Int32) (u : Unit) => Q r) (fun (u : Unit) (t : State) => va_P (dC, dI) vwCl [(h_this, .inr (6, [g_this_0, .ref h_taught, .ref h_ticks, .int f_tickMany, g_this_4, g_this_5, g_this_6, g_this_7, g_this_8, g_this_9, g_this_10, g_this_11, g_this_12, g_this_13, g_this_14, g_this_15, g_this_16, g_this_17, g_this_18, g_this_19, g_this_20, g_this_21, g_this_22, g_this_23, g_this_24, g_this_25, g_this_26, g_this_27, g_this_28, g_this_29, g_this_30])), (h_taught, .inl (cy, 12, .inl a_taught)), (h_ticks, .inl (cy, 120, .inl a_ticks))] t.heap ∧ va_K (dC, dI) vwCl [(cy, .int)] t ∧ va_D (va_A [(h_this, .inr (6, [g_this_0, .ref h_taught, .ref h_ticks, .int f_tickMany, g_this_4, g_this_5, g_this_6, g_this_7, g_this_8, g_this_9, g_this_10, g_this_11, g_this_12, g_this_13, g_this_14, g_this_15, g_this_16, g_this_17, g_this_18, g_this_19, g_this_20, g_this_21, g_this_22, g_this_23, g_this_24, g_this_25, g_this_26, g_this_27, g_this_28, g_this_29, g_this_30])), (h_taught, .inl (cy, 12, .inl a_taught)), (h_ticks, .inl (cy, 120, .inl a_ticks))] sz) [(h_this, .inr (6, [g_this_0, .ref h_taught, .ref h_ticks, .int f_tickMany, g_this_4, g_this_5, g_this_6, g_this_7, g_this_8, g_this_9, g_this_10, g_this_11, g_this_12, g_this_13, g_this_14, g_this_15, g_this_16, g_this_17, g_this_18, g_this_19, g_this_20, g_this_21, g_this_22, g_this_23, g_this_24, g_this_25, g_this_26, g_this_27, g_this_28, g_this_29, g_this_30])), (h_taught, .inl (cy, 12, .inl a_taught)), (h_ticks, .inl (cy, 120, .inl a_ticks))]) (va_A [(h_this, .inr (6, [g_this_0, .ref h_taught, .ref h_ticks, .int f_tickMany, g_this_4, g_this_5, g_this_6, g_this_7, g_this_8, g_this_9, g_this_10, g_this_11, g_this_12, g_this_13, g_this_14, g_this_15, g_this_16, g_this_17, g_this_18, g_this_19, g_this_20, g_this_21, g_this_22, g_this_23, g_this_24, g_this_25, g_this_26, g_this_27, g_this_28, g_this_29, g_this_30])), (h_taught, .inl (cy, 12, .inl a_taught)), (h_ticks, .inl (cy, 120, .inl a_ticks))] sz)) 0 0 (va_A [(h_this, .inr (6, [g_this_0, .ref h_taught, .ref h_ticks, .int f_tickMany, g_this_4, g_this_5, g_this_6, g_this_7, g_this_8, g_this_9, g_this_10, g_this_11, g_this_12, g_this_13, g_this_14, g_this_15, g_this_16, g_this_17, g_this_18, g_this_19, g_this_20, g_this_21, g_this_22, g_this_23, g_this_24, g_this_25, g_this_26, g_this_27, g_this_28, g_this_29, g_this_30])), (h_taught, .inl (cy, 12, .inl a_taught)), (h_ticks, .inl (cy, 120, .inl a_ticks))] sz) := by
  refine Met.ofW (cc := cX6_costOf) (maxL := 10) (ret := (some .int)) (by decide) rfl ?_
  intro p e s m args below meth c s₁ B hml hv
  obtain ⟨hargs, hsz, hP, hK, hD0⟩ := hv
  have hx := B.exec
  have hb := B.bytes
  have hr := B.returns
  have hts := atoms_spec (ws := wsX6_costOf) B.pre
  have hown : s.vm.findClass RX6 = some m.cls := findClass_of_methodNamed B.named
  have hlocks := B.notSynchronized
  subst hsz
  have hD := hD0.self (sz := s.heap.size)
  generalize hAe : va_A [(h_this, .inr (6, [g_this_0, .ref h_taught, .ref h_ticks, .int f_tickMany, g_this_4, g_this_5, g_this_6, g_this_7, g_this_8, g_this_9, g_this_10, g_this_11, g_this_12, g_this_13, g_this_14, g_this_15, g_this_16, g_this_17, g_this_18, g_this_19, g_this_20, g_this_21, g_this_22, g_this_23, g_this_24, g_this_25, g_this_26, g_this_27, g_this_28, g_this_29, g_this_30])), (h_taught, .inl (cy, 12, .inl a_taught)), (h_ticks, .inl (cy, 120, .inl a_ticks))] s.heap.size = A at hD ⊢
  have hA : ∀ q : Nat, s.heap.size ≤ q → A q := fun q h => by rw [← hAe]; exact Or.inr h
  have hS : va_S A s.heap s.heap [] := va_S.rf
  have in_X6 : ∀ w ∈ u_ws RX6 TX6 31, w ∈ wsX6_costOf := by decide +kernel
  have k_9 := hts (.fieldLink RX6 9 "ChequeDeskModel" "taught" "[I") (by decide +kernel)
  have k_13 := hts (.fieldLink RX6 13 "ChequeDeskModel" "ticks" "[I") (by decide +kernel)
  have k_68 := hts (.fieldLink RX6 68 "ChequeDeskModel" "tickMany" "I") (by decide +kernel)
  have hl := lv_entry ([.ref h_this, .int x1, .int x2, .int x3, .int x4]) (n := 10) (Nat.le_of_ble_eq_true rfl)
  rw [show entryFrame m args 10 = entryFrame m ([.ref h_this, .int x1, .int x2, .int x3, .int x4] : List Value).toArray 10 by rw [hargs], lg_entry_eq]
  generalize (lg_sl ([.ref h_this, .int x1, .int x2, .int x3, .int x4]) ++ List.replicate (10 - (lg_sl ([.ref h_this, .int x1, .int x2, .int x3, .int x4])).length) Slot.unset).toArray = ls at hl ⊢
  have hl : lv_has ls 10 [(0, .ref h_this), (1, .int x1), (2, .int x2), (3, .int x3), (4, .int x4)] := hl
  have hP : va_P (dC, dI) vwCl [(h_this, .inr (6, [g_this_0, .ref h_taught, .ref h_ticks, .int f_tickMany, g_this_4, g_this_5, g_this_6, g_this_7, g_this_8, g_this_9, g_this_10, g_this_11, g_this_12, g_this_13, g_this_14, g_this_15, g_this_16, g_this_17, g_this_18, g_this_19, g_this_20, g_this_21, g_this_22, g_this_23, g_this_24, g_this_25, g_this_26, g_this_27, g_this_28, g_this_29, g_this_30])), (h_taught, .inl (cy, 12, .inl a_taught)), (h_ticks, .inl (cy, 120, .inl a_ticks))] s.heap := hP
  change W p l e rm_X6_costOf s m args below meth c s.heap [] 0 0 _ _
  generalize hQQ : MQ below _ _ _ _ _ _ = QQ
  have RET : ∀ (r : Int32) (H : Heap) (locs : List Loc) (ls : Array Slot) (pc : Nat), decode cX6_costOf pc = .ok (.ireturn, 1) → Q r → va_P (dC, dI) vwCl [(h_this, .inr (6, [g_this_0, .ref h_taught, .ref h_ticks, .int f_tickMany, g_this_4, g_this_5, g_this_6, g_this_7, g_this_8, g_this_9, g_this_10, g_this_11, g_this_12, g_this_13, g_this_14, g_this_15, g_this_16, g_this_17, g_this_18, g_this_19, g_this_20, g_this_21, g_this_22, g_this_23, g_this_24, g_this_25, g_this_26, g_this_27, g_this_28, g_this_29, g_this_30])), (h_taught, .inl (cy, 12, .inl a_taught)), (h_ticks, .inl (cy, 120, .inl a_ticks))] H → va_D A [(h_this, .inr (6, [g_this_0, .ref h_taught, .ref h_ticks, .int f_tickMany, g_this_4, g_this_5, g_this_6, g_this_7, g_this_8, g_this_9, g_this_10, g_this_11, g_this_12, g_this_13, g_this_14, g_this_15, g_this_16, g_this_17, g_this_18, g_this_19, g_this_20, g_this_21, g_this_22, g_this_23, g_this_24, g_this_25, g_this_26, g_this_27, g_this_28, g_this_29, g_this_30])), (h_taught, .inl (cy, 12, .inl a_taught)), (h_ticks, .inl (cy, 120, .inl a_ticks))] → va_S A s.heap H locs → W p l e rm_X6_costOf s m args below meth c H locs 0 0 QQ (F0 m pc ls [.int r]) := by
    intro r  H locs ls pc hdg hq hP hD hS
    rw [← hQQ]
    exact W.iret (v := r) hx hb hr (fun t ht hW => ⟨⟨r, (), rfl, hq, by rw [ht]; exact hP, va_K.moved hW.alike hK, hD⟩, hS.F ht⟩) hS.2.2 hdg
  clear hQQ
  unfold p_X6_costOf at h
  have L14 : ∀ (x1 : Int32) (x3 : Int32) (x4 : Int32) (K14 : Int32 → Int32 → Int32 → Prop) (n : Nat) (x5 : Int32) (x6 : Int32) (x7 : Int32) (H : Heap) (locs : List Loc) (ls : Array Slot), wl3 (p_X6_costOf_B14 f_tickMany a_ticks x1 x3 x4 K14) n x5 x6 x7 → va_P (dC, dI) vwCl [(h_this, .inr (6, [g_this_0, .ref h_taught, .ref h_ticks, .int f_tickMany, g_this_4, g_this_5, g_this_6, g_this_7, g_this_8, g_this_9, g_this_10, g_this_11, g_this_12, g_this_13, g_this_14, g_this_15, g_this_16, g_this_17, g_this_18, g_this_19, g_this_20, g_this_21, g_this_22, g_this_23, g_this_24, g_this_25, g_this_26, g_this_27, g_this_28, g_this_29, g_this_30])), (h_taught, .inl (cy, 12, .inl a_taught)), (h_ticks, .inl (cy, 120, .inl a_ticks))] H → va_D A [(h_this, .inr (6, [g_this_0, .ref h_taught, .ref h_ticks, .int f_tickMany, g_this_4, g_this_5, g_this_6, g_this_7, g_this_8, g_this_9, g_this_10, g_this_11, g_this_12, g_this_13, g_this_14, g_this_15, g_this_16, g_this_17, g_this_18, g_this_19, g_this_20, g_this_21, g_this_22, g_this_23, g_this_24, g_this_25, g_this_26, g_this_27, g_this_28, g_this_29, g_this_30])), (h_taught, .inl (cy, 12, .inl a_taught)), (h_ticks, .inl (cy, 120, .inl a_ticks))] → va_S A s.heap H locs → lv_has ls 10 [(0, .ref h_this), (1, .int x1), (3, .int x3), (4, .int x4), (5, .int x5), (6, .int x6), (7, .int x7)] → (∀ (x5 : Int32) (x6 : Int32) (x7 : Int32) (H : Heap) (locs : List Loc) (ls : Array Slot), K14 x5 x6 x7 → va_P (dC, dI) vwCl [(h_this, .inr (6, [g_this_0, .ref h_taught, .ref h_ticks, .int f_tickMany, g_this_4, g_this_5, g_this_6, g_this_7, g_this_8, g_this_9, g_this_10, g_this_11, g_this_12, g_this_13, g_this_14, g_this_15, g_this_16, g_this_17, g_this_18, g_this_19, g_this_20, g_this_21, g_this_22, g_this_23, g_this_24, g_this_25, g_this_26, g_this_27, g_this_28, g_this_29, g_this_30])), (h_taught, .inl (cy, 12, .inl a_taught)), (h_ticks, .inl (cy, 120, .inl a_ticks))] H → va_D A [(h_this, .inr (6, [g_this_0, .ref h_taught, .ref h_ticks, .int f_tickMany, g_this_4, g_this_5, g_this_6, g_this_7, g_this_8, g_this_9, g_this_10, g_this_11, g_this_12, g_this_13, g_this_14, g_this_15, g_this_16, g_this_17, g_this_18, g_this_19, g_this_20, g_this_21, g_this_22, g_this_23, g_this_24, g_this_25, g_this_26, g_this_27, g_this_28, g_this_29, g_this_30])), (h_taught, .inl (cy, 12, .inl a_taught)), (h_ticks, .inl (cy, 120, .inl a_ticks))] → va_S A s.heap H locs → lv_has ls 10 [(5, .int x5)] → W p l e rm_X6_costOf s m args below meth c H locs 0 0 QQ (F0 m 95 ls [])) → W p l e rm_X6_costOf s m args below meth c H locs 0 0 QQ (F0 m 14 ls []) := by
    intro x1 x3 x4 K14 n
    induction n with
    | zero => intro x5 x6 x7 H locs ls h; exact False.elim h
    | succ n ih =>
      intro x5 x6 x7 H locs ls h hP hD hS hl hk
      have ih := fun x5 x6 x7 H locs ls h hP hD hS hl => ih x5 x6 x7 H locs ls h hP hD hS hl hk
      replace h : p_X6_costOf_B14 f_tickMany a_ticks x1 x3 x4 K14 (wl3 (p_X6_costOf_B14 f_tickMany a_ticks x1 x3 x4 K14) n) x5 x6 x7 := h
      unfold p_X6_costOf_B14 at h
      have J79 : ∀ (x6 : Int32) (x7 : Int32) (s0 : Int32) (s1 : Int32) (H : Heap) (locs : List Loc) (ls : Array Slot), p_X6_costOf_J79 (wl3 (p_X6_costOf_B14 f_tickMany a_ticks x1 x3 x4 K14) n) x6 x7 s0 s1 → va_P (dC, dI) vwCl [(h_this, .inr (6, [g_this_0, .ref h_taught, .ref h_ticks, .int f_tickMany, g_this_4, g_this_5, g_this_6, g_this_7, g_this_8, g_this_9, g_this_10, g_this_11, g_this_12, g_this_13, g_this_14, g_this_15, g_this_16, g_this_17, g_this_18, g_this_19, g_this_20, g_this_21, g_this_22, g_this_23, g_this_24, g_this_25, g_this_26, g_this_27, g_this_28, g_this_29, g_this_30])), (h_taught, .inl (cy, 12, .inl a_taught)), (h_ticks, .inl (cy, 120, .inl a_ticks))] H → va_D A [(h_this, .inr (6, [g_this_0, .ref h_taught, .ref h_ticks, .int f_tickMany, g_this_4, g_this_5, g_this_6, g_this_7, g_this_8, g_this_9, g_this_10, g_this_11, g_this_12, g_this_13, g_this_14, g_this_15, g_this_16, g_this_17, g_this_18, g_this_19, g_this_20, g_this_21, g_this_22, g_this_23, g_this_24, g_this_25, g_this_26, g_this_27, g_this_28, g_this_29, g_this_30])), (h_taught, .inl (cy, 12, .inl a_taught)), (h_ticks, .inl (cy, 120, .inl a_ticks))] → va_S A s.heap H locs → lv_has ls 10 [(0, .ref h_this), (1, .int x1), (3, .int x3), (4, .int x4), (6, .int x6), (7, .int x7)] → W p l e rm_X6_costOf s m args below meth c H locs 0 0 QQ (F0 m 79 ls [.int s0, .int s1]) := by
        intro x6 x7 s0 s1 H locs ls h hP hD hS hl
        unfold p_X6_costOf_J79 at h
        refine lv_iadd hx hb dX6_costOf_79 ?_
        refine lv_istore (lv' := [(5, .int (s1 + s0)), (0, .ref h_this), (1, .int x1), (3, .int x3), (4, .int x4), (6, .int x6), (7, .int x7)]) hx hb dX6_costOf_80 hl (by decide) rfl (fun ls hl => ?_)
        refine lv_iload hx hb dX6_costOf_82 (lv_at hl 5 rfl) ?_
        refine lv_bipush (v := 10) hx hb dX6_costOf_84 (by decide) ?_
        refine lv_idiv hx hb dX6_costOf_86 (by decide) ?_
        refine lv_istore (lv' := [(6, .int (x6 / 10)), (5, .int (s1 + s0)), (0, .ref h_this), (1, .int x1), (3, .int x3), (4, .int x4), (7, .int x7)]) hx hb dX6_costOf_87 hl (by decide) rfl (fun ls hl => ?_)
        refine lv_iinc (v := x7 + (-1)) (lv' := [(7, .int (x7 + (-1))), (6, .int (x6 / 10)), (5, .int (s1 + s0)), (0, .ref h_this), (1, .int x1), (3, .int x3), (4, .int x4)]) hx hb dX6_costOf_89 hl (k := 6) rfl (by rfl) (by decide) rfl (fun ls hl => ?_)
        refine lv_goto (tgt := 14) hx hb dX6_costOf_92 (by decide) ?_
        exact ih (s1 + s0) (x6 / 10) (x7 + (-1)) H locs ls h hP hD hS (lv_sub hl [3, 4, 5, 6, 2, 1, 0] rfl)
      have J51 : ∀ (x5 : Int32) (x6 : Int32) (x7 : Int32) (s0 : Int32) (H : Heap) (locs : List Loc) (ls : Array Slot), p_X6_costOf_J51 a_ticks (wl3 (p_X6_costOf_B14 f_tickMany a_ticks x1 x3 x4 K14) n) x3 x5 x6 x7 s0 → va_P (dC, dI) vwCl [(h_this, .inr (6, [g_this_0, .ref h_taught, .ref h_ticks, .int f_tickMany, g_this_4, g_this_5, g_this_6, g_this_7, g_this_8, g_this_9, g_this_10, g_this_11, g_this_12, g_this_13, g_this_14, g_this_15, g_this_16, g_this_17, g_this_18, g_this_19, g_this_20, g_this_21, g_this_22, g_this_23, g_this_24, g_this_25, g_this_26, g_this_27, g_this_28, g_this_29, g_this_30])), (h_taught, .inl (cy, 12, .inl a_taught)), (h_ticks, .inl (cy, 120, .inl a_ticks))] H → va_D A [(h_this, .inr (6, [g_this_0, .ref h_taught, .ref h_ticks, .int f_tickMany, g_this_4, g_this_5, g_this_6, g_this_7, g_this_8, g_this_9, g_this_10, g_this_11, g_this_12, g_this_13, g_this_14, g_this_15, g_this_16, g_this_17, g_this_18, g_this_19, g_this_20, g_this_21, g_this_22, g_this_23, g_this_24, g_this_25, g_this_26, g_this_27, g_this_28, g_this_29, g_this_30])), (h_taught, .inl (cy, 12, .inl a_taught)), (h_ticks, .inl (cy, 120, .inl a_ticks))] → va_S A s.heap H locs → lv_has ls 10 [(0, .ref h_this), (1, .int x1), (3, .int x3), (4, .int x4), (5, .int x5), (6, .int x6), (7, .int x7)] → W p l e rm_X6_costOf s m args below meth c H locs 0 0 QQ (F0 m 51 ls [.int s0, .ref h_ticks]) := by
        intro x5 x6 x7 s0 H locs ls h hP hD hS hl
        unfold p_X6_costOf_J51 at h
        obtain ⟨b51, h⟩ := h
        refine va_iald hx hb hK hP 2 0 rfl rfl b51 dX6_costOf_51 ?_
        refine lv_iconst (v := 4) hx hb dX6_costOf_52 (by decide) ?_
        refine lv_iload_n hx hb dX6_costOf_53 rfl (lv_at hl 2 rfl) ?_
        refine lv_iadd hx hb dX6_costOf_54 ?_
        refine lv_iload hx hb dX6_costOf_55 (lv_at hl 5 rfl) ?_
        refine lv_bipush (v := 10) hx hb dX6_costOf_57 (by decide) ?_
        refine my_irem hx hb dX6_costOf_59 (by decide) ?_
        refine lv_imul hx hb dX6_costOf_60 ?_
        refine lv_isub hx hb dX6_costOf_61 ?_
        refine lv_istore (lv' := [(9, .int ((a_ticks (Int32.toNatClampNeg s0)) - ((4 + x3) * (jrem x6 10)))), (0, .ref h_this), (1, .int x1), (3, .int x3), (4, .int x4), (5, .int x5), (6, .int x6), (7, .int x7)]) hx hb dX6_costOf_62 hl (by decide) rfl (fun ls hl => ?_)
        refine lv_iload hx hb dX6_costOf_64 (lv_at hl 5 rfl) ?_
        refine lv_iload hx hb dX6_costOf_66 (lv_at hl 0 rfl) ?_
        refine lv_if_ge (tgt := 77) hx hb dX6_costOf_68 (by decide) (fun c68 => ?_) (fun c68 => ?_)
        · replace h := And.left h c68
          refine lv_iload hx hb dX6_costOf_77 (lv_at hl 0 rfl) ?_
          exact J79 x6 x7 ((a_ticks (Int32.toNatClampNeg s0)) - ((4 + x3) * (jrem x6 10))) x5 H locs ls h hP hD hS (lv_sub hl [1, 2, 3, 4, 6, 7] rfl)
        · replace h := And.right h c68
          refine lv_iload hx hb dX6_costOf_71 (lv_at hl 0 rfl) ?_
          refine my_ineg hx hb dX6_costOf_73 ?_
          refine lv_goto (tgt := 79) hx hb dX6_costOf_74 (by decide) ?_
          exact J79 x6 x7 (jneg ((a_ticks (Int32.toNatClampNeg s0)) - ((4 + x3) * (jrem x6 10)))) x5 H locs ls h hP hD hS (lv_sub hl [1, 2, 3, 4, 6, 7] rfl)
      refine lv_iload hx hb dX6_costOf_14 (lv_at hl 6 rfl) ?_
      refine lv_if_lt (tgt := 95) hx hb dX6_costOf_16 (by decide) (fun c16 => ?_) (fun c16 => ?_)
      · replace h := And.left h c16
        exact hk x5 x6 x7 H locs ls h hP hD hS (lv_sub hl [4] rfl)
      · replace h := And.right h c16
        refine lv_bipush (v := 6) hx hb dX6_costOf_19 (by decide) ?_
        refine lv_iload_n hx hb dX6_costOf_21 rfl (lv_at hl 1 rfl) ?_
        refine lv_imul hx hb dX6_costOf_22 ?_
        refine lv_iload hx hb dX6_costOf_23 (lv_at hl 6 rfl) ?_
        refine lv_iadd hx hb dX6_costOf_25 ?_
        refine lv_istore (lv' := [(8, .int ((6 * x1) + x7)), (0, .ref h_this), (1, .int x1), (3, .int x3), (4, .int x4), (5, .int x5), (6, .int x6), (7, .int x7)]) hx hb dX6_costOf_26 hl (by decide) rfl (fun ls hl => ?_)
        refine lv_aload_n hx hb dX6_costOf_28 rfl (lv_at hl 1 rfl) ?_
        refine va_get (D := (dC, dI)) (ci := 6) (v := .ref h_ticks) (C := RX6) (T := TX6) (N := 31) hx hb hts in_X6 hown hK hP 0 rfl rfl 2 (by decide) k_13 (fun _ h9 => h9) rfl dX6_costOf_29 ?_
        refine lv_iload hx hb dX6_costOf_32 (lv_at hl 4 rfl) ?_
        refine lv_if_eq (tgt := 49) hx hb dX6_costOf_34 (by decide) (fun c34 => ?_) (fun c34 => ?_)
        · replace h := And.left h c34
          refine lv_iload hx hb dX6_costOf_49 (lv_at hl 0 rfl) ?_
          exact J51 x5 x6 x7 ((6 * x1) + x7) H locs ls h hP hD hS (lv_sub hl [1, 2, 3, 4, 5, 6, 7] rfl)
        · replace h := And.right h c34
          refine lv_aload_n hx hb dX6_costOf_37 rfl (lv_at hl 1 rfl) ?_
          refine va_get (D := (dC, dI)) (ci := 6) (v := .int f_tickMany) (C := RX6) (T := TX6) (N := 31) hx hb hts in_X6 hown hK hP 0 rfl rfl 3 (by decide) k_68 (fun _ h9 => h9) rfl dX6_costOf_38 ?_
          refine lv_iconst (v := 1) hx hb dX6_costOf_41 (by decide) ?_
          refine lv_isub hx hb dX6_costOf_42 ?_
          refine lv_iload hx hb dX6_costOf_43 (lv_at hl 0 rfl) ?_
          refine lv_isub hx hb dX6_costOf_45 ?_
          refine lv_goto (tgt := 51) hx hb dX6_costOf_46 (by decide) ?_
          exact J51 x5 x6 x7 ((f_tickMany - 1) - ((6 * x1) + x7)) H locs ls h hP hD hS (lv_sub hl [1, 2, 3, 4, 5, 6, 7] rfl)
  generalize hlo : ([] : List Loc) = locs at hS ⊢
  obtain ⟨H, hH⟩ : ∃ z, z = s.heap := ⟨_, rfl⟩
  rw [show W p l e rm_X6_costOf s m args below meth c s.heap = W p l e rm_X6_costOf s m args below meth c H by rw [hH]]
  replace hP : va_P (dC, dI) vwCl [(h_this, .inr (6, [g_this_0, .ref h_taught, .ref h_ticks, .int f_tickMany, g_this_4, g_this_5, g_this_6, g_this_7, g_this_8, g_this_9, g_this_10, g_this_11, g_this_12, g_this_13, g_this_14, g_this_15, g_this_16, g_this_17, g_this_18, g_this_19, g_this_20, g_this_21, g_this_22, g_this_23, g_this_24, g_this_25, g_this_26, g_this_27, g_this_28, g_this_29, g_this_30])), (h_taught, .inl (cy, 12, .inl a_taught)), (h_ticks, .inl (cy, 120, .inl a_ticks))] H := by rw [hH]; exact hP
  replace hS : va_S A s.heap H locs := by rw [hH]; exact hS
  clear hH hlo
  refine lv_iconst (v := 0) hx hb dX6_costOf_0 (by decide) ?_
  refine lv_istore (lv' := [(5, .int 0), (0, .ref h_this), (1, .int x1), (2, .int x2), (3, .int x3), (4, .int x4)]) hx hb dX6_costOf_1 hl (by decide) rfl (fun ls hl => ?_)
  refine lv_aload_n hx hb dX6_costOf_3 rfl (lv_at hl 1 rfl) ?_
  refine va_get (D := (dC, dI)) (ci := 6) (v := .ref h_taught) (C := RX6) (T := TX6) (N := 31) hx hb hts in_X6 hown hK hP 0 rfl rfl 1 (by decide) k_9 (fun _ h9 => h9) rfl dX6_costOf_4 ?_
  refine lv_iload_n hx hb dX6_costOf_7 rfl (lv_at hl 3 rfl) ?_
  obtain ⟨b8, h⟩ := h
  refine va_iald hx hb hK hP 1 0 rfl rfl b8 dX6_costOf_8 ?_
  refine lv_istore (lv' := [(6, .int (a_taught (Int32.toNatClampNeg x2))), (5, .int 0), (0, .ref h_this), (1, .int x1), (2, .int x2), (3, .int x3), (4, .int x4)]) hx hb dX6_costOf_9 hl (by decide) rfl (fun ls hl => ?_)
  refine lv_iconst (v := 5) hx hb dX6_costOf_11 (by decide) ?_
  refine lv_istore (lv' := [(7, .int 5), (6, .int (a_taught (Int32.toNatClampNeg x2))), (5, .int 0), (0, .ref h_this), (1, .int x1), (2, .int x2), (3, .int x3), (4, .int x4)]) hx hb dX6_costOf_12 hl (by decide) rfl (fun ls hl => ?_)
  obtain ⟨n14, h⟩ := h
  refine L14 x1 x3 x4 _ n14 0 (a_taught (Int32.toNatClampNeg x2)) 5 H locs ls h hP hD hS (lv_sub hl [3, 4, 6, 7, 2, 1, 0] rfl) (fun x5_95 x6_95 x7_95 H locs ls h hP hD hS hl => ?_)
  refine lv_iload hx hb dX6_costOf_95 (lv_at hl 0 rfl) ?_
  exact RET x5_95 H locs ls 97 dX6_costOf_97 h hP hD hS
abbrev rm_X6_fills : Room := { frames := 1, cells := 0, slots := 0, locals := 29 }
theorem q_X6_fills : yX6_fills.cls = RX6 ∧ yX6_fills.cls ≠ "java/lang/invoke/MethodHandle" ∧ yX6_fills.cls ≠ "java/lang/invoke/VarHandle" ∧ (parseMethodDescriptor yX6_fills.desc).map (fun d => d.parameters.length) = some 1 := by decide +kernel
set_option maxHeartbeats 4000000 in
set_option maxRecDepth 100000 in
theorem c_X6_fills (l : Launch) (dC : Nat → ClassId) (dI : Nat → Nat → Nat) (cy : ClassId) (h_this : Nat) (h_costs : Nat) (h_taught : Nat) (h_ticks : Nat) (sz : Nat) (g_this_0 g_this_5 g_this_7 g_this_8 g_this_9 g_this_10 g_this_11 g_this_12 g_this_13 g_this_14 g_this_15 g_this_16 g_this_17 g_this_18 g_this_19 g_this_20 g_this_21 g_this_22 g_this_23 g_this_24 g_this_25 g_this_26 g_this_27 g_this_28 g_this_29 g_this_30 : Value) (f_tickMany : Int32) (f_places : Int32) (a_costs : Nat → Int32) (a_taught : Nat → Int32) (a_ticks : Nat → Int32) (x1 : Int32) (Q : (Nat → Int32) → Prop) (h : p_X6_fills f_tickMany f_places a_costs a_taught a_ticks x1 Q) : Met l yX6_fills wsX6_fills rm_X6_fills (va_Pc [.ref h_this, .int x1] (fun U => U.heap.size = sz ∧ va_P (dC, dI) vwCl [(h_this, .inr (6, [g_this_0, .ref h_taught, .ref h_ticks, .int f_tickMany, .ref h_costs, g_this_5, .int f_places, g_this_7, g_this_8, g_this_9, g_this_10, g_this_11, g_this_12, g_this_13, g_this_14, g_this_15, g_this_16, g_this_17, g_this_18, g_this_19, g_this_20, g_this_21, g_this_22, g_this_23, g_this_24, g_this_25, g_this_26, g_this_27, g_this_28, g_this_29, g_this_30])), (h_costs, .inl (cy, 2160, .inl a_costs)), (h_taught, .inl (cy, 12, .inl a_taught)), (h_ticks, .inl (cy, 120, .inl a_ticks))] U.heap ∧ va_K (dC, dI) vwCl [(cy, .int)] U ∧ va_D (fun _ => True) [(h_this, .inr (6, [g_this_0, .ref h_taught, .ref h_ticks, .int f_tickMany, .ref h_costs, g_this_5, .int f_places, g_this_7, g_this_8, g_this_9, g_this_10, g_this_11, g_this_12, g_this_13, g_this_14, g_this_15, g_this_16, g_this_17, g_this_18, g_this_19, g_this_20, g_this_21, g_this_22, g_this_23, g_this_24, g_this_25, g_this_26, g_this_27, g_this_28, g_this_29, g_this_30])), (h_costs, .inl (cy, 2160, .inl a_costs)), (h_taught, .inl (cy, 12, .inl a_taught)), (h_ticks, .inl (cy, 120, .inl a_ticks))])) (va_Qv (fun (u : (Nat → Int32)) => Q u) (fun (u : (Nat → Int32)) (t : State) => va_P (dC, dI) vwCl [(h_this, .inr (6, [g_this_0, .ref h_taught, .ref h_ticks, .int f_tickMany, .ref h_costs, g_this_5, .int f_places, g_this_7, g_this_8, g_this_9, g_this_10, g_this_11, g_this_12, g_this_13, g_this_14, g_this_15, g_this_16, g_this_17, g_this_18, g_this_19, g_this_20, g_this_21, g_this_22, g_this_23, g_this_24, g_this_25, g_this_26, g_this_27, g_this_28, g_this_29, g_this_30])), (h_costs, .inl (cy, 2160, .inl u)), (h_taught, .inl (cy, 12, .inl a_taught)), (h_ticks, .inl (cy, 120, .inl a_ticks))] t.heap ∧ va_K (dC, dI) vwCl [(cy, .int)] t ∧ va_D (va_A [(h_this, .inr (6, [g_this_0, .ref h_taught, .ref h_ticks, .int f_tickMany, .ref h_costs, g_this_5, .int f_places, g_this_7, g_this_8, g_this_9, g_this_10, g_this_11, g_this_12, g_this_13, g_this_14, g_this_15, g_this_16, g_this_17, g_this_18, g_this_19, g_this_20, g_this_21, g_this_22, g_this_23, g_this_24, g_this_25, g_this_26, g_this_27, g_this_28, g_this_29, g_this_30])), (h_costs, .inl (cy, 2160, .inl a_costs)), (h_taught, .inl (cy, 12, .inl a_taught)), (h_ticks, .inl (cy, 120, .inl a_ticks))] sz) [(h_this, .inr (6, [g_this_0, .ref h_taught, .ref h_ticks, .int f_tickMany, .ref h_costs, g_this_5, .int f_places, g_this_7, g_this_8, g_this_9, g_this_10, g_this_11, g_this_12, g_this_13, g_this_14, g_this_15, g_this_16, g_this_17, g_this_18, g_this_19, g_this_20, g_this_21, g_this_22, g_this_23, g_this_24, g_this_25, g_this_26, g_this_27, g_this_28, g_this_29, g_this_30])), (h_costs, .inl (cy, 2160, .inl u)), (h_taught, .inl (cy, 12, .inl a_taught)), (h_ticks, .inl (cy, 120, .inl a_ticks))]) (va_A [(h_this, .inr (6, [g_this_0, .ref h_taught, .ref h_ticks, .int f_tickMany, .ref h_costs, g_this_5, .int f_places, g_this_7, g_this_8, g_this_9, g_this_10, g_this_11, g_this_12, g_this_13, g_this_14, g_this_15, g_this_16, g_this_17, g_this_18, g_this_19, g_this_20, g_this_21, g_this_22, g_this_23, g_this_24, g_this_25, g_this_26, g_this_27, g_this_28, g_this_29, g_this_30])), (h_costs, .inl (cy, 2160, .inl a_costs)), (h_taught, .inl (cy, 12, .inl a_taught)), (h_ticks, .inl (cy, 120, .inl a_ticks))] sz)) 0 0 (va_A [(h_this, .inr (6, [g_this_0, .ref h_taught, .ref h_ticks, .int f_tickMany, .ref h_costs, g_this_5, .int f_places, g_this_7, g_this_8, g_this_9, g_this_10, g_this_11, g_this_12, g_this_13, g_this_14, g_this_15, g_this_16, g_this_17, g_this_18, g_this_19, g_this_20, g_this_21, g_this_22, g_this_23, g_this_24, g_this_25, g_this_26, g_this_27, g_this_28, g_this_29, g_this_30])), (h_costs, .inl (cy, 2160, .inl a_costs)), (h_taught, .inl (cy, 12, .inl a_taught)), (h_ticks, .inl (cy, 120, .inl a_ticks))] sz) := by
  refine Met.ofW (cc := cX6_fills) (maxL := 5) (ret := none) (by decide) rfl ?_
  intro p e s m args below meth c s₁ B hml hv
  obtain ⟨hargs, hsz, hP, hK, hD0⟩ := hv
  have hx := B.exec
  have hb := B.bytes
  have hr := B.returns
  have hts := atoms_spec (ws := wsX6_fills) B.pre
  have hown : s.vm.findClass RX6 = some m.cls := findClass_of_methodNamed B.named
  have hlocks := B.notSynchronized
  subst hsz
  have hD := hD0.self (sz := s.heap.size)
  generalize hAe : va_A [(h_this, .inr (6, [g_this_0, .ref h_taught, .ref h_ticks, .int f_tickMany, .ref h_costs, g_this_5, .int f_places, g_this_7, g_this_8, g_this_9, g_this_10, g_this_11, g_this_12, g_this_13, g_this_14, g_this_15, g_this_16, g_this_17, g_this_18, g_this_19, g_this_20, g_this_21, g_this_22, g_this_23, g_this_24, g_this_25, g_this_26, g_this_27, g_this_28, g_this_29, g_this_30])), (h_costs, .inl (cy, 2160, .inl a_costs)), (h_taught, .inl (cy, 12, .inl a_taught)), (h_ticks, .inl (cy, 120, .inl a_ticks))] s.heap.size = A at hD ⊢
  have hA : ∀ q : Nat, s.heap.size ≤ q → A q := fun q h => by rw [← hAe]; exact Or.inr h
  have hS : va_S A s.heap s.heap [] := va_S.rf
  have in_X6 : ∀ w ∈ u_ws RX6 TX6 31, w ∈ wsX6_fills := by decide +kernel
  have k_16 := hts (.fieldLink RX6 16 "ChequeDeskModel" "costs" "[I") (by decide +kernel)
  have k_71 := hts (.fieldLink RX6 71 "ChequeDeskModel" "places" "I") (by decide +kernel)
  have hl := lv_entry ([.ref h_this, .int x1]) (n := 5) (Nat.le_of_ble_eq_true rfl)
  rw [show entryFrame m args 5 = entryFrame m ([.ref h_this, .int x1] : List Value).toArray 5 by rw [hargs], lg_entry_eq]
  generalize (lg_sl ([.ref h_this, .int x1]) ++ List.replicate (5 - (lg_sl ([.ref h_this, .int x1])).length) Slot.unset).toArray = ls at hl ⊢
  have hl : lv_has ls 5 [(0, .ref h_this), (1, .int x1)] := hl
  have hP : va_P (dC, dI) vwCl [(h_this, .inr (6, [g_this_0, .ref h_taught, .ref h_ticks, .int f_tickMany, .ref h_costs, g_this_5, .int f_places, g_this_7, g_this_8, g_this_9, g_this_10, g_this_11, g_this_12, g_this_13, g_this_14, g_this_15, g_this_16, g_this_17, g_this_18, g_this_19, g_this_20, g_this_21, g_this_22, g_this_23, g_this_24, g_this_25, g_this_26, g_this_27, g_this_28, g_this_29, g_this_30])), (h_costs, .inl (cy, 2160, .inl a_costs)), (h_taught, .inl (cy, 12, .inl a_taught)), (h_ticks, .inl (cy, 120, .inl a_ticks))] s.heap := hP
  change W p l e rm_X6_fills s m args below meth c s.heap [] 0 0 _ _
  generalize hQQ : MQ below _ _ _ _ _ _ = QQ
  have RET : ∀ (a_costs : Nat → Int32) (H : Heap) (locs : List Loc) (ls : Array Slot) (pc : Nat), decode cX6_fills pc = .ok (.return_, 1) → Q a_costs → va_P (dC, dI) vwCl [(h_this, .inr (6, [g_this_0, .ref h_taught, .ref h_ticks, .int f_tickMany, .ref h_costs, g_this_5, .int f_places, g_this_7, g_this_8, g_this_9, g_this_10, g_this_11, g_this_12, g_this_13, g_this_14, g_this_15, g_this_16, g_this_17, g_this_18, g_this_19, g_this_20, g_this_21, g_this_22, g_this_23, g_this_24, g_this_25, g_this_26, g_this_27, g_this_28, g_this_29, g_this_30])), (h_costs, .inl (cy, 2160, .inl a_costs)), (h_taught, .inl (cy, 12, .inl a_taught)), (h_ticks, .inl (cy, 120, .inl a_ticks))] H → va_D A [(h_this, .inr (6, [g_this_0, .ref h_taught, .ref h_ticks, .int f_tickMany, .ref h_costs, g_this_5, .int f_places, g_this_7, g_this_8, g_this_9, g_this_10, g_this_11, g_this_12, g_this_13, g_this_14, g_this_15, g_this_16, g_this_17, g_this_18, g_this_19, g_this_20, g_this_21, g_this_22, g_this_23, g_this_24, g_this_25, g_this_26, g_this_27, g_this_28, g_this_29, g_this_30])), (h_costs, .inl (cy, 2160, .inl a_costs)), (h_taught, .inl (cy, 12, .inl a_taught)), (h_ticks, .inl (cy, 120, .inl a_ticks))] → va_S A s.heap H locs → W p l e rm_X6_fills s m args below meth c H locs 0 0 QQ (F0 m pc ls []) := by
    intro a_costs H locs ls pc hdg hq hP hD hS
    rw [← hQQ]
    exact W.vret hx hb hr (fun t ht hW => ⟨⟨a_costs, rfl, hq, by rw [ht]; exact hP, va_K.moved hW.alike hK, hD⟩, hS.F ht⟩) hS.2.2 hdg
  clear hQQ
  unfold p_X6_fills at h
  have L2 : ∀ (x1 : Int32) (K2 : Int32 → (Nat → Int32) → Prop) (n : Nat) (x2 : Int32) (a_costs : Nat → Int32) (H : Heap) (locs : List Loc) (ls : Array Slot), wl2 (p_X6_fills_B2 f_tickMany f_places a_taught a_ticks x1 K2) n x2 a_costs → va_P (dC, dI) vwCl [(h_this, .inr (6, [g_this_0, .ref h_taught, .ref h_ticks, .int f_tickMany, .ref h_costs, g_this_5, .int f_places, g_this_7, g_this_8, g_this_9, g_this_10, g_this_11, g_this_12, g_this_13, g_this_14, g_this_15, g_this_16, g_this_17, g_this_18, g_this_19, g_this_20, g_this_21, g_this_22, g_this_23, g_this_24, g_this_25, g_this_26, g_this_27, g_this_28, g_this_29, g_this_30])), (h_costs, .inl (cy, 2160, .inl a_costs)), (h_taught, .inl (cy, 12, .inl a_taught)), (h_ticks, .inl (cy, 120, .inl a_ticks))] H → va_D A [(h_this, .inr (6, [g_this_0, .ref h_taught, .ref h_ticks, .int f_tickMany, .ref h_costs, g_this_5, .int f_places, g_this_7, g_this_8, g_this_9, g_this_10, g_this_11, g_this_12, g_this_13, g_this_14, g_this_15, g_this_16, g_this_17, g_this_18, g_this_19, g_this_20, g_this_21, g_this_22, g_this_23, g_this_24, g_this_25, g_this_26, g_this_27, g_this_28, g_this_29, g_this_30])), (h_costs, .inl (cy, 2160, .inl a_costs)), (h_taught, .inl (cy, 12, .inl a_taught)), (h_ticks, .inl (cy, 120, .inl a_ticks))] → va_S A s.heap H locs → lv_has ls 5 [(0, .ref h_this), (1, .int x1), (2, .int x2)] → (∀ (x2 : Int32) (a_costs : Nat → Int32) (H : Heap) (locs : List Loc) (ls : Array Slot), K2 x2 a_costs → va_P (dC, dI) vwCl [(h_this, .inr (6, [g_this_0, .ref h_taught, .ref h_ticks, .int f_tickMany, .ref h_costs, g_this_5, .int f_places, g_this_7, g_this_8, g_this_9, g_this_10, g_this_11, g_this_12, g_this_13, g_this_14, g_this_15, g_this_16, g_this_17, g_this_18, g_this_19, g_this_20, g_this_21, g_this_22, g_this_23, g_this_24, g_this_25, g_this_26, g_this_27, g_this_28, g_this_29, g_this_30])), (h_costs, .inl (cy, 2160, .inl a_costs)), (h_taught, .inl (cy, 12, .inl a_taught)), (h_ticks, .inl (cy, 120, .inl a_ticks))] H → va_D A [(h_this, .inr (6, [g_this_0, .ref h_taught, .ref h_ticks, .int f_tickMany, .ref h_costs, g_this_5, .int f_places, g_this_7, g_this_8, g_this_9, g_this_10, g_this_11, g_this_12, g_this_13, g_this_14, g_this_15, g_this_16, g_this_17, g_this_18, g_this_19, g_this_20, g_this_21, g_this_22, g_this_23, g_this_24, g_this_25, g_this_26, g_this_27, g_this_28, g_this_29, g_this_30])), (h_costs, .inl (cy, 2160, .inl a_costs)), (h_taught, .inl (cy, 12, .inl a_taught)), (h_ticks, .inl (cy, 120, .inl a_ticks))] → va_S A s.heap H locs → lv_has ls 5 [] → W p l e rm_X6_fills s m args below meth c H locs 0 0 QQ (F0 m 67 ls [])) → W p l e rm_X6_fills s m args below meth c H locs 0 0 QQ (F0 m 2 ls []) := by
    intro x1 K2 n
    induction n with
    | zero => intro x2 a_costs H locs ls h; exact False.elim h
    | succ n ih =>
      intro x2 a_costs H locs ls h hP hD hS hl hk
      have ih := fun x2 a_costs H locs ls h hP hD hS hl => ih x2 a_costs H locs ls h hP hD hS hl hk
      replace h : p_X6_fills_B2 f_tickMany f_places a_taught a_ticks x1 K2 (wl2 (p_X6_fills_B2 f_tickMany f_places a_taught a_ticks x1 K2) n) x2 a_costs := h
      unfold p_X6_fills_B2 at h
      have L12 : ∀ (x1 : Int32) (x2 : Int32) (K12 : Int32 → (Nat → Int32) → Prop) (n : Nat) (x3 : Int32) (a_costs : Nat → Int32) (H : Heap) (locs : List Loc) (ls : Array Slot), wl2 (p_X6_fills_B12 f_tickMany a_taught a_ticks x1 x2 K12) n x3 a_costs → va_P (dC, dI) vwCl [(h_this, .inr (6, [g_this_0, .ref h_taught, .ref h_ticks, .int f_tickMany, .ref h_costs, g_this_5, .int f_places, g_this_7, g_this_8, g_this_9, g_this_10, g_this_11, g_this_12, g_this_13, g_this_14, g_this_15, g_this_16, g_this_17, g_this_18, g_this_19, g_this_20, g_this_21, g_this_22, g_this_23, g_this_24, g_this_25, g_this_26, g_this_27, g_this_28, g_this_29, g_this_30])), (h_costs, .inl (cy, 2160, .inl a_costs)), (h_taught, .inl (cy, 12, .inl a_taught)), (h_ticks, .inl (cy, 120, .inl a_ticks))] H → va_D A [(h_this, .inr (6, [g_this_0, .ref h_taught, .ref h_ticks, .int f_tickMany, .ref h_costs, g_this_5, .int f_places, g_this_7, g_this_8, g_this_9, g_this_10, g_this_11, g_this_12, g_this_13, g_this_14, g_this_15, g_this_16, g_this_17, g_this_18, g_this_19, g_this_20, g_this_21, g_this_22, g_this_23, g_this_24, g_this_25, g_this_26, g_this_27, g_this_28, g_this_29, g_this_30])), (h_costs, .inl (cy, 2160, .inl a_costs)), (h_taught, .inl (cy, 12, .inl a_taught)), (h_ticks, .inl (cy, 120, .inl a_ticks))] → va_S A s.heap H locs → lv_has ls 5 [(0, .ref h_this), (1, .int x1), (2, .int x2), (3, .int x3)] → (∀ (x3 : Int32) (a_costs : Nat → Int32) (H : Heap) (locs : List Loc) (ls : Array Slot), K12 x3 a_costs → va_P (dC, dI) vwCl [(h_this, .inr (6, [g_this_0, .ref h_taught, .ref h_ticks, .int f_tickMany, .ref h_costs, g_this_5, .int f_places, g_this_7, g_this_8, g_this_9, g_this_10, g_this_11, g_this_12, g_this_13, g_this_14, g_this_15, g_this_16, g_this_17, g_this_18, g_this_19, g_this_20, g_this_21, g_this_22, g_this_23, g_this_24, g_this_25, g_this_26, g_this_27, g_this_28, g_this_29, g_this_30])), (h_costs, .inl (cy, 2160, .inl a_costs)), (h_taught, .inl (cy, 12, .inl a_taught)), (h_ticks, .inl (cy, 120, .inl a_ticks))] H → va_D A [(h_this, .inr (6, [g_this_0, .ref h_taught, .ref h_ticks, .int f_tickMany, .ref h_costs, g_this_5, .int f_places, g_this_7, g_this_8, g_this_9, g_this_10, g_this_11, g_this_12, g_this_13, g_this_14, g_this_15, g_this_16, g_this_17, g_this_18, g_this_19, g_this_20, g_this_21, g_this_22, g_this_23, g_this_24, g_this_25, g_this_26, g_this_27, g_this_28, g_this_29, g_this_30])), (h_costs, .inl (cy, 2160, .inl a_costs)), (h_taught, .inl (cy, 12, .inl a_taught)), (h_ticks, .inl (cy, 120, .inl a_ticks))] → va_S A s.heap H locs → lv_has ls 5 [(0, .ref h_this), (1, .int x1), (2, .int x2)] → W p l e rm_X6_fills s m args below meth c H locs 0 0 QQ (F0 m 61 ls [])) → W p l e rm_X6_fills s m args below meth c H locs 0 0 QQ (F0 m 12 ls []) := by
        intro x1 x2 K12 n
        induction n with
        | zero => intro x3 a_costs H locs ls h; exact False.elim h
        | succ n ih =>
          intro x3 a_costs H locs ls h hP hD hS hl hk
          have ih := fun x3 a_costs H locs ls h hP hD hS hl => ih x3 a_costs H locs ls h hP hD hS hl hk
          replace h : p_X6_fills_B12 f_tickMany a_taught a_ticks x1 x2 K12 (wl2 (p_X6_fills_B12 f_tickMany a_taught a_ticks x1 x2 K12) n) x3 a_costs := h
          unfold p_X6_fills_B12 at h
          have L21 : ∀ (x1 : Int32) (x2 : Int32) (x3 : Int32) (K21 : Int32 → (Nat → Int32) → Prop) (n : Nat) (x4 : Int32) (a_costs : Nat → Int32) (H : Heap) (locs : List Loc) (ls : Array Slot), wl2 (p_X6_fills_B21 f_tickMany a_taught a_ticks x1 x2 x3 K21) n x4 a_costs → va_P (dC, dI) vwCl [(h_this, .inr (6, [g_this_0, .ref h_taught, .ref h_ticks, .int f_tickMany, .ref h_costs, g_this_5, .int f_places, g_this_7, g_this_8, g_this_9, g_this_10, g_this_11, g_this_12, g_this_13, g_this_14, g_this_15, g_this_16, g_this_17, g_this_18, g_this_19, g_this_20, g_this_21, g_this_22, g_this_23, g_this_24, g_this_25, g_this_26, g_this_27, g_this_28, g_this_29, g_this_30])), (h_costs, .inl (cy, 2160, .inl a_costs)), (h_taught, .inl (cy, 12, .inl a_taught)), (h_ticks, .inl (cy, 120, .inl a_ticks))] H → va_D A [(h_this, .inr (6, [g_this_0, .ref h_taught, .ref h_ticks, .int f_tickMany, .ref h_costs, g_this_5, .int f_places, g_this_7, g_this_8, g_this_9, g_this_10, g_this_11, g_this_12, g_this_13, g_this_14, g_this_15, g_this_16, g_this_17, g_this_18, g_this_19, g_this_20, g_this_21, g_this_22, g_this_23, g_this_24, g_this_25, g_this_26, g_this_27, g_this_28, g_this_29, g_this_30])), (h_costs, .inl (cy, 2160, .inl a_costs)), (h_taught, .inl (cy, 12, .inl a_taught)), (h_ticks, .inl (cy, 120, .inl a_ticks))] → va_S A s.heap H locs → lv_has ls 5 [(0, .ref h_this), (1, .int x1), (2, .int x2), (3, .int x3), (4, .int x4)] → (∀ (x4 : Int32) (a_costs : Nat → Int32) (H : Heap) (locs : List Loc) (ls : Array Slot), K21 x4 a_costs → va_P (dC, dI) vwCl [(h_this, .inr (6, [g_this_0, .ref h_taught, .ref h_ticks, .int f_tickMany, .ref h_costs, g_this_5, .int f_places, g_this_7, g_this_8, g_this_9, g_this_10, g_this_11, g_this_12, g_this_13, g_this_14, g_this_15, g_this_16, g_this_17, g_this_18, g_this_19, g_this_20, g_this_21, g_this_22, g_this_23, g_this_24, g_this_25, g_this_26, g_this_27, g_this_28, g_this_29, g_this_30])), (h_costs, .inl (cy, 2160, .inl a_costs)), (h_taught, .inl (cy, 12, .inl a_taught)), (h_ticks, .inl (cy, 120, .inl a_ticks))] H → va_D A [(h_this, .inr (6, [g_this_0, .ref h_taught, .ref h_ticks, .int f_tickMany, .ref h_costs, g_this_5, .int f_places, g_this_7, g_this_8, g_this_9, g_this_10, g_this_11, g_this_12, g_this_13, g_this_14, g_this_15, g_this_16, g_this_17, g_this_18, g_this_19, g_this_20, g_this_21, g_this_22, g_this_23, g_this_24, g_this_25, g_this_26, g_this_27, g_this_28, g_this_29, g_this_30])), (h_costs, .inl (cy, 2160, .inl a_costs)), (h_taught, .inl (cy, 12, .inl a_taught)), (h_ticks, .inl (cy, 120, .inl a_ticks))] → va_S A s.heap H locs → lv_has ls 5 [(0, .ref h_this), (1, .int x1), (2, .int x2), (3, .int x3)] → W p l e rm_X6_fills s m args below meth c H locs 0 0 QQ (F0 m 55 ls [])) → W p l e rm_X6_fills s m args below meth c H locs 0 0 QQ (F0 m 21 ls []) := by
            intro x1 x2 x3 K21 n
            induction n with
            | zero => intro x4 a_costs H locs ls h; exact False.elim h
            | succ n ih =>
              intro x4 a_costs H locs ls h hP hD hS hl hk
              have ih := fun x4 a_costs H locs ls h hP hD hS hl => ih x4 a_costs H locs ls h hP hD hS hl hk
              replace h : p_X6_fills_B21 f_tickMany a_taught a_ticks x1 x2 x3 K21 (wl2 (p_X6_fills_B21 f_tickMany a_taught a_ticks x1 x2 x3 K21) n) x4 a_costs := h
              unfold p_X6_fills_B21 at h
              refine lv_iload hx hb dX6_fills_21 (lv_at hl 4 rfl) ?_
              refine lv_bipush (v := 9) hx hb dX6_fills_23 (by decide) ?_
              refine lv_icmp_ge (tgt := 55) hx hb dX6_fills_25 (by decide) (fun c25 => ?_) (fun c25 => ?_)
              · replace h := And.left h c25
                exact hk x4 a_costs H locs ls h hP hD hS (lv_sub hl [0, 1, 2, 3] rfl)
              · replace h := And.right h c25
                refine lv_aload_n hx hb dX6_fills_28 rfl (lv_at hl 0 rfl) ?_
                refine va_get (D := (dC, dI)) (ci := 6) (v := .ref h_costs) (C := RX6) (T := TX6) (N := 31) hx hb hts in_X6 hown hK hP 0 rfl rfl 4 (by decide) k_16 (fun _ h9 => h9) rfl dX6_fills_29 ?_
                refine lv_iload_n hx hb dX6_fills_32 rfl (lv_at hl 2 rfl) ?_
                refine lv_iload_n hx hb dX6_fills_33 rfl (lv_at hl 3 rfl) ?_
                refine lv_iload hx hb dX6_fills_34 (lv_at hl 4 rfl) ?_
                have hPc := hP.sub (ws' := []) [] rfl
                have hDc := hD.sub (ws' := []) [] (by decide) rfl
                have hFc := va_free (wc := []) hD hS hA [] rfl
                refine va_calli (va_runS (As := [.int x2, .int x3, .int x4]) (rest := [.ref h_costs]) ⟨hx, hb, hml, hown, hts⟩ (c_X6_cell l dC dI cy  H.size   x2 x3 x4 _ h) (va_cwS 3 hts gX6_fills_X6_cell rfl rfl rfl q_X6_cell ⟨Nat.le_of_ble_eq_true rfl, Nat.le_of_ble_eq_true rfl⟩) ⟨fun a U g mk q => by obtain ⟨q0, q1, qP, qK, qD⟩ := q; exact ⟨q0, q1, qP, va_K.moved (u := U) (U := U.calling g mk a) (Vm.Alike.refl U.vm) qK, qD⟩, fun U hU hW => ⟨rfl, by rw [hU], by rw [hU]; exact hPc, va_K.moved hW.alike hK, hDc.weaken (fun _ _ _ _ => trivial)⟩⟩ rfl rfl hl.1 rfl (lv_room (Nat.le_of_ble_eq_true rfl)) dX6_fills_36 ⟨Nat.le_of_ble_eq_true rfl, Nat.le_of_ble_eq_true rfl⟩) hS (fun q _ h => hFc q h) hFc (fun r36 u t H1 locs ht hvm hw hB hz1 hk1 hS => ?_)
                obtain ⟨hP1, hK1, hD1⟩ := hB
                rw [ht] at hP1
                obtain ⟨hP, hD⟩ := va_join (wr := [(h_this, .inr (6, [g_this_0, .ref h_taught, .ref h_ticks, .int f_tickMany, .ref h_costs, g_this_5, .int f_places, g_this_7, g_this_8, g_this_9, g_this_10, g_this_11, g_this_12, g_this_13, g_this_14, g_this_15, g_this_16, g_this_17, g_this_18, g_this_19, g_this_20, g_this_21, g_this_22, g_this_23, g_this_24, g_this_25, g_this_26, g_this_27, g_this_28, g_this_29, g_this_30])), (h_costs, .inl (cy, 2160, .inl a_costs)), (h_taught, .inl (cy, 12, .inl a_taught)), (h_ticks, .inl (cy, 120, .inl a_ticks))]) (w1 := []) hP hD [] [0, 1, 2, 3] rfl rfl (by decide) (by decide) hk1 hFc hP1 hD1
                replace hP := hP.sub (ws' := [(h_this, .inr (6, [g_this_0, .ref h_taught, .ref h_ticks, .int f_tickMany, .ref h_costs, g_this_5, .int f_places, g_this_7, g_this_8, g_this_9, g_this_10, g_this_11, g_this_12, g_this_13, g_this_14, g_this_15, g_this_16, g_this_17, g_this_18, g_this_19, g_this_20, g_this_21, g_this_22, g_this_23, g_this_24, g_this_25, g_this_26, g_this_27, g_this_28, g_this_29, g_this_30])), (h_costs, .inl (cy, 2160, .inl a_costs)), (h_taught, .inl (cy, 12, .inl a_taught)), (h_ticks, .inl (cy, 120, .inl a_ticks))]) [0, 1, 2, 3] rfl
                replace hD := hD.sub (ws' := [(h_this, .inr (6, [g_this_0, .ref h_taught, .ref h_ticks, .int f_tickMany, .ref h_costs, g_this_5, .int f_places, g_this_7, g_this_8, g_this_9, g_this_10, g_this_11, g_this_12, g_this_13, g_this_14, g_this_15, g_this_16, g_this_17, g_this_18, g_this_19, g_this_20, g_this_21, g_this_22, g_this_23, g_this_24, g_this_25, g_this_26, g_this_27, g_this_28, g_this_29, g_this_30])), (h_costs, .inl (cy, 2160, .inl a_costs)), (h_taught, .inl (cy, 12, .inl a_taught)), (h_ticks, .inl (cy, 120, .inl a_ticks))]) [0, 1, 2, 3] (by decide) rfl
                clear hPc hDc hFc hP1 hK1 hD1 hz1 hk1 hvm
                subst ht
                generalize t.heap = H at hP hS ⊢
                replace h := hw
                clear hw
                refine lv_aload_n hx hb dX6_fills_39 rfl (lv_at hl 0 rfl) ?_
                refine lv_iload_n hx hb dX6_fills_40 rfl (lv_at hl 2 rfl) ?_
                refine lv_iload_n hx hb dX6_fills_41 rfl (lv_at hl 3 rfl) ?_
                refine lv_iload hx hb dX6_fills_42 (lv_at hl 4 rfl) ?_
                refine lv_iload_n hx hb dX6_fills_44 rfl (lv_at hl 1 rfl) ?_
                have hPc := hP.sub (ws' := [(h_this, .inr (6, [g_this_0, .ref h_taught, .ref h_ticks, .int f_tickMany, .ref h_costs, g_this_5, .int f_places, g_this_7, g_this_8, g_this_9, g_this_10, g_this_11, g_this_12, g_this_13, g_this_14, g_this_15, g_this_16, g_this_17, g_this_18, g_this_19, g_this_20, g_this_21, g_this_22, g_this_23, g_this_24, g_this_25, g_this_26, g_this_27, g_this_28, g_this_29, g_this_30])), (h_taught, .inl (cy, 12, .inl a_taught)), (h_ticks, .inl (cy, 120, .inl a_ticks))]) [0, 2, 3] rfl
                have hDc := hD.sub (ws' := [(h_this, .inr (6, [g_this_0, .ref h_taught, .ref h_ticks, .int f_tickMany, .ref h_costs, g_this_5, .int f_places, g_this_7, g_this_8, g_this_9, g_this_10, g_this_11, g_this_12, g_this_13, g_this_14, g_this_15, g_this_16, g_this_17, g_this_18, g_this_19, g_this_20, g_this_21, g_this_22, g_this_23, g_this_24, g_this_25, g_this_26, g_this_27, g_this_28, g_this_29, g_this_30])), (h_taught, .inl (cy, 12, .inl a_taught)), (h_ticks, .inl (cy, 120, .inl a_ticks))]) [0, 2, 3] (by decide) rfl
                have hFc := va_free (wc := [(h_this, .inr (6, [g_this_0, .ref h_taught, .ref h_ticks, .int f_tickMany, .ref h_costs, g_this_5, .int f_places, g_this_7, g_this_8, g_this_9, g_this_10, g_this_11, g_this_12, g_this_13, g_this_14, g_this_15, g_this_16, g_this_17, g_this_18, g_this_19, g_this_20, g_this_21, g_this_22, g_this_23, g_this_24, g_this_25, g_this_26, g_this_27, g_this_28, g_this_29, g_this_30])), (h_taught, .inl (cy, 12, .inl a_taught)), (h_ticks, .inl (cy, 120, .inl a_ticks))]) hD hS hA [0, 2, 3] rfl
                refine va_calli (va_runV (As := [.int x2, .int x3, .int x4, .int x1]) (rest := [.int r36, .ref h_costs]) ⟨hx, hb, hml, hown, hts⟩ (c_X6_costOf l dC dI cy h_this h_taught h_ticks H.size (g_this_0) (.ref h_costs) (g_this_5) (.int f_places) (g_this_7) (g_this_8) (g_this_9) (g_this_10) (g_this_11) (g_this_12) (g_this_13) (g_this_14) (g_this_15) (g_this_16) (g_this_17) (g_this_18) (g_this_19) (g_this_20) (g_this_21) (g_this_22) (g_this_23) (g_this_24) (g_this_25) (g_this_26) (g_this_27) (g_this_28) (g_this_29) (g_this_30) f_tickMany a_taught a_ticks x2 x3 x4 x1 _ h) (cwV 4 hts gX6_fills_X6_costOf rfl rfl rfl q_X6_costOf ⟨Nat.le_of_ble_eq_true rfl, Nat.le_of_ble_eq_true rfl⟩) ⟨fun a U g mk q => by obtain ⟨q0, q1, qP, qK, qD⟩ := q; exact ⟨q0, q1, qP, va_K.moved (u := U) (U := U.calling g mk a) (Vm.Alike.refl U.vm) qK, qD⟩, va_recv hK hP (ci := 6) (q0 := 0) rfl rfl, fun U hU hW => ⟨rfl, by rw [hU], by rw [hU]; exact hPc, va_K.moved hW.alike hK, hDc.weaken (fun _ _ _ _ => trivial)⟩⟩ rfl rfl hl.1 rfl (lv_room (Nat.le_of_ble_eq_true rfl)) dX6_fills_45 ⟨Nat.le_of_ble_eq_true rfl, Nat.le_of_ble_eq_true rfl⟩) hS (fun q _ h => hFc q h) hFc (fun r45 u t H1 locs ht hvm hw hB hz1 hk1 hS => ?_)
                obtain ⟨hP1, hK1, hD1⟩ := hB
                rw [ht] at hP1
                obtain ⟨hP, hD⟩ := va_join (wr := [(h_costs, .inl (cy, 2160, .inl a_costs))]) (w1 := [(h_this, .inr (6, [g_this_0, .ref h_taught, .ref h_ticks, .int f_tickMany, .ref h_costs, g_this_5, .int f_places, g_this_7, g_this_8, g_this_9, g_this_10, g_this_11, g_this_12, g_this_13, g_this_14, g_this_15, g_this_16, g_this_17, g_this_18, g_this_19, g_this_20, g_this_21, g_this_22, g_this_23, g_this_24, g_this_25, g_this_26, g_this_27, g_this_28, g_this_29, g_this_30])), (h_taught, .inl (cy, 12, .inl a_taught)), (h_ticks, .inl (cy, 120, .inl a_ticks))]) hP hD [0, 2, 3] [1] rfl rfl (by decide) (by decide) hk1 hFc hP1 hD1
                replace hP := hP.sub (ws' := [(h_this, .inr (6, [g_this_0, .ref h_taught, .ref h_ticks, .int f_tickMany, .ref h_costs, g_this_5, .int f_places, g_this_7, g_this_8, g_this_9, g_this_10, g_this_11, g_this_12, g_this_13, g_this_14, g_this_15, g_this_16, g_this_17, g_this_18, g_this_19, g_this_20, g_this_21, g_this_22, g_this_23, g_this_24, g_this_25, g_this_26, g_this_27, g_this_28, g_this_29, g_this_30])), (h_costs, .inl (cy, 2160, .inl a_costs)), (h_taught, .inl (cy, 12, .inl a_taught)), (h_ticks, .inl (cy, 120, .inl a_ticks))]) [1, 0, 2, 3] rfl
                replace hD := hD.sub (ws' := [(h_this, .inr (6, [g_this_0, .ref h_taught, .ref h_ticks, .int f_tickMany, .ref h_costs, g_this_5, .int f_places, g_this_7, g_this_8, g_this_9, g_this_10, g_this_11, g_this_12, g_this_13, g_this_14, g_this_15, g_this_16, g_this_17, g_this_18, g_this_19, g_this_20, g_this_21, g_this_22, g_this_23, g_this_24, g_this_25, g_this_26, g_this_27, g_this_28, g_this_29, g_this_30])), (h_costs, .inl (cy, 2160, .inl a_costs)), (h_taught, .inl (cy, 12, .inl a_taught)), (h_ticks, .inl (cy, 120, .inl a_ticks))]) [1, 0, 2, 3] (by decide) rfl
                clear hPc hDc hFc hP1 hK1 hD1 hz1 hk1 hvm
                subst ht
                generalize t.heap = H at hP hS ⊢
                replace h := hw
                clear hw
                obtain ⟨b48, h⟩ := h
                refine va_iast hx hb hK hP hD hS 1 0 rfl rfl b48 dX6_fills_48 (fun H locs hP hD hS => ?_)
                have hP : va_P (dC, dI) vwCl [(h_this, .inr (6, [g_this_0, .ref h_taught, .ref h_ticks, .int f_tickMany, .ref h_costs, g_this_5, .int f_places, g_this_7, g_this_8, g_this_9, g_this_10, g_this_11, g_this_12, g_this_13, g_this_14, g_this_15, g_this_16, g_this_17, g_this_18, g_this_19, g_this_20, g_this_21, g_this_22, g_this_23, g_this_24, g_this_25, g_this_26, g_this_27, g_this_28, g_this_29, g_this_30])), (h_costs, .inl (cy, 2160, .inl (upd a_costs (Int32.toNatClampNeg r36) r45))), (h_taught, .inl (cy, 12, .inl a_taught)), (h_ticks, .inl (cy, 120, .inl a_ticks))] H := hP
                have hD : va_D A [(h_this, .inr (6, [g_this_0, .ref h_taught, .ref h_ticks, .int f_tickMany, .ref h_costs, g_this_5, .int f_places, g_this_7, g_this_8, g_this_9, g_this_10, g_this_11, g_this_12, g_this_13, g_this_14, g_this_15, g_this_16, g_this_17, g_this_18, g_this_19, g_this_20, g_this_21, g_this_22, g_this_23, g_this_24, g_this_25, g_this_26, g_this_27, g_this_28, g_this_29, g_this_30])), (h_costs, .inl (cy, 2160, .inl (upd a_costs (Int32.toNatClampNeg r36) r45))), (h_taught, .inl (cy, 12, .inl a_taught)), (h_ticks, .inl (cy, 120, .inl a_ticks))] := hD
                refine lv_iinc (v := x4 + 1) (lv' := [(4, .int (x4 + 1)), (0, .ref h_this), (1, .int x1), (2, .int x2), (3, .int x3)]) hx hb dX6_fills_49 hl (k := 4) rfl (by rfl) (by decide) rfl (fun ls hl => ?_)
                refine lv_goto (tgt := 21) hx hb dX6_fills_52 (by decide) ?_
                exact ih (x4 + 1) (upd a_costs (Int32.toNatClampNeg r36) r45) H locs ls h hP hD hS (lv_sub hl [1, 2, 3, 4, 0] rfl)
          refine lv_iload_n hx hb dX6_fills_12 rfl (lv_at hl 3 rfl) ?_
          refine lv_bipush (v := 12) hx hb dX6_fills_13 (by decide) ?_
          refine lv_icmp_ge (tgt := 61) hx hb dX6_fills_15 (by decide) (fun c15 => ?_) (fun c15 => ?_)
          · replace h := And.left h c15
            exact hk x3 a_costs H locs ls h hP hD hS (lv_sub hl [0, 1, 2] rfl)
          · replace h := And.right h c15
            refine lv_iconst (v := 0) hx hb dX6_fills_18 (by decide) ?_
            refine lv_istore (lv' := [(4, .int 0), (0, .ref h_this), (1, .int x1), (2, .int x2), (3, .int x3)]) hx hb dX6_fills_19 hl (by decide) rfl (fun ls hl => ?_)
            obtain ⟨n21, h⟩ := h
            refine L21 x1 x2 x3 _ n21 0 a_costs H locs ls h hP hD hS (lv_sub hl [1, 2, 3, 4, 0] rfl) (fun x4_55 a_costs_55 H locs ls h hP hD hS hl => ?_)
            refine lv_iinc (v := x3 + 1) (lv' := [(3, .int (x3 + 1)), (0, .ref h_this), (1, .int x1), (2, .int x2)]) hx hb dX6_fills_55 hl (k := 3) rfl (by rfl) (by decide) rfl (fun ls hl => ?_)
            refine lv_goto (tgt := 12) hx hb dX6_fills_58 (by decide) ?_
            exact ih (x3 + 1) a_costs_55 H locs ls h hP hD hS (lv_sub hl [1, 2, 3, 0] rfl)
      refine lv_iload_n hx hb dX6_fills_2 rfl (lv_at hl 2 rfl) ?_
      refine lv_aload_n hx hb dX6_fills_3 rfl (lv_at hl 0 rfl) ?_
      refine va_get (D := (dC, dI)) (ci := 6) (v := .int f_places) (C := RX6) (T := TX6) (N := 31) hx hb hts in_X6 hown hK hP 0 rfl rfl 6 (by decide) k_71 (fun _ h9 => h9) rfl dX6_fills_4 ?_
      refine lv_icmp_ge (tgt := 67) hx hb dX6_fills_7 (by decide) (fun c7 => ?_) (fun c7 => ?_)
      · replace h := And.left h c7
        exact hk x2 a_costs H locs ls h hP hD hS (lv_sub hl [] rfl)
      · replace h := And.right h c7
        refine lv_iconst (v := 0) hx hb dX6_fills_10 (by decide) ?_
        refine lv_istore_n (lv' := [(3, .int 0), (0, .ref h_this), (1, .int x1), (2, .int x2)]) hx hb dX6_fills_11 rfl hl (by decide) rfl (fun ls hl => ?_)
        obtain ⟨n12, h⟩ := h
        refine L12 x1 x2 _ n12 0 a_costs H locs ls h hP hD hS (lv_sub hl [1, 2, 3, 0] rfl) (fun x3_61 a_costs_61 H locs ls h hP hD hS hl => ?_)
        refine lv_iinc (v := x2 + 1) (lv' := [(2, .int (x2 + 1)), (0, .ref h_this), (1, .int x1)]) hx hb dX6_fills_61 hl (k := 2) rfl (by rfl) (by decide) rfl (fun ls hl => ?_)
        refine lv_goto (tgt := 2) hx hb dX6_fills_64 (by decide) ?_
        exact ih (x2 + 1) a_costs_61 H locs ls h hP hD hS (lv_sub hl [1, 2, 0] rfl)
  generalize hlo : ([] : List Loc) = locs at hS ⊢
  obtain ⟨H, hH⟩ : ∃ z, z = s.heap := ⟨_, rfl⟩
  rw [show W p l e rm_X6_fills s m args below meth c s.heap = W p l e rm_X6_fills s m args below meth c H by rw [hH]]
  replace hP : va_P (dC, dI) vwCl [(h_this, .inr (6, [g_this_0, .ref h_taught, .ref h_ticks, .int f_tickMany, .ref h_costs, g_this_5, .int f_places, g_this_7, g_this_8, g_this_9, g_this_10, g_this_11, g_this_12, g_this_13, g_this_14, g_this_15, g_this_16, g_this_17, g_this_18, g_this_19, g_this_20, g_this_21, g_this_22, g_this_23, g_this_24, g_this_25, g_this_26, g_this_27, g_this_28, g_this_29, g_this_30])), (h_costs, .inl (cy, 2160, .inl a_costs)), (h_taught, .inl (cy, 12, .inl a_taught)), (h_ticks, .inl (cy, 120, .inl a_ticks))] H := by rw [hH]; exact hP
  replace hS : va_S A s.heap H locs := by rw [hH]; exact hS
  clear hH hlo
  refine lv_iconst (v := 0) hx hb dX6_fills_0 (by decide) ?_
  refine lv_istore_n (lv' := [(2, .int 0), (0, .ref h_this), (1, .int x1)]) hx hb dX6_fills_1 rfl hl (by decide) rfl (fun ls hl => ?_)
  obtain ⟨n2, h⟩ := h
  refine L2 x1 _ n2 0 a_costs H locs ls h hP hD hS (lv_sub hl [1, 2, 0] rfl) (fun x2_67 a_costs_67 H locs ls h hP hD hS hl => ?_)
  exact RET a_costs_67 H locs ls 67 dX6_fills_67 h hP hD hS
