abbrev rm_X3_begin : Room := { frames := 0, cells := 0, slots := 0, locals := 0 }
theorem q_X3_begin : yX3_begin.cls = RX3 ∧ yX3_begin.cls ≠ "java/lang/invoke/MethodHandle" ∧ yX3_begin.cls ≠ "java/lang/invoke/VarHandle" ∧ (parseMethodDescriptor yX3_begin.desc).map (fun d => d.parameters.length) = some 3 := by decide +kernel
set_option maxHeartbeats 4000000 in
set_option maxRecDepth 100000 in
theorem c_X3_begin (l : Launch) (dC : Nat → ClassId) (dI : Nat → Nat → Nat) (cy : ClassId) (h_this : Nat) (sz : Nat) (g_this_2 g_this_4 g_this_5 g_this_6 g_this_7 : Value) (f_places : Int32) (f_cost : Int32) (f_turned : Int32) (x1 : Int32) (x2 : Int32) (x3 : Int32) (Q : Int32 → Int32 → Int32 → Prop) (h : p_X3_begin f_places f_cost f_turned x1 x2 x3 Q) : Met l yX3_begin wsX3_begin rm_X3_begin (va_Pc [.ref h_this, .int x1, .int x2, .int x3] (fun U => U.heap.size = sz ∧ va_P (dC, dI) vwCl [(h_this, .inr (3, [.int f_places, .int f_cost, g_this_2, .int f_turned, g_this_4, g_this_5, g_this_6, g_this_7]))] U.heap ∧ va_K (dC, dI) vwCl [(cy, .int)] U ∧ va_D (fun _ => True) [(h_this, .inr (3, [.int f_places, .int f_cost, g_this_2, .int f_turned, g_this_4, g_this_5, g_this_6, g_this_7]))])) (va_Qv (fun (u : Int32 × Int32 × Int32) => Q u.1 u.2.1 u.2.2) (fun (u : Int32 × Int32 × Int32) (t : State) => va_P (dC, dI) vwCl [(h_this, .inr (3, [.int (u.1), .int (u.2.1), g_this_2, .int (u.2.2), g_this_4, g_this_5, g_this_6, g_this_7]))] t.heap ∧ va_K (dC, dI) vwCl [(cy, .int)] t ∧ va_D (va_A [(h_this, .inr (3, [.int f_places, .int f_cost, g_this_2, .int f_turned, g_this_4, g_this_5, g_this_6, g_this_7]))] sz) [(h_this, .inr (3, [.int (u.1), .int (u.2.1), g_this_2, .int (u.2.2), g_this_4, g_this_5, g_this_6, g_this_7]))]) (va_A [(h_this, .inr (3, [.int f_places, .int f_cost, g_this_2, .int f_turned, g_this_4, g_this_5, g_this_6, g_this_7]))] sz)) 0 0 (va_A [(h_this, .inr (3, [.int f_places, .int f_cost, g_this_2, .int f_turned, g_this_4, g_this_5, g_this_6, g_this_7]))] sz) := by
  refine Met.ofW (cc := cX3_begin) (maxL := 4) (ret := none) (by decide) rfl ?_
  intro p e s m args below meth c s₁ B hml hv
  obtain ⟨hargs, hsz, hP, hK, hD0⟩ := hv
  have hx := B.exec
  have hb := B.bytes
  have hr := B.returns
  have hts := atoms_spec (ws := wsX3_begin) B.pre
  have hown : s.vm.findClass RX3 = some m.cls := findClass_of_methodNamed B.named
  have hlocks := B.notSynchronized
  subst hsz
  have hD := hD0.self (sz := s.heap.size)
  generalize hAe : va_A [(h_this, .inr (3, [.int f_places, .int f_cost, g_this_2, .int f_turned, g_this_4, g_this_5, g_this_6, g_this_7]))] s.heap.size = A at hD ⊢
  have hA : ∀ q : Nat, s.heap.size ≤ q → A q := fun q h => by rw [← hAe]; exact Or.inr h
  have hS : va_S A s.heap s.heap [] := va_S.rf
  have in_X3 : ∀ w ∈ u_ws RX3 TX3 8, w ∈ wsX3_begin := by decide +kernel
  have k_9 := hts (.fieldLink RX3 9 "ChequeDesk$Reading" "places" "I") (by decide +kernel)
  have k_15 := hts (.fieldLink RX3 15 "ChequeDesk$Reading" "cost" "I") (by decide +kernel)
  have k_21 := hts (.fieldLink RX3 21 "ChequeDesk$Reading" "turned" "Z") (by decide +kernel)
  have hl := lv_entry ([.ref h_this, .int x1, .int x2, .int x3]) (n := 4) (Nat.le_of_ble_eq_true rfl)
  rw [show entryFrame m args 4 = entryFrame m ([.ref h_this, .int x1, .int x2, .int x3] : List Value).toArray 4 by rw [hargs], lg_entry_eq]
  generalize (lg_sl ([.ref h_this, .int x1, .int x2, .int x3]) ++ List.replicate (4 - (lg_sl ([.ref h_this, .int x1, .int x2, .int x3])).length) Slot.unset).toArray = ls at hl ⊢
  have hl : lv_has ls 4 [(0, .ref h_this), (1, .int x1), (2, .int x2), (3, .int x3)] := hl
  have hP : va_P (dC, dI) vwCl [(h_this, .inr (3, [.int f_places, .int f_cost, g_this_2, .int f_turned, g_this_4, g_this_5, g_this_6, g_this_7]))] s.heap := hP
  change W p l e rm_X3_begin s m args below meth c s.heap [] 0 0 _ _
  generalize hQQ : MQ below _ _ _ _ _ _ = QQ
  have RET : ∀ (f_places : Int32) (f_cost : Int32) (f_turned : Int32) (H : Heap) (locs : List Loc) (ls : Array Slot) (pc : Nat), decode cX3_begin pc = .ok (.return_, 1) → Q f_places f_cost f_turned → va_P (dC, dI) vwCl [(h_this, .inr (3, [.int f_places, .int f_cost, g_this_2, .int f_turned, g_this_4, g_this_5, g_this_6, g_this_7]))] H → va_D A [(h_this, .inr (3, [.int f_places, .int f_cost, g_this_2, .int f_turned, g_this_4, g_this_5, g_this_6, g_this_7]))] → va_S A s.heap H locs → W p l e rm_X3_begin s m args below meth c H locs 0 0 QQ (F0 m pc ls []) := by
    intro f_places f_cost f_turned H locs ls pc hdg hq hP hD hS
    rw [← hQQ]
    exact W.vret hx hb hr (fun t ht hW => ⟨⟨(f_places, f_cost, f_turned), rfl, hq, by rw [ht]; exact hP, va_K.moved hW.alike hK, hD⟩, hS.F ht⟩) hS.2.2 hdg
  clear hQQ
  unfold p_X3_begin at h
  generalize hlo : ([] : List Loc) = locs at hS ⊢
  obtain ⟨H, hH⟩ : ∃ z, z = s.heap := ⟨_, rfl⟩
  rw [show W p l e rm_X3_begin s m args below meth c s.heap = W p l e rm_X3_begin s m args below meth c H by rw [hH]]
  replace hP : va_P (dC, dI) vwCl [(h_this, .inr (3, [.int f_places, .int f_cost, g_this_2, .int f_turned, g_this_4, g_this_5, g_this_6, g_this_7]))] H := by rw [hH]; exact hP
  replace hS : va_S A s.heap H locs := by rw [hH]; exact hS
  clear hH hlo
  refine lv_aload_n hx hb dX3_begin_0 rfl (lv_at hl 0 rfl) ?_
  refine lv_iload_n hx hb dX3_begin_1 rfl (lv_at hl 1 rfl) ?_
  refine va_put (D := (dC, dI)) (ci := 3) (v := .int x1) (ty := .int) (C := RX3) (T := TX3) (N := 8) hx hb hts in_X3 tyX3 tyX3_ok nmX3 hown hK hP hD hS 0 rfl rfl 0 (by decide) k_9 (fun _ h9 => h9) rfl (by decide +kernel) rfl rfl (Nat.le_of_ble_eq_true rfl) dX3_begin_2 (fun H locs hP hD hS => ?_)
  have hP : va_P (dC, dI) vwCl [(h_this, .inr (3, [.int x1, .int f_cost, g_this_2, .int f_turned, g_this_4, g_this_5, g_this_6, g_this_7]))] H := hP
  have hD : va_D A [(h_this, .inr (3, [.int x1, .int f_cost, g_this_2, .int f_turned, g_this_4, g_this_5, g_this_6, g_this_7]))] := hD
  refine lv_aload_n hx hb dX3_begin_5 rfl (lv_at hl 0 rfl) ?_
  refine lv_iload_n hx hb dX3_begin_6 rfl (lv_at hl 2 rfl) ?_
  refine va_put (D := (dC, dI)) (ci := 3) (v := .int x2) (ty := .int) (C := RX3) (T := TX3) (N := 8) hx hb hts in_X3 tyX3 tyX3_ok nmX3 hown hK hP hD hS 0 rfl rfl 1 (by decide) k_15 (fun _ h9 => h9) rfl (by decide +kernel) rfl rfl (Nat.le_of_ble_eq_true rfl) dX3_begin_7 (fun H locs hP hD hS => ?_)
  have hP : va_P (dC, dI) vwCl [(h_this, .inr (3, [.int x1, .int x2, g_this_2, .int f_turned, g_this_4, g_this_5, g_this_6, g_this_7]))] H := hP
  have hD : va_D A [(h_this, .inr (3, [.int x1, .int x2, g_this_2, .int f_turned, g_this_4, g_this_5, g_this_6, g_this_7]))] := hD
  refine lv_aload_n hx hb dX3_begin_10 rfl (lv_at hl 0 rfl) ?_
  refine lv_iload_n hx hb dX3_begin_11 rfl (lv_at hl 3 rfl) ?_
  obtain ⟨⟨za12, zb12⟩, h⟩ := h
  refine va_put (D := (dC, dI)) (ci := 3) (v := .int x3) (ty := .boolean) (C := RX3) (T := TX3) (N := 8) hx hb hts in_X3 tyX3 tyX3_ok nmX3 hown hK hP hD hS 0 rfl rfl 3 (by decide) k_21 (fun _ h9 => h9) rfl (by decide +kernel) za12 zb12 (Nat.le_of_ble_eq_true rfl) dX3_begin_12 (fun H locs hP hD hS => ?_)
  have hP : va_P (dC, dI) vwCl [(h_this, .inr (3, [.int x1, .int x2, g_this_2, .int x3, g_this_4, g_this_5, g_this_6, g_this_7]))] H := hP
  have hD : va_D A [(h_this, .inr (3, [.int x1, .int x2, g_this_2, .int x3, g_this_4, g_this_5, g_this_6, g_this_7]))] := hD
  exact RET x1 x2 x3 H locs ls 15 dX3_begin_15 h hP hD hS
abbrev rm_X3_end : Room := { frames := 0, cells := 0, slots := 0, locals := 0 }
theorem q_X3_end : yX3_end.cls = RX3 ∧ yX3_end.cls ≠ "java/lang/invoke/MethodHandle" ∧ yX3_end.cls ≠ "java/lang/invoke/VarHandle" ∧ (parseMethodDescriptor yX3_end.desc).map (fun d => d.parameters.length) = some 0 := by decide +kernel
set_option maxHeartbeats 4000000 in
set_option maxRecDepth 100000 in
theorem c_X3_end (l : Launch) (dC : Nat → ClassId) (dI : Nat → Nat → Nat) (cy : ClassId) (h_this : Nat) (sz : Nat) (g_this_1 g_this_2 g_this_3 g_this_4 g_this_5 g_this_6 g_this_7 : Value) (f_places : Int32) (Q : Int32 → Prop) (h : p_X3_end f_places Q) : Met l yX3_end wsX3_end rm_X3_end (va_Pc [.ref h_this] (fun U => U.heap.size = sz ∧ va_P (dC, dI) vwCl [(h_this, .inr (3, [.int f_places, g_this_1, g_this_2, g_this_3, g_this_4, g_this_5, g_this_6, g_this_7]))] U.heap ∧ va_K (dC, dI) vwCl [(cy, .int)] U ∧ va_D (fun _ => True) [(h_this, .inr (3, [.int f_places, g_this_1, g_this_2, g_this_3, g_this_4, g_this_5, g_this_6, g_this_7]))])) (va_Qv (fun (u : Int32) => Q u) (fun (u : Int32) (t : State) => va_P (dC, dI) vwCl [(h_this, .inr (3, [.int u, g_this_1, g_this_2, g_this_3, g_this_4, g_this_5, g_this_6, g_this_7]))] t.heap ∧ va_K (dC, dI) vwCl [(cy, .int)] t ∧ va_D (va_A [(h_this, .inr (3, [.int f_places, g_this_1, g_this_2, g_this_3, g_this_4, g_this_5, g_this_6, g_this_7]))] sz) [(h_this, .inr (3, [.int u, g_this_1, g_this_2, g_this_3, g_this_4, g_this_5, g_this_6, g_this_7]))]) (va_A [(h_this, .inr (3, [.int f_places, g_this_1, g_this_2, g_this_3, g_this_4, g_this_5, g_this_6, g_this_7]))] sz)) 0 0 (va_A [(h_this, .inr (3, [.int f_places, g_this_1, g_this_2, g_this_3, g_this_4, g_this_5, g_this_6, g_this_7]))] sz) := by
  refine Met.ofW (cc := cX3_end) (maxL := 1) (ret := none) (by decide) rfl ?_
  intro p e s m args below meth c s₁ B hml hv
  obtain ⟨hargs, hsz, hP, hK, hD0⟩ := hv
  have hx := B.exec
  have hb := B.bytes
  have hr := B.returns
  have hts := atoms_spec (ws := wsX3_end) B.pre
  have hown : s.vm.findClass RX3 = some m.cls := findClass_of_methodNamed B.named
  have hlocks := B.notSynchronized
  subst hsz
  have hD := hD0.self (sz := s.heap.size)
  generalize hAe : va_A [(h_this, .inr (3, [.int f_places, g_this_1, g_this_2, g_this_3, g_this_4, g_this_5, g_this_6, g_this_7]))] s.heap.size = A at hD ⊢
  have hA : ∀ q : Nat, s.heap.size ≤ q → A q := fun q h => by rw [← hAe]; exact Or.inr h
  have hS : va_S A s.heap s.heap [] := va_S.rf
  have in_X3 : ∀ w ∈ u_ws RX3 TX3 8, w ∈ wsX3_end := by decide +kernel
  have k_9 := hts (.fieldLink RX3 9 "ChequeDesk$Reading" "places" "I") (by decide +kernel)
  have hl := lv_entry ([.ref h_this]) (n := 1) (Nat.le_of_ble_eq_true rfl)
  rw [show entryFrame m args 1 = entryFrame m ([.ref h_this] : List Value).toArray 1 by rw [hargs], lg_entry_eq]
  generalize (lg_sl ([.ref h_this]) ++ List.replicate (1 - (lg_sl ([.ref h_this])).length) Slot.unset).toArray = ls at hl ⊢
  have hl : lv_has ls 1 [(0, .ref h_this)] := hl
  have hP : va_P (dC, dI) vwCl [(h_this, .inr (3, [.int f_places, g_this_1, g_this_2, g_this_3, g_this_4, g_this_5, g_this_6, g_this_7]))] s.heap := hP
  change W p l e rm_X3_end s m args below meth c s.heap [] 0 0 _ _
  generalize hQQ : MQ below _ _ _ _ _ _ = QQ
  have RET : ∀ (f_places : Int32) (H : Heap) (locs : List Loc) (ls : Array Slot) (pc : Nat), decode cX3_end pc = .ok (.return_, 1) → Q f_places → va_P (dC, dI) vwCl [(h_this, .inr (3, [.int f_places, g_this_1, g_this_2, g_this_3, g_this_4, g_this_5, g_this_6, g_this_7]))] H → va_D A [(h_this, .inr (3, [.int f_places, g_this_1, g_this_2, g_this_3, g_this_4, g_this_5, g_this_6, g_this_7]))] → va_S A s.heap H locs → W p l e rm_X3_end s m args below meth c H locs 0 0 QQ (F0 m pc ls []) := by
    intro f_places H locs ls pc hdg hq hP hD hS
    rw [← hQQ]
    exact W.vret hx hb hr (fun t ht hW => ⟨⟨f_places, rfl, hq, by rw [ht]; exact hP, va_K.moved hW.alike hK, hD⟩, hS.F ht⟩) hS.2.2 hdg
  clear hQQ
  unfold p_X3_end at h
  generalize hlo : ([] : List Loc) = locs at hS ⊢
  obtain ⟨H, hH⟩ : ∃ z, z = s.heap := ⟨_, rfl⟩
  rw [show W p l e rm_X3_end s m args below meth c s.heap = W p l e rm_X3_end s m args below meth c H by rw [hH]]
  replace hP : va_P (dC, dI) vwCl [(h_this, .inr (3, [.int f_places, g_this_1, g_this_2, g_this_3, g_this_4, g_this_5, g_this_6, g_this_7]))] H := by rw [hH]; exact hP
  replace hS : va_S A s.heap H locs := by rw [hH]; exact hS
  clear hH hlo
  refine lv_aload_n hx hb dX3_end_0 rfl (lv_at hl 0 rfl) ?_
  refine lv_iconst (v := 0) hx hb dX3_end_1 (by decide) ?_
  refine va_put (D := (dC, dI)) (ci := 3) (v := .int 0) (ty := .int) (C := RX3) (T := TX3) (N := 8) hx hb hts in_X3 tyX3 tyX3_ok nmX3 hown hK hP hD hS 0 rfl rfl 0 (by decide) k_9 (fun _ h9 => h9) rfl (by decide +kernel) rfl rfl (Nat.le_of_ble_eq_true rfl) dX3_end_2 (fun H locs hP hD hS => ?_)
  have hP : va_P (dC, dI) vwCl [(h_this, .inr (3, [.int 0, g_this_1, g_this_2, g_this_3, g_this_4, g_this_5, g_this_6, g_this_7]))] H := hP
  have hD : va_D A [(h_this, .inr (3, [.int 0, g_this_1, g_this_2, g_this_3, g_this_4, g_this_5, g_this_6, g_this_7]))] := hD
  exact RET 0 H locs ls 5 dX3_end_5 h hP hD hS
abbrev rm_X3_isThere : Room := { frames := 0, cells := 0, slots := 0, locals := 0 }
theorem q_X3_isThere : yX3_isThere.cls = RX3 ∧ yX3_isThere.cls ≠ "java/lang/invoke/MethodHandle" ∧ yX3_isThere.cls ≠ "java/lang/invoke/VarHandle" ∧ (parseMethodDescriptor yX3_isThere.desc).map (fun d => d.parameters.length) = some 0 := by decide +kernel
set_option maxHeartbeats 4000000 in
set_option maxRecDepth 100000 in
theorem c_X3_isThere (l : Launch) (dC : Nat → ClassId) (dI : Nat → Nat → Nat) (cy : ClassId) (h_this : Nat) (sz : Nat) (g_this_1 g_this_2 g_this_3 g_this_4 g_this_5 g_this_6 g_this_7 : Value) (f_places : Int32) (Q : Int32 → Prop) (h : p_X3_isThere f_places Q) : Met l yX3_isThere wsX3_isThere rm_X3_isThere (va_Pc [.ref h_this] (fun U => U.heap.size = sz ∧ va_P (dC, dI) vwCl [(h_this, .inr (3, [.int f_places, g_this_1, g_this_2, g_this_3, g_this_4, g_this_5, g_this_6, g_this_7]))] U.heap ∧ va_K (dC, dI) vwCl [(cy, .int)] U ∧ va_D (fun _ => True) [(h_this, .inr (3, [.int f_places, g_this_1, g_this_2, g_this_3, g_this_4, g_this_5, g_this_6, g_this_7]))])) (va_Qi (fun (r : Int32) (u : Unit) => Q r) (fun (u : Unit) (t : State) => va_P (dC, dI) vwCl [(h_this, .inr (3, [.int f_places, g_this_1, g_this_2, g_this_3, g_this_4, g_this_5, g_this_6, g_this_7]))] t.heap ∧ va_K (dC, dI) vwCl [(cy, .int)] t ∧ va_D (va_A [(h_this, .inr (3, [.int f_places, g_this_1, g_this_2, g_this_3, g_this_4, g_this_5, g_this_6, g_this_7]))] sz) [(h_this, .inr (3, [.int f_places, g_this_1, g_this_2, g_this_3, g_this_4, g_this_5, g_this_6, g_this_7]))]) (va_A [(h_this, .inr (3, [.int f_places, g_this_1, g_this_2, g_this_3, g_this_4, g_this_5, g_this_6, g_this_7]))] sz)) 0 0 (va_A [(h_this, .inr (3, [.int f_places, g_this_1, g_this_2, g_this_3, g_this_4, g_this_5, g_this_6, g_this_7]))] sz) := by
  refine Met.ofW (cc := cX3_isThere) (maxL := 1) (ret := (some .boolean)) (by decide) rfl ?_
  intro p e s m args below meth c s₁ B hml hv
  obtain ⟨hargs, hsz, hP, hK, hD0⟩ := hv
  have hx := B.exec
  have hb := B.bytes
  have hr := B.returns
  have hts := atoms_spec (ws := wsX3_isThere) B.pre
  have hown : s.vm.findClass RX3 = some m.cls := findClass_of_methodNamed B.named
  have hlocks := B.notSynchronized
  subst hsz
  have hD := hD0.self (sz := s.heap.size)
  generalize hAe : va_A [(h_this, .inr (3, [.int f_places, g_this_1, g_this_2, g_this_3, g_this_4, g_this_5, g_this_6, g_this_7]))] s.heap.size = A at hD ⊢
  have hA : ∀ q : Nat, s.heap.size ≤ q → A q := fun q h => by rw [← hAe]; exact Or.inr h
  have hS : va_S A s.heap s.heap [] := va_S.rf
  have in_X3 : ∀ w ∈ u_ws RX3 TX3 8, w ∈ wsX3_isThere := by decide +kernel
  have k_9 := hts (.fieldLink RX3 9 "ChequeDesk$Reading" "places" "I") (by decide +kernel)
  have hl := lv_entry ([.ref h_this]) (n := 1) (Nat.le_of_ble_eq_true rfl)
  rw [show entryFrame m args 1 = entryFrame m ([.ref h_this] : List Value).toArray 1 by rw [hargs], lg_entry_eq]
  generalize (lg_sl ([.ref h_this]) ++ List.replicate (1 - (lg_sl ([.ref h_this])).length) Slot.unset).toArray = ls at hl ⊢
  have hl : lv_has ls 1 [(0, .ref h_this)] := hl
  have hP : va_P (dC, dI) vwCl [(h_this, .inr (3, [.int f_places, g_this_1, g_this_2, g_this_3, g_this_4, g_this_5, g_this_6, g_this_7]))] s.heap := hP
  change W p l e rm_X3_isThere s m args below meth c s.heap [] 0 0 _ _
  generalize hQQ : MQ below _ _ _ _ _ _ = QQ
  have RET : ∀ (r : Int32) (H : Heap) (locs : List Loc) (ls : Array Slot) (pc : Nat), decode cX3_isThere pc = .ok (.ireturn, 1) → narrow .boolean (.int r) = .int r → Q r → va_P (dC, dI) vwCl [(h_this, .inr (3, [.int f_places, g_this_1, g_this_2, g_this_3, g_this_4, g_this_5, g_this_6, g_this_7]))] H → va_D A [(h_this, .inr (3, [.int f_places, g_this_1, g_this_2, g_this_3, g_this_4, g_this_5, g_this_6, g_this_7]))] → va_S A s.heap H locs → W p l e rm_X3_isThere s m args below meth c H locs 0 0 QQ (F0 m pc ls [.int r]) := by
    intro r  H locs ls pc hdg hz hq hP hD hS
    rw [← hQQ]
    exact W.zret (v := r) hx hb hr hz (fun t ht hW => ⟨⟨r, (), rfl, hq, by rw [ht]; exact hP, va_K.moved hW.alike hK, hD⟩, hS.F ht⟩) hS.2.2 hdg
  clear hQQ
  unfold p_X3_isThere at h
  have J12 : ∀ (s0 : Int32) (H : Heap) (locs : List Loc) (ls : Array Slot), p_X3_isThere_J12 Q s0 → va_P (dC, dI) vwCl [(h_this, .inr (3, [.int f_places, g_this_1, g_this_2, g_this_3, g_this_4, g_this_5, g_this_6, g_this_7]))] H → va_D A [(h_this, .inr (3, [.int f_places, g_this_1, g_this_2, g_this_3, g_this_4, g_this_5, g_this_6, g_this_7]))] → va_S A s.heap H locs → lv_has ls 1 [] → W p l e rm_X3_isThere s m args below meth c H locs 0 0 QQ (F0 m 12 ls [.int s0]) := by
    intro s0 H locs ls h hP hD hS hl
    unfold p_X3_isThere_J12 at h
    obtain ⟨zr12, h⟩ := h
    exact RET s0 H locs ls 12 dX3_isThere_12 zr12 h hP hD hS
  generalize hlo : ([] : List Loc) = locs at hS ⊢
  obtain ⟨H, hH⟩ : ∃ z, z = s.heap := ⟨_, rfl⟩
  rw [show W p l e rm_X3_isThere s m args below meth c s.heap = W p l e rm_X3_isThere s m args below meth c H by rw [hH]]
  replace hP : va_P (dC, dI) vwCl [(h_this, .inr (3, [.int f_places, g_this_1, g_this_2, g_this_3, g_this_4, g_this_5, g_this_6, g_this_7]))] H := by rw [hH]; exact hP
  replace hS : va_S A s.heap H locs := by rw [hH]; exact hS
  clear hH hlo
  refine lv_aload_n hx hb dX3_isThere_0 rfl (lv_at hl 0 rfl) ?_
  refine va_get (D := (dC, dI)) (ci := 3) (v := .int f_places) (C := RX3) (T := TX3) (N := 8) hx hb hts in_X3 hown hK hP 0 rfl rfl 0 (by decide) k_9 (fun _ h9 => h9) rfl dX3_isThere_1 ?_
  refine lv_if_le (tgt := 11) hx hb dX3_isThere_4 (by decide) (fun c4 => ?_) (fun c4 => ?_)
  · replace h := And.left h c4
    refine lv_iconst (v := 0) hx hb dX3_isThere_11 (by decide) ?_
    exact J12 0 H locs ls h hP hD hS (lv_sub hl [] rfl)
  · replace h := And.right h c4
    refine lv_iconst (v := 1) hx hb dX3_isThere_7 (by decide) ?_
    refine lv_goto (tgt := 12) hx hb dX3_isThere_8 (by decide) ?_
    exact J12 1 H locs ls h hP hD hS (lv_sub hl [] rfl)
abbrev rm_X3_isLong : Room := { frames := 0, cells := 0, slots := 0, locals := 0 }
theorem q_X3_isLong : yX3_isLong.cls = RX3 ∧ yX3_isLong.cls ≠ "java/lang/invoke/MethodHandle" ∧ yX3_isLong.cls ≠ "java/lang/invoke/VarHandle" ∧ (parseMethodDescriptor yX3_isLong.desc).map (fun d => d.parameters.length) = some 0 := by decide +kernel
set_option maxHeartbeats 4000000 in
set_option maxRecDepth 100000 in
theorem c_X3_isLong (l : Launch) (dC : Nat → ClassId) (dI : Nat → Nat → Nat) (cy : ClassId) (h_this : Nat) (sz : Nat) (g_this_1 g_this_2 g_this_3 g_this_4 g_this_5 g_this_6 g_this_7 : Value) (f_places : Int32) (Q : Int32 → Prop) (h : p_X3_isLong f_places Q) : Met l yX3_isLong wsX3_isLong rm_X3_isLong (va_Pc [.ref h_this] (fun U => U.heap.size = sz ∧ va_P (dC, dI) vwCl [(h_this, .inr (3, [.int f_places, g_this_1, g_this_2, g_this_3, g_this_4, g_this_5, g_this_6, g_this_7]))] U.heap ∧ va_K (dC, dI) vwCl [(cy, .int)] U ∧ va_D (fun _ => True) [(h_this, .inr (3, [.int f_places, g_this_1, g_this_2, g_this_3, g_this_4, g_this_5, g_this_6, g_this_7]))])) (va_Qi (fun (r : Int32) (u : Unit) => Q r) (fun (u : Unit) (t : State) => va_P (dC, dI) vwCl [(h_this, .inr (3, [.int f_places, g_this_1, g_this_2, g_this_3, g_this_4, g_this_5, g_this_6, g_this_7]))] t.heap ∧ va_K (dC, dI) vwCl [(cy, .int)] t ∧ va_D (va_A [(h_this, .inr (3, [.int f_places, g_this_1, g_this_2, g_this_3, g_this_4, g_this_5, g_this_6, g_this_7]))] sz) [(h_this, .inr (3, [.int f_places, g_this_1, g_this_2, g_this_3, g_this_4, g_this_5, g_this_6, g_this_7]))]) (va_A [(h_this, .inr (3, [.int f_places, g_this_1, g_this_2, g_this_3, g_this_4, g_this_5, g_this_6, g_this_7]))] sz)) 0 0 (va_A [(h_this, .inr (3, [.int f_places, g_this_1, g_this_2, g_this_3, g_this_4, g_this_5, g_this_6, g_this_7]))] sz) := by
  refine Met.ofW (cc := cX3_isLong) (maxL := 1) (ret := (some .boolean)) (by decide) rfl ?_
  intro p e s m args below meth c s₁ B hml hv
  obtain ⟨hargs, hsz, hP, hK, hD0⟩ := hv
  have hx := B.exec
  have hb := B.bytes
  have hr := B.returns
  have hts := atoms_spec (ws := wsX3_isLong) B.pre
  have hown : s.vm.findClass RX3 = some m.cls := findClass_of_methodNamed B.named
  have hlocks := B.notSynchronized
  subst hsz
  have hD := hD0.self (sz := s.heap.size)
  generalize hAe : va_A [(h_this, .inr (3, [.int f_places, g_this_1, g_this_2, g_this_3, g_this_4, g_this_5, g_this_6, g_this_7]))] s.heap.size = A at hD ⊢
  have hA : ∀ q : Nat, s.heap.size ≤ q → A q := fun q h => by rw [← hAe]; exact Or.inr h
  have hS : va_S A s.heap s.heap [] := va_S.rf
  have in_X3 : ∀ w ∈ u_ws RX3 TX3 8, w ∈ wsX3_isLong := by decide +kernel
  have k_9 := hts (.fieldLink RX3 9 "ChequeDesk$Reading" "places" "I") (by decide +kernel)
  have hl := lv_entry ([.ref h_this]) (n := 1) (Nat.le_of_ble_eq_true rfl)
  rw [show entryFrame m args 1 = entryFrame m ([.ref h_this] : List Value).toArray 1 by rw [hargs], lg_entry_eq]
  generalize (lg_sl ([.ref h_this]) ++ List.replicate (1 - (lg_sl ([.ref h_this])).length) Slot.unset).toArray = ls at hl ⊢
  have hl : lv_has ls 1 [(0, .ref h_this)] := hl
  have hP : va_P (dC, dI) vwCl [(h_this, .inr (3, [.int f_places, g_this_1, g_this_2, g_this_3, g_this_4, g_this_5, g_this_6, g_this_7]))] s.heap := hP
  change W p l e rm_X3_isLong s m args below meth c s.heap [] 0 0 _ _
  generalize hQQ : MQ below _ _ _ _ _ _ = QQ
  have RET : ∀ (r : Int32) (H : Heap) (locs : List Loc) (ls : Array Slot) (pc : Nat), decode cX3_isLong pc = .ok (.ireturn, 1) → narrow .boolean (.int r) = .int r → Q r → va_P (dC, dI) vwCl [(h_this, .inr (3, [.int f_places, g_this_1, g_this_2, g_this_3, g_this_4, g_this_5, g_this_6, g_this_7]))] H → va_D A [(h_this, .inr (3, [.int f_places, g_this_1, g_this_2, g_this_3, g_this_4, g_this_5, g_this_6, g_this_7]))] → va_S A s.heap H locs → W p l e rm_X3_isLong s m args below meth c H locs 0 0 QQ (F0 m pc ls [.int r]) := by
    intro r  H locs ls pc hdg hz hq hP hD hS
    rw [← hQQ]
    exact W.zret (v := r) hx hb hr hz (fun t ht hW => ⟨⟨r, (), rfl, hq, by rw [ht]; exact hP, va_K.moved hW.alike hK, hD⟩, hS.F ht⟩) hS.2.2 hdg
  clear hQQ
  unfold p_X3_isLong at h
  have J14 : ∀ (s0 : Int32) (H : Heap) (locs : List Loc) (ls : Array Slot), p_X3_isLong_J14 Q s0 → va_P (dC, dI) vwCl [(h_this, .inr (3, [.int f_places, g_this_1, g_this_2, g_this_3, g_this_4, g_this_5, g_this_6, g_this_7]))] H → va_D A [(h_this, .inr (3, [.int f_places, g_this_1, g_this_2, g_this_3, g_this_4, g_this_5, g_this_6, g_this_7]))] → va_S A s.heap H locs → lv_has ls 1 [] → W p l e rm_X3_isLong s m args below meth c H locs 0 0 QQ (F0 m 14 ls [.int s0]) := by
    intro s0 H locs ls h hP hD hS hl
    unfold p_X3_isLong_J14 at h
    obtain ⟨zr14, h⟩ := h
    exact RET s0 H locs ls 14 dX3_isLong_14 zr14 h hP hD hS
  generalize hlo : ([] : List Loc) = locs at hS ⊢
  obtain ⟨H, hH⟩ : ∃ z, z = s.heap := ⟨_, rfl⟩
  rw [show W p l e rm_X3_isLong s m args below meth c s.heap = W p l e rm_X3_isLong s m args below meth c H by rw [hH]]
  replace hP : va_P (dC, dI) vwCl [(h_this, .inr (3, [.int f_places, g_this_1, g_this_2, g_this_3, g_this_4, g_this_5, g_this_6, g_this_7]))] H := by rw [hH]; exact hP
  replace hS : va_S A s.heap H locs := by rw [hH]; exact hS
  clear hH hlo
  refine lv_aload_n hx hb dX3_isLong_0 rfl (lv_at hl 0 rfl) ?_
  refine va_get (D := (dC, dI)) (ci := 3) (v := .int f_places) (C := RX3) (T := TX3) (N := 8) hx hb hts in_X3 hown hK hP 0 rfl rfl 0 (by decide) k_9 (fun _ h9 => h9) rfl dX3_isLong_1 ?_
  refine lv_bipush (v := 18) hx hb dX3_isLong_4 (by decide) ?_
  refine lv_icmp_ne (tgt := 13) hx hb dX3_isLong_6 (by decide) (fun c6 => ?_) (fun c6 => ?_)
  · replace h := And.left h c6
    refine lv_iconst (v := 0) hx hb dX3_isLong_13 (by decide) ?_
    exact J14 0 H locs ls h hP hD hS (lv_sub hl [] rfl)
  · replace h := And.right h c6
    refine lv_iconst (v := 1) hx hb dX3_isLong_9 (by decide) ?_
    refine lv_goto (tgt := 14) hx hb dX3_isLong_10 (by decide) ?_
    exact J14 1 H locs ls h hP hD hS (lv_sub hl [] rfl)
abbrev rm_X3_belongs : Room := { frames := 0, cells := 0, slots := 0, locals := 0 }
theorem q_X3_belongs : yX3_belongs.cls ≠ "java/lang/invoke/MethodHandle" ∧ yX3_belongs.cls ≠ "java/lang/invoke/VarHandle" ∧ (parseMethodDescriptor yX3_belongs.desc).map (fun d => d.parameters.length) = some 2 := by decide +kernel
set_option maxHeartbeats 4000000 in
set_option maxRecDepth 100000 in
theorem c_X3_belongs (l : Launch) (dC : Nat → ClassId) (dI : Nat → Nat → Nat) (cy : ClassId) (t_S : Nat → Nat) (sz : Nat) (x0 : Int32) (x1 : Int32) (Q : Int32 → Prop) (h : p_X3_belongs x0 x1 Q) : Met l yX3_belongs wsX3_belongs rm_X3_belongs (va_Pc [.int x0, .int x1] (fun U => U.heap.size = sz ∧ va_P (dC, dI) vwCl [] U.heap ∧ va_K (dC, dI) vwCl [(cy, .int)] U ∧ va_D (fun _ => True) [] ∧ ev_S t_S (va_A [] sz) U)) (va_Qi (fun (r : Int32) (u : Unit) => Q r) (fun (u : Unit) (t : State) => va_P (dC, dI) vwCl [] t.heap ∧ va_K (dC, dI) vwCl [(cy, .int)] t ∧ va_D (va_A [] sz) []) (va_A [] sz)) 0 0 (va_A [] sz) := by
  refine Met.ofW (cc := cX3_belongs) (maxL := 2) (ret := (some .boolean)) (by decide) rfl ?_
  intro p e s m args below meth c s₁ B hml hv
  obtain ⟨hargs, hsz, hP, hK, hD0, hE⟩ := hv
  have hx := B.exec
  have hb := B.bytes
  have hr := B.returns
  have hts := atoms_spec (ws := wsX3_belongs) B.pre
  have hown : s.vm.findClass RX3 = some m.cls := findClass_of_methodNamed B.named
  have hlocks := B.notSynchronized
  subst hsz
  have hD := hD0.self (sz := s.heap.size)
  generalize hAe : va_A [] s.heap.size = A at hE hD ⊢
  have hA : ∀ q : Nat, s.heap.size ≤ q → A q := fun q h => by rw [← hAe]; exact Or.inr h
  have hS : va_S A s.heap s.heap [] := va_S.rf
  have hl := lv_entry ([.int x0, .int x1]) (n := 2) (Nat.le_of_ble_eq_true rfl)
  rw [show entryFrame m args 2 = entryFrame m ([.int x0, .int x1] : List Value).toArray 2 by rw [hargs], lg_entry_eq]
  generalize (lg_sl ([.int x0, .int x1]) ++ List.replicate (2 - (lg_sl ([.int x0, .int x1])).length) Slot.unset).toArray = ls at hl ⊢
  have hl : lv_has ls 2 [(0, .int x0), (1, .int x1)] := hl
  have hP : va_P (dC, dI) vwCl [] s.heap := hP
  change W p l e rm_X3_belongs s m args below meth c s.heap [] 0 0 _ _
  generalize hQQ : MQ below _ _ _ _ _ _ = QQ
  have RET : ∀ (r : Int32) (H : Heap) (locs : List Loc) (ls : Array Slot) (pc : Nat), decode cX3_belongs pc = .ok (.ireturn, 1) → narrow .boolean (.int r) = .int r → Q r → va_P (dC, dI) vwCl [] H → va_D A [] → va_S A s.heap H locs → W p l e rm_X3_belongs s m args below meth c H locs 0 0 QQ (F0 m pc ls [.int r]) := by
    intro r  H locs ls pc hdg hz hq hP hD hS
    rw [← hQQ]
    exact W.zret (v := r) hx hb hr hz (fun t ht hW => ⟨⟨r, (), rfl, hq, by rw [ht]; exact hP, va_K.moved hW.alike hK, hD⟩, hS.F ht⟩) hS.2.2 hdg
  clear hQQ
  unfold p_X3_belongs at h
  have J37 : ∀ (s0 : Int32) (H : Heap) (locs : List Loc) (ls : Array Slot), p_X3_belongs_J37 Q s0 → va_P (dC, dI) vwCl [] H → va_D A [] → va_S A s.heap H locs → lv_has ls 2 [] → W p l e rm_X3_belongs s m args below meth c H locs 0 0 QQ (F0 m 37 ls [.int s0]) := by
    intro s0 H locs ls h hP hD hS hl
    unfold p_X3_belongs_J37 at h
    obtain ⟨zr37, h⟩ := h
    exact RET s0 H locs ls 37 dX3_belongs_37 zr37 h hP hD hS
  generalize hlo : ([] : List Loc) = locs at hS ⊢
  obtain ⟨H, hH⟩ : ∃ z, z = s.heap := ⟨_, rfl⟩
  rw [show W p l e rm_X3_belongs s m args below meth c s.heap = W p l e rm_X3_belongs s m args below meth c H by rw [hH]]
  replace hP : va_P (dC, dI) vwCl [] H := by rw [hH]; exact hP
  replace hS : va_S A s.heap H locs := by rw [hH]; exact hS
  clear hH hlo
  refine va_getsN hx hb (ev_z_LAYOUT hE) hS hown (va_Nw.use rfl (ev_k_LAYOUT hE)) (fun _ h9 => h9) dX3_belongs_0 ?_
  refine lv_iload_n hx hb dX3_belongs_3 rfl (lv_at hl 0 rfl) ?_
  obtain ⟨b4, h⟩ := h
  refine va_ti hx hb (ev_t_LAYOUT hE) hS b4 rfl dX3_belongs_4 ?_
  refine lv_iconst (v := (-1)) hx hb dX3_belongs_5 (by decide) ?_
  refine lv_icmp_ne (tgt := 23) hx hb dX3_belongs_6 (by decide) (fun c6 => ?_) (fun c6 => ?_)
  · replace h := And.left h c6
    refine lv_iload_n hx hb dX3_belongs_23 rfl (lv_at hl 1 rfl) ?_
    refine va_getsN hx hb (ev_z_LAYOUT hE) hS hown (va_Nw.use rfl (ev_k_LAYOUT hE)) (fun _ h9 => h9) dX3_belongs_24 ?_
    refine lv_iload_n hx hb dX3_belongs_27 rfl (lv_at hl 0 rfl) ?_
    obtain ⟨b28, h⟩ := h
    refine va_ti hx hb (ev_t_LAYOUT hE) hS b28 rfl dX3_belongs_28 ?_
    refine lv_icmp_ne (tgt := 36) hx hb dX3_belongs_29 (by decide) (fun c29 => ?_) (fun c29 => ?_)
    · replace h := And.left h c29
      refine lv_iconst (v := 0) hx hb dX3_belongs_36 (by decide) ?_
      exact J37 0 H locs ls h hP hD hS (lv_sub hl [] rfl)
    · replace h := And.right h c29
      refine lv_iconst (v := 1) hx hb dX3_belongs_32 (by decide) ?_
      refine lv_goto (tgt := 37) hx hb dX3_belongs_33 (by decide) ?_
      exact J37 1 H locs ls h hP hD hS (lv_sub hl [] rfl)
  · replace h := And.right h c6
    refine lv_iload_n hx hb dX3_belongs_9 rfl (lv_at hl 1 rfl) ?_
    refine lv_bipush (v := 10) hx hb dX3_belongs_10 (by decide) ?_
    refine lv_icmp_ge (tgt := 19) hx hb dX3_belongs_12 (by decide) (fun c12 => ?_) (fun c12 => ?_)
    · replace h := And.left h c12
      refine lv_iconst (v := 0) hx hb dX3_belongs_19 (by decide) ?_
      refine lv_goto (tgt := 37) hx hb dX3_belongs_20 (by decide) ?_
      exact J37 0 H locs ls h hP hD hS (lv_sub hl [] rfl)
    · replace h := And.right h c12
      refine lv_iconst (v := 1) hx hb dX3_belongs_15 (by decide) ?_
      refine lv_goto (tgt := 37) hx hb dX3_belongs_16 (by decide) ?_
      exact J37 1 H locs ls h hP hD hS (lv_sub hl [] rfl)
abbrev rm_X3_checkLine : Room := { frames := 1, cells := 0, slots := 0, locals := 21 }
theorem q_X3_checkLine : yX3_checkLine.cls = RX3 ∧ yX3_checkLine.cls ≠ "java/lang/invoke/MethodHandle" ∧ yX3_checkLine.cls ≠ "java/lang/invoke/VarHandle" ∧ (parseMethodDescriptor yX3_checkLine.desc).map (fun d => d.parameters.length) = some 0 := by decide +kernel
set_option maxHeartbeats 4000000 in
set_option maxRecDepth 100000 in
theorem c_X3_checkLine (l : Launch) (dC : Nat → ClassId) (dI : Nat → Nat → Nat) (cy : ClassId) (t_S : Nat → Nat) (h_this : Nat) (h_signs : Nat) (sz : Nat) (g_this_1 g_this_2 g_this_3 g_this_5 : Value) (f_places : Int32) (f_strangers : Int32) (f_checkSum : Int32) (a_signs : Nat → Int32) (Q : Int32 → Int32 → Prop) (h : p_X3_checkLine f_places f_strangers f_checkSum a_signs Q) : Met l yX3_checkLine wsX3_checkLine rm_X3_checkLine (va_Pc [.ref h_this] (fun U => U.heap.size = sz ∧ va_P (dC, dI) vwCl [(h_this, .inr (3, [.int f_places, g_this_1, g_this_2, g_this_3, .ref h_signs, g_this_5, .int f_strangers, .int f_checkSum])), (h_signs, .inl (cy, 20, .inl a_signs))] U.heap ∧ va_K (dC, dI) vwCl [(cy, .int)] U ∧ va_D (fun _ => True) [(h_this, .inr (3, [.int f_places, g_this_1, g_this_2, g_this_3, .ref h_signs, g_this_5, .int f_strangers, .int f_checkSum])), (h_signs, .inl (cy, 20, .inl a_signs))] ∧ ev_S t_S (va_A [(h_this, .inr (3, [.int f_places, g_this_1, g_this_2, g_this_3, .ref h_signs, g_this_5, .int f_strangers, .int f_checkSum])), (h_signs, .inl (cy, 20, .inl a_signs))] sz) U)) (va_Qv (fun (u : Int32 × Int32) => Q u.1 u.2) (fun (u : Int32 × Int32) (t : State) => va_P (dC, dI) vwCl [(h_this, .inr (3, [.int f_places, g_this_1, g_this_2, g_this_3, .ref h_signs, g_this_5, .int (u.1), .int (u.2)])), (h_signs, .inl (cy, 20, .inl a_signs))] t.heap ∧ va_K (dC, dI) vwCl [(cy, .int)] t ∧ va_D (va_A [(h_this, .inr (3, [.int f_places, g_this_1, g_this_2, g_this_3, .ref h_signs, g_this_5, .int f_strangers, .int f_checkSum])), (h_signs, .inl (cy, 20, .inl a_signs))] sz) [(h_this, .inr (3, [.int f_places, g_this_1, g_this_2, g_this_3, .ref h_signs, g_this_5, .int (u.1), .int (u.2)])), (h_signs, .inl (cy, 20, .inl a_signs))]) (va_A [(h_this, .inr (3, [.int f_places, g_this_1, g_this_2, g_this_3, .ref h_signs, g_this_5, .int f_strangers, .int f_checkSum])), (h_signs, .inl (cy, 20, .inl a_signs))] sz)) 0 0 (va_A [(h_this, .inr (3, [.int f_places, g_this_1, g_this_2, g_this_3, .ref h_signs, g_this_5, .int f_strangers, .int f_checkSum])), (h_signs, .inl (cy, 20, .inl a_signs))] sz) := by
  refine Met.ofW (cc := cX3_checkLine) (maxL := 2) (ret := none) (by decide) rfl ?_
  intro p e s m args below meth c s₁ B hml hv
  obtain ⟨hargs, hsz, hP, hK, hD0, hE⟩ := hv
  have hx := B.exec
  have hb := B.bytes
  have hr := B.returns
  have hts := atoms_spec (ws := wsX3_checkLine) B.pre
  have hown : s.vm.findClass RX3 = some m.cls := findClass_of_methodNamed B.named
  have hlocks := B.notSynchronized
  subst hsz
  have hD := hD0.self (sz := s.heap.size)
  generalize hAe : va_A [(h_this, .inr (3, [.int f_places, g_this_1, g_this_2, g_this_3, .ref h_signs, g_this_5, .int f_strangers, .int f_checkSum])), (h_signs, .inl (cy, 20, .inl a_signs))] s.heap.size = A at hE hD ⊢
  have hA : ∀ q : Nat, s.heap.size ≤ q → A q := fun q h => by rw [← hAe]; exact Or.inr h
  have hS : va_S A s.heap s.heap [] := va_S.rf
  have in_X3 : ∀ w ∈ u_ws RX3 TX3 8, w ∈ wsX3_checkLine := by decide +kernel
  have k_25 := hts (.fieldLink RX3 25 "ChequeDesk$Reading" "signs" "[I") (by decide +kernel)
  have k_32 := hts (.fieldLink RX3 32 "ChequeDesk$Reading" "strangers" "I") (by decide +kernel)
  have k_35 := hts (.fieldLink RX3 35 "ChequeDesk$Reading" "checkSum" "I") (by decide +kernel)
  have hl := lv_entry ([.ref h_this]) (n := 2) (Nat.le_of_ble_eq_true rfl)
  rw [show entryFrame m args 2 = entryFrame m ([.ref h_this] : List Value).toArray 2 by rw [hargs], lg_entry_eq]
  generalize (lg_sl ([.ref h_this]) ++ List.replicate (2 - (lg_sl ([.ref h_this])).length) Slot.unset).toArray = ls at hl ⊢
  have hl : lv_has ls 2 [(0, .ref h_this)] := hl
  have hP : va_P (dC, dI) vwCl [(h_this, .inr (3, [.int f_places, g_this_1, g_this_2, g_this_3, .ref h_signs, g_this_5, .int f_strangers, .int f_checkSum])), (h_signs, .inl (cy, 20, .inl a_signs))] s.heap := hP
  change W p l e rm_X3_checkLine s m args below meth c s.heap [] 0 0 _ _
  generalize hQQ : MQ below _ _ _ _ _ _ = QQ
  have RET : ∀ (f_strangers : Int32) (f_checkSum : Int32) (H : Heap) (locs : List Loc) (ls : Array Slot) (pc : Nat), decode cX3_checkLine pc = .ok (.return_, 1) → Q f_strangers f_checkSum → va_P (dC, dI) vwCl [(h_this, .inr (3, [.int f_places, g_this_1, g_this_2, g_this_3, .ref h_signs, g_this_5, .int f_strangers, .int f_checkSum])), (h_signs, .inl (cy, 20, .inl a_signs))] H → va_D A [(h_this, .inr (3, [.int f_places, g_this_1, g_this_2, g_this_3, .ref h_signs, g_this_5, .int f_strangers, .int f_checkSum])), (h_signs, .inl (cy, 20, .inl a_signs))] → va_S A s.heap H locs → W p l e rm_X3_checkLine s m args below meth c H locs 0 0 QQ (F0 m pc ls []) := by
    intro f_strangers f_checkSum H locs ls pc hdg hq hP hD hS
    rw [← hQQ]
    exact W.vret hx hb hr (fun t ht hW => ⟨⟨(f_strangers, f_checkSum), rfl, hq, by rw [ht]; exact hP, va_K.moved hW.alike hK, hD⟩, hS.F ht⟩) hS.2.2 hdg
  clear hQQ
  unfold p_X3_checkLine at h
  have L20 : ∀ (K20 : Int32 → Int32 → Int32 → Prop) (n : Nat) (x1 : Int32) (f_strangers : Int32) (f_checkSum : Int32) (H : Heap) (locs : List Loc) (ls : Array Slot), wl3 (p_X3_checkLine_B20 a_signs K20) n x1 f_strangers f_checkSum → va_P (dC, dI) vwCl [(h_this, .inr (3, [.int f_places, g_this_1, g_this_2, g_this_3, .ref h_signs, g_this_5, .int f_strangers, .int f_checkSum])), (h_signs, .inl (cy, 20, .inl a_signs))] H → va_D A [(h_this, .inr (3, [.int f_places, g_this_1, g_this_2, g_this_3, .ref h_signs, g_this_5, .int f_strangers, .int f_checkSum])), (h_signs, .inl (cy, 20, .inl a_signs))] → va_S A s.heap H locs → lv_has ls 2 [(0, .ref h_this), (1, .int x1)] → (∀ (x1 : Int32) (f_strangers : Int32) (f_checkSum : Int32) (H : Heap) (locs : List Loc) (ls : Array Slot), K20 x1 f_strangers f_checkSum → va_P (dC, dI) vwCl [(h_this, .inr (3, [.int f_places, g_this_1, g_this_2, g_this_3, .ref h_signs, g_this_5, .int f_strangers, .int f_checkSum])), (h_signs, .inl (cy, 20, .inl a_signs))] H → va_D A [(h_this, .inr (3, [.int f_places, g_this_1, g_this_2, g_this_3, .ref h_signs, g_this_5, .int f_strangers, .int f_checkSum])), (h_signs, .inl (cy, 20, .inl a_signs))] → va_S A s.heap H locs → lv_has ls 2 [] → W p l e rm_X3_checkLine s m args below meth c H locs 0 0 QQ (F0 m 76 ls [])) → W p l e rm_X3_checkLine s m args below meth c H locs 0 0 QQ (F0 m 20 ls []) := by
    intro K20 n
    induction n with
    | zero => intro x1 f_strangers f_checkSum H locs ls h; exact False.elim h
    | succ n ih =>
      intro x1 f_strangers f_checkSum H locs ls h hP hD hS hl hk
      have ih := fun x1 f_strangers f_checkSum H locs ls h hP hD hS hl => ih x1 f_strangers f_checkSum H locs ls h hP hD hS hl hk
      replace h : p_X3_checkLine_B20 a_signs K20 (wl3 (p_X3_checkLine_B20 a_signs K20) n) x1 f_strangers f_checkSum := h
      unfold p_X3_checkLine_B20 at h
      have J49 : ∀ (x1 : Int32) (f_strangers : Int32) (f_checkSum : Int32) (H : Heap) (locs : List Loc) (ls : Array Slot), p_X3_checkLine_J49 f_strangers f_checkSum a_signs (wl3 (p_X3_checkLine_B20 a_signs K20) n) x1 → va_P (dC, dI) vwCl [(h_this, .inr (3, [.int f_places, g_this_1, g_this_2, g_this_3, .ref h_signs, g_this_5, .int f_strangers, .int f_checkSum])), (h_signs, .inl (cy, 20, .inl a_signs))] H → va_D A [(h_this, .inr (3, [.int f_places, g_this_1, g_this_2, g_this_3, .ref h_signs, g_this_5, .int f_strangers, .int f_checkSum])), (h_signs, .inl (cy, 20, .inl a_signs))] → va_S A s.heap H locs → lv_has ls 2 [(0, .ref h_this), (1, .int x1)] → W p l e rm_X3_checkLine s m args below meth c H locs 0 0 QQ (F0 m 49 ls []) := by
        intro x1 f_strangers f_checkSum H locs ls h hP hD hS hl
        unfold p_X3_checkLine_J49 at h
        refine lv_aload_n hx hb dX3_checkLine_49 rfl (lv_at hl 0 rfl) ?_
        refine lv_dup hx hb dX3_checkLine_50 rfl ?_
        refine va_get (D := (dC, dI)) (ci := 3) (v := .int f_checkSum) (C := RX3) (T := TX3) (N := 8) hx hb hts in_X3 hown hK hP 0 rfl rfl 7 (by decide) k_35 (fun _ h9 => h9) rfl dX3_checkLine_51 ?_
        refine va_getsN hx hb (ev_z_WEIGHTS hE) hS hown (va_Nw.use rfl (ev_k_WEIGHTS hE)) (fun _ h9 => h9) dX3_checkLine_54 ?_
        refine lv_iload_n hx hb dX3_checkLine_57 rfl (lv_at hl 1 rfl) ?_
        obtain ⟨b58, h⟩ := h
        refine va_ti hx hb (ev_t_WEIGHTS hE) hS b58 rfl dX3_checkLine_58 ?_
        refine lv_aload_n hx hb dX3_checkLine_59 rfl (lv_at hl 0 rfl) ?_
        refine va_get (D := (dC, dI)) (ci := 3) (v := .ref h_signs) (C := RX3) (T := TX3) (N := 8) hx hb hts in_X3 hown hK hP 0 rfl rfl 4 (by decide) k_25 (fun _ h9 => h9) rfl dX3_checkLine_60 ?_
        refine lv_iload_n hx hb dX3_checkLine_63 rfl (lv_at hl 1 rfl) ?_
        obtain ⟨b64, h⟩ := h
        refine va_iald hx hb hK hP 1 0 rfl rfl b64 dX3_checkLine_64 ?_
        refine lv_imul hx hb dX3_checkLine_65 ?_
        refine lv_iadd hx hb dX3_checkLine_66 ?_
        refine va_put (D := (dC, dI)) (ci := 3) (v := .int (f_checkSum + ((s_WEIGHTS (Int32.toNatClampNeg x1)) * (a_signs (Int32.toNatClampNeg x1))))) (ty := .int) (C := RX3) (T := TX3) (N := 8) hx hb hts in_X3 tyX3 tyX3_ok nmX3 hown hK hP hD hS 0 rfl rfl 7 (by decide) k_35 (fun _ h9 => h9) rfl (by decide +kernel) rfl rfl (Nat.le_of_ble_eq_true rfl) dX3_checkLine_67 (fun H locs hP hD hS => ?_)
        have hP : va_P (dC, dI) vwCl [(h_this, .inr (3, [.int f_places, g_this_1, g_this_2, g_this_3, .ref h_signs, g_this_5, .int f_strangers, .int (f_checkSum + ((s_WEIGHTS (Int32.toNatClampNeg x1)) * (a_signs (Int32.toNatClampNeg x1))))])), (h_signs, .inl (cy, 20, .inl a_signs))] H := hP
        have hD : va_D A [(h_this, .inr (3, [.int f_places, g_this_1, g_this_2, g_this_3, .ref h_signs, g_this_5, .int f_strangers, .int (f_checkSum + ((s_WEIGHTS (Int32.toNatClampNeg x1)) * (a_signs (Int32.toNatClampNeg x1))))])), (h_signs, .inl (cy, 20, .inl a_signs))] := hD
        refine lv_iinc (v := x1 + 1) (lv' := [(1, .int (x1 + 1)), (0, .ref h_this)]) hx hb dX3_checkLine_70 hl (k := 1) rfl (by rfl) (by decide) rfl (fun ls hl => ?_)
        refine lv_goto (tgt := 20) hx hb dX3_checkLine_73 (by decide) ?_
        exact ih (x1 + 1) f_strangers (f_checkSum + ((s_WEIGHTS (Int32.toNatClampNeg x1)) * (a_signs (Int32.toNatClampNeg x1)))) H locs ls h hP hD hS (lv_sub hl [1, 0] rfl)
      refine lv_iload_n hx hb dX3_checkLine_20 rfl (lv_at hl 1 rfl) ?_
      refine lv_bipush (v := 18) hx hb dX3_checkLine_21 (by decide) ?_
      refine lv_icmp_ge (tgt := 76) hx hb dX3_checkLine_23 (by decide) (fun c23 => ?_) (fun c23 => ?_)
      · replace h := And.left h c23
        exact hk x1 f_strangers f_checkSum H locs ls h hP hD hS (lv_sub hl [] rfl)
      · replace h := And.right h c23
        refine lv_iload_n hx hb dX3_checkLine_26 rfl (lv_at hl 1 rfl) ?_
        refine lv_aload_n hx hb dX3_checkLine_27 rfl (lv_at hl 0 rfl) ?_
        refine va_get (D := (dC, dI)) (ci := 3) (v := .ref h_signs) (C := RX3) (T := TX3) (N := 8) hx hb hts in_X3 hown hK hP 0 rfl rfl 4 (by decide) k_25 (fun _ h9 => h9) rfl dX3_checkLine_28 ?_
        refine lv_iload_n hx hb dX3_checkLine_31 rfl (lv_at hl 1 rfl) ?_
        obtain ⟨b32, h⟩ := h
        refine va_iald hx hb hK hP 1 0 rfl rfl b32 dX3_checkLine_32 ?_
        have hPc := hP.sub (ws' := []) [] rfl
        have hDc := hD.sub (ws' := []) [] (by decide) rfl
        have hFc := va_free (wc := []) hD hS hA [] rfl
        refine va_calli (va_runS (As := [.int x1, .int (a_signs (Int32.toNatClampNeg x1))]) (rest := []) ⟨hx, hb, hml, hown, hts⟩ (c_X3_belongs l dC dI cy t_S  H.size   x1 (a_signs (Int32.toNatClampNeg x1)) _ h) (va_cwS 2 hts gX3_checkLine_X3_belongs rfl rfl rfl q_X3_belongs ⟨Nat.le_of_ble_eq_true rfl, Nat.le_of_ble_eq_true rfl⟩) ⟨fun a U g mk q => by obtain ⟨q0, q1, qP, qK, qD, qE⟩ := q; exact ⟨q0, q1, qP, va_K.moved (u := U) (U := U.calling g mk a) (Vm.Alike.refl U.vm) qK, qD, ev_calling qE⟩, fun U hU hW => ⟨rfl, by rw [hU], by rw [hU]; exact hPc, va_K.moved hW.alike hK, hDc.weaken (fun _ _ _ _ => trivial), ev_in hE hS hFc hU hW⟩⟩ rfl rfl hl.1 rfl (lv_room (Nat.le_of_ble_eq_true rfl)) dX3_checkLine_33 ⟨Nat.le_of_ble_eq_true rfl, Nat.le_of_ble_eq_true rfl⟩) hS (fun q _ h => hFc q h) hFc (fun r33 u t H1 locs ht hvm hw hB hz1 hk1 hS => ?_)
        obtain ⟨hP1, hK1, hD1⟩ := hB
        rw [ht] at hP1
        obtain ⟨hP, hD⟩ := va_join (wr := [(h_this, .inr (3, [.int f_places, g_this_1, g_this_2, g_this_3, .ref h_signs, g_this_5, .int f_strangers, .int f_checkSum])), (h_signs, .inl (cy, 20, .inl a_signs))]) (w1 := []) hP hD [] [0, 1] rfl rfl (by decide) (by decide) hk1 hFc hP1 hD1
        replace hP := hP.sub (ws' := [(h_this, .inr (3, [.int f_places, g_this_1, g_this_2, g_this_3, .ref h_signs, g_this_5, .int f_strangers, .int f_checkSum])), (h_signs, .inl (cy, 20, .inl a_signs))]) [0, 1] rfl
        replace hD := hD.sub (ws' := [(h_this, .inr (3, [.int f_places, g_this_1, g_this_2, g_this_3, .ref h_signs, g_this_5, .int f_strangers, .int f_checkSum])), (h_signs, .inl (cy, 20, .inl a_signs))]) [0, 1] (by decide) rfl
        clear hPc hDc hFc hP1 hK1 hD1 hz1 hk1 hvm
        subst ht
        generalize t.heap = H at hP hS ⊢
        replace h := hw
        clear hw
        refine lv_if_ne (tgt := 49) hx hb dX3_checkLine_36 (by decide) (fun c36 => ?_) (fun c36 => ?_)
        · replace h := And.left h c36
          exact J49 x1 f_strangers f_checkSum H locs ls h hP hD hS (lv_sub hl [0, 1] rfl)
        · replace h := And.right h c36
          refine lv_aload_n hx hb dX3_checkLine_39 rfl (lv_at hl 0 rfl) ?_
          refine lv_dup hx hb dX3_checkLine_40 rfl ?_
          refine va_get (D := (dC, dI)) (ci := 3) (v := .int f_strangers) (C := RX3) (T := TX3) (N := 8) hx hb hts in_X3 hown hK hP 0 rfl rfl 6 (by decide) k_32 (fun _ h9 => h9) rfl dX3_checkLine_41 ?_
          refine lv_iconst (v := 1) hx hb dX3_checkLine_44 (by decide) ?_
          refine lv_iadd hx hb dX3_checkLine_45 ?_
          refine va_put (D := (dC, dI)) (ci := 3) (v := .int (f_strangers + 1)) (ty := .int) (C := RX3) (T := TX3) (N := 8) hx hb hts in_X3 tyX3 tyX3_ok nmX3 hown hK hP hD hS 0 rfl rfl 6 (by decide) k_32 (fun _ h9 => h9) rfl (by decide +kernel) rfl rfl (Nat.le_of_ble_eq_true rfl) dX3_checkLine_46 (fun H locs hP hD hS => ?_)
          have hP : va_P (dC, dI) vwCl [(h_this, .inr (3, [.int f_places, g_this_1, g_this_2, g_this_3, .ref h_signs, g_this_5, .int (f_strangers + 1), .int f_checkSum])), (h_signs, .inl (cy, 20, .inl a_signs))] H := hP
          have hD : va_D A [(h_this, .inr (3, [.int f_places, g_this_1, g_this_2, g_this_3, .ref h_signs, g_this_5, .int (f_strangers + 1), .int f_checkSum])), (h_signs, .inl (cy, 20, .inl a_signs))] := hD
          exact J49 x1 (f_strangers + 1) f_checkSum H locs ls h hP hD hS (lv_sub hl [0, 1] rfl)
  generalize hlo : ([] : List Loc) = locs at hS ⊢
  obtain ⟨H, hH⟩ : ∃ z, z = s.heap := ⟨_, rfl⟩
  rw [show W p l e rm_X3_checkLine s m args below meth c s.heap = W p l e rm_X3_checkLine s m args below meth c H by rw [hH]]
  replace hP : va_P (dC, dI) vwCl [(h_this, .inr (3, [.int f_places, g_this_1, g_this_2, g_this_3, .ref h_signs, g_this_5, .int f_strangers, .int f_checkSum])), (h_signs, .inl (cy, 20, .inl a_signs))] H := by rw [hH]; exact hP
  replace hS : va_S A s.heap H locs := by rw [hH]; exact hS
  clear hH hlo
  refine lv_aload_n hx hb dX3_checkLine_0 rfl (lv_at hl 0 rfl) ?_
  refine lv_iconst (v := 0) hx hb dX3_checkLine_1 (by decide) ?_
  refine va_put (D := (dC, dI)) (ci := 3) (v := .int 0) (ty := .int) (C := RX3) (T := TX3) (N := 8) hx hb hts in_X3 tyX3 tyX3_ok nmX3 hown hK hP hD hS 0 rfl rfl 6 (by decide) k_32 (fun _ h9 => h9) rfl (by decide +kernel) rfl rfl (Nat.le_of_ble_eq_true rfl) dX3_checkLine_2 (fun H locs hP hD hS => ?_)
  have hP : va_P (dC, dI) vwCl [(h_this, .inr (3, [.int f_places, g_this_1, g_this_2, g_this_3, .ref h_signs, g_this_5, .int 0, .int f_checkSum])), (h_signs, .inl (cy, 20, .inl a_signs))] H := hP
  have hD : va_D A [(h_this, .inr (3, [.int f_places, g_this_1, g_this_2, g_this_3, .ref h_signs, g_this_5, .int 0, .int f_checkSum])), (h_signs, .inl (cy, 20, .inl a_signs))] := hD
  refine lv_aload_n hx hb dX3_checkLine_5 rfl (lv_at hl 0 rfl) ?_
  refine lv_iconst (v := 0) hx hb dX3_checkLine_6 (by decide) ?_
  refine va_put (D := (dC, dI)) (ci := 3) (v := .int 0) (ty := .int) (C := RX3) (T := TX3) (N := 8) hx hb hts in_X3 tyX3 tyX3_ok nmX3 hown hK hP hD hS 0 rfl rfl 7 (by decide) k_35 (fun _ h9 => h9) rfl (by decide +kernel) rfl rfl (Nat.le_of_ble_eq_true rfl) dX3_checkLine_7 (fun H locs hP hD hS => ?_)
  have hP : va_P (dC, dI) vwCl [(h_this, .inr (3, [.int f_places, g_this_1, g_this_2, g_this_3, .ref h_signs, g_this_5, .int 0, .int 0])), (h_signs, .inl (cy, 20, .inl a_signs))] H := hP
  have hD : va_D A [(h_this, .inr (3, [.int f_places, g_this_1, g_this_2, g_this_3, .ref h_signs, g_this_5, .int 0, .int 0])), (h_signs, .inl (cy, 20, .inl a_signs))] := hD
  refine lv_aload_n hx hb dX3_checkLine_10 rfl (lv_at hl 0 rfl) ?_
  have hPc := hP.sub (ws' := [(h_this, .inr (3, [.int f_places, g_this_1, g_this_2, g_this_3, .ref h_signs, g_this_5, .int 0, .int 0]))]) [0] rfl
  have hDc := hD.sub (ws' := [(h_this, .inr (3, [.int f_places, g_this_1, g_this_2, g_this_3, .ref h_signs, g_this_5, .int 0, .int 0]))]) [0] (by decide) rfl
  have hFc := va_free (wc := [(h_this, .inr (3, [.int f_places, g_this_1, g_this_2, g_this_3, .ref h_signs, g_this_5, .int 0, .int 0]))]) hD hS hA [0] rfl
  refine va_calli (va_runV (As := []) (rest := []) ⟨hx, hb, hml, hown, hts⟩ (c_X3_isLong l dC dI cy h_this H.size (g_this_1) (g_this_2) (g_this_3) (.ref h_signs) (g_this_5) (.int 0) (.int 0) f_places  _ h) (cwV 0 hts gX3_checkLine_X3_isLong rfl rfl rfl q_X3_isLong ⟨Nat.le_of_ble_eq_true rfl, Nat.le_of_ble_eq_true rfl⟩) ⟨fun a U g mk q => by obtain ⟨q0, q1, qP, qK, qD⟩ := q; exact ⟨q0, q1, qP, va_K.moved (u := U) (U := U.calling g mk a) (Vm.Alike.refl U.vm) qK, qD⟩, va_recv hK hP (ci := 3) (q0 := 0) rfl rfl, fun U hU hW => ⟨rfl, by rw [hU], by rw [hU]; exact hPc, va_K.moved hW.alike hK, hDc.weaken (fun _ _ _ _ => trivial)⟩⟩ rfl rfl hl.1 rfl (lv_room (Nat.le_of_ble_eq_true rfl)) dX3_checkLine_11 ⟨Nat.le_of_ble_eq_true rfl, Nat.le_of_ble_eq_true rfl⟩) hS (fun q _ h => hFc q h) hFc (fun r11 u t H1 locs ht hvm hw hB hz1 hk1 hS => ?_)
  obtain ⟨hP1, hK1, hD1⟩ := hB
  rw [ht] at hP1
  obtain ⟨hP, hD⟩ := va_join (wr := [(h_signs, .inl (cy, 20, .inl a_signs))]) (w1 := [(h_this, .inr (3, [.int f_places, g_this_1, g_this_2, g_this_3, .ref h_signs, g_this_5, .int 0, .int 0]))]) hP hD [0] [1] rfl rfl (by decide) (by decide) hk1 hFc hP1 hD1
  replace hP := hP.sub (ws' := [(h_this, .inr (3, [.int f_places, g_this_1, g_this_2, g_this_3, .ref h_signs, g_this_5, .int 0, .int 0])), (h_signs, .inl (cy, 20, .inl a_signs))]) [1, 0] rfl
  replace hD := hD.sub (ws' := [(h_this, .inr (3, [.int f_places, g_this_1, g_this_2, g_this_3, .ref h_signs, g_this_5, .int 0, .int 0])), (h_signs, .inl (cy, 20, .inl a_signs))]) [1, 0] (by decide) rfl
  clear hPc hDc hFc hP1 hK1 hD1 hz1 hk1 hvm
  subst ht
  generalize t.heap = H at hP hS ⊢
  replace h := hw
  clear hw
  refine lv_if_ne (tgt := 18) hx hb dX3_checkLine_14 (by decide) (fun c14 => ?_) (fun c14 => ?_)
  · replace h := And.left h c14
    refine lv_iconst (v := 0) hx hb dX3_checkLine_18 (by decide) ?_
    refine lv_istore_n (lv' := [(1, .int 0), (0, .ref h_this)]) hx hb dX3_checkLine_19 rfl hl (by decide) rfl (fun ls hl => ?_)
    obtain ⟨n20, h⟩ := h
    refine L20  _ n20 0 0 0 H locs ls h hP hD hS (lv_sub hl [1, 0] rfl) (fun x1_76 f_strangers_76 f_checkSum_76 H locs ls h hP hD hS hl => ?_)
    exact RET f_strangers_76 f_checkSum_76 H locs ls 76 dX3_checkLine_76 h hP hD hS
  · replace h := And.right h c14
    exact RET 0 0 H locs ls 17 dX3_checkLine_17 h hP hD hS
abbrev rm_X3_fits : Room := { frames := 1, cells := 0, slots := 0, locals := 20 }
theorem q_X3_fits : yX3_fits.cls = RX3 ∧ yX3_fits.cls ≠ "java/lang/invoke/MethodHandle" ∧ yX3_fits.cls ≠ "java/lang/invoke/VarHandle" ∧ (parseMethodDescriptor yX3_fits.desc).map (fun d => d.parameters.length) = some 0 := by decide +kernel
set_option maxHeartbeats 4000000 in
set_option maxRecDepth 100000 in
theorem c_X3_fits (l : Launch) (dC : Nat → ClassId) (dI : Nat → Nat → Nat) (cy : ClassId) (h_this : Nat) (sz : Nat) (g_this_1 g_this_2 g_this_3 g_this_4 g_this_5 : Value) (f_places : Int32) (f_strangers : Int32) (f_checkSum : Int32) (Q : Int32 → Prop) (h : p_X3_fits f_places f_strangers f_checkSum Q) : Met l yX3_fits wsX3_fits rm_X3_fits (va_Pc [.ref h_this] (fun U => U.heap.size = sz ∧ va_P (dC, dI) vwCl [(h_this, .inr (3, [.int f_places, g_this_1, g_this_2, g_this_3, g_this_4, g_this_5, .int f_strangers, .int f_checkSum]))] U.heap ∧ va_K (dC, dI) vwCl [(cy, .int)] U ∧ va_D (fun _ => True) [(h_this, .inr (3, [.int f_places, g_this_1, g_this_2, g_this_3, g_this_4, g_this_5, .int f_strangers, .int f_checkSum]))])) (va_Qi (fun (r : Int32) (u : Unit) => Q r) (fun (u : Unit) (t : State) => va_P (dC, dI) vwCl [(h_this, .inr (3, [.int f_places, g_this_1, g_this_2, g_this_3, g_this_4, g_this_5, .int f_strangers, .int f_checkSum]))] t.heap ∧ va_K (dC, dI) vwCl [(cy, .int)] t ∧ va_D (va_A [(h_this, .inr (3, [.int f_places, g_this_1, g_this_2, g_this_3, g_this_4, g_this_5, .int f_strangers, .int f_checkSum]))] sz) [(h_this, .inr (3, [.int f_places, g_this_1, g_this_2, g_this_3, g_this_4, g_this_5, .int f_strangers, .int f_checkSum]))]) (va_A [(h_this, .inr (3, [.int f_places, g_this_1, g_this_2, g_this_3, g_this_4, g_this_5, .int f_strangers, .int f_checkSum]))] sz)) 0 0 (va_A [(h_this, .inr (3, [.int f_places, g_this_1, g_this_2, g_this_3, g_this_4, g_this_5, .int f_strangers, .int f_checkSum]))] sz) := by
  refine Met.ofW (cc := cX3_fits) (maxL := 1) (ret := (some .boolean)) (by decide) rfl ?_
  intro p e s m args below meth c s₁ B hml hv
  obtain ⟨hargs, hsz, hP, hK, hD0⟩ := hv
  have hx := B.exec
  have hb := B.bytes
  have hr := B.returns
  have hts := atoms_spec (ws := wsX3_fits) B.pre
  have hown : s.vm.findClass RX3 = some m.cls := findClass_of_methodNamed B.named
  have hlocks := B.notSynchronized
  subst hsz
  have hD := hD0.self (sz := s.heap.size)
  generalize hAe : va_A [(h_this, .inr (3, [.int f_places, g_this_1, g_this_2, g_this_3, g_this_4, g_this_5, .int f_strangers, .int f_checkSum]))] s.heap.size = A at hD ⊢
  have hA : ∀ q : Nat, s.heap.size ≤ q → A q := fun q h => by rw [← hAe]; exact Or.inr h
  have hS : va_S A s.heap s.heap [] := va_S.rf
  have in_X3 : ∀ w ∈ u_ws RX3 TX3 8, w ∈ wsX3_fits := by decide +kernel
  have k_32 := hts (.fieldLink RX3 32 "ChequeDesk$Reading" "strangers" "I") (by decide +kernel)
  have k_35 := hts (.fieldLink RX3 35 "ChequeDesk$Reading" "checkSum" "I") (by decide +kernel)
  have hl := lv_entry ([.ref h_this]) (n := 1) (Nat.le_of_ble_eq_true rfl)
  rw [show entryFrame m args 1 = entryFrame m ([.ref h_this] : List Value).toArray 1 by rw [hargs], lg_entry_eq]
  generalize (lg_sl ([.ref h_this]) ++ List.replicate (1 - (lg_sl ([.ref h_this])).length) Slot.unset).toArray = ls at hl ⊢
  have hl : lv_has ls 1 [(0, .ref h_this)] := hl
  have hP : va_P (dC, dI) vwCl [(h_this, .inr (3, [.int f_places, g_this_1, g_this_2, g_this_3, g_this_4, g_this_5, .int f_strangers, .int f_checkSum]))] s.heap := hP
  change W p l e rm_X3_fits s m args below meth c s.heap [] 0 0 _ _
  generalize hQQ : MQ below _ _ _ _ _ _ = QQ
  have RET : ∀ (r : Int32) (H : Heap) (locs : List Loc) (ls : Array Slot) (pc : Nat), decode cX3_fits pc = .ok (.ireturn, 1) → narrow .boolean (.int r) = .int r → Q r → va_P (dC, dI) vwCl [(h_this, .inr (3, [.int f_places, g_this_1, g_this_2, g_this_3, g_this_4, g_this_5, .int f_strangers, .int f_checkSum]))] H → va_D A [(h_this, .inr (3, [.int f_places, g_this_1, g_this_2, g_this_3, g_this_4, g_this_5, .int f_strangers, .int f_checkSum]))] → va_S A s.heap H locs → W p l e rm_X3_fits s m args below meth c H locs 0 0 QQ (F0 m pc ls [.int r]) := by
    intro r  H locs ls pc hdg hz hq hP hD hS
    rw [← hQQ]
    exact W.zret (v := r) hx hb hr hz (fun t ht hW => ⟨⟨r, (), rfl, hq, by rw [ht]; exact hP, va_K.moved hW.alike hK, hD⟩, hS.F ht⟩) hS.2.2 hdg
  clear hQQ
  unfold p_X3_fits at h
  have J29 : ∀ (s0 : Int32) (H : Heap) (locs : List Loc) (ls : Array Slot), p_X3_fits_J29 Q s0 → va_P (dC, dI) vwCl [(h_this, .inr (3, [.int f_places, g_this_1, g_this_2, g_this_3, g_this_4, g_this_5, .int f_strangers, .int f_checkSum]))] H → va_D A [(h_this, .inr (3, [.int f_places, g_this_1, g_this_2, g_this_3, g_this_4, g_this_5, .int f_strangers, .int f_checkSum]))] → va_S A s.heap H locs → lv_has ls 1 [] → W p l e rm_X3_fits s m args below meth c H locs 0 0 QQ (F0 m 29 ls [.int s0]) := by
    intro s0 H locs ls h hP hD hS hl
    unfold p_X3_fits_J29 at h
    obtain ⟨zr29, h⟩ := h
    exact RET s0 H locs ls 29 dX3_fits_29 zr29 h hP hD hS
  have J28 : ∀ (H : Heap) (locs : List Loc) (ls : Array Slot), p_X3_fits_J28 Q → va_P (dC, dI) vwCl [(h_this, .inr (3, [.int f_places, g_this_1, g_this_2, g_this_3, g_this_4, g_this_5, .int f_strangers, .int f_checkSum]))] H → va_D A [(h_this, .inr (3, [.int f_places, g_this_1, g_this_2, g_this_3, g_this_4, g_this_5, .int f_strangers, .int f_checkSum]))] → va_S A s.heap H locs → lv_has ls 1 [] → W p l e rm_X3_fits s m args below meth c H locs 0 0 QQ (F0 m 28 ls []) := by
    intro  H locs ls h hP hD hS hl
    unfold p_X3_fits_J28 at h
    refine lv_iconst (v := 0) hx hb dX3_fits_28 (by decide) ?_
    exact J29 0 H locs ls h hP hD hS (lv_sub hl [] rfl)
  generalize hlo : ([] : List Loc) = locs at hS ⊢
  obtain ⟨H, hH⟩ : ∃ z, z = s.heap := ⟨_, rfl⟩
  rw [show W p l e rm_X3_fits s m args below meth c s.heap = W p l e rm_X3_fits s m args below meth c H by rw [hH]]
  replace hP : va_P (dC, dI) vwCl [(h_this, .inr (3, [.int f_places, g_this_1, g_this_2, g_this_3, g_this_4, g_this_5, .int f_strangers, .int f_checkSum]))] H := by rw [hH]; exact hP
  replace hS : va_S A s.heap H locs := by rw [hH]; exact hS
  clear hH hlo
  refine lv_aload_n hx hb dX3_fits_0 rfl (lv_at hl 0 rfl) ?_
  have hPc := hP.sub (ws' := [(h_this, .inr (3, [.int f_places, g_this_1, g_this_2, g_this_3, g_this_4, g_this_5, .int f_strangers, .int f_checkSum]))]) [0] rfl
  have hDc := hD.sub (ws' := [(h_this, .inr (3, [.int f_places, g_this_1, g_this_2, g_this_3, g_this_4, g_this_5, .int f_strangers, .int f_checkSum]))]) [0] (by decide) rfl
  have hFc := va_free (wc := [(h_this, .inr (3, [.int f_places, g_this_1, g_this_2, g_this_3, g_this_4, g_this_5, .int f_strangers, .int f_checkSum]))]) hD hS hA [0] rfl
  refine va_calli (va_runV (As := []) (rest := []) ⟨hx, hb, hml, hown, hts⟩ (c_X3_isLong l dC dI cy h_this H.size (g_this_1) (g_this_2) (g_this_3) (g_this_4) (g_this_5) (.int f_strangers) (.int f_checkSum) f_places  _ h) (cwV 0 hts gX3_fits_X3_isLong rfl rfl rfl q_X3_isLong ⟨Nat.le_of_ble_eq_true rfl, Nat.le_of_ble_eq_true rfl⟩) ⟨fun a U g mk q => by obtain ⟨q0, q1, qP, qK, qD⟩ := q; exact ⟨q0, q1, qP, va_K.moved (u := U) (U := U.calling g mk a) (Vm.Alike.refl U.vm) qK, qD⟩, va_recv hK hP (ci := 3) (q0 := 0) rfl rfl, fun U hU hW => ⟨rfl, by rw [hU], by rw [hU]; exact hPc, va_K.moved hW.alike hK, hDc.weaken (fun _ _ _ _ => trivial)⟩⟩ rfl rfl hl.1 rfl (lv_room (Nat.le_of_ble_eq_true rfl)) dX3_fits_1 ⟨Nat.le_of_ble_eq_true rfl, Nat.le_of_ble_eq_true rfl⟩) hS (fun q _ h => hFc q h) hFc (fun r1 u t H1 locs ht hvm hw hB hz1 hk1 hS => ?_)
  obtain ⟨hP1, hK1, hD1⟩ := hB
  rw [ht] at hP1
  obtain ⟨hP, hD⟩ := va_join (wr := []) (w1 := [(h_this, .inr (3, [.int f_places, g_this_1, g_this_2, g_this_3, g_this_4, g_this_5, .int f_strangers, .int f_checkSum]))]) hP hD [0] [] rfl rfl (by decide) (by decide) hk1 hFc hP1 hD1
  replace hP := hP.sub (ws' := [(h_this, .inr (3, [.int f_places, g_this_1, g_this_2, g_this_3, g_this_4, g_this_5, .int f_strangers, .int f_checkSum]))]) [0] rfl
  replace hD := hD.sub (ws' := [(h_this, .inr (3, [.int f_places, g_this_1, g_this_2, g_this_3, g_this_4, g_this_5, .int f_strangers, .int f_checkSum]))]) [0] (by decide) rfl
  clear hPc hDc hFc hP1 hK1 hD1 hz1 hk1 hvm
  subst ht
  generalize t.heap = H at hP hS ⊢
  replace h := hw
  clear hw
  refine lv_if_eq (tgt := 28) hx hb dX3_fits_4 (by decide) (fun c4 => ?_) (fun c4 => ?_)
  · replace h := And.left h c4
    exact J28  H locs ls h hP hD hS (lv_sub hl [] rfl)
  · replace h := And.right h c4
    refine lv_aload_n hx hb dX3_fits_7 rfl (lv_at hl 0 rfl) ?_
    refine va_get (D := (dC, dI)) (ci := 3) (v := .int f_strangers) (C := RX3) (T := TX3) (N := 8) hx hb hts in_X3 hown hK hP 0 rfl rfl 6 (by decide) k_32 (fun _ h9 => h9) rfl dX3_fits_8 ?_
    refine lv_if_ne (tgt := 28) hx hb dX3_fits_11 (by decide) (fun c11 => ?_) (fun c11 => ?_)
    · replace h := And.left h c11
      exact J28  H locs ls h hP hD hS (lv_sub hl [] rfl)
    · replace h := And.right h c11
      refine lv_aload_n hx hb dX3_fits_14 rfl (lv_at hl 0 rfl) ?_
      refine va_get (D := (dC, dI)) (ci := 3) (v := .int f_checkSum) (C := RX3) (T := TX3) (N := 8) hx hb hts in_X3 hown hK hP 0 rfl rfl 7 (by decide) k_35 (fun _ h9 => h9) rfl dX3_fits_15 ?_
      refine lv_bipush (v := 10) hx hb dX3_fits_18 (by decide) ?_
      refine my_irem hx hb dX3_fits_20 (by decide) ?_
      refine lv_if_ne (tgt := 28) hx hb dX3_fits_21 (by decide) (fun c21 => ?_) (fun c21 => ?_)
      · replace h := And.left h c21
        exact J28  H locs ls h hP hD hS (lv_sub hl [] rfl)
      · replace h := And.right h c21
        refine lv_iconst (v := 1) hx hb dX3_fits_24 (by decide) ?_
        refine lv_goto (tgt := 29) hx hb dX3_fits_25 (by decide) ?_
        exact J29 1 H locs ls h hP hD hS (lv_sub hl [] rfl)
abbrev rm_X3_isOther : Room := { frames := 1, cells := 0, slots := 0, locals := 21 }
theorem q_X3_isOther : yX3_isOther.cls = RX3 ∧ yX3_isOther.cls ≠ "java/lang/invoke/MethodHandle" ∧ yX3_isOther.cls ≠ "java/lang/invoke/VarHandle" ∧ (parseMethodDescriptor yX3_isOther.desc).map (fun d => d.parameters.length) = some 2 := by decide +kernel
set_option maxHeartbeats 4000000 in
set_option maxRecDepth 100000 in
theorem c_X3_isOther (l : Launch) (dC : Nat → ClassId) (dI : Nat → Nat → Nat) (cy : ClassId) (t_S : Nat → Nat) (h_this : Nat) (h_signs : Nat) (sz : Nat) (g_this_0 g_this_1 g_this_2 g_this_3 g_this_5 : Value) (f_strangers : Int32) (f_checkSum : Int32) (a_signs : Nat → Int32) (x1 : Int32) (x2 : Int32) (Q : Int32 → Prop) (h : p_X3_isOther f_strangers f_checkSum a_signs x1 x2 Q) : Met l yX3_isOther wsX3_isOther rm_X3_isOther (va_Pc [.ref h_this, .int x1, .int x2] (fun U => U.heap.size = sz ∧ va_P (dC, dI) vwCl [(h_this, .inr (3, [g_this_0, g_this_1, g_this_2, g_this_3, .ref h_signs, g_this_5, .int f_strangers, .int f_checkSum])), (h_signs, .inl (cy, 20, .inl a_signs))] U.heap ∧ va_K (dC, dI) vwCl [(cy, .int)] U ∧ va_D (fun _ => True) [(h_this, .inr (3, [g_this_0, g_this_1, g_this_2, g_this_3, .ref h_signs, g_this_5, .int f_strangers, .int f_checkSum])), (h_signs, .inl (cy, 20, .inl a_signs))] ∧ ev_S t_S (va_A [(h_this, .inr (3, [g_this_0, g_this_1, g_this_2, g_this_3, .ref h_signs, g_this_5, .int f_strangers, .int f_checkSum])), (h_signs, .inl (cy, 20, .inl a_signs))] sz) U)) (va_Qi (fun (r : Int32) (u : Unit) => Q r) (fun (u : Unit) (t : State) => va_P (dC, dI) vwCl [(h_this, .inr (3, [g_this_0, g_this_1, g_this_2, g_this_3, .ref h_signs, g_this_5, .int f_strangers, .int f_checkSum])), (h_signs, .inl (cy, 20, .inl a_signs))] t.heap ∧ va_K (dC, dI) vwCl [(cy, .int)] t ∧ va_D (va_A [(h_this, .inr (3, [g_this_0, g_this_1, g_this_2, g_this_3, .ref h_signs, g_this_5, .int f_strangers, .int f_checkSum])), (h_signs, .inl (cy, 20, .inl a_signs))] sz) [(h_this, .inr (3, [g_this_0, g_this_1, g_this_2, g_this_3, .ref h_signs, g_this_5, .int f_strangers, .int f_checkSum])), (h_signs, .inl (cy, 20, .inl a_signs))]) (va_A [(h_this, .inr (3, [g_this_0, g_this_1, g_this_2, g_this_3, .ref h_signs, g_this_5, .int f_strangers, .int f_checkSum])), (h_signs, .inl (cy, 20, .inl a_signs))] sz)) 0 0 (va_A [(h_this, .inr (3, [g_this_0, g_this_1, g_this_2, g_this_3, .ref h_signs, g_this_5, .int f_strangers, .int f_checkSum])), (h_signs, .inl (cy, 20, .inl a_signs))] sz) := by
  refine Met.ofW (cc := cX3_isOther) (maxL := 5) (ret := (some .boolean)) (by decide) rfl ?_
  intro p e s m args below meth c s₁ B hml hv
  obtain ⟨hargs, hsz, hP, hK, hD0, hE⟩ := hv
  have hx := B.exec
  have hb := B.bytes
  have hr := B.returns
  have hts := atoms_spec (ws := wsX3_isOther) B.pre
  have hown : s.vm.findClass RX3 = some m.cls := findClass_of_methodNamed B.named
  have hlocks := B.notSynchronized
  subst hsz
  have hD := hD0.self (sz := s.heap.size)
  generalize hAe : va_A [(h_this, .inr (3, [g_this_0, g_this_1, g_this_2, g_this_3, .ref h_signs, g_this_5, .int f_strangers, .int f_checkSum])), (h_signs, .inl (cy, 20, .inl a_signs))] s.heap.size = A at hE hD ⊢
  have hA : ∀ q : Nat, s.heap.size ≤ q → A q := fun q h => by rw [← hAe]; exact Or.inr h
  have hS : va_S A s.heap s.heap [] := va_S.rf
  have in_X3 : ∀ w ∈ u_ws RX3 TX3 8, w ∈ wsX3_isOther := by decide +kernel
  have k_25 := hts (.fieldLink RX3 25 "ChequeDesk$Reading" "signs" "[I") (by decide +kernel)
  have k_32 := hts (.fieldLink RX3 32 "ChequeDesk$Reading" "strangers" "I") (by decide +kernel)
  have k_35 := hts (.fieldLink RX3 35 "ChequeDesk$Reading" "checkSum" "I") (by decide +kernel)
  have hl := lv_entry ([.ref h_this, .int x1, .int x2]) (n := 5) (Nat.le_of_ble_eq_true rfl)
  rw [show entryFrame m args 5 = entryFrame m ([.ref h_this, .int x1, .int x2] : List Value).toArray 5 by rw [hargs], lg_entry_eq]
  generalize (lg_sl ([.ref h_this, .int x1, .int x2]) ++ List.replicate (5 - (lg_sl ([.ref h_this, .int x1, .int x2])).length) Slot.unset).toArray = ls at hl ⊢
  have hl : lv_has ls 5 [(0, .ref h_this), (1, .int x1), (2, .int x2)] := hl
  have hP : va_P (dC, dI) vwCl [(h_this, .inr (3, [g_this_0, g_this_1, g_this_2, g_this_3, .ref h_signs, g_this_5, .int f_strangers, .int f_checkSum])), (h_signs, .inl (cy, 20, .inl a_signs))] s.heap := hP
  change W p l e rm_X3_isOther s m args below meth c s.heap [] 0 0 _ _
  generalize hQQ : MQ below _ _ _ _ _ _ = QQ
  have RET : ∀ (r : Int32) (H : Heap) (locs : List Loc) (ls : Array Slot) (pc : Nat), decode cX3_isOther pc = .ok (.ireturn, 1) → narrow .boolean (.int r) = .int r → Q r → va_P (dC, dI) vwCl [(h_this, .inr (3, [g_this_0, g_this_1, g_this_2, g_this_3, .ref h_signs, g_this_5, .int f_strangers, .int f_checkSum])), (h_signs, .inl (cy, 20, .inl a_signs))] H → va_D A [(h_this, .inr (3, [g_this_0, g_this_1, g_this_2, g_this_3, .ref h_signs, g_this_5, .int f_strangers, .int f_checkSum])), (h_signs, .inl (cy, 20, .inl a_signs))] → va_S A s.heap H locs → W p l e rm_X3_isOther s m args below meth c H locs 0 0 QQ (F0 m pc ls [.int r]) := by
    intro r  H locs ls pc hdg hz hq hP hD hS
    rw [← hQQ]
    exact W.zret (v := r) hx hb hr hz (fun t ht hW => ⟨⟨r, (), rfl, hq, by rw [ht]; exact hP, va_K.moved hW.alike hK, hD⟩, hS.F ht⟩) hS.2.2 hdg
  clear hQQ
  unfold p_X3_isOther at h
  have J75 : ∀ (s0 : Int32) (H : Heap) (locs : List Loc) (ls : Array Slot), p_X3_isOther_J75 Q s0 → va_P (dC, dI) vwCl [(h_this, .inr (3, [g_this_0, g_this_1, g_this_2, g_this_3, .ref h_signs, g_this_5, .int f_strangers, .int f_checkSum])), (h_signs, .inl (cy, 20, .inl a_signs))] H → va_D A [(h_this, .inr (3, [g_this_0, g_this_1, g_this_2, g_this_3, .ref h_signs, g_this_5, .int f_strangers, .int f_checkSum])), (h_signs, .inl (cy, 20, .inl a_signs))] → va_S A s.heap H locs → lv_has ls 5 [] → W p l e rm_X3_isOther s m args below meth c H locs 0 0 QQ (F0 m 75 ls [.int s0]) := by
    intro s0 H locs ls h hP hD hS hl
    unfold p_X3_isOther_J75 at h
    obtain ⟨zr75, h⟩ := h
    exact RET s0 H locs ls 75 dX3_isOther_75 zr75 h hP hD hS
  have J74 : ∀ (H : Heap) (locs : List Loc) (ls : Array Slot), p_X3_isOther_J74 Q → va_P (dC, dI) vwCl [(h_this, .inr (3, [g_this_0, g_this_1, g_this_2, g_this_3, .ref h_signs, g_this_5, .int f_strangers, .int f_checkSum])), (h_signs, .inl (cy, 20, .inl a_signs))] H → va_D A [(h_this, .inr (3, [g_this_0, g_this_1, g_this_2, g_this_3, .ref h_signs, g_this_5, .int f_strangers, .int f_checkSum])), (h_signs, .inl (cy, 20, .inl a_signs))] → va_S A s.heap H locs → lv_has ls 5 [] → W p l e rm_X3_isOther s m args below meth c H locs 0 0 QQ (F0 m 74 ls []) := by
    intro  H locs ls h hP hD hS hl
    unfold p_X3_isOther_J74 at h
    refine lv_iconst (v := 0) hx hb dX3_isOther_74 (by decide) ?_
    exact J75 0 H locs ls h hP hD hS (lv_sub hl [] rfl)
  have J43 : ∀ (x1 : Int32) (x2 : Int32) (x3 : Int32) (s0 : Int32) (H : Heap) (locs : List Loc) (ls : Array Slot), p_X3_isOther_J43 f_checkSum Q x1 x2 x3 s0 → va_P (dC, dI) vwCl [(h_this, .inr (3, [g_this_0, g_this_1, g_this_2, g_this_3, .ref h_signs, g_this_5, .int f_strangers, .int f_checkSum])), (h_signs, .inl (cy, 20, .inl a_signs))] H → va_D A [(h_this, .inr (3, [g_this_0, g_this_1, g_this_2, g_this_3, .ref h_signs, g_this_5, .int f_strangers, .int f_checkSum])), (h_signs, .inl (cy, 20, .inl a_signs))] → va_S A s.heap H locs → lv_has ls 5 [(0, .ref h_this), (1, .int x1), (2, .int x2), (3, .int x3)] → W p l e rm_X3_isOther s m args below meth c H locs 0 0 QQ (F0 m 43 ls [.int s0]) := by
    intro x1 x2 x3 s0 H locs ls h hP hD hS hl
    unfold p_X3_isOther_J43 at h
    refine lv_istore (lv' := [(4, .int s0), (0, .ref h_this), (1, .int x1), (2, .int x2), (3, .int x3)]) hx hb dX3_isOther_43 hl (by decide) rfl (fun ls hl => ?_)
    refine lv_iload hx hb dX3_isOther_45 (lv_at hl 0 rfl) ?_
    refine lv_if_ne (tgt := 74) hx hb dX3_isOther_47 (by decide) (fun c47 => ?_) (fun c47 => ?_)
    · replace h := And.left h c47
      exact J74  H locs ls h hP hD hS (lv_sub hl [] rfl)
    · replace h := And.right h c47
      refine lv_aload_n hx hb dX3_isOther_50 rfl (lv_at hl 1 rfl) ?_
      refine va_get (D := (dC, dI)) (ci := 3) (v := .int f_checkSum) (C := RX3) (T := TX3) (N := 8) hx hb hts in_X3 hown hK hP 0 rfl rfl 7 (by decide) k_35 (fun _ h9 => h9) rfl dX3_isOther_51 ?_
      refine va_getsN hx hb (ev_z_WEIGHTS hE) hS hown (va_Nw.use rfl (ev_k_WEIGHTS hE)) (fun _ h9 => h9) dX3_isOther_54 ?_
      refine lv_iload_n hx hb dX3_isOther_57 rfl (lv_at hl 2 rfl) ?_
      obtain ⟨b58, h⟩ := h
      refine va_ti hx hb (ev_t_WEIGHTS hE) hS b58 rfl dX3_isOther_58 ?_
      refine lv_iload_n hx hb dX3_isOther_59 rfl (lv_at hl 3 rfl) ?_
      refine lv_iload_n hx hb dX3_isOther_60 rfl (lv_at hl 4 rfl) ?_
      refine lv_isub hx hb dX3_isOther_61 ?_
      refine lv_imul hx hb dX3_isOther_62 ?_
      refine lv_iadd hx hb dX3_isOther_63 ?_
      refine lv_bipush (v := 10) hx hb dX3_isOther_64 (by decide) ?_
      refine my_irem hx hb dX3_isOther_66 (by decide) ?_
      refine lv_if_ne (tgt := 74) hx hb dX3_isOther_67 (by decide) (fun c67 => ?_) (fun c67 => ?_)
      · replace h := And.left h c67
        exact J74  H locs ls h hP hD hS (lv_sub hl [] rfl)
      · replace h := And.right h c67
        refine lv_iconst (v := 1) hx hb dX3_isOther_70 (by decide) ?_
        refine lv_goto (tgt := 75) hx hb dX3_isOther_71 (by decide) ?_
        exact J75 1 H locs ls h hP hD hS (lv_sub hl [] rfl)
  have J20 : ∀ (H : Heap) (locs : List Loc) (ls : Array Slot), p_X3_isOther_J20 Q → va_P (dC, dI) vwCl [(h_this, .inr (3, [g_this_0, g_this_1, g_this_2, g_this_3, .ref h_signs, g_this_5, .int f_strangers, .int f_checkSum])), (h_signs, .inl (cy, 20, .inl a_signs))] H → va_D A [(h_this, .inr (3, [g_this_0, g_this_1, g_this_2, g_this_3, .ref h_signs, g_this_5, .int f_strangers, .int f_checkSum])), (h_signs, .inl (cy, 20, .inl a_signs))] → va_S A s.heap H locs → lv_has ls 5 [] → W p l e rm_X3_isOther s m args below meth c H locs 0 0 QQ (F0 m 20 ls []) := by
    intro  H locs ls h hP hD hS hl
    unfold p_X3_isOther_J20 at h
    refine lv_iconst (v := 0) hx hb dX3_isOther_20 (by decide) ?_
    obtain ⟨zr21, h⟩ := h
    exact RET 0 H locs ls 21 dX3_isOther_21 zr21 h hP hD hS
  generalize hlo : ([] : List Loc) = locs at hS ⊢
  obtain ⟨H, hH⟩ : ∃ z, z = s.heap := ⟨_, rfl⟩
  rw [show W p l e rm_X3_isOther s m args below meth c s.heap = W p l e rm_X3_isOther s m args below meth c H by rw [hH]]
  replace hP : va_P (dC, dI) vwCl [(h_this, .inr (3, [g_this_0, g_this_1, g_this_2, g_this_3, .ref h_signs, g_this_5, .int f_strangers, .int f_checkSum])), (h_signs, .inl (cy, 20, .inl a_signs))] H := by rw [hH]; exact hP
  replace hS : va_S A s.heap H locs := by rw [hH]; exact hS
  clear hH hlo
  refine lv_aload_n hx hb dX3_isOther_0 rfl (lv_at hl 0 rfl) ?_
  refine va_get (D := (dC, dI)) (ci := 3) (v := .ref h_signs) (C := RX3) (T := TX3) (N := 8) hx hb hts in_X3 hown hK hP 0 rfl rfl 4 (by decide) k_25 (fun _ h9 => h9) rfl dX3_isOther_1 ?_
  refine lv_iload_n hx hb dX3_isOther_4 rfl (lv_at hl 1 rfl) ?_
  obtain ⟨b5, h⟩ := h
  refine va_iald hx hb hK hP 1 0 rfl rfl b5 dX3_isOther_5 ?_
  refine lv_istore_n (lv' := [(3, .int (a_signs (Int32.toNatClampNeg x1))), (0, .ref h_this), (1, .int x1), (2, .int x2)]) hx hb dX3_isOther_6 rfl hl (by decide) rfl (fun ls hl => ?_)
  refine lv_iload_n hx hb dX3_isOther_7 rfl (lv_at hl 3 rfl) ?_
  refine lv_iload_n hx hb dX3_isOther_8 rfl (lv_at hl 0 rfl) ?_
  refine lv_icmp_eq (tgt := 20) hx hb dX3_isOther_9 (by decide) (fun c9 => ?_) (fun c9 => ?_)
  · replace h := And.left h c9
    exact J20  H locs ls h hP hD hS (lv_sub hl [] rfl)
  · replace h := And.right h c9
    refine lv_iload_n hx hb dX3_isOther_12 rfl (lv_at hl 2 rfl) ?_
    refine lv_iload_n hx hb dX3_isOther_13 rfl (lv_at hl 3 rfl) ?_
    have hPc := hP.sub (ws' := []) [] rfl
    have hDc := hD.sub (ws' := []) [] (by decide) rfl
    have hFc := va_free (wc := []) hD hS hA [] rfl
    refine va_calli (va_runS (As := [.int x1, .int x2]) (rest := []) ⟨hx, hb, hml, hown, hts⟩ (c_X3_belongs l dC dI cy t_S  H.size   x1 x2 _ h) (va_cwS 2 hts gX3_isOther_X3_belongs rfl rfl rfl q_X3_belongs ⟨Nat.le_of_ble_eq_true rfl, Nat.le_of_ble_eq_true rfl⟩) ⟨fun a U g mk q => by obtain ⟨q0, q1, qP, qK, qD, qE⟩ := q; exact ⟨q0, q1, qP, va_K.moved (u := U) (U := U.calling g mk a) (Vm.Alike.refl U.vm) qK, qD, ev_calling qE⟩, fun U hU hW => ⟨rfl, by rw [hU], by rw [hU]; exact hPc, va_K.moved hW.alike hK, hDc.weaken (fun _ _ _ _ => trivial), ev_in hE hS hFc hU hW⟩⟩ rfl rfl hl.1 rfl (lv_room (Nat.le_of_ble_eq_true rfl)) dX3_isOther_14 ⟨Nat.le_of_ble_eq_true rfl, Nat.le_of_ble_eq_true rfl⟩) hS (fun q _ h => hFc q h) hFc (fun r14 u t H1 locs ht hvm hw hB hz1 hk1 hS => ?_)
    obtain ⟨hP1, hK1, hD1⟩ := hB
    rw [ht] at hP1
    obtain ⟨hP, hD⟩ := va_join (wr := [(h_this, .inr (3, [g_this_0, g_this_1, g_this_2, g_this_3, .ref h_signs, g_this_5, .int f_strangers, .int f_checkSum])), (h_signs, .inl (cy, 20, .inl a_signs))]) (w1 := []) hP hD [] [0, 1] rfl rfl (by decide) (by decide) hk1 hFc hP1 hD1
    replace hP := hP.sub (ws' := [(h_this, .inr (3, [g_this_0, g_this_1, g_this_2, g_this_3, .ref h_signs, g_this_5, .int f_strangers, .int f_checkSum])), (h_signs, .inl (cy, 20, .inl a_signs))]) [0, 1] rfl
    replace hD := hD.sub (ws' := [(h_this, .inr (3, [g_this_0, g_this_1, g_this_2, g_this_3, .ref h_signs, g_this_5, .int f_strangers, .int f_checkSum])), (h_signs, .inl (cy, 20, .inl a_signs))]) [0, 1] (by decide) rfl
    clear hPc hDc hFc hP1 hK1 hD1 hz1 hk1 hvm
    subst ht
    generalize t.heap = H at hP hS ⊢
    replace h := hw
    clear hw
    refine lv_if_ne (tgt := 22) hx hb dX3_isOther_17 (by decide) (fun c17 => ?_) (fun c17 => ?_)
    · replace h := And.left h c17
      refine lv_iload_n hx hb dX3_isOther_22 rfl (lv_at hl 2 rfl) ?_
      refine lv_iload_n hx hb dX3_isOther_23 rfl (lv_at hl 0 rfl) ?_
      have hPc := hP.sub (ws' := []) [] rfl
      have hDc := hD.sub (ws' := []) [] (by decide) rfl
      have hFc := va_free (wc := []) hD hS hA [] rfl
      refine va_calli (va_runS (As := [.int x1, .int (a_signs (Int32.toNatClampNeg x1))]) (rest := []) ⟨hx, hb, hml, hown, hts⟩ (c_X3_belongs l dC dI cy t_S  H.size   x1 (a_signs (Int32.toNatClampNeg x1)) _ h) (va_cwS 2 hts gX3_isOther_X3_belongs rfl rfl rfl q_X3_belongs ⟨Nat.le_of_ble_eq_true rfl, Nat.le_of_ble_eq_true rfl⟩) ⟨fun a U g mk q => by obtain ⟨q0, q1, qP, qK, qD, qE⟩ := q; exact ⟨q0, q1, qP, va_K.moved (u := U) (U := U.calling g mk a) (Vm.Alike.refl U.vm) qK, qD, ev_calling qE⟩, fun U hU hW => ⟨rfl, by rw [hU], by rw [hU]; exact hPc, va_K.moved hW.alike hK, hDc.weaken (fun _ _ _ _ => trivial), ev_in hE hS hFc hU hW⟩⟩ rfl rfl hl.1 rfl (lv_room (Nat.le_of_ble_eq_true rfl)) dX3_isOther_24 ⟨Nat.le_of_ble_eq_true rfl, Nat.le_of_ble_eq_true rfl⟩) hS (fun q _ h => hFc q h) hFc (fun r24 u t H1 locs ht hvm hw hB hz1 hk1 hS => ?_)
      obtain ⟨hP1, hK1, hD1⟩ := hB
      rw [ht] at hP1
      obtain ⟨hP, hD⟩ := va_join (wr := [(h_this, .inr (3, [g_this_0, g_this_1, g_this_2, g_this_3, .ref h_signs, g_this_5, .int f_strangers, .int f_checkSum])), (h_signs, .inl (cy, 20, .inl a_signs))]) (w1 := []) hP hD [] [0, 1] rfl rfl (by decide) (by decide) hk1 hFc hP1 hD1
      replace hP := hP.sub (ws' := [(h_this, .inr (3, [g_this_0, g_this_1, g_this_2, g_this_3, .ref h_signs, g_this_5, .int f_strangers, .int f_checkSum])), (h_signs, .inl (cy, 20, .inl a_signs))]) [0, 1] rfl
      replace hD := hD.sub (ws' := [(h_this, .inr (3, [g_this_0, g_this_1, g_this_2, g_this_3, .ref h_signs, g_this_5, .int f_strangers, .int f_checkSum])), (h_signs, .inl (cy, 20, .inl a_signs))]) [0, 1] (by decide) rfl
      clear hPc hDc hFc hP1 hK1 hD1 hz1 hk1 hvm
      subst ht
      generalize t.heap = H at hP hS ⊢
      replace h := hw
      clear hw
      refine lv_if_eq (tgt := 37) hx hb dX3_isOther_27 (by decide) (fun c27 => ?_) (fun c27 => ?_)
      · replace h := And.left h c27
        refine lv_aload_n hx hb dX3_isOther_37 rfl (lv_at hl 1 rfl) ?_
        refine va_get (D := (dC, dI)) (ci := 3) (v := .int f_strangers) (C := RX3) (T := TX3) (N := 8) hx hb hts in_X3 hown hK hP 0 rfl rfl 6 (by decide) k_32 (fun _ h9 => h9) rfl dX3_isOther_38 ?_
        refine lv_iconst (v := 1) hx hb dX3_isOther_41 (by decide) ?_
        refine lv_isub hx hb dX3_isOther_42 ?_
        exact J43 x1 x2 (a_signs (Int32.toNatClampNeg x1)) (f_strangers - 1) H locs ls h hP hD hS (lv_sub hl [1, 2, 3, 0] rfl)
      · replace h := And.right h c27
        refine lv_aload_n hx hb dX3_isOther_30 rfl (lv_at hl 1 rfl) ?_
        refine va_get (D := (dC, dI)) (ci := 3) (v := .int f_strangers) (C := RX3) (T := TX3) (N := 8) hx hb hts in_X3 hown hK hP 0 rfl rfl 6 (by decide) k_32 (fun _ h9 => h9) rfl dX3_isOther_31 ?_
        refine lv_goto (tgt := 43) hx hb dX3_isOther_34 (by decide) ?_
        exact J43 x1 x2 (a_signs (Int32.toNatClampNeg x1)) f_strangers H locs ls h hP hD hS (lv_sub hl [1, 2, 3, 0] rfl)
    · replace h := And.right h c17
      exact J20  H locs ls h hP hD hS (lv_sub hl [] rfl)
abbrev rm_X3_countOthers : Room := { frames := 2, cells := 0, slots := 0, locals := 45 }
theorem q_X3_countOthers : yX3_countOthers.cls = RX3 ∧ yX3_countOthers.cls ≠ "java/lang/invoke/MethodHandle" ∧ yX3_countOthers.cls ≠ "java/lang/invoke/VarHandle" ∧ (parseMethodDescriptor yX3_countOthers.desc).map (fun d => d.parameters.length) = some 0 := by decide +kernel
set_option maxHeartbeats 4000000 in
set_option maxRecDepth 100000 in
theorem c_X3_countOthers (l : Launch) (dC : Nat → ClassId) (dI : Nat → Nat → Nat) (cy : ClassId) (t_S : Nat → Nat) (h_this : Nat) (h_signs : Nat) (sz : Nat) (g_this_1 g_this_2 g_this_3 g_this_5 : Value) (f_places : Int32) (f_strangers : Int32) (f_checkSum : Int32) (a_signs : Nat → Int32) (Q : Int32 → Prop) (h : p_X3_countOthers f_places f_strangers f_checkSum a_signs Q) : Met l yX3_countOthers wsX3_countOthers rm_X3_countOthers (va_Pc [.ref h_this] (fun U => U.heap.size = sz ∧ va_P (dC, dI) vwCl [(h_this, .inr (3, [.int f_places, g_this_1, g_this_2, g_this_3, .ref h_signs, g_this_5, .int f_strangers, .int f_checkSum])), (h_signs, .inl (cy, 20, .inl a_signs))] U.heap ∧ va_K (dC, dI) vwCl [(cy, .int)] U ∧ va_D (fun _ => True) [(h_this, .inr (3, [.int f_places, g_this_1, g_this_2, g_this_3, .ref h_signs, g_this_5, .int f_strangers, .int f_checkSum])), (h_signs, .inl (cy, 20, .inl a_signs))] ∧ ev_S t_S (va_A [(h_this, .inr (3, [.int f_places, g_this_1, g_this_2, g_this_3, .ref h_signs, g_this_5, .int f_strangers, .int f_checkSum])), (h_signs, .inl (cy, 20, .inl a_signs))] sz) U)) (va_Qi (fun (r : Int32) (u : Unit) => Q r) (fun (u : Unit) (t : State) => va_P (dC, dI) vwCl [(h_this, .inr (3, [.int f_places, g_this_1, g_this_2, g_this_3, .ref h_signs, g_this_5, .int f_strangers, .int f_checkSum])), (h_signs, .inl (cy, 20, .inl a_signs))] t.heap ∧ va_K (dC, dI) vwCl [(cy, .int)] t ∧ va_D (va_A [(h_this, .inr (3, [.int f_places, g_this_1, g_this_2, g_this_3, .ref h_signs, g_this_5, .int f_strangers, .int f_checkSum])), (h_signs, .inl (cy, 20, .inl a_signs))] sz) [(h_this, .inr (3, [.int f_places, g_this_1, g_this_2, g_this_3, .ref h_signs, g_this_5, .int f_strangers, .int f_checkSum])), (h_signs, .inl (cy, 20, .inl a_signs))]) (va_A [(h_this, .inr (3, [.int f_places, g_this_1, g_this_2, g_this_3, .ref h_signs, g_this_5, .int f_strangers, .int f_checkSum])), (h_signs, .inl (cy, 20, .inl a_signs))] sz)) 0 0 (va_A [(h_this, .inr (3, [.int f_places, g_this_1, g_this_2, g_this_3, .ref h_signs, g_this_5, .int f_strangers, .int f_checkSum])), (h_signs, .inl (cy, 20, .inl a_signs))] sz) := by
  refine Met.ofW (cc := cX3_countOthers) (maxL := 4) (ret := (some .int)) (by decide) rfl ?_
  intro p e s m args below meth c s₁ B hml hv
  obtain ⟨hargs, hsz, hP, hK, hD0, hE⟩ := hv
  have hx := B.exec
  have hb := B.bytes
  have hr := B.returns
  have hts := atoms_spec (ws := wsX3_countOthers) B.pre
  have hown : s.vm.findClass RX3 = some m.cls := findClass_of_methodNamed B.named
  have hlocks := B.notSynchronized
  subst hsz
  have hD := hD0.self (sz := s.heap.size)
  generalize hAe : va_A [(h_this, .inr (3, [.int f_places, g_this_1, g_this_2, g_this_3, .ref h_signs, g_this_5, .int f_strangers, .int f_checkSum])), (h_signs, .inl (cy, 20, .inl a_signs))] s.heap.size = A at hE hD ⊢
  have hA : ∀ q : Nat, s.heap.size ≤ q → A q := fun q h => by rw [← hAe]; exact Or.inr h
  have hS : va_S A s.heap s.heap [] := va_S.rf
  have hl := lv_entry ([.ref h_this]) (n := 4) (Nat.le_of_ble_eq_true rfl)
  rw [show entryFrame m args 4 = entryFrame m ([.ref h_this] : List Value).toArray 4 by rw [hargs], lg_entry_eq]
  generalize (lg_sl ([.ref h_this]) ++ List.replicate (4 - (lg_sl ([.ref h_this])).length) Slot.unset).toArray = ls at hl ⊢
  have hl : lv_has ls 4 [(0, .ref h_this)] := hl
  have hP : va_P (dC, dI) vwCl [(h_this, .inr (3, [.int f_places, g_this_1, g_this_2, g_this_3, .ref h_signs, g_this_5, .int f_strangers, .int f_checkSum])), (h_signs, .inl (cy, 20, .inl a_signs))] s.heap := hP
  change W p l e rm_X3_countOthers s m args below meth c s.heap [] 0 0 _ _
  generalize hQQ : MQ below _ _ _ _ _ _ = QQ
  have RET : ∀ (r : Int32) (H : Heap) (locs : List Loc) (ls : Array Slot) (pc : Nat), decode cX3_countOthers pc = .ok (.ireturn, 1) → Q r → va_P (dC, dI) vwCl [(h_this, .inr (3, [.int f_places, g_this_1, g_this_2, g_this_3, .ref h_signs, g_this_5, .int f_strangers, .int f_checkSum])), (h_signs, .inl (cy, 20, .inl a_signs))] H → va_D A [(h_this, .inr (3, [.int f_places, g_this_1, g_this_2, g_this_3, .ref h_signs, g_this_5, .int f_strangers, .int f_checkSum])), (h_signs, .inl (cy, 20, .inl a_signs))] → va_S A s.heap H locs → W p l e rm_X3_countOthers s m args below meth c H locs 0 0 QQ (F0 m pc ls [.int r]) := by
    intro r  H locs ls pc hdg hq hP hD hS
    rw [← hQQ]
    exact W.iret (v := r) hx hb hr (fun t ht hW => ⟨⟨r, (), rfl, hq, by rw [ht]; exact hP, va_K.moved hW.alike hK, hD⟩, hS.F ht⟩) hS.2.2 hdg
  clear hQQ
  unfold p_X3_countOthers at h
  have L13 : ∀ (K13 : Int32 → Int32 → Prop) (n : Nat) (x1 : Int32) (x2 : Int32) (H : Heap) (locs : List Loc) (ls : Array Slot), wl2 (p_X3_countOthers_B13 f_strangers f_checkSum a_signs K13) n x1 x2 → va_P (dC, dI) vwCl [(h_this, .inr (3, [.int f_places, g_this_1, g_this_2, g_this_3, .ref h_signs, g_this_5, .int f_strangers, .int f_checkSum])), (h_signs, .inl (cy, 20, .inl a_signs))] H → va_D A [(h_this, .inr (3, [.int f_places, g_this_1, g_this_2, g_this_3, .ref h_signs, g_this_5, .int f_strangers, .int f_checkSum])), (h_signs, .inl (cy, 20, .inl a_signs))] → va_S A s.heap H locs → lv_has ls 4 [(0, .ref h_this), (1, .int x1), (2, .int x2)] → (∀ (x1 : Int32) (x2 : Int32) (H : Heap) (locs : List Loc) (ls : Array Slot), K13 x1 x2 → va_P (dC, dI) vwCl [(h_this, .inr (3, [.int f_places, g_this_1, g_this_2, g_this_3, .ref h_signs, g_this_5, .int f_strangers, .int f_checkSum])), (h_signs, .inl (cy, 20, .inl a_signs))] H → va_D A [(h_this, .inr (3, [.int f_places, g_this_1, g_this_2, g_this_3, .ref h_signs, g_this_5, .int f_strangers, .int f_checkSum])), (h_signs, .inl (cy, 20, .inl a_signs))] → va_S A s.heap H locs → lv_has ls 4 [(1, .int x1)] → W p l e rm_X3_countOthers s m args below meth c H locs 0 0 QQ (F0 m 51 ls [])) → W p l e rm_X3_countOthers s m args below meth c H locs 0 0 QQ (F0 m 13 ls []) := by
    intro K13 n
    induction n with
    | zero => intro x1 x2 H locs ls h; exact False.elim h
    | succ n ih =>
      intro x1 x2 H locs ls h hP hD hS hl hk
      have ih := fun x1 x2 H locs ls h hP hD hS hl => ih x1 x2 H locs ls h hP hD hS hl hk
      replace h : p_X3_countOthers_B13 f_strangers f_checkSum a_signs K13 (wl2 (p_X3_countOthers_B13 f_strangers f_checkSum a_signs K13) n) x1 x2 := h
      unfold p_X3_countOthers_B13 at h
      have L21 : ∀ (x2 : Int32) (K21 : Int32 → Int32 → Prop) (n : Nat) (x1 : Int32) (x3 : Int32) (H : Heap) (locs : List Loc) (ls : Array Slot), wl2 (p_X3_countOthers_B21 f_strangers f_checkSum a_signs x2 K21) n x1 x3 → va_P (dC, dI) vwCl [(h_this, .inr (3, [.int f_places, g_this_1, g_this_2, g_this_3, .ref h_signs, g_this_5, .int f_strangers, .int f_checkSum])), (h_signs, .inl (cy, 20, .inl a_signs))] H → va_D A [(h_this, .inr (3, [.int f_places, g_this_1, g_this_2, g_this_3, .ref h_signs, g_this_5, .int f_strangers, .int f_checkSum])), (h_signs, .inl (cy, 20, .inl a_signs))] → va_S A s.heap H locs → lv_has ls 4 [(0, .ref h_this), (1, .int x1), (2, .int x2), (3, .int x3)] → (∀ (x1 : Int32) (x3 : Int32) (H : Heap) (locs : List Loc) (ls : Array Slot), K21 x1 x3 → va_P (dC, dI) vwCl [(h_this, .inr (3, [.int f_places, g_this_1, g_this_2, g_this_3, .ref h_signs, g_this_5, .int f_strangers, .int f_checkSum])), (h_signs, .inl (cy, 20, .inl a_signs))] H → va_D A [(h_this, .inr (3, [.int f_places, g_this_1, g_this_2, g_this_3, .ref h_signs, g_this_5, .int f_strangers, .int f_checkSum])), (h_signs, .inl (cy, 20, .inl a_signs))] → va_S A s.heap H locs → lv_has ls 4 [(0, .ref h_this), (1, .int x1), (2, .int x2)] → W p l e rm_X3_countOthers s m args below meth c H locs 0 0 QQ (F0 m 45 ls [])) → W p l e rm_X3_countOthers s m args below meth c H locs 0 0 QQ (F0 m 21 ls []) := by
        intro x2 K21 n
        induction n with
        | zero => intro x1 x3 H locs ls h; exact False.elim h
        | succ n ih =>
          intro x1 x3 H locs ls h hP hD hS hl hk
          have ih := fun x1 x3 H locs ls h hP hD hS hl => ih x1 x3 H locs ls h hP hD hS hl hk
          replace h : p_X3_countOthers_B21 f_strangers f_checkSum a_signs x2 K21 (wl2 (p_X3_countOthers_B21 f_strangers f_checkSum a_signs x2 K21) n) x1 x3 := h
          unfold p_X3_countOthers_B21 at h
          have J39 : ∀ (x1 : Int32) (x3 : Int32) (H : Heap) (locs : List Loc) (ls : Array Slot), p_X3_countOthers_J39 (wl2 (p_X3_countOthers_B21 f_strangers f_checkSum a_signs x2 K21) n) x1 x3 → va_P (dC, dI) vwCl [(h_this, .inr (3, [.int f_places, g_this_1, g_this_2, g_this_3, .ref h_signs, g_this_5, .int f_strangers, .int f_checkSum])), (h_signs, .inl (cy, 20, .inl a_signs))] H → va_D A [(h_this, .inr (3, [.int f_places, g_this_1, g_this_2, g_this_3, .ref h_signs, g_this_5, .int f_strangers, .int f_checkSum])), (h_signs, .inl (cy, 20, .inl a_signs))] → va_S A s.heap H locs → lv_has ls 4 [(0, .ref h_this), (1, .int x1), (2, .int x2), (3, .int x3)] → W p l e rm_X3_countOthers s m args below meth c H locs 0 0 QQ (F0 m 39 ls []) := by
            intro x1 x3 H locs ls h hP hD hS hl
            unfold p_X3_countOthers_J39 at h
            refine lv_iinc (v := x3 + 1) (lv' := [(3, .int (x3 + 1)), (0, .ref h_this), (1, .int x1), (2, .int x2)]) hx hb dX3_countOthers_39 hl (k := 3) rfl (by rfl) (by decide) rfl (fun ls hl => ?_)
            refine lv_goto (tgt := 21) hx hb dX3_countOthers_42 (by decide) ?_
            exact ih x1 (x3 + 1) H locs ls h hP hD hS (lv_sub hl [1, 2, 3, 0] rfl)
          refine lv_iload_n hx hb dX3_countOthers_21 rfl (lv_at hl 3 rfl) ?_
          refine lv_bipush (v := 12) hx hb dX3_countOthers_22 (by decide) ?_
          refine lv_icmp_ge (tgt := 45) hx hb dX3_countOthers_24 (by decide) (fun c24 => ?_) (fun c24 => ?_)
          · replace h := And.left h c24
            exact hk x1 x3 H locs ls h hP hD hS (lv_sub hl [0, 1, 2] rfl)
          · replace h := And.right h c24
            refine lv_aload_n hx hb dX3_countOthers_27 rfl (lv_at hl 0 rfl) ?_
            refine lv_iload_n hx hb dX3_countOthers_28 rfl (lv_at hl 2 rfl) ?_
            refine lv_iload_n hx hb dX3_countOthers_29 rfl (lv_at hl 3 rfl) ?_
            have hPc := hP.sub (ws' := [(h_this, .inr (3, [.int f_places, g_this_1, g_this_2, g_this_3, .ref h_signs, g_this_5, .int f_strangers, .int f_checkSum])), (h_signs, .inl (cy, 20, .inl a_signs))]) [0, 1] rfl
            have hDc := hD.sub (ws' := [(h_this, .inr (3, [.int f_places, g_this_1, g_this_2, g_this_3, .ref h_signs, g_this_5, .int f_strangers, .int f_checkSum])), (h_signs, .inl (cy, 20, .inl a_signs))]) [0, 1] (by decide) rfl
            have hFc := va_free (wc := [(h_this, .inr (3, [.int f_places, g_this_1, g_this_2, g_this_3, .ref h_signs, g_this_5, .int f_strangers, .int f_checkSum])), (h_signs, .inl (cy, 20, .inl a_signs))]) hD hS hA [0, 1] rfl
            refine va_calli (va_runV (As := [.int x2, .int x3]) (rest := []) ⟨hx, hb, hml, hown, hts⟩ (c_X3_isOther l dC dI cy t_S h_this h_signs H.size (.int f_places) (g_this_1) (g_this_2) (g_this_3) (g_this_5) f_strangers f_checkSum a_signs x2 x3 _ h) (cwV 2 hts gX3_countOthers_X3_isOther rfl rfl rfl q_X3_isOther ⟨Nat.le_of_ble_eq_true rfl, Nat.le_of_ble_eq_true rfl⟩) ⟨fun a U g mk q => by obtain ⟨q0, q1, qP, qK, qD, qE⟩ := q; exact ⟨q0, q1, qP, va_K.moved (u := U) (U := U.calling g mk a) (Vm.Alike.refl U.vm) qK, qD, ev_calling qE⟩, va_recv hK hP (ci := 3) (q0 := 0) rfl rfl, fun U hU hW => ⟨rfl, by rw [hU], by rw [hU]; exact hPc, va_K.moved hW.alike hK, hDc.weaken (fun _ _ _ _ => trivial), ev_in hE hS hFc hU hW⟩⟩ rfl rfl hl.1 rfl (lv_room (Nat.le_of_ble_eq_true rfl)) dX3_countOthers_30 ⟨Nat.le_of_ble_eq_true rfl, Nat.le_of_ble_eq_true rfl⟩) hS (fun q _ h => hFc q h) hFc (fun r30 u t H1 locs ht hvm hw hB hz1 hk1 hS => ?_)
            obtain ⟨hP1, hK1, hD1⟩ := hB
            rw [ht] at hP1
            obtain ⟨hP, hD⟩ := va_join (wr := []) (w1 := [(h_this, .inr (3, [.int f_places, g_this_1, g_this_2, g_this_3, .ref h_signs, g_this_5, .int f_strangers, .int f_checkSum])), (h_signs, .inl (cy, 20, .inl a_signs))]) hP hD [0, 1] [] rfl rfl (by decide) (by decide) hk1 hFc hP1 hD1
            replace hP := hP.sub (ws' := [(h_this, .inr (3, [.int f_places, g_this_1, g_this_2, g_this_3, .ref h_signs, g_this_5, .int f_strangers, .int f_checkSum])), (h_signs, .inl (cy, 20, .inl a_signs))]) [0, 1] rfl
            replace hD := hD.sub (ws' := [(h_this, .inr (3, [.int f_places, g_this_1, g_this_2, g_this_3, .ref h_signs, g_this_5, .int f_strangers, .int f_checkSum])), (h_signs, .inl (cy, 20, .inl a_signs))]) [0, 1] (by decide) rfl
            clear hPc hDc hFc hP1 hK1 hD1 hz1 hk1 hvm
            subst ht
            generalize t.heap = H at hP hS ⊢
            replace h := hw
            clear hw
            refine lv_if_eq (tgt := 39) hx hb dX3_countOthers_33 (by decide) (fun c33 => ?_) (fun c33 => ?_)
            · replace h := And.left h c33
              exact J39 x1 x3 H locs ls h hP hD hS (lv_sub hl [0, 1, 2, 3] rfl)
            · replace h := And.right h c33
              refine lv_iinc (v := x1 + 1) (lv' := [(1, .int (x1 + 1)), (0, .ref h_this), (2, .int x2), (3, .int x3)]) hx hb dX3_countOthers_36 hl (k := 1) rfl (by rfl) (by decide) rfl (fun ls hl => ?_)
              exact J39 (x1 + 1) x3 H locs ls h hP hD hS (lv_sub hl [1, 0, 2, 3] rfl)
      refine lv_iload_n hx hb dX3_countOthers_13 rfl (lv_at hl 2 rfl) ?_
      refine lv_bipush (v := 18) hx hb dX3_countOthers_14 (by decide) ?_
      refine lv_icmp_ge (tgt := 51) hx hb dX3_countOthers_16 (by decide) (fun c16 => ?_) (fun c16 => ?_)
      · replace h := And.left h c16
        exact hk x1 x2 H locs ls h hP hD hS (lv_sub hl [1] rfl)
      · replace h := And.right h c16
        refine lv_iconst (v := 0) hx hb dX3_countOthers_19 (by decide) ?_
        refine lv_istore_n (lv' := [(3, .int 0), (0, .ref h_this), (1, .int x1), (2, .int x2)]) hx hb dX3_countOthers_20 rfl hl (by decide) rfl (fun ls hl => ?_)
        obtain ⟨n21, h⟩ := h
        refine L21 x2 _ n21 x1 0 H locs ls h hP hD hS (lv_sub hl [1, 2, 3, 0] rfl) (fun x1_45 x3_45 H locs ls h hP hD hS hl => ?_)
        refine lv_iinc (v := x2 + 1) (lv' := [(2, .int (x2 + 1)), (0, .ref h_this), (1, .int x1_45)]) hx hb dX3_countOthers_45 hl (k := 2) rfl (by rfl) (by decide) rfl (fun ls hl => ?_)
        refine lv_goto (tgt := 13) hx hb dX3_countOthers_48 (by decide) ?_
        exact ih x1_45 (x2 + 1) H locs ls h hP hD hS (lv_sub hl [1, 2, 0] rfl)
  generalize hlo : ([] : List Loc) = locs at hS ⊢
  obtain ⟨H, hH⟩ : ∃ z, z = s.heap := ⟨_, rfl⟩
  rw [show W p l e rm_X3_countOthers s m args below meth c s.heap = W p l e rm_X3_countOthers s m args below meth c H by rw [hH]]
  replace hP : va_P (dC, dI) vwCl [(h_this, .inr (3, [.int f_places, g_this_1, g_this_2, g_this_3, .ref h_signs, g_this_5, .int f_strangers, .int f_checkSum])), (h_signs, .inl (cy, 20, .inl a_signs))] H := by rw [hH]; exact hP
  replace hS : va_S A s.heap H locs := by rw [hH]; exact hS
  clear hH hlo
  refine lv_aload_n hx hb dX3_countOthers_0 rfl (lv_at hl 0 rfl) ?_
  have hPc := hP.sub (ws' := [(h_this, .inr (3, [.int f_places, g_this_1, g_this_2, g_this_3, .ref h_signs, g_this_5, .int f_strangers, .int f_checkSum]))]) [0] rfl
  have hDc := hD.sub (ws' := [(h_this, .inr (3, [.int f_places, g_this_1, g_this_2, g_this_3, .ref h_signs, g_this_5, .int f_strangers, .int f_checkSum]))]) [0] (by decide) rfl
  have hFc := va_free (wc := [(h_this, .inr (3, [.int f_places, g_this_1, g_this_2, g_this_3, .ref h_signs, g_this_5, .int f_strangers, .int f_checkSum]))]) hD hS hA [0] rfl
  refine va_calli (va_runV (As := []) (rest := []) ⟨hx, hb, hml, hown, hts⟩ (c_X3_isLong l dC dI cy h_this H.size (g_this_1) (g_this_2) (g_this_3) (.ref h_signs) (g_this_5) (.int f_strangers) (.int f_checkSum) f_places  _ h) (cwV 0 hts gX3_countOthers_X3_isLong rfl rfl rfl q_X3_isLong ⟨Nat.le_of_ble_eq_true rfl, Nat.le_of_ble_eq_true rfl⟩) ⟨fun a U g mk q => by obtain ⟨q0, q1, qP, qK, qD⟩ := q; exact ⟨q0, q1, qP, va_K.moved (u := U) (U := U.calling g mk a) (Vm.Alike.refl U.vm) qK, qD⟩, va_recv hK hP (ci := 3) (q0 := 0) rfl rfl, fun U hU hW => ⟨rfl, by rw [hU], by rw [hU]; exact hPc, va_K.moved hW.alike hK, hDc.weaken (fun _ _ _ _ => trivial)⟩⟩ rfl rfl hl.1 rfl (lv_room (Nat.le_of_ble_eq_true rfl)) dX3_countOthers_1 ⟨Nat.le_of_ble_eq_true rfl, Nat.le_of_ble_eq_true rfl⟩) hS (fun q _ h => hFc q h) hFc (fun r1 u t H1 locs ht hvm hw hB hz1 hk1 hS => ?_)
  obtain ⟨hP1, hK1, hD1⟩ := hB
  rw [ht] at hP1
  obtain ⟨hP, hD⟩ := va_join (wr := [(h_signs, .inl (cy, 20, .inl a_signs))]) (w1 := [(h_this, .inr (3, [.int f_places, g_this_1, g_this_2, g_this_3, .ref h_signs, g_this_5, .int f_strangers, .int f_checkSum]))]) hP hD [0] [1] rfl rfl (by decide) (by decide) hk1 hFc hP1 hD1
  replace hP := hP.sub (ws' := [(h_this, .inr (3, [.int f_places, g_this_1, g_this_2, g_this_3, .ref h_signs, g_this_5, .int f_strangers, .int f_checkSum])), (h_signs, .inl (cy, 20, .inl a_signs))]) [1, 0] rfl
  replace hD := hD.sub (ws' := [(h_this, .inr (3, [.int f_places, g_this_1, g_this_2, g_this_3, .ref h_signs, g_this_5, .int f_strangers, .int f_checkSum])), (h_signs, .inl (cy, 20, .inl a_signs))]) [1, 0] (by decide) rfl
  clear hPc hDc hFc hP1 hK1 hD1 hz1 hk1 hvm
  subst ht
  generalize t.heap = H at hP hS ⊢
  replace h := hw
  clear hw
  refine lv_if_ne (tgt := 9) hx hb dX3_countOthers_4 (by decide) (fun c4 => ?_) (fun c4 => ?_)
  · replace h := And.left h c4
    refine lv_iconst (v := 0) hx hb dX3_countOthers_9 (by decide) ?_
    refine lv_istore_n (lv' := [(1, .int 0), (0, .ref h_this)]) hx hb dX3_countOthers_10 rfl hl (by decide) rfl (fun ls hl => ?_)
    refine lv_iconst (v := 0) hx hb dX3_countOthers_11 (by decide) ?_
    refine lv_istore_n (lv' := [(2, .int 0), (1, .int 0), (0, .ref h_this)]) hx hb dX3_countOthers_12 rfl hl (by decide) rfl (fun ls hl => ?_)
    obtain ⟨n13, h⟩ := h
    refine L13  _ n13 0 0 H locs ls h hP hD hS (lv_sub hl [2, 1, 0] rfl) (fun x1_51 x2_51 H locs ls h hP hD hS hl => ?_)
    refine lv_iload_n hx hb dX3_countOthers_51 rfl (lv_at hl 0 rfl) ?_
    exact RET x1_51 H locs ls 52 dX3_countOthers_52 h hP hD hS
  · replace h := And.right h c4
    refine lv_iconst (v := 0) hx hb dX3_countOthers_7 (by decide) ?_
    exact RET 0 H locs ls 8 dX3_countOthers_8 h hP hD hS
abbrev rm_X3_findOther : Room := { frames := 2, cells := 0, slots := 0, locals := 45 }
theorem q_X3_findOther : yX3_findOther.cls = RX3 ∧ yX3_findOther.cls ≠ "java/lang/invoke/MethodHandle" ∧ yX3_findOther.cls ≠ "java/lang/invoke/VarHandle" ∧ (parseMethodDescriptor yX3_findOther.desc).map (fun d => d.parameters.length) = some 1 := by decide +kernel
set_option maxHeartbeats 4000000 in
set_option maxRecDepth 100000 in
theorem c_X3_findOther (l : Launch) (dC : Nat → ClassId) (dI : Nat → Nat → Nat) (cy : ClassId) (t_S : Nat → Nat) (h_this : Nat) (h_signs : Nat) (sz : Nat) (g_this_1 g_this_2 g_this_3 g_this_5 : Value) (f_places : Int32) (f_strangers : Int32) (f_checkSum : Int32) (a_signs : Nat → Int32) (x1 : Int32) (Q : Int32 → Prop) (h : p_X3_findOther f_places f_strangers f_checkSum a_signs x1 Q) : Met l yX3_findOther wsX3_findOther rm_X3_findOther (va_Pc [.ref h_this, .int x1] (fun U => U.heap.size = sz ∧ va_P (dC, dI) vwCl [(h_this, .inr (3, [.int f_places, g_this_1, g_this_2, g_this_3, .ref h_signs, g_this_5, .int f_strangers, .int f_checkSum])), (h_signs, .inl (cy, 20, .inl a_signs))] U.heap ∧ va_K (dC, dI) vwCl [(cy, .int)] U ∧ va_D (fun _ => True) [(h_this, .inr (3, [.int f_places, g_this_1, g_this_2, g_this_3, .ref h_signs, g_this_5, .int f_strangers, .int f_checkSum])), (h_signs, .inl (cy, 20, .inl a_signs))] ∧ ev_S t_S (va_A [(h_this, .inr (3, [.int f_places, g_this_1, g_this_2, g_this_3, .ref h_signs, g_this_5, .int f_strangers, .int f_checkSum])), (h_signs, .inl (cy, 20, .inl a_signs))] sz) U)) (va_Qi (fun (r : Int32) (u : Unit) => Q r) (fun (u : Unit) (t : State) => va_P (dC, dI) vwCl [(h_this, .inr (3, [.int f_places, g_this_1, g_this_2, g_this_3, .ref h_signs, g_this_5, .int f_strangers, .int f_checkSum])), (h_signs, .inl (cy, 20, .inl a_signs))] t.heap ∧ va_K (dC, dI) vwCl [(cy, .int)] t ∧ va_D (va_A [(h_this, .inr (3, [.int f_places, g_this_1, g_this_2, g_this_3, .ref h_signs, g_this_5, .int f_strangers, .int f_checkSum])), (h_signs, .inl (cy, 20, .inl a_signs))] sz) [(h_this, .inr (3, [.int f_places, g_this_1, g_this_2, g_this_3, .ref h_signs, g_this_5, .int f_strangers, .int f_checkSum])), (h_signs, .inl (cy, 20, .inl a_signs))]) (va_A [(h_this, .inr (3, [.int f_places, g_this_1, g_this_2, g_this_3, .ref h_signs, g_this_5, .int f_strangers, .int f_checkSum])), (h_signs, .inl (cy, 20, .inl a_signs))] sz)) 0 0 (va_A [(h_this, .inr (3, [.int f_places, g_this_1, g_this_2, g_this_3, .ref h_signs, g_this_5, .int f_strangers, .int f_checkSum])), (h_signs, .inl (cy, 20, .inl a_signs))] sz) := by
  refine Met.ofW (cc := cX3_findOther) (maxL := 5) (ret := (some .int)) (by decide) rfl ?_
  intro p e s m args below meth c s₁ B hml hv
  obtain ⟨hargs, hsz, hP, hK, hD0, hE⟩ := hv
  have hx := B.exec
  have hb := B.bytes
  have hr := B.returns
  have hts := atoms_spec (ws := wsX3_findOther) B.pre
  have hown : s.vm.findClass RX3 = some m.cls := findClass_of_methodNamed B.named
  have hlocks := B.notSynchronized
  subst hsz
  have hD := hD0.self (sz := s.heap.size)
  generalize hAe : va_A [(h_this, .inr (3, [.int f_places, g_this_1, g_this_2, g_this_3, .ref h_signs, g_this_5, .int f_strangers, .int f_checkSum])), (h_signs, .inl (cy, 20, .inl a_signs))] s.heap.size = A at hE hD ⊢
  have hA : ∀ q : Nat, s.heap.size ≤ q → A q := fun q h => by rw [← hAe]; exact Or.inr h
  have hS : va_S A s.heap s.heap [] := va_S.rf
  have hl := lv_entry ([.ref h_this, .int x1]) (n := 5) (Nat.le_of_ble_eq_true rfl)
  rw [show entryFrame m args 5 = entryFrame m ([.ref h_this, .int x1] : List Value).toArray 5 by rw [hargs], lg_entry_eq]
  generalize (lg_sl ([.ref h_this, .int x1]) ++ List.replicate (5 - (lg_sl ([.ref h_this, .int x1])).length) Slot.unset).toArray = ls at hl ⊢
  have hl : lv_has ls 5 [(0, .ref h_this), (1, .int x1)] := hl
  have hP : va_P (dC, dI) vwCl [(h_this, .inr (3, [.int f_places, g_this_1, g_this_2, g_this_3, .ref h_signs, g_this_5, .int f_strangers, .int f_checkSum])), (h_signs, .inl (cy, 20, .inl a_signs))] s.heap := hP
  change W p l e rm_X3_findOther s m args below meth c s.heap [] 0 0 _ _
  generalize hQQ : MQ below _ _ _ _ _ _ = QQ
  have RET : ∀ (r : Int32) (H : Heap) (locs : List Loc) (ls : Array Slot) (pc : Nat), decode cX3_findOther pc = .ok (.ireturn, 1) → Q r → va_P (dC, dI) vwCl [(h_this, .inr (3, [.int f_places, g_this_1, g_this_2, g_this_3, .ref h_signs, g_this_5, .int f_strangers, .int f_checkSum])), (h_signs, .inl (cy, 20, .inl a_signs))] H → va_D A [(h_this, .inr (3, [.int f_places, g_this_1, g_this_2, g_this_3, .ref h_signs, g_this_5, .int f_strangers, .int f_checkSum])), (h_signs, .inl (cy, 20, .inl a_signs))] → va_S A s.heap H locs → W p l e rm_X3_findOther s m args below meth c H locs 0 0 QQ (F0 m pc ls [.int r]) := by
    intro r  H locs ls pc hdg hq hP hD hS
    rw [← hQQ]
    exact W.iret (v := r) hx hb hr (fun t ht hW => ⟨⟨r, (), rfl, hq, by rw [ht]; exact hP, va_K.moved hW.alike hK, hD⟩, hS.F ht⟩) hS.2.2 hdg
  clear hQQ
  unfold p_X3_findOther at h
  have L17 : ∀ (K17 : Int32 → Int32 → Prop) (n : Nat) (x2 : Int32) (x3 : Int32) (H : Heap) (locs : List Loc) (ls : Array Slot), wl2 (p_X3_findOther_B17 f_strangers f_checkSum a_signs Q K17) n x2 x3 → va_P (dC, dI) vwCl [(h_this, .inr (3, [.int f_places, g_this_1, g_this_2, g_this_3, .ref h_signs, g_this_5, .int f_strangers, .int f_checkSum])), (h_signs, .inl (cy, 20, .inl a_signs))] H → va_D A [(h_this, .inr (3, [.int f_places, g_this_1, g_this_2, g_this_3, .ref h_signs, g_this_5, .int f_strangers, .int f_checkSum])), (h_signs, .inl (cy, 20, .inl a_signs))] → va_S A s.heap H locs → lv_has ls 5 [(0, .ref h_this), (2, .int x2), (3, .int x3)] → (∀ (x2 : Int32) (x3 : Int32) (H : Heap) (locs : List Loc) (ls : Array Slot), K17 x2 x3 → va_P (dC, dI) vwCl [(h_this, .inr (3, [.int f_places, g_this_1, g_this_2, g_this_3, .ref h_signs, g_this_5, .int f_strangers, .int f_checkSum])), (h_signs, .inl (cy, 20, .inl a_signs))] H → va_D A [(h_this, .inr (3, [.int f_places, g_this_1, g_this_2, g_this_3, .ref h_signs, g_this_5, .int f_strangers, .int f_checkSum])), (h_signs, .inl (cy, 20, .inl a_signs))] → va_S A s.heap H locs → lv_has ls 5 [] → W p l e rm_X3_findOther s m args below meth c H locs 0 0 QQ (F0 m 70 ls [])) → W p l e rm_X3_findOther s m args below meth c H locs 0 0 QQ (F0 m 17 ls []) := by
    intro K17 n
    induction n with
    | zero => intro x2 x3 H locs ls h; exact False.elim h
    | succ n ih =>
      intro x2 x3 H locs ls h hP hD hS hl hk
      have ih := fun x2 x3 H locs ls h hP hD hS hl => ih x2 x3 H locs ls h hP hD hS hl hk
      replace h : p_X3_findOther_B17 f_strangers f_checkSum a_signs Q K17 (wl2 (p_X3_findOther_B17 f_strangers f_checkSum a_signs Q K17) n) x2 x3 := h
      unfold p_X3_findOther_B17 at h
      have L26 : ∀ (x3 : Int32) (K26 : Int32 → Int32 → Prop) (n : Nat) (x2 : Int32) (x4 : Int32) (H : Heap) (locs : List Loc) (ls : Array Slot), wl2 (p_X3_findOther_B26 f_strangers f_checkSum a_signs x3 Q K26) n x2 x4 → va_P (dC, dI) vwCl [(h_this, .inr (3, [.int f_places, g_this_1, g_this_2, g_this_3, .ref h_signs, g_this_5, .int f_strangers, .int f_checkSum])), (h_signs, .inl (cy, 20, .inl a_signs))] H → va_D A [(h_this, .inr (3, [.int f_places, g_this_1, g_this_2, g_this_3, .ref h_signs, g_this_5, .int f_strangers, .int f_checkSum])), (h_signs, .inl (cy, 20, .inl a_signs))] → va_S A s.heap H locs → lv_has ls 5 [(0, .ref h_this), (2, .int x2), (3, .int x3), (4, .int x4)] → (∀ (x2 : Int32) (x4 : Int32) (H : Heap) (locs : List Loc) (ls : Array Slot), K26 x2 x4 → va_P (dC, dI) vwCl [(h_this, .inr (3, [.int f_places, g_this_1, g_this_2, g_this_3, .ref h_signs, g_this_5, .int f_strangers, .int f_checkSum])), (h_signs, .inl (cy, 20, .inl a_signs))] H → va_D A [(h_this, .inr (3, [.int f_places, g_this_1, g_this_2, g_this_3, .ref h_signs, g_this_5, .int f_strangers, .int f_checkSum])), (h_signs, .inl (cy, 20, .inl a_signs))] → va_S A s.heap H locs → lv_has ls 5 [(0, .ref h_this), (2, .int x2), (3, .int x3)] → W p l e rm_X3_findOther s m args below meth c H locs 0 0 QQ (F0 m 64 ls [])) → W p l e rm_X3_findOther s m args below meth c H locs 0 0 QQ (F0 m 26 ls []) := by
        intro x3 K26 n
        induction n with
        | zero => intro x2 x4 H locs ls h; exact False.elim h
        | succ n ih =>
          intro x2 x4 H locs ls h hP hD hS hl hk
          have ih := fun x2 x4 H locs ls h hP hD hS hl => ih x2 x4 H locs ls h hP hD hS hl hk
          replace h : p_X3_findOther_B26 f_strangers f_checkSum a_signs x3 Q K26 (wl2 (p_X3_findOther_B26 f_strangers f_checkSum a_signs x3 Q K26) n) x2 x4 := h
          unfold p_X3_findOther_B26 at h
          have J58 : ∀ (x2 : Int32) (x4 : Int32) (H : Heap) (locs : List Loc) (ls : Array Slot), p_X3_findOther_J58 (wl2 (p_X3_findOther_B26 f_strangers f_checkSum a_signs x3 Q K26) n) x2 x4 → va_P (dC, dI) vwCl [(h_this, .inr (3, [.int f_places, g_this_1, g_this_2, g_this_3, .ref h_signs, g_this_5, .int f_strangers, .int f_checkSum])), (h_signs, .inl (cy, 20, .inl a_signs))] H → va_D A [(h_this, .inr (3, [.int f_places, g_this_1, g_this_2, g_this_3, .ref h_signs, g_this_5, .int f_strangers, .int f_checkSum])), (h_signs, .inl (cy, 20, .inl a_signs))] → va_S A s.heap H locs → lv_has ls 5 [(0, .ref h_this), (2, .int x2), (3, .int x3), (4, .int x4)] → W p l e rm_X3_findOther s m args below meth c H locs 0 0 QQ (F0 m 58 ls []) := by
            intro x2 x4 H locs ls h hP hD hS hl
            unfold p_X3_findOther_J58 at h
            refine lv_iinc (v := x4 + 1) (lv' := [(4, .int (x4 + 1)), (0, .ref h_this), (2, .int x2), (3, .int x3)]) hx hb dX3_findOther_58 hl (k := 3) rfl (by rfl) (by decide) rfl (fun ls hl => ?_)
            refine lv_goto (tgt := 26) hx hb dX3_findOther_61 (by decide) ?_
            exact ih x2 (x4 + 1) H locs ls h hP hD hS (lv_sub hl [1, 2, 3, 0] rfl)
          refine lv_iload hx hb dX3_findOther_26 (lv_at hl 3 rfl) ?_
          refine lv_bipush (v := 12) hx hb dX3_findOther_28 (by decide) ?_
          refine lv_icmp_ge (tgt := 64) hx hb dX3_findOther_30 (by decide) (fun c30 => ?_) (fun c30 => ?_)
          · replace h := And.left h c30
            exact hk x2 x4 H locs ls h hP hD hS (lv_sub hl [0, 1, 2] rfl)
          · replace h := And.right h c30
            refine lv_aload_n hx hb dX3_findOther_33 rfl (lv_at hl 0 rfl) ?_
            refine lv_iload_n hx hb dX3_findOther_34 rfl (lv_at hl 2 rfl) ?_
            refine lv_iload hx hb dX3_findOther_35 (lv_at hl 3 rfl) ?_
            have hPc := hP.sub (ws' := [(h_this, .inr (3, [.int f_places, g_this_1, g_this_2, g_this_3, .ref h_signs, g_this_5, .int f_strangers, .int f_checkSum])), (h_signs, .inl (cy, 20, .inl a_signs))]) [0, 1] rfl
            have hDc := hD.sub (ws' := [(h_this, .inr (3, [.int f_places, g_this_1, g_this_2, g_this_3, .ref h_signs, g_this_5, .int f_strangers, .int f_checkSum])), (h_signs, .inl (cy, 20, .inl a_signs))]) [0, 1] (by decide) rfl
            have hFc := va_free (wc := [(h_this, .inr (3, [.int f_places, g_this_1, g_this_2, g_this_3, .ref h_signs, g_this_5, .int f_strangers, .int f_checkSum])), (h_signs, .inl (cy, 20, .inl a_signs))]) hD hS hA [0, 1] rfl
            refine va_calli (va_runV (As := [.int x3, .int x4]) (rest := []) ⟨hx, hb, hml, hown, hts⟩ (c_X3_isOther l dC dI cy t_S h_this h_signs H.size (.int f_places) (g_this_1) (g_this_2) (g_this_3) (g_this_5) f_strangers f_checkSum a_signs x3 x4 _ h) (cwV 2 hts gX3_findOther_X3_isOther rfl rfl rfl q_X3_isOther ⟨Nat.le_of_ble_eq_true rfl, Nat.le_of_ble_eq_true rfl⟩) ⟨fun a U g mk q => by obtain ⟨q0, q1, qP, qK, qD, qE⟩ := q; exact ⟨q0, q1, qP, va_K.moved (u := U) (U := U.calling g mk a) (Vm.Alike.refl U.vm) qK, qD, ev_calling qE⟩, va_recv hK hP (ci := 3) (q0 := 0) rfl rfl, fun U hU hW => ⟨rfl, by rw [hU], by rw [hU]; exact hPc, va_K.moved hW.alike hK, hDc.weaken (fun _ _ _ _ => trivial), ev_in hE hS hFc hU hW⟩⟩ rfl rfl hl.1 rfl (lv_room (Nat.le_of_ble_eq_true rfl)) dX3_findOther_37 ⟨Nat.le_of_ble_eq_true rfl, Nat.le_of_ble_eq_true rfl⟩) hS (fun q _ h => hFc q h) hFc (fun r37 u t H1 locs ht hvm hw hB hz1 hk1 hS => ?_)
            obtain ⟨hP1, hK1, hD1⟩ := hB
            rw [ht] at hP1
            obtain ⟨hP, hD⟩ := va_join (wr := []) (w1 := [(h_this, .inr (3, [.int f_places, g_this_1, g_this_2, g_this_3, .ref h_signs, g_this_5, .int f_strangers, .int f_checkSum])), (h_signs, .inl (cy, 20, .inl a_signs))]) hP hD [0, 1] [] rfl rfl (by decide) (by decide) hk1 hFc hP1 hD1
            replace hP := hP.sub (ws' := [(h_this, .inr (3, [.int f_places, g_this_1, g_this_2, g_this_3, .ref h_signs, g_this_5, .int f_strangers, .int f_checkSum])), (h_signs, .inl (cy, 20, .inl a_signs))]) [0, 1] rfl
            replace hD := hD.sub (ws' := [(h_this, .inr (3, [.int f_places, g_this_1, g_this_2, g_this_3, .ref h_signs, g_this_5, .int f_strangers, .int f_checkSum])), (h_signs, .inl (cy, 20, .inl a_signs))]) [0, 1] (by decide) rfl
            clear hPc hDc hFc hP1 hK1 hD1 hz1 hk1 hvm
            subst ht
            generalize t.heap = H at hP hS ⊢
            replace h := hw
            clear hw
            refine lv_if_eq (tgt := 58) hx hb dX3_findOther_40 (by decide) (fun c40 => ?_) (fun c40 => ?_)
            · replace h := And.left h c40
              exact J58 x2 x4 H locs ls h hP hD hS (lv_sub hl [0, 1, 2, 3] rfl)
            · replace h := And.right h c40
              refine lv_iload_n hx hb dX3_findOther_43 rfl (lv_at hl 1 rfl) ?_
              refine lv_if_ne (tgt := 55) hx hb dX3_findOther_44 (by decide) (fun c44 => ?_) (fun c44 => ?_)
              · replace h := And.left h c44
                refine lv_iinc (v := x2 + (-1)) (lv' := [(2, .int (x2 + (-1))), (0, .ref h_this), (3, .int x3), (4, .int x4)]) hx hb dX3_findOther_55 hl (k := 1) rfl (by rfl) (by decide) rfl (fun ls hl => ?_)
                exact J58 (x2 + (-1)) x4 H locs ls h hP hD hS (lv_sub hl [1, 0, 2, 3] rfl)
              · replace h := And.right h c44
                refine lv_iload_n hx hb dX3_findOther_47 rfl (lv_at hl 2 rfl) ?_
                refine lv_bipush (v := 12) hx hb dX3_findOther_48 (by decide) ?_
                refine lv_imul hx hb dX3_findOther_50 ?_
                refine lv_iload hx hb dX3_findOther_51 (lv_at hl 3 rfl) ?_
                refine lv_iadd hx hb dX3_findOther_53 ?_
                exact RET ((x3 * 12) + x4) H locs ls 54 dX3_findOther_54 h hP hD hS
      refine lv_iload_n hx hb dX3_findOther_17 rfl (lv_at hl 2 rfl) ?_
      refine lv_bipush (v := 18) hx hb dX3_findOther_18 (by decide) ?_
      refine lv_icmp_ge (tgt := 70) hx hb dX3_findOther_20 (by decide) (fun c20 => ?_) (fun c20 => ?_)
      · replace h := And.left h c20
        exact hk x2 x3 H locs ls h hP hD hS (lv_sub hl [] rfl)
      · replace h := And.right h c20
        refine lv_iconst (v := 0) hx hb dX3_findOther_23 (by decide) ?_
        refine lv_istore (lv' := [(4, .int 0), (0, .ref h_this), (2, .int x2), (3, .int x3)]) hx hb dX3_findOther_24 hl (by decide) rfl (fun ls hl => ?_)
        obtain ⟨n26, h⟩ := h
        refine L26 x3 _ n26 x2 0 H locs ls h hP hD hS (lv_sub hl [1, 2, 3, 0] rfl) (fun x2_64 x4_64 H locs ls h hP hD hS hl => ?_)
        refine lv_iinc (v := x3 + 1) (lv' := [(3, .int (x3 + 1)), (0, .ref h_this), (2, .int x2_64)]) hx hb dX3_findOther_64 hl (k := 2) rfl (by rfl) (by decide) rfl (fun ls hl => ?_)
        refine lv_goto (tgt := 17) hx hb dX3_findOther_67 (by decide) ?_
        exact ih x2_64 (x3 + 1) H locs ls h hP hD hS (lv_sub hl [1, 2, 0] rfl)
  have J11 : ∀ (H : Heap) (locs : List Loc) (ls : Array Slot), p_X3_findOther_J11 Q → va_P (dC, dI) vwCl [(h_this, .inr (3, [.int f_places, g_this_1, g_this_2, g_this_3, .ref h_signs, g_this_5, .int f_strangers, .int f_checkSum])), (h_signs, .inl (cy, 20, .inl a_signs))] H → va_D A [(h_this, .inr (3, [.int f_places, g_this_1, g_this_2, g_this_3, .ref h_signs, g_this_5, .int f_strangers, .int f_checkSum])), (h_signs, .inl (cy, 20, .inl a_signs))] → va_S A s.heap H locs → lv_has ls 5 [] → W p l e rm_X3_findOther s m args below meth c H locs 0 0 QQ (F0 m 11 ls []) := by
    intro  H locs ls h hP hD hS hl
    unfold p_X3_findOther_J11 at h
    refine lv_iconst (v := (-1)) hx hb dX3_findOther_11 (by decide) ?_
    exact RET (-1) H locs ls 12 dX3_findOther_12 h hP hD hS
  generalize hlo : ([] : List Loc) = locs at hS ⊢
  obtain ⟨H, hH⟩ : ∃ z, z = s.heap := ⟨_, rfl⟩
  rw [show W p l e rm_X3_findOther s m args below meth c s.heap = W p l e rm_X3_findOther s m args below meth c H by rw [hH]]
  replace hP : va_P (dC, dI) vwCl [(h_this, .inr (3, [.int f_places, g_this_1, g_this_2, g_this_3, .ref h_signs, g_this_5, .int f_strangers, .int f_checkSum])), (h_signs, .inl (cy, 20, .inl a_signs))] H := by rw [hH]; exact hP
  replace hS : va_S A s.heap H locs := by rw [hH]; exact hS
  clear hH hlo
  refine lv_aload_n hx hb dX3_findOther_0 rfl (lv_at hl 0 rfl) ?_
  have hPc := hP.sub (ws' := [(h_this, .inr (3, [.int f_places, g_this_1, g_this_2, g_this_3, .ref h_signs, g_this_5, .int f_strangers, .int f_checkSum]))]) [0] rfl
  have hDc := hD.sub (ws' := [(h_this, .inr (3, [.int f_places, g_this_1, g_this_2, g_this_3, .ref h_signs, g_this_5, .int f_strangers, .int f_checkSum]))]) [0] (by decide) rfl
  have hFc := va_free (wc := [(h_this, .inr (3, [.int f_places, g_this_1, g_this_2, g_this_3, .ref h_signs, g_this_5, .int f_strangers, .int f_checkSum]))]) hD hS hA [0] rfl
  refine va_calli (va_runV (As := []) (rest := []) ⟨hx, hb, hml, hown, hts⟩ (c_X3_isLong l dC dI cy h_this H.size (g_this_1) (g_this_2) (g_this_3) (.ref h_signs) (g_this_5) (.int f_strangers) (.int f_checkSum) f_places  _ h) (cwV 0 hts gX3_findOther_X3_isLong rfl rfl rfl q_X3_isLong ⟨Nat.le_of_ble_eq_true rfl, Nat.le_of_ble_eq_true rfl⟩) ⟨fun a U g mk q => by obtain ⟨q0, q1, qP, qK, qD⟩ := q; exact ⟨q0, q1, qP, va_K.moved (u := U) (U := U.calling g mk a) (Vm.Alike.refl U.vm) qK, qD⟩, va_recv hK hP (ci := 3) (q0 := 0) rfl rfl, fun U hU hW => ⟨rfl, by rw [hU], by rw [hU]; exact hPc, va_K.moved hW.alike hK, hDc.weaken (fun _ _ _ _ => trivial)⟩⟩ rfl rfl hl.1 rfl (lv_room (Nat.le_of_ble_eq_true rfl)) dX3_findOther_1 ⟨Nat.le_of_ble_eq_true rfl, Nat.le_of_ble_eq_true rfl⟩) hS (fun q _ h => hFc q h) hFc (fun r1 u t H1 locs ht hvm hw hB hz1 hk1 hS => ?_)
  obtain ⟨hP1, hK1, hD1⟩ := hB
  rw [ht] at hP1
  obtain ⟨hP, hD⟩ := va_join (wr := [(h_signs, .inl (cy, 20, .inl a_signs))]) (w1 := [(h_this, .inr (3, [.int f_places, g_this_1, g_this_2, g_this_3, .ref h_signs, g_this_5, .int f_strangers, .int f_checkSum]))]) hP hD [0] [1] rfl rfl (by decide) (by decide) hk1 hFc hP1 hD1
  replace hP := hP.sub (ws' := [(h_this, .inr (3, [.int f_places, g_this_1, g_this_2, g_this_3, .ref h_signs, g_this_5, .int f_strangers, .int f_checkSum])), (h_signs, .inl (cy, 20, .inl a_signs))]) [1, 0] rfl
  replace hD := hD.sub (ws' := [(h_this, .inr (3, [.int f_places, g_this_1, g_this_2, g_this_3, .ref h_signs, g_this_5, .int f_strangers, .int f_checkSum])), (h_signs, .inl (cy, 20, .inl a_signs))]) [1, 0] (by decide) rfl
  clear hPc hDc hFc hP1 hK1 hD1 hz1 hk1 hvm
  subst ht
  generalize t.heap = H at hP hS ⊢
  replace h := hw
  clear hw
  refine lv_if_eq (tgt := 11) hx hb dX3_findOther_4 (by decide) (fun c4 => ?_) (fun c4 => ?_)
  · replace h := And.left h c4
    exact J11  H locs ls h hP hD hS (lv_sub hl [] rfl)
  · replace h := And.right h c4
    refine lv_iload_n hx hb dX3_findOther_7 rfl (lv_at hl 1 rfl) ?_
    refine lv_if_ge (tgt := 13) hx hb dX3_findOther_8 (by decide) (fun c8 => ?_) (fun c8 => ?_)
    · replace h := And.left h c8
      refine lv_iload_n hx hb dX3_findOther_13 rfl (lv_at hl 1 rfl) ?_
      refine lv_istore_n (lv' := [(2, .int x1), (0, .ref h_this), (1, .int x1)]) hx hb dX3_findOther_14 rfl hl (by decide) rfl (fun ls hl => ?_)
      refine lv_iconst (v := 0) hx hb dX3_findOther_15 (by decide) ?_
      refine lv_istore_n (lv' := [(3, .int 0), (2, .int x1), (0, .ref h_this), (1, .int x1)]) hx hb dX3_findOther_16 rfl hl (by decide) rfl (fun ls hl => ?_)
      obtain ⟨n17, h⟩ := h
      refine L17  _ n17 x1 0 H locs ls h hP hD hS (lv_sub hl [2, 1, 0] rfl) (fun x2_70 x3_70 H locs ls h hP hD hS hl => ?_)
      refine lv_iconst (v := (-1)) hx hb dX3_findOther_70 (by decide) ?_
      exact RET (-1) H locs ls 71 dX3_findOther_71 h hP hD hS
    · replace h := And.right h c8
      exact J11  H locs ls h hP hD hS (lv_sub hl [] rfl)
abbrev rm_X3_become : Room := { frames := 2, cells := 0, slots := 0, locals := 42 }
theorem q_X3_become : yX3_become.cls = RX3 ∧ yX3_become.cls ≠ "java/lang/invoke/MethodHandle" ∧ yX3_become.cls ≠ "java/lang/invoke/VarHandle" ∧ (parseMethodDescriptor yX3_become.desc).map (fun d => d.parameters.length) = some 3 := by decide +kernel
set_option maxHeartbeats 4000000 in
set_option maxRecDepth 100000 in
theorem c_X3_become (l : Launch) (dC : Nat → ClassId) (dI : Nat → Nat → Nat) (cy : ClassId) (t_S : Nat → Nat) (h_this : Nat) (h_signs : Nat) (sz : Nat) (g_this_3 g_this_5 : Value) (f_places : Int32) (f_cost : Int32) (f_gap : Int32) (f_strangers : Int32) (f_checkSum : Int32) (a_signs : Nat → Int32) (x1 : Int32) (x2 : Int32) (x3 : Int32) (Q : Int32 → Int32 → Int32 → Int32 → (Nat → Int32) → Prop) (h : p_X3_become f_places f_cost f_gap f_strangers f_checkSum a_signs x1 x2 x3 Q) : Met l yX3_become wsX3_become rm_X3_become (va_Pc [.ref h_this, .int x1, .int x2, .int x3] (fun U => U.heap.size = sz ∧ va_P (dC, dI) vwCl [(h_this, .inr (3, [.int f_places, .int f_cost, .int f_gap, g_this_3, .ref h_signs, g_this_5, .int f_strangers, .int f_checkSum])), (h_signs, .inl (cy, 20, .inl a_signs))] U.heap ∧ va_K (dC, dI) vwCl [(cy, .int)] U ∧ va_D (fun _ => True) [(h_this, .inr (3, [.int f_places, .int f_cost, .int f_gap, g_this_3, .ref h_signs, g_this_5, .int f_strangers, .int f_checkSum])), (h_signs, .inl (cy, 20, .inl a_signs))] ∧ ev_S t_S (va_A [(h_this, .inr (3, [.int f_places, .int f_cost, .int f_gap, g_this_3, .ref h_signs, g_this_5, .int f_strangers, .int f_checkSum])), (h_signs, .inl (cy, 20, .inl a_signs))] sz) U)) (va_Qv (fun (u : Int32 × Int32 × Int32 × Int32 × (Nat → Int32)) => Q u.1 u.2.1 u.2.2.1 u.2.2.2.1 u.2.2.2.2) (fun (u : Int32 × Int32 × Int32 × Int32 × (Nat → Int32)) (t : State) => va_P (dC, dI) vwCl [(h_this, .inr (3, [.int f_places, .int (u.1), .int (u.2.1), g_this_3, .ref h_signs, g_this_5, .int (u.2.2.1), .int (u.2.2.2.1)])), (h_signs, .inl (cy, 20, .inl (u.2.2.2.2)))] t.heap ∧ va_K (dC, dI) vwCl [(cy, .int)] t ∧ va_D (va_A [(h_this, .inr (3, [.int f_places, .int f_cost, .int f_gap, g_this_3, .ref h_signs, g_this_5, .int f_strangers, .int f_checkSum])), (h_signs, .inl (cy, 20, .inl a_signs))] sz) [(h_this, .inr (3, [.int f_places, .int (u.1), .int (u.2.1), g_this_3, .ref h_signs, g_this_5, .int (u.2.2.1), .int (u.2.2.2.1)])), (h_signs, .inl (cy, 20, .inl (u.2.2.2.2)))]) (va_A [(h_this, .inr (3, [.int f_places, .int f_cost, .int f_gap, g_this_3, .ref h_signs, g_this_5, .int f_strangers, .int f_checkSum])), (h_signs, .inl (cy, 20, .inl a_signs))] sz)) 0 0 (va_A [(h_this, .inr (3, [.int f_places, .int f_cost, .int f_gap, g_this_3, .ref h_signs, g_this_5, .int f_strangers, .int f_checkSum])), (h_signs, .inl (cy, 20, .inl a_signs))] sz) := by
  refine Met.ofW (cc := cX3_become) (maxL := 4) (ret := none) (by decide) rfl ?_
  intro p e s m args below meth c s₁ B hml hv
  obtain ⟨hargs, hsz, hP, hK, hD0, hE⟩ := hv
  have hx := B.exec
  have hb := B.bytes
  have hr := B.returns
  have hts := atoms_spec (ws := wsX3_become) B.pre
  have hown : s.vm.findClass RX3 = some m.cls := findClass_of_methodNamed B.named
  have hlocks := B.notSynchronized
  subst hsz
  have hD := hD0.self (sz := s.heap.size)
  generalize hAe : va_A [(h_this, .inr (3, [.int f_places, .int f_cost, .int f_gap, g_this_3, .ref h_signs, g_this_5, .int f_strangers, .int f_checkSum])), (h_signs, .inl (cy, 20, .inl a_signs))] s.heap.size = A at hE hD ⊢
  have hA : ∀ q : Nat, s.heap.size ≤ q → A q := fun q h => by rw [← hAe]; exact Or.inr h
  have hS : va_S A s.heap s.heap [] := va_S.rf
  have in_X3 : ∀ w ∈ u_ws RX3 TX3 8, w ∈ wsX3_become := by decide +kernel
  have k_15 := hts (.fieldLink RX3 15 "ChequeDesk$Reading" "cost" "I") (by decide +kernel)
  have k_18 := hts (.fieldLink RX3 18 "ChequeDesk$Reading" "gap" "I") (by decide +kernel)
  have k_25 := hts (.fieldLink RX3 25 "ChequeDesk$Reading" "signs" "[I") (by decide +kernel)
  have hl := lv_entry ([.ref h_this, .int x1, .int x2, .int x3]) (n := 4) (Nat.le_of_ble_eq_true rfl)
  rw [show entryFrame m args 4 = entryFrame m ([.ref h_this, .int x1, .int x2, .int x3] : List Value).toArray 4 by rw [hargs], lg_entry_eq]
  generalize (lg_sl ([.ref h_this, .int x1, .int x2, .int x3]) ++ List.replicate (4 - (lg_sl ([.ref h_this, .int x1, .int x2, .int x3])).length) Slot.unset).toArray = ls at hl ⊢
  have hl : lv_has ls 4 [(0, .ref h_this), (1, .int x1), (2, .int x2), (3, .int x3)] := hl
  have hP : va_P (dC, dI) vwCl [(h_this, .inr (3, [.int f_places, .int f_cost, .int f_gap, g_this_3, .ref h_signs, g_this_5, .int f_strangers, .int f_checkSum])), (h_signs, .inl (cy, 20, .inl a_signs))] s.heap := hP
  change W p l e rm_X3_become s m args below meth c s.heap [] 0 0 _ _
  generalize hQQ : MQ below _ _ _ _ _ _ = QQ
  have RET : ∀ (f_cost : Int32) (f_gap : Int32) (f_strangers : Int32) (f_checkSum : Int32) (a_signs : Nat → Int32) (H : Heap) (locs : List Loc) (ls : Array Slot) (pc : Nat), decode cX3_become pc = .ok (.return_, 1) → Q f_cost f_gap f_strangers f_checkSum a_signs → va_P (dC, dI) vwCl [(h_this, .inr (3, [.int f_places, .int f_cost, .int f_gap, g_this_3, .ref h_signs, g_this_5, .int f_strangers, .int f_checkSum])), (h_signs, .inl (cy, 20, .inl a_signs))] H → va_D A [(h_this, .inr (3, [.int f_places, .int f_cost, .int f_gap, g_this_3, .ref h_signs, g_this_5, .int f_strangers, .int f_checkSum])), (h_signs, .inl (cy, 20, .inl a_signs))] → va_S A s.heap H locs → W p l e rm_X3_become s m args below meth c H locs 0 0 QQ (F0 m pc ls []) := by
    intro f_cost f_gap f_strangers f_checkSum a_signs H locs ls pc hdg hq hP hD hS
    rw [← hQQ]
    exact W.vret hx hb hr (fun t ht hW => ⟨⟨(f_cost, f_gap, f_strangers, f_checkSum, a_signs), rfl, hq, by rw [ht]; exact hP, va_K.moved hW.alike hK, hD⟩, hS.F ht⟩) hS.2.2 hdg
  clear hQQ
  unfold p_X3_become at h
  generalize hlo : ([] : List Loc) = locs at hS ⊢
  obtain ⟨H, hH⟩ : ∃ z, z = s.heap := ⟨_, rfl⟩
  rw [show W p l e rm_X3_become s m args below meth c s.heap = W p l e rm_X3_become s m args below meth c H by rw [hH]]
  replace hP : va_P (dC, dI) vwCl [(h_this, .inr (3, [.int f_places, .int f_cost, .int f_gap, g_this_3, .ref h_signs, g_this_5, .int f_strangers, .int f_checkSum])), (h_signs, .inl (cy, 20, .inl a_signs))] H := by rw [hH]; exact hP
  replace hS : va_S A s.heap H locs := by rw [hH]; exact hS
  clear hH hlo
  refine lv_aload_n hx hb dX3_become_0 rfl (lv_at hl 0 rfl) ?_
  refine va_get (D := (dC, dI)) (ci := 3) (v := .ref h_signs) (C := RX3) (T := TX3) (N := 8) hx hb hts in_X3 hown hK hP 0 rfl rfl 4 (by decide) k_25 (fun _ h9 => h9) rfl dX3_become_1 ?_
  refine lv_iload_n hx hb dX3_become_4 rfl (lv_at hl 1 rfl) ?_
  refine lv_iload_n hx hb dX3_become_5 rfl (lv_at hl 2 rfl) ?_
  obtain ⟨b6, h⟩ := h
  refine va_iast hx hb hK hP hD hS 1 0 rfl rfl b6 dX3_become_6 (fun H locs hP hD hS => ?_)
  have hP : va_P (dC, dI) vwCl [(h_this, .inr (3, [.int f_places, .int f_cost, .int f_gap, g_this_3, .ref h_signs, g_this_5, .int f_strangers, .int f_checkSum])), (h_signs, .inl (cy, 20, .inl (upd a_signs (Int32.toNatClampNeg x1) x2)))] H := hP
  have hD : va_D A [(h_this, .inr (3, [.int f_places, .int f_cost, .int f_gap, g_this_3, .ref h_signs, g_this_5, .int f_strangers, .int f_checkSum])), (h_signs, .inl (cy, 20, .inl (upd a_signs (Int32.toNatClampNeg x1) x2)))] := hD
  refine lv_aload_n hx hb dX3_become_7 rfl (lv_at hl 0 rfl) ?_
  refine lv_iload_n hx hb dX3_become_8 rfl (lv_at hl 3 rfl) ?_
  refine va_put (D := (dC, dI)) (ci := 3) (v := .int x3) (ty := .int) (C := RX3) (T := TX3) (N := 8) hx hb hts in_X3 tyX3 tyX3_ok nmX3 hown hK hP hD hS 0 rfl rfl 1 (by decide) k_15 (fun _ h9 => h9) rfl (by decide +kernel) rfl rfl (Nat.le_of_ble_eq_true rfl) dX3_become_9 (fun H locs hP hD hS => ?_)
  have hP : va_P (dC, dI) vwCl [(h_this, .inr (3, [.int f_places, .int x3, .int f_gap, g_this_3, .ref h_signs, g_this_5, .int f_strangers, .int f_checkSum])), (h_signs, .inl (cy, 20, .inl (upd a_signs (Int32.toNatClampNeg x1) x2)))] H := hP
  have hD : va_D A [(h_this, .inr (3, [.int f_places, .int x3, .int f_gap, g_this_3, .ref h_signs, g_this_5, .int f_strangers, .int f_checkSum])), (h_signs, .inl (cy, 20, .inl (upd a_signs (Int32.toNatClampNeg x1) x2)))] := hD
  refine lv_aload_n hx hb dX3_become_12 rfl (lv_at hl 0 rfl) ?_
  refine lv_iconst (v := 0) hx hb dX3_become_13 (by decide) ?_
  refine va_put (D := (dC, dI)) (ci := 3) (v := .int 0) (ty := .int) (C := RX3) (T := TX3) (N := 8) hx hb hts in_X3 tyX3 tyX3_ok nmX3 hown hK hP hD hS 0 rfl rfl 2 (by decide) k_18 (fun _ h9 => h9) rfl (by decide +kernel) rfl rfl (Nat.le_of_ble_eq_true rfl) dX3_become_14 (fun H locs hP hD hS => ?_)
  have hP : va_P (dC, dI) vwCl [(h_this, .inr (3, [.int f_places, .int x3, .int 0, g_this_3, .ref h_signs, g_this_5, .int f_strangers, .int f_checkSum])), (h_signs, .inl (cy, 20, .inl (upd a_signs (Int32.toNatClampNeg x1) x2)))] H := hP
  have hD : va_D A [(h_this, .inr (3, [.int f_places, .int x3, .int 0, g_this_3, .ref h_signs, g_this_5, .int f_strangers, .int f_checkSum])), (h_signs, .inl (cy, 20, .inl (upd a_signs (Int32.toNatClampNeg x1) x2)))] := hD
  refine lv_aload_n hx hb dX3_become_17 rfl (lv_at hl 0 rfl) ?_
  have hPc := hP.sub (ws' := [(h_this, .inr (3, [.int f_places, .int x3, .int 0, g_this_3, .ref h_signs, g_this_5, .int f_strangers, .int f_checkSum])), (h_signs, .inl (cy, 20, .inl (upd a_signs (Int32.toNatClampNeg x1) x2)))]) [0, 1] rfl
  have hDc := hD.sub (ws' := [(h_this, .inr (3, [.int f_places, .int x3, .int 0, g_this_3, .ref h_signs, g_this_5, .int f_strangers, .int f_checkSum])), (h_signs, .inl (cy, 20, .inl (upd a_signs (Int32.toNatClampNeg x1) x2)))]) [0, 1] (by decide) rfl
  have hFc := va_free (wc := [(h_this, .inr (3, [.int f_places, .int x3, .int 0, g_this_3, .ref h_signs, g_this_5, .int f_strangers, .int f_checkSum])), (h_signs, .inl (cy, 20, .inl (upd a_signs (Int32.toNatClampNeg x1) x2)))]) hD hS hA [0, 1] rfl
  refine va_callv (va_runV (As := []) (rest := []) ⟨hx, hb, hml, hown, hts⟩ (c_X3_checkLine l dC dI cy t_S h_this h_signs H.size (.int x3) (.int 0) (g_this_3) (g_this_5) f_places f_strangers f_checkSum (upd a_signs (Int32.toNatClampNeg x1) x2)  _ h) (cwV 0 hts gX3_become_X3_checkLine rfl rfl rfl q_X3_checkLine ⟨Nat.le_of_ble_eq_true rfl, Nat.le_of_ble_eq_true rfl⟩) ⟨fun a U g mk q => by obtain ⟨q0, q1, qP, qK, qD, qE⟩ := q; exact ⟨q0, q1, qP, va_K.moved (u := U) (U := U.calling g mk a) (Vm.Alike.refl U.vm) qK, qD, ev_calling qE⟩, va_recv hK hP (ci := 3) (q0 := 0) rfl rfl, fun U hU hW => ⟨rfl, by rw [hU], by rw [hU]; exact hPc, va_K.moved hW.alike hK, hDc.weaken (fun _ _ _ _ => trivial), ev_in hE hS hFc hU hW⟩⟩ rfl rfl hl.1 rfl (lv_room (Nat.le_of_ble_eq_true rfl)) dX3_become_18 ⟨Nat.le_of_ble_eq_true rfl, Nat.le_of_ble_eq_true rfl⟩) hS (fun q _ h => hFc q h) hFc (fun u t H1 locs ht hvm hw hB hz1 hk1 hS => ?_)
  obtain ⟨f_strangers_18, f_checkSum_18⟩ := u
  obtain ⟨hP1, hK1, hD1⟩ := hB
  rw [ht] at hP1
  obtain ⟨hP, hD⟩ := va_join (wr := []) (w1 := [(h_this, .inr (3, [.int f_places, .int x3, .int 0, g_this_3, .ref h_signs, g_this_5, .int f_strangers_18, .int f_checkSum_18])), (h_signs, .inl (cy, 20, .inl (upd a_signs (Int32.toNatClampNeg x1) x2)))]) hP hD [0, 1] [] rfl rfl (by decide) (by decide) hk1 hFc hP1 hD1
  replace hP := hP.sub (ws' := [(h_this, .inr (3, [.int f_places, .int x3, .int 0, g_this_3, .ref h_signs, g_this_5, .int f_strangers_18, .int f_checkSum_18])), (h_signs, .inl (cy, 20, .inl (upd a_signs (Int32.toNatClampNeg x1) x2)))]) [0, 1] rfl
  replace hD := hD.sub (ws' := [(h_this, .inr (3, [.int f_places, .int x3, .int 0, g_this_3, .ref h_signs, g_this_5, .int f_strangers_18, .int f_checkSum_18])), (h_signs, .inl (cy, 20, .inl (upd a_signs (Int32.toNatClampNeg x1) x2)))]) [0, 1] (by decide) rfl
  clear hPc hDc hFc hP1 hK1 hD1 hz1 hk1 hvm
  subst ht
  generalize t.heap = H at hP hS ⊢
  replace h := hw
  clear hw
  exact RET x3 0 f_strangers_18 f_checkSum_18 (upd a_signs (Int32.toNatClampNeg x1) x2) H locs ls 21 dX3_become_21 h hP hD hS
