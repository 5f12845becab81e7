abbrev rm_X2_open : Room := { frames := 0, cells := 0, slots := 0, locals := 0 }
theorem q_X2_open : yX2_open.cls = RX2 ∧ yX2_open.cls ≠ "java/lang/invoke/MethodHandle" ∧ yX2_open.cls ≠ "java/lang/invoke/VarHandle" ∧ (parseMethodDescriptor yX2_open.desc).map (fun d => d.parameters.length) = some 1 := by decide +kernel
set_option maxHeartbeats 4000000 in
set_option maxRecDepth 100000 in
theorem c_X2_open (l : Launch) (dC : Nat → ClassId) (dI : Nat → Nat → Nat) (cy : ClassId) (h_this : Nat) (h_told : Nat) (sz : Nat) (g_this_2 g_this_3 g_this_4 g_this_5 g_this_6 g_this_7 : Value) (f_batches : Int32) (a_told : Nat → Int32) (x1 : Int32) (Q : Int32 → Int32 → (Nat → Int32) → Prop) (h : p_X2_open f_batches a_told x1 Q) : Met l yX2_open wsX2_open rm_X2_open (va_Pc [.ref h_this, .int x1] (fun U => U.heap.size = sz ∧ va_P (dC, dI) vwCl [(h_this, .inr (2, [.int f_batches, .ref h_told, g_this_2, g_this_3, g_this_4, g_this_5, g_this_6, g_this_7])), (h_told, .inl (cy, 20, .inl a_told))] U.heap ∧ va_K (dC, dI) vwCl [(cy, .int)] U ∧ va_D (fun _ => True) [(h_this, .inr (2, [.int f_batches, .ref h_told, g_this_2, g_this_3, g_this_4, g_this_5, g_this_6, g_this_7])), (h_told, .inl (cy, 20, .inl a_told))])) (va_Qi (fun (r : Int32) (u : Int32 × (Nat → Int32)) => Q r u.1 u.2) (fun (u : Int32 × (Nat → Int32)) (t : State) => va_P (dC, dI) vwCl [(h_this, .inr (2, [.int (u.1), .ref h_told, g_this_2, g_this_3, g_this_4, g_this_5, g_this_6, g_this_7])), (h_told, .inl (cy, 20, .inl (u.2)))] t.heap ∧ va_K (dC, dI) vwCl [(cy, .int)] t ∧ va_D (va_A [(h_this, .inr (2, [.int f_batches, .ref h_told, g_this_2, g_this_3, g_this_4, g_this_5, g_this_6, g_this_7])), (h_told, .inl (cy, 20, .inl a_told))] sz) [(h_this, .inr (2, [.int (u.1), .ref h_told, g_this_2, g_this_3, g_this_4, g_this_5, g_this_6, g_this_7])), (h_told, .inl (cy, 20, .inl (u.2)))]) (va_A [(h_this, .inr (2, [.int f_batches, .ref h_told, g_this_2, g_this_3, g_this_4, g_this_5, g_this_6, g_this_7])), (h_told, .inl (cy, 20, .inl a_told))] sz)) 0 0 (va_A [(h_this, .inr (2, [.int f_batches, .ref h_told, g_this_2, g_this_3, g_this_4, g_this_5, g_this_6, g_this_7])), (h_told, .inl (cy, 20, .inl a_told))] sz) := by
  refine Met.ofW (cc := cX2_open) (maxL := 2) (ret := (some .int)) (by decide) rfl ?_
  intro p e s m args below meth c s₁ B hml hv
  obtain ⟨hargs, hsz, hP, hK, hD0⟩ := hv
  have hx := B.exec
  have hb := B.bytes
  have hr := B.returns
  have hts := atoms_spec (ws := wsX2_open) B.pre
  have hown : s.vm.findClass RX2 = some m.cls := findClass_of_methodNamed B.named
  have hlocks := B.notSynchronized
  subst hsz
  have hD := hD0.self (sz := s.heap.size)
  generalize hAe : va_A [(h_this, .inr (2, [.int f_batches, .ref h_told, g_this_2, g_this_3, g_this_4, g_this_5, g_this_6, g_this_7])), (h_told, .inl (cy, 20, .inl a_told))] s.heap.size = A at hD ⊢
  have hA : ∀ q : Nat, s.heap.size ≤ q → A q := fun q h => by rw [← hAe]; exact Or.inr h
  have hS : va_S A s.heap s.heap [] := va_S.rf
  have in_X2 : ∀ w ∈ u_ws RX2 TX2 8, w ∈ wsX2_open := by decide +kernel
  have k_9 := hts (.fieldLink RX2 9 "ChequeDesk$Ledger" "batches" "I") (by decide +kernel)
  have k_15 := hts (.fieldLink RX2 15 "ChequeDesk$Ledger" "told" "[I") (by decide +kernel)
  have hl := lv_entry ([.ref h_this, .int x1]) (n := 2) (Nat.le_of_ble_eq_true rfl)
  rw [show entryFrame m args 2 = entryFrame m ([.ref h_this, .int x1] : List Value).toArray 2 by rw [hargs], lg_entry_eq]
  generalize (lg_sl ([.ref h_this, .int x1]) ++ List.replicate (2 - (lg_sl ([.ref h_this, .int x1])).length) Slot.unset).toArray = ls at hl ⊢
  have hl : lv_has ls 2 [(0, .ref h_this), (1, .int x1)] := hl
  have hP : va_P (dC, dI) vwCl [(h_this, .inr (2, [.int f_batches, .ref h_told, g_this_2, g_this_3, g_this_4, g_this_5, g_this_6, g_this_7])), (h_told, .inl (cy, 20, .inl a_told))] s.heap := hP
  change W p l e rm_X2_open s m args below meth c s.heap [] 0 0 _ _
  generalize hQQ : MQ below _ _ _ _ _ _ = QQ
  have RET : ∀ (r : Int32) (f_batches : Int32) (a_told : Nat → Int32) (H : Heap) (locs : List Loc) (ls : Array Slot) (pc : Nat), decode cX2_open pc = .ok (.ireturn, 1) → Q r f_batches a_told → va_P (dC, dI) vwCl [(h_this, .inr (2, [.int f_batches, .ref h_told, g_this_2, g_this_3, g_this_4, g_this_5, g_this_6, g_this_7])), (h_told, .inl (cy, 20, .inl a_told))] H → va_D A [(h_this, .inr (2, [.int f_batches, .ref h_told, g_this_2, g_this_3, g_this_4, g_this_5, g_this_6, g_this_7])), (h_told, .inl (cy, 20, .inl a_told))] → va_S A s.heap H locs → W p l e rm_X2_open s m args below meth c H locs 0 0 QQ (F0 m pc ls [.int r]) := by
    intro r f_batches a_told H locs ls pc hdg hq hP hD hS
    rw [← hQQ]
    exact W.iret (v := r) hx hb hr (fun t ht hW => ⟨⟨r, (f_batches, a_told), rfl, hq, by rw [ht]; exact hP, va_K.moved hW.alike hK, hD⟩, hS.F ht⟩) hS.2.2 hdg
  clear hQQ
  unfold p_X2_open at h
  generalize hlo : ([] : List Loc) = locs at hS ⊢
  obtain ⟨H, hH⟩ : ∃ z, z = s.heap := ⟨_, rfl⟩
  rw [show W p l e rm_X2_open s m args below meth c s.heap = W p l e rm_X2_open s m args below meth c H by rw [hH]]
  replace hP : va_P (dC, dI) vwCl [(h_this, .inr (2, [.int f_batches, .ref h_told, g_this_2, g_this_3, g_this_4, g_this_5, g_this_6, g_this_7])), (h_told, .inl (cy, 20, .inl a_told))] H := by rw [hH]; exact hP
  replace hS : va_S A s.heap H locs := by rw [hH]; exact hS
  clear hH hlo
  refine lv_aload_n hx hb dX2_open_0 rfl (lv_at hl 0 rfl) ?_
  refine va_get (D := (dC, dI)) (ci := 2) (v := .ref h_told) (C := RX2) (T := TX2) (N := 8) hx hb hts in_X2 hown hK hP 0 rfl rfl 1 (by decide) k_15 (fun _ h9 => h9) rfl dX2_open_1 ?_
  refine lv_aload_n hx hb dX2_open_4 rfl (lv_at hl 0 rfl) ?_
  refine va_get (D := (dC, dI)) (ci := 2) (v := .int f_batches) (C := RX2) (T := TX2) (N := 8) hx hb hts in_X2 hown hK hP 0 rfl rfl 0 (by decide) k_9 (fun _ h9 => h9) rfl dX2_open_5 ?_
  refine lv_iload_n hx hb dX2_open_8 rfl (lv_at hl 1 rfl) ?_
  obtain ⟨b9, h⟩ := h
  refine va_iast hx hb hK hP hD hS 1 0 rfl rfl b9 dX2_open_9 (fun H locs hP hD hS => ?_)
  have hP : va_P (dC, dI) vwCl [(h_this, .inr (2, [.int f_batches, .ref h_told, g_this_2, g_this_3, g_this_4, g_this_5, g_this_6, g_this_7])), (h_told, .inl (cy, 20, .inl (upd a_told (Int32.toNatClampNeg f_batches) x1)))] H := hP
  have hD : va_D A [(h_this, .inr (2, [.int f_batches, .ref h_told, g_this_2, g_this_3, g_this_4, g_this_5, g_this_6, g_this_7])), (h_told, .inl (cy, 20, .inl (upd a_told (Int32.toNatClampNeg f_batches) x1)))] := hD
  refine lv_aload_n hx hb dX2_open_10 rfl (lv_at hl 0 rfl) ?_
  refine lv_dup hx hb dX2_open_11 rfl ?_
  refine va_get (D := (dC, dI)) (ci := 2) (v := .int f_batches) (C := RX2) (T := TX2) (N := 8) hx hb hts in_X2 hown hK hP 0 rfl rfl 0 (by decide) k_9 (fun _ h9 => h9) rfl dX2_open_12 ?_
  refine lv_iconst (v := 1) hx hb dX2_open_15 (by decide) ?_
  refine lv_iadd hx hb dX2_open_16 ?_
  refine va_put (D := (dC, dI)) (ci := 2) (v := .int (f_batches + 1)) (ty := .int) (C := RX2) (T := TX2) (N := 8) hx hb hts in_X2 tyX2 tyX2_ok nmX2 hown hK hP hD hS 0 rfl rfl 0 (by decide) k_9 (fun _ h9 => h9) rfl (by decide +kernel) rfl rfl (Nat.le_of_ble_eq_true rfl) dX2_open_17 (fun H locs hP hD hS => ?_)
  have hP : va_P (dC, dI) vwCl [(h_this, .inr (2, [.int (f_batches + 1), .ref h_told, g_this_2, g_this_3, g_this_4, g_this_5, g_this_6, g_this_7])), (h_told, .inl (cy, 20, .inl (upd a_told (Int32.toNatClampNeg f_batches) x1)))] H := hP
  have hD : va_D A [(h_this, .inr (2, [.int (f_batches + 1), .ref h_told, g_this_2, g_this_3, g_this_4, g_this_5, g_this_6, g_this_7])), (h_told, .inl (cy, 20, .inl (upd a_told (Int32.toNatClampNeg f_batches) x1)))] := hD
  refine lv_aload_n hx hb dX2_open_20 rfl (lv_at hl 0 rfl) ?_
  refine va_get (D := (dC, dI)) (ci := 2) (v := .int (f_batches + 1)) (C := RX2) (T := TX2) (N := 8) hx hb hts in_X2 hown hK hP 0 rfl rfl 0 (by decide) k_9 (fun _ h9 => h9) rfl dX2_open_21 ?_
  refine lv_iconst (v := 1) hx hb dX2_open_24 (by decide) ?_
  refine lv_isub hx hb dX2_open_25 ?_
  exact RET ((f_batches + 1) - 1) (f_batches + 1) (upd a_told (Int32.toNatClampNeg f_batches) x1) H locs ls 26 dX2_open_26 h hP hD hS
abbrev rm_X2_take : Room := { frames := 1, cells := 0, slots := 0, locals := 24 }
theorem q_X2_take : yX2_take.cls = RX2 ∧ yX2_take.cls ≠ "java/lang/invoke/MethodHandle" ∧ yX2_take.cls ≠ "java/lang/invoke/VarHandle" ∧ (parseMethodDescriptor yX2_take.desc).map (fun d => d.parameters.length) = some 3 := by decide +kernel
set_option maxHeartbeats 4000000 in
set_option maxRecDepth 100000 in
theorem c_X2_take (l : Launch) (dC : Nat → ClassId) (dI : Nat → Nat → Nat) (cy : ClassId) (t_S : Nat → Nat) (h_this : Nat) (h_p3 : Nat) (h_accounts : Nat) (h_amounts : Nat) (h_banks : Nat) (h_batchOf : Nat) (h_numbers : Nat) (h_p3_signs : Nat) (sz : Nat) (g_this_0 g_this_1 g_p3_0 g_p3_1 g_p3_2 g_p3_3 g_p3_5 g_p3_6 g_p3_7 : Value) (f_papers : Int32) (a_accounts : Nat → Int32) (a_amounts : Nat → Int32) (a_banks : Nat → Int32) (a_batchOf : Nat → Int32) (a_numbers : Nat → Int32) (a_p3_signs : Nat → Int32) (x1 : Int32) (x2 : Int32) (Q : Int32 → Int32 → (Nat → Int32) → (Nat → Int32) → (Nat → Int32) → (Nat → Int32) → (Nat → Int32) → Prop) (h : p_X2_take f_papers a_accounts a_amounts a_banks a_batchOf a_numbers a_p3_signs x1 x2 Q) : Met l yX2_take wsX2_take rm_X2_take (va_Pc [.ref h_this, .int x1, .int x2, .ref h_p3] (fun U => U.heap.size = sz ∧ va_P (dC, dI) vwCl [(h_this, .inr (2, [g_this_0, g_this_1, .int f_papers, .ref h_batchOf, .ref h_amounts, .ref h_banks, .ref h_accounts, .ref h_numbers])), (h_p3, .inr (3, [g_p3_0, g_p3_1, g_p3_2, g_p3_3, .ref h_p3_signs, g_p3_5, g_p3_6, g_p3_7])), (h_accounts, .inl (cy, 100, .inl a_accounts)), (h_amounts, .inl (cy, 100, .inl a_amounts)), (h_banks, .inl (cy, 100, .inl a_banks)), (h_batchOf, .inl (cy, 100, .inl a_batchOf)), (h_numbers, .inl (cy, 100, .inl a_numbers)), (h_p3_signs, .inl (cy, 20, .inl a_p3_signs))] U.heap ∧ va_K (dC, dI) vwCl [(cy, .int)] U ∧ va_D (fun _ => True) [(h_this, .inr (2, [g_this_0, g_this_1, .int f_papers, .ref h_batchOf, .ref h_amounts, .ref h_banks, .ref h_accounts, .ref h_numbers])), (h_p3, .inr (3, [g_p3_0, g_p3_1, g_p3_2, g_p3_3, .ref h_p3_signs, g_p3_5, g_p3_6, g_p3_7])), (h_accounts, .inl (cy, 100, .inl a_accounts)), (h_amounts, .inl (cy, 100, .inl a_amounts)), (h_banks, .inl (cy, 100, .inl a_banks)), (h_batchOf, .inl (cy, 100, .inl a_batchOf)), (h_numbers, .inl (cy, 100, .inl a_numbers)), (h_p3_signs, .inl (cy, 20, .inl a_p3_signs))] ∧ ev_S t_S (va_A [(h_this, .inr (2, [g_this_0, g_this_1, .int f_papers, .ref h_batchOf, .ref h_amounts, .ref h_banks, .ref h_accounts, .ref h_numbers])), (h_p3, .inr (3, [g_p3_0, g_p3_1, g_p3_2, g_p3_3, .ref h_p3_signs, g_p3_5, g_p3_6, g_p3_7])), (h_accounts, .inl (cy, 100, .inl a_accounts)), (h_amounts, .inl (cy, 100, .inl a_amounts)), (h_banks, .inl (cy, 100, .inl a_banks)), (h_batchOf, .inl (cy, 100, .inl a_batchOf)), (h_numbers, .inl (cy, 100, .inl a_numbers)), (h_p3_signs, .inl (cy, 20, .inl a_p3_signs))] sz) U)) (va_Qi (fun (r : Int32) (u : Int32 × (Nat → Int32) × (Nat → Int32) × (Nat → Int32) × (Nat → Int32) × (Nat → Int32)) => Q r u.1 u.2.1 u.2.2.1 u.2.2.2.1 u.2.2.2.2.1 u.2.2.2.2.2) (fun (u : Int32 × (Nat → Int32) × (Nat → Int32) × (Nat → Int32) × (Nat → Int32) × (Nat → Int32)) (t : State) => va_P (dC, dI) vwCl [(h_this, .inr (2, [g_this_0, g_this_1, .int (u.1), .ref h_batchOf, .ref h_amounts, .ref h_banks, .ref h_accounts, .ref h_numbers])), (h_p3, .inr (3, [g_p3_0, g_p3_1, g_p3_2, g_p3_3, .ref h_p3_signs, g_p3_5, g_p3_6, g_p3_7])), (h_accounts, .inl (cy, 100, .inl (u.2.1))), (h_amounts, .inl (cy, 100, .inl (u.2.2.1))), (h_banks, .inl (cy, 100, .inl (u.2.2.2.1))), (h_batchOf, .inl (cy, 100, .inl (u.2.2.2.2.1))), (h_numbers, .inl (cy, 100, .inl (u.2.2.2.2.2))), (h_p3_signs, .inl (cy, 20, .inl a_p3_signs))] t.heap ∧ va_K (dC, dI) vwCl [(cy, .int)] t ∧ va_D (va_A [(h_this, .inr (2, [g_this_0, g_this_1, .int f_papers, .ref h_batchOf, .ref h_amounts, .ref h_banks, .ref h_accounts, .ref h_numbers])), (h_p3, .inr (3, [g_p3_0, g_p3_1, g_p3_2, g_p3_3, .ref h_p3_signs, g_p3_5, g_p3_6, g_p3_7])), (h_accounts, .inl (cy, 100, .inl a_accounts)), (h_amounts, .inl (cy, 100, .inl a_amounts)), (h_banks, .inl (cy, 100, .inl a_banks)), (h_batchOf, .inl (cy, 100, .inl a_batchOf)), (h_numbers, .inl (cy, 100, .inl a_numbers)), (h_p3_signs, .inl (cy, 20, .inl a_p3_signs))] sz) [(h_this, .inr (2, [g_this_0, g_this_1, .int (u.1), .ref h_batchOf, .ref h_amounts, .ref h_banks, .ref h_accounts, .ref h_numbers])), (h_p3, .inr (3, [g_p3_0, g_p3_1, g_p3_2, g_p3_3, .ref h_p3_signs, g_p3_5, g_p3_6, g_p3_7])), (h_accounts, .inl (cy, 100, .inl (u.2.1))), (h_amounts, .inl (cy, 100, .inl (u.2.2.1))), (h_banks, .inl (cy, 100, .inl (u.2.2.2.1))), (h_batchOf, .inl (cy, 100, .inl (u.2.2.2.2.1))), (h_numbers, .inl (cy, 100, .inl (u.2.2.2.2.2))), (h_p3_signs, .inl (cy, 20, .inl a_p3_signs))]) (va_A [(h_this, .inr (2, [g_this_0, g_this_1, .int f_papers, .ref h_batchOf, .ref h_amounts, .ref h_banks, .ref h_accounts, .ref h_numbers])), (h_p3, .inr (3, [g_p3_0, g_p3_1, g_p3_2, g_p3_3, .ref h_p3_signs, g_p3_5, g_p3_6, g_p3_7])), (h_accounts, .inl (cy, 100, .inl a_accounts)), (h_amounts, .inl (cy, 100, .inl a_amounts)), (h_banks, .inl (cy, 100, .inl a_banks)), (h_batchOf, .inl (cy, 100, .inl a_batchOf)), (h_numbers, .inl (cy, 100, .inl a_numbers)), (h_p3_signs, .inl (cy, 20, .inl a_p3_signs))] sz)) 0 0 (va_A [(h_this, .inr (2, [g_this_0, g_this_1, .int f_papers, .ref h_batchOf, .ref h_amounts, .ref h_banks, .ref h_accounts, .ref h_numbers])), (h_p3, .inr (3, [g_p3_0, g_p3_1, g_p3_2, g_p3_3, .ref h_p3_signs, g_p3_5, g_p3_6, g_p3_7])), (h_accounts, .inl (cy, 100, .inl a_accounts)), (h_amounts, .inl (cy, 100, .inl a_amounts)), (h_banks, .inl (cy, 100, .inl a_banks)), (h_batchOf, .inl (cy, 100, .inl a_batchOf)), (h_numbers, .inl (cy, 100, .inl a_numbers)), (h_p3_signs, .inl (cy, 20, .inl a_p3_signs))] sz) := by
  refine Met.ofW (cc := cX2_take) (maxL := 4) (ret := (some .int)) (by decide) rfl ?_
  intro p e s m args below meth c s₁ B hml hv
  obtain ⟨hargs, hsz, hP, hK, hD0, hE⟩ := hv
  have hx := B.exec
  have hb := B.bytes
  have hr := B.returns
  have hts := atoms_spec (ws := wsX2_take) B.pre
  have hown : s.vm.findClass RX2 = some m.cls := findClass_of_methodNamed B.named
  have hlocks := B.notSynchronized
  subst hsz
  have hD := hD0.self (sz := s.heap.size)
  generalize hAe : va_A [(h_this, .inr (2, [g_this_0, g_this_1, .int f_papers, .ref h_batchOf, .ref h_amounts, .ref h_banks, .ref h_accounts, .ref h_numbers])), (h_p3, .inr (3, [g_p3_0, g_p3_1, g_p3_2, g_p3_3, .ref h_p3_signs, g_p3_5, g_p3_6, g_p3_7])), (h_accounts, .inl (cy, 100, .inl a_accounts)), (h_amounts, .inl (cy, 100, .inl a_amounts)), (h_banks, .inl (cy, 100, .inl a_banks)), (h_batchOf, .inl (cy, 100, .inl a_batchOf)), (h_numbers, .inl (cy, 100, .inl a_numbers)), (h_p3_signs, .inl (cy, 20, .inl a_p3_signs))] s.heap.size = A at hE hD ⊢
  have hA : ∀ q : Nat, s.heap.size ≤ q → A q := fun q h => by rw [← hAe]; exact Or.inr h
  have hS : va_S A s.heap s.heap [] := va_S.rf
  have in_X2 : ∀ w ∈ u_ws RX2 TX2 8, w ∈ wsX2_take := by decide +kernel
  have k_19 := hts (.fieldLink RX2 19 "ChequeDesk$Ledger" "papers" "I") (by decide +kernel)
  have k_22 := hts (.fieldLink RX2 22 "ChequeDesk$Ledger" "batchOf" "[I") (by decide +kernel)
  have k_25 := hts (.fieldLink RX2 25 "ChequeDesk$Ledger" "amounts" "[I") (by decide +kernel)
  have k_28 := hts (.fieldLink RX2 28 "ChequeDesk$Ledger" "banks" "[I") (by decide +kernel)
  have k_31 := hts (.fieldLink RX2 31 "ChequeDesk$Ledger" "accounts" "[I") (by decide +kernel)
  have k_34 := hts (.fieldLink RX2 34 "ChequeDesk$Ledger" "numbers" "[I") (by decide +kernel)
  have hl := lv_entry ([.ref h_this, .int x1, .int x2, .ref h_p3]) (n := 4) (Nat.le_of_ble_eq_true rfl)
  rw [show entryFrame m args 4 = entryFrame m ([.ref h_this, .int x1, .int x2, .ref h_p3] : List Value).toArray 4 by rw [hargs], lg_entry_eq]
  generalize (lg_sl ([.ref h_this, .int x1, .int x2, .ref h_p3]) ++ List.replicate (4 - (lg_sl ([.ref h_this, .int x1, .int x2, .ref h_p3])).length) Slot.unset).toArray = ls at hl ⊢
  have hl : lv_has ls 4 [(0, .ref h_this), (1, .int x1), (2, .int x2), (3, .ref h_p3)] := hl
  have hP : va_P (dC, dI) vwCl [(h_this, .inr (2, [g_this_0, g_this_1, .int f_papers, .ref h_batchOf, .ref h_amounts, .ref h_banks, .ref h_accounts, .ref h_numbers])), (h_p3, .inr (3, [g_p3_0, g_p3_1, g_p3_2, g_p3_3, .ref h_p3_signs, g_p3_5, g_p3_6, g_p3_7])), (h_accounts, .inl (cy, 100, .inl a_accounts)), (h_amounts, .inl (cy, 100, .inl a_amounts)), (h_banks, .inl (cy, 100, .inl a_banks)), (h_batchOf, .inl (cy, 100, .inl a_batchOf)), (h_numbers, .inl (cy, 100, .inl a_numbers)), (h_p3_signs, .inl (cy, 20, .inl a_p3_signs))] s.heap := hP
  change W p l e rm_X2_take s m args below meth c s.heap [] 0 0 _ _
  generalize hQQ : MQ below _ _ _ _ _ _ = QQ
  have RET : ∀ (r : Int32) (f_papers : Int32) (a_accounts : Nat → Int32) (a_amounts : Nat → Int32) (a_banks : Nat → Int32) (a_batchOf : Nat → Int32) (a_numbers : Nat → Int32) (H : Heap) (locs : List Loc) (ls : Array Slot) (pc : Nat), decode cX2_take pc = .ok (.ireturn, 1) → Q r f_papers a_accounts a_amounts a_banks a_batchOf a_numbers → va_P (dC, dI) vwCl [(h_this, .inr (2, [g_this_0, g_this_1, .int f_papers, .ref h_batchOf, .ref h_amounts, .ref h_banks, .ref h_accounts, .ref h_numbers])), (h_p3, .inr (3, [g_p3_0, g_p3_1, g_p3_2, g_p3_3, .ref h_p3_signs, g_p3_5, g_p3_6, g_p3_7])), (h_accounts, .inl (cy, 100, .inl a_accounts)), (h_amounts, .inl (cy, 100, .inl a_amounts)), (h_banks, .inl (cy, 100, .inl a_banks)), (h_batchOf, .inl (cy, 100, .inl a_batchOf)), (h_numbers, .inl (cy, 100, .inl a_numbers)), (h_p3_signs, .inl (cy, 20, .inl a_p3_signs))] H → va_D A [(h_this, .inr (2, [g_this_0, g_this_1, .int f_papers, .ref h_batchOf, .ref h_amounts, .ref h_banks, .ref h_accounts, .ref h_numbers])), (h_p3, .inr (3, [g_p3_0, g_p3_1, g_p3_2, g_p3_3, .ref h_p3_signs, g_p3_5, g_p3_6, g_p3_7])), (h_accounts, .inl (cy, 100, .inl a_accounts)), (h_amounts, .inl (cy, 100, .inl a_amounts)), (h_banks, .inl (cy, 100, .inl a_banks)), (h_batchOf, .inl (cy, 100, .inl a_batchOf)), (h_numbers, .inl (cy, 100, .inl a_numbers)), (h_p3_signs, .inl (cy, 20, .inl a_p3_signs))] → va_S A s.heap H locs → W p l e rm_X2_take s m args below meth c H locs 0 0 QQ (F0 m pc ls [.int r]) := by
    intro r f_papers a_accounts a_amounts a_banks a_batchOf a_numbers H locs ls pc hdg hq hP hD hS
    rw [← hQQ]
    exact W.iret (v := r) hx hb hr (fun t ht hW => ⟨⟨r, (f_papers, a_accounts, a_amounts, a_banks, a_batchOf, a_numbers), rfl, hq, by rw [ht]; exact hP, va_K.moved hW.alike hK, hD⟩, hS.F ht⟩) hS.2.2 hdg
  clear hQQ
  unfold p_X2_take at h
  generalize hlo : ([] : List Loc) = locs at hS ⊢
  obtain ⟨H, hH⟩ : ∃ z, z = s.heap := ⟨_, rfl⟩
  rw [show W p l e rm_X2_take s m args below meth c s.heap = W p l e rm_X2_take s m args below meth c H by rw [hH]]
  replace hP : va_P (dC, dI) vwCl [(h_this, .inr (2, [g_this_0, g_this_1, .int f_papers, .ref h_batchOf, .ref h_amounts, .ref h_banks, .ref h_accounts, .ref h_numbers])), (h_p3, .inr (3, [g_p3_0, g_p3_1, g_p3_2, g_p3_3, .ref h_p3_signs, g_p3_5, g_p3_6, g_p3_7])), (h_accounts, .inl (cy, 100, .inl a_accounts)), (h_amounts, .inl (cy, 100, .inl a_amounts)), (h_banks, .inl (cy, 100, .inl a_banks)), (h_batchOf, .inl (cy, 100, .inl a_batchOf)), (h_numbers, .inl (cy, 100, .inl a_numbers)), (h_p3_signs, .inl (cy, 20, .inl a_p3_signs))] H := by rw [hH]; exact hP
  replace hS : va_S A s.heap H locs := by rw [hH]; exact hS
  clear hH hlo
  refine lv_aload_n hx hb dX2_take_0 rfl (lv_at hl 0 rfl) ?_
  refine va_get (D := (dC, dI)) (ci := 2) (v := .ref h_batchOf) (C := RX2) (T := TX2) (N := 8) hx hb hts in_X2 hown hK hP 0 rfl rfl 3 (by decide) k_22 (fun _ h9 => h9) rfl dX2_take_1 ?_
  refine lv_aload_n hx hb dX2_take_4 rfl (lv_at hl 0 rfl) ?_
  refine va_get (D := (dC, dI)) (ci := 2) (v := .int f_papers) (C := RX2) (T := TX2) (N := 8) hx hb hts in_X2 hown hK hP 0 rfl rfl 2 (by decide) k_19 (fun _ h9 => h9) rfl dX2_take_5 ?_
  refine lv_iload_n hx hb dX2_take_8 rfl (lv_at hl 1 rfl) ?_
  obtain ⟨b9, h⟩ := h
  refine va_iast hx hb hK hP hD hS 5 0 rfl rfl b9 dX2_take_9 (fun H locs hP hD hS => ?_)
  have hP : va_P (dC, dI) vwCl [(h_this, .inr (2, [g_this_0, g_this_1, .int f_papers, .ref h_batchOf, .ref h_amounts, .ref h_banks, .ref h_accounts, .ref h_numbers])), (h_p3, .inr (3, [g_p3_0, g_p3_1, g_p3_2, g_p3_3, .ref h_p3_signs, g_p3_5, g_p3_6, g_p3_7])), (h_accounts, .inl (cy, 100, .inl a_accounts)), (h_amounts, .inl (cy, 100, .inl a_amounts)), (h_banks, .inl (cy, 100, .inl a_banks)), (h_batchOf, .inl (cy, 100, .inl (upd a_batchOf (Int32.toNatClampNeg f_papers) x1))), (h_numbers, .inl (cy, 100, .inl a_numbers)), (h_p3_signs, .inl (cy, 20, .inl a_p3_signs))] H := hP
  have hD : va_D A [(h_this, .inr (2, [g_this_0, g_this_1, .int f_papers, .ref h_batchOf, .ref h_amounts, .ref h_banks, .ref h_accounts, .ref h_numbers])), (h_p3, .inr (3, [g_p3_0, g_p3_1, g_p3_2, g_p3_3, .ref h_p3_signs, g_p3_5, g_p3_6, g_p3_7])), (h_accounts, .inl (cy, 100, .inl a_accounts)), (h_amounts, .inl (cy, 100, .inl a_amounts)), (h_banks, .inl (cy, 100, .inl a_banks)), (h_batchOf, .inl (cy, 100, .inl (upd a_batchOf (Int32.toNatClampNeg f_papers) x1))), (h_numbers, .inl (cy, 100, .inl a_numbers)), (h_p3_signs, .inl (cy, 20, .inl a_p3_signs))] := hD
  refine lv_aload_n hx hb dX2_take_10 rfl (lv_at hl 0 rfl) ?_
  refine va_get (D := (dC, dI)) (ci := 2) (v := .ref h_amounts) (C := RX2) (T := TX2) (N := 8) hx hb hts in_X2 hown hK hP 0 rfl rfl 4 (by decide) k_25 (fun _ h9 => h9) rfl dX2_take_11 ?_
  refine lv_aload_n hx hb dX2_take_14 rfl (lv_at hl 0 rfl) ?_
  refine va_get (D := (dC, dI)) (ci := 2) (v := .int f_papers) (C := RX2) (T := TX2) (N := 8) hx hb hts in_X2 hown hK hP 0 rfl rfl 2 (by decide) k_19 (fun _ h9 => h9) rfl dX2_take_15 ?_
  refine lv_iload_n hx hb dX2_take_18 rfl (lv_at hl 2 rfl) ?_
  obtain ⟨b19, h⟩ := h
  refine va_iast hx hb hK hP hD hS 3 0 rfl rfl b19 dX2_take_19 (fun H locs hP hD hS => ?_)
  have hP : va_P (dC, dI) vwCl [(h_this, .inr (2, [g_this_0, g_this_1, .int f_papers, .ref h_batchOf, .ref h_amounts, .ref h_banks, .ref h_accounts, .ref h_numbers])), (h_p3, .inr (3, [g_p3_0, g_p3_1, g_p3_2, g_p3_3, .ref h_p3_signs, g_p3_5, g_p3_6, g_p3_7])), (h_accounts, .inl (cy, 100, .inl a_accounts)), (h_amounts, .inl (cy, 100, .inl (upd a_amounts (Int32.toNatClampNeg f_papers) x2))), (h_banks, .inl (cy, 100, .inl a_banks)), (h_batchOf, .inl (cy, 100, .inl (upd a_batchOf (Int32.toNatClampNeg f_papers) x1))), (h_numbers, .inl (cy, 100, .inl a_numbers)), (h_p3_signs, .inl (cy, 20, .inl a_p3_signs))] H := hP
  have hD : va_D A [(h_this, .inr (2, [g_this_0, g_this_1, .int f_papers, .ref h_batchOf, .ref h_amounts, .ref h_banks, .ref h_accounts, .ref h_numbers])), (h_p3, .inr (3, [g_p3_0, g_p3_1, g_p3_2, g_p3_3, .ref h_p3_signs, g_p3_5, g_p3_6, g_p3_7])), (h_accounts, .inl (cy, 100, .inl a_accounts)), (h_amounts, .inl (cy, 100, .inl (upd a_amounts (Int32.toNatClampNeg f_papers) x2))), (h_banks, .inl (cy, 100, .inl a_banks)), (h_batchOf, .inl (cy, 100, .inl (upd a_batchOf (Int32.toNatClampNeg f_papers) x1))), (h_numbers, .inl (cy, 100, .inl a_numbers)), (h_p3_signs, .inl (cy, 20, .inl a_p3_signs))] := hD
  refine lv_aload_n hx hb dX2_take_20 rfl (lv_at hl 0 rfl) ?_
  refine va_get (D := (dC, dI)) (ci := 2) (v := .ref h_banks) (C := RX2) (T := TX2) (N := 8) hx hb hts in_X2 hown hK hP 0 rfl rfl 5 (by decide) k_28 (fun _ h9 => h9) rfl dX2_take_21 ?_
  refine lv_aload_n hx hb dX2_take_24 rfl (lv_at hl 0 rfl) ?_
  refine va_get (D := (dC, dI)) (ci := 2) (v := .int f_papers) (C := RX2) (T := TX2) (N := 8) hx hb hts in_X2 hown hK hP 0 rfl rfl 2 (by decide) k_19 (fun _ h9 => h9) rfl dX2_take_25 ?_
  refine lv_aload_n hx hb dX2_take_28 rfl (lv_at hl 3 rfl) ?_
  refine lv_iconst (v := 0) hx hb dX2_take_29 (by decide) ?_
  have hPc := hP.sub (ws' := [(h_p3, .inr (3, [g_p3_0, g_p3_1, g_p3_2, g_p3_3, .ref h_p3_signs, g_p3_5, g_p3_6, g_p3_7])), (h_p3_signs, .inl (cy, 20, .inl a_p3_signs))]) [1, 7] rfl
  have hDc := hD.sub (ws' := [(h_p3, .inr (3, [g_p3_0, g_p3_1, g_p3_2, g_p3_3, .ref h_p3_signs, g_p3_5, g_p3_6, g_p3_7])), (h_p3_signs, .inl (cy, 20, .inl a_p3_signs))]) [1, 7] (by decide) rfl
  have hFc := va_free (wc := [(h_p3, .inr (3, [g_p3_0, g_p3_1, g_p3_2, g_p3_3, .ref h_p3_signs, g_p3_5, g_p3_6, g_p3_7])), (h_p3_signs, .inl (cy, 20, .inl a_p3_signs))]) hD hS hA [1, 7] rfl
  refine va_calli (va_runV (As := [.int 0]) (rest := [.int f_papers, .ref h_banks]) ⟨hx, hb, hml, hown, hts⟩ (c_X3_digitsOf l dC dI cy t_S h_p3 h_p3_signs H.size (g_p3_0) (g_p3_1) (g_p3_2) (g_p3_3) (g_p3_5) (g_p3_6) (g_p3_7) a_p3_signs 0 _ h) (cwV 1 hts gX2_take_X3_digitsOf rfl rfl rfl q_X3_digitsOf ⟨Nat.le_of_ble_eq_true rfl, Nat.le_of_ble_eq_true rfl⟩) ⟨fun a U g mk q => by obtain ⟨q0, q1, qP, qK, qD, qE⟩ := q; exact ⟨q0, q1, qP, va_K.moved (u := U) (U := U.calling g mk a) (Vm.Alike.refl U.vm) qK, qD, ev_calling qE⟩, va_recv hK hP (ci := 3) (q0 := 1) rfl rfl, fun U hU hW => ⟨rfl, by rw [hU], by rw [hU]; exact hPc, va_K.moved hW.alike hK, hDc.weaken (fun _ _ _ _ => trivial), ev_in hE hS hFc hU hW⟩⟩ rfl rfl hl.1 rfl (lv_room (Nat.le_of_ble_eq_true rfl)) dX2_take_30 ⟨Nat.le_of_ble_eq_true rfl, Nat.le_of_ble_eq_true rfl⟩) hS (fun q _ h => hFc q h) hFc (fun r30 u t H1 locs ht hvm hw hB hz1 hk1 hS => ?_)
  obtain ⟨hP1, hK1, hD1⟩ := hB
  rw [ht] at hP1
  obtain ⟨hP, hD⟩ := va_join (wr := [(h_this, .inr (2, [g_this_0, g_this_1, .int f_papers, .ref h_batchOf, .ref h_amounts, .ref h_banks, .ref h_accounts, .ref h_numbers])), (h_accounts, .inl (cy, 100, .inl a_accounts)), (h_amounts, .inl (cy, 100, .inl (upd a_amounts (Int32.toNatClampNeg f_papers) x2))), (h_banks, .inl (cy, 100, .inl a_banks)), (h_batchOf, .inl (cy, 100, .inl (upd a_batchOf (Int32.toNatClampNeg f_papers) x1))), (h_numbers, .inl (cy, 100, .inl a_numbers))]) (w1 := [(h_p3, .inr (3, [g_p3_0, g_p3_1, g_p3_2, g_p3_3, .ref h_p3_signs, g_p3_5, g_p3_6, g_p3_7])), (h_p3_signs, .inl (cy, 20, .inl a_p3_signs))]) hP hD [1, 7] [0, 2, 3, 4, 5, 6] rfl rfl (by decide) (by decide) hk1 hFc hP1 hD1
  replace hP := hP.sub (ws' := [(h_this, .inr (2, [g_this_0, g_this_1, .int f_papers, .ref h_batchOf, .ref h_amounts, .ref h_banks, .ref h_accounts, .ref h_numbers])), (h_p3, .inr (3, [g_p3_0, g_p3_1, g_p3_2, g_p3_3, .ref h_p3_signs, g_p3_5, g_p3_6, g_p3_7])), (h_accounts, .inl (cy, 100, .inl a_accounts)), (h_amounts, .inl (cy, 100, .inl (upd a_amounts (Int32.toNatClampNeg f_papers) x2))), (h_banks, .inl (cy, 100, .inl a_banks)), (h_batchOf, .inl (cy, 100, .inl (upd a_batchOf (Int32.toNatClampNeg f_papers) x1))), (h_numbers, .inl (cy, 100, .inl a_numbers)), (h_p3_signs, .inl (cy, 20, .inl a_p3_signs))]) [0, 6, 1, 2, 3, 4, 5, 7] rfl
  replace hD := hD.sub (ws' := [(h_this, .inr (2, [g_this_0, g_this_1, .int f_papers, .ref h_batchOf, .ref h_amounts, .ref h_banks, .ref h_accounts, .ref h_numbers])), (h_p3, .inr (3, [g_p3_0, g_p3_1, g_p3_2, g_p3_3, .ref h_p3_signs, g_p3_5, g_p3_6, g_p3_7])), (h_accounts, .inl (cy, 100, .inl a_accounts)), (h_amounts, .inl (cy, 100, .inl (upd a_amounts (Int32.toNatClampNeg f_papers) x2))), (h_banks, .inl (cy, 100, .inl a_banks)), (h_batchOf, .inl (cy, 100, .inl (upd a_batchOf (Int32.toNatClampNeg f_papers) x1))), (h_numbers, .inl (cy, 100, .inl a_numbers)), (h_p3_signs, .inl (cy, 20, .inl a_p3_signs))]) [0, 6, 1, 2, 3, 4, 5, 7] (by decide) rfl
  clear hPc hDc hFc hP1 hK1 hD1 hz1 hk1 hvm
  subst ht
  generalize t.heap = H at hP hS ⊢
  replace h := hw
  clear hw
  obtain ⟨b33, h⟩ := h
  refine va_iast hx hb hK hP hD hS 4 0 rfl rfl b33 dX2_take_33 (fun H locs hP hD hS => ?_)
  have hP : va_P (dC, dI) vwCl [(h_this, .inr (2, [g_this_0, g_this_1, .int f_papers, .ref h_batchOf, .ref h_amounts, .ref h_banks, .ref h_accounts, .ref h_numbers])), (h_p3, .inr (3, [g_p3_0, g_p3_1, g_p3_2, g_p3_3, .ref h_p3_signs, g_p3_5, g_p3_6, g_p3_7])), (h_accounts, .inl (cy, 100, .inl a_accounts)), (h_amounts, .inl (cy, 100, .inl (upd a_amounts (Int32.toNatClampNeg f_papers) x2))), (h_banks, .inl (cy, 100, .inl (upd a_banks (Int32.toNatClampNeg f_papers) r30))), (h_batchOf, .inl (cy, 100, .inl (upd a_batchOf (Int32.toNatClampNeg f_papers) x1))), (h_numbers, .inl (cy, 100, .inl a_numbers)), (h_p3_signs, .inl (cy, 20, .inl a_p3_signs))] H := hP
  have hD : va_D A [(h_this, .inr (2, [g_this_0, g_this_1, .int f_papers, .ref h_batchOf, .ref h_amounts, .ref h_banks, .ref h_accounts, .ref h_numbers])), (h_p3, .inr (3, [g_p3_0, g_p3_1, g_p3_2, g_p3_3, .ref h_p3_signs, g_p3_5, g_p3_6, g_p3_7])), (h_accounts, .inl (cy, 100, .inl a_accounts)), (h_amounts, .inl (cy, 100, .inl (upd a_amounts (Int32.toNatClampNeg f_papers) x2))), (h_banks, .inl (cy, 100, .inl (upd a_banks (Int32.toNatClampNeg f_papers) r30))), (h_batchOf, .inl (cy, 100, .inl (upd a_batchOf (Int32.toNatClampNeg f_papers) x1))), (h_numbers, .inl (cy, 100, .inl a_numbers)), (h_p3_signs, .inl (cy, 20, .inl a_p3_signs))] := hD
  refine lv_aload_n hx hb dX2_take_34 rfl (lv_at hl 0 rfl) ?_
  refine va_get (D := (dC, dI)) (ci := 2) (v := .ref h_accounts) (C := RX2) (T := TX2) (N := 8) hx hb hts in_X2 hown hK hP 0 rfl rfl 6 (by decide) k_31 (fun _ h9 => h9) rfl dX2_take_35 ?_
  refine lv_aload_n hx hb dX2_take_38 rfl (lv_at hl 0 rfl) ?_
  refine va_get (D := (dC, dI)) (ci := 2) (v := .int f_papers) (C := RX2) (T := TX2) (N := 8) hx hb hts in_X2 hown hK hP 0 rfl rfl 2 (by decide) k_19 (fun _ h9 => h9) rfl dX2_take_39 ?_
  refine lv_aload_n hx hb dX2_take_42 rfl (lv_at hl 3 rfl) ?_
  refine lv_iconst (v := 1) hx hb dX2_take_43 (by decide) ?_
  have hPc := hP.sub (ws' := [(h_p3, .inr (3, [g_p3_0, g_p3_1, g_p3_2, g_p3_3, .ref h_p3_signs, g_p3_5, g_p3_6, g_p3_7])), (h_p3_signs, .inl (cy, 20, .inl a_p3_signs))]) [1, 7] rfl
  have hDc := hD.sub (ws' := [(h_p3, .inr (3, [g_p3_0, g_p3_1, g_p3_2, g_p3_3, .ref h_p3_signs, g_p3_5, g_p3_6, g_p3_7])), (h_p3_signs, .inl (cy, 20, .inl a_p3_signs))]) [1, 7] (by decide) rfl
  have hFc := va_free (wc := [(h_p3, .inr (3, [g_p3_0, g_p3_1, g_p3_2, g_p3_3, .ref h_p3_signs, g_p3_5, g_p3_6, g_p3_7])), (h_p3_signs, .inl (cy, 20, .inl a_p3_signs))]) hD hS hA [1, 7] rfl
  refine va_calli (va_runV (As := [.int 1]) (rest := [.int f_papers, .ref h_accounts]) ⟨hx, hb, hml, hown, hts⟩ (c_X3_digitsOf l dC dI cy t_S h_p3 h_p3_signs H.size (g_p3_0) (g_p3_1) (g_p3_2) (g_p3_3) (g_p3_5) (g_p3_6) (g_p3_7) a_p3_signs 1 _ h) (cwV 1 hts gX2_take_X3_digitsOf rfl rfl rfl q_X3_digitsOf ⟨Nat.le_of_ble_eq_true rfl, Nat.le_of_ble_eq_true rfl⟩) ⟨fun a U g mk q => by obtain ⟨q0, q1, qP, qK, qD, qE⟩ := q; exact ⟨q0, q1, qP, va_K.moved (u := U) (U := U.calling g mk a) (Vm.Alike.refl U.vm) qK, qD, ev_calling qE⟩, va_recv hK hP (ci := 3) (q0 := 1) rfl rfl, fun U hU hW => ⟨rfl, by rw [hU], by rw [hU]; exact hPc, va_K.moved hW.alike hK, hDc.weaken (fun _ _ _ _ => trivial), ev_in hE hS hFc hU hW⟩⟩ rfl rfl hl.1 rfl (lv_room (Nat.le_of_ble_eq_true rfl)) dX2_take_44 ⟨Nat.le_of_ble_eq_true rfl, Nat.le_of_ble_eq_true rfl⟩) hS (fun q _ h => hFc q h) hFc (fun r44 u t H1 locs ht hvm hw hB hz1 hk1 hS => ?_)
  obtain ⟨hP1, hK1, hD1⟩ := hB
  rw [ht] at hP1
  obtain ⟨hP, hD⟩ := va_join (wr := [(h_this, .inr (2, [g_this_0, g_this_1, .int f_papers, .ref h_batchOf, .ref h_amounts, .ref h_banks, .ref h_accounts, .ref h_numbers])), (h_accounts, .inl (cy, 100, .inl a_accounts)), (h_amounts, .inl (cy, 100, .inl (upd a_amounts (Int32.toNatClampNeg f_papers) x2))), (h_banks, .inl (cy, 100, .inl (upd a_banks (Int32.toNatClampNeg f_papers) r30))), (h_batchOf, .inl (cy, 100, .inl (upd a_batchOf (Int32.toNatClampNeg f_papers) x1))), (h_numbers, .inl (cy, 100, .inl a_numbers))]) (w1 := [(h_p3, .inr (3, [g_p3_0, g_p3_1, g_p3_2, g_p3_3, .ref h_p3_signs, g_p3_5, g_p3_6, g_p3_7])), (h_p3_signs, .inl (cy, 20, .inl a_p3_signs))]) hP hD [1, 7] [0, 2, 3, 4, 5, 6] rfl rfl (by decide) (by decide) hk1 hFc hP1 hD1
  replace hP := hP.sub (ws' := [(h_this, .inr (2, [g_this_0, g_this_1, .int f_papers, .ref h_batchOf, .ref h_amounts, .ref h_banks, .ref h_accounts, .ref h_numbers])), (h_p3, .inr (3, [g_p3_0, g_p3_1, g_p3_2, g_p3_3, .ref h_p3_signs, g_p3_5, g_p3_6, g_p3_7])), (h_accounts, .inl (cy, 100, .inl a_accounts)), (h_amounts, .inl (cy, 100, .inl (upd a_amounts (Int32.toNatClampNeg f_papers) x2))), (h_banks, .inl (cy, 100, .inl (upd a_banks (Int32.toNatClampNeg f_papers) r30))), (h_batchOf, .inl (cy, 100, .inl (upd a_batchOf (Int32.toNatClampNeg f_papers) x1))), (h_numbers, .inl (cy, 100, .inl a_numbers)), (h_p3_signs, .inl (cy, 20, .inl a_p3_signs))]) [0, 6, 1, 2, 3, 4, 5, 7] rfl
  replace hD := hD.sub (ws' := [(h_this, .inr (2, [g_this_0, g_this_1, .int f_papers, .ref h_batchOf, .ref h_amounts, .ref h_banks, .ref h_accounts, .ref h_numbers])), (h_p3, .inr (3, [g_p3_0, g_p3_1, g_p3_2, g_p3_3, .ref h_p3_signs, g_p3_5, g_p3_6, g_p3_7])), (h_accounts, .inl (cy, 100, .inl a_accounts)), (h_amounts, .inl (cy, 100, .inl (upd a_amounts (Int32.toNatClampNeg f_papers) x2))), (h_banks, .inl (cy, 100, .inl (upd a_banks (Int32.toNatClampNeg f_papers) r30))), (h_batchOf, .inl (cy, 100, .inl (upd a_batchOf (Int32.toNatClampNeg f_papers) x1))), (h_numbers, .inl (cy, 100, .inl a_numbers)), (h_p3_signs, .inl (cy, 20, .inl a_p3_signs))]) [0, 6, 1, 2, 3, 4, 5, 7] (by decide) rfl
  clear hPc hDc hFc hP1 hK1 hD1 hz1 hk1 hvm
  subst ht
  generalize t.heap = H at hP hS ⊢
  replace h := hw
  clear hw
  obtain ⟨b47, h⟩ := h
  refine va_iast hx hb hK hP hD hS 2 0 rfl rfl b47 dX2_take_47 (fun H locs hP hD hS => ?_)
  have hP : va_P (dC, dI) vwCl [(h_this, .inr (2, [g_this_0, g_this_1, .int f_papers, .ref h_batchOf, .ref h_amounts, .ref h_banks, .ref h_accounts, .ref h_numbers])), (h_p3, .inr (3, [g_p3_0, g_p3_1, g_p3_2, g_p3_3, .ref h_p3_signs, g_p3_5, g_p3_6, g_p3_7])), (h_accounts, .inl (cy, 100, .inl (upd a_accounts (Int32.toNatClampNeg f_papers) r44))), (h_amounts, .inl (cy, 100, .inl (upd a_amounts (Int32.toNatClampNeg f_papers) x2))), (h_banks, .inl (cy, 100, .inl (upd a_banks (Int32.toNatClampNeg f_papers) r30))), (h_batchOf, .inl (cy, 100, .inl (upd a_batchOf (Int32.toNatClampNeg f_papers) x1))), (h_numbers, .inl (cy, 100, .inl a_numbers)), (h_p3_signs, .inl (cy, 20, .inl a_p3_signs))] H := hP
  have hD : va_D A [(h_this, .inr (2, [g_this_0, g_this_1, .int f_papers, .ref h_batchOf, .ref h_amounts, .ref h_banks, .ref h_accounts, .ref h_numbers])), (h_p3, .inr (3, [g_p3_0, g_p3_1, g_p3_2, g_p3_3, .ref h_p3_signs, g_p3_5, g_p3_6, g_p3_7])), (h_accounts, .inl (cy, 100, .inl (upd a_accounts (Int32.toNatClampNeg f_papers) r44))), (h_amounts, .inl (cy, 100, .inl (upd a_amounts (Int32.toNatClampNeg f_papers) x2))), (h_banks, .inl (cy, 100, .inl (upd a_banks (Int32.toNatClampNeg f_papers) r30))), (h_batchOf, .inl (cy, 100, .inl (upd a_batchOf (Int32.toNatClampNeg f_papers) x1))), (h_numbers, .inl (cy, 100, .inl a_numbers)), (h_p3_signs, .inl (cy, 20, .inl a_p3_signs))] := hD
  refine lv_aload_n hx hb dX2_take_48 rfl (lv_at hl 0 rfl) ?_
  refine va_get (D := (dC, dI)) (ci := 2) (v := .ref h_numbers) (C := RX2) (T := TX2) (N := 8) hx hb hts in_X2 hown hK hP 0 rfl rfl 7 (by decide) k_34 (fun _ h9 => h9) rfl dX2_take_49 ?_
  refine lv_aload_n hx hb dX2_take_52 rfl (lv_at hl 0 rfl) ?_
  refine va_get (D := (dC, dI)) (ci := 2) (v := .int f_papers) (C := RX2) (T := TX2) (N := 8) hx hb hts in_X2 hown hK hP 0 rfl rfl 2 (by decide) k_19 (fun _ h9 => h9) rfl dX2_take_53 ?_
  refine lv_aload_n hx hb dX2_take_56 rfl (lv_at hl 3 rfl) ?_
  refine lv_iconst (v := 2) hx hb dX2_take_57 (by decide) ?_
  have hPc := hP.sub (ws' := [(h_p3, .inr (3, [g_p3_0, g_p3_1, g_p3_2, g_p3_3, .ref h_p3_signs, g_p3_5, g_p3_6, g_p3_7])), (h_p3_signs, .inl (cy, 20, .inl a_p3_signs))]) [1, 7] rfl
  have hDc := hD.sub (ws' := [(h_p3, .inr (3, [g_p3_0, g_p3_1, g_p3_2, g_p3_3, .ref h_p3_signs, g_p3_5, g_p3_6, g_p3_7])), (h_p3_signs, .inl (cy, 20, .inl a_p3_signs))]) [1, 7] (by decide) rfl
  have hFc := va_free (wc := [(h_p3, .inr (3, [g_p3_0, g_p3_1, g_p3_2, g_p3_3, .ref h_p3_signs, g_p3_5, g_p3_6, g_p3_7])), (h_p3_signs, .inl (cy, 20, .inl a_p3_signs))]) hD hS hA [1, 7] rfl
  refine va_calli (va_runV (As := [.int 2]) (rest := [.int f_papers, .ref h_numbers]) ⟨hx, hb, hml, hown, hts⟩ (c_X3_digitsOf l dC dI cy t_S h_p3 h_p3_signs H.size (g_p3_0) (g_p3_1) (g_p3_2) (g_p3_3) (g_p3_5) (g_p3_6) (g_p3_7) a_p3_signs 2 _ h) (cwV 1 hts gX2_take_X3_digitsOf rfl rfl rfl q_X3_digitsOf ⟨Nat.le_of_ble_eq_true rfl, Nat.le_of_ble_eq_true rfl⟩) ⟨fun a U g mk q => by obtain ⟨q0, q1, qP, qK, qD, qE⟩ := q; exact ⟨q0, q1, qP, va_K.moved (u := U) (U := U.calling g mk a) (Vm.Alike.refl U.vm) qK, qD, ev_calling qE⟩, va_recv hK hP (ci := 3) (q0 := 1) rfl rfl, fun U hU hW => ⟨rfl, by rw [hU], by rw [hU]; exact hPc, va_K.moved hW.alike hK, hDc.weaken (fun _ _ _ _ => trivial), ev_in hE hS hFc hU hW⟩⟩ rfl rfl hl.1 rfl (lv_room (Nat.le_of_ble_eq_true rfl)) dX2_take_58 ⟨Nat.le_of_ble_eq_true rfl, Nat.le_of_ble_eq_true rfl⟩) hS (fun q _ h => hFc q h) hFc (fun r58 u t H1 locs ht hvm hw hB hz1 hk1 hS => ?_)
  obtain ⟨hP1, hK1, hD1⟩ := hB
  rw [ht] at hP1
  obtain ⟨hP, hD⟩ := va_join (wr := [(h_this, .inr (2, [g_this_0, g_this_1, .int f_papers, .ref h_batchOf, .ref h_amounts, .ref h_banks, .ref h_accounts, .ref h_numbers])), (h_accounts, .inl (cy, 100, .inl (upd a_accounts (Int32.toNatClampNeg f_papers) r44))), (h_amounts, .inl (cy, 100, .inl (upd a_amounts (Int32.toNatClampNeg f_papers) x2))), (h_banks, .inl (cy, 100, .inl (upd a_banks (Int32.toNatClampNeg f_papers) r30))), (h_batchOf, .inl (cy, 100, .inl (upd a_batchOf (Int32.toNatClampNeg f_papers) x1))), (h_numbers, .inl (cy, 100, .inl a_numbers))]) (w1 := [(h_p3, .inr (3, [g_p3_0, g_p3_1, g_p3_2, g_p3_3, .ref h_p3_signs, g_p3_5, g_p3_6, g_p3_7])), (h_p3_signs, .inl (cy, 20, .inl a_p3_signs))]) hP hD [1, 7] [0, 2, 3, 4, 5, 6] rfl rfl (by decide) (by decide) hk1 hFc hP1 hD1
  replace hP := hP.sub (ws' := [(h_this, .inr (2, [g_this_0, g_this_1, .int f_papers, .ref h_batchOf, .ref h_amounts, .ref h_banks, .ref h_accounts, .ref h_numbers])), (h_p3, .inr (3, [g_p3_0, g_p3_1, g_p3_2, g_p3_3, .ref h_p3_signs, g_p3_5, g_p3_6, g_p3_7])), (h_accounts, .inl (cy, 100, .inl (upd a_accounts (Int32.toNatClampNeg f_papers) r44))), (h_amounts, .inl (cy, 100, .inl (upd a_amounts (Int32.toNatClampNeg f_papers) x2))), (h_banks, .inl (cy, 100, .inl (upd a_banks (Int32.toNatClampNeg f_papers) r30))), (h_batchOf, .inl (cy, 100, .inl (upd a_batchOf (Int32.toNatClampNeg f_papers) x1))), (h_numbers, .inl (cy, 100, .inl a_numbers)), (h_p3_signs, .inl (cy, 20, .inl a_p3_signs))]) [0, 6, 1, 2, 3, 4, 5, 7] rfl
  replace hD := hD.sub (ws' := [(h_this, .inr (2, [g_this_0, g_this_1, .int f_papers, .ref h_batchOf, .ref h_amounts, .ref h_banks, .ref h_accounts, .ref h_numbers])), (h_p3, .inr (3, [g_p3_0, g_p3_1, g_p3_2, g_p3_3, .ref h_p3_signs, g_p3_5, g_p3_6, g_p3_7])), (h_accounts, .inl (cy, 100, .inl (upd a_accounts (Int32.toNatClampNeg f_papers) r44))), (h_amounts, .inl (cy, 100, .inl (upd a_amounts (Int32.toNatClampNeg f_papers) x2))), (h_banks, .inl (cy, 100, .inl (upd a_banks (Int32.toNatClampNeg f_papers) r30))), (h_batchOf, .inl (cy, 100, .inl (upd a_batchOf (Int32.toNatClampNeg f_papers) x1))), (h_numbers, .inl (cy, 100, .inl a_numbers)), (h_p3_signs, .inl (cy, 20, .inl a_p3_signs))]) [0, 6, 1, 2, 3, 4, 5, 7] (by decide) rfl
  clear hPc hDc hFc hP1 hK1 hD1 hz1 hk1 hvm
  subst ht
  generalize t.heap = H at hP hS ⊢
  replace h := hw
  clear hw
  obtain ⟨b61, h⟩ := h
  refine va_iast hx hb hK hP hD hS 6 0 rfl rfl b61 dX2_take_61 (fun H locs hP hD hS => ?_)
  have hP : va_P (dC, dI) vwCl [(h_this, .inr (2, [g_this_0, g_this_1, .int f_papers, .ref h_batchOf, .ref h_amounts, .ref h_banks, .ref h_accounts, .ref h_numbers])), (h_p3, .inr (3, [g_p3_0, g_p3_1, g_p3_2, g_p3_3, .ref h_p3_signs, g_p3_5, g_p3_6, g_p3_7])), (h_accounts, .inl (cy, 100, .inl (upd a_accounts (Int32.toNatClampNeg f_papers) r44))), (h_amounts, .inl (cy, 100, .inl (upd a_amounts (Int32.toNatClampNeg f_papers) x2))), (h_banks, .inl (cy, 100, .inl (upd a_banks (Int32.toNatClampNeg f_papers) r30))), (h_batchOf, .inl (cy, 100, .inl (upd a_batchOf (Int32.toNatClampNeg f_papers) x1))), (h_numbers, .inl (cy, 100, .inl (upd a_numbers (Int32.toNatClampNeg f_papers) r58))), (h_p3_signs, .inl (cy, 20, .inl a_p3_signs))] H := hP
  have hD : va_D A [(h_this, .inr (2, [g_this_0, g_this_1, .int f_papers, .ref h_batchOf, .ref h_amounts, .ref h_banks, .ref h_accounts, .ref h_numbers])), (h_p3, .inr (3, [g_p3_0, g_p3_1, g_p3_2, g_p3_3, .ref h_p3_signs, g_p3_5, g_p3_6, g_p3_7])), (h_accounts, .inl (cy, 100, .inl (upd a_accounts (Int32.toNatClampNeg f_papers) r44))), (h_amounts, .inl (cy, 100, .inl (upd a_amounts (Int32.toNatClampNeg f_papers) x2))), (h_banks, .inl (cy, 100, .inl (upd a_banks (Int32.toNatClampNeg f_papers) r30))), (h_batchOf, .inl (cy, 100, .inl (upd a_batchOf (Int32.toNatClampNeg f_papers) x1))), (h_numbers, .inl (cy, 100, .inl (upd a_numbers (Int32.toNatClampNeg f_papers) r58))), (h_p3_signs, .inl (cy, 20, .inl a_p3_signs))] := hD
  refine lv_aload_n hx hb dX2_take_62 rfl (lv_at hl 0 rfl) ?_
  refine lv_dup hx hb dX2_take_63 rfl ?_
  refine va_get (D := (dC, dI)) (ci := 2) (v := .int f_papers) (C := RX2) (T := TX2) (N := 8) hx hb hts in_X2 hown hK hP 0 rfl rfl 2 (by decide) k_19 (fun _ h9 => h9) rfl dX2_take_64 ?_
  refine lv_iconst (v := 1) hx hb dX2_take_67 (by decide) ?_
  refine lv_iadd hx hb dX2_take_68 ?_
  refine va_put (D := (dC, dI)) (ci := 2) (v := .int (f_papers + 1)) (ty := .int) (C := RX2) (T := TX2) (N := 8) hx hb hts in_X2 tyX2 tyX2_ok nmX2 hown hK hP hD hS 0 rfl rfl 2 (by decide) k_19 (fun _ h9 => h9) rfl (by decide +kernel) rfl rfl (Nat.le_of_ble_eq_true rfl) dX2_take_69 (fun H locs hP hD hS => ?_)
  have hP : va_P (dC, dI) vwCl [(h_this, .inr (2, [g_this_0, g_this_1, .int (f_papers + 1), .ref h_batchOf, .ref h_amounts, .ref h_banks, .ref h_accounts, .ref h_numbers])), (h_p3, .inr (3, [g_p3_0, g_p3_1, g_p3_2, g_p3_3, .ref h_p3_signs, g_p3_5, g_p3_6, g_p3_7])), (h_accounts, .inl (cy, 100, .inl (upd a_accounts (Int32.toNatClampNeg f_papers) r44))), (h_amounts, .inl (cy, 100, .inl (upd a_amounts (Int32.toNatClampNeg f_papers) x2))), (h_banks, .inl (cy, 100, .inl (upd a_banks (Int32.toNatClampNeg f_papers) r30))), (h_batchOf, .inl (cy, 100, .inl (upd a_batchOf (Int32.toNatClampNeg f_papers) x1))), (h_numbers, .inl (cy, 100, .inl (upd a_numbers (Int32.toNatClampNeg f_papers) r58))), (h_p3_signs, .inl (cy, 20, .inl a_p3_signs))] H := hP
  have hD : va_D A [(h_this, .inr (2, [g_this_0, g_this_1, .int (f_papers + 1), .ref h_batchOf, .ref h_amounts, .ref h_banks, .ref h_accounts, .ref h_numbers])), (h_p3, .inr (3, [g_p3_0, g_p3_1, g_p3_2, g_p3_3, .ref h_p3_signs, g_p3_5, g_p3_6, g_p3_7])), (h_accounts, .inl (cy, 100, .inl (upd a_accounts (Int32.toNatClampNeg f_papers) r44))), (h_amounts, .inl (cy, 100, .inl (upd a_amounts (Int32.toNatClampNeg f_papers) x2))), (h_banks, .inl (cy, 100, .inl (upd a_banks (Int32.toNatClampNeg f_papers) r30))), (h_batchOf, .inl (cy, 100, .inl (upd a_batchOf (Int32.toNatClampNeg f_papers) x1))), (h_numbers, .inl (cy, 100, .inl (upd a_numbers (Int32.toNatClampNeg f_papers) r58))), (h_p3_signs, .inl (cy, 20, .inl a_p3_signs))] := hD
  refine lv_aload_n hx hb dX2_take_72 rfl (lv_at hl 0 rfl) ?_
  refine va_get (D := (dC, dI)) (ci := 2) (v := .int (f_papers + 1)) (C := RX2) (T := TX2) (N := 8) hx hb hts in_X2 hown hK hP 0 rfl rfl 2 (by decide) k_19 (fun _ h9 => h9) rfl dX2_take_73 ?_
  refine lv_iconst (v := 1) hx hb dX2_take_76 (by decide) ?_
  refine lv_isub hx hb dX2_take_77 ?_
  exact RET ((f_papers + 1) - 1) (f_papers + 1) (upd a_accounts (Int32.toNatClampNeg f_papers) r44) (upd a_amounts (Int32.toNatClampNeg f_papers) x2) (upd a_banks (Int32.toNatClampNeg f_papers) r30) (upd a_batchOf (Int32.toNatClampNeg f_papers) x1) (upd a_numbers (Int32.toNatClampNeg f_papers) r58) H locs ls 78 dX2_take_78 h hP hD hS
abbrev rm_X2_findTwin : Room := { frames := 1, cells := 0, slots := 0, locals := 24 }
theorem q_X2_findTwin : yX2_findTwin.cls = RX2 ∧ yX2_findTwin.cls ≠ "java/lang/invoke/MethodHandle" ∧ yX2_findTwin.cls ≠ "java/lang/invoke/VarHandle" ∧ (parseMethodDescriptor yX2_findTwin.desc).map (fun d => d.parameters.length) = some 1 := by decide +kernel
set_option maxHeartbeats 4000000 in
set_option maxRecDepth 100000 in
theorem c_X2_findTwin (l : Launch) (dC : Nat → ClassId) (dI : Nat → Nat → Nat) (cy : ClassId) (t_S : Nat → Nat) (h_this : Nat) (h_p1 : Nat) (h_accounts : Nat) (h_banks : Nat) (h_numbers : Nat) (h_p1_signs : Nat) (sz : Nat) (g_this_0 g_this_1 g_this_3 g_this_4 g_p1_0 g_p1_1 g_p1_2 g_p1_3 g_p1_5 g_p1_6 g_p1_7 : Value) (f_papers : Int32) (a_accounts : Nat → Int32) (a_banks : Nat → Int32) (a_numbers : Nat → Int32) (a_p1_signs : Nat → Int32) (Q : Int32 → Prop) (h : p_X2_findTwin f_papers a_accounts a_banks a_numbers a_p1_signs Q) : Met l yX2_findTwin wsX2_findTwin rm_X2_findTwin (va_Pc [.ref h_this, .ref h_p1] (fun U => U.heap.size = sz ∧ va_P (dC, dI) vwCl [(h_this, .inr (2, [g_this_0, g_this_1, .int f_papers, g_this_3, g_this_4, .ref h_banks, .ref h_accounts, .ref h_numbers])), (h_p1, .inr (3, [g_p1_0, g_p1_1, g_p1_2, g_p1_3, .ref h_p1_signs, g_p1_5, g_p1_6, g_p1_7])), (h_accounts, .inl (cy, 100, .inl a_accounts)), (h_banks, .inl (cy, 100, .inl a_banks)), (h_numbers, .inl (cy, 100, .inl a_numbers)), (h_p1_signs, .inl (cy, 20, .inl a_p1_signs))] U.heap ∧ va_K (dC, dI) vwCl [(cy, .int)] U ∧ va_D (fun _ => True) [(h_this, .inr (2, [g_this_0, g_this_1, .int f_papers, g_this_3, g_this_4, .ref h_banks, .ref h_accounts, .ref h_numbers])), (h_p1, .inr (3, [g_p1_0, g_p1_1, g_p1_2, g_p1_3, .ref h_p1_signs, g_p1_5, g_p1_6, g_p1_7])), (h_accounts, .inl (cy, 100, .inl a_accounts)), (h_banks, .inl (cy, 100, .inl a_banks)), (h_numbers, .inl (cy, 100, .inl a_numbers)), (h_p1_signs, .inl (cy, 20, .inl a_p1_signs))] ∧ ev_S t_S (va_A [(h_this, .inr (2, [g_this_0, g_this_1, .int f_papers, g_this_3, g_this_4, .ref h_banks, .ref h_accounts, .ref h_numbers])), (h_p1, .inr (3, [g_p1_0, g_p1_1, g_p1_2, g_p1_3, .ref h_p1_signs, g_p1_5, g_p1_6, g_p1_7])), (h_accounts, .inl (cy, 100, .inl a_accounts)), (h_banks, .inl (cy, 100, .inl a_banks)), (h_numbers, .inl (cy, 100, .inl a_numbers)), (h_p1_signs, .inl (cy, 20, .inl a_p1_signs))] sz) U)) (va_Qi (fun (r : Int32) (u : Unit) => Q r) (fun (u : Unit) (t : State) => va_P (dC, dI) vwCl [(h_this, .inr (2, [g_this_0, g_this_1, .int f_papers, g_this_3, g_this_4, .ref h_banks, .ref h_accounts, .ref h_numbers])), (h_p1, .inr (3, [g_p1_0, g_p1_1, g_p1_2, g_p1_3, .ref h_p1_signs, g_p1_5, g_p1_6, g_p1_7])), (h_accounts, .inl (cy, 100, .inl a_accounts)), (h_banks, .inl (cy, 100, .inl a_banks)), (h_numbers, .inl (cy, 100, .inl a_numbers)), (h_p1_signs, .inl (cy, 20, .inl a_p1_signs))] t.heap ∧ va_K (dC, dI) vwCl [(cy, .int)] t ∧ va_D (va_A [(h_this, .inr (2, [g_this_0, g_this_1, .int f_papers, g_this_3, g_this_4, .ref h_banks, .ref h_accounts, .ref h_numbers])), (h_p1, .inr (3, [g_p1_0, g_p1_1, g_p1_2, g_p1_3, .ref h_p1_signs, g_p1_5, g_p1_6, g_p1_7])), (h_accounts, .inl (cy, 100, .inl a_accounts)), (h_banks, .inl (cy, 100, .inl a_banks)), (h_numbers, .inl (cy, 100, .inl a_numbers)), (h_p1_signs, .inl (cy, 20, .inl a_p1_signs))] sz) [(h_this, .inr (2, [g_this_0, g_this_1, .int f_papers, g_this_3, g_this_4, .ref h_banks, .ref h_accounts, .ref h_numbers])), (h_p1, .inr (3, [g_p1_0, g_p1_1, g_p1_2, g_p1_3, .ref h_p1_signs, g_p1_5, g_p1_6, g_p1_7])), (h_accounts, .inl (cy, 100, .inl a_accounts)), (h_banks, .inl (cy, 100, .inl a_banks)), (h_numbers, .inl (cy, 100, .inl a_numbers)), (h_p1_signs, .inl (cy, 20, .inl a_p1_signs))]) (va_A [(h_this, .inr (2, [g_this_0, g_this_1, .int f_papers, g_this_3, g_this_4, .ref h_banks, .ref h_accounts, .ref h_numbers])), (h_p1, .inr (3, [g_p1_0, g_p1_1, g_p1_2, g_p1_3, .ref h_p1_signs, g_p1_5, g_p1_6, g_p1_7])), (h_accounts, .inl (cy, 100, .inl a_accounts)), (h_banks, .inl (cy, 100, .inl a_banks)), (h_numbers, .inl (cy, 100, .inl a_numbers)), (h_p1_signs, .inl (cy, 20, .inl a_p1_signs))] sz)) 0 0 (va_A [(h_this, .inr (2, [g_this_0, g_this_1, .int f_papers, g_this_3, g_this_4, .ref h_banks, .ref h_accounts, .ref h_numbers])), (h_p1, .inr (3, [g_p1_0, g_p1_1, g_p1_2, g_p1_3, .ref h_p1_signs, g_p1_5, g_p1_6, g_p1_7])), (h_accounts, .inl (cy, 100, .inl a_accounts)), (h_banks, .inl (cy, 100, .inl a_banks)), (h_numbers, .inl (cy, 100, .inl a_numbers)), (h_p1_signs, .inl (cy, 20, .inl a_p1_signs))] sz) := by
  refine Met.ofW (cc := cX2_findTwin) (maxL := 6) (ret := (some .int)) (by decide) rfl ?_
  intro p e s m args below meth c s₁ B hml hv
  obtain ⟨hargs, hsz, hP, hK, hD0, hE⟩ := hv
  have hx := B.exec
  have hb := B.bytes
  have hr := B.returns
  have hts := atoms_spec (ws := wsX2_findTwin) B.pre
  have hown : s.vm.findClass RX2 = some m.cls := findClass_of_methodNamed B.named
  have hlocks := B.notSynchronized
  subst hsz
  have hD := hD0.self (sz := s.heap.size)
  generalize hAe : va_A [(h_this, .inr (2, [g_this_0, g_this_1, .int f_papers, g_this_3, g_this_4, .ref h_banks, .ref h_accounts, .ref h_numbers])), (h_p1, .inr (3, [g_p1_0, g_p1_1, g_p1_2, g_p1_3, .ref h_p1_signs, g_p1_5, g_p1_6, g_p1_7])), (h_accounts, .inl (cy, 100, .inl a_accounts)), (h_banks, .inl (cy, 100, .inl a_banks)), (h_numbers, .inl (cy, 100, .inl a_numbers)), (h_p1_signs, .inl (cy, 20, .inl a_p1_signs))] s.heap.size = A at hE hD ⊢
  have hA : ∀ q : Nat, s.heap.size ≤ q → A q := fun q h => by rw [← hAe]; exact Or.inr h
  have hS : va_S A s.heap s.heap [] := va_S.rf
  have in_X2 : ∀ w ∈ u_ws RX2 TX2 8, w ∈ wsX2_findTwin := by decide +kernel
  have k_19 := hts (.fieldLink RX2 19 "ChequeDesk$Ledger" "papers" "I") (by decide +kernel)
  have k_28 := hts (.fieldLink RX2 28 "ChequeDesk$Ledger" "banks" "[I") (by decide +kernel)
  have k_31 := hts (.fieldLink RX2 31 "ChequeDesk$Ledger" "accounts" "[I") (by decide +kernel)
  have k_34 := hts (.fieldLink RX2 34 "ChequeDesk$Ledger" "numbers" "[I") (by decide +kernel)
  have hl := lv_entry ([.ref h_this, .ref h_p1]) (n := 6) (Nat.le_of_ble_eq_true rfl)
  rw [show entryFrame m args 6 = entryFrame m ([.ref h_this, .ref h_p1] : List Value).toArray 6 by rw [hargs], lg_entry_eq]
  generalize (lg_sl ([.ref h_this, .ref h_p1]) ++ List.replicate (6 - (lg_sl ([.ref h_this, .ref h_p1])).length) Slot.unset).toArray = ls at hl ⊢
  have hl : lv_has ls 6 [(0, .ref h_this), (1, .ref h_p1)] := hl
  have hP : va_P (dC, dI) vwCl [(h_this, .inr (2, [g_this_0, g_this_1, .int f_papers, g_this_3, g_this_4, .ref h_banks, .ref h_accounts, .ref h_numbers])), (h_p1, .inr (3, [g_p1_0, g_p1_1, g_p1_2, g_p1_3, .ref h_p1_signs, g_p1_5, g_p1_6, g_p1_7])), (h_accounts, .inl (cy, 100, .inl a_accounts)), (h_banks, .inl (cy, 100, .inl a_banks)), (h_numbers, .inl (cy, 100, .inl a_numbers)), (h_p1_signs, .inl (cy, 20, .inl a_p1_signs))] s.heap := hP
  change W p l e rm_X2_findTwin s m args below meth c s.heap [] 0 0 _ _
  generalize hQQ : MQ below _ _ _ _ _ _ = QQ
  have RET : ∀ (r : Int32) (H : Heap) (locs : List Loc) (ls : Array Slot) (pc : Nat), decode cX2_findTwin pc = .ok (.ireturn, 1) → Q r → va_P (dC, dI) vwCl [(h_this, .inr (2, [g_this_0, g_this_1, .int f_papers, g_this_3, g_this_4, .ref h_banks, .ref h_accounts, .ref h_numbers])), (h_p1, .inr (3, [g_p1_0, g_p1_1, g_p1_2, g_p1_3, .ref h_p1_signs, g_p1_5, g_p1_6, g_p1_7])), (h_accounts, .inl (cy, 100, .inl a_accounts)), (h_banks, .inl (cy, 100, .inl a_banks)), (h_numbers, .inl (cy, 100, .inl a_numbers)), (h_p1_signs, .inl (cy, 20, .inl a_p1_signs))] H → va_D A [(h_this, .inr (2, [g_this_0, g_this_1, .int f_papers, g_this_3, g_this_4, .ref h_banks, .ref h_accounts, .ref h_numbers])), (h_p1, .inr (3, [g_p1_0, g_p1_1, g_p1_2, g_p1_3, .ref h_p1_signs, g_p1_5, g_p1_6, g_p1_7])), (h_accounts, .inl (cy, 100, .inl a_accounts)), (h_banks, .inl (cy, 100, .inl a_banks)), (h_numbers, .inl (cy, 100, .inl a_numbers)), (h_p1_signs, .inl (cy, 20, .inl a_p1_signs))] → va_S A s.heap H locs → W p l e rm_X2_findTwin s m args below meth c H locs 0 0 QQ (F0 m pc ls [.int r]) := by
    intro r  H locs ls pc hdg hq hP hD hS
    rw [← hQQ]
    exact W.iret (v := r) hx hb hr (fun t ht hW => ⟨⟨r, (), rfl, hq, by rw [ht]; exact hP, va_K.moved hW.alike hK, hD⟩, hS.F ht⟩) hS.2.2 hdg
  clear hQQ
  unfold p_X2_findTwin at h
  have L22 : ∀ (x2 : Int32) (x3 : Int32) (x4 : Int32) (K22 : Int32 → Prop) (n : Nat) (x5 : Int32) (H : Heap) (locs : List Loc) (ls : Array Slot), wl1 (p_X2_findTwin_B22 f_papers a_accounts a_banks a_numbers x2 x3 x4 Q K22) n x5 → va_P (dC, dI) vwCl [(h_this, .inr (2, [g_this_0, g_this_1, .int f_papers, g_this_3, g_this_4, .ref h_banks, .ref h_accounts, .ref h_numbers])), (h_p1, .inr (3, [g_p1_0, g_p1_1, g_p1_2, g_p1_3, .ref h_p1_signs, g_p1_5, g_p1_6, g_p1_7])), (h_accounts, .inl (cy, 100, .inl a_accounts)), (h_banks, .inl (cy, 100, .inl a_banks)), (h_numbers, .inl (cy, 100, .inl a_numbers)), (h_p1_signs, .inl (cy, 20, .inl a_p1_signs))] H → va_D A [(h_this, .inr (2, [g_this_0, g_this_1, .int f_papers, g_this_3, g_this_4, .ref h_banks, .ref h_accounts, .ref h_numbers])), (h_p1, .inr (3, [g_p1_0, g_p1_1, g_p1_2, g_p1_3, .ref h_p1_signs, g_p1_5, g_p1_6, g_p1_7])), (h_accounts, .inl (cy, 100, .inl a_accounts)), (h_banks, .inl (cy, 100, .inl a_banks)), (h_numbers, .inl (cy, 100, .inl a_numbers)), (h_p1_signs, .inl (cy, 20, .inl a_p1_signs))] → va_S A s.heap H locs → lv_has ls 6 [(0, .ref h_this), (2, .int x2), (3, .int x3), (4, .int x4), (5, .int x5)] → (∀ (x5 : Int32) (H : Heap) (locs : List Loc) (ls : Array Slot), K22 x5 → va_P (dC, dI) vwCl [(h_this, .inr (2, [g_this_0, g_this_1, .int f_papers, g_this_3, g_this_4, .ref h_banks, .ref h_accounts, .ref h_numbers])), (h_p1, .inr (3, [g_p1_0, g_p1_1, g_p1_2, g_p1_3, .ref h_p1_signs, g_p1_5, g_p1_6, g_p1_7])), (h_accounts, .inl (cy, 100, .inl a_accounts)), (h_banks, .inl (cy, 100, .inl a_banks)), (h_numbers, .inl (cy, 100, .inl a_numbers)), (h_p1_signs, .inl (cy, 20, .inl a_p1_signs))] H → va_D A [(h_this, .inr (2, [g_this_0, g_this_1, .int f_papers, g_this_3, g_this_4, .ref h_banks, .ref h_accounts, .ref h_numbers])), (h_p1, .inr (3, [g_p1_0, g_p1_1, g_p1_2, g_p1_3, .ref h_p1_signs, g_p1_5, g_p1_6, g_p1_7])), (h_accounts, .inl (cy, 100, .inl a_accounts)), (h_banks, .inl (cy, 100, .inl a_banks)), (h_numbers, .inl (cy, 100, .inl a_numbers)), (h_p1_signs, .inl (cy, 20, .inl a_p1_signs))] → va_S A s.heap H locs → lv_has ls 6 [] → W p l e rm_X2_findTwin s m args below meth c H locs 0 0 QQ (F0 m 74 ls [])) → W p l e rm_X2_findTwin s m args below meth c H locs 0 0 QQ (F0 m 22 ls []) := by
    intro x2 x3 x4 K22 n
    induction n with
    | zero => intro x5 H locs ls h; exact False.elim h
    | succ n ih =>
      intro x5 H locs ls h hP hD hS hl hk
      have ih := fun x5 H locs ls h hP hD hS hl => ih x5 H locs ls h hP hD hS hl hk
      replace h : p_X2_findTwin_B22 f_papers a_accounts a_banks a_numbers x2 x3 x4 Q K22 (wl1 (p_X2_findTwin_B22 f_papers a_accounts a_banks a_numbers x2 x3 x4 Q K22) n) x5 := h
      unfold p_X2_findTwin_B22 at h
      have J68 : ∀ (x5 : Int32) (H : Heap) (locs : List Loc) (ls : Array Slot), p_X2_findTwin_J68 (wl1 (p_X2_findTwin_B22 f_papers a_accounts a_banks a_numbers x2 x3 x4 Q K22) n) x5 → va_P (dC, dI) vwCl [(h_this, .inr (2, [g_this_0, g_this_1, .int f_papers, g_this_3, g_this_4, .ref h_banks, .ref h_accounts, .ref h_numbers])), (h_p1, .inr (3, [g_p1_0, g_p1_1, g_p1_2, g_p1_3, .ref h_p1_signs, g_p1_5, g_p1_6, g_p1_7])), (h_accounts, .inl (cy, 100, .inl a_accounts)), (h_banks, .inl (cy, 100, .inl a_banks)), (h_numbers, .inl (cy, 100, .inl a_numbers)), (h_p1_signs, .inl (cy, 20, .inl a_p1_signs))] H → va_D A [(h_this, .inr (2, [g_this_0, g_this_1, .int f_papers, g_this_3, g_this_4, .ref h_banks, .ref h_accounts, .ref h_numbers])), (h_p1, .inr (3, [g_p1_0, g_p1_1, g_p1_2, g_p1_3, .ref h_p1_signs, g_p1_5, g_p1_6, g_p1_7])), (h_accounts, .inl (cy, 100, .inl a_accounts)), (h_banks, .inl (cy, 100, .inl a_banks)), (h_numbers, .inl (cy, 100, .inl a_numbers)), (h_p1_signs, .inl (cy, 20, .inl a_p1_signs))] → va_S A s.heap H locs → lv_has ls 6 [(0, .ref h_this), (2, .int x2), (3, .int x3), (4, .int x4), (5, .int x5)] → W p l e rm_X2_findTwin s m args below meth c H locs 0 0 QQ (F0 m 68 ls []) := by
        intro x5 H locs ls h hP hD hS hl
        unfold p_X2_findTwin_J68 at h
        refine lv_iinc (v := x5 + 1) (lv' := [(5, .int (x5 + 1)), (0, .ref h_this), (2, .int x2), (3, .int x3), (4, .int x4)]) hx hb dX2_findTwin_68 hl (k := 4) rfl (by rfl) (by decide) rfl (fun ls hl => ?_)
        refine lv_goto (tgt := 22) hx hb dX2_findTwin_71 (by decide) ?_
        exact ih (x5 + 1) H locs ls h hP hD hS (lv_sub hl [1, 2, 3, 4, 0] rfl)
      refine lv_iload hx hb dX2_findTwin_22 (lv_at hl 4 rfl) ?_
      refine lv_aload_n hx hb dX2_findTwin_24 rfl (lv_at hl 0 rfl) ?_
      refine va_get (D := (dC, dI)) (ci := 2) (v := .int f_papers) (C := RX2) (T := TX2) (N := 8) hx hb hts in_X2 hown hK hP 0 rfl rfl 2 (by decide) k_19 (fun _ h9 => h9) rfl dX2_findTwin_25 ?_
      refine lv_icmp_ge (tgt := 74) hx hb dX2_findTwin_28 (by decide) (fun c28 => ?_) (fun c28 => ?_)
      · replace h := And.left h c28
        exact hk x5 H locs ls h hP hD hS (lv_sub hl [] rfl)
      · replace h := And.right h c28
        refine lv_aload_n hx hb dX2_findTwin_31 rfl (lv_at hl 0 rfl) ?_
        refine va_get (D := (dC, dI)) (ci := 2) (v := .ref h_banks) (C := RX2) (T := TX2) (N := 8) hx hb hts in_X2 hown hK hP 0 rfl rfl 5 (by decide) k_28 (fun _ h9 => h9) rfl dX2_findTwin_32 ?_
        refine lv_iload hx hb dX2_findTwin_35 (lv_at hl 4 rfl) ?_
        obtain ⟨b37, h⟩ := h
        refine va_iald hx hb hK hP 3 0 rfl rfl b37 dX2_findTwin_37 ?_
        refine lv_iload_n hx hb dX2_findTwin_38 rfl (lv_at hl 1 rfl) ?_
        refine lv_icmp_ne (tgt := 68) hx hb dX2_findTwin_39 (by decide) (fun c39 => ?_) (fun c39 => ?_)
        · replace h := And.left h c39
          exact J68 x5 H locs ls h hP hD hS (lv_sub hl [0, 1, 2, 3, 4] rfl)
        · replace h := And.right h c39
          refine lv_aload_n hx hb dX2_findTwin_42 rfl (lv_at hl 0 rfl) ?_
          refine va_get (D := (dC, dI)) (ci := 2) (v := .ref h_accounts) (C := RX2) (T := TX2) (N := 8) hx hb hts in_X2 hown hK hP 0 rfl rfl 6 (by decide) k_31 (fun _ h9 => h9) rfl dX2_findTwin_43 ?_
          refine lv_iload hx hb dX2_findTwin_46 (lv_at hl 4 rfl) ?_
          obtain ⟨b48, h⟩ := h
          refine va_iald hx hb hK hP 2 0 rfl rfl b48 dX2_findTwin_48 ?_
          refine lv_iload_n hx hb dX2_findTwin_49 rfl (lv_at hl 2 rfl) ?_
          refine lv_icmp_ne (tgt := 68) hx hb dX2_findTwin_50 (by decide) (fun c50 => ?_) (fun c50 => ?_)
          · replace h := And.left h c50
            exact J68 x5 H locs ls h hP hD hS (lv_sub hl [0, 1, 2, 3, 4] rfl)
          · replace h := And.right h c50
            refine lv_aload_n hx hb dX2_findTwin_53 rfl (lv_at hl 0 rfl) ?_
            refine va_get (D := (dC, dI)) (ci := 2) (v := .ref h_numbers) (C := RX2) (T := TX2) (N := 8) hx hb hts in_X2 hown hK hP 0 rfl rfl 7 (by decide) k_34 (fun _ h9 => h9) rfl dX2_findTwin_54 ?_
            refine lv_iload hx hb dX2_findTwin_57 (lv_at hl 4 rfl) ?_
            obtain ⟨b59, h⟩ := h
            refine va_iald hx hb hK hP 4 0 rfl rfl b59 dX2_findTwin_59 ?_
            refine lv_iload hx hb dX2_findTwin_60 (lv_at hl 3 rfl) ?_
            refine lv_icmp_ne (tgt := 68) hx hb dX2_findTwin_62 (by decide) (fun c62 => ?_) (fun c62 => ?_)
            · replace h := And.left h c62
              exact J68 x5 H locs ls h hP hD hS (lv_sub hl [0, 1, 2, 3, 4] rfl)
            · replace h := And.right h c62
              refine lv_iload hx hb dX2_findTwin_65 (lv_at hl 4 rfl) ?_
              exact RET x5 H locs ls 67 dX2_findTwin_67 h hP hD hS
  generalize hlo : ([] : List Loc) = locs at hS ⊢
  obtain ⟨H, hH⟩ : ∃ z, z = s.heap := ⟨_, rfl⟩
  rw [show W p l e rm_X2_findTwin s m args below meth c s.heap = W p l e rm_X2_findTwin s m args below meth c H by rw [hH]]
  replace hP : va_P (dC, dI) vwCl [(h_this, .inr (2, [g_this_0, g_this_1, .int f_papers, g_this_3, g_this_4, .ref h_banks, .ref h_accounts, .ref h_numbers])), (h_p1, .inr (3, [g_p1_0, g_p1_1, g_p1_2, g_p1_3, .ref h_p1_signs, g_p1_5, g_p1_6, g_p1_7])), (h_accounts, .inl (cy, 100, .inl a_accounts)), (h_banks, .inl (cy, 100, .inl a_banks)), (h_numbers, .inl (cy, 100, .inl a_numbers)), (h_p1_signs, .inl (cy, 20, .inl a_p1_signs))] H := by rw [hH]; exact hP
  replace hS : va_S A s.heap H locs := by rw [hH]; exact hS
  clear hH hlo
  refine lv_aload_n hx hb dX2_findTwin_0 rfl (lv_at hl 1 rfl) ?_
  refine lv_iconst (v := 0) hx hb dX2_findTwin_1 (by decide) ?_
  have hPc := hP.sub (ws' := [(h_p1, .inr (3, [g_p1_0, g_p1_1, g_p1_2, g_p1_3, .ref h_p1_signs, g_p1_5, g_p1_6, g_p1_7])), (h_p1_signs, .inl (cy, 20, .inl a_p1_signs))]) [1, 5] rfl
  have hDc := hD.sub (ws' := [(h_p1, .inr (3, [g_p1_0, g_p1_1, g_p1_2, g_p1_3, .ref h_p1_signs, g_p1_5, g_p1_6, g_p1_7])), (h_p1_signs, .inl (cy, 20, .inl a_p1_signs))]) [1, 5] (by decide) rfl
  have hFc := va_free (wc := [(h_p1, .inr (3, [g_p1_0, g_p1_1, g_p1_2, g_p1_3, .ref h_p1_signs, g_p1_5, g_p1_6, g_p1_7])), (h_p1_signs, .inl (cy, 20, .inl a_p1_signs))]) hD hS hA [1, 5] rfl
  refine va_calli (va_runV (As := [.int 0]) (rest := []) ⟨hx, hb, hml, hown, hts⟩ (c_X3_digitsOf l dC dI cy t_S h_p1 h_p1_signs H.size (g_p1_0) (g_p1_1) (g_p1_2) (g_p1_3) (g_p1_5) (g_p1_6) (g_p1_7) a_p1_signs 0 _ h) (cwV 1 hts gX2_findTwin_X3_digitsOf rfl rfl rfl q_X3_digitsOf ⟨Nat.le_of_ble_eq_true rfl, Nat.le_of_ble_eq_true rfl⟩) ⟨fun a U g mk q => by obtain ⟨q0, q1, qP, qK, qD, qE⟩ := q; exact ⟨q0, q1, qP, va_K.moved (u := U) (U := U.calling g mk a) (Vm.Alike.refl U.vm) qK, qD, ev_calling qE⟩, va_recv hK hP (ci := 3) (q0 := 1) rfl rfl, fun U hU hW => ⟨rfl, by rw [hU], by rw [hU]; exact hPc, va_K.moved hW.alike hK, hDc.weaken (fun _ _ _ _ => trivial), ev_in hE hS hFc hU hW⟩⟩ rfl rfl hl.1 rfl (lv_room (Nat.le_of_ble_eq_true rfl)) dX2_findTwin_2 ⟨Nat.le_of_ble_eq_true rfl, Nat.le_of_ble_eq_true rfl⟩) hS (fun q _ h => hFc q h) hFc (fun r2 u t H1 locs ht hvm hw hB hz1 hk1 hS => ?_)
  obtain ⟨hP1, hK1, hD1⟩ := hB
  rw [ht] at hP1
  obtain ⟨hP, hD⟩ := va_join (wr := [(h_this, .inr (2, [g_this_0, g_this_1, .int f_papers, g_this_3, g_this_4, .ref h_banks, .ref h_accounts, .ref h_numbers])), (h_accounts, .inl (cy, 100, .inl a_accounts)), (h_banks, .inl (cy, 100, .inl a_banks)), (h_numbers, .inl (cy, 100, .inl a_numbers))]) (w1 := [(h_p1, .inr (3, [g_p1_0, g_p1_1, g_p1_2, g_p1_3, .ref h_p1_signs, g_p1_5, g_p1_6, g_p1_7])), (h_p1_signs, .inl (cy, 20, .inl a_p1_signs))]) hP hD [1, 5] [0, 2, 3, 4] rfl rfl (by decide) (by decide) hk1 hFc hP1 hD1
  replace hP := hP.sub (ws' := [(h_this, .inr (2, [g_this_0, g_this_1, .int f_papers, g_this_3, g_this_4, .ref h_banks, .ref h_accounts, .ref h_numbers])), (h_p1, .inr (3, [g_p1_0, g_p1_1, g_p1_2, g_p1_3, .ref h_p1_signs, g_p1_5, g_p1_6, g_p1_7])), (h_accounts, .inl (cy, 100, .inl a_accounts)), (h_banks, .inl (cy, 100, .inl a_banks)), (h_numbers, .inl (cy, 100, .inl a_numbers)), (h_p1_signs, .inl (cy, 20, .inl a_p1_signs))]) [0, 4, 1, 2, 3, 5] rfl
  replace hD := hD.sub (ws' := [(h_this, .inr (2, [g_this_0, g_this_1, .int f_papers, g_this_3, g_this_4, .ref h_banks, .ref h_accounts, .ref h_numbers])), (h_p1, .inr (3, [g_p1_0, g_p1_1, g_p1_2, g_p1_3, .ref h_p1_signs, g_p1_5, g_p1_6, g_p1_7])), (h_accounts, .inl (cy, 100, .inl a_accounts)), (h_banks, .inl (cy, 100, .inl a_banks)), (h_numbers, .inl (cy, 100, .inl a_numbers)), (h_p1_signs, .inl (cy, 20, .inl a_p1_signs))]) [0, 4, 1, 2, 3, 5] (by decide) rfl
  clear hPc hDc hFc hP1 hK1 hD1 hz1 hk1 hvm
  subst ht
  generalize t.heap = H at hP hS ⊢
  replace h := hw
  clear hw
  refine lv_istore_n (lv' := [(2, .int r2), (0, .ref h_this), (1, .ref h_p1)]) hx hb dX2_findTwin_5 rfl hl (by decide) rfl (fun ls hl => ?_)
  refine lv_aload_n hx hb dX2_findTwin_6 rfl (lv_at hl 2 rfl) ?_
  refine lv_iconst (v := 1) hx hb dX2_findTwin_7 (by decide) ?_
  have hPc := hP.sub (ws' := [(h_p1, .inr (3, [g_p1_0, g_p1_1, g_p1_2, g_p1_3, .ref h_p1_signs, g_p1_5, g_p1_6, g_p1_7])), (h_p1_signs, .inl (cy, 20, .inl a_p1_signs))]) [1, 5] rfl
  have hDc := hD.sub (ws' := [(h_p1, .inr (3, [g_p1_0, g_p1_1, g_p1_2, g_p1_3, .ref h_p1_signs, g_p1_5, g_p1_6, g_p1_7])), (h_p1_signs, .inl (cy, 20, .inl a_p1_signs))]) [1, 5] (by decide) rfl
  have hFc := va_free (wc := [(h_p1, .inr (3, [g_p1_0, g_p1_1, g_p1_2, g_p1_3, .ref h_p1_signs, g_p1_5, g_p1_6, g_p1_7])), (h_p1_signs, .inl (cy, 20, .inl a_p1_signs))]) hD hS hA [1, 5] rfl
  refine va_calli (va_runV (As := [.int 1]) (rest := []) ⟨hx, hb, hml, hown, hts⟩ (c_X3_digitsOf l dC dI cy t_S h_p1 h_p1_signs H.size (g_p1_0) (g_p1_1) (g_p1_2) (g_p1_3) (g_p1_5) (g_p1_6) (g_p1_7) a_p1_signs 1 _ h) (cwV 1 hts gX2_findTwin_X3_digitsOf rfl rfl rfl q_X3_digitsOf ⟨Nat.le_of_ble_eq_true rfl, Nat.le_of_ble_eq_true rfl⟩) ⟨fun a U g mk q => by obtain ⟨q0, q1, qP, qK, qD, qE⟩ := q; exact ⟨q0, q1, qP, va_K.moved (u := U) (U := U.calling g mk a) (Vm.Alike.refl U.vm) qK, qD, ev_calling qE⟩, va_recv hK hP (ci := 3) (q0 := 1) rfl rfl, fun U hU hW => ⟨rfl, by rw [hU], by rw [hU]; exact hPc, va_K.moved hW.alike hK, hDc.weaken (fun _ _ _ _ => trivial), ev_in hE hS hFc hU hW⟩⟩ rfl rfl hl.1 rfl (lv_room (Nat.le_of_ble_eq_true rfl)) dX2_findTwin_8 ⟨Nat.le_of_ble_eq_true rfl, Nat.le_of_ble_eq_true rfl⟩) hS (fun q _ h => hFc q h) hFc (fun r8 u t H1 locs ht hvm hw hB hz1 hk1 hS => ?_)
  obtain ⟨hP1, hK1, hD1⟩ := hB
  rw [ht] at hP1
  obtain ⟨hP, hD⟩ := va_join (wr := [(h_this, .inr (2, [g_this_0, g_this_1, .int f_papers, g_this_3, g_this_4, .ref h_banks, .ref h_accounts, .ref h_numbers])), (h_accounts, .inl (cy, 100, .inl a_accounts)), (h_banks, .inl (cy, 100, .inl a_banks)), (h_numbers, .inl (cy, 100, .inl a_numbers))]) (w1 := [(h_p1, .inr (3, [g_p1_0, g_p1_1, g_p1_2, g_p1_3, .ref h_p1_signs, g_p1_5, g_p1_6, g_p1_7])), (h_p1_signs, .inl (cy, 20, .inl a_p1_signs))]) hP hD [1, 5] [0, 2, 3, 4] rfl rfl (by decide) (by decide) hk1 hFc hP1 hD1
  replace hP := hP.sub (ws' := [(h_this, .inr (2, [g_this_0, g_this_1, .int f_papers, g_this_3, g_this_4, .ref h_banks, .ref h_accounts, .ref h_numbers])), (h_p1, .inr (3, [g_p1_0, g_p1_1, g_p1_2, g_p1_3, .ref h_p1_signs, g_p1_5, g_p1_6, g_p1_7])), (h_accounts, .inl (cy, 100, .inl a_accounts)), (h_banks, .inl (cy, 100, .inl a_banks)), (h_numbers, .inl (cy, 100, .inl a_numbers)), (h_p1_signs, .inl (cy, 20, .inl a_p1_signs))]) [0, 4, 1, 2, 3, 5] rfl
  replace hD := hD.sub (ws' := [(h_this, .inr (2, [g_this_0, g_this_1, .int f_papers, g_this_3, g_this_4, .ref h_banks, .ref h_accounts, .ref h_numbers])), (h_p1, .inr (3, [g_p1_0, g_p1_1, g_p1_2, g_p1_3, .ref h_p1_signs, g_p1_5, g_p1_6, g_p1_7])), (h_accounts, .inl (cy, 100, .inl a_accounts)), (h_banks, .inl (cy, 100, .inl a_banks)), (h_numbers, .inl (cy, 100, .inl a_numbers)), (h_p1_signs, .inl (cy, 20, .inl a_p1_signs))]) [0, 4, 1, 2, 3, 5] (by decide) rfl
  clear hPc hDc hFc hP1 hK1 hD1 hz1 hk1 hvm
  subst ht
  generalize t.heap = H at hP hS ⊢
  replace h := hw
  clear hw
  refine lv_istore_n (lv' := [(3, .int r8), (2, .int r2), (0, .ref h_this), (1, .ref h_p1)]) hx hb dX2_findTwin_11 rfl hl (by decide) rfl (fun ls hl => ?_)
  refine lv_aload_n hx hb dX2_findTwin_12 rfl (lv_at hl 3 rfl) ?_
  refine lv_iconst (v := 2) hx hb dX2_findTwin_13 (by decide) ?_
  have hPc := hP.sub (ws' := [(h_p1, .inr (3, [g_p1_0, g_p1_1, g_p1_2, g_p1_3, .ref h_p1_signs, g_p1_5, g_p1_6, g_p1_7])), (h_p1_signs, .inl (cy, 20, .inl a_p1_signs))]) [1, 5] rfl
  have hDc := hD.sub (ws' := [(h_p1, .inr (3, [g_p1_0, g_p1_1, g_p1_2, g_p1_3, .ref h_p1_signs, g_p1_5, g_p1_6, g_p1_7])), (h_p1_signs, .inl (cy, 20, .inl a_p1_signs))]) [1, 5] (by decide) rfl
  have hFc := va_free (wc := [(h_p1, .inr (3, [g_p1_0, g_p1_1, g_p1_2, g_p1_3, .ref h_p1_signs, g_p1_5, g_p1_6, g_p1_7])), (h_p1_signs, .inl (cy, 20, .inl a_p1_signs))]) hD hS hA [1, 5] rfl
  refine va_calli (va_runV (As := [.int 2]) (rest := []) ⟨hx, hb, hml, hown, hts⟩ (c_X3_digitsOf l dC dI cy t_S h_p1 h_p1_signs H.size (g_p1_0) (g_p1_1) (g_p1_2) (g_p1_3) (g_p1_5) (g_p1_6) (g_p1_7) a_p1_signs 2 _ h) (cwV 1 hts gX2_findTwin_X3_digitsOf rfl rfl rfl q_X3_digitsOf ⟨Nat.le_of_ble_eq_true rfl, Nat.le_of_ble_eq_true rfl⟩) ⟨fun a U g mk q => by obtain ⟨q0, q1, qP, qK, qD, qE⟩ := q; exact ⟨q0, q1, qP, va_K.moved (u := U) (U := U.calling g mk a) (Vm.Alike.refl U.vm) qK, qD, ev_calling qE⟩, va_recv hK hP (ci := 3) (q0 := 1) rfl rfl, fun U hU hW => ⟨rfl, by rw [hU], by rw [hU]; exact hPc, va_K.moved hW.alike hK, hDc.weaken (fun _ _ _ _ => trivial), ev_in hE hS hFc hU hW⟩⟩ rfl rfl hl.1 rfl (lv_room (Nat.le_of_ble_eq_true rfl)) dX2_findTwin_14 ⟨Nat.le_of_ble_eq_true rfl, Nat.le_of_ble_eq_true rfl⟩) hS (fun q _ h => hFc q h) hFc (fun r14 u t H1 locs ht hvm hw hB hz1 hk1 hS => ?_)
  obtain ⟨hP1, hK1, hD1⟩ := hB
  rw [ht] at hP1
  obtain ⟨hP, hD⟩ := va_join (wr := [(h_this, .inr (2, [g_this_0, g_this_1, .int f_papers, g_this_3, g_this_4, .ref h_banks, .ref h_accounts, .ref h_numbers])), (h_accounts, .inl (cy, 100, .inl a_accounts)), (h_banks, .inl (cy, 100, .inl a_banks)), (h_numbers, .inl (cy, 100, .inl a_numbers))]) (w1 := [(h_p1, .inr (3, [g_p1_0, g_p1_1, g_p1_2, g_p1_3, .ref h_p1_signs, g_p1_5, g_p1_6, g_p1_7])), (h_p1_signs, .inl (cy, 20, .inl a_p1_signs))]) hP hD [1, 5] [0, 2, 3, 4] rfl rfl (by decide) (by decide) hk1 hFc hP1 hD1
  replace hP := hP.sub (ws' := [(h_this, .inr (2, [g_this_0, g_this_1, .int f_papers, g_this_3, g_this_4, .ref h_banks, .ref h_accounts, .ref h_numbers])), (h_p1, .inr (3, [g_p1_0, g_p1_1, g_p1_2, g_p1_3, .ref h_p1_signs, g_p1_5, g_p1_6, g_p1_7])), (h_accounts, .inl (cy, 100, .inl a_accounts)), (h_banks, .inl (cy, 100, .inl a_banks)), (h_numbers, .inl (cy, 100, .inl a_numbers)), (h_p1_signs, .inl (cy, 20, .inl a_p1_signs))]) [0, 4, 1, 2, 3, 5] rfl
  replace hD := hD.sub (ws' := [(h_this, .inr (2, [g_this_0, g_this_1, .int f_papers, g_this_3, g_this_4, .ref h_banks, .ref h_accounts, .ref h_numbers])), (h_p1, .inr (3, [g_p1_0, g_p1_1, g_p1_2, g_p1_3, .ref h_p1_signs, g_p1_5, g_p1_6, g_p1_7])), (h_accounts, .inl (cy, 100, .inl a_accounts)), (h_banks, .inl (cy, 100, .inl a_banks)), (h_numbers, .inl (cy, 100, .inl a_numbers)), (h_p1_signs, .inl (cy, 20, .inl a_p1_signs))]) [0, 4, 1, 2, 3, 5] (by decide) rfl
  clear hPc hDc hFc hP1 hK1 hD1 hz1 hk1 hvm
  subst ht
  generalize t.heap = H at hP hS ⊢
  replace h := hw
  clear hw
  refine lv_istore (lv' := [(4, .int r14), (3, .int r8), (2, .int r2), (0, .ref h_this), (1, .ref h_p1)]) hx hb dX2_findTwin_17 hl (by decide) rfl (fun ls hl => ?_)
  refine lv_iconst (v := 0) hx hb dX2_findTwin_19 (by decide) ?_
  refine lv_istore (lv' := [(5, .int 0), (4, .int r14), (3, .int r8), (2, .int r2), (0, .ref h_this), (1, .ref h_p1)]) hx hb dX2_findTwin_20 hl (by decide) rfl (fun ls hl => ?_)
  obtain ⟨n22, h⟩ := h
  refine L22 r2 r8 r14 _ n22 0 H locs ls h hP hD hS (lv_sub hl [4, 3, 2, 1, 0] rfl) (fun x5_74 H locs ls h hP hD hS hl => ?_)
  refine lv_iconst (v := (-1)) hx hb dX2_findTwin_74 (by decide) ?_
  exact RET (-1) H locs ls 75 dX2_findTwin_75 h hP hD hS
abbrev rm_X2_sumOut : Room := { frames := 0, cells := 0, slots := 0, locals := 0 }
theorem q_X2_sumOut : yX2_sumOut.cls = RX2 ∧ yX2_sumOut.cls ≠ "java/lang/invoke/MethodHandle" ∧ yX2_sumOut.cls ≠ "java/lang/invoke/VarHandle" ∧ (parseMethodDescriptor yX2_sumOut.desc).map (fun d => d.parameters.length) = some 1 := by decide +kernel
set_option maxHeartbeats 4000000 in
set_option maxRecDepth 100000 in
theorem c_X2_sumOut (l : Launch) (dC : Nat → ClassId) (dI : Nat → Nat → Nat) (cy : ClassId) (h_this : Nat) (h_amounts : Nat) (h_batchOf : Nat) (h_told : Nat) (sz : Nat) (g_this_0 g_this_5 g_this_6 g_this_7 : Value) (f_papers : Int32) (a_amounts : Nat → Int32) (a_batchOf : Nat → Int32) (a_told : Nat → Int32) (x1 : Int32) (Q : Int64 → Prop) (h : p_X2_sumOut f_papers a_amounts a_batchOf a_told x1 Q) : Met l yX2_sumOut wsX2_sumOut rm_X2_sumOut (va_Pc [.ref h_this, .int x1] (fun U => U.heap.size = sz ∧ va_P (dC, dI) vwCl [(h_this, .inr (2, [g_this_0, .ref h_told, .int f_papers, .ref h_batchOf, .ref h_amounts, g_this_5, g_this_6, g_this_7])), (h_amounts, .inl (cy, 100, .inl a_amounts)), (h_batchOf, .inl (cy, 100, .inl a_batchOf)), (h_told, .inl (cy, 20, .inl a_told))] U.heap ∧ va_K (dC, dI) vwCl [(cy, .int)] U ∧ va_D (fun _ => True) [(h_this, .inr (2, [g_this_0, .ref h_told, .int f_papers, .ref h_batchOf, .ref h_amounts, g_this_5, g_this_6, g_this_7])), (h_amounts, .inl (cy, 100, .inl a_amounts)), (h_batchOf, .inl (cy, 100, .inl a_batchOf)), (h_told, .inl (cy, 20, .inl a_told))])) (va_Ql (fun (r : Int64) (u : Unit) => Q r) (fun (u : Unit) (t : State) => va_P (dC, dI) vwCl [(h_this, .inr (2, [g_this_0, .ref h_told, .int f_papers, .ref h_batchOf, .ref h_amounts, g_this_5, g_this_6, g_this_7])), (h_amounts, .inl (cy, 100, .inl a_amounts)), (h_batchOf, .inl (cy, 100, .inl a_batchOf)), (h_told, .inl (cy, 20, .inl a_told))] t.heap ∧ va_K (dC, dI) vwCl [(cy, .int)] t ∧ va_D (va_A [(h_this, .inr (2, [g_this_0, .ref h_told, .int f_papers, .ref h_batchOf, .ref h_amounts, g_this_5, g_this_6, g_this_7])), (h_amounts, .inl (cy, 100, .inl a_amounts)), (h_batchOf, .inl (cy, 100, .inl a_batchOf)), (h_told, .inl (cy, 20, .inl a_told))] sz) [(h_this, .inr (2, [g_this_0, .ref h_told, .int f_papers, .ref h_batchOf, .ref h_amounts, g_this_5, g_this_6, g_this_7])), (h_amounts, .inl (cy, 100, .inl a_amounts)), (h_batchOf, .inl (cy, 100, .inl a_batchOf)), (h_told, .inl (cy, 20, .inl a_told))]) (va_A [(h_this, .inr (2, [g_this_0, .ref h_told, .int f_papers, .ref h_batchOf, .ref h_amounts, g_this_5, g_this_6, g_this_7])), (h_amounts, .inl (cy, 100, .inl a_amounts)), (h_batchOf, .inl (cy, 100, .inl a_batchOf)), (h_told, .inl (cy, 20, .inl a_told))] sz)) 0 0 (va_A [(h_this, .inr (2, [g_this_0, .ref h_told, .int f_papers, .ref h_batchOf, .ref h_amounts, g_this_5, g_this_6, g_this_7])), (h_amounts, .inl (cy, 100, .inl a_amounts)), (h_batchOf, .inl (cy, 100, .inl a_batchOf)), (h_told, .inl (cy, 20, .inl a_told))] sz) := by
  refine Met.ofW (cc := cX2_sumOut) (maxL := 5) (ret := (some .long)) (by decide) rfl ?_
  intro p e s m args below meth c s₁ B hml hv
  obtain ⟨hargs, hsz, hP, hK, hD0⟩ := hv
  have hx := B.exec
  have hb := B.bytes
  have hr := B.returns
  have hts := atoms_spec (ws := wsX2_sumOut) B.pre
  have hown : s.vm.findClass RX2 = some m.cls := findClass_of_methodNamed B.named
  have hlocks := B.notSynchronized
  subst hsz
  have hD := hD0.self (sz := s.heap.size)
  generalize hAe : va_A [(h_this, .inr (2, [g_this_0, .ref h_told, .int f_papers, .ref h_batchOf, .ref h_amounts, g_this_5, g_this_6, g_this_7])), (h_amounts, .inl (cy, 100, .inl a_amounts)), (h_batchOf, .inl (cy, 100, .inl a_batchOf)), (h_told, .inl (cy, 20, .inl a_told))] s.heap.size = A at hD ⊢
  have hA : ∀ q : Nat, s.heap.size ≤ q → A q := fun q h => by rw [← hAe]; exact Or.inr h
  have hS : va_S A s.heap s.heap [] := va_S.rf
  have in_X2 : ∀ w ∈ u_ws RX2 TX2 8, w ∈ wsX2_sumOut := by decide +kernel
  have k_15 := hts (.fieldLink RX2 15 "ChequeDesk$Ledger" "told" "[I") (by decide +kernel)
  have k_19 := hts (.fieldLink RX2 19 "ChequeDesk$Ledger" "papers" "I") (by decide +kernel)
  have k_22 := hts (.fieldLink RX2 22 "ChequeDesk$Ledger" "batchOf" "[I") (by decide +kernel)
  have k_25 := hts (.fieldLink RX2 25 "ChequeDesk$Ledger" "amounts" "[I") (by decide +kernel)
  have hl := lv_entry ([.ref h_this, .int x1]) (n := 5) (Nat.le_of_ble_eq_true rfl)
  rw [show entryFrame m args 5 = entryFrame m ([.ref h_this, .int x1] : List Value).toArray 5 by rw [hargs], lg_entry_eq]
  generalize (lg_sl ([.ref h_this, .int x1]) ++ List.replicate (5 - (lg_sl ([.ref h_this, .int x1])).length) Slot.unset).toArray = ls at hl ⊢
  have hl : lv_has ls 5 [(0, .ref h_this), (1, .int x1)] := hl
  have hP : va_P (dC, dI) vwCl [(h_this, .inr (2, [g_this_0, .ref h_told, .int f_papers, .ref h_batchOf, .ref h_amounts, g_this_5, g_this_6, g_this_7])), (h_amounts, .inl (cy, 100, .inl a_amounts)), (h_batchOf, .inl (cy, 100, .inl a_batchOf)), (h_told, .inl (cy, 20, .inl a_told))] s.heap := hP
  change W p l e rm_X2_sumOut s m args below meth c s.heap [] 0 0 _ _
  generalize hQQ : MQ below _ _ _ _ _ _ = QQ
  have RET : ∀ (r : Int64) (H : Heap) (locs : List Loc) (ls : Array Slot) (pc : Nat), decode cX2_sumOut pc = .ok (.lreturn, 1) → Q r → va_P (dC, dI) vwCl [(h_this, .inr (2, [g_this_0, .ref h_told, .int f_papers, .ref h_batchOf, .ref h_amounts, g_this_5, g_this_6, g_this_7])), (h_amounts, .inl (cy, 100, .inl a_amounts)), (h_batchOf, .inl (cy, 100, .inl a_batchOf)), (h_told, .inl (cy, 20, .inl a_told))] H → va_D A [(h_this, .inr (2, [g_this_0, .ref h_told, .int f_papers, .ref h_batchOf, .ref h_amounts, g_this_5, g_this_6, g_this_7])), (h_amounts, .inl (cy, 100, .inl a_amounts)), (h_batchOf, .inl (cy, 100, .inl a_batchOf)), (h_told, .inl (cy, 20, .inl a_told))] → va_S A s.heap H locs → W p l e rm_X2_sumOut s m args below meth c H locs 0 0 QQ (F0 m pc ls [.long r]) := by
    intro r  H locs ls pc hdg hq hP hD hS
    rw [← hQQ]
    exact W.lret (v := r) hx hb hr (fun t ht hW => ⟨⟨r, (), rfl, hq, by rw [ht]; exact hP, va_K.moved hW.alike hK, hD⟩, hS.F ht⟩) hS.2.2 hdg
  clear hQQ
  unfold p_X2_sumOut at h
  have L5 : ∀ (x1 : Int32) (K5 : Int64 → Int32 → Prop) (n : Nat) (x2 : Int64) (x4 : Int32) (H : Heap) (locs : List Loc) (ls : Array Slot), wl2 (p_X2_sumOut_B5 f_papers a_amounts a_batchOf x1 K5) n x2 x4 → va_P (dC, dI) vwCl [(h_this, .inr (2, [g_this_0, .ref h_told, .int f_papers, .ref h_batchOf, .ref h_amounts, g_this_5, g_this_6, g_this_7])), (h_amounts, .inl (cy, 100, .inl a_amounts)), (h_batchOf, .inl (cy, 100, .inl a_batchOf)), (h_told, .inl (cy, 20, .inl a_told))] H → va_D A [(h_this, .inr (2, [g_this_0, .ref h_told, .int f_papers, .ref h_batchOf, .ref h_amounts, g_this_5, g_this_6, g_this_7])), (h_amounts, .inl (cy, 100, .inl a_amounts)), (h_batchOf, .inl (cy, 100, .inl a_batchOf)), (h_told, .inl (cy, 20, .inl a_told))] → va_S A s.heap H locs → lv_has ls 5 [(0, .ref h_this), (1, .int x1), (2, .long x2), (4, .int x4)] → (∀ (x2 : Int64) (x4 : Int32) (H : Heap) (locs : List Loc) (ls : Array Slot), K5 x2 x4 → va_P (dC, dI) vwCl [(h_this, .inr (2, [g_this_0, .ref h_told, .int f_papers, .ref h_batchOf, .ref h_amounts, g_this_5, g_this_6, g_this_7])), (h_amounts, .inl (cy, 100, .inl a_amounts)), (h_batchOf, .inl (cy, 100, .inl a_batchOf)), (h_told, .inl (cy, 20, .inl a_told))] H → va_D A [(h_this, .inr (2, [g_this_0, .ref h_told, .int f_papers, .ref h_batchOf, .ref h_amounts, g_this_5, g_this_6, g_this_7])), (h_amounts, .inl (cy, 100, .inl a_amounts)), (h_batchOf, .inl (cy, 100, .inl a_batchOf)), (h_told, .inl (cy, 20, .inl a_told))] → va_S A s.heap H locs → lv_has ls 5 [(0, .ref h_this), (1, .int x1), (2, .long x2)] → W p l e rm_X2_sumOut s m args below meth c H locs 0 0 QQ (F0 m 42 ls [])) → W p l e rm_X2_sumOut s m args below meth c H locs 0 0 QQ (F0 m 5 ls []) := by
    intro x1 K5 n
    induction n with
    | zero => intro x2 x4 H locs ls h; exact False.elim h
    | succ n ih =>
      intro x2 x4 H locs ls h hP hD hS hl hk
      have ih := fun x2 x4 H locs ls h hP hD hS hl => ih x2 x4 H locs ls h hP hD hS hl hk
      replace h : p_X2_sumOut_B5 f_papers a_amounts a_batchOf x1 K5 (wl2 (p_X2_sumOut_B5 f_papers a_amounts a_batchOf x1 K5) n) x2 x4 := h
      unfold p_X2_sumOut_B5 at h
      have J36 : ∀ (x2 : Int64) (x4 : Int32) (H : Heap) (locs : List Loc) (ls : Array Slot), p_X2_sumOut_J36 (wl2 (p_X2_sumOut_B5 f_papers a_amounts a_batchOf x1 K5) n) x2 x4 → va_P (dC, dI) vwCl [(h_this, .inr (2, [g_this_0, .ref h_told, .int f_papers, .ref h_batchOf, .ref h_amounts, g_this_5, g_this_6, g_this_7])), (h_amounts, .inl (cy, 100, .inl a_amounts)), (h_batchOf, .inl (cy, 100, .inl a_batchOf)), (h_told, .inl (cy, 20, .inl a_told))] H → va_D A [(h_this, .inr (2, [g_this_0, .ref h_told, .int f_papers, .ref h_batchOf, .ref h_amounts, g_this_5, g_this_6, g_this_7])), (h_amounts, .inl (cy, 100, .inl a_amounts)), (h_batchOf, .inl (cy, 100, .inl a_batchOf)), (h_told, .inl (cy, 20, .inl a_told))] → va_S A s.heap H locs → lv_has ls 5 [(0, .ref h_this), (1, .int x1), (2, .long x2), (4, .int x4)] → W p l e rm_X2_sumOut s m args below meth c H locs 0 0 QQ (F0 m 36 ls []) := by
        intro x2 x4 H locs ls h hP hD hS hl
        unfold p_X2_sumOut_J36 at h
        refine lv_iinc (v := x4 + 1) (lv' := [(4, .int (x4 + 1)), (0, .ref h_this), (1, .int x1), (2, .long x2)]) hx hb dX2_sumOut_36 hl (k := 3) rfl (by rfl) (by decide) rfl (fun ls hl => ?_)
        refine lv_goto (tgt := 5) hx hb dX2_sumOut_39 (by decide) ?_
        exact ih x2 (x4 + 1) H locs ls h hP hD hS (lv_sub hl [1, 2, 3, 0] rfl)
      refine lv_iload hx hb dX2_sumOut_5 (lv_at hl 3 rfl) ?_
      refine lv_aload_n hx hb dX2_sumOut_7 rfl (lv_at hl 0 rfl) ?_
      refine va_get (D := (dC, dI)) (ci := 2) (v := .int f_papers) (C := RX2) (T := TX2) (N := 8) hx hb hts in_X2 hown hK hP 0 rfl rfl 2 (by decide) k_19 (fun _ h9 => h9) rfl dX2_sumOut_8 ?_
      refine lv_icmp_ge (tgt := 42) hx hb dX2_sumOut_11 (by decide) (fun c11 => ?_) (fun c11 => ?_)
      · replace h := And.left h c11
        exact hk x2 x4 H locs ls h hP hD hS (lv_sub hl [0, 1, 2] rfl)
      · replace h := And.right h c11
        refine lv_aload_n hx hb dX2_sumOut_14 rfl (lv_at hl 0 rfl) ?_
        refine va_get (D := (dC, dI)) (ci := 2) (v := .ref h_batchOf) (C := RX2) (T := TX2) (N := 8) hx hb hts in_X2 hown hK hP 0 rfl rfl 3 (by decide) k_22 (fun _ h9 => h9) rfl dX2_sumOut_15 ?_
        refine lv_iload hx hb dX2_sumOut_18 (lv_at hl 3 rfl) ?_
        obtain ⟨b20, h⟩ := h
        refine va_iald hx hb hK hP 2 0 rfl rfl b20 dX2_sumOut_20 ?_
        refine lv_iload_n hx hb dX2_sumOut_21 rfl (lv_at hl 1 rfl) ?_
        refine lv_icmp_ne (tgt := 36) hx hb dX2_sumOut_22 (by decide) (fun c22 => ?_) (fun c22 => ?_)
        · replace h := And.left h c22
          exact J36 x2 x4 H locs ls h hP hD hS (lv_sub hl [0, 1, 2, 3] rfl)
        · replace h := And.right h c22
          refine lv_lload_n hx hb dX2_sumOut_25 rfl (lv_at hl 2 rfl) ?_
          refine lv_aload_n hx hb dX2_sumOut_26 rfl (lv_at hl 0 rfl) ?_
          refine va_get (D := (dC, dI)) (ci := 2) (v := .ref h_amounts) (C := RX2) (T := TX2) (N := 8) hx hb hts in_X2 hown hK hP 0 rfl rfl 4 (by decide) k_25 (fun _ h9 => h9) rfl dX2_sumOut_27 ?_
          refine lv_iload hx hb dX2_sumOut_30 (lv_at hl 3 rfl) ?_
          obtain ⟨b32, h⟩ := h
          refine va_iald hx hb hK hP 1 0 rfl rfl b32 dX2_sumOut_32 ?_
          refine lv_i2l hx hb dX2_sumOut_33 rfl ?_
          refine lv_ladd hx hb dX2_sumOut_34 ?_
          refine lv_lstore_n (lv' := [(2, .long (x2 + (Int32.toInt64 (a_amounts (Int32.toNatClampNeg x4))))), (0, .ref h_this), (1, .int x1), (4, .int x4)]) hx hb dX2_sumOut_35 rfl hl (by decide) rfl (fun ls hl => ?_)
          exact J36 (x2 + (Int32.toInt64 (a_amounts (Int32.toNatClampNeg x4)))) x4 H locs ls h hP hD hS (lv_sub hl [1, 2, 0, 3] rfl)
  generalize hlo : ([] : List Loc) = locs at hS ⊢
  obtain ⟨H, hH⟩ : ∃ z, z = s.heap := ⟨_, rfl⟩
  rw [show W p l e rm_X2_sumOut s m args below meth c s.heap = W p l e rm_X2_sumOut s m args below meth c H by rw [hH]]
  replace hP : va_P (dC, dI) vwCl [(h_this, .inr (2, [g_this_0, .ref h_told, .int f_papers, .ref h_batchOf, .ref h_amounts, g_this_5, g_this_6, g_this_7])), (h_amounts, .inl (cy, 100, .inl a_amounts)), (h_batchOf, .inl (cy, 100, .inl a_batchOf)), (h_told, .inl (cy, 20, .inl a_told))] H := by rw [hH]; exact hP
  replace hS : va_S A s.heap H locs := by rw [hH]; exact hS
  clear hH hlo
  refine lv_lconst (v := 0) hx hb dX2_sumOut_0 (by decide) ?_
  refine lv_lstore_n (lv' := [(2, .long 0), (0, .ref h_this), (1, .int x1)]) hx hb dX2_sumOut_1 rfl hl (by decide) rfl (fun ls hl => ?_)
  refine lv_iconst (v := 0) hx hb dX2_sumOut_2 (by decide) ?_
  refine lv_istore (lv' := [(4, .int 0), (2, .long 0), (0, .ref h_this), (1, .int x1)]) hx hb dX2_sumOut_3 hl (by decide) rfl (fun ls hl => ?_)
  obtain ⟨n5, h⟩ := h
  refine L5 x1 _ n5 0 0 H locs ls h hP hD hS (lv_sub hl [2, 3, 1, 0] rfl) (fun x2_42 x4_42 H locs ls h hP hD hS hl => ?_)
  refine lv_lload_n hx hb dX2_sumOut_42 rfl (lv_at hl 2 rfl) ?_
  refine lv_aload_n hx hb dX2_sumOut_43 rfl (lv_at hl 0 rfl) ?_
  refine va_get (D := (dC, dI)) (ci := 2) (v := .ref h_told) (C := RX2) (T := TX2) (N := 8) hx hb hts in_X2 hown hK hP 0 rfl rfl 1 (by decide) k_15 (fun _ h9 => h9) rfl dX2_sumOut_44 ?_
  refine lv_iload_n hx hb dX2_sumOut_47 rfl (lv_at hl 1 rfl) ?_
  obtain ⟨b48, h⟩ := h
  refine va_iald hx hb hK hP 3 0 rfl rfl b48 dX2_sumOut_48 ?_
  refine lv_i2l hx hb dX2_sumOut_49 rfl ?_
  refine lv_lsub hx hb dX2_sumOut_50 ?_
  exact RET (x2_42 - (Int32.toInt64 (a_told (Int32.toNatClampNeg x1)))) H locs ls 51 dX2_sumOut_51 h hP hD hS
