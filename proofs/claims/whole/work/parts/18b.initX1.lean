abbrev rm_X1_init : Room := { frames := 1, cells := 6, slots := 2658, locals := 12 }
theorem q_X1_init : yX1_init.cls ≠ "java/lang/invoke/MethodHandle" ∧ yX1_init.cls ≠ "java/lang/invoke/VarHandle" ∧ (parseMethodDescriptor yX1_init.desc).map (fun d => d.parameters.length) = some 0 := by decide +kernel
set_option maxHeartbeats 4000000 in
set_option maxRecDepth 100000 in
theorem c_X1_init (l : Launch) (dC : Nat → ClassId) (dI : Nat → Nat → Nat) (cy : ClassId) (h_this sz : Nat) : Met l yX1_init wsX1_init rm_X1_init (va_Pc [.ref h_this] (fun U => U.heap.size = sz ∧ va_P (dC, dI) vwCl [(h_this, .inr (1, [.int 0, .null, .null, .null, .null, .null, .null]))] U.heap ∧ va_K (dC, dI) vwCl [(cy, .int)] U ∧ va_D (fun _ => True) [(h_this, .inr (1, [.int 0, .null, .null, .null, .null, .null, .null]))])) (va_Qv (fun (_ : Nat × Nat × Nat × Nat × Nat × Nat) => True) (fun (u : Nat × Nat × Nat × Nat × Nat × Nat) (t : State) => va_P (dC, dI) vwCl [(h_this, .inr (1, [.int 0, .ref (u.2.2.2.2.2), .ref (u.2.2.1), .ref (u.2.2.2.1), .ref (u.2.1), .ref (u.1), .ref (u.2.2.2.2.1)])), ((u.1), .inl (cy, 9, .inl (fun _ => 0))), ((u.2.1), .inl (cy, 180, .inl (fun _ => 0))), ((u.2.2.1), .inl (cy, 2160, .inl (fun _ => 0))), ((u.2.2.2.1), .inl (cy, 180, .inl (fun _ => 0))), ((u.2.2.2.2.1), .inl (cy, 9, .inl (fun _ => 0))), ((u.2.2.2.2.2), .inl (cy, 120, .inl (fun _ => 0)))] t.heap ∧ va_K (dC, dI) vwCl [(cy, .int)] t ∧ va_D (va_A [(h_this, .inr (1, [.int 0, .null, .null, .null, .null, .null, .null]))] sz) [(h_this, .inr (1, [.int 0, .ref (u.2.2.2.2.2), .ref (u.2.2.1), .ref (u.2.2.2.1), .ref (u.2.1), .ref (u.1), .ref (u.2.2.2.2.1)])), ((u.1), .inl (cy, 9, .inl (fun _ => 0))), ((u.2.1), .inl (cy, 180, .inl (fun _ => 0))), ((u.2.2.1), .inl (cy, 2160, .inl (fun _ => 0))), ((u.2.2.2.1), .inl (cy, 180, .inl (fun _ => 0))), ((u.2.2.2.2.1), .inl (cy, 9, .inl (fun _ => 0))), ((u.2.2.2.2.2), .inl (cy, 120, .inl (fun _ => 0)))]) (va_A [(h_this, .inr (1, [.int 0, .null, .null, .null, .null, .null, .null]))] sz)) 6 2658 (va_A [(h_this, .inr (1, [.int 0, .null, .null, .null, .null, .null, .null]))] sz) := by
  refine Met.ofW (cc := cX1_init) (maxL := 1) (ret := none) (by decide) rfl ?_
  intro p e s m args below meth c s₁ B hml hv
  obtain ⟨rfl, hsz, hP, hK, hD0⟩ := hv
  have hx := B.exec
  have hb := B.bytes
  have hr := B.returns
  have hts := atoms_spec (ws := wsX1_init) B.pre
  have hown : s.vm.findClass RX1 = some m.cls := findClass_of_methodNamed B.named
  have hlocks := B.notSynchronized
  have hin : meth.name = "<init>" := (name_of_methodNamed B.named B.method).1
  subst hsz
  have hD := hD0.self (sz := s.heap.size)
  generalize hAe : va_A [(h_this, .inr (1, [.int 0, .null, .null, .null, .null, .null, .null]))] s.heap.size = A at hD ⊢
  have hA : ∀ q : Nat, s.heap.size ≤ q → A q := fun q h => by rw [← hAe]; exact Or.inr h
  have hS : va_S A s.heap s.heap [] := va_S.rf
  have hl := lv_entry ([.ref h_this]) (n := 1) (Nat.le_of_ble_eq_true rfl)
  rw [lg_entry_eq]
  generalize (lg_sl ([.ref h_this]) ++ List.replicate (1 - (lg_sl ([.ref h_this])).length) Slot.unset).toArray = ls at hl ⊢
  have hl : lv_has ls 1 [(0, .ref h_this)] := hl
  have in_X1 : ∀ w ∈ u_ws RX1 TX1 7, w ∈ wsX1_init := by decide +kernel
  change W p l e rm_X1_init s m _ below meth c s.heap [] 0 0 _ _
  refine lv_aload_n hx hb dX1_init_0 rfl (lv_at hl 0 rfl) ?_
  refine W.objInit hx hb hown (hts (.methodLink RX1 3 objectInit) (by decide +kernel)) (hts (.instanceMethod objectInit) (by decide +kernel)) (hts (.code objectInit ⟨#[0xb1]⟩ 1 none) (by decide +kernel)) rfl (by rw [hml]; exact hl.1) rfl dX1_init_1 (Nat.le_of_ble_eq_true rfl) (Nat.le_of_ble_eq_true rfl) ?_
  refine W.eq (g2 := F0 m 4 ls []) rfl ?_
  refine lv_aload_n hx hb dX1_init_4 rfl (lv_at hl 0 rfl) ?_
  refine lv_iconst (v := 0) hx hb dX1_init_5 (by decide) ?_
  refine va_put (D := (dC, dI)) (ci := 1) (v := .int 0) (ty := .int) (C := RX1) (T := TX1) (N := 7) hx hb hts in_X1 tyX1 tyX1_ok nmX1 hown hK hP hD hS 0 rfl rfl 0 (by decide) (hts (.fieldLink RX1 9 "ChequeDesk$Head" "places" "I") (by decide +kernel)) (fun _ h9 => h9) rfl (by decide +kernel) rfl rfl (Nat.le_of_ble_eq_true rfl) dX1_init_6 (fun H locs hP hD hS => ?_)
  have hP : va_P (dC, dI) vwCl [(h_this, .inr (1, [.int 0, .null, .null, .null, .null, .null, .null]))] H := hP
  have hD : va_D A [(h_this, .inr (1, [.int 0, .null, .null, .null, .null, .null, .null]))] := hD
  refine lv_aload_n hx hb dX1_init_9 rfl (lv_at hl 0 rfl) ?_
  refine lv_bipush (v := 120) hx hb dX1_init_10 (by decide) ?_
  refine va_newa (atype := .int) (ty := .int) (N' := 120) (a0 := (120, .inl (fun _ => 0))) hx hb (hts (.arrayClass .int) (by decide +kernel)) rfl hK hP hD hS hA (my_arr0 120) (by decide +kernel) (by decide +kernel) (by decide +kernel) (Nat.le_of_ble_eq_true rfl) (Nat.le_of_ble_eq_true rfl) dX1_init_12 (fun q12 cA H hK2 hP hD hS => ?_)
  rw [cy_eq hK2] at hP hD
  have hP : va_P (dC, dI) vwCl [(h_this, .inr (1, [.int 0, .null, .null, .null, .null, .null, .null])), (q12, .inl (cy, 120, .inl (fun _ => 0)))] H := hP
  have hD : va_D A [(h_this, .inr (1, [.int 0, .null, .null, .null, .null, .null, .null])), (q12, .inl (cy, 120, .inl (fun _ => 0)))] := hD
  clear hK2
  refine W.widen (k := 1) (n := 120) (by decide) (by decide) ?_
  refine va_putF (D := (dC, dI)) (ci := 1) (v := .ref q12) (ty := .array .int) (C := RX1) (T := TX1) (N := 7) hx hb hts in_X1 tyX1 tyX1_ok nmX1 hown hK hP hD hS 0 rfl rfl 1 (by decide) (hts (.fieldLink RX1 15 "ChequeDesk$Head" "laid" "[I") (by decide +kernel)) (fun _ h9 => h9) rfl hin rfl (by decide +kernel) rfl rfl (Nat.le_of_ble_eq_true rfl) dX1_init_14 (fun H locs hP hD hS => ?_)
  have hP : va_P (dC, dI) vwCl [(h_this, .inr (1, [.int 0, .ref q12, .null, .null, .null, .null, .null])), (q12, .inl (cy, 120, .inl (fun _ => 0)))] H := hP
  have hD : va_D A [(h_this, .inr (1, [.int 0, .ref q12, .null, .null, .null, .null, .null])), (q12, .inl (cy, 120, .inl (fun _ => 0)))] := hD
  refine lv_aload_n hx hb dX1_init_17 rfl (lv_at hl 0 rfl) ?_
  refine lv_sipush (v := 2160) hx hb dX1_init_18 (by decide) ?_
  refine va_newa (atype := .int) (ty := .int) (N' := 2160) (a0 := (2160, .inl (fun _ => 0))) hx hb (hts (.arrayClass .int) (by decide +kernel)) rfl hK hP hD hS hA (my_arr0 2160) (by decide +kernel) (by decide +kernel) (by decide +kernel) (Nat.le_of_ble_eq_true rfl) (Nat.le_of_ble_eq_true rfl) dX1_init_21 (fun q21 cA H hK2 hP hD hS => ?_)
  rw [cy_eq hK2] at hP hD
  have hP : va_P (dC, dI) vwCl [(h_this, .inr (1, [.int 0, .ref q12, .null, .null, .null, .null, .null])), (q12, .inl (cy, 120, .inl (fun _ => 0))), (q21, .inl (cy, 2160, .inl (fun _ => 0)))] H := hP
  have hD : va_D A [(h_this, .inr (1, [.int 0, .ref q12, .null, .null, .null, .null, .null])), (q12, .inl (cy, 120, .inl (fun _ => 0))), (q21, .inl (cy, 2160, .inl (fun _ => 0)))] := hD
  clear hK2
  refine W.widen (k := 2) (n := 2280) (by decide) (by decide) ?_
  refine va_putF (D := (dC, dI)) (ci := 1) (v := .ref q21) (ty := .array .int) (C := RX1) (T := TX1) (N := 7) hx hb hts in_X1 tyX1 tyX1_ok nmX1 hown hK hP hD hS 0 rfl rfl 2 (by decide) (hts (.fieldLink RX1 19 "ChequeDesk$Head" "costs" "[I") (by decide +kernel)) (fun _ h9 => h9) rfl hin rfl (by decide +kernel) rfl rfl (Nat.le_of_ble_eq_true rfl) dX1_init_23 (fun H locs hP hD hS => ?_)
  have hP : va_P (dC, dI) vwCl [(h_this, .inr (1, [.int 0, .ref q12, .ref q21, .null, .null, .null, .null])), (q12, .inl (cy, 120, .inl (fun _ => 0))), (q21, .inl (cy, 2160, .inl (fun _ => 0)))] H := hP
  have hD : va_D A [(h_this, .inr (1, [.int 0, .ref q12, .ref q21, .null, .null, .null, .null])), (q12, .inl (cy, 120, .inl (fun _ => 0))), (q21, .inl (cy, 2160, .inl (fun _ => 0)))] := hD
  refine lv_aload_n hx hb dX1_init_26 rfl (lv_at hl 0 rfl) ?_
  refine lv_sipush (v := 180) hx hb dX1_init_27 (by decide) ?_
  refine va_newa (atype := .int) (ty := .int) (N' := 180) (a0 := (180, .inl (fun _ => 0))) hx hb (hts (.arrayClass .int) (by decide +kernel)) rfl hK hP hD hS hA (my_arr0 180) (by decide +kernel) (by decide +kernel) (by decide +kernel) (Nat.le_of_ble_eq_true rfl) (Nat.le_of_ble_eq_true rfl) dX1_init_30 (fun q30 cA H hK2 hP hD hS => ?_)
  rw [cy_eq hK2] at hP hD
  have hP : va_P (dC, dI) vwCl [(h_this, .inr (1, [.int 0, .ref q12, .ref q21, .null, .null, .null, .null])), (q12, .inl (cy, 120, .inl (fun _ => 0))), (q21, .inl (cy, 2160, .inl (fun _ => 0))), (q30, .inl (cy, 180, .inl (fun _ => 0)))] H := hP
  have hD : va_D A [(h_this, .inr (1, [.int 0, .ref q12, .ref q21, .null, .null, .null, .null])), (q12, .inl (cy, 120, .inl (fun _ => 0))), (q21, .inl (cy, 2160, .inl (fun _ => 0))), (q30, .inl (cy, 180, .inl (fun _ => 0)))] := hD
  clear hK2
  refine W.widen (k := 3) (n := 2460) (by decide) (by decide) ?_
  refine va_putF (D := (dC, dI)) (ci := 1) (v := .ref q30) (ty := .array .int) (C := RX1) (T := TX1) (N := 7) hx hb hts in_X1 tyX1 tyX1_ok nmX1 hown hK hP hD hS 0 rfl rfl 3 (by decide) (hts (.fieldLink RX1 22 "ChequeDesk$Head" "here" "[I") (by decide +kernel)) (fun _ h9 => h9) rfl hin rfl (by decide +kernel) rfl rfl (Nat.le_of_ble_eq_true rfl) dX1_init_32 (fun H locs hP hD hS => ?_)
  have hP : va_P (dC, dI) vwCl [(h_this, .inr (1, [.int 0, .ref q12, .ref q21, .ref q30, .null, .null, .null])), (q12, .inl (cy, 120, .inl (fun _ => 0))), (q21, .inl (cy, 2160, .inl (fun _ => 0))), (q30, .inl (cy, 180, .inl (fun _ => 0)))] H := hP
  have hD : va_D A [(h_this, .inr (1, [.int 0, .ref q12, .ref q21, .ref q30, .null, .null, .null])), (q12, .inl (cy, 120, .inl (fun _ => 0))), (q21, .inl (cy, 2160, .inl (fun _ => 0))), (q30, .inl (cy, 180, .inl (fun _ => 0)))] := hD
  refine lv_aload_n hx hb dX1_init_35 rfl (lv_at hl 0 rfl) ?_
  refine lv_sipush (v := 180) hx hb dX1_init_36 (by decide) ?_
  refine va_newa (atype := .int) (ty := .int) (N' := 180) (a0 := (180, .inl (fun _ => 0))) hx hb (hts (.arrayClass .int) (by decide +kernel)) rfl hK hP hD hS hA (my_arr0 180) (by decide +kernel) (by decide +kernel) (by decide +kernel) (Nat.le_of_ble_eq_true rfl) (Nat.le_of_ble_eq_true rfl) dX1_init_39 (fun q39 cA H hK2 hP hD hS => ?_)
  rw [cy_eq hK2] at hP hD
  have hP : va_P (dC, dI) vwCl [(h_this, .inr (1, [.int 0, .ref q12, .ref q21, .ref q30, .null, .null, .null])), (q12, .inl (cy, 120, .inl (fun _ => 0))), (q21, .inl (cy, 2160, .inl (fun _ => 0))), (q30, .inl (cy, 180, .inl (fun _ => 0))), (q39, .inl (cy, 180, .inl (fun _ => 0)))] H := hP
  have hD : va_D A [(h_this, .inr (1, [.int 0, .ref q12, .ref q21, .ref q30, .null, .null, .null])), (q12, .inl (cy, 120, .inl (fun _ => 0))), (q21, .inl (cy, 2160, .inl (fun _ => 0))), (q30, .inl (cy, 180, .inl (fun _ => 0))), (q39, .inl (cy, 180, .inl (fun _ => 0)))] := hD
  clear hK2
  refine W.widen (k := 4) (n := 2640) (by decide) (by decide) ?_
  refine va_putF (D := (dC, dI)) (ci := 1) (v := .ref q39) (ty := .array .int) (C := RX1) (T := TX1) (N := 7) hx hb hts in_X1 tyX1 tyX1_ok nmX1 hown hK hP hD hS 0 rfl rfl 4 (by decide) (hts (.fieldLink RX1 25 "ChequeDesk$Head" "behind" "[I") (by decide +kernel)) (fun _ h9 => h9) rfl hin rfl (by decide +kernel) rfl rfl (Nat.le_of_ble_eq_true rfl) dX1_init_41 (fun H locs hP hD hS => ?_)
  have hP : va_P (dC, dI) vwCl [(h_this, .inr (1, [.int 0, .ref q12, .ref q21, .ref q30, .ref q39, .null, .null])), (q12, .inl (cy, 120, .inl (fun _ => 0))), (q21, .inl (cy, 2160, .inl (fun _ => 0))), (q30, .inl (cy, 180, .inl (fun _ => 0))), (q39, .inl (cy, 180, .inl (fun _ => 0)))] H := hP
  have hD : va_D A [(h_this, .inr (1, [.int 0, .ref q12, .ref q21, .ref q30, .ref q39, .null, .null])), (q12, .inl (cy, 120, .inl (fun _ => 0))), (q21, .inl (cy, 2160, .inl (fun _ => 0))), (q30, .inl (cy, 180, .inl (fun _ => 0))), (q39, .inl (cy, 180, .inl (fun _ => 0)))] := hD
  refine lv_aload_n hx hb dX1_init_44 rfl (lv_at hl 0 rfl) ?_
  refine lv_bipush (v := 9) hx hb dX1_init_45 (by decide) ?_
  refine va_newa (atype := .int) (ty := .int) (N' := 9) (a0 := (9, .inl (fun _ => 0))) hx hb (hts (.arrayClass .int) (by decide +kernel)) rfl hK hP hD hS hA (my_arr0 9) (by decide +kernel) (by decide +kernel) (by decide +kernel) (Nat.le_of_ble_eq_true rfl) (Nat.le_of_ble_eq_true rfl) dX1_init_47 (fun q47 cA H hK2 hP hD hS => ?_)
  rw [cy_eq hK2] at hP hD
  have hP : va_P (dC, dI) vwCl [(h_this, .inr (1, [.int 0, .ref q12, .ref q21, .ref q30, .ref q39, .null, .null])), (q12, .inl (cy, 120, .inl (fun _ => 0))), (q21, .inl (cy, 2160, .inl (fun _ => 0))), (q30, .inl (cy, 180, .inl (fun _ => 0))), (q39, .inl (cy, 180, .inl (fun _ => 0))), (q47, .inl (cy, 9, .inl (fun _ => 0)))] H := hP
  have hD : va_D A [(h_this, .inr (1, [.int 0, .ref q12, .ref q21, .ref q30, .ref q39, .null, .null])), (q12, .inl (cy, 120, .inl (fun _ => 0))), (q21, .inl (cy, 2160, .inl (fun _ => 0))), (q30, .inl (cy, 180, .inl (fun _ => 0))), (q39, .inl (cy, 180, .inl (fun _ => 0))), (q47, .inl (cy, 9, .inl (fun _ => 0)))] := hD
  clear hK2
  refine W.widen (k := 5) (n := 2649) (by decide) (by decide) ?_
  refine va_putF (D := (dC, dI)) (ci := 1) (v := .ref q47) (ty := .array .int) (C := RX1) (T := TX1) (N := 7) hx hb hts in_X1 tyX1 tyX1_ok nmX1 hown hK hP hD hS 0 rfl rfl 5 (by decide) (hts (.fieldLink RX1 28 "ChequeDesk$Head" "before" "[I") (by decide +kernel)) (fun _ h9 => h9) rfl hin rfl (by decide +kernel) rfl rfl (Nat.le_of_ble_eq_true rfl) dX1_init_49 (fun H locs hP hD hS => ?_)
  have hP : va_P (dC, dI) vwCl [(h_this, .inr (1, [.int 0, .ref q12, .ref q21, .ref q30, .ref q39, .ref q47, .null])), (q12, .inl (cy, 120, .inl (fun _ => 0))), (q21, .inl (cy, 2160, .inl (fun _ => 0))), (q30, .inl (cy, 180, .inl (fun _ => 0))), (q39, .inl (cy, 180, .inl (fun _ => 0))), (q47, .inl (cy, 9, .inl (fun _ => 0)))] H := hP
  have hD : va_D A [(h_this, .inr (1, [.int 0, .ref q12, .ref q21, .ref q30, .ref q39, .ref q47, .null])), (q12, .inl (cy, 120, .inl (fun _ => 0))), (q21, .inl (cy, 2160, .inl (fun _ => 0))), (q30, .inl (cy, 180, .inl (fun _ => 0))), (q39, .inl (cy, 180, .inl (fun _ => 0))), (q47, .inl (cy, 9, .inl (fun _ => 0)))] := hD
  refine lv_aload_n hx hb dX1_init_52 rfl (lv_at hl 0 rfl) ?_
  refine lv_bipush (v := 9) hx hb dX1_init_53 (by decide) ?_
  refine va_newa (atype := .int) (ty := .int) (N' := 9) (a0 := (9, .inl (fun _ => 0))) hx hb (hts (.arrayClass .int) (by decide +kernel)) rfl hK hP hD hS hA (my_arr0 9) (by decide +kernel) (by decide +kernel) (by decide +kernel) (Nat.le_of_ble_eq_true rfl) (Nat.le_of_ble_eq_true rfl) dX1_init_55 (fun q55 cA H hK2 hP hD hS => ?_)
  rw [cy_eq hK2] at hP hD
  have hP : va_P (dC, dI) vwCl [(h_this, .inr (1, [.int 0, .ref q12, .ref q21, .ref q30, .ref q39, .ref q47, .null])), (q12, .inl (cy, 120, .inl (fun _ => 0))), (q21, .inl (cy, 2160, .inl (fun _ => 0))), (q30, .inl (cy, 180, .inl (fun _ => 0))), (q39, .inl (cy, 180, .inl (fun _ => 0))), (q47, .inl (cy, 9, .inl (fun _ => 0))), (q55, .inl (cy, 9, .inl (fun _ => 0)))] H := hP
  have hD : va_D A [(h_this, .inr (1, [.int 0, .ref q12, .ref q21, .ref q30, .ref q39, .ref q47, .null])), (q12, .inl (cy, 120, .inl (fun _ => 0))), (q21, .inl (cy, 2160, .inl (fun _ => 0))), (q30, .inl (cy, 180, .inl (fun _ => 0))), (q39, .inl (cy, 180, .inl (fun _ => 0))), (q47, .inl (cy, 9, .inl (fun _ => 0))), (q55, .inl (cy, 9, .inl (fun _ => 0)))] := hD
  clear hK2
  refine W.widen (k := 6) (n := 2658) (by decide) (by decide) ?_
  refine va_putF (D := (dC, dI)) (ci := 1) (v := .ref q55) (ty := .array .int) (C := RX1) (T := TX1) (N := 7) hx hb hts in_X1 tyX1 tyX1_ok nmX1 hown hK hP hD hS 0 rfl rfl 6 (by decide) (hts (.fieldLink RX1 31 "ChequeDesk$Head" "joined" "[I") (by decide +kernel)) (fun _ h9 => h9) rfl hin rfl (by decide +kernel) rfl rfl (Nat.le_of_ble_eq_true rfl) dX1_init_57 (fun H locs hP hD hS => ?_)
  have hP : va_P (dC, dI) vwCl [(h_this, .inr (1, [.int 0, .ref q12, .ref q21, .ref q30, .ref q39, .ref q47, .ref q55])), (q12, .inl (cy, 120, .inl (fun _ => 0))), (q21, .inl (cy, 2160, .inl (fun _ => 0))), (q30, .inl (cy, 180, .inl (fun _ => 0))), (q39, .inl (cy, 180, .inl (fun _ => 0))), (q47, .inl (cy, 9, .inl (fun _ => 0))), (q55, .inl (cy, 9, .inl (fun _ => 0)))] H := hP
  have hD : va_D A [(h_this, .inr (1, [.int 0, .ref q12, .ref q21, .ref q30, .ref q39, .ref q47, .ref q55])), (q12, .inl (cy, 120, .inl (fun _ => 0))), (q21, .inl (cy, 2160, .inl (fun _ => 0))), (q30, .inl (cy, 180, .inl (fun _ => 0))), (q39, .inl (cy, 180, .inl (fun _ => 0))), (q47, .inl (cy, 9, .inl (fun _ => 0))), (q55, .inl (cy, 9, .inl (fun _ => 0)))] := hD
  have hP9 := hP.sub (ws' := [(h_this, .inr (1, [.int 0, .ref q12, .ref q21, .ref q30, .ref q39, .ref q47, .ref q55])), (q47, .inl (cy, 9, .inl (fun _ => 0))), (q39, .inl (cy, 180, .inl (fun _ => 0))), (q21, .inl (cy, 2160, .inl (fun _ => 0))), (q30, .inl (cy, 180, .inl (fun _ => 0))), (q55, .inl (cy, 9, .inl (fun _ => 0))), (q12, .inl (cy, 120, .inl (fun _ => 0)))]) [0, 5, 4, 2, 3, 6, 1] rfl
  have hD9 := hD.sub (ws' := [(h_this, .inr (1, [.int 0, .ref q12, .ref q21, .ref q30, .ref q39, .ref q47, .ref q55])), (q47, .inl (cy, 9, .inl (fun _ => 0))), (q39, .inl (cy, 180, .inl (fun _ => 0))), (q21, .inl (cy, 2160, .inl (fun _ => 0))), (q30, .inl (cy, 180, .inl (fun _ => 0))), (q55, .inl (cy, 9, .inl (fun _ => 0))), (q12, .inl (cy, 120, .inl (fun _ => 0)))]) [0, 5, 4, 2, 3, 6, 1] (by decide) rfl
  exact W.vret hx hb hr (fun t ht hW => ⟨⟨(q47, q39, q21, q30, q55, q12), rfl, trivial, by rw [ht]; exact hP9, va_K.moved hW.alike hK, hD9⟩, hS.F ht⟩) hS.2.2 dX1_init_60
