abbrev rm_X2_init : Room := { frames := 1, cells := 6, slots := 520, locals := 12 }
theorem q_X2_init : yX2_init.cls ≠ "java/lang/invoke/MethodHandle" ∧ yX2_init.cls ≠ "java/lang/invoke/VarHandle" ∧ (parseMethodDescriptor yX2_init.desc).map (fun d => d.parameters.length) = some 0 := by decide +kernel
set_option maxHeartbeats 4000000 in
set_option maxRecDepth 100000 in
theorem c_X2_init (l : Launch) (dC : Nat → ClassId) (dI : Nat → Nat → Nat) (cy : ClassId) (h_this sz : Nat) : Met l yX2_init wsX2_init rm_X2_init (va_Pc [.ref h_this] (fun U => U.heap.size = sz ∧ va_P (dC, dI) vwCl [(h_this, .inr (2, [.int 0, .null, .int 0, .null, .null, .null, .null, .null]))] U.heap ∧ va_K (dC, dI) vwCl [(cy, .int)] U ∧ va_D (fun _ => True) [(h_this, .inr (2, [.int 0, .null, .int 0, .null, .null, .null, .null, .null]))])) (va_Qv (fun (_ : Nat × Nat × Nat × Nat × Nat × Nat) => True) (fun (u : Nat × Nat × Nat × Nat × Nat × Nat) (t : State) => va_P (dC, dI) vwCl [(h_this, .inr (2, [.int 0, .ref (u.2.2.2.2.2), .int 0, .ref (u.2.2.2.1), .ref (u.2.1), .ref (u.2.2.1), .ref (u.1), .ref (u.2.2.2.2.1)])), ((u.1), .inl (cy, 100, .inl (fun _ => 0))), ((u.2.1), .inl (cy, 100, .inl (fun _ => 0))), ((u.2.2.1), .inl (cy, 100, .inl (fun _ => 0))), ((u.2.2.2.1), .inl (cy, 100, .inl (fun _ => 0))), ((u.2.2.2.2.1), .inl (cy, 100, .inl (fun _ => 0))), ((u.2.2.2.2.2), .inl (cy, 20, .inl (fun _ => 0)))] t.heap ∧ va_K (dC, dI) vwCl [(cy, .int)] t ∧ va_D (va_A [(h_this, .inr (2, [.int 0, .null, .int 0, .null, .null, .null, .null, .null]))] sz) [(h_this, .inr (2, [.int 0, .ref (u.2.2.2.2.2), .int 0, .ref (u.2.2.2.1), .ref (u.2.1), .ref (u.2.2.1), .ref (u.1), .ref (u.2.2.2.2.1)])), ((u.1), .inl (cy, 100, .inl (fun _ => 0))), ((u.2.1), .inl (cy, 100, .inl (fun _ => 0))), ((u.2.2.1), .inl (cy, 100, .inl (fun _ => 0))), ((u.2.2.2.1), .inl (cy, 100, .inl (fun _ => 0))), ((u.2.2.2.2.1), .inl (cy, 100, .inl (fun _ => 0))), ((u.2.2.2.2.2), .inl (cy, 20, .inl (fun _ => 0)))]) (va_A [(h_this, .inr (2, [.int 0, .null, .int 0, .null, .null, .null, .null, .null]))] sz)) 6 520 (va_A [(h_this, .inr (2, [.int 0, .null, .int 0, .null, .null, .null, .null, .null]))] sz) := by
  refine Met.ofW (cc := cX2_init) (maxL := 1) (ret := none) (by decide) rfl ?_
  intro p e s m args below meth c s₁ B hml hv
  obtain ⟨rfl, hsz, hP, hK, hD0⟩ := hv
  have hx := B.exec
  have hb := B.bytes
  have hr := B.returns
  have hts := atoms_spec (ws := wsX2_init) B.pre
  have hown : s.vm.findClass RX2 = some m.cls := findClass_of_methodNamed B.named
  have hlocks := B.notSynchronized
  have hin : meth.name = "<init>" := (name_of_methodNamed B.named B.method).1
  subst hsz
  have hD := hD0.self (sz := s.heap.size)
  generalize hAe : va_A [(h_this, .inr (2, [.int 0, .null, .int 0, .null, .null, .null, .null, .null]))] s.heap.size = A at hD ⊢
  have hA : ∀ q : Nat, s.heap.size ≤ q → A q := fun q h => by rw [← hAe]; exact Or.inr h
  have hS : va_S A s.heap s.heap [] := va_S.rf
  have hl := lv_entry ([.ref h_this]) (n := 1) (Nat.le_of_ble_eq_true rfl)
  rw [lg_entry_eq]
  generalize (lg_sl ([.ref h_this]) ++ List.replicate (1 - (lg_sl ([.ref h_this])).length) Slot.unset).toArray = ls at hl ⊢
  have hl : lv_has ls 1 [(0, .ref h_this)] := hl
  have in_X2 : ∀ w ∈ u_ws RX2 TX2 8, w ∈ wsX2_init := by decide +kernel
  change W p l e rm_X2_init s m _ below meth c s.heap [] 0 0 _ _
  refine lv_aload_n hx hb dX2_init_0 rfl (lv_at hl 0 rfl) ?_
  refine W.objInit hx hb hown (hts (.methodLink RX2 3 objectInit) (by decide +kernel)) (hts (.instanceMethod objectInit) (by decide +kernel)) (hts (.code objectInit ⟨#[0xb1]⟩ 1 none) (by decide +kernel)) rfl (by rw [hml]; exact hl.1) rfl dX2_init_1 (Nat.le_of_ble_eq_true rfl) (Nat.le_of_ble_eq_true rfl) ?_
  refine W.eq (g2 := F0 m 4 ls []) rfl ?_
  refine lv_aload_n hx hb dX2_init_4 rfl (lv_at hl 0 rfl) ?_
  refine lv_iconst (v := 0) hx hb dX2_init_5 (by decide) ?_
  refine va_put (D := (dC, dI)) (ci := 2) (v := .int 0) (ty := .int) (C := RX2) (T := TX2) (N := 8) hx hb hts in_X2 tyX2 tyX2_ok nmX2 hown hK hP hD hS 0 rfl rfl 0 (by decide) (hts (.fieldLink RX2 9 "ChequeDesk$Ledger" "batches" "I") (by decide +kernel)) (fun _ h9 => h9) rfl (by decide +kernel) rfl rfl (Nat.le_of_ble_eq_true rfl) dX2_init_6 (fun H locs hP hD hS => ?_)
  have hP : va_P (dC, dI) vwCl [(h_this, .inr (2, [.int 0, .null, .int 0, .null, .null, .null, .null, .null]))] H := hP
  have hD : va_D A [(h_this, .inr (2, [.int 0, .null, .int 0, .null, .null, .null, .null, .null]))] := hD
  refine lv_aload_n hx hb dX2_init_9 rfl (lv_at hl 0 rfl) ?_
  refine lv_bipush (v := 20) hx hb dX2_init_10 (by decide) ?_
  refine va_newa (atype := .int) (ty := .int) (N' := 20) (a0 := (20, .inl (fun _ => 0))) hx hb (hts (.arrayClass .int) (by decide +kernel)) rfl hK hP hD hS hA (my_arr0 20) (by decide +kernel) (by decide +kernel) (by decide +kernel) (Nat.le_of_ble_eq_true rfl) (Nat.le_of_ble_eq_true rfl) dX2_init_12 (fun q12 cA H hK2 hP hD hS => ?_)
  rw [cy_eq hK2] at hP hD
  have hP : va_P (dC, dI) vwCl [(h_this, .inr (2, [.int 0, .null, .int 0, .null, .null, .null, .null, .null])), (q12, .inl (cy, 20, .inl (fun _ => 0)))] H := hP
  have hD : va_D A [(h_this, .inr (2, [.int 0, .null, .int 0, .null, .null, .null, .null, .null])), (q12, .inl (cy, 20, .inl (fun _ => 0)))] := hD
  clear hK2
  refine W.widen (k := 1) (n := 20) (by decide) (by decide) ?_
  refine va_putF (D := (dC, dI)) (ci := 2) (v := .ref q12) (ty := .array .int) (C := RX2) (T := TX2) (N := 8) hx hb hts in_X2 tyX2 tyX2_ok nmX2 hown hK hP hD hS 0 rfl rfl 1 (by decide) (hts (.fieldLink RX2 15 "ChequeDesk$Ledger" "told" "[I") (by decide +kernel)) (fun _ h9 => h9) rfl hin rfl (by decide +kernel) rfl rfl (Nat.le_of_ble_eq_true rfl) dX2_init_14 (fun H locs hP hD hS => ?_)
  have hP : va_P (dC, dI) vwCl [(h_this, .inr (2, [.int 0, .ref q12, .int 0, .null, .null, .null, .null, .null])), (q12, .inl (cy, 20, .inl (fun _ => 0)))] H := hP
  have hD : va_D A [(h_this, .inr (2, [.int 0, .ref q12, .int 0, .null, .null, .null, .null, .null])), (q12, .inl (cy, 20, .inl (fun _ => 0)))] := hD
  refine lv_aload_n hx hb dX2_init_17 rfl (lv_at hl 0 rfl) ?_
  refine lv_iconst (v := 0) hx hb dX2_init_18 (by decide) ?_
  refine va_put (D := (dC, dI)) (ci := 2) (v := .int 0) (ty := .int) (C := RX2) (T := TX2) (N := 8) hx hb hts in_X2 tyX2 tyX2_ok nmX2 hown hK hP hD hS 0 rfl rfl 2 (by decide) (hts (.fieldLink RX2 19 "ChequeDesk$Ledger" "papers" "I") (by decide +kernel)) (fun _ h9 => h9) rfl (by decide +kernel) rfl rfl (Nat.le_of_ble_eq_true rfl) dX2_init_19 (fun H locs hP hD hS => ?_)
  have hP : va_P (dC, dI) vwCl [(h_this, .inr (2, [.int 0, .ref q12, .int 0, .null, .null, .null, .null, .null])), (q12, .inl (cy, 20, .inl (fun _ => 0)))] H := hP
  have hD : va_D A [(h_this, .inr (2, [.int 0, .ref q12, .int 0, .null, .null, .null, .null, .null])), (q12, .inl (cy, 20, .inl (fun _ => 0)))] := hD
  refine lv_aload_n hx hb dX2_init_22 rfl (lv_at hl 0 rfl) ?_
  refine lv_bipush (v := 100) hx hb dX2_init_23 (by decide) ?_
  refine va_newa (atype := .int) (ty := .int) (N' := 100) (a0 := (100, .inl (fun _ => 0))) hx hb (hts (.arrayClass .int) (by decide +kernel)) rfl hK hP hD hS hA (my_arr0 100) (by decide +kernel) (by decide +kernel) (by decide +kernel) (Nat.le_of_ble_eq_true rfl) (Nat.le_of_ble_eq_true rfl) dX2_init_25 (fun q25 cA H hK2 hP hD hS => ?_)
  rw [cy_eq hK2] at hP hD
  have hP : va_P (dC, dI) vwCl [(h_this, .inr (2, [.int 0, .ref q12, .int 0, .null, .null, .null, .null, .null])), (q12, .inl (cy, 20, .inl (fun _ => 0))), (q25, .inl (cy, 100, .inl (fun _ => 0)))] H := hP
  have hD : va_D A [(h_this, .inr (2, [.int 0, .ref q12, .int 0, .null, .null, .null, .null, .null])), (q12, .inl (cy, 20, .inl (fun _ => 0))), (q25, .inl (cy, 100, .inl (fun _ => 0)))] := hD
  clear hK2
  refine W.widen (k := 2) (n := 120) (by decide) (by decide) ?_
  refine va_putF (D := (dC, dI)) (ci := 2) (v := .ref q25) (ty := .array .int) (C := RX2) (T := TX2) (N := 8) hx hb hts in_X2 tyX2 tyX2_ok nmX2 hown hK hP hD hS 0 rfl rfl 3 (by decide) (hts (.fieldLink RX2 22 "ChequeDesk$Ledger" "batchOf" "[I") (by decide +kernel)) (fun _ h9 => h9) rfl hin rfl (by decide +kernel) rfl rfl (Nat.le_of_ble_eq_true rfl) dX2_init_27 (fun H locs hP hD hS => ?_)
  have hP : va_P (dC, dI) vwCl [(h_this, .inr (2, [.int 0, .ref q12, .int 0, .ref q25, .null, .null, .null, .null])), (q12, .inl (cy, 20, .inl (fun _ => 0))), (q25, .inl (cy, 100, .inl (fun _ => 0)))] H := hP
  have hD : va_D A [(h_this, .inr (2, [.int 0, .ref q12, .int 0, .ref q25, .null, .null, .null, .null])), (q12, .inl (cy, 20, .inl (fun _ => 0))), (q25, .inl (cy, 100, .inl (fun _ => 0)))] := hD
  refine lv_aload_n hx hb dX2_init_30 rfl (lv_at hl 0 rfl) ?_
  refine lv_bipush (v := 100) hx hb dX2_init_31 (by decide) ?_
  refine va_newa (atype := .int) (ty := .int) (N' := 100) (a0 := (100, .inl (fun _ => 0))) hx hb (hts (.arrayClass .int) (by decide +kernel)) rfl hK hP hD hS hA (my_arr0 100) (by decide +kernel) (by decide +kernel) (by decide +kernel) (Nat.le_of_ble_eq_true rfl) (Nat.le_of_ble_eq_true rfl) dX2_init_33 (fun q33 cA H hK2 hP hD hS => ?_)
  rw [cy_eq hK2] at hP hD
  have hP : va_P (dC, dI) vwCl [(h_this, .inr (2, [.int 0, .ref q12, .int 0, .ref q25, .null, .null, .null, .null])), (q12, .inl (cy, 20, .inl (fun _ => 0))), (q25, .inl (cy, 100, .inl (fun _ => 0))), (q33, .inl (cy, 100, .inl (fun _ => 0)))] H := hP
  have hD : va_D A [(h_this, .inr (2, [.int 0, .ref q12, .int 0, .ref q25, .null, .null, .null, .null])), (q12, .inl (cy, 20, .inl (fun _ => 0))), (q25, .inl (cy, 100, .inl (fun _ => 0))), (q33, .inl (cy, 100, .inl (fun _ => 0)))] := hD
  clear hK2
  refine W.widen (k := 3) (n := 220) (by decide) (by decide) ?_
  refine va_putF (D := (dC, dI)) (ci := 2) (v := .ref q33) (ty := .array .int) (C := RX2) (T := TX2) (N := 8) hx hb hts in_X2 tyX2 tyX2_ok nmX2 hown hK hP hD hS 0 rfl rfl 4 (by decide) (hts (.fieldLink RX2 25 "ChequeDesk$Ledger" "amounts" "[I") (by decide +kernel)) (fun _ h9 => h9) rfl hin rfl (by decide +kernel) rfl rfl (Nat.le_of_ble_eq_true rfl) dX2_init_35 (fun H locs hP hD hS => ?_)
  have hP : va_P (dC, dI) vwCl [(h_this, .inr (2, [.int 0, .ref q12, .int 0, .ref q25, .ref q33, .null, .null, .null])), (q12, .inl (cy, 20, .inl (fun _ => 0))), (q25, .inl (cy, 100, .inl (fun _ => 0))), (q33, .inl (cy, 100, .inl (fun _ => 0)))] H := hP
  have hD : va_D A [(h_this, .inr (2, [.int 0, .ref q12, .int 0, .ref q25, .ref q33, .null, .null, .null])), (q12, .inl (cy, 20, .inl (fun _ => 0))), (q25, .inl (cy, 100, .inl (fun _ => 0))), (q33, .inl (cy, 100, .inl (fun _ => 0)))] := hD
  refine lv_aload_n hx hb dX2_init_38 rfl (lv_at hl 0 rfl) ?_
  refine lv_bipush (v := 100) hx hb dX2_init_39 (by decide) ?_
  refine va_newa (atype := .int) (ty := .int) (N' := 100) (a0 := (100, .inl (fun _ => 0))) hx hb (hts (.arrayClass .int) (by decide +kernel)) rfl hK hP hD hS hA (my_arr0 100) (by decide +kernel) (by decide +kernel) (by decide +kernel) (Nat.le_of_ble_eq_true rfl) (Nat.le_of_ble_eq_true rfl) dX2_init_41 (fun q41 cA H hK2 hP hD hS => ?_)
  rw [cy_eq hK2] at hP hD
  have hP : va_P (dC, dI) vwCl [(h_this, .inr (2, [.int 0, .ref q12, .int 0, .ref q25, .ref q33, .null, .null, .null])), (q12, .inl (cy, 20, .inl (fun _ => 0))), (q25, .inl (cy, 100, .inl (fun _ => 0))), (q33, .inl (cy, 100, .inl (fun _ => 0))), (q41, .inl (cy, 100, .inl (fun _ => 0)))] H := hP
  have hD : va_D A [(h_this, .inr (2, [.int 0, .ref q12, .int 0, .ref q25, .ref q33, .null, .null, .null])), (q12, .inl (cy, 20, .inl (fun _ => 0))), (q25, .inl (cy, 100, .inl (fun _ => 0))), (q33, .inl (cy, 100, .inl (fun _ => 0))), (q41, .inl (cy, 100, .inl (fun _ => 0)))] := hD
  clear hK2
  refine W.widen (k := 4) (n := 320) (by decide) (by decide) ?_
  refine va_putF (D := (dC, dI)) (ci := 2) (v := .ref q41) (ty := .array .int) (C := RX2) (T := TX2) (N := 8) hx hb hts in_X2 tyX2 tyX2_ok nmX2 hown hK hP hD hS 0 rfl rfl 5 (by decide) (hts (.fieldLink RX2 28 "ChequeDesk$Ledger" "banks" "[I") (by decide +kernel)) (fun _ h9 => h9) rfl hin rfl (by decide +kernel) rfl rfl (Nat.le_of_ble_eq_true rfl) dX2_init_43 (fun H locs hP hD hS => ?_)
  have hP : va_P (dC, dI) vwCl [(h_this, .inr (2, [.int 0, .ref q12, .int 0, .ref q25, .ref q33, .ref q41, .null, .null])), (q12, .inl (cy, 20, .inl (fun _ => 0))), (q25, .inl (cy, 100, .inl (fun _ => 0))), (q33, .inl (cy, 100, .inl (fun _ => 0))), (q41, .inl (cy, 100, .inl (fun _ => 0)))] H := hP
  have hD : va_D A [(h_this, .inr (2, [.int 0, .ref q12, .int 0, .ref q25, .ref q33, .ref q41, .null, .null])), (q12, .inl (cy, 20, .inl (fun _ => 0))), (q25, .inl (cy, 100, .inl (fun _ => 0))), (q33, .inl (cy, 100, .inl (fun _ => 0))), (q41, .inl (cy, 100, .inl (fun _ => 0)))] := hD
  refine lv_aload_n hx hb dX2_init_46 rfl (lv_at hl 0 rfl) ?_
  refine lv_bipush (v := 100) hx hb dX2_init_47 (by decide) ?_
  refine va_newa (atype := .int) (ty := .int) (N' := 100) (a0 := (100, .inl (fun _ => 0))) hx hb (hts (.arrayClass .int) (by decide +kernel)) rfl hK hP hD hS hA (my_arr0 100) (by decide +kernel) (by decide +kernel) (by decide +kernel) (Nat.le_of_ble_eq_true rfl) (Nat.le_of_ble_eq_true rfl) dX2_init_49 (fun q49 cA H hK2 hP hD hS => ?_)
  rw [cy_eq hK2] at hP hD
  have hP : va_P (dC, dI) vwCl [(h_this, .inr (2, [.int 0, .ref q12, .int 0, .ref q25, .ref q33, .ref q41, .null, .null])), (q12, .inl (cy, 20, .inl (fun _ => 0))), (q25, .inl (cy, 100, .inl (fun _ => 0))), (q33, .inl (cy, 100, .inl (fun _ => 0))), (q41, .inl (cy, 100, .inl (fun _ => 0))), (q49, .inl (cy, 100, .inl (fun _ => 0)))] H := hP
  have hD : va_D A [(h_this, .inr (2, [.int 0, .ref q12, .int 0, .ref q25, .ref q33, .ref q41, .null, .null])), (q12, .inl (cy, 20, .inl (fun _ => 0))), (q25, .inl (cy, 100, .inl (fun _ => 0))), (q33, .inl (cy, 100, .inl (fun _ => 0))), (q41, .inl (cy, 100, .inl (fun _ => 0))), (q49, .inl (cy, 100, .inl (fun _ => 0)))] := hD
  clear hK2
  refine W.widen (k := 5) (n := 420) (by decide) (by decide) ?_
  refine va_putF (D := (dC, dI)) (ci := 2) (v := .ref q49) (ty := .array .int) (C := RX2) (T := TX2) (N := 8) hx hb hts in_X2 tyX2 tyX2_ok nmX2 hown hK hP hD hS 0 rfl rfl 6 (by decide) (hts (.fieldLink RX2 31 "ChequeDesk$Ledger" "accounts" "[I") (by decide +kernel)) (fun _ h9 => h9) rfl hin rfl (by decide +kernel) rfl rfl (Nat.le_of_ble_eq_true rfl) dX2_init_51 (fun H locs hP hD hS => ?_)
  have hP : va_P (dC, dI) vwCl [(h_this, .inr (2, [.int 0, .ref q12, .int 0, .ref q25, .ref q33, .ref q41, .ref q49, .null])), (q12, .inl (cy, 20, .inl (fun _ => 0))), (q25, .inl (cy, 100, .inl (fun _ => 0))), (q33, .inl (cy, 100, .inl (fun _ => 0))), (q41, .inl (cy, 100, .inl (fun _ => 0))), (q49, .inl (cy, 100, .inl (fun _ => 0)))] H := hP
  have hD : va_D A [(h_this, .inr (2, [.int 0, .ref q12, .int 0, .ref q25, .ref q33, .ref q41, .ref q49, .null])), (q12, .inl (cy, 20, .inl (fun _ => 0))), (q25, .inl (cy, 100, .inl (fun _ => 0))), (q33, .inl (cy, 100, .inl (fun _ => 0))), (q41, .inl (cy, 100, .inl (fun _ => 0))), (q49, .inl (cy, 100, .inl (fun _ => 0)))] := hD
  refine lv_aload_n hx hb dX2_init_54 rfl (lv_at hl 0 rfl) ?_
  refine lv_bipush (v := 100) hx hb dX2_init_55 (by decide) ?_
  refine va_newa (atype := .int) (ty := .int) (N' := 100) (a0 := (100, .inl (fun _ => 0))) hx hb (hts (.arrayClass .int) (by decide +kernel)) rfl hK hP hD hS hA (my_arr0 100) (by decide +kernel) (by decide +kernel) (by decide +kernel) (Nat.le_of_ble_eq_true rfl) (Nat.le_of_ble_eq_true rfl) dX2_init_57 (fun q57 cA H hK2 hP hD hS => ?_)
  rw [cy_eq hK2] at hP hD
  have hP : va_P (dC, dI) vwCl [(h_this, .inr (2, [.int 0, .ref q12, .int 0, .ref q25, .ref q33, .ref q41, .ref q49, .null])), (q12, .inl (cy, 20, .inl (fun _ => 0))), (q25, .inl (cy, 100, .inl (fun _ => 0))), (q33, .inl (cy, 100, .inl (fun _ => 0))), (q41, .inl (cy, 100, .inl (fun _ => 0))), (q49, .inl (cy, 100, .inl (fun _ => 0))), (q57, .inl (cy, 100, .inl (fun _ => 0)))] H := hP
  have hD : va_D A [(h_this, .inr (2, [.int 0, .ref q12, .int 0, .ref q25, .ref q33, .ref q41, .ref q49, .null])), (q12, .inl (cy, 20, .inl (fun _ => 0))), (q25, .inl (cy, 100, .inl (fun _ => 0))), (q33, .inl (cy, 100, .inl (fun _ => 0))), (q41, .inl (cy, 100, .inl (fun _ => 0))), (q49, .inl (cy, 100, .inl (fun _ => 0))), (q57, .inl (cy, 100, .inl (fun _ => 0)))] := hD
  clear hK2
  refine W.widen (k := 6) (n := 520) (by decide) (by decide) ?_
  refine va_putF (D := (dC, dI)) (ci := 2) (v := .ref q57) (ty := .array .int) (C := RX2) (T := TX2) (N := 8) hx hb hts in_X2 tyX2 tyX2_ok nmX2 hown hK hP hD hS 0 rfl rfl 7 (by decide) (hts (.fieldLink RX2 34 "ChequeDesk$Ledger" "numbers" "[I") (by decide +kernel)) (fun _ h9 => h9) rfl hin rfl (by decide +kernel) rfl rfl (Nat.le_of_ble_eq_true rfl) dX2_init_59 (fun H locs hP hD hS => ?_)
  have hP : va_P (dC, dI) vwCl [(h_this, .inr (2, [.int 0, .ref q12, .int 0, .ref q25, .ref q33, .ref q41, .ref q49, .ref q57])), (q12, .inl (cy, 20, .inl (fun _ => 0))), (q25, .inl (cy, 100, .inl (fun _ => 0))), (q33, .inl (cy, 100, .inl (fun _ => 0))), (q41, .inl (cy, 100, .inl (fun _ => 0))), (q49, .inl (cy, 100, .inl (fun _ => 0))), (q57, .inl (cy, 100, .inl (fun _ => 0)))] H := hP
  have hD : va_D A [(h_this, .inr (2, [.int 0, .ref q12, .int 0, .ref q25, .ref q33, .ref q41, .ref q49, .ref q57])), (q12, .inl (cy, 20, .inl (fun _ => 0))), (q25, .inl (cy, 100, .inl (fun _ => 0))), (q33, .inl (cy, 100, .inl (fun _ => 0))), (q41, .inl (cy, 100, .inl (fun _ => 0))), (q49, .inl (cy, 100, .inl (fun _ => 0))), (q57, .inl (cy, 100, .inl (fun _ => 0)))] := hD
  have hP9 := hP.sub (ws' := [(h_this, .inr (2, [.int 0, .ref q12, .int 0, .ref q25, .ref q33, .ref q41, .ref q49, .ref q57])), (q49, .inl (cy, 100, .inl (fun _ => 0))), (q33, .inl (cy, 100, .inl (fun _ => 0))), (q41, .inl (cy, 100, .inl (fun _ => 0))), (q25, .inl (cy, 100, .inl (fun _ => 0))), (q57, .inl (cy, 100, .inl (fun _ => 0))), (q12, .inl (cy, 20, .inl (fun _ => 0)))]) [0, 5, 3, 4, 2, 6, 1] rfl
  have hD9 := hD.sub (ws' := [(h_this, .inr (2, [.int 0, .ref q12, .int 0, .ref q25, .ref q33, .ref q41, .ref q49, .ref q57])), (q49, .inl (cy, 100, .inl (fun _ => 0))), (q33, .inl (cy, 100, .inl (fun _ => 0))), (q41, .inl (cy, 100, .inl (fun _ => 0))), (q25, .inl (cy, 100, .inl (fun _ => 0))), (q57, .inl (cy, 100, .inl (fun _ => 0))), (q12, .inl (cy, 20, .inl (fun _ => 0)))]) [0, 5, 3, 4, 2, 6, 1] (by decide) rfl
  exact W.vret hx hb hr (fun t ht hW => ⟨⟨(q49, q33, q41, q25, q57, q12), rfl, trivial, by rw [ht]; exact hP9, va_K.moved hW.alike hK, hD9⟩, hS.F ht⟩) hS.2.2 dX2_init_62
