abbrev rm_X4_init : Room := { frames := 1, cells := 3, slots := 903, locals := 12 }
theorem q_X4_init : yX4_init.cls ≠ "java/lang/invoke/MethodHandle" ∧ yX4_init.cls ≠ "java/lang/invoke/VarHandle" ∧ (parseMethodDescriptor yX4_init.desc).map (fun d => d.parameters.length) = some 0 := by decide +kernel
set_option maxHeartbeats 4000000 in
set_option maxRecDepth 100000 in
theorem c_X4_init (l : Launch) (dC : Nat → ClassId) (dI : Nat → Nat → Nat) (cy : ClassId) (h_this sz : Nat) : Met l yX4_init wsX4_init rm_X4_init (va_Pc [.ref h_this] (fun U => U.heap.size = sz ∧ va_P (dC, dI) vwCl [(h_this, .inr (4, [.int 0, .null, .null, .null]))] U.heap ∧ va_K (dC, dI) vwCl [(cy, .int)] U ∧ va_D (fun _ => True) [(h_this, .inr (4, [.int 0, .null, .null, .null]))])) (va_Qv (fun (_ : Nat × Nat × Nat) => True) (fun (u : Nat × Nat × Nat) (t : State) => va_P (dC, dI) vwCl [(h_this, .inr (4, [.int 0, .ref (u.2.1), .ref (u.2.2), .ref (u.1)])), ((u.1), .inl (cy, 301, .inl (fun _ => 0))), ((u.2.1), .inl (cy, 301, .inl (fun _ => 0))), ((u.2.2), .inl (cy, 301, .inl (fun _ => 0)))] t.heap ∧ va_K (dC, dI) vwCl [(cy, .int)] t ∧ va_D (va_A [(h_this, .inr (4, [.int 0, .null, .null, .null]))] sz) [(h_this, .inr (4, [.int 0, .ref (u.2.1), .ref (u.2.2), .ref (u.1)])), ((u.1), .inl (cy, 301, .inl (fun _ => 0))), ((u.2.1), .inl (cy, 301, .inl (fun _ => 0))), ((u.2.2), .inl (cy, 301, .inl (fun _ => 0)))]) (va_A [(h_this, .inr (4, [.int 0, .null, .null, .null]))] sz)) 3 903 (va_A [(h_this, .inr (4, [.int 0, .null, .null, .null]))] sz) := by
  refine Met.ofW (cc := cX4_init) (maxL := 1) (ret := none) (by decide) rfl ?_
  intro p e s m args below meth c s₁ B hml hv
  obtain ⟨rfl, hsz, hP, hK, hD0⟩ := hv
  have hx := B.exec
  have hb := B.bytes
  have hr := B.returns
  have hts := atoms_spec (ws := wsX4_init) B.pre
  have hown : s.vm.findClass RX4 = some m.cls := findClass_of_methodNamed B.named
  have hlocks := B.notSynchronized
  have hin : meth.name = "<init>" := (name_of_methodNamed B.named B.method).1
  subst hsz
  have hD := hD0.self (sz := s.heap.size)
  generalize hAe : va_A [(h_this, .inr (4, [.int 0, .null, .null, .null]))] s.heap.size = A at hD ⊢
  have hA : ∀ q : Nat, s.heap.size ≤ q → A q := fun q h => by rw [← hAe]; exact Or.inr h
  have hS : va_S A s.heap s.heap [] := va_S.rf
  have hl := lv_entry ([.ref h_this]) (n := 1) (Nat.le_of_ble_eq_true rfl)
  rw [lg_entry_eq]
  generalize (lg_sl ([.ref h_this]) ++ List.replicate (1 - (lg_sl ([.ref h_this])).length) Slot.unset).toArray = ls at hl ⊢
  have hl : lv_has ls 1 [(0, .ref h_this)] := hl
  have in_X4 : ∀ w ∈ u_ws RX4 TX4 4, w ∈ wsX4_init := by decide +kernel
  change W p l e rm_X4_init s m _ below meth c s.heap [] 0 0 _ _
  refine lv_aload_n hx hb dX4_init_0 rfl (lv_at hl 0 rfl) ?_
  refine W.objInit hx hb hown (hts (.methodLink RX4 3 objectInit) (by decide +kernel)) (hts (.instanceMethod objectInit) (by decide +kernel)) (hts (.code objectInit ⟨#[0xb1]⟩ 1 none) (by decide +kernel)) rfl (by rw [hml]; exact hl.1) rfl dX4_init_1 (Nat.le_of_ble_eq_true rfl) (Nat.le_of_ble_eq_true rfl) ?_
  refine W.eq (g2 := F0 m 4 ls []) rfl ?_
  refine lv_aload_n hx hb dX4_init_4 rfl (lv_at hl 0 rfl) ?_
  refine lv_iconst (v := 0) hx hb dX4_init_5 (by decide) ?_
  refine va_put (D := (dC, dI)) (ci := 4) (v := .int 0) (ty := .int) (C := RX4) (T := TX4) (N := 4) hx hb hts in_X4 tyX4 tyX4_ok nmX4 hown hK hP hD hS 0 rfl rfl 0 (by decide) (hts (.fieldLink RX4 9 "ChequeDesk$Slips" "size" "I") (by decide +kernel)) (fun _ h9 => h9) rfl (by decide +kernel) rfl rfl (Nat.le_of_ble_eq_true rfl) dX4_init_6 (fun H locs hP hD hS => ?_)
  have hP : va_P (dC, dI) vwCl [(h_this, .inr (4, [.int 0, .null, .null, .null]))] H := hP
  have hD : va_D A [(h_this, .inr (4, [.int 0, .null, .null, .null]))] := hD
  refine lv_aload_n hx hb dX4_init_9 rfl (lv_at hl 0 rfl) ?_
  refine lv_sipush (v := 301) hx hb dX4_init_10 (by decide) ?_
  refine va_newa (atype := .int) (ty := .int) (N' := 301) (a0 := (301, .inl (fun _ => 0))) hx hb (hts (.arrayClass .int) (by decide +kernel)) rfl hK hP hD hS hA (my_arr0 301) (by decide +kernel) (by decide +kernel) (by decide +kernel) (Nat.le_of_ble_eq_true rfl) (Nat.le_of_ble_eq_true rfl) dX4_init_13 (fun q13 cA H hK2 hP hD hS => ?_)
  rw [cy_eq hK2] at hP hD
  have hP : va_P (dC, dI) vwCl [(h_this, .inr (4, [.int 0, .null, .null, .null])), (q13, .inl (cy, 301, .inl (fun _ => 0)))] H := hP
  have hD : va_D A [(h_this, .inr (4, [.int 0, .null, .null, .null])), (q13, .inl (cy, 301, .inl (fun _ => 0)))] := hD
  clear hK2
  refine W.widen (k := 1) (n := 301) (by decide) (by decide) ?_
  refine va_putF (D := (dC, dI)) (ci := 4) (v := .ref q13) (ty := .array .int) (C := RX4) (T := TX4) (N := 4) hx hb hts in_X4 tyX4 tyX4_ok nmX4 hown hK hP hD hS 0 rfl rfl 1 (by decide) (hts (.fieldLink RX4 15 "ChequeDesk$Slips" "kinds" "[I") (by decide +kernel)) (fun _ h9 => h9) rfl hin rfl (by decide +kernel) rfl rfl (Nat.le_of_ble_eq_true rfl) dX4_init_15 (fun H locs hP hD hS => ?_)
  have hP : va_P (dC, dI) vwCl [(h_this, .inr (4, [.int 0, .ref q13, .null, .null])), (q13, .inl (cy, 301, .inl (fun _ => 0)))] H := hP
  have hD : va_D A [(h_this, .inr (4, [.int 0, .ref q13, .null, .null])), (q13, .inl (cy, 301, .inl (fun _ => 0)))] := hD
  refine lv_aload_n hx hb dX4_init_18 rfl (lv_at hl 0 rfl) ?_
  refine lv_sipush (v := 301) hx hb dX4_init_19 (by decide) ?_
  refine va_newa (atype := .int) (ty := .int) (N' := 301) (a0 := (301, .inl (fun _ => 0))) hx hb (hts (.arrayClass .int) (by decide +kernel)) rfl hK hP hD hS hA (my_arr0 301) (by decide +kernel) (by decide +kernel) (by decide +kernel) (Nat.le_of_ble_eq_true rfl) (Nat.le_of_ble_eq_true rfl) dX4_init_22 (fun q22 cA H hK2 hP hD hS => ?_)
  rw [cy_eq hK2] at hP hD
  have hP : va_P (dC, dI) vwCl [(h_this, .inr (4, [.int 0, .ref q13, .null, .null])), (q13, .inl (cy, 301, .inl (fun _ => 0))), (q22, .inl (cy, 301, .inl (fun _ => 0)))] H := hP
  have hD : va_D A [(h_this, .inr (4, [.int 0, .ref q13, .null, .null])), (q13, .inl (cy, 301, .inl (fun _ => 0))), (q22, .inl (cy, 301, .inl (fun _ => 0)))] := hD
  clear hK2
  refine W.widen (k := 2) (n := 602) (by decide) (by decide) ?_
  refine va_putF (D := (dC, dI)) (ci := 4) (v := .ref q22) (ty := .array .int) (C := RX4) (T := TX4) (N := 4) hx hb hts in_X4 tyX4 tyX4_ok nmX4 hown hK hP hD hS 0 rfl rfl 2 (by decide) (hts (.fieldLink RX4 19 "ChequeDesk$Slips" "papers" "[I") (by decide +kernel)) (fun _ h9 => h9) rfl hin rfl (by decide +kernel) rfl rfl (Nat.le_of_ble_eq_true rfl) dX4_init_24 (fun H locs hP hD hS => ?_)
  have hP : va_P (dC, dI) vwCl [(h_this, .inr (4, [.int 0, .ref q13, .ref q22, .null])), (q13, .inl (cy, 301, .inl (fun _ => 0))), (q22, .inl (cy, 301, .inl (fun _ => 0)))] H := hP
  have hD : va_D A [(h_this, .inr (4, [.int 0, .ref q13, .ref q22, .null])), (q13, .inl (cy, 301, .inl (fun _ => 0))), (q22, .inl (cy, 301, .inl (fun _ => 0)))] := hD
  refine lv_aload_n hx hb dX4_init_27 rfl (lv_at hl 0 rfl) ?_
  refine lv_sipush (v := 301) hx hb dX4_init_28 (by decide) ?_
  refine va_newa (atype := .int) (ty := .int) (N' := 301) (a0 := (301, .inl (fun _ => 0))) hx hb (hts (.arrayClass .int) (by decide +kernel)) rfl hK hP hD hS hA (my_arr0 301) (by decide +kernel) (by decide +kernel) (by decide +kernel) (Nat.le_of_ble_eq_true rfl) (Nat.le_of_ble_eq_true rfl) dX4_init_31 (fun q31 cA H hK2 hP hD hS => ?_)
  rw [cy_eq hK2] at hP hD
  have hP : va_P (dC, dI) vwCl [(h_this, .inr (4, [.int 0, .ref q13, .ref q22, .null])), (q13, .inl (cy, 301, .inl (fun _ => 0))), (q22, .inl (cy, 301, .inl (fun _ => 0))), (q31, .inl (cy, 301, .inl (fun _ => 0)))] H := hP
  have hD : va_D A [(h_this, .inr (4, [.int 0, .ref q13, .ref q22, .null])), (q13, .inl (cy, 301, .inl (fun _ => 0))), (q22, .inl (cy, 301, .inl (fun _ => 0))), (q31, .inl (cy, 301, .inl (fun _ => 0)))] := hD
  clear hK2
  refine W.widen (k := 3) (n := 903) (by decide) (by decide) ?_
  refine va_putF (D := (dC, dI)) (ci := 4) (v := .ref q31) (ty := .array .int) (C := RX4) (T := TX4) (N := 4) hx hb hts in_X4 tyX4 tyX4_ok nmX4 hown hK hP hD hS 0 rfl rfl 3 (by decide) (hts (.fieldLink RX4 22 "ChequeDesk$Slips" "amounts" "[I") (by decide +kernel)) (fun _ h9 => h9) rfl hin rfl (by decide +kernel) rfl rfl (Nat.le_of_ble_eq_true rfl) dX4_init_33 (fun H locs hP hD hS => ?_)
  have hP : va_P (dC, dI) vwCl [(h_this, .inr (4, [.int 0, .ref q13, .ref q22, .ref q31])), (q13, .inl (cy, 301, .inl (fun _ => 0))), (q22, .inl (cy, 301, .inl (fun _ => 0))), (q31, .inl (cy, 301, .inl (fun _ => 0)))] H := hP
  have hD : va_D A [(h_this, .inr (4, [.int 0, .ref q13, .ref q22, .ref q31])), (q13, .inl (cy, 301, .inl (fun _ => 0))), (q22, .inl (cy, 301, .inl (fun _ => 0))), (q31, .inl (cy, 301, .inl (fun _ => 0)))] := hD
  have hP9 := hP.sub (ws' := [(h_this, .inr (4, [.int 0, .ref q13, .ref q22, .ref q31])), (q31, .inl (cy, 301, .inl (fun _ => 0))), (q13, .inl (cy, 301, .inl (fun _ => 0))), (q22, .inl (cy, 301, .inl (fun _ => 0)))]) [0, 3, 1, 2] rfl
  have hD9 := hD.sub (ws' := [(h_this, .inr (4, [.int 0, .ref q13, .ref q22, .ref q31])), (q31, .inl (cy, 301, .inl (fun _ => 0))), (q13, .inl (cy, 301, .inl (fun _ => 0))), (q22, .inl (cy, 301, .inl (fun _ => 0)))]) [0, 3, 1, 2] (by decide) rfl
  exact W.vret hx hb hr (fun t ht hW => ⟨⟨(q31, q13, q22), rfl, trivial, by rw [ht]; exact hP9, va_K.moved hW.alike hK, hD9⟩, hS.F ht⟩) hS.2.2 dX4_init_36
