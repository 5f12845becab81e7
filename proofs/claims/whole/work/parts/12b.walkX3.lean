abbrev rm_X3_digitsOf : Room := { frames := 0, cells := 0, slots := 0, locals := 0 }
theorem q_X3_digitsOf : yX3_digitsOf.cls = RX3 ∧ yX3_digitsOf.cls ≠ "java/lang/invoke/MethodHandle" ∧ yX3_digitsOf.cls ≠ "java/lang/invoke/VarHandle" ∧ (parseMethodDescriptor yX3_digitsOf.desc).map (fun d => d.parameters.length) = some 1 := by decide +kernel
set_option maxHeartbeats 4000000 in
set_option maxRecDepth 100000 in
theorem c_X3_digitsOf (l : Launch) (dC : Nat → ClassId) (dI : Nat → Nat → Nat) (cy : ClassId) (t_S : Nat → Nat) (h_this : Nat) (h_signs : Nat) (sz : Nat) (g_this_0 g_this_1 g_this_2 g_this_3 g_this_5 g_this_6 g_this_7 : Value) (a_signs : Nat → Int32) (x1 : Int32) (Q : Int32 → Prop) (h : p_X3_digitsOf a_signs x1 Q) : Met l yX3_digitsOf wsX3_digitsOf rm_X3_digitsOf (va_Pc [.ref h_this, .int x1] (fun U => U.heap.size = sz ∧ va_P (dC, dI) vwCl [(h_this, .inr (3, [g_this_0, g_this_1, g_this_2, g_this_3, .ref h_signs, g_this_5, g_this_6, g_this_7])), (h_signs, .inl (cy, 20, .inl a_signs))] U.heap ∧ va_K (dC, dI) vwCl [(cy, .int)] U ∧ va_D (fun _ => True) [(h_this, .inr (3, [g_this_0, g_this_1, g_this_2, g_this_3, .ref h_signs, g_this_5, g_this_6, g_this_7])), (h_signs, .inl (cy, 20, .inl a_signs))] ∧ ev_S t_S (va_A [(h_this, .inr (3, [g_this_0, g_this_1, g_this_2, g_this_3, .ref h_signs, g_this_5, g_this_6, g_this_7])), (h_signs, .inl (cy, 20, .inl a_signs))] sz) U)) (va_Qi (fun (r : Int32) (u : Unit) => Q r) (fun (u : Unit) (t : State) => va_P (dC, dI) vwCl [(h_this, .inr (3, [g_this_0, g_this_1, g_this_2, g_this_3, .ref h_signs, g_this_5, g_this_6, g_this_7])), (h_signs, .inl (cy, 20, .inl a_signs))] t.heap ∧ va_K (dC, dI) vwCl [(cy, .int)] t ∧ va_D (va_A [(h_this, .inr (3, [g_this_0, g_this_1, g_this_2, g_this_3, .ref h_signs, g_this_5, g_this_6, g_this_7])), (h_signs, .inl (cy, 20, .inl a_signs))] sz) [(h_this, .inr (3, [g_this_0, g_this_1, g_this_2, g_this_3, .ref h_signs, g_this_5, g_this_6, g_this_7])), (h_signs, .inl (cy, 20, .inl a_signs))]) (va_A [(h_this, .inr (3, [g_this_0, g_this_1, g_this_2, g_this_3, .ref h_signs, g_this_5, g_this_6, g_this_7])), (h_signs, .inl (cy, 20, .inl a_signs))] sz)) 0 0 (va_A [(h_this, .inr (3, [g_this_0, g_this_1, g_this_2, g_this_3, .ref h_signs, g_this_5, g_this_6, g_this_7])), (h_signs, .inl (cy, 20, .inl a_signs))] sz) := by
  refine Met.ofW (cc := cX3_digitsOf) (maxL := 5) (ret := (some .int)) (by decide) rfl ?_
  intro p e s m args below meth c s₁ B hml hv
  obtain ⟨hargs, hsz, hP, hK, hD0, hE⟩ := hv
  have hx := B.exec
  have hb := B.bytes
  have hr := B.returns
  have hts := atoms_spec (ws := wsX3_digitsOf) B.pre
  have hown : s.vm.findClass RX3 = some m.cls := findClass_of_methodNamed B.named
  have hlocks := B.notSynchronized
  subst hsz
  have hD := hD0.self (sz := s.heap.size)
  generalize hAe : va_A [(h_this, .inr (3, [g_this_0, g_this_1, g_this_2, g_this_3, .ref h_signs, g_this_5, g_this_6, g_this_7])), (h_signs, .inl (cy, 20, .inl a_signs))] s.heap.size = A at hE hD ⊢
  have hA : ∀ q : Nat, s.heap.size ≤ q → A q := fun q h => by rw [← hAe]; exact Or.inr h
  have hS : va_S A s.heap s.heap [] := va_S.rf
  have in_X3 : ∀ w ∈ u_ws RX3 TX3 8, w ∈ wsX3_digitsOf := by decide +kernel
  have k_25 := hts (.fieldLink RX3 25 "ChequeDesk$Reading" "signs" "[I") (by decide +kernel)
  have hl := lv_entry ([.ref h_this, .int x1]) (n := 5) (Nat.le_of_ble_eq_true rfl)
  rw [show entryFrame m args 5 = entryFrame m ([.ref h_this, .int x1] : List Value).toArray 5 by rw [hargs], lg_entry_eq]
  generalize (lg_sl ([.ref h_this, .int x1]) ++ List.replicate (5 - (lg_sl ([.ref h_this, .int x1])).length) Slot.unset).toArray = ls at hl ⊢
  have hl : lv_has ls 5 [(0, .ref h_this), (1, .int x1)] := hl
  have hP : va_P (dC, dI) vwCl [(h_this, .inr (3, [g_this_0, g_this_1, g_this_2, g_this_3, .ref h_signs, g_this_5, g_this_6, g_this_7])), (h_signs, .inl (cy, 20, .inl a_signs))] s.heap := hP
  change W p l e rm_X3_digitsOf s m args below meth c s.heap [] 0 0 _ _
  generalize hQQ : MQ below _ _ _ _ _ _ = QQ
  have RET : ∀ (r : Int32) (H : Heap) (locs : List Loc) (ls : Array Slot) (pc : Nat), decode cX3_digitsOf pc = .ok (.ireturn, 1) → Q r → va_P (dC, dI) vwCl [(h_this, .inr (3, [g_this_0, g_this_1, g_this_2, g_this_3, .ref h_signs, g_this_5, g_this_6, g_this_7])), (h_signs, .inl (cy, 20, .inl a_signs))] H → va_D A [(h_this, .inr (3, [g_this_0, g_this_1, g_this_2, g_this_3, .ref h_signs, g_this_5, g_this_6, g_this_7])), (h_signs, .inl (cy, 20, .inl a_signs))] → va_S A s.heap H locs → W p l e rm_X3_digitsOf s m args below meth c H locs 0 0 QQ (F0 m pc ls [.int r]) := by
    intro r  H locs ls pc hdg hq hP hD hS
    rw [← hQQ]
    exact W.iret (v := r) hx hb hr (fun t ht hW => ⟨⟨r, (), rfl, hq, by rw [ht]; exact hP, va_K.moved hW.alike hK, hD⟩, hS.F ht⟩) hS.2.2 hdg
  clear hQQ
  unfold p_X3_digitsOf at h
  have L11 : ∀ (x1 : Int32) (x2 : Int32) (K11 : Int32 → Int32 → Prop) (n : Nat) (x3 : Int32) (x4 : Int32) (H : Heap) (locs : List Loc) (ls : Array Slot), wl2 (p_X3_digitsOf_B11 a_signs x1 x2 K11) n x3 x4 → va_P (dC, dI) vwCl [(h_this, .inr (3, [g_this_0, g_this_1, g_this_2, g_this_3, .ref h_signs, g_this_5, g_this_6, g_this_7])), (h_signs, .inl (cy, 20, .inl a_signs))] H → va_D A [(h_this, .inr (3, [g_this_0, g_this_1, g_this_2, g_this_3, .ref h_signs, g_this_5, g_this_6, g_this_7])), (h_signs, .inl (cy, 20, .inl a_signs))] → va_S A s.heap H locs → lv_has ls 5 [(0, .ref h_this), (1, .int x1), (2, .int x2), (3, .int x3), (4, .int x4)] → (∀ (x3 : Int32) (x4 : Int32) (H : Heap) (locs : List Loc) (ls : Array Slot), K11 x3 x4 → va_P (dC, dI) vwCl [(h_this, .inr (3, [g_this_0, g_this_1, g_this_2, g_this_3, .ref h_signs, g_this_5, g_this_6, g_this_7])), (h_signs, .inl (cy, 20, .inl a_signs))] H → va_D A [(h_this, .inr (3, [g_this_0, g_this_1, g_this_2, g_this_3, .ref h_signs, g_this_5, g_this_6, g_this_7])), (h_signs, .inl (cy, 20, .inl a_signs))] → va_S A s.heap H locs → lv_has ls 5 [(3, .int x3)] → W p l e rm_X3_digitsOf s m args below meth c H locs 0 0 QQ (F0 m 42 ls [])) → W p l e rm_X3_digitsOf s m args below meth c H locs 0 0 QQ (F0 m 11 ls []) := by
    intro x1 x2 K11 n
    induction n with
    | zero => intro x3 x4 H locs ls h; exact False.elim h
    | succ n ih =>
      intro x3 x4 H locs ls h hP hD hS hl hk
      have ih := fun x3 x4 H locs ls h hP hD hS hl => ih x3 x4 H locs ls h hP hD hS hl hk
      replace h : p_X3_digitsOf_B11 a_signs x1 x2 K11 (wl2 (p_X3_digitsOf_B11 a_signs x1 x2 K11) n) x3 x4 := h
      unfold p_X3_digitsOf_B11 at h
      refine lv_iload hx hb dX3_digitsOf_11 (lv_at hl 4 rfl) ?_
      refine va_getsN hx hb (ev_z_FIELD_LENGTHS hE) hS hown (va_Nw.use rfl (ev_k_FIELD_LENGTHS hE)) (fun _ h9 => h9) dX3_digitsOf_13 ?_
      refine lv_iload_n hx hb dX3_digitsOf_16 rfl (lv_at hl 1 rfl) ?_
      obtain ⟨b17, h⟩ := h
      refine va_ti hx hb (ev_t_FIELD_LENGTHS hE) hS b17 rfl dX3_digitsOf_17 ?_
      refine lv_icmp_ge (tgt := 42) hx hb dX3_digitsOf_18 (by decide) (fun c18 => ?_) (fun c18 => ?_)
      · replace h := And.left h c18
        exact hk x3 x4 H locs ls h hP hD hS (lv_sub hl [3] rfl)
      · replace h := And.right h c18
        refine lv_iload_n hx hb dX3_digitsOf_21 rfl (lv_at hl 3 rfl) ?_
        refine lv_bipush (v := 10) hx hb dX3_digitsOf_22 (by decide) ?_
        refine lv_imul hx hb dX3_digitsOf_24 ?_
        refine lv_aload_n hx hb dX3_digitsOf_25 rfl (lv_at hl 0 rfl) ?_
        refine va_get (D := (dC, dI)) (ci := 3) (v := .ref h_signs) (C := RX3) (T := TX3) (N := 8) hx hb hts in_X3 hown hK hP 0 rfl rfl 4 (by decide) k_25 (fun _ h9 => h9) rfl dX3_digitsOf_26 ?_
        refine lv_iload_n hx hb dX3_digitsOf_29 rfl (lv_at hl 2 rfl) ?_
        refine lv_iload hx hb dX3_digitsOf_30 (lv_at hl 4 rfl) ?_
        refine lv_iadd hx hb dX3_digitsOf_32 ?_
        obtain ⟨b33, h⟩ := h
        refine va_iald hx hb hK hP 1 0 rfl rfl b33 dX3_digitsOf_33 ?_
        refine lv_iadd hx hb dX3_digitsOf_34 ?_
        refine lv_istore_n (lv' := [(3, .int ((x3 * 10) + (a_signs (Int32.toNatClampNeg (x2 + x4))))), (0, .ref h_this), (1, .int x1), (2, .int x2), (4, .int x4)]) hx hb dX3_digitsOf_35 rfl hl (by decide) rfl (fun ls hl => ?_)
        refine lv_iinc (v := x4 + 1) (lv' := [(4, .int (x4 + 1)), (3, .int ((x3 * 10) + (a_signs (Int32.toNatClampNeg (x2 + x4))))), (0, .ref h_this), (1, .int x1), (2, .int x2)]) hx hb dX3_digitsOf_36 hl (k := 4) rfl (by rfl) (by decide) rfl (fun ls hl => ?_)
        refine lv_goto (tgt := 11) hx hb dX3_digitsOf_39 (by decide) ?_
        exact ih ((x3 * 10) + (a_signs (Int32.toNatClampNeg (x2 + x4)))) (x4 + 1) H locs ls h hP hD hS (lv_sub hl [2, 3, 4, 1, 0] rfl)
  generalize hlo : ([] : List Loc) = locs at hS ⊢
  obtain ⟨H, hH⟩ : ∃ z, z = s.heap := ⟨_, rfl⟩
  rw [show W p l e rm_X3_digitsOf s m args below meth c s.heap = W p l e rm_X3_digitsOf s m args below meth c H by rw [hH]]
  replace hP : va_P (dC, dI) vwCl [(h_this, .inr (3, [g_this_0, g_this_1, g_this_2, g_this_3, .ref h_signs, g_this_5, g_this_6, g_this_7])), (h_signs, .inl (cy, 20, .inl a_signs))] H := by rw [hH]; exact hP
  replace hS : va_S A s.heap H locs := by rw [hH]; exact hS
  clear hH hlo
  refine va_getsN hx hb (ev_z_FIELD_STARTS hE) hS hown (va_Nw.use rfl (ev_k_FIELD_STARTS hE)) (fun _ h9 => h9) dX3_digitsOf_0 ?_
  refine lv_iload_n hx hb dX3_digitsOf_3 rfl (lv_at hl 1 rfl) ?_
  obtain ⟨b4, h⟩ := h
  refine va_ti hx hb (ev_t_FIELD_STARTS hE) hS b4 rfl dX3_digitsOf_4 ?_
  refine lv_istore_n (lv' := [(2, .int (s_FIELD_STARTS (Int32.toNatClampNeg x1))), (0, .ref h_this), (1, .int x1)]) hx hb dX3_digitsOf_5 rfl hl (by decide) rfl (fun ls hl => ?_)
  refine lv_iconst (v := 0) hx hb dX3_digitsOf_6 (by decide) ?_
  refine lv_istore_n (lv' := [(3, .int 0), (2, .int (s_FIELD_STARTS (Int32.toNatClampNeg x1))), (0, .ref h_this), (1, .int x1)]) hx hb dX3_digitsOf_7 rfl hl (by decide) rfl (fun ls hl => ?_)
  refine lv_iconst (v := 0) hx hb dX3_digitsOf_8 (by decide) ?_
  refine lv_istore (lv' := [(4, .int 0), (3, .int 0), (2, .int (s_FIELD_STARTS (Int32.toNatClampNeg x1))), (0, .ref h_this), (1, .int x1)]) hx hb dX3_digitsOf_9 hl (by decide) rfl (fun ls hl => ?_)
  obtain ⟨n11, h⟩ := h
  refine L11 x1 (s_FIELD_STARTS (Int32.toNatClampNeg x1)) _ n11 0 0 H locs ls h hP hD hS (lv_sub hl [3, 4, 2, 1, 0] rfl) (fun x3_42 x4_42 H locs ls h hP hD hS hl => ?_)
  refine lv_iload_n hx hb dX3_digitsOf_42 rfl (lv_at hl 0 rfl) ?_
  exact RET x3_42 H locs ls 43 dX3_digitsOf_43 h hP hD hS
