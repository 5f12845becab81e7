abbrev rm_X1_lay : Room := { frames := 0, cells := 0, slots := 0, locals := 0 }
theorem q_X1_lay : yX1_lay.cls = RX1 ∧ yX1_lay.cls ≠ "java/lang/invoke/MethodHandle" ∧ yX1_lay.cls ≠ "java/lang/invoke/VarHandle" ∧ (parseMethodDescriptor yX1_lay.desc).map (fun d => d.parameters.length) = some 3 := by decide +kernel
set_option maxHeartbeats 4000000 in
set_option maxRecDepth 100000 in
theorem c_X1_lay (l : Launch) (dC : Nat → ClassId) (dI : Nat → Nat → Nat) (cy : ClassId) (h_this : Nat) (h_laid : Nat) (h_p1 : Nat) (sz : Nat) (g_this_2 g_this_3 g_this_4 g_this_5 g_this_6 : Value) (f_places : Int32) (a_laid : Nat → Int32) (a_p1 : Nat → Int32) (x2 : Int32) (x3 : Int32) (Q : Int32 → (Nat → Int32) → Prop) (h : p_X1_lay f_places a_laid a_p1 x2 x3 Q) : Met l yX1_lay wsX1_lay rm_X1_lay (va_Pc [.ref h_this, .ref h_p1, .int x2, .int x3] (fun U => U.heap.size = sz ∧ va_P (dC, dI) vwCl [(h_this, .inr (1, [.int f_places, .ref h_laid, g_this_2, g_this_3, g_this_4, g_this_5, g_this_6])), (h_laid, .inl (cy, 120, .inl a_laid)), (h_p1, .inl (cy, 120, .inl a_p1))] U.heap ∧ va_K (dC, dI) vwCl [(cy, .int)] U ∧ va_D (fun _ => True) [(h_this, .inr (1, [.int f_places, .ref h_laid, g_this_2, g_this_3, g_this_4, g_this_5, g_this_6])), (h_laid, .inl (cy, 120, .inl a_laid)), (h_p1, .inl (cy, 120, .inl a_p1))])) (va_Qv (fun (u : Int32 × (Nat → Int32)) => Q u.1 u.2) (fun (u : Int32 × (Nat → Int32)) (t : State) => va_P (dC, dI) vwCl [(h_this, .inr (1, [.int (u.1), .ref h_laid, g_this_2, g_this_3, g_this_4, g_this_5, g_this_6])), (h_laid, .inl (cy, 120, .inl (u.2))), (h_p1, .inl (cy, 120, .inl a_p1))] t.heap ∧ va_K (dC, dI) vwCl [(cy, .int)] t ∧ va_D (va_A [(h_this, .inr (1, [.int f_places, .ref h_laid, g_this_2, g_this_3, g_this_4, g_this_5, g_this_6])), (h_laid, .inl (cy, 120, .inl a_laid)), (h_p1, .inl (cy, 120, .inl a_p1))] sz) [(h_this, .inr (1, [.int (u.1), .ref h_laid, g_this_2, g_this_3, g_this_4, g_this_5, g_this_6])), (h_laid, .inl (cy, 120, .inl (u.2))), (h_p1, .inl (cy, 120, .inl a_p1))]) (va_A [(h_this, .inr (1, [.int f_places, .ref h_laid, g_this_2, g_this_3, g_this_4, g_this_5, g_this_6])), (h_laid, .inl (cy, 120, .inl a_laid)), (h_p1, .inl (cy, 120, .inl a_p1))] sz)) 0 0 (va_A [(h_this, .inr (1, [.int f_places, .ref h_laid, g_this_2, g_this_3, g_this_4, g_this_5, g_this_6])), (h_laid, .inl (cy, 120, .inl a_laid)), (h_p1, .inl (cy, 120, .inl a_p1))] sz) := by
  refine Met.ofW (cc := cX1_lay) (maxL := 5) (ret := none) (by decide) rfl ?_
  intro p e s m args below meth c s₁ B hml hv
  obtain ⟨hargs, hsz, hP, hK, hD0⟩ := hv
  have hx := B.exec
  have hb := B.bytes
  have hr := B.returns
  have hts := atoms_spec (ws := wsX1_lay) B.pre
  have hown : s.vm.findClass RX1 = some m.cls := findClass_of_methodNamed B.named
  have hlocks := B.notSynchronized
  subst hsz
  have hD := hD0.self (sz := s.heap.size)
  generalize hAe : va_A [(h_this, .inr (1, [.int f_places, .ref h_laid, g_this_2, g_this_3, g_this_4, g_this_5, g_this_6])), (h_laid, .inl (cy, 120, .inl a_laid)), (h_p1, .inl (cy, 120, .inl a_p1))] s.heap.size = A at hD ⊢
  have hA : ∀ q : Nat, s.heap.size ≤ q → A q := fun q h => by rw [← hAe]; exact Or.inr h
  have hS : va_S A s.heap s.heap [] := va_S.rf
  have in_X1 : ∀ w ∈ u_ws RX1 TX1 7, w ∈ wsX1_lay := by decide +kernel
  have k_9 := hts (.fieldLink RX1 9 "ChequeDesk$Head" "places" "I") (by decide +kernel)
  have k_15 := hts (.fieldLink RX1 15 "ChequeDesk$Head" "laid" "[I") (by decide +kernel)
  have hl := lv_entry ([.ref h_this, .ref h_p1, .int x2, .int x3]) (n := 5) (Nat.le_of_ble_eq_true rfl)
  rw [show entryFrame m args 5 = entryFrame m ([.ref h_this, .ref h_p1, .int x2, .int x3] : List Value).toArray 5 by rw [hargs], lg_entry_eq]
  generalize (lg_sl ([.ref h_this, .ref h_p1, .int x2, .int x3]) ++ List.replicate (5 - (lg_sl ([.ref h_this, .ref h_p1, .int x2, .int x3])).length) Slot.unset).toArray = ls at hl ⊢
  have hl : lv_has ls 5 [(0, .ref h_this), (1, .ref h_p1), (2, .int x2), (3, .int x3)] := hl
  have hP : va_P (dC, dI) vwCl [(h_this, .inr (1, [.int f_places, .ref h_laid, g_this_2, g_this_3, g_this_4, g_this_5, g_this_6])), (h_laid, .inl (cy, 120, .inl a_laid)), (h_p1, .inl (cy, 120, .inl a_p1))] s.heap := hP
  change W p l e rm_X1_lay s m args below meth c s.heap [] 0 0 _ _
  generalize hQQ : MQ below _ _ _ _ _ _ = QQ
  have RET : ∀ (f_places : Int32) (a_laid : Nat → Int32) (H : Heap) (locs : List Loc) (ls : Array Slot) (pc : Nat), decode cX1_lay pc = .ok (.return_, 1) → Q f_places a_laid → va_P (dC, dI) vwCl [(h_this, .inr (1, [.int f_places, .ref h_laid, g_this_2, g_this_3, g_this_4, g_this_5, g_this_6])), (h_laid, .inl (cy, 120, .inl a_laid)), (h_p1, .inl (cy, 120, .inl a_p1))] H → va_D A [(h_this, .inr (1, [.int f_places, .ref h_laid, g_this_2, g_this_3, g_this_4, g_this_5, g_this_6])), (h_laid, .inl (cy, 120, .inl a_laid)), (h_p1, .inl (cy, 120, .inl a_p1))] → va_S A s.heap H locs → W p l e rm_X1_lay s m args below meth c H locs 0 0 QQ (F0 m pc ls []) := by
    intro f_places a_laid H locs ls pc hdg hq hP hD hS
    rw [← hQQ]
    exact W.vret hx hb hr (fun t ht hW => ⟨⟨(f_places, a_laid), rfl, hq, by rw [ht]; exact hP, va_K.moved hW.alike hK, hD⟩, hS.F ht⟩) hS.2.2 hdg
  clear hQQ
  unfold p_X1_lay at h
  have L11 : ∀ (x2 : Int32) (x3 : Int32) (f_places : Int32) (K11 : Int32 → (Nat → Int32) → Prop) (n : Nat) (x4 : Int32) (a_laid : Nat → Int32) (H : Heap) (locs : List Loc) (ls : Array Slot), wl2 (p_X1_lay_B11 a_p1 x2 x3 K11) n x4 a_laid → va_P (dC, dI) vwCl [(h_this, .inr (1, [.int f_places, .ref h_laid, g_this_2, g_this_3, g_this_4, g_this_5, g_this_6])), (h_laid, .inl (cy, 120, .inl a_laid)), (h_p1, .inl (cy, 120, .inl a_p1))] H → va_D A [(h_this, .inr (1, [.int f_places, .ref h_laid, g_this_2, g_this_3, g_this_4, g_this_5, g_this_6])), (h_laid, .inl (cy, 120, .inl a_laid)), (h_p1, .inl (cy, 120, .inl a_p1))] → va_S A s.heap H locs → lv_has ls 5 [(0, .ref h_this), (1, .ref h_p1), (2, .int x2), (3, .int x3), (4, .int x4)] → (∀ (x4 : Int32) (a_laid : Nat → Int32) (H : Heap) (locs : List Loc) (ls : Array Slot), K11 x4 a_laid → va_P (dC, dI) vwCl [(h_this, .inr (1, [.int f_places, .ref h_laid, g_this_2, g_this_3, g_this_4, g_this_5, g_this_6])), (h_laid, .inl (cy, 120, .inl a_laid)), (h_p1, .inl (cy, 120, .inl a_p1))] H → va_D A [(h_this, .inr (1, [.int f_places, .ref h_laid, g_this_2, g_this_3, g_this_4, g_this_5, g_this_6])), (h_laid, .inl (cy, 120, .inl a_laid)), (h_p1, .inl (cy, 120, .inl a_p1))] → va_S A s.heap H locs → lv_has ls 5 [] → W p l e rm_X1_lay s m args below meth c H locs 0 0 QQ (F0 m 49 ls [])) → W p l e rm_X1_lay s m args below meth c H locs 0 0 QQ (F0 m 11 ls []) := by
    intro x2 x3 f_places K11 n
    induction n with
    | zero => intro x4 a_laid H locs ls h; exact False.elim h
    | succ n ih =>
      intro x4 a_laid H locs ls h hP hD hS hl hk
      have ih := fun x4 a_laid H locs ls h hP hD hS hl => ih x4 a_laid H locs ls h hP hD hS hl hk
      replace h : p_X1_lay_B11 a_p1 x2 x3 K11 (wl2 (p_X1_lay_B11 a_p1 x2 x3 K11) n) x4 a_laid := h
      unfold p_X1_lay_B11 at h
      have J42 : ∀ (x4 : Int32) (s0 : Int32) (s1 : Int32) (a_laid : Nat → Int32) (H : Heap) (locs : List Loc) (ls : Array Slot), p_X1_lay_J42 a_laid (wl2 (p_X1_lay_B11 a_p1 x2 x3 K11) n) x4 s0 s1 → va_P (dC, dI) vwCl [(h_this, .inr (1, [.int f_places, .ref h_laid, g_this_2, g_this_3, g_this_4, g_this_5, g_this_6])), (h_laid, .inl (cy, 120, .inl a_laid)), (h_p1, .inl (cy, 120, .inl a_p1))] H → va_D A [(h_this, .inr (1, [.int f_places, .ref h_laid, g_this_2, g_this_3, g_this_4, g_this_5, g_this_6])), (h_laid, .inl (cy, 120, .inl a_laid)), (h_p1, .inl (cy, 120, .inl a_p1))] → va_S A s.heap H locs → lv_has ls 5 [(0, .ref h_this), (1, .ref h_p1), (2, .int x2), (3, .int x3), (4, .int x4)] → W p l e rm_X1_lay s m args below meth c H locs 0 0 QQ (F0 m 42 ls [.int s0, .int s1, .ref h_laid]) := by
        intro x4 s0 s1 a_laid H locs ls h hP hD hS hl
        unfold p_X1_lay_J42 at h
        obtain ⟨b42, h⟩ := h
        refine va_iast hx hb hK hP hD hS 1 0 rfl rfl b42 dX1_lay_42 (fun H locs hP hD hS => ?_)
        have hP : va_P (dC, dI) vwCl [(h_this, .inr (1, [.int f_places, .ref h_laid, g_this_2, g_this_3, g_this_4, g_this_5, g_this_6])), (h_laid, .inl (cy, 120, .inl (upd a_laid (Int32.toNatClampNeg s1) s0))), (h_p1, .inl (cy, 120, .inl a_p1))] H := hP
        have hD : va_D A [(h_this, .inr (1, [.int f_places, .ref h_laid, g_this_2, g_this_3, g_this_4, g_this_5, g_this_6])), (h_laid, .inl (cy, 120, .inl (upd a_laid (Int32.toNatClampNeg s1) s0))), (h_p1, .inl (cy, 120, .inl a_p1))] := hD
        refine lv_iinc (v := x4 + 1) (lv' := [(4, .int (x4 + 1)), (0, .ref h_this), (1, .ref h_p1), (2, .int x2), (3, .int x3)]) hx hb dX1_lay_43 hl (k := 4) rfl (by rfl) (by decide) rfl (fun ls hl => ?_)
        refine lv_goto (tgt := 11) hx hb dX1_lay_46 (by decide) ?_
        exact ih (x4 + 1) (upd a_laid (Int32.toNatClampNeg s1) s0) H locs ls h hP hD hS (lv_sub hl [1, 2, 3, 4, 0] rfl)
      refine lv_iload hx hb dX1_lay_11 (lv_at hl 4 rfl) ?_
      refine lv_iload_n hx hb dX1_lay_13 rfl (lv_at hl 2 rfl) ?_
      refine lv_icmp_ge (tgt := 49) hx hb dX1_lay_14 (by decide) (fun c14 => ?_) (fun c14 => ?_)
      · replace h := And.left h c14
        exact hk x4 a_laid H locs ls h hP hD hS (lv_sub hl [] rfl)
      · replace h := And.right h c14
        refine lv_aload_n hx hb dX1_lay_17 rfl (lv_at hl 0 rfl) ?_
        refine va_get (D := (dC, dI)) (ci := 1) (v := .ref h_laid) (C := RX1) (T := TX1) (N := 7) hx hb hts in_X1 hown hK hP 0 rfl rfl 1 (by decide) k_15 (fun _ h9 => h9) rfl dX1_lay_18 ?_
        refine lv_iload hx hb dX1_lay_21 (lv_at hl 4 rfl) ?_
        refine lv_iload_n hx hb dX1_lay_23 rfl (lv_at hl 3 rfl) ?_
        refine lv_if_eq (tgt := 38) hx hb dX1_lay_24 (by decide) (fun c24 => ?_) (fun c24 => ?_)
        · replace h := And.left h c24
          refine lv_aload_n hx hb dX1_lay_38 rfl (lv_at hl 1 rfl) ?_
          refine lv_iload hx hb dX1_lay_39 (lv_at hl 4 rfl) ?_
          obtain ⟨b41, h⟩ := h
          refine va_iald hx hb hK hP 2 0 rfl rfl b41 dX1_lay_41 ?_
          exact J42 x4 (a_p1 (Int32.toNatClampNeg x4)) x4 a_laid H locs ls h hP hD hS (lv_sub hl [0, 1, 2, 3, 4] rfl)
        · replace h := And.right h c24
          refine lv_aload_n hx hb dX1_lay_27 rfl (lv_at hl 1 rfl) ?_
          refine lv_iload_n hx hb dX1_lay_28 rfl (lv_at hl 2 rfl) ?_
          refine lv_iconst (v := 1) hx hb dX1_lay_29 (by decide) ?_
          refine lv_isub hx hb dX1_lay_30 ?_
          refine lv_iload hx hb dX1_lay_31 (lv_at hl 4 rfl) ?_
          refine lv_isub hx hb dX1_lay_33 ?_
          obtain ⟨b34, h⟩ := h
          refine va_iald hx hb hK hP 2 0 rfl rfl b34 dX1_lay_34 ?_
          refine lv_goto (tgt := 42) hx hb dX1_lay_35 (by decide) ?_
          exact J42 x4 (a_p1 (Int32.toNatClampNeg ((x2 - 1) - x4))) x4 a_laid H locs ls h hP hD hS (lv_sub hl [0, 1, 2, 3, 4] rfl)
  generalize hlo : ([] : List Loc) = locs at hS ⊢
  obtain ⟨H, hH⟩ : ∃ z, z = s.heap := ⟨_, rfl⟩
  rw [show W p l e rm_X1_lay s m args below meth c s.heap = W p l e rm_X1_lay s m args below meth c H by rw [hH]]
  replace hP : va_P (dC, dI) vwCl [(h_this, .inr (1, [.int f_places, .ref h_laid, g_this_2, g_this_3, g_this_4, g_this_5, g_this_6])), (h_laid, .inl (cy, 120, .inl a_laid)), (h_p1, .inl (cy, 120, .inl a_p1))] H := by rw [hH]; exact hP
  replace hS : va_S A s.heap H locs := by rw [hH]; exact hS
  clear hH hlo
  refine lv_aload_n hx hb dX1_lay_0 rfl (lv_at hl 0 rfl) ?_
  refine lv_iload_n hx hb dX1_lay_1 rfl (lv_at hl 2 rfl) ?_
  refine lv_bipush (v := 6) hx hb dX1_lay_2 (by decide) ?_
  refine lv_idiv hx hb dX1_lay_4 (by decide) ?_
  refine va_put (D := (dC, dI)) (ci := 1) (v := .int (x2 / 6)) (ty := .int) (C := RX1) (T := TX1) (N := 7) hx hb hts in_X1 tyX1 tyX1_ok nmX1 hown hK hP hD hS 0 rfl rfl 0 (by decide) k_9 (fun _ h9 => h9) rfl (by decide +kernel) rfl rfl (Nat.le_of_ble_eq_true rfl) dX1_lay_5 (fun H locs hP hD hS => ?_)
  have hP : va_P (dC, dI) vwCl [(h_this, .inr (1, [.int (x2 / 6), .ref h_laid, g_this_2, g_this_3, g_this_4, g_this_5, g_this_6])), (h_laid, .inl (cy, 120, .inl a_laid)), (h_p1, .inl (cy, 120, .inl a_p1))] H := hP
  have hD : va_D A [(h_this, .inr (1, [.int (x2 / 6), .ref h_laid, g_this_2, g_this_3, g_this_4, g_this_5, g_this_6])), (h_laid, .inl (cy, 120, .inl a_laid)), (h_p1, .inl (cy, 120, .inl a_p1))] := hD
  refine lv_iconst (v := 0) hx hb dX1_lay_8 (by decide) ?_
  refine lv_istore (lv' := [(4, .int 0), (0, .ref h_this), (1, .ref h_p1), (2, .int x2), (3, .int x3)]) hx hb dX1_lay_9 hl (by decide) rfl (fun ls hl => ?_)
  obtain ⟨n11, h⟩ := h
  refine L11 x2 x3 (x2 / 6) _ n11 0 a_laid H locs ls h hP hD hS (lv_sub hl [1, 2, 3, 4, 0] rfl) (fun x4_49 a_laid_49 H locs ls h hP hD hS hl => ?_)
  exact RET (x2 / 6) a_laid_49 H locs ls 49 dX1_lay_49 h hP hD hS
abbrev rm_X1_rowOf : Room := { frames := 0, cells := 0, slots := 0, locals := 0 }
theorem q_X1_rowOf : yX1_rowOf.cls ≠ "java/lang/invoke/MethodHandle" ∧ yX1_rowOf.cls ≠ "java/lang/invoke/VarHandle" ∧ (parseMethodDescriptor yX1_rowOf.desc).map (fun d => d.parameters.length) = some 2 := by decide +kernel
set_option maxHeartbeats 4000000 in
set_option maxRecDepth 100000 in
theorem c_X1_rowOf (l : Launch) (dC : Nat → ClassId) (dI : Nat → Nat → Nat) (cy : ClassId) (sz : Nat) (x0 : Int32) (x1 : Int32) (Q : Int32 → Prop) (h : p_X1_rowOf x0 x1 Q) : Met l yX1_rowOf wsX1_rowOf rm_X1_rowOf (va_Pc [.int x0, .int x1] (fun U => U.heap.size = sz ∧ va_P (dC, dI) vwCl [] U.heap ∧ va_K (dC, dI) vwCl [(cy, .int)] U ∧ va_D (fun _ => True) [])) (va_Qi (fun (r : Int32) (u : Unit) => Q r) (fun (u : Unit) (t : State) => va_P (dC, dI) vwCl [] t.heap ∧ va_K (dC, dI) vwCl [(cy, .int)] t ∧ va_D (va_A [] sz) []) (va_A [] sz)) 0 0 (va_A [] sz) := by
  refine Met.ofW (cc := cX1_rowOf) (maxL := 2) (ret := (some .int)) (by decide) rfl ?_
  intro p e s m args below meth c s₁ B hml hv
  obtain ⟨hargs, hsz, hP, hK, hD0⟩ := hv
  have hx := B.exec
  have hb := B.bytes
  have hr := B.returns
  have hts := atoms_spec (ws := wsX1_rowOf) B.pre
  have hown : s.vm.findClass RX1 = some m.cls := findClass_of_methodNamed B.named
  have hlocks := B.notSynchronized
  subst hsz
  have hD := hD0.self (sz := s.heap.size)
  generalize hAe : va_A [] s.heap.size = A at hD ⊢
  have hA : ∀ q : Nat, s.heap.size ≤ q → A q := fun q h => by rw [← hAe]; exact Or.inr h
  have hS : va_S A s.heap s.heap [] := va_S.rf
  have hl := lv_entry ([.int x0, .int x1]) (n := 2) (Nat.le_of_ble_eq_true rfl)
  rw [show entryFrame m args 2 = entryFrame m ([.int x0, .int x1] : List Value).toArray 2 by rw [hargs], lg_entry_eq]
  generalize (lg_sl ([.int x0, .int x1]) ++ List.replicate (2 - (lg_sl ([.int x0, .int x1])).length) Slot.unset).toArray = ls at hl ⊢
  have hl : lv_has ls 2 [(0, .int x0), (1, .int x1)] := hl
  have hP : va_P (dC, dI) vwCl [] s.heap := hP
  change W p l e rm_X1_rowOf s m args below meth c s.heap [] 0 0 _ _
  generalize hQQ : MQ below _ _ _ _ _ _ = QQ
  have RET : ∀ (r : Int32) (H : Heap) (locs : List Loc) (ls : Array Slot) (pc : Nat), decode cX1_rowOf pc = .ok (.ireturn, 1) → Q r → va_P (dC, dI) vwCl [] H → va_D A [] → va_S A s.heap H locs → W p l e rm_X1_rowOf s m args below meth c H locs 0 0 QQ (F0 m pc ls [.int r]) := by
    intro r  H locs ls pc hdg hq hP hD hS
    rw [← hQQ]
    exact W.iret (v := r) hx hb hr (fun t ht hW => ⟨⟨r, (), rfl, hq, by rw [ht]; exact hP, va_K.moved hW.alike hK, hD⟩, hS.F ht⟩) hS.2.2 hdg
  clear hQQ
  unfold p_X1_rowOf at h
  generalize hlo : ([] : List Loc) = locs at hS ⊢
  obtain ⟨H, hH⟩ : ∃ z, z = s.heap := ⟨_, rfl⟩
  rw [show W p l e rm_X1_rowOf s m args below meth c s.heap = W p l e rm_X1_rowOf s m args below meth c H by rw [hH]]
  replace hP : va_P (dC, dI) vwCl [] H := by rw [hH]; exact hP
  replace hS : va_S A s.heap H locs := by rw [hH]; exact hS
  clear hH hlo
  refine lv_iload_n hx hb dX1_rowOf_0 rfl (lv_at hl 0 rfl) ?_
  refine lv_bipush (v := 12) hx hb dX1_rowOf_1 (by decide) ?_
  refine lv_imul hx hb dX1_rowOf_3 ?_
  refine lv_iload_n hx hb dX1_rowOf_4 rfl (lv_at hl 1 rfl) ?_
  refine lv_iadd hx hb dX1_rowOf_5 ?_
  refine lv_bipush (v := 9) hx hb dX1_rowOf_6 (by decide) ?_
  refine lv_imul hx hb dX1_rowOf_8 ?_
  exact RET (((x0 * 12) + x1) * 9) H locs ls 9 dX1_rowOf_9 h hP hD hS
abbrev rm_X1_distance : Room := { frames := 1, cells := 0, slots := 0, locals := 21 }
theorem q_X1_distance : yX1_distance.cls = RX1 ∧ yX1_distance.cls ≠ "java/lang/invoke/MethodHandle" ∧ yX1_distance.cls ≠ "java/lang/invoke/VarHandle" ∧ (parseMethodDescriptor yX1_distance.desc).map (fun d => d.parameters.length) = some 4 := by decide +kernel
set_option maxHeartbeats 4000000 in
set_option maxRecDepth 100000 in
theorem c_X1_distance (l : Launch) (dC : Nat → ClassId) (dI : Nat → Nat → Nat) (cy : ClassId) (h_this : Nat) (h_laid : Nat) (h_p2 : Nat) (sz : Nat) (g_this_0 g_this_2 g_this_3 g_this_4 g_this_5 g_this_6 : Value) (a_laid : Nat → Int32) (a_p2 : Nat → Int32) (x1 : Int32) (x3 : Int32) (x4 : Int32) (Q : Int32 → Prop) (h : p_X1_distance a_laid a_p2 x1 x3 x4 Q) : Met l yX1_distance wsX1_distance rm_X1_distance (va_Pc [.ref h_this, .int x1, .ref h_p2, .int x3, .int x4] (fun U => U.heap.size = sz ∧ va_P (dC, dI) vwCl [(h_this, .inr (1, [g_this_0, .ref h_laid, g_this_2, g_this_3, g_this_4, g_this_5, g_this_6])), (h_laid, .inl (cy, 120, .inl a_laid)), (h_p2, .inl (cy, 72, .inl a_p2))] U.heap ∧ va_K (dC, dI) vwCl [(cy, .int)] U ∧ va_D (fun _ => True) [(h_this, .inr (1, [g_this_0, .ref h_laid, g_this_2, g_this_3, g_this_4, g_this_5, g_this_6])), (h_laid, .inl (cy, 120, .inl a_laid)), (h_p2, .inl (cy, 72, .inl a_p2))])) (va_Qi (fun (r : Int32) (u : Unit) => Q r) (fun (u : Unit) (t : State) => va_P (dC, dI) vwCl [(h_this, .inr (1, [g_this_0, .ref h_laid, g_this_2, g_this_3, g_this_4, g_this_5, g_this_6])), (h_laid, .inl (cy, 120, .inl a_laid)), (h_p2, .inl (cy, 72, .inl a_p2))] t.heap ∧ va_K (dC, dI) vwCl [(cy, .int)] t ∧ va_D (va_A [(h_this, .inr (1, [g_this_0, .ref h_laid, g_this_2, g_this_3, g_this_4, g_this_5, g_this_6])), (h_laid, .inl (cy, 120, .inl a_laid)), (h_p2, .inl (cy, 72, .inl a_p2))] sz) [(h_this, .inr (1, [g_this_0, .ref h_laid, g_this_2, g_this_3, g_this_4, g_this_5, g_this_6])), (h_laid, .inl (cy, 120, .inl a_laid)), (h_p2, .inl (cy, 72, .inl a_p2))]) (va_A [(h_this, .inr (1, [g_this_0, .ref h_laid, g_this_2, g_this_3, g_this_4, g_this_5, g_this_6])), (h_laid, .inl (cy, 120, .inl a_laid)), (h_p2, .inl (cy, 72, .inl a_p2))] sz)) 0 0 (va_A [(h_this, .inr (1, [g_this_0, .ref h_laid, g_this_2, g_this_3, g_this_4, g_this_5, g_this_6])), (h_laid, .inl (cy, 120, .inl a_laid)), (h_p2, .inl (cy, 72, .inl a_p2))] sz) := by
  refine Met.ofW (cc := cX1_distance) (maxL := 7) (ret := (some .int)) (by decide) rfl ?_
  intro p e s m args below meth c s₁ B hml hv
  obtain ⟨hargs, hsz, hP, hK, hD0⟩ := hv
  have hx := B.exec
  have hb := B.bytes
  have hr := B.returns
  have hts := atoms_spec (ws := wsX1_distance) B.pre
  have hown : s.vm.findClass RX1 = some m.cls := findClass_of_methodNamed B.named
  have hlocks := B.notSynchronized
  subst hsz
  have hD := hD0.self (sz := s.heap.size)
  generalize hAe : va_A [(h_this, .inr (1, [g_this_0, .ref h_laid, g_this_2, g_this_3, g_this_4, g_this_5, g_this_6])), (h_laid, .inl (cy, 120, .inl a_laid)), (h_p2, .inl (cy, 72, .inl a_p2))] s.heap.size = A at hD ⊢
  have hA : ∀ q : Nat, s.heap.size ≤ q → A q := fun q h => by rw [← hAe]; exact Or.inr h
  have hS : va_S A s.heap s.heap [] := va_S.rf
  have in_X1 : ∀ w ∈ u_ws RX1 TX1 7, w ∈ wsX1_distance := by decide +kernel
  have k_15 := hts (.fieldLink RX1 15 "ChequeDesk$Head" "laid" "[I") (by decide +kernel)
  have m_42_1 := hts (.methodLink RX1 42 Lib.Math.abs.name) (by decide +kernel)
  have m_42_2 := hts (.static Lib.Math.abs.name) (by decide +kernel)
  have m_42_3 := hts (.initialized "java/lang/Math") (by decide +kernel)
  have m_42_4 := hts (.code Lib.Math.abs.name Lib.Math.abs.code 1 (some .int)) (by decide +kernel)
  have hl := lv_entry ([.ref h_this, .int x1, .ref h_p2, .int x3, .int x4]) (n := 7) (Nat.le_of_ble_eq_true rfl)
  rw [show entryFrame m args 7 = entryFrame m ([.ref h_this, .int x1, .ref h_p2, .int x3, .int x4] : List Value).toArray 7 by rw [hargs], lg_entry_eq]
  generalize (lg_sl ([.ref h_this, .int x1, .ref h_p2, .int x3, .int x4]) ++ List.replicate (7 - (lg_sl ([.ref h_this, .int x1, .ref h_p2, .int x3, .int x4])).length) Slot.unset).toArray = ls at hl ⊢
  have hl : lv_has ls 7 [(0, .ref h_this), (1, .int x1), (2, .ref h_p2), (3, .int x3), (4, .int x4)] := hl
  have hP : va_P (dC, dI) vwCl [(h_this, .inr (1, [g_this_0, .ref h_laid, g_this_2, g_this_3, g_this_4, g_this_5, g_this_6])), (h_laid, .inl (cy, 120, .inl a_laid)), (h_p2, .inl (cy, 72, .inl a_p2))] s.heap := hP
  change W p l e rm_X1_distance s m args below meth c s.heap [] 0 0 _ _
  generalize hQQ : MQ below _ _ _ _ _ _ = QQ
  have RET : ∀ (r : Int32) (H : Heap) (locs : List Loc) (ls : Array Slot) (pc : Nat), decode cX1_distance pc = .ok (.ireturn, 1) → Q r → va_P (dC, dI) vwCl [(h_this, .inr (1, [g_this_0, .ref h_laid, g_this_2, g_this_3, g_this_4, g_this_5, g_this_6])), (h_laid, .inl (cy, 120, .inl a_laid)), (h_p2, .inl (cy, 72, .inl a_p2))] H → va_D A [(h_this, .inr (1, [g_this_0, .ref h_laid, g_this_2, g_this_3, g_this_4, g_this_5, g_this_6])), (h_laid, .inl (cy, 120, .inl a_laid)), (h_p2, .inl (cy, 72, .inl a_p2))] → va_S A s.heap H locs → W p l e rm_X1_distance s m args below meth c H locs 0 0 QQ (F0 m pc ls [.int r]) := by
    intro r  H locs ls pc hdg hq hP hD hS
    rw [← hQQ]
    exact W.iret (v := r) hx hb hr (fun t ht hW => ⟨⟨r, (), rfl, hq, by rw [ht]; exact hP, va_K.moved hW.alike hK, hD⟩, hS.F ht⟩) hS.2.2 hdg
  clear hQQ
  unfold p_X1_distance at h
  have L6 : ∀ (x1 : Int32) (x3 : Int32) (x4 : Int32) (K6 : Int32 → Int32 → Prop) (n : Nat) (x5 : Int32) (x6 : Int32) (H : Heap) (locs : List Loc) (ls : Array Slot), wl2 (p_X1_distance_B6 a_laid a_p2 x1 x3 x4 K6) n x5 x6 → va_P (dC, dI) vwCl [(h_this, .inr (1, [g_this_0, .ref h_laid, g_this_2, g_this_3, g_this_4, g_this_5, g_this_6])), (h_laid, .inl (cy, 120, .inl a_laid)), (h_p2, .inl (cy, 72, .inl a_p2))] H → va_D A [(h_this, .inr (1, [g_this_0, .ref h_laid, g_this_2, g_this_3, g_this_4, g_this_5, g_this_6])), (h_laid, .inl (cy, 120, .inl a_laid)), (h_p2, .inl (cy, 72, .inl a_p2))] → va_S A s.heap H locs → lv_has ls 7 [(0, .ref h_this), (1, .int x1), (2, .ref h_p2), (3, .int x3), (4, .int x4), (5, .int x5), (6, .int x6)] → (∀ (x5 : Int32) (x6 : Int32) (H : Heap) (locs : List Loc) (ls : Array Slot), K6 x5 x6 → va_P (dC, dI) vwCl [(h_this, .inr (1, [g_this_0, .ref h_laid, g_this_2, g_this_3, g_this_4, g_this_5, g_this_6])), (h_laid, .inl (cy, 120, .inl a_laid)), (h_p2, .inl (cy, 72, .inl a_p2))] H → va_D A [(h_this, .inr (1, [g_this_0, .ref h_laid, g_this_2, g_this_3, g_this_4, g_this_5, g_this_6])), (h_laid, .inl (cy, 120, .inl a_laid)), (h_p2, .inl (cy, 72, .inl a_p2))] → va_S A s.heap H locs → lv_has ls 7 [(5, .int x5)] → W p l e rm_X1_distance s m args below meth c H locs 0 0 QQ (F0 m 52 ls [])) → W p l e rm_X1_distance s m args below meth c H locs 0 0 QQ (F0 m 6 ls []) := by
    intro x1 x3 x4 K6 n
    induction n with
    | zero => intro x5 x6 H locs ls h; exact False.elim h
    | succ n ih =>
      intro x5 x6 H locs ls h hP hD hS hl hk
      have ih := fun x5 x6 H locs ls h hP hD hS hl => ih x5 x6 H locs ls h hP hD hS hl hk
      replace h : p_X1_distance_B6 a_laid a_p2 x1 x3 x4 K6 (wl2 (p_X1_distance_B6 a_laid a_p2 x1 x3 x4 K6) n) x5 x6 := h
      unfold p_X1_distance_B6 at h
      refine lv_iload hx hb dX1_distance_6 (lv_at hl 6 rfl) ?_
      refine lv_bipush (v := 6) hx hb dX1_distance_8 (by decide) ?_
      refine lv_icmp_ge (tgt := 52) hx hb dX1_distance_10 (by decide) (fun c10 => ?_) (fun c10 => ?_)
      · replace h := And.left h c10
        exact hk x5 x6 H locs ls h hP hD hS (lv_sub hl [5] rfl)
      · replace h := And.right h c10
        refine lv_iload hx hb dX1_distance_13 (lv_at hl 5 rfl) ?_
        refine lv_aload_n hx hb dX1_distance_15 rfl (lv_at hl 0 rfl) ?_
        refine va_get (D := (dC, dI)) (ci := 1) (v := .ref h_laid) (C := RX1) (T := TX1) (N := 7) hx hb hts in_X1 hown hK hP 0 rfl rfl 1 (by decide) k_15 (fun _ h9 => h9) rfl dX1_distance_16 ?_
        refine lv_iload_n hx hb dX1_distance_19 rfl (lv_at hl 1 rfl) ?_
        refine lv_bipush (v := 6) hx hb dX1_distance_20 (by decide) ?_
        refine lv_imul hx hb dX1_distance_22 ?_
        refine lv_iload hx hb dX1_distance_23 (lv_at hl 6 rfl) ?_
        refine lv_iadd hx hb dX1_distance_25 ?_
        obtain ⟨b26, h⟩ := h
        refine va_iald hx hb hK hP 1 0 rfl rfl b26 dX1_distance_26 ?_
        refine lv_iload hx hb dX1_distance_27 (lv_at hl 4 rfl) ?_
        refine lv_aload_n hx hb dX1_distance_29 rfl (lv_at hl 2 rfl) ?_
        refine lv_iload_n hx hb dX1_distance_30 rfl (lv_at hl 3 rfl) ?_
        refine lv_bipush (v := 6) hx hb dX1_distance_31 (by decide) ?_
        refine lv_imul hx hb dX1_distance_33 ?_
        refine lv_iload hx hb dX1_distance_34 (lv_at hl 6 rfl) ?_
        refine lv_iadd hx hb dX1_distance_36 ?_
        obtain ⟨b37, h⟩ := h
        refine va_iald hx hb hK hP 2 0 rfl rfl b37 dX1_distance_37 ?_
        refine lv_imul hx hb dX1_distance_38 ?_
        refine lv_isub hx hb dX1_distance_39 ?_
        refine my_mabs hx hb (by rw [hml]; exact hl.1.symm) hown m_42_1 m_42_2 m_42_3 m_42_4 (Nat.le_of_ble_eq_true rfl) (Nat.le_of_ble_eq_true rfl) (Nat.zero_le _) (Nat.zero_le _) dX1_distance_40 ?_
        refine lv_iadd hx hb dX1_distance_43 ?_
        refine lv_istore (lv' := [(5, .int (x5 + (jabs ((a_laid (Int32.toNatClampNeg ((x1 * 6) + x6))) - (x4 * (a_p2 (Int32.toNatClampNeg ((x3 * 6) + x6)))))))), (0, .ref h_this), (1, .int x1), (2, .ref h_p2), (3, .int x3), (4, .int x4), (6, .int x6)]) hx hb dX1_distance_44 hl (by decide) rfl (fun ls hl => ?_)
        refine lv_iinc (v := x6 + 1) (lv' := [(6, .int (x6 + 1)), (5, .int (x5 + (jabs ((a_laid (Int32.toNatClampNeg ((x1 * 6) + x6))) - (x4 * (a_p2 (Int32.toNatClampNeg ((x3 * 6) + x6)))))))), (0, .ref h_this), (1, .int x1), (2, .ref h_p2), (3, .int x3), (4, .int x4)]) hx hb dX1_distance_46 hl (k := 6) rfl (by rfl) (by decide) rfl (fun ls hl => ?_)
        refine lv_goto (tgt := 6) hx hb dX1_distance_49 (by decide) ?_
        exact ih (x5 + (jabs ((a_laid (Int32.toNatClampNeg ((x1 * 6) + x6))) - (x4 * (a_p2 (Int32.toNatClampNeg ((x3 * 6) + x6))))))) (x6 + 1) H locs ls h hP hD hS (lv_sub hl [2, 3, 4, 5, 6, 1, 0] rfl)
  generalize hlo : ([] : List Loc) = locs at hS ⊢
  obtain ⟨H, hH⟩ : ∃ z, z = s.heap := ⟨_, rfl⟩
  rw [show W p l e rm_X1_distance s m args below meth c s.heap = W p l e rm_X1_distance s m args below meth c H by rw [hH]]
  replace hP : va_P (dC, dI) vwCl [(h_this, .inr (1, [g_this_0, .ref h_laid, g_this_2, g_this_3, g_this_4, g_this_5, g_this_6])), (h_laid, .inl (cy, 120, .inl a_laid)), (h_p2, .inl (cy, 72, .inl a_p2))] H := by rw [hH]; exact hP
  replace hS : va_S A s.heap H locs := by rw [hH]; exact hS
  clear hH hlo
  refine lv_iconst (v := 0) hx hb dX1_distance_0 (by decide) ?_
  refine lv_istore (lv' := [(5, .int 0), (0, .ref h_this), (1, .int x1), (2, .ref h_p2), (3, .int x3), (4, .int x4)]) hx hb dX1_distance_1 hl (by decide) rfl (fun ls hl => ?_)
  refine lv_iconst (v := 0) hx hb dX1_distance_3 (by decide) ?_
  refine lv_istore (lv' := [(6, .int 0), (5, .int 0), (0, .ref h_this), (1, .int x1), (2, .ref h_p2), (3, .int x3), (4, .int x4)]) hx hb dX1_distance_4 hl (by decide) rfl (fun ls hl => ?_)
  obtain ⟨n6, h⟩ := h
  refine L6 x1 x3 x4 _ n6 0 0 H locs ls h hP hD hS (lv_sub hl [2, 3, 4, 5, 6, 1, 0] rfl) (fun x5_52 x6_52 H locs ls h hP hD hS hl => ?_)
  refine lv_iload hx hb dX1_distance_52 (lv_at hl 0 rfl) ?_
  exact RET x5_52 H locs ls 54 dX1_distance_54 h hP hD hS
abbrev rm_X1_weigh : Room := { frames := 2, cells := 0, slots := 0, locals := 47 }
theorem q_X1_weigh : yX1_weigh.cls = RX1 ∧ yX1_weigh.cls ≠ "java/lang/invoke/MethodHandle" ∧ yX1_weigh.cls ≠ "java/lang/invoke/VarHandle" ∧ (parseMethodDescriptor yX1_weigh.desc).map (fun d => d.parameters.length) = some 1 := by decide +kernel
set_option maxHeartbeats 4000000 in
set_option maxRecDepth 100000 in
theorem c_X1_weigh (l : Launch) (dC : Nat → ClassId) (dI : Nat → Nat → Nat) (cy : ClassId) (h_this : Nat) (h_costs : Nat) (h_laid : Nat) (h_p1 : Nat) (sz : Nat) (g_this_3 g_this_4 g_this_5 g_this_6 : Value) (f_places : Int32) (a_costs : Nat → Int32) (a_laid : Nat → Int32) (a_p1 : Nat → Int32) (Q : (Nat → Int32) → Prop) (h : p_X1_weigh f_places a_costs a_laid a_p1 Q) : Met l yX1_weigh wsX1_weigh rm_X1_weigh (va_Pc [.ref h_this, .ref h_p1] (fun U => U.heap.size = sz ∧ va_P (dC, dI) vwCl [(h_this, .inr (1, [.int f_places, .ref h_laid, .ref h_costs, g_this_3, g_this_4, g_this_5, g_this_6])), (h_costs, .inl (cy, 2160, .inl a_costs)), (h_laid, .inl (cy, 120, .inl a_laid)), (h_p1, .inl (cy, 72, .inl a_p1))] U.heap ∧ va_K (dC, dI) vwCl [(cy, .int)] U ∧ va_D (fun _ => True) [(h_this, .inr (1, [.int f_places, .ref h_laid, .ref h_costs, g_this_3, g_this_4, g_this_5, g_this_6])), (h_costs, .inl (cy, 2160, .inl a_costs)), (h_laid, .inl (cy, 120, .inl a_laid)), (h_p1, .inl (cy, 72, .inl a_p1))])) (va_Qv (fun (u : (Nat → Int32)) => Q u) (fun (u : (Nat → Int32)) (t : State) => va_P (dC, dI) vwCl [(h_this, .inr (1, [.int f_places, .ref h_laid, .ref h_costs, g_this_3, g_this_4, g_this_5, g_this_6])), (h_costs, .inl (cy, 2160, .inl u)), (h_laid, .inl (cy, 120, .inl a_laid)), (h_p1, .inl (cy, 72, .inl a_p1))] t.heap ∧ va_K (dC, dI) vwCl [(cy, .int)] t ∧ va_D (va_A [(h_this, .inr (1, [.int f_places, .ref h_laid, .ref h_costs, g_this_3, g_this_4, g_this_5, g_this_6])), (h_costs, .inl (cy, 2160, .inl a_costs)), (h_laid, .inl (cy, 120, .inl a_laid)), (h_p1, .inl (cy, 72, .inl a_p1))] sz) [(h_this, .inr (1, [.int f_places, .ref h_laid, .ref h_costs, g_this_3, g_this_4, g_this_5, g_this_6])), (h_costs, .inl (cy, 2160, .inl u)), (h_laid, .inl (cy, 120, .inl a_laid)), (h_p1, .inl (cy, 72, .inl a_p1))]) (va_A [(h_this, .inr (1, [.int f_places, .ref h_laid, .ref h_costs, g_this_3, g_this_4, g_this_5, g_this_6])), (h_costs, .inl (cy, 2160, .inl a_costs)), (h_laid, .inl (cy, 120, .inl a_laid)), (h_p1, .inl (cy, 72, .inl a_p1))] sz)) 0 0 (va_A [(h_this, .inr (1, [.int f_places, .ref h_laid, .ref h_costs, g_this_3, g_this_4, g_this_5, g_this_6])), (h_costs, .inl (cy, 2160, .inl a_costs)), (h_laid, .inl (cy, 120, .inl a_laid)), (h_p1, .inl (cy, 72, .inl a_p1))] sz) := by
  refine Met.ofW (cc := cX1_weigh) (maxL := 6) (ret := none) (by decide) rfl ?_
  intro p e s m args below meth c s₁ B hml hv
  obtain ⟨hargs, hsz, hP, hK, hD0⟩ := hv
  have hx := B.exec
  have hb := B.bytes
  have hr := B.returns
  have hts := atoms_spec (ws := wsX1_weigh) B.pre
  have hown : s.vm.findClass RX1 = some m.cls := findClass_of_methodNamed B.named
  have hlocks := B.notSynchronized
  subst hsz
  have hD := hD0.self (sz := s.heap.size)
  generalize hAe : va_A [(h_this, .inr (1, [.int f_places, .ref h_laid, .ref h_costs, g_this_3, g_this_4, g_this_5, g_this_6])), (h_costs, .inl (cy, 2160, .inl a_costs)), (h_laid, .inl (cy, 120, .inl a_laid)), (h_p1, .inl (cy, 72, .inl a_p1))] s.heap.size = A at hD ⊢
  have hA : ∀ q : Nat, s.heap.size ≤ q → A q := fun q h => by rw [← hAe]; exact Or.inr h
  have hS : va_S A s.heap s.heap [] := va_S.rf
  have in_X1 : ∀ w ∈ u_ws RX1 TX1 7, w ∈ wsX1_weigh := by decide +kernel
  have k_9 := hts (.fieldLink RX1 9 "ChequeDesk$Head" "places" "I") (by decide +kernel)
  have k_19 := hts (.fieldLink RX1 19 "ChequeDesk$Head" "costs" "[I") (by decide +kernel)
  have hl := lv_entry ([.ref h_this, .ref h_p1]) (n := 6) (Nat.le_of_ble_eq_true rfl)
  rw [show entryFrame m args 6 = entryFrame m ([.ref h_this, .ref h_p1] : List Value).toArray 6 by rw [hargs], lg_entry_eq]
  generalize (lg_sl ([.ref h_this, .ref h_p1]) ++ List.replicate (6 - (lg_sl ([.ref h_this, .ref h_p1])).length) Slot.unset).toArray = ls at hl ⊢
  have hl : lv_has ls 6 [(0, .ref h_this), (1, .ref h_p1)] := hl
  have hP : va_P (dC, dI) vwCl [(h_this, .inr (1, [.int f_places, .ref h_laid, .ref h_costs, g_this_3, g_this_4, g_this_5, g_this_6])), (h_costs, .inl (cy, 2160, .inl a_costs)), (h_laid, .inl (cy, 120, .inl a_laid)), (h_p1, .inl (cy, 72, .inl a_p1))] s.heap := hP
  change W p l e rm_X1_weigh s m args below meth c s.heap [] 0 0 _ _
  generalize hQQ : MQ below _ _ _ _ _ _ = QQ
  have RET : ∀ (a_costs : Nat → Int32) (H : Heap) (locs : List Loc) (ls : Array Slot) (pc : Nat), decode cX1_weigh pc = .ok (.return_, 1) → Q a_costs → va_P (dC, dI) vwCl [(h_this, .inr (1, [.int f_places, .ref h_laid, .ref h_costs, g_this_3, g_this_4, g_this_5, g_this_6])), (h_costs, .inl (cy, 2160, .inl a_costs)), (h_laid, .inl (cy, 120, .inl a_laid)), (h_p1, .inl (cy, 72, .inl a_p1))] H → va_D A [(h_this, .inr (1, [.int f_places, .ref h_laid, .ref h_costs, g_this_3, g_this_4, g_this_5, g_this_6])), (h_costs, .inl (cy, 2160, .inl a_costs)), (h_laid, .inl (cy, 120, .inl a_laid)), (h_p1, .inl (cy, 72, .inl a_p1))] → va_S A s.heap H locs → W p l e rm_X1_weigh s m args below meth c H locs 0 0 QQ (F0 m pc ls []) := by
    intro a_costs H locs ls pc hdg hq hP hD hS
    rw [← hQQ]
    exact W.vret hx hb hr (fun t ht hW => ⟨⟨a_costs, rfl, hq, by rw [ht]; exact hP, va_K.moved hW.alike hK, hD⟩, hS.F ht⟩) hS.2.2 hdg
  clear hQQ
  unfold p_X1_weigh at h
  have L2 : ∀ (K2 : Int32 → (Nat → Int32) → Prop) (n : Nat) (x2 : Int32) (a_costs : Nat → Int32) (H : Heap) (locs : List Loc) (ls : Array Slot), wl2 (p_X1_weigh_B2 f_places a_laid a_p1 K2) n x2 a_costs → va_P (dC, dI) vwCl [(h_this, .inr (1, [.int f_places, .ref h_laid, .ref h_costs, g_this_3, g_this_4, g_this_5, g_this_6])), (h_costs, .inl (cy, 2160, .inl a_costs)), (h_laid, .inl (cy, 120, .inl a_laid)), (h_p1, .inl (cy, 72, .inl a_p1))] H → va_D A [(h_this, .inr (1, [.int f_places, .ref h_laid, .ref h_costs, g_this_3, g_this_4, g_this_5, g_this_6])), (h_costs, .inl (cy, 2160, .inl a_costs)), (h_laid, .inl (cy, 120, .inl a_laid)), (h_p1, .inl (cy, 72, .inl a_p1))] → va_S A s.heap H locs → lv_has ls 6 [(0, .ref h_this), (1, .ref h_p1), (2, .int x2)] → (∀ (x2 : Int32) (a_costs : Nat → Int32) (H : Heap) (locs : List Loc) (ls : Array Slot), K2 x2 a_costs → va_P (dC, dI) vwCl [(h_this, .inr (1, [.int f_places, .ref h_laid, .ref h_costs, g_this_3, g_this_4, g_this_5, g_this_6])), (h_costs, .inl (cy, 2160, .inl a_costs)), (h_laid, .inl (cy, 120, .inl a_laid)), (h_p1, .inl (cy, 72, .inl a_p1))] H → va_D A [(h_this, .inr (1, [.int f_places, .ref h_laid, .ref h_costs, g_this_3, g_this_4, g_this_5, g_this_6])), (h_costs, .inl (cy, 2160, .inl a_costs)), (h_laid, .inl (cy, 120, .inl a_laid)), (h_p1, .inl (cy, 72, .inl a_p1))] → va_S A s.heap H locs → lv_has ls 6 [] → W p l e rm_X1_weigh s m args below meth c H locs 0 0 QQ (F0 m 74 ls [])) → W p l e rm_X1_weigh s m args below meth c H locs 0 0 QQ (F0 m 2 ls []) := by
    intro K2 n
    induction n with
    | zero => intro x2 a_costs H locs ls h; exact False.elim h
    | succ n ih =>
      intro x2 a_costs H locs ls h hP hD hS hl hk
      have ih := fun x2 a_costs H locs ls h hP hD hS hl => ih x2 a_costs H locs ls h hP hD hS hl hk
      replace h : p_X1_weigh_B2 f_places a_laid a_p1 K2 (wl2 (p_X1_weigh_B2 f_places a_laid a_p1 K2) n) x2 a_costs := h
      unfold p_X1_weigh_B2 at h
      have L12 : ∀ (x2 : Int32) (K12 : Int32 → (Nat → Int32) → Prop) (n : Nat) (x3 : Int32) (a_costs : Nat → Int32) (H : Heap) (locs : List Loc) (ls : Array Slot), wl2 (p_X1_weigh_B12 a_laid a_p1 x2 K12) n x3 a_costs → va_P (dC, dI) vwCl [(h_this, .inr (1, [.int f_places, .ref h_laid, .ref h_costs, g_this_3, g_this_4, g_this_5, g_this_6])), (h_costs, .inl (cy, 2160, .inl a_costs)), (h_laid, .inl (cy, 120, .inl a_laid)), (h_p1, .inl (cy, 72, .inl a_p1))] H → va_D A [(h_this, .inr (1, [.int f_places, .ref h_laid, .ref h_costs, g_this_3, g_this_4, g_this_5, g_this_6])), (h_costs, .inl (cy, 2160, .inl a_costs)), (h_laid, .inl (cy, 120, .inl a_laid)), (h_p1, .inl (cy, 72, .inl a_p1))] → va_S A s.heap H locs → lv_has ls 6 [(0, .ref h_this), (1, .ref h_p1), (2, .int x2), (3, .int x3)] → (∀ (x3 : Int32) (a_costs : Nat → Int32) (H : Heap) (locs : List Loc) (ls : Array Slot), K12 x3 a_costs → va_P (dC, dI) vwCl [(h_this, .inr (1, [.int f_places, .ref h_laid, .ref h_costs, g_this_3, g_this_4, g_this_5, g_this_6])), (h_costs, .inl (cy, 2160, .inl a_costs)), (h_laid, .inl (cy, 120, .inl a_laid)), (h_p1, .inl (cy, 72, .inl a_p1))] H → va_D A [(h_this, .inr (1, [.int f_places, .ref h_laid, .ref h_costs, g_this_3, g_this_4, g_this_5, g_this_6])), (h_costs, .inl (cy, 2160, .inl a_costs)), (h_laid, .inl (cy, 120, .inl a_laid)), (h_p1, .inl (cy, 72, .inl a_p1))] → va_S A s.heap H locs → lv_has ls 6 [(0, .ref h_this), (1, .ref h_p1), (2, .int x2)] → W p l e rm_X1_weigh s m args below meth c H locs 0 0 QQ (F0 m 68 ls [])) → W p l e rm_X1_weigh s m args below meth c H locs 0 0 QQ (F0 m 12 ls []) := by
        intro x2 K12 n
        induction n with
        | zero => intro x3 a_costs H locs ls h; exact False.elim h
        | succ n ih =>
          intro x3 a_costs H locs ls h hP hD hS hl hk
          have ih := fun x3 a_costs H locs ls h hP hD hS hl => ih x3 a_costs H locs ls h hP hD hS hl hk
          replace h : p_X1_weigh_B12 a_laid a_p1 x2 K12 (wl2 (p_X1_weigh_B12 a_laid a_p1 x2 K12) n) x3 a_costs := h
          unfold p_X1_weigh_B12 at h
          have L28 : ∀ (x2 : Int32) (x3 : Int32) (x4 : Int32) (K28 : Int32 → (Nat → Int32) → Prop) (n : Nat) (x5 : Int32) (a_costs : Nat → Int32) (H : Heap) (locs : List Loc) (ls : Array Slot), wl2 (p_X1_weigh_B28 a_laid a_p1 x2 x3 x4 K28) n x5 a_costs → va_P (dC, dI) vwCl [(h_this, .inr (1, [.int f_places, .ref h_laid, .ref h_costs, g_this_3, g_this_4, g_this_5, g_this_6])), (h_costs, .inl (cy, 2160, .inl a_costs)), (h_laid, .inl (cy, 120, .inl a_laid)), (h_p1, .inl (cy, 72, .inl a_p1))] H → va_D A [(h_this, .inr (1, [.int f_places, .ref h_laid, .ref h_costs, g_this_3, g_this_4, g_this_5, g_this_6])), (h_costs, .inl (cy, 2160, .inl a_costs)), (h_laid, .inl (cy, 120, .inl a_laid)), (h_p1, .inl (cy, 72, .inl a_p1))] → va_S A s.heap H locs → lv_has ls 6 [(0, .ref h_this), (1, .ref h_p1), (2, .int x2), (3, .int x3), (4, .int x4), (5, .int x5)] → (∀ (x5 : Int32) (a_costs : Nat → Int32) (H : Heap) (locs : List Loc) (ls : Array Slot), K28 x5 a_costs → va_P (dC, dI) vwCl [(h_this, .inr (1, [.int f_places, .ref h_laid, .ref h_costs, g_this_3, g_this_4, g_this_5, g_this_6])), (h_costs, .inl (cy, 2160, .inl a_costs)), (h_laid, .inl (cy, 120, .inl a_laid)), (h_p1, .inl (cy, 72, .inl a_p1))] H → va_D A [(h_this, .inr (1, [.int f_places, .ref h_laid, .ref h_costs, g_this_3, g_this_4, g_this_5, g_this_6])), (h_costs, .inl (cy, 2160, .inl a_costs)), (h_laid, .inl (cy, 120, .inl a_laid)), (h_p1, .inl (cy, 72, .inl a_p1))] → va_S A s.heap H locs → lv_has ls 6 [(0, .ref h_this), (1, .ref h_p1), (2, .int x2), (3, .int x3)] → W p l e rm_X1_weigh s m args below meth c H locs 0 0 QQ (F0 m 62 ls [])) → W p l e rm_X1_weigh s m args below meth c H locs 0 0 QQ (F0 m 28 ls []) := by
            intro x2 x3 x4 K28 n
            induction n with
            | zero => intro x5 a_costs H locs ls h; exact False.elim h
            | succ n ih =>
              intro x5 a_costs H locs ls h hP hD hS hl hk
              have ih := fun x5 a_costs H locs ls h hP hD hS hl => ih x5 a_costs H locs ls h hP hD hS hl hk
              replace h : p_X1_weigh_B28 a_laid a_p1 x2 x3 x4 K28 (wl2 (p_X1_weigh_B28 a_laid a_p1 x2 x3 x4 K28) n) x5 a_costs := h
              unfold p_X1_weigh_B28 at h
              refine lv_iload hx hb dX1_weigh_28 (lv_at hl 5 rfl) ?_
              refine lv_bipush (v := 9) hx hb dX1_weigh_30 (by decide) ?_
              refine lv_icmp_ge (tgt := 62) hx hb dX1_weigh_32 (by decide) (fun c32 => ?_) (fun c32 => ?_)
              · replace h := And.left h c32
                exact hk x5 a_costs H locs ls h hP hD hS (lv_sub hl [0, 1, 2, 3] rfl)
              · replace h := And.right h c32
                refine lv_aload_n hx hb dX1_weigh_35 rfl (lv_at hl 0 rfl) ?_
                refine va_get (D := (dC, dI)) (ci := 1) (v := .ref h_costs) (C := RX1) (T := TX1) (N := 7) hx hb hts in_X1 hown hK hP 0 rfl rfl 2 (by decide) k_19 (fun _ h9 => h9) rfl dX1_weigh_36 ?_
                refine lv_iload hx hb dX1_weigh_39 (lv_at hl 4 rfl) ?_
                refine lv_iload hx hb dX1_weigh_41 (lv_at hl 5 rfl) ?_
                refine lv_iadd hx hb dX1_weigh_43 ?_
                refine lv_aload_n hx hb dX1_weigh_44 rfl (lv_at hl 0 rfl) ?_
                refine lv_iload_n hx hb dX1_weigh_45 rfl (lv_at hl 2 rfl) ?_
                refine lv_aload_n hx hb dX1_weigh_46 rfl (lv_at hl 1 rfl) ?_
                refine lv_iload_n hx hb dX1_weigh_47 rfl (lv_at hl 3 rfl) ?_
                refine lv_iconst (v := 4) hx hb dX1_weigh_48 (by decide) ?_
                refine lv_iload hx hb dX1_weigh_49 (lv_at hl 5 rfl) ?_
                refine lv_iadd hx hb dX1_weigh_51 ?_
                have hPc := hP.sub (ws' := [(h_this, .inr (1, [.int f_places, .ref h_laid, .ref h_costs, g_this_3, g_this_4, g_this_5, g_this_6])), (h_laid, .inl (cy, 120, .inl a_laid)), (h_p1, .inl (cy, 72, .inl a_p1))]) [0, 2, 3] rfl
                have hDc := hD.sub (ws' := [(h_this, .inr (1, [.int f_places, .ref h_laid, .ref h_costs, g_this_3, g_this_4, g_this_5, g_this_6])), (h_laid, .inl (cy, 120, .inl a_laid)), (h_p1, .inl (cy, 72, .inl a_p1))]) [0, 2, 3] (by decide) rfl
                have hFc := va_free (wc := [(h_this, .inr (1, [.int f_places, .ref h_laid, .ref h_costs, g_this_3, g_this_4, g_this_5, g_this_6])), (h_laid, .inl (cy, 120, .inl a_laid)), (h_p1, .inl (cy, 72, .inl a_p1))]) hD hS hA [0, 2, 3] rfl
                refine va_calli (va_runV (As := [.int x2, .ref h_p1, .int x3, .int (4 + x5)]) (rest := [.int (x4 + x5), .ref h_costs]) ⟨hx, hb, hml, hown, hts⟩ (c_X1_distance l dC dI cy h_this h_laid h_p1 H.size (.int f_places) (.ref h_costs) (g_this_3) (g_this_4) (g_this_5) (g_this_6) a_laid a_p1 x2 x3 (4 + x5) _ h) (cwV 4 hts gX1_weigh_X1_distance rfl rfl rfl q_X1_distance ⟨Nat.le_of_ble_eq_true rfl, Nat.le_of_ble_eq_true rfl⟩) ⟨fun a U g mk q => by obtain ⟨q0, q1, qP, qK, qD⟩ := q; exact ⟨q0, q1, qP, va_K.moved (u := U) (U := U.calling g mk a) (Vm.Alike.refl U.vm) qK, qD⟩, va_recv hK hP (ci := 1) (q0 := 0) rfl rfl, fun U hU hW => ⟨rfl, by rw [hU], by rw [hU]; exact hPc, va_K.moved hW.alike hK, hDc.weaken (fun _ _ _ _ => trivial)⟩⟩ rfl rfl hl.1 rfl (lv_room (Nat.le_of_ble_eq_true rfl)) dX1_weigh_52 ⟨Nat.le_of_ble_eq_true rfl, Nat.le_of_ble_eq_true rfl⟩) hS (fun q _ h => hFc q h) hFc (fun r52 u t H1 locs ht hvm hw hB hz1 hk1 hS => ?_)
                obtain ⟨hP1, hK1, hD1⟩ := hB
                rw [ht] at hP1
                obtain ⟨hP, hD⟩ := va_join (wr := [(h_costs, .inl (cy, 2160, .inl a_costs))]) (w1 := [(h_this, .inr (1, [.int f_places, .ref h_laid, .ref h_costs, g_this_3, g_this_4, g_this_5, g_this_6])), (h_laid, .inl (cy, 120, .inl a_laid)), (h_p1, .inl (cy, 72, .inl a_p1))]) hP hD [0, 2, 3] [1] rfl rfl (by decide) (by decide) hk1 hFc hP1 hD1
                replace hP := hP.sub (ws' := [(h_this, .inr (1, [.int f_places, .ref h_laid, .ref h_costs, g_this_3, g_this_4, g_this_5, g_this_6])), (h_costs, .inl (cy, 2160, .inl a_costs)), (h_laid, .inl (cy, 120, .inl a_laid)), (h_p1, .inl (cy, 72, .inl a_p1))]) [1, 0, 2, 3] rfl
                replace hD := hD.sub (ws' := [(h_this, .inr (1, [.int f_places, .ref h_laid, .ref h_costs, g_this_3, g_this_4, g_this_5, g_this_6])), (h_costs, .inl (cy, 2160, .inl a_costs)), (h_laid, .inl (cy, 120, .inl a_laid)), (h_p1, .inl (cy, 72, .inl a_p1))]) [1, 0, 2, 3] (by decide) rfl
                clear hPc hDc hFc hP1 hK1 hD1 hz1 hk1 hvm
                subst ht
                generalize t.heap = H at hP hS ⊢
                replace h := hw
                clear hw
                obtain ⟨b55, h⟩ := h
                refine va_iast hx hb hK hP hD hS 1 0 rfl rfl b55 dX1_weigh_55 (fun H locs hP hD hS => ?_)
                have hP : va_P (dC, dI) vwCl [(h_this, .inr (1, [.int f_places, .ref h_laid, .ref h_costs, g_this_3, g_this_4, g_this_5, g_this_6])), (h_costs, .inl (cy, 2160, .inl (upd a_costs (Int32.toNatClampNeg (x4 + x5)) r52))), (h_laid, .inl (cy, 120, .inl a_laid)), (h_p1, .inl (cy, 72, .inl a_p1))] H := hP
                have hD : va_D A [(h_this, .inr (1, [.int f_places, .ref h_laid, .ref h_costs, g_this_3, g_this_4, g_this_5, g_this_6])), (h_costs, .inl (cy, 2160, .inl (upd a_costs (Int32.toNatClampNeg (x4 + x5)) r52))), (h_laid, .inl (cy, 120, .inl a_laid)), (h_p1, .inl (cy, 72, .inl a_p1))] := hD
                refine lv_iinc (v := x5 + 1) (lv' := [(5, .int (x5 + 1)), (0, .ref h_this), (1, .ref h_p1), (2, .int x2), (3, .int x3), (4, .int x4)]) hx hb dX1_weigh_56 hl (k := 5) rfl (by rfl) (by decide) rfl (fun ls hl => ?_)
                refine lv_goto (tgt := 28) hx hb dX1_weigh_59 (by decide) ?_
                exact ih (x5 + 1) (upd a_costs (Int32.toNatClampNeg (x4 + x5)) r52) H locs ls h hP hD hS (lv_sub hl [1, 2, 3, 4, 5, 0] rfl)
          refine lv_iload_n hx hb dX1_weigh_12 rfl (lv_at hl 3 rfl) ?_
          refine lv_bipush (v := 12) hx hb dX1_weigh_13 (by decide) ?_
          refine lv_icmp_ge (tgt := 68) hx hb dX1_weigh_15 (by decide) (fun c15 => ?_) (fun c15 => ?_)
          · replace h := And.left h c15
            exact hk x3 a_costs H locs ls h hP hD hS (lv_sub hl [0, 1, 2] rfl)
          · replace h := And.right h c15
            refine lv_iload_n hx hb dX1_weigh_18 rfl (lv_at hl 2 rfl) ?_
            refine lv_iload_n hx hb dX1_weigh_19 rfl (lv_at hl 3 rfl) ?_
            have hPc := hP.sub (ws' := []) [] rfl
            have hDc := hD.sub (ws' := []) [] (by decide) rfl
            have hFc := va_free (wc := []) hD hS hA [] rfl
            refine va_calli (va_runS (As := [.int x2, .int x3]) (rest := []) ⟨hx, hb, hml, hown, hts⟩ (c_X1_rowOf l dC dI cy  H.size   x2 x3 _ h) (va_cwS 2 hts gX1_weigh_X1_rowOf rfl rfl rfl q_X1_rowOf ⟨Nat.le_of_ble_eq_true rfl, Nat.le_of_ble_eq_true rfl⟩) ⟨fun a U g mk q => by obtain ⟨q0, q1, qP, qK, qD⟩ := q; exact ⟨q0, q1, qP, va_K.moved (u := U) (U := U.calling g mk a) (Vm.Alike.refl U.vm) qK, qD⟩, fun U hU hW => ⟨rfl, by rw [hU], by rw [hU]; exact hPc, va_K.moved hW.alike hK, hDc.weaken (fun _ _ _ _ => trivial)⟩⟩ rfl rfl hl.1 rfl (lv_room (Nat.le_of_ble_eq_true rfl)) dX1_weigh_20 ⟨Nat.le_of_ble_eq_true rfl, Nat.le_of_ble_eq_true rfl⟩) hS (fun q _ h => hFc q h) hFc (fun r20 u t H1 locs ht hvm hw hB hz1 hk1 hS => ?_)
            obtain ⟨hP1, hK1, hD1⟩ := hB
            rw [ht] at hP1
            obtain ⟨hP, hD⟩ := va_join (wr := [(h_this, .inr (1, [.int f_places, .ref h_laid, .ref h_costs, g_this_3, g_this_4, g_this_5, g_this_6])), (h_costs, .inl (cy, 2160, .inl a_costs)), (h_laid, .inl (cy, 120, .inl a_laid)), (h_p1, .inl (cy, 72, .inl a_p1))]) (w1 := []) hP hD [] [0, 1, 2, 3] rfl rfl (by decide) (by decide) hk1 hFc hP1 hD1
            replace hP := hP.sub (ws' := [(h_this, .inr (1, [.int f_places, .ref h_laid, .ref h_costs, g_this_3, g_this_4, g_this_5, g_this_6])), (h_costs, .inl (cy, 2160, .inl a_costs)), (h_laid, .inl (cy, 120, .inl a_laid)), (h_p1, .inl (cy, 72, .inl a_p1))]) [0, 1, 2, 3] rfl
            replace hD := hD.sub (ws' := [(h_this, .inr (1, [.int f_places, .ref h_laid, .ref h_costs, g_this_3, g_this_4, g_this_5, g_this_6])), (h_costs, .inl (cy, 2160, .inl a_costs)), (h_laid, .inl (cy, 120, .inl a_laid)), (h_p1, .inl (cy, 72, .inl a_p1))]) [0, 1, 2, 3] (by decide) rfl
            clear hPc hDc hFc hP1 hK1 hD1 hz1 hk1 hvm
            subst ht
            generalize t.heap = H at hP hS ⊢
            replace h := hw
            clear hw
            refine lv_istore (lv' := [(4, .int r20), (0, .ref h_this), (1, .ref h_p1), (2, .int x2), (3, .int x3)]) hx hb dX1_weigh_23 hl (by decide) rfl (fun ls hl => ?_)
            refine lv_iconst (v := 0) hx hb dX1_weigh_25 (by decide) ?_
            refine lv_istore (lv' := [(5, .int 0), (4, .int r20), (0, .ref h_this), (1, .ref h_p1), (2, .int x2), (3, .int x3)]) hx hb dX1_weigh_26 hl (by decide) rfl (fun ls hl => ?_)
            obtain ⟨n28, h⟩ := h
            refine L28 x2 x3 r20 _ n28 0 a_costs H locs ls h hP hD hS (lv_sub hl [2, 3, 4, 5, 1, 0] rfl) (fun x5_62 a_costs_62 H locs ls h hP hD hS hl => ?_)
            refine lv_iinc (v := x3 + 1) (lv' := [(3, .int (x3 + 1)), (0, .ref h_this), (1, .ref h_p1), (2, .int x2)]) hx hb dX1_weigh_62 hl (k := 3) rfl (by rfl) (by decide) rfl (fun ls hl => ?_)
            refine lv_goto (tgt := 12) hx hb dX1_weigh_65 (by decide) ?_
            exact ih (x3 + 1) a_costs_62 H locs ls h hP hD hS (lv_sub hl [1, 2, 3, 0] rfl)
      refine lv_iload_n hx hb dX1_weigh_2 rfl (lv_at hl 2 rfl) ?_
      refine lv_aload_n hx hb dX1_weigh_3 rfl (lv_at hl 0 rfl) ?_
      refine va_get (D := (dC, dI)) (ci := 1) (v := .int f_places) (C := RX1) (T := TX1) (N := 7) hx hb hts in_X1 hown hK hP 0 rfl rfl 0 (by decide) k_9 (fun _ h9 => h9) rfl dX1_weigh_4 ?_
      refine lv_icmp_ge (tgt := 74) hx hb dX1_weigh_7 (by decide) (fun c7 => ?_) (fun c7 => ?_)
      · replace h := And.left h c7
        exact hk x2 a_costs H locs ls h hP hD hS (lv_sub hl [] rfl)
      · replace h := And.right h c7
        refine lv_iconst (v := 0) hx hb dX1_weigh_10 (by decide) ?_
        refine lv_istore_n (lv' := [(3, .int 0), (0, .ref h_this), (1, .ref h_p1), (2, .int x2)]) hx hb dX1_weigh_11 rfl hl (by decide) rfl (fun ls hl => ?_)
        obtain ⟨n12, h⟩ := h
        refine L12 x2 _ n12 0 a_costs H locs ls h hP hD hS (lv_sub hl [1, 2, 3, 0] rfl) (fun x3_68 a_costs_68 H locs ls h hP hD hS hl => ?_)
        refine lv_iinc (v := x2 + 1) (lv' := [(2, .int (x2 + 1)), (0, .ref h_this), (1, .ref h_p1)]) hx hb dX1_weigh_68 hl (k := 2) rfl (by rfl) (by decide) rfl (fun ls hl => ?_)
        refine lv_goto (tgt := 2) hx hb dX1_weigh_71 (by decide) ?_
        exact ih (x2 + 1) a_costs_68 H locs ls h hP hD hS (lv_sub hl [1, 2, 0] rfl)
  generalize hlo : ([] : List Loc) = locs at hS ⊢
  obtain ⟨H, hH⟩ : ∃ z, z = s.heap := ⟨_, rfl⟩
  rw [show W p l e rm_X1_weigh s m args below meth c s.heap = W p l e rm_X1_weigh s m args below meth c H by rw [hH]]
  replace hP : va_P (dC, dI) vwCl [(h_this, .inr (1, [.int f_places, .ref h_laid, .ref h_costs, g_this_3, g_this_4, g_this_5, g_this_6])), (h_costs, .inl (cy, 2160, .inl a_costs)), (h_laid, .inl (cy, 120, .inl a_laid)), (h_p1, .inl (cy, 72, .inl a_p1))] H := by rw [hH]; exact hP
  replace hS : va_S A s.heap H locs := by rw [hH]; exact hS
  clear hH hlo
  refine lv_iconst (v := 0) hx hb dX1_weigh_0 (by decide) ?_
  refine lv_istore_n (lv' := [(2, .int 0), (0, .ref h_this), (1, .ref h_p1)]) hx hb dX1_weigh_1 rfl hl (by decide) rfl (fun ls hl => ?_)
  obtain ⟨n2, h⟩ := h
  refine L2  _ n2 0 a_costs H locs ls h hP hD hS (lv_sub hl [1, 2, 0] rfl) (fun x2_74 a_costs_74 H locs ls h hP hD hS hl => ?_)
  exact RET a_costs_74 H locs ls 74 dX1_weigh_74 h hP hD hS
abbrev rm_X1_leastNear : Room := { frames := 1, cells := 0, slots := 0, locals := 21 }
theorem q_X1_leastNear : yX1_leastNear.cls = RX1 ∧ yX1_leastNear.cls ≠ "java/lang/invoke/MethodHandle" ∧ yX1_leastNear.cls ≠ "java/lang/invoke/VarHandle" ∧ (parseMethodDescriptor yX1_leastNear.desc).map (fun d => d.parameters.length) = some 1 := by decide +kernel
set_option maxHeartbeats 4000000 in
set_option maxRecDepth 100000 in
theorem c_X1_leastNear (l : Launch) (dC : Nat → ClassId) (dI : Nat → Nat → Nat) (cy : ClassId) (h_this : Nat) (h_joined : Nat) (sz : Nat) (g_this_0 g_this_1 g_this_2 g_this_3 g_this_4 g_this_5 : Value) (a_joined : Nat → Int32) (x1 : Int32) (Q : Int32 → Prop) (h : p_X1_leastNear a_joined x1 Q) : Met l yX1_leastNear wsX1_leastNear rm_X1_leastNear (va_Pc [.ref h_this, .int x1] (fun U => U.heap.size = sz ∧ va_P (dC, dI) vwCl [(h_this, .inr (1, [g_this_0, g_this_1, g_this_2, g_this_3, g_this_4, g_this_5, .ref h_joined])), (h_joined, .inl (cy, 9, .inl a_joined))] U.heap ∧ va_K (dC, dI) vwCl [(cy, .int)] U ∧ va_D (fun _ => True) [(h_this, .inr (1, [g_this_0, g_this_1, g_this_2, g_this_3, g_this_4, g_this_5, .ref h_joined])), (h_joined, .inl (cy, 9, .inl a_joined))])) (va_Qi (fun (r : Int32) (u : Unit) => Q r) (fun (u : Unit) (t : State) => va_P (dC, dI) vwCl [(h_this, .inr (1, [g_this_0, g_this_1, g_this_2, g_this_3, g_this_4, g_this_5, .ref h_joined])), (h_joined, .inl (cy, 9, .inl a_joined))] t.heap ∧ va_K (dC, dI) vwCl [(cy, .int)] t ∧ va_D (va_A [(h_this, .inr (1, [g_this_0, g_this_1, g_this_2, g_this_3, g_this_4, g_this_5, .ref h_joined])), (h_joined, .inl (cy, 9, .inl a_joined))] sz) [(h_this, .inr (1, [g_this_0, g_this_1, g_this_2, g_this_3, g_this_4, g_this_5, .ref h_joined])), (h_joined, .inl (cy, 9, .inl a_joined))]) (va_A [(h_this, .inr (1, [g_this_0, g_this_1, g_this_2, g_this_3, g_this_4, g_this_5, .ref h_joined])), (h_joined, .inl (cy, 9, .inl a_joined))] sz)) 0 0 (va_A [(h_this, .inr (1, [g_this_0, g_this_1, g_this_2, g_this_3, g_this_4, g_this_5, .ref h_joined])), (h_joined, .inl (cy, 9, .inl a_joined))] sz) := by
  refine Met.ofW (cc := cX1_leastNear) (maxL := 3) (ret := (some .int)) (by decide) rfl ?_
  intro p e s m args below meth c s₁ B hml hv
  obtain ⟨hargs, hsz, hP, hK, hD0⟩ := hv
  have hx := B.exec
  have hb := B.bytes
  have hr := B.returns
  have hts := atoms_spec (ws := wsX1_leastNear) B.pre
  have hown : s.vm.findClass RX1 = some m.cls := findClass_of_methodNamed B.named
  have hlocks := B.notSynchronized
  subst hsz
  have hD := hD0.self (sz := s.heap.size)
  generalize hAe : va_A [(h_this, .inr (1, [g_this_0, g_this_1, g_this_2, g_this_3, g_this_4, g_this_5, .ref h_joined])), (h_joined, .inl (cy, 9, .inl a_joined))] s.heap.size = A at hD ⊢
  have hA : ∀ q : Nat, s.heap.size ≤ q → A q := fun q h => by rw [← hAe]; exact Or.inr h
  have hS : va_S A s.heap s.heap [] := va_S.rf
  have in_X1 : ∀ w ∈ u_ws RX1 TX1 7, w ∈ wsX1_leastNear := by decide +kernel
  have k_31 := hts (.fieldLink RX1 31 "ChequeDesk$Head" "joined" "[I") (by decide +kernel)
  have m_48_1 := hts (.methodLink RX1 48 Lib.Math.min.name) (by decide +kernel)
  have m_48_2 := hts (.static Lib.Math.min.name) (by decide +kernel)
  have m_48_3 := hts (.initialized "java/lang/Math") (by decide +kernel)
  have m_48_4 := hts (.code Lib.Math.min.name Lib.Math.min.code 2 (some .int)) (by decide +kernel)
  have hl := lv_entry ([.ref h_this, .int x1]) (n := 3) (Nat.le_of_ble_eq_true rfl)
  rw [show entryFrame m args 3 = entryFrame m ([.ref h_this, .int x1] : List Value).toArray 3 by rw [hargs], lg_entry_eq]
  generalize (lg_sl ([.ref h_this, .int x1]) ++ List.replicate (3 - (lg_sl ([.ref h_this, .int x1])).length) Slot.unset).toArray = ls at hl ⊢
  have hl : lv_has ls 3 [(0, .ref h_this), (1, .int x1)] := hl
  have hP : va_P (dC, dI) vwCl [(h_this, .inr (1, [g_this_0, g_this_1, g_this_2, g_this_3, g_this_4, g_this_5, .ref h_joined])), (h_joined, .inl (cy, 9, .inl a_joined))] s.heap := hP
  change W p l e rm_X1_leastNear s m args below meth c s.heap [] 0 0 _ _
  generalize hQQ : MQ below _ _ _ _ _ _ = QQ
  have RET : ∀ (r : Int32) (H : Heap) (locs : List Loc) (ls : Array Slot) (pc : Nat), decode cX1_leastNear pc = .ok (.ireturn, 1) → Q r → va_P (dC, dI) vwCl [(h_this, .inr (1, [g_this_0, g_this_1, g_this_2, g_this_3, g_this_4, g_this_5, .ref h_joined])), (h_joined, .inl (cy, 9, .inl a_joined))] H → va_D A [(h_this, .inr (1, [g_this_0, g_this_1, g_this_2, g_this_3, g_this_4, g_this_5, .ref h_joined])), (h_joined, .inl (cy, 9, .inl a_joined))] → va_S A s.heap H locs → W p l e rm_X1_leastNear s m args below meth c H locs 0 0 QQ (F0 m pc ls [.int r]) := by
    intro r  H locs ls pc hdg hq hP hD hS
    rw [← hQQ]
    exact W.iret (v := r) hx hb hr (fun t ht hW => ⟨⟨r, (), rfl, hq, by rw [ht]; exact hP, va_K.moved hW.alike hK, hD⟩, hS.F ht⟩) hS.2.2 hdg
  clear hQQ
  unfold p_X1_leastNear at h
  have J43 : ∀ (x2 : Int32) (H : Heap) (locs : List Loc) (ls : Array Slot), p_X1_leastNear_J43 Q x2 → va_P (dC, dI) vwCl [(h_this, .inr (1, [g_this_0, g_this_1, g_this_2, g_this_3, g_this_4, g_this_5, .ref h_joined])), (h_joined, .inl (cy, 9, .inl a_joined))] H → va_D A [(h_this, .inr (1, [g_this_0, g_this_1, g_this_2, g_this_3, g_this_4, g_this_5, .ref h_joined])), (h_joined, .inl (cy, 9, .inl a_joined))] → va_S A s.heap H locs → lv_has ls 3 [(2, .int x2)] → W p l e rm_X1_leastNear s m args below meth c H locs 0 0 QQ (F0 m 43 ls []) := by
    intro x2 H locs ls h hP hD hS hl
    unfold p_X1_leastNear_J43 at h
    refine lv_iload_n hx hb dX1_leastNear_43 rfl (lv_at hl 0 rfl) ?_
    exact RET x2 H locs ls 44 dX1_leastNear_44 h hP hD hS
  have J24 : ∀ (x1 : Int32) (x2 : Int32) (H : Heap) (locs : List Loc) (ls : Array Slot), p_X1_leastNear_J24 a_joined Q x1 x2 → va_P (dC, dI) vwCl [(h_this, .inr (1, [g_this_0, g_this_1, g_this_2, g_this_3, g_this_4, g_this_5, .ref h_joined])), (h_joined, .inl (cy, 9, .inl a_joined))] H → va_D A [(h_this, .inr (1, [g_this_0, g_this_1, g_this_2, g_this_3, g_this_4, g_this_5, .ref h_joined])), (h_joined, .inl (cy, 9, .inl a_joined))] → va_S A s.heap H locs → lv_has ls 3 [(0, .ref h_this), (1, .int x1), (2, .int x2)] → W p l e rm_X1_leastNear s m args below meth c H locs 0 0 QQ (F0 m 24 ls []) := by
    intro x1 x2 H locs ls h hP hD hS hl
    unfold p_X1_leastNear_J24 at h
    refine lv_iload_n hx hb dX1_leastNear_24 rfl (lv_at hl 1 rfl) ?_
    refine lv_bipush (v := 8) hx hb dX1_leastNear_25 (by decide) ?_
    refine lv_icmp_ge (tgt := 43) hx hb dX1_leastNear_27 (by decide) (fun c27 => ?_) (fun c27 => ?_)
    · replace h := And.left h c27
      exact J43 x2 H locs ls h hP hD hS (lv_sub hl [2] rfl)
    · replace h := And.right h c27
      refine lv_iload_n hx hb dX1_leastNear_30 rfl (lv_at hl 2 rfl) ?_
      refine lv_aload_n hx hb dX1_leastNear_31 rfl (lv_at hl 0 rfl) ?_
      refine va_get (D := (dC, dI)) (ci := 1) (v := .ref h_joined) (C := RX1) (T := TX1) (N := 7) hx hb hts in_X1 hown hK hP 0 rfl rfl 6 (by decide) k_31 (fun _ h9 => h9) rfl dX1_leastNear_32 ?_
      refine lv_iload_n hx hb dX1_leastNear_35 rfl (lv_at hl 1 rfl) ?_
      refine lv_iconst (v := 1) hx hb dX1_leastNear_36 (by decide) ?_
      refine lv_iadd hx hb dX1_leastNear_37 ?_
      obtain ⟨b38, h⟩ := h
      refine va_iald hx hb hK hP 1 0 rfl rfl b38 dX1_leastNear_38 ?_
      refine my_mmin hx hb (by rw [hml]; exact hl.1.symm) hown m_48_1 m_48_2 m_48_3 m_48_4 (Nat.le_of_ble_eq_true rfl) (Nat.le_of_ble_eq_true rfl) (Nat.zero_le _) (Nat.zero_le _) dX1_leastNear_39 ?_
      refine lv_istore_n (lv' := [(2, .int (jmin x2 (a_joined (Int32.toNatClampNeg (x1 + 1))))), (0, .ref h_this), (1, .int x1)]) hx hb dX1_leastNear_42 rfl hl (by decide) rfl (fun ls hl => ?_)
      exact J43 (jmin x2 (a_joined (Int32.toNatClampNeg (x1 + 1)))) H locs ls h hP hD hS (lv_sub hl [0] rfl)
  generalize hlo : ([] : List Loc) = locs at hS ⊢
  obtain ⟨H, hH⟩ : ∃ z, z = s.heap := ⟨_, rfl⟩
  rw [show W p l e rm_X1_leastNear s m args below meth c s.heap = W p l e rm_X1_leastNear s m args below meth c H by rw [hH]]
  replace hP : va_P (dC, dI) vwCl [(h_this, .inr (1, [g_this_0, g_this_1, g_this_2, g_this_3, g_this_4, g_this_5, .ref h_joined])), (h_joined, .inl (cy, 9, .inl a_joined))] H := by rw [hH]; exact hP
  replace hS : va_S A s.heap H locs := by rw [hH]; exact hS
  clear hH hlo
  refine lv_aload_n hx hb dX1_leastNear_0 rfl (lv_at hl 0 rfl) ?_
  refine va_get (D := (dC, dI)) (ci := 1) (v := .ref h_joined) (C := RX1) (T := TX1) (N := 7) hx hb hts in_X1 hown hK hP 0 rfl rfl 6 (by decide) k_31 (fun _ h9 => h9) rfl dX1_leastNear_1 ?_
  refine lv_iload_n hx hb dX1_leastNear_4 rfl (lv_at hl 1 rfl) ?_
  obtain ⟨b5, h⟩ := h
  refine va_iald hx hb hK hP 1 0 rfl rfl b5 dX1_leastNear_5 ?_
  refine lv_istore_n (lv' := [(2, .int (a_joined (Int32.toNatClampNeg x1))), (0, .ref h_this), (1, .int x1)]) hx hb dX1_leastNear_6 rfl hl (by decide) rfl (fun ls hl => ?_)
  refine lv_iload_n hx hb dX1_leastNear_7 rfl (lv_at hl 2 rfl) ?_
  refine lv_if_le (tgt := 24) hx hb dX1_leastNear_8 (by decide) (fun c8 => ?_) (fun c8 => ?_)
  · replace h := And.left h c8
    exact J24 x1 (a_joined (Int32.toNatClampNeg x1)) H locs ls h hP hD hS (lv_sub hl [1, 2, 0] rfl)
  · replace h := And.right h c8
    refine lv_iload_n hx hb dX1_leastNear_11 rfl (lv_at hl 0 rfl) ?_
    refine lv_aload_n hx hb dX1_leastNear_12 rfl (lv_at hl 1 rfl) ?_
    refine va_get (D := (dC, dI)) (ci := 1) (v := .ref h_joined) (C := RX1) (T := TX1) (N := 7) hx hb hts in_X1 hown hK hP 0 rfl rfl 6 (by decide) k_31 (fun _ h9 => h9) rfl dX1_leastNear_13 ?_
    refine lv_iload_n hx hb dX1_leastNear_16 rfl (lv_at hl 2 rfl) ?_
    refine lv_iconst (v := 1) hx hb dX1_leastNear_17 (by decide) ?_
    refine lv_isub hx hb dX1_leastNear_18 ?_
    obtain ⟨b19, h⟩ := h
    refine va_iald hx hb hK hP 1 0 rfl rfl b19 dX1_leastNear_19 ?_
    refine my_mmin hx hb (by rw [hml]; exact hl.1.symm) hown m_48_1 m_48_2 m_48_3 m_48_4 (Nat.le_of_ble_eq_true rfl) (Nat.le_of_ble_eq_true rfl) (Nat.zero_le _) (Nat.zero_le _) dX1_leastNear_20 ?_
    refine lv_istore_n (lv' := [(2, .int (jmin (a_joined (Int32.toNatClampNeg x1)) (a_joined (Int32.toNatClampNeg (x1 - 1))))), (0, .ref h_this), (1, .int x1)]) hx hb dX1_leastNear_23 rfl hl (by decide) rfl (fun ls hl => ?_)
    exact J24 x1 (jmin (a_joined (Int32.toNatClampNeg x1)) (a_joined (Int32.toNatClampNeg (x1 - 1)))) H locs ls h hP hD hS (lv_sub hl [1, 2, 0] rfl)
abbrev rm_X1_sumFromTheEnd : Room := { frames := 2, cells := 0, slots := 0, locals := 43 }
theorem q_X1_sumFromTheEnd : yX1_sumFromTheEnd.cls = RX1 ∧ yX1_sumFromTheEnd.cls ≠ "java/lang/invoke/MethodHandle" ∧ yX1_sumFromTheEnd.cls ≠ "java/lang/invoke/VarHandle" ∧ (parseMethodDescriptor yX1_sumFromTheEnd.desc).map (fun d => d.parameters.length) = some 0 := by decide +kernel
set_option maxHeartbeats 4000000 in
set_option maxRecDepth 100000 in
theorem c_X1_sumFromTheEnd (l : Launch) (dC : Nat → ClassId) (dI : Nat → Nat → Nat) (cy : ClassId) (h_this : Nat) (h_behind : Nat) (h_here : Nat) (h_joined : Nat) (sz : Nat) (g_this_1 g_this_2 g_this_5 : Value) (f_places : Int32) (a_behind : Nat → Int32) (a_here : Nat → Int32) (a_joined : Nat → Int32) (Q : (Nat → Int32) → (Nat → Int32) → Prop) (h : p_X1_sumFromTheEnd f_places a_behind a_here a_joined Q) : Met l yX1_sumFromTheEnd wsX1_sumFromTheEnd rm_X1_sumFromTheEnd (va_Pc [.ref h_this] (fun U => U.heap.size = sz ∧ va_P (dC, dI) vwCl [(h_this, .inr (1, [.int f_places, g_this_1, g_this_2, .ref h_here, .ref h_behind, g_this_5, .ref h_joined])), (h_behind, .inl (cy, 180, .inl a_behind)), (h_here, .inl (cy, 180, .inl a_here)), (h_joined, .inl (cy, 9, .inl a_joined))] U.heap ∧ va_K (dC, dI) vwCl [(cy, .int)] U ∧ va_D (fun _ => True) [(h_this, .inr (1, [.int f_places, g_this_1, g_this_2, .ref h_here, .ref h_behind, g_this_5, .ref h_joined])), (h_behind, .inl (cy, 180, .inl a_behind)), (h_here, .inl (cy, 180, .inl a_here)), (h_joined, .inl (cy, 9, .inl a_joined))])) (va_Qv (fun (u : (Nat → Int32) × (Nat → Int32)) => Q u.1 u.2) (fun (u : (Nat → Int32) × (Nat → Int32)) (t : State) => va_P (dC, dI) vwCl [(h_this, .inr (1, [.int f_places, g_this_1, g_this_2, .ref h_here, .ref h_behind, g_this_5, .ref h_joined])), (h_behind, .inl (cy, 180, .inl (u.1))), (h_here, .inl (cy, 180, .inl a_here)), (h_joined, .inl (cy, 9, .inl (u.2)))] t.heap ∧ va_K (dC, dI) vwCl [(cy, .int)] t ∧ va_D (va_A [(h_this, .inr (1, [.int f_places, g_this_1, g_this_2, .ref h_here, .ref h_behind, g_this_5, .ref h_joined])), (h_behind, .inl (cy, 180, .inl a_behind)), (h_here, .inl (cy, 180, .inl a_here)), (h_joined, .inl (cy, 9, .inl a_joined))] sz) [(h_this, .inr (1, [.int f_places, g_this_1, g_this_2, .ref h_here, .ref h_behind, g_this_5, .ref h_joined])), (h_behind, .inl (cy, 180, .inl (u.1))), (h_here, .inl (cy, 180, .inl a_here)), (h_joined, .inl (cy, 9, .inl (u.2)))]) (va_A [(h_this, .inr (1, [.int f_places, g_this_1, g_this_2, .ref h_here, .ref h_behind, g_this_5, .ref h_joined])), (h_behind, .inl (cy, 180, .inl a_behind)), (h_here, .inl (cy, 180, .inl a_here)), (h_joined, .inl (cy, 9, .inl a_joined))] sz)) 0 0 (va_A [(h_this, .inr (1, [.int f_places, g_this_1, g_this_2, .ref h_here, .ref h_behind, g_this_5, .ref h_joined])), (h_behind, .inl (cy, 180, .inl a_behind)), (h_here, .inl (cy, 180, .inl a_here)), (h_joined, .inl (cy, 9, .inl a_joined))] sz) := by
  refine Met.ofW (cc := cX1_sumFromTheEnd) (maxL := 5) (ret := none) (by decide) rfl ?_
  intro p e s m args below meth c s₁ B hml hv
  obtain ⟨hargs, hsz, hP, hK, hD0⟩ := hv
  have hx := B.exec
  have hb := B.bytes
  have hr := B.returns
  have hts := atoms_spec (ws := wsX1_sumFromTheEnd) B.pre
  have hown : s.vm.findClass RX1 = some m.cls := findClass_of_methodNamed B.named
  have hlocks := B.notSynchronized
  subst hsz
  have hD := hD0.self (sz := s.heap.size)
  generalize hAe : va_A [(h_this, .inr (1, [.int f_places, g_this_1, g_this_2, .ref h_here, .ref h_behind, g_this_5, .ref h_joined])), (h_behind, .inl (cy, 180, .inl a_behind)), (h_here, .inl (cy, 180, .inl a_here)), (h_joined, .inl (cy, 9, .inl a_joined))] s.heap.size = A at hD ⊢
  have hA : ∀ q : Nat, s.heap.size ≤ q → A q := fun q h => by rw [← hAe]; exact Or.inr h
  have hS : va_S A s.heap s.heap [] := va_S.rf
  have in_X1 : ∀ w ∈ u_ws RX1 TX1 7, w ∈ wsX1_sumFromTheEnd := by decide +kernel
  have k_9 := hts (.fieldLink RX1 9 "ChequeDesk$Head" "places" "I") (by decide +kernel)
  have k_22 := hts (.fieldLink RX1 22 "ChequeDesk$Head" "here" "[I") (by decide +kernel)
  have k_25 := hts (.fieldLink RX1 25 "ChequeDesk$Head" "behind" "[I") (by decide +kernel)
  have k_31 := hts (.fieldLink RX1 31 "ChequeDesk$Head" "joined" "[I") (by decide +kernel)
  have hl := lv_entry ([.ref h_this]) (n := 5) (Nat.le_of_ble_eq_true rfl)
  rw [show entryFrame m args 5 = entryFrame m ([.ref h_this] : List Value).toArray 5 by rw [hargs], lg_entry_eq]
  generalize (lg_sl ([.ref h_this]) ++ List.replicate (5 - (lg_sl ([.ref h_this])).length) Slot.unset).toArray = ls at hl ⊢
  have hl : lv_has ls 5 [(0, .ref h_this)] := hl
  have hP : va_P (dC, dI) vwCl [(h_this, .inr (1, [.int f_places, g_this_1, g_this_2, .ref h_here, .ref h_behind, g_this_5, .ref h_joined])), (h_behind, .inl (cy, 180, .inl a_behind)), (h_here, .inl (cy, 180, .inl a_here)), (h_joined, .inl (cy, 9, .inl a_joined))] s.heap := hP
  change W p l e rm_X1_sumFromTheEnd s m args below meth c s.heap [] 0 0 _ _
  generalize hQQ : MQ below _ _ _ _ _ _ = QQ
  have RET : ∀ (a_behind : Nat → Int32) (a_joined : Nat → Int32) (H : Heap) (locs : List Loc) (ls : Array Slot) (pc : Nat), decode cX1_sumFromTheEnd pc = .ok (.return_, 1) → Q a_behind a_joined → va_P (dC, dI) vwCl [(h_this, .inr (1, [.int f_places, g_this_1, g_this_2, .ref h_here, .ref h_behind, g_this_5, .ref h_joined])), (h_behind, .inl (cy, 180, .inl a_behind)), (h_here, .inl (cy, 180, .inl a_here)), (h_joined, .inl (cy, 9, .inl a_joined))] H → va_D A [(h_this, .inr (1, [.int f_places, g_this_1, g_this_2, .ref h_here, .ref h_behind, g_this_5, .ref h_joined])), (h_behind, .inl (cy, 180, .inl a_behind)), (h_here, .inl (cy, 180, .inl a_here)), (h_joined, .inl (cy, 9, .inl a_joined))] → va_S A s.heap H locs → W p l e rm_X1_sumFromTheEnd s m args below meth c H locs 0 0 QQ (F0 m pc ls []) := by
    intro a_behind a_joined H locs ls pc hdg hq hP hD hS
    rw [← hQQ]
    exact W.vret hx hb hr (fun t ht hW => ⟨⟨(a_behind, a_joined), rfl, hq, by rw [ht]; exact hP, va_K.moved hW.alike hK, hD⟩, hS.F ht⟩) hS.2.2 hdg
  clear hQQ
  unfold p_X1_sumFromTheEnd at h
  have L7 : ∀ (K7 : Int32 → (Nat → Int32) → (Nat → Int32) → Prop) (n : Nat) (x1 : Int32) (a_behind : Nat → Int32) (a_joined : Nat → Int32) (H : Heap) (locs : List Loc) (ls : Array Slot), wl3 (p_X1_sumFromTheEnd_B7 f_places a_here K7) n x1 a_behind a_joined → va_P (dC, dI) vwCl [(h_this, .inr (1, [.int f_places, g_this_1, g_this_2, .ref h_here, .ref h_behind, g_this_5, .ref h_joined])), (h_behind, .inl (cy, 180, .inl a_behind)), (h_here, .inl (cy, 180, .inl a_here)), (h_joined, .inl (cy, 9, .inl a_joined))] H → va_D A [(h_this, .inr (1, [.int f_places, g_this_1, g_this_2, .ref h_here, .ref h_behind, g_this_5, .ref h_joined])), (h_behind, .inl (cy, 180, .inl a_behind)), (h_here, .inl (cy, 180, .inl a_here)), (h_joined, .inl (cy, 9, .inl a_joined))] → va_S A s.heap H locs → lv_has ls 5 [(0, .ref h_this), (1, .int x1)] → (∀ (x1 : Int32) (a_behind : Nat → Int32) (a_joined : Nat → Int32) (H : Heap) (locs : List Loc) (ls : Array Slot), K7 x1 a_behind a_joined → va_P (dC, dI) vwCl [(h_this, .inr (1, [.int f_places, g_this_1, g_this_2, .ref h_here, .ref h_behind, g_this_5, .ref h_joined])), (h_behind, .inl (cy, 180, .inl a_behind)), (h_here, .inl (cy, 180, .inl a_here)), (h_joined, .inl (cy, 9, .inl a_joined))] H → va_D A [(h_this, .inr (1, [.int f_places, g_this_1, g_this_2, .ref h_here, .ref h_behind, g_this_5, .ref h_joined])), (h_behind, .inl (cy, 180, .inl a_behind)), (h_here, .inl (cy, 180, .inl a_here)), (h_joined, .inl (cy, 9, .inl a_joined))] → va_S A s.heap H locs → lv_has ls 5 [] → W p l e rm_X1_sumFromTheEnd s m args below meth c H locs 0 0 QQ (F0 m 119 ls [])) → W p l e rm_X1_sumFromTheEnd s m args below meth c H locs 0 0 QQ (F0 m 7 ls []) := by
    intro K7 n
    induction n with
    | zero => intro x1 a_behind a_joined H locs ls h; exact False.elim h
    | succ n ih =>
      intro x1 a_behind a_joined H locs ls h hP hD hS hl hk
      have ih := fun x1 a_behind a_joined H locs ls h hP hD hS hl => ih x1 a_behind a_joined H locs ls h hP hD hS hl hk
      replace h : p_X1_sumFromTheEnd_B7 f_places a_here K7 (wl3 (p_X1_sumFromTheEnd_B7 f_places a_here K7) n) x1 a_behind a_joined := h
      unfold p_X1_sumFromTheEnd_B7 at h
      have L74 : ∀ (x1 : Int32) (x2 : Int32) (a_behind : Nat → Int32) (K74 : Int32 → (Nat → Int32) → Prop) (n : Nat) (x4 : Int32) (a_joined : Nat → Int32) (H : Heap) (locs : List Loc) (ls : Array Slot), wl2 (p_X1_sumFromTheEnd_B74 a_behind a_here x2 K74) n x4 a_joined → va_P (dC, dI) vwCl [(h_this, .inr (1, [.int f_places, g_this_1, g_this_2, .ref h_here, .ref h_behind, g_this_5, .ref h_joined])), (h_behind, .inl (cy, 180, .inl a_behind)), (h_here, .inl (cy, 180, .inl a_here)), (h_joined, .inl (cy, 9, .inl a_joined))] H → va_D A [(h_this, .inr (1, [.int f_places, g_this_1, g_this_2, .ref h_here, .ref h_behind, g_this_5, .ref h_joined])), (h_behind, .inl (cy, 180, .inl a_behind)), (h_here, .inl (cy, 180, .inl a_here)), (h_joined, .inl (cy, 9, .inl a_joined))] → va_S A s.heap H locs → lv_has ls 5 [(0, .ref h_this), (1, .int x1), (2, .int x2), (4, .int x4)] → (∀ (x4 : Int32) (a_joined : Nat → Int32) (H : Heap) (locs : List Loc) (ls : Array Slot), K74 x4 a_joined → va_P (dC, dI) vwCl [(h_this, .inr (1, [.int f_places, g_this_1, g_this_2, .ref h_here, .ref h_behind, g_this_5, .ref h_joined])), (h_behind, .inl (cy, 180, .inl a_behind)), (h_here, .inl (cy, 180, .inl a_here)), (h_joined, .inl (cy, 9, .inl a_joined))] H → va_D A [(h_this, .inr (1, [.int f_places, g_this_1, g_this_2, .ref h_here, .ref h_behind, g_this_5, .ref h_joined])), (h_behind, .inl (cy, 180, .inl a_behind)), (h_here, .inl (cy, 180, .inl a_here)), (h_joined, .inl (cy, 9, .inl a_joined))] → va_S A s.heap H locs → lv_has ls 5 [(0, .ref h_this), (1, .int x1)] → W p l e rm_X1_sumFromTheEnd s m args below meth c H locs 0 0 QQ (F0 m 113 ls [])) → W p l e rm_X1_sumFromTheEnd s m args below meth c H locs 0 0 QQ (F0 m 74 ls []) := by
        intro x1 x2 a_behind K74 n
        induction n with
        | zero => intro x4 a_joined H locs ls h; exact False.elim h
        | succ n ih =>
          intro x4 a_joined H locs ls h hP hD hS hl hk
          have ih := fun x4 a_joined H locs ls h hP hD hS hl => ih x4 a_joined H locs ls h hP hD hS hl hk
          replace h : p_X1_sumFromTheEnd_B74 a_behind a_here x2 K74 (wl2 (p_X1_sumFromTheEnd_B74 a_behind a_here x2 K74) n) x4 a_joined := h
          unfold p_X1_sumFromTheEnd_B74 at h
          refine lv_iload hx hb dX1_sumFromTheEnd_74 (lv_at hl 3 rfl) ?_
          refine lv_bipush (v := 9) hx hb dX1_sumFromTheEnd_76 (by decide) ?_
          refine lv_icmp_ge (tgt := 113) hx hb dX1_sumFromTheEnd_78 (by decide) (fun c78 => ?_) (fun c78 => ?_)
          · replace h := And.left h c78
            exact hk x4 a_joined H locs ls h hP hD hS (lv_sub hl [0, 1] rfl)
          · replace h := And.right h c78
            refine lv_aload_n hx hb dX1_sumFromTheEnd_81 rfl (lv_at hl 0 rfl) ?_
            refine va_get (D := (dC, dI)) (ci := 1) (v := .ref h_joined) (C := RX1) (T := TX1) (N := 7) hx hb hts in_X1 hown hK hP 0 rfl rfl 6 (by decide) k_31 (fun _ h9 => h9) rfl dX1_sumFromTheEnd_82 ?_
            refine lv_iload hx hb dX1_sumFromTheEnd_85 (lv_at hl 3 rfl) ?_
            refine lv_aload_n hx hb dX1_sumFromTheEnd_87 rfl (lv_at hl 0 rfl) ?_
            refine va_get (D := (dC, dI)) (ci := 1) (v := .ref h_here) (C := RX1) (T := TX1) (N := 7) hx hb hts in_X1 hown hK hP 0 rfl rfl 3 (by decide) k_22 (fun _ h9 => h9) rfl dX1_sumFromTheEnd_88 ?_
            refine lv_iload_n hx hb dX1_sumFromTheEnd_91 rfl (lv_at hl 2 rfl) ?_
            refine lv_iload hx hb dX1_sumFromTheEnd_92 (lv_at hl 3 rfl) ?_
            refine lv_iadd hx hb dX1_sumFromTheEnd_94 ?_
            obtain ⟨b95, h⟩ := h
            refine va_iald hx hb hK hP 2 0 rfl rfl b95 dX1_sumFromTheEnd_95 ?_
            refine lv_aload_n hx hb dX1_sumFromTheEnd_96 rfl (lv_at hl 0 rfl) ?_
            refine va_get (D := (dC, dI)) (ci := 1) (v := .ref h_behind) (C := RX1) (T := TX1) (N := 7) hx hb hts in_X1 hown hK hP 0 rfl rfl 4 (by decide) k_25 (fun _ h9 => h9) rfl dX1_sumFromTheEnd_97 ?_
            refine lv_iload_n hx hb dX1_sumFromTheEnd_100 rfl (lv_at hl 2 rfl) ?_
            refine lv_iload hx hb dX1_sumFromTheEnd_101 (lv_at hl 3 rfl) ?_
            refine lv_iadd hx hb dX1_sumFromTheEnd_103 ?_
            obtain ⟨b104, h⟩ := h
            refine va_iald hx hb hK hP 1 0 rfl rfl b104 dX1_sumFromTheEnd_104 ?_
            refine lv_iadd hx hb dX1_sumFromTheEnd_105 ?_
            obtain ⟨b106, h⟩ := h
            refine va_iast hx hb hK hP hD hS 3 0 rfl rfl b106 dX1_sumFromTheEnd_106 (fun H locs hP hD hS => ?_)
            have hP : va_P (dC, dI) vwCl [(h_this, .inr (1, [.int f_places, g_this_1, g_this_2, .ref h_here, .ref h_behind, g_this_5, .ref h_joined])), (h_behind, .inl (cy, 180, .inl a_behind)), (h_here, .inl (cy, 180, .inl a_here)), (h_joined, .inl (cy, 9, .inl (upd a_joined (Int32.toNatClampNeg x4) ((a_here (Int32.toNatClampNeg (x2 + x4))) + (a_behind (Int32.toNatClampNeg (x2 + x4)))))))] H := hP
            have hD : va_D A [(h_this, .inr (1, [.int f_places, g_this_1, g_this_2, .ref h_here, .ref h_behind, g_this_5, .ref h_joined])), (h_behind, .inl (cy, 180, .inl a_behind)), (h_here, .inl (cy, 180, .inl a_here)), (h_joined, .inl (cy, 9, .inl (upd a_joined (Int32.toNatClampNeg x4) ((a_here (Int32.toNatClampNeg (x2 + x4))) + (a_behind (Int32.toNatClampNeg (x2 + x4)))))))] := hD
            refine lv_iinc (v := x4 + 1) (lv' := [(4, .int (x4 + 1)), (0, .ref h_this), (1, .int x1), (2, .int x2)]) hx hb dX1_sumFromTheEnd_107 hl (k := 3) rfl (by rfl) (by decide) rfl (fun ls hl => ?_)
            refine lv_goto (tgt := 74) hx hb dX1_sumFromTheEnd_110 (by decide) ?_
            exact ih (x4 + 1) (upd a_joined (Int32.toNatClampNeg x4) ((a_here (Int32.toNatClampNeg (x2 + x4))) + (a_behind (Int32.toNatClampNeg (x2 + x4))))) H locs ls h hP hD hS (lv_sub hl [1, 2, 3, 0] rfl)
      have L35 : ∀ (x1 : Int32) (x2 : Int32) (x3 : Int32) (a_joined : Nat → Int32) (K35 : Int32 → (Nat → Int32) → Prop) (n : Nat) (x4 : Int32) (a_behind : Nat → Int32) (H : Heap) (locs : List Loc) (ls : Array Slot), wl2 (p_X1_sumFromTheEnd_B35 a_joined x2 x3 K35) n x4 a_behind → va_P (dC, dI) vwCl [(h_this, .inr (1, [.int f_places, g_this_1, g_this_2, .ref h_here, .ref h_behind, g_this_5, .ref h_joined])), (h_behind, .inl (cy, 180, .inl a_behind)), (h_here, .inl (cy, 180, .inl a_here)), (h_joined, .inl (cy, 9, .inl a_joined))] H → va_D A [(h_this, .inr (1, [.int f_places, g_this_1, g_this_2, .ref h_here, .ref h_behind, g_this_5, .ref h_joined])), (h_behind, .inl (cy, 180, .inl a_behind)), (h_here, .inl (cy, 180, .inl a_here)), (h_joined, .inl (cy, 9, .inl a_joined))] → va_S A s.heap H locs → lv_has ls 5 [(0, .ref h_this), (1, .int x1), (2, .int x2), (3, .int x3), (4, .int x4)] → (∀ (x4 : Int32) (a_behind : Nat → Int32) (H : Heap) (locs : List Loc) (ls : Array Slot), K35 x4 a_behind → va_P (dC, dI) vwCl [(h_this, .inr (1, [.int f_places, g_this_1, g_this_2, .ref h_here, .ref h_behind, g_this_5, .ref h_joined])), (h_behind, .inl (cy, 180, .inl a_behind)), (h_here, .inl (cy, 180, .inl a_here)), (h_joined, .inl (cy, 9, .inl a_joined))] H → va_D A [(h_this, .inr (1, [.int f_places, g_this_1, g_this_2, .ref h_here, .ref h_behind, g_this_5, .ref h_joined])), (h_behind, .inl (cy, 180, .inl a_behind)), (h_here, .inl (cy, 180, .inl a_here)), (h_joined, .inl (cy, 9, .inl a_joined))] → va_S A s.heap H locs → lv_has ls 5 [(0, .ref h_this), (1, .int x1), (2, .int x2)] → W p l e rm_X1_sumFromTheEnd s m args below meth c H locs 0 0 QQ (F0 m 71 ls [])) → W p l e rm_X1_sumFromTheEnd s m args below meth c H locs 0 0 QQ (F0 m 35 ls []) := by
        intro x1 x2 x3 a_joined K35 n
        induction n with
        | zero => intro x4 a_behind H locs ls h; exact False.elim h
        | succ n ih =>
          intro x4 a_behind H locs ls h hP hD hS hl hk
          have ih := fun x4 a_behind H locs ls h hP hD hS hl => ih x4 a_behind H locs ls h hP hD hS hl hk
          replace h : p_X1_sumFromTheEnd_B35 a_joined x2 x3 K35 (wl2 (p_X1_sumFromTheEnd_B35 a_joined x2 x3 K35) n) x4 a_behind := h
          unfold p_X1_sumFromTheEnd_B35 at h
          have J64 : ∀ (x4 : Int32) (s0 : Int32) (s1 : Int32) (a_behind : Nat → Int32) (H : Heap) (locs : List Loc) (ls : Array Slot), p_X1_sumFromTheEnd_J64 a_behind (wl2 (p_X1_sumFromTheEnd_B35 a_joined x2 x3 K35) n) x4 s0 s1 → va_P (dC, dI) vwCl [(h_this, .inr (1, [.int f_places, g_this_1, g_this_2, .ref h_here, .ref h_behind, g_this_5, .ref h_joined])), (h_behind, .inl (cy, 180, .inl a_behind)), (h_here, .inl (cy, 180, .inl a_here)), (h_joined, .inl (cy, 9, .inl a_joined))] H → va_D A [(h_this, .inr (1, [.int f_places, g_this_1, g_this_2, .ref h_here, .ref h_behind, g_this_5, .ref h_joined])), (h_behind, .inl (cy, 180, .inl a_behind)), (h_here, .inl (cy, 180, .inl a_here)), (h_joined, .inl (cy, 9, .inl a_joined))] → va_S A s.heap H locs → lv_has ls 5 [(0, .ref h_this), (1, .int x1), (2, .int x2), (3, .int x3), (4, .int x4)] → W p l e rm_X1_sumFromTheEnd s m args below meth c H locs 0 0 QQ (F0 m 64 ls [.int s0, .int s1, .ref h_behind]) := by
            intro x4 s0 s1 a_behind H locs ls h hP hD hS hl
            unfold p_X1_sumFromTheEnd_J64 at h
            obtain ⟨b64, h⟩ := h
            refine va_iast hx hb hK hP hD hS 1 0 rfl rfl b64 dX1_sumFromTheEnd_64 (fun H locs hP hD hS => ?_)
            have hP : va_P (dC, dI) vwCl [(h_this, .inr (1, [.int f_places, g_this_1, g_this_2, .ref h_here, .ref h_behind, g_this_5, .ref h_joined])), (h_behind, .inl (cy, 180, .inl (upd a_behind (Int32.toNatClampNeg s1) s0))), (h_here, .inl (cy, 180, .inl a_here)), (h_joined, .inl (cy, 9, .inl a_joined))] H := hP
            have hD : va_D A [(h_this, .inr (1, [.int f_places, g_this_1, g_this_2, .ref h_here, .ref h_behind, g_this_5, .ref h_joined])), (h_behind, .inl (cy, 180, .inl (upd a_behind (Int32.toNatClampNeg s1) s0))), (h_here, .inl (cy, 180, .inl a_here)), (h_joined, .inl (cy, 9, .inl a_joined))] := hD
            refine lv_iinc (v := x4 + 1) (lv' := [(4, .int (x4 + 1)), (0, .ref h_this), (1, .int x1), (2, .int x2), (3, .int x3)]) hx hb dX1_sumFromTheEnd_65 hl (k := 4) rfl (by rfl) (by decide) rfl (fun ls hl => ?_)
            refine lv_goto (tgt := 35) hx hb dX1_sumFromTheEnd_68 (by decide) ?_
            exact ih (x4 + 1) (upd a_behind (Int32.toNatClampNeg s1) s0) H locs ls h hP hD hS (lv_sub hl [1, 2, 3, 4, 0] rfl)
          refine lv_iload hx hb dX1_sumFromTheEnd_35 (lv_at hl 4 rfl) ?_
          refine lv_bipush (v := 9) hx hb dX1_sumFromTheEnd_37 (by decide) ?_
          refine lv_icmp_ge (tgt := 71) hx hb dX1_sumFromTheEnd_39 (by decide) (fun c39 => ?_) (fun c39 => ?_)
          · replace h := And.left h c39
            exact hk x4 a_behind H locs ls h hP hD hS (lv_sub hl [0, 1, 2] rfl)
          · replace h := And.right h c39
            refine lv_aload_n hx hb dX1_sumFromTheEnd_42 rfl (lv_at hl 0 rfl) ?_
            refine va_get (D := (dC, dI)) (ci := 1) (v := .ref h_behind) (C := RX1) (T := TX1) (N := 7) hx hb hts in_X1 hown hK hP 0 rfl rfl 4 (by decide) k_25 (fun _ h9 => h9) rfl dX1_sumFromTheEnd_43 ?_
            refine lv_iload_n hx hb dX1_sumFromTheEnd_46 rfl (lv_at hl 2 rfl) ?_
            refine lv_iload hx hb dX1_sumFromTheEnd_47 (lv_at hl 4 rfl) ?_
            refine lv_iadd hx hb dX1_sumFromTheEnd_49 ?_
            refine lv_iload_n hx hb dX1_sumFromTheEnd_50 rfl (lv_at hl 3 rfl) ?_
            refine lv_if_eq (tgt := 58) hx hb dX1_sumFromTheEnd_51 (by decide) (fun c51 => ?_) (fun c51 => ?_)
            · replace h := And.left h c51
              refine lv_aload_n hx hb dX1_sumFromTheEnd_58 rfl (lv_at hl 0 rfl) ?_
              refine lv_iload hx hb dX1_sumFromTheEnd_59 (lv_at hl 4 rfl) ?_
              have hPc := hP.sub (ws' := [(h_this, .inr (1, [.int f_places, g_this_1, g_this_2, .ref h_here, .ref h_behind, g_this_5, .ref h_joined])), (h_joined, .inl (cy, 9, .inl a_joined))]) [0, 3] rfl
              have hDc := hD.sub (ws' := [(h_this, .inr (1, [.int f_places, g_this_1, g_this_2, .ref h_here, .ref h_behind, g_this_5, .ref h_joined])), (h_joined, .inl (cy, 9, .inl a_joined))]) [0, 3] (by decide) rfl
              have hFc := va_free (wc := [(h_this, .inr (1, [.int f_places, g_this_1, g_this_2, .ref h_here, .ref h_behind, g_this_5, .ref h_joined])), (h_joined, .inl (cy, 9, .inl a_joined))]) hD hS hA [0, 3] rfl
              refine va_calli (va_runV (As := [.int x4]) (rest := [.int (x2 + x4), .ref h_behind]) ⟨hx, hb, hml, hown, hts⟩ (c_X1_leastNear l dC dI cy h_this h_joined H.size (.int f_places) (g_this_1) (g_this_2) (.ref h_here) (.ref h_behind) (g_this_5) a_joined x4 _ h) (cwV 1 hts gX1_sumFromTheEnd_X1_leastNear rfl rfl rfl q_X1_leastNear ⟨Nat.le_of_ble_eq_true rfl, Nat.le_of_ble_eq_true rfl⟩) ⟨fun a U g mk q => by obtain ⟨q0, q1, qP, qK, qD⟩ := q; exact ⟨q0, q1, qP, va_K.moved (u := U) (U := U.calling g mk a) (Vm.Alike.refl U.vm) qK, qD⟩, va_recv hK hP (ci := 1) (q0 := 0) rfl rfl, fun U hU hW => ⟨rfl, by rw [hU], by rw [hU]; exact hPc, va_K.moved hW.alike hK, hDc.weaken (fun _ _ _ _ => trivial)⟩⟩ rfl rfl hl.1 rfl (lv_room (Nat.le_of_ble_eq_true rfl)) dX1_sumFromTheEnd_61 ⟨Nat.le_of_ble_eq_true rfl, Nat.le_of_ble_eq_true rfl⟩) hS (fun q _ h => hFc q h) hFc (fun r61 u t H1 locs ht hvm hw hB hz1 hk1 hS => ?_)
              obtain ⟨hP1, hK1, hD1⟩ := hB
              rw [ht] at hP1
              obtain ⟨hP, hD⟩ := va_join (wr := [(h_behind, .inl (cy, 180, .inl a_behind)), (h_here, .inl (cy, 180, .inl a_here))]) (w1 := [(h_this, .inr (1, [.int f_places, g_this_1, g_this_2, .ref h_here, .ref h_behind, g_this_5, .ref h_joined])), (h_joined, .inl (cy, 9, .inl a_joined))]) hP hD [0, 3] [1, 2] rfl rfl (by decide) (by decide) hk1 hFc hP1 hD1
              replace hP := hP.sub (ws' := [(h_this, .inr (1, [.int f_places, g_this_1, g_this_2, .ref h_here, .ref h_behind, g_this_5, .ref h_joined])), (h_behind, .inl (cy, 180, .inl a_behind)), (h_here, .inl (cy, 180, .inl a_here)), (h_joined, .inl (cy, 9, .inl a_joined))]) [2, 0, 1, 3] rfl
              replace hD := hD.sub (ws' := [(h_this, .inr (1, [.int f_places, g_this_1, g_this_2, .ref h_here, .ref h_behind, g_this_5, .ref h_joined])), (h_behind, .inl (cy, 180, .inl a_behind)), (h_here, .inl (cy, 180, .inl a_here)), (h_joined, .inl (cy, 9, .inl a_joined))]) [2, 0, 1, 3] (by decide) rfl
              clear hPc hDc hFc hP1 hK1 hD1 hz1 hk1 hvm
              subst ht
              generalize t.heap = H at hP hS ⊢
              replace h := hw
              clear hw
              exact J64 x4 r61 (x2 + x4) a_behind H locs ls h hP hD hS (lv_sub hl [0, 1, 2, 3, 4] rfl)
            · replace h := And.right h c51
              refine lv_iconst (v := 0) hx hb dX1_sumFromTheEnd_54 (by decide) ?_
              refine lv_goto (tgt := 64) hx hb dX1_sumFromTheEnd_55 (by decide) ?_
              exact J64 x4 0 (x2 + x4) a_behind H locs ls h hP hD hS (lv_sub hl [0, 1, 2, 3, 4] rfl)
      have J31 : ∀ (x1 : Int32) (x2 : Int32) (s0 : Int32) (a_behind : Nat → Int32) (a_joined : Nat → Int32) (H : Heap) (locs : List Loc) (ls : Array Slot), p_X1_sumFromTheEnd_J31 a_behind a_here a_joined (wl3 (p_X1_sumFromTheEnd_B7 f_places a_here K7) n) x1 x2 s0 → va_P (dC, dI) vwCl [(h_this, .inr (1, [.int f_places, g_this_1, g_this_2, .ref h_here, .ref h_behind, g_this_5, .ref h_joined])), (h_behind, .inl (cy, 180, .inl a_behind)), (h_here, .inl (cy, 180, .inl a_here)), (h_joined, .inl (cy, 9, .inl a_joined))] H → va_D A [(h_this, .inr (1, [.int f_places, g_this_1, g_this_2, .ref h_here, .ref h_behind, g_this_5, .ref h_joined])), (h_behind, .inl (cy, 180, .inl a_behind)), (h_here, .inl (cy, 180, .inl a_here)), (h_joined, .inl (cy, 9, .inl a_joined))] → va_S A s.heap H locs → lv_has ls 5 [(0, .ref h_this), (1, .int x1), (2, .int x2)] → W p l e rm_X1_sumFromTheEnd s m args below meth c H locs 0 0 QQ (F0 m 31 ls [.int s0]) := by
        intro x1 x2 s0 a_behind a_joined H locs ls h hP hD hS hl
        unfold p_X1_sumFromTheEnd_J31 at h
        refine lv_istore_n (lv' := [(3, .int s0), (0, .ref h_this), (1, .int x1), (2, .int x2)]) hx hb dX1_sumFromTheEnd_31 rfl hl (by decide) rfl (fun ls hl => ?_)
        refine lv_iconst (v := 0) hx hb dX1_sumFromTheEnd_32 (by decide) ?_
        refine lv_istore (lv' := [(4, .int 0), (3, .int s0), (0, .ref h_this), (1, .int x1), (2, .int x2)]) hx hb dX1_sumFromTheEnd_33 hl (by decide) rfl (fun ls hl => ?_)
        obtain ⟨n35, h⟩ := h
        refine L35 x1 x2 s0 a_joined _ n35 0 a_behind H locs ls h hP hD hS (lv_sub hl [2, 3, 4, 1, 0] rfl) (fun x4_71 a_behind_71 H locs ls h hP hD hS hl => ?_)
        refine lv_iconst (v := 0) hx hb dX1_sumFromTheEnd_71 (by decide) ?_
        refine lv_istore (lv' := [(4, .int 0), (0, .ref h_this), (1, .int x1), (2, .int x2)]) hx hb dX1_sumFromTheEnd_72 hl (by decide) rfl (fun ls hl => ?_)
        obtain ⟨n74, h⟩ := h
        refine L74 x1 x2 a_behind_71 _ n74 0 a_joined H locs ls h hP hD hS (lv_sub hl [1, 2, 3, 0] rfl) (fun x4_113 a_joined_113 H locs ls h hP hD hS hl => ?_)
        refine lv_iinc (v := x1 + (-1)) (lv' := [(1, .int (x1 + (-1))), (0, .ref h_this)]) hx hb dX1_sumFromTheEnd_113 hl (k := 1) rfl (by rfl) (by decide) rfl (fun ls hl => ?_)
        refine lv_goto (tgt := 7) hx hb dX1_sumFromTheEnd_116 (by decide) ?_
        exact ih (x1 + (-1)) a_behind_71 a_joined_113 H locs ls h hP hD hS (lv_sub hl [1, 0] rfl)
      refine lv_iload_n hx hb dX1_sumFromTheEnd_7 rfl (lv_at hl 1 rfl) ?_
      refine lv_if_lt (tgt := 119) hx hb dX1_sumFromTheEnd_8 (by decide) (fun c8 => ?_) (fun c8 => ?_)
      · replace h := And.left h c8
        exact hk x1 a_behind a_joined H locs ls h hP hD hS (lv_sub hl [] rfl)
      · replace h := And.right h c8
        refine lv_iload_n hx hb dX1_sumFromTheEnd_11 rfl (lv_at hl 1 rfl) ?_
        refine lv_bipush (v := 9) hx hb dX1_sumFromTheEnd_12 (by decide) ?_
        refine lv_imul hx hb dX1_sumFromTheEnd_14 ?_
        refine lv_istore_n (lv' := [(2, .int (x1 * 9)), (0, .ref h_this), (1, .int x1)]) hx hb dX1_sumFromTheEnd_15 rfl hl (by decide) rfl (fun ls hl => ?_)
        refine lv_iload_n hx hb dX1_sumFromTheEnd_16 rfl (lv_at hl 2 rfl) ?_
        refine lv_aload_n hx hb dX1_sumFromTheEnd_17 rfl (lv_at hl 1 rfl) ?_
        refine va_get (D := (dC, dI)) (ci := 1) (v := .int f_places) (C := RX1) (T := TX1) (N := 7) hx hb hts in_X1 hown hK hP 0 rfl rfl 0 (by decide) k_9 (fun _ h9 => h9) rfl dX1_sumFromTheEnd_18 ?_
        refine lv_iconst (v := 1) hx hb dX1_sumFromTheEnd_21 (by decide) ?_
        refine lv_isub hx hb dX1_sumFromTheEnd_22 ?_
        refine lv_icmp_ne (tgt := 30) hx hb dX1_sumFromTheEnd_23 (by decide) (fun c23 => ?_) (fun c23 => ?_)
        · replace h := And.left h c23
          refine lv_iconst (v := 0) hx hb dX1_sumFromTheEnd_30 (by decide) ?_
          exact J31 x1 (x1 * 9) 0 a_behind a_joined H locs ls h hP hD hS (lv_sub hl [1, 2, 0] rfl)
        · replace h := And.right h c23
          refine lv_iconst (v := 1) hx hb dX1_sumFromTheEnd_26 (by decide) ?_
          refine lv_goto (tgt := 31) hx hb dX1_sumFromTheEnd_27 (by decide) ?_
          exact J31 x1 (x1 * 9) 1 a_behind a_joined H locs ls h hP hD hS (lv_sub hl [1, 2, 0] rfl)
  generalize hlo : ([] : List Loc) = locs at hS ⊢
  obtain ⟨H, hH⟩ : ∃ z, z = s.heap := ⟨_, rfl⟩
  rw [show W p l e rm_X1_sumFromTheEnd s m args below meth c s.heap = W p l e rm_X1_sumFromTheEnd s m args below meth c H by rw [hH]]
  replace hP : va_P (dC, dI) vwCl [(h_this, .inr (1, [.int f_places, g_this_1, g_this_2, .ref h_here, .ref h_behind, g_this_5, .ref h_joined])), (h_behind, .inl (cy, 180, .inl a_behind)), (h_here, .inl (cy, 180, .inl a_here)), (h_joined, .inl (cy, 9, .inl a_joined))] H := by rw [hH]; exact hP
  replace hS : va_S A s.heap H locs := by rw [hH]; exact hS
  clear hH hlo
  refine lv_aload_n hx hb dX1_sumFromTheEnd_0 rfl (lv_at hl 0 rfl) ?_
  refine va_get (D := (dC, dI)) (ci := 1) (v := .int f_places) (C := RX1) (T := TX1) (N := 7) hx hb hts in_X1 hown hK hP 0 rfl rfl 0 (by decide) k_9 (fun _ h9 => h9) rfl dX1_sumFromTheEnd_1 ?_
  refine lv_iconst (v := 1) hx hb dX1_sumFromTheEnd_4 (by decide) ?_
  refine lv_isub hx hb dX1_sumFromTheEnd_5 ?_
  refine lv_istore_n (lv' := [(1, .int (f_places - 1)), (0, .ref h_this)]) hx hb dX1_sumFromTheEnd_6 rfl hl (by decide) rfl (fun ls hl => ?_)
  obtain ⟨n7, h⟩ := h
  refine L7  _ n7 (f_places - 1) a_behind a_joined H locs ls h hP hD hS (lv_sub hl [1, 0] rfl) (fun x1_119 a_behind_119 a_joined_119 H locs ls h hP hD hS hl => ?_)
  exact RET a_behind_119 a_joined_119 H locs ls 119 dX1_sumFromTheEnd_119 h hP hD hS
abbrev rm_X1_allowAnySigns : Room := { frames := 3, cells := 0, slots := 0, locals := 67 }
theorem q_X1_allowAnySigns : yX1_allowAnySigns.cls = RX1 ∧ yX1_allowAnySigns.cls ≠ "java/lang/invoke/MethodHandle" ∧ yX1_allowAnySigns.cls ≠ "java/lang/invoke/VarHandle" ∧ (parseMethodDescriptor yX1_allowAnySigns.desc).map (fun d => d.parameters.length) = some 0 := by decide +kernel
set_option maxHeartbeats 4000000 in
set_option maxRecDepth 100000 in
theorem c_X1_allowAnySigns (l : Launch) (dC : Nat → ClassId) (dI : Nat → Nat → Nat) (cy : ClassId) (h_this : Nat) (h_behind : Nat) (h_costs : Nat) (h_here : Nat) (h_joined : Nat) (sz : Nat) (g_this_1 g_this_5 : Value) (f_places : Int32) (a_behind : Nat → Int32) (a_costs : Nat → Int32) (a_here : Nat → Int32) (a_joined : Nat → Int32) (Q : (Nat → Int32) → (Nat → Int32) → (Nat → Int32) → Prop) (h : p_X1_allowAnySigns f_places a_behind a_costs a_here a_joined Q) : Met l yX1_allowAnySigns wsX1_allowAnySigns rm_X1_allowAnySigns (va_Pc [.ref h_this] (fun U => U.heap.size = sz ∧ va_P (dC, dI) vwCl [(h_this, .inr (1, [.int f_places, g_this_1, .ref h_costs, .ref h_here, .ref h_behind, g_this_5, .ref h_joined])), (h_behind, .inl (cy, 180, .inl a_behind)), (h_costs, .inl (cy, 2160, .inl a_costs)), (h_here, .inl (cy, 180, .inl a_here)), (h_joined, .inl (cy, 9, .inl a_joined))] U.heap ∧ va_K (dC, dI) vwCl [(cy, .int)] U ∧ va_D (fun _ => True) [(h_this, .inr (1, [.int f_places, g_this_1, .ref h_costs, .ref h_here, .ref h_behind, g_this_5, .ref h_joined])), (h_behind, .inl (cy, 180, .inl a_behind)), (h_costs, .inl (cy, 2160, .inl a_costs)), (h_here, .inl (cy, 180, .inl a_here)), (h_joined, .inl (cy, 9, .inl a_joined))])) (va_Qv (fun (u : (Nat → Int32) × (Nat → Int32) × (Nat → Int32)) => Q u.1 u.2.1 u.2.2) (fun (u : (Nat → Int32) × (Nat → Int32) × (Nat → Int32)) (t : State) => va_P (dC, dI) vwCl [(h_this, .inr (1, [.int f_places, g_this_1, .ref h_costs, .ref h_here, .ref h_behind, g_this_5, .ref h_joined])), (h_behind, .inl (cy, 180, .inl (u.1))), (h_costs, .inl (cy, 2160, .inl a_costs)), (h_here, .inl (cy, 180, .inl (u.2.1))), (h_joined, .inl (cy, 9, .inl (u.2.2)))] t.heap ∧ va_K (dC, dI) vwCl [(cy, .int)] t ∧ va_D (va_A [(h_this, .inr (1, [.int f_places, g_this_1, .ref h_costs, .ref h_here, .ref h_behind, g_this_5, .ref h_joined])), (h_behind, .inl (cy, 180, .inl a_behind)), (h_costs, .inl (cy, 2160, .inl a_costs)), (h_here, .inl (cy, 180, .inl a_here)), (h_joined, .inl (cy, 9, .inl a_joined))] sz) [(h_this, .inr (1, [.int f_places, g_this_1, .ref h_costs, .ref h_here, .ref h_behind, g_this_5, .ref h_joined])), (h_behind, .inl (cy, 180, .inl (u.1))), (h_costs, .inl (cy, 2160, .inl a_costs)), (h_here, .inl (cy, 180, .inl (u.2.1))), (h_joined, .inl (cy, 9, .inl (u.2.2)))]) (va_A [(h_this, .inr (1, [.int f_places, g_this_1, .ref h_costs, .ref h_here, .ref h_behind, g_this_5, .ref h_joined])), (h_behind, .inl (cy, 180, .inl a_behind)), (h_costs, .inl (cy, 2160, .inl a_costs)), (h_here, .inl (cy, 180, .inl a_here)), (h_joined, .inl (cy, 9, .inl a_joined))] sz)) 0 0 (va_A [(h_this, .inr (1, [.int f_places, g_this_1, .ref h_costs, .ref h_here, .ref h_behind, g_this_5, .ref h_joined])), (h_behind, .inl (cy, 180, .inl a_behind)), (h_costs, .inl (cy, 2160, .inl a_costs)), (h_here, .inl (cy, 180, .inl a_here)), (h_joined, .inl (cy, 9, .inl a_joined))] sz) := by
  refine Met.ofW (cc := cX1_allowAnySigns) (maxL := 5) (ret := none) (by decide) rfl ?_
  intro p e s m args below meth c s₁ B hml hv
  obtain ⟨hargs, hsz, hP, hK, hD0⟩ := hv
  have hx := B.exec
  have hb := B.bytes
  have hr := B.returns
  have hts := atoms_spec (ws := wsX1_allowAnySigns) B.pre
  have hown : s.vm.findClass RX1 = some m.cls := findClass_of_methodNamed B.named
  have hlocks := B.notSynchronized
  subst hsz
  have hD := hD0.self (sz := s.heap.size)
  generalize hAe : va_A [(h_this, .inr (1, [.int f_places, g_this_1, .ref h_costs, .ref h_here, .ref h_behind, g_this_5, .ref h_joined])), (h_behind, .inl (cy, 180, .inl a_behind)), (h_costs, .inl (cy, 2160, .inl a_costs)), (h_here, .inl (cy, 180, .inl a_here)), (h_joined, .inl (cy, 9, .inl a_joined))] s.heap.size = A at hD ⊢
  have hA : ∀ q : Nat, s.heap.size ≤ q → A q := fun q h => by rw [← hAe]; exact Or.inr h
  have hS : va_S A s.heap s.heap [] := va_S.rf
  have in_X1 : ∀ w ∈ u_ws RX1 TX1 7, w ∈ wsX1_allowAnySigns := by decide +kernel
  have k_9 := hts (.fieldLink RX1 9 "ChequeDesk$Head" "places" "I") (by decide +kernel)
  have k_19 := hts (.fieldLink RX1 19 "ChequeDesk$Head" "costs" "[I") (by decide +kernel)
  have k_22 := hts (.fieldLink RX1 22 "ChequeDesk$Head" "here" "[I") (by decide +kernel)
  have m_48_1 := hts (.methodLink RX1 48 Lib.Math.min.name) (by decide +kernel)
  have m_48_2 := hts (.static Lib.Math.min.name) (by decide +kernel)
  have m_48_3 := hts (.initialized "java/lang/Math") (by decide +kernel)
  have m_48_4 := hts (.code Lib.Math.min.name Lib.Math.min.code 2 (some .int)) (by decide +kernel)
  have hl := lv_entry ([.ref h_this]) (n := 5) (Nat.le_of_ble_eq_true rfl)
  rw [show entryFrame m args 5 = entryFrame m ([.ref h_this] : List Value).toArray 5 by rw [hargs], lg_entry_eq]
  generalize (lg_sl ([.ref h_this]) ++ List.replicate (5 - (lg_sl ([.ref h_this])).length) Slot.unset).toArray = ls at hl ⊢
  have hl : lv_has ls 5 [(0, .ref h_this)] := hl
  have hP : va_P (dC, dI) vwCl [(h_this, .inr (1, [.int f_places, g_this_1, .ref h_costs, .ref h_here, .ref h_behind, g_this_5, .ref h_joined])), (h_behind, .inl (cy, 180, .inl a_behind)), (h_costs, .inl (cy, 2160, .inl a_costs)), (h_here, .inl (cy, 180, .inl a_here)), (h_joined, .inl (cy, 9, .inl a_joined))] s.heap := hP
  change W p l e rm_X1_allowAnySigns s m args below meth c s.heap [] 0 0 _ _
  generalize hQQ : MQ below _ _ _ _ _ _ = QQ
  have RET : ∀ (a_behind : Nat → Int32) (a_here : Nat → Int32) (a_joined : Nat → Int32) (H : Heap) (locs : List Loc) (ls : Array Slot) (pc : Nat), decode cX1_allowAnySigns pc = .ok (.return_, 1) → Q a_behind a_here a_joined → va_P (dC, dI) vwCl [(h_this, .inr (1, [.int f_places, g_this_1, .ref h_costs, .ref h_here, .ref h_behind, g_this_5, .ref h_joined])), (h_behind, .inl (cy, 180, .inl a_behind)), (h_costs, .inl (cy, 2160, .inl a_costs)), (h_here, .inl (cy, 180, .inl a_here)), (h_joined, .inl (cy, 9, .inl a_joined))] H → va_D A [(h_this, .inr (1, [.int f_places, g_this_1, .ref h_costs, .ref h_here, .ref h_behind, g_this_5, .ref h_joined])), (h_behind, .inl (cy, 180, .inl a_behind)), (h_costs, .inl (cy, 2160, .inl a_costs)), (h_here, .inl (cy, 180, .inl a_here)), (h_joined, .inl (cy, 9, .inl a_joined))] → va_S A s.heap H locs → W p l e rm_X1_allowAnySigns s m args below meth c H locs 0 0 QQ (F0 m pc ls []) := by
    intro a_behind a_here a_joined H locs ls pc hdg hq hP hD hS
    rw [← hQQ]
    exact W.vret hx hb hr (fun t ht hW => ⟨⟨(a_behind, a_here, a_joined), rfl, hq, by rw [ht]; exact hP, va_K.moved hW.alike hK, hD⟩, hS.F ht⟩) hS.2.2 hdg
  clear hQQ
  unfold p_X1_allowAnySigns at h
  have L2 : ∀ (a_behind : Nat → Int32) (a_joined : Nat → Int32) (K2 : Int32 → (Nat → Int32) → Prop) (n : Nat) (x1 : Int32) (a_here : Nat → Int32) (H : Heap) (locs : List Loc) (ls : Array Slot), wl2 (p_X1_allowAnySigns_B2 f_places a_costs K2) n x1 a_here → va_P (dC, dI) vwCl [(h_this, .inr (1, [.int f_places, g_this_1, .ref h_costs, .ref h_here, .ref h_behind, g_this_5, .ref h_joined])), (h_behind, .inl (cy, 180, .inl a_behind)), (h_costs, .inl (cy, 2160, .inl a_costs)), (h_here, .inl (cy, 180, .inl a_here)), (h_joined, .inl (cy, 9, .inl a_joined))] H → va_D A [(h_this, .inr (1, [.int f_places, g_this_1, .ref h_costs, .ref h_here, .ref h_behind, g_this_5, .ref h_joined])), (h_behind, .inl (cy, 180, .inl a_behind)), (h_costs, .inl (cy, 2160, .inl a_costs)), (h_here, .inl (cy, 180, .inl a_here)), (h_joined, .inl (cy, 9, .inl a_joined))] → va_S A s.heap H locs → lv_has ls 5 [(0, .ref h_this), (1, .int x1)] → (∀ (x1 : Int32) (a_here : Nat → Int32) (H : Heap) (locs : List Loc) (ls : Array Slot), K2 x1 a_here → va_P (dC, dI) vwCl [(h_this, .inr (1, [.int f_places, g_this_1, .ref h_costs, .ref h_here, .ref h_behind, g_this_5, .ref h_joined])), (h_behind, .inl (cy, 180, .inl a_behind)), (h_costs, .inl (cy, 2160, .inl a_costs)), (h_here, .inl (cy, 180, .inl a_here)), (h_joined, .inl (cy, 9, .inl a_joined))] H → va_D A [(h_this, .inr (1, [.int f_places, g_this_1, .ref h_costs, .ref h_here, .ref h_behind, g_this_5, .ref h_joined])), (h_behind, .inl (cy, 180, .inl a_behind)), (h_costs, .inl (cy, 2160, .inl a_costs)), (h_here, .inl (cy, 180, .inl a_here)), (h_joined, .inl (cy, 9, .inl a_joined))] → va_S A s.heap H locs → lv_has ls 5 [(0, .ref h_this)] → W p l e rm_X1_allowAnySigns s m args below meth c H locs 0 0 QQ (F0 m 89 ls [])) → W p l e rm_X1_allowAnySigns s m args below meth c H locs 0 0 QQ (F0 m 2 ls []) := by
    intro a_behind a_joined K2 n
    induction n with
    | zero => intro x1 a_here H locs ls h; exact False.elim h
    | succ n ih =>
      intro x1 a_here H locs ls h hP hD hS hl hk
      have ih := fun x1 a_here H locs ls h hP hD hS hl => ih x1 a_here H locs ls h hP hD hS hl hk
      replace h : p_X1_allowAnySigns_B2 f_places a_costs K2 (wl2 (p_X1_allowAnySigns_B2 f_places a_costs K2) n) x1 a_here := h
      unfold p_X1_allowAnySigns_B2 at h
      have L12 : ∀ (x1 : Int32) (a_behind : Nat → Int32) (a_joined : Nat → Int32) (K12 : Int32 → (Nat → Int32) → Prop) (n : Nat) (x2 : Int32) (a_here : Nat → Int32) (H : Heap) (locs : List Loc) (ls : Array Slot), wl2 (p_X1_allowAnySigns_B12 a_costs x1 K12) n x2 a_here → va_P (dC, dI) vwCl [(h_this, .inr (1, [.int f_places, g_this_1, .ref h_costs, .ref h_here, .ref h_behind, g_this_5, .ref h_joined])), (h_behind, .inl (cy, 180, .inl a_behind)), (h_costs, .inl (cy, 2160, .inl a_costs)), (h_here, .inl (cy, 180, .inl a_here)), (h_joined, .inl (cy, 9, .inl a_joined))] H → va_D A [(h_this, .inr (1, [.int f_places, g_this_1, .ref h_costs, .ref h_here, .ref h_behind, g_this_5, .ref h_joined])), (h_behind, .inl (cy, 180, .inl a_behind)), (h_costs, .inl (cy, 2160, .inl a_costs)), (h_here, .inl (cy, 180, .inl a_here)), (h_joined, .inl (cy, 9, .inl a_joined))] → va_S A s.heap H locs → lv_has ls 5 [(0, .ref h_this), (1, .int x1), (2, .int x2)] → (∀ (x2 : Int32) (a_here : Nat → Int32) (H : Heap) (locs : List Loc) (ls : Array Slot), K12 x2 a_here → va_P (dC, dI) vwCl [(h_this, .inr (1, [.int f_places, g_this_1, .ref h_costs, .ref h_here, .ref h_behind, g_this_5, .ref h_joined])), (h_behind, .inl (cy, 180, .inl a_behind)), (h_costs, .inl (cy, 2160, .inl a_costs)), (h_here, .inl (cy, 180, .inl a_here)), (h_joined, .inl (cy, 9, .inl a_joined))] H → va_D A [(h_this, .inr (1, [.int f_places, g_this_1, .ref h_costs, .ref h_here, .ref h_behind, g_this_5, .ref h_joined])), (h_behind, .inl (cy, 180, .inl a_behind)), (h_costs, .inl (cy, 2160, .inl a_costs)), (h_here, .inl (cy, 180, .inl a_here)), (h_joined, .inl (cy, 9, .inl a_joined))] → va_S A s.heap H locs → lv_has ls 5 [(0, .ref h_this), (1, .int x1)] → W p l e rm_X1_allowAnySigns s m args below meth c H locs 0 0 QQ (F0 m 83 ls [])) → W p l e rm_X1_allowAnySigns s m args below meth c H locs 0 0 QQ (F0 m 12 ls []) := by
        intro x1 a_behind a_joined K12 n
        induction n with
        | zero => intro x2 a_here H locs ls h; exact False.elim h
        | succ n ih =>
          intro x2 a_here H locs ls h hP hD hS hl hk
          have ih := fun x2 a_here H locs ls h hP hD hS hl => ih x2 a_here H locs ls h hP hD hS hl hk
          replace h : p_X1_allowAnySigns_B12 a_costs x1 K12 (wl2 (p_X1_allowAnySigns_B12 a_costs x1 K12) n) x2 a_here := h
          unfold p_X1_allowAnySigns_B12 at h
          have L34 : ∀ (x1 : Int32) (x2 : Int32) (a_behind : Nat → Int32) (a_here : Nat → Int32) (a_joined : Nat → Int32) (K34 : Int32 → Int32 → Prop) (n : Nat) (x3 : Int32) (x4 : Int32) (H : Heap) (locs : List Loc) (ls : Array Slot), wl2 (p_X1_allowAnySigns_B34 a_costs x1 x2 K34) n x3 x4 → va_P (dC, dI) vwCl [(h_this, .inr (1, [.int f_places, g_this_1, .ref h_costs, .ref h_here, .ref h_behind, g_this_5, .ref h_joined])), (h_behind, .inl (cy, 180, .inl a_behind)), (h_costs, .inl (cy, 2160, .inl a_costs)), (h_here, .inl (cy, 180, .inl a_here)), (h_joined, .inl (cy, 9, .inl a_joined))] H → va_D A [(h_this, .inr (1, [.int f_places, g_this_1, .ref h_costs, .ref h_here, .ref h_behind, g_this_5, .ref h_joined])), (h_behind, .inl (cy, 180, .inl a_behind)), (h_costs, .inl (cy, 2160, .inl a_costs)), (h_here, .inl (cy, 180, .inl a_here)), (h_joined, .inl (cy, 9, .inl a_joined))] → va_S A s.heap H locs → lv_has ls 5 [(0, .ref h_this), (1, .int x1), (2, .int x2), (3, .int x3), (4, .int x4)] → (∀ (x3 : Int32) (x4 : Int32) (H : Heap) (locs : List Loc) (ls : Array Slot), K34 x3 x4 → va_P (dC, dI) vwCl [(h_this, .inr (1, [.int f_places, g_this_1, .ref h_costs, .ref h_here, .ref h_behind, g_this_5, .ref h_joined])), (h_behind, .inl (cy, 180, .inl a_behind)), (h_costs, .inl (cy, 2160, .inl a_costs)), (h_here, .inl (cy, 180, .inl a_here)), (h_joined, .inl (cy, 9, .inl a_joined))] H → va_D A [(h_this, .inr (1, [.int f_places, g_this_1, .ref h_costs, .ref h_here, .ref h_behind, g_this_5, .ref h_joined])), (h_behind, .inl (cy, 180, .inl a_behind)), (h_costs, .inl (cy, 2160, .inl a_costs)), (h_here, .inl (cy, 180, .inl a_here)), (h_joined, .inl (cy, 9, .inl a_joined))] → va_S A s.heap H locs → lv_has ls 5 [(0, .ref h_this), (1, .int x1), (2, .int x2), (3, .int x3)] → W p l e rm_X1_allowAnySigns s m args below meth c H locs 0 0 QQ (F0 m 65 ls [])) → W p l e rm_X1_allowAnySigns s m args below meth c H locs 0 0 QQ (F0 m 34 ls []) := by
            intro x1 x2 a_behind a_here a_joined K34 n
            induction n with
            | zero => intro x3 x4 H locs ls h; exact False.elim h
            | succ n ih =>
              intro x3 x4 H locs ls h hP hD hS hl hk
              have ih := fun x3 x4 H locs ls h hP hD hS hl => ih x3 x4 H locs ls h hP hD hS hl hk
              replace h : p_X1_allowAnySigns_B34 a_costs x1 x2 K34 (wl2 (p_X1_allowAnySigns_B34 a_costs x1 x2 K34) n) x3 x4 := h
              unfold p_X1_allowAnySigns_B34 at h
              refine lv_iload hx hb dX1_allowAnySigns_34 (lv_at hl 4 rfl) ?_
              refine lv_bipush (v := 12) hx hb dX1_allowAnySigns_36 (by decide) ?_
              refine lv_icmp_ge (tgt := 65) hx hb dX1_allowAnySigns_38 (by decide) (fun c38 => ?_) (fun c38 => ?_)
              · replace h := And.left h c38
                exact hk x3 x4 H locs ls h hP hD hS (lv_sub hl [0, 1, 2, 3] rfl)
              · replace h := And.right h c38
                refine lv_iload_n hx hb dX1_allowAnySigns_41 rfl (lv_at hl 3 rfl) ?_
                refine lv_aload_n hx hb dX1_allowAnySigns_42 rfl (lv_at hl 0 rfl) ?_
                refine va_get (D := (dC, dI)) (ci := 1) (v := .ref h_costs) (C := RX1) (T := TX1) (N := 7) hx hb hts in_X1 hown hK hP 0 rfl rfl 2 (by decide) k_19 (fun _ h9 => h9) rfl dX1_allowAnySigns_43 ?_
                refine lv_iload_n hx hb dX1_allowAnySigns_46 rfl (lv_at hl 1 rfl) ?_
                refine lv_iload hx hb dX1_allowAnySigns_47 (lv_at hl 4 rfl) ?_
                have hPc := hP.sub (ws' := []) [] rfl
                have hDc := hD.sub (ws' := []) [] (by decide) rfl
                have hFc := va_free (wc := []) hD hS hA [] rfl
                refine va_calli (va_runS (As := [.int x1, .int x4]) (rest := [.ref h_costs, .int x3]) ⟨hx, hb, hml, hown, hts⟩ (c_X1_rowOf l dC dI cy  H.size   x1 x4 _ h) (va_cwS 2 hts gX1_allowAnySigns_X1_rowOf rfl rfl rfl q_X1_rowOf ⟨Nat.le_of_ble_eq_true rfl, Nat.le_of_ble_eq_true rfl⟩) ⟨fun a U g mk q => by obtain ⟨q0, q1, qP, qK, qD⟩ := q; exact ⟨q0, q1, qP, va_K.moved (u := U) (U := U.calling g mk a) (Vm.Alike.refl U.vm) qK, qD⟩, fun U hU hW => ⟨rfl, by rw [hU], by rw [hU]; exact hPc, va_K.moved hW.alike hK, hDc.weaken (fun _ _ _ _ => trivial)⟩⟩ rfl rfl hl.1 rfl (lv_room (Nat.le_of_ble_eq_true rfl)) dX1_allowAnySigns_49 ⟨Nat.le_of_ble_eq_true rfl, Nat.le_of_ble_eq_true rfl⟩) hS (fun q _ h => hFc q h) hFc (fun r49 u t H1 locs ht hvm hw hB hz1 hk1 hS => ?_)
                obtain ⟨hP1, hK1, hD1⟩ := hB
                rw [ht] at hP1
                obtain ⟨hP, hD⟩ := va_join (wr := [(h_this, .inr (1, [.int f_places, g_this_1, .ref h_costs, .ref h_here, .ref h_behind, g_this_5, .ref h_joined])), (h_behind, .inl (cy, 180, .inl a_behind)), (h_costs, .inl (cy, 2160, .inl a_costs)), (h_here, .inl (cy, 180, .inl a_here)), (h_joined, .inl (cy, 9, .inl a_joined))]) (w1 := []) hP hD [] [0, 1, 2, 3, 4] rfl rfl (by decide) (by decide) hk1 hFc hP1 hD1
                replace hP := hP.sub (ws' := [(h_this, .inr (1, [.int f_places, g_this_1, .ref h_costs, .ref h_here, .ref h_behind, g_this_5, .ref h_joined])), (h_behind, .inl (cy, 180, .inl a_behind)), (h_costs, .inl (cy, 2160, .inl a_costs)), (h_here, .inl (cy, 180, .inl a_here)), (h_joined, .inl (cy, 9, .inl a_joined))]) [0, 1, 2, 3, 4] rfl
                replace hD := hD.sub (ws' := [(h_this, .inr (1, [.int f_places, g_this_1, .ref h_costs, .ref h_here, .ref h_behind, g_this_5, .ref h_joined])), (h_behind, .inl (cy, 180, .inl a_behind)), (h_costs, .inl (cy, 2160, .inl a_costs)), (h_here, .inl (cy, 180, .inl a_here)), (h_joined, .inl (cy, 9, .inl a_joined))]) [0, 1, 2, 3, 4] (by decide) rfl
                clear hPc hDc hFc hP1 hK1 hD1 hz1 hk1 hvm
                subst ht
                generalize t.heap = H at hP hS ⊢
                replace h := hw
                clear hw
                refine lv_iload_n hx hb dX1_allowAnySigns_52 rfl (lv_at hl 2 rfl) ?_
                refine lv_iadd hx hb dX1_allowAnySigns_53 ?_
                obtain ⟨b54, h⟩ := h
                refine va_iald hx hb hK hP 2 0 rfl rfl b54 dX1_allowAnySigns_54 ?_
                refine my_mmin hx hb (by rw [hml]; exact hl.1.symm) hown m_48_1 m_48_2 m_48_3 m_48_4 (Nat.le_of_ble_eq_true rfl) (Nat.le_of_ble_eq_true rfl) (Nat.zero_le _) (Nat.zero_le _) dX1_allowAnySigns_55 ?_
                refine lv_istore_n (lv' := [(3, .int (jmin x3 (a_costs (Int32.toNatClampNeg (r49 + x2))))), (0, .ref h_this), (1, .int x1), (2, .int x2), (4, .int x4)]) hx hb dX1_allowAnySigns_58 rfl hl (by decide) rfl (fun ls hl => ?_)
                refine lv_iinc (v := x4 + 1) (lv' := [(4, .int (x4 + 1)), (3, .int (jmin x3 (a_costs (Int32.toNatClampNeg (r49 + x2))))), (0, .ref h_this), (1, .int x1), (2, .int x2)]) hx hb dX1_allowAnySigns_59 hl (k := 4) rfl (by rfl) (by decide) rfl (fun ls hl => ?_)
                refine lv_goto (tgt := 34) hx hb dX1_allowAnySigns_62 (by decide) ?_
                exact ih (jmin x3 (a_costs (Int32.toNatClampNeg (r49 + x2)))) (x4 + 1) H locs ls h hP hD hS (lv_sub hl [2, 3, 4, 1, 0] rfl)
          refine lv_iload_n hx hb dX1_allowAnySigns_12 rfl (lv_at hl 2 rfl) ?_
          refine lv_bipush (v := 9) hx hb dX1_allowAnySigns_13 (by decide) ?_
          refine lv_icmp_ge (tgt := 83) hx hb dX1_allowAnySigns_15 (by decide) (fun c15 => ?_) (fun c15 => ?_)
          · replace h := And.left h c15
            exact hk x2 a_here H locs ls h hP hD hS (lv_sub hl [0, 1] rfl)
          · replace h := And.right h c15
            refine lv_aload_n hx hb dX1_allowAnySigns_18 rfl (lv_at hl 0 rfl) ?_
            refine va_get (D := (dC, dI)) (ci := 1) (v := .ref h_costs) (C := RX1) (T := TX1) (N := 7) hx hb hts in_X1 hown hK hP 0 rfl rfl 2 (by decide) k_19 (fun _ h9 => h9) rfl dX1_allowAnySigns_19 ?_
            refine lv_iload_n hx hb dX1_allowAnySigns_22 rfl (lv_at hl 1 rfl) ?_
            refine lv_iconst (v := 0) hx hb dX1_allowAnySigns_23 (by decide) ?_
            have hPc := hP.sub (ws' := []) [] rfl
            have hDc := hD.sub (ws' := []) [] (by decide) rfl
            have hFc := va_free (wc := []) hD hS hA [] rfl
            refine va_calli (va_runS (As := [.int x1, .int 0]) (rest := [.ref h_costs]) ⟨hx, hb, hml, hown, hts⟩ (c_X1_rowOf l dC dI cy  H.size   x1 0 _ h) (va_cwS 2 hts gX1_allowAnySigns_X1_rowOf rfl rfl rfl q_X1_rowOf ⟨Nat.le_of_ble_eq_true rfl, Nat.le_of_ble_eq_true rfl⟩) ⟨fun a U g mk q => by obtain ⟨q0, q1, qP, qK, qD⟩ := q; exact ⟨q0, q1, qP, va_K.moved (u := U) (U := U.calling g mk a) (Vm.Alike.refl U.vm) qK, qD⟩, fun U hU hW => ⟨rfl, by rw [hU], by rw [hU]; exact hPc, va_K.moved hW.alike hK, hDc.weaken (fun _ _ _ _ => trivial)⟩⟩ rfl rfl hl.1 rfl (lv_room (Nat.le_of_ble_eq_true rfl)) dX1_allowAnySigns_24 ⟨Nat.le_of_ble_eq_true rfl, Nat.le_of_ble_eq_true rfl⟩) hS (fun q _ h => hFc q h) hFc (fun r24 u t H1 locs ht hvm hw hB hz1 hk1 hS => ?_)
            obtain ⟨hP1, hK1, hD1⟩ := hB
            rw [ht] at hP1
            obtain ⟨hP, hD⟩ := va_join (wr := [(h_this, .inr (1, [.int f_places, g_this_1, .ref h_costs, .ref h_here, .ref h_behind, g_this_5, .ref h_joined])), (h_behind, .inl (cy, 180, .inl a_behind)), (h_costs, .inl (cy, 2160, .inl a_costs)), (h_here, .inl (cy, 180, .inl a_here)), (h_joined, .inl (cy, 9, .inl a_joined))]) (w1 := []) hP hD [] [0, 1, 2, 3, 4] rfl rfl (by decide) (by decide) hk1 hFc hP1 hD1
            replace hP := hP.sub (ws' := [(h_this, .inr (1, [.int f_places, g_this_1, .ref h_costs, .ref h_here, .ref h_behind, g_this_5, .ref h_joined])), (h_behind, .inl (cy, 180, .inl a_behind)), (h_costs, .inl (cy, 2160, .inl a_costs)), (h_here, .inl (cy, 180, .inl a_here)), (h_joined, .inl (cy, 9, .inl a_joined))]) [0, 1, 2, 3, 4] rfl
            replace hD := hD.sub (ws' := [(h_this, .inr (1, [.int f_places, g_this_1, .ref h_costs, .ref h_here, .ref h_behind, g_this_5, .ref h_joined])), (h_behind, .inl (cy, 180, .inl a_behind)), (h_costs, .inl (cy, 2160, .inl a_costs)), (h_here, .inl (cy, 180, .inl a_here)), (h_joined, .inl (cy, 9, .inl a_joined))]) [0, 1, 2, 3, 4] (by decide) rfl
            clear hPc hDc hFc hP1 hK1 hD1 hz1 hk1 hvm
            subst ht
            generalize t.heap = H at hP hS ⊢
            replace h := hw
            clear hw
            refine lv_iload_n hx hb dX1_allowAnySigns_27 rfl (lv_at hl 2 rfl) ?_
            refine lv_iadd hx hb dX1_allowAnySigns_28 ?_
            obtain ⟨b29, h⟩ := h
            refine va_iald hx hb hK hP 2 0 rfl rfl b29 dX1_allowAnySigns_29 ?_
            refine lv_istore_n (lv' := [(3, .int (a_costs (Int32.toNatClampNeg (r24 + x2)))), (0, .ref h_this), (1, .int x1), (2, .int x2)]) hx hb dX1_allowAnySigns_30 rfl hl (by decide) rfl (fun ls hl => ?_)
            refine lv_iconst (v := 1) hx hb dX1_allowAnySigns_31 (by decide) ?_
            refine lv_istore (lv' := [(4, .int 1), (3, .int (a_costs (Int32.toNatClampNeg (r24 + x2)))), (0, .ref h_this), (1, .int x1), (2, .int x2)]) hx hb dX1_allowAnySigns_32 hl (by decide) rfl (fun ls hl => ?_)
            obtain ⟨n34, h⟩ := h
            refine L34 x1 x2 a_behind a_here a_joined _ n34 (a_costs (Int32.toNatClampNeg (r24 + x2))) 1 H locs ls h hP hD hS (lv_sub hl [2, 3, 4, 1, 0] rfl) (fun x3_65 x4_65 H locs ls h hP hD hS hl => ?_)
            refine lv_aload_n hx hb dX1_allowAnySigns_65 rfl (lv_at hl 0 rfl) ?_
            refine va_get (D := (dC, dI)) (ci := 1) (v := .ref h_here) (C := RX1) (T := TX1) (N := 7) hx hb hts in_X1 hown hK hP 0 rfl rfl 3 (by decide) k_22 (fun _ h9 => h9) rfl dX1_allowAnySigns_66 ?_
            refine lv_iload_n hx hb dX1_allowAnySigns_69 rfl (lv_at hl 1 rfl) ?_
            refine lv_bipush (v := 9) hx hb dX1_allowAnySigns_70 (by decide) ?_
            refine lv_imul hx hb dX1_allowAnySigns_72 ?_
            refine lv_iload_n hx hb dX1_allowAnySigns_73 rfl (lv_at hl 2 rfl) ?_
            refine lv_iadd hx hb dX1_allowAnySigns_74 ?_
            refine lv_iload_n hx hb dX1_allowAnySigns_75 rfl (lv_at hl 3 rfl) ?_
            obtain ⟨b76, h⟩ := h
            refine va_iast hx hb hK hP hD hS 3 0 rfl rfl b76 dX1_allowAnySigns_76 (fun H locs hP hD hS => ?_)
            have hP : va_P (dC, dI) vwCl [(h_this, .inr (1, [.int f_places, g_this_1, .ref h_costs, .ref h_here, .ref h_behind, g_this_5, .ref h_joined])), (h_behind, .inl (cy, 180, .inl a_behind)), (h_costs, .inl (cy, 2160, .inl a_costs)), (h_here, .inl (cy, 180, .inl (upd a_here (Int32.toNatClampNeg ((x1 * 9) + x2)) x3_65))), (h_joined, .inl (cy, 9, .inl a_joined))] H := hP
            have hD : va_D A [(h_this, .inr (1, [.int f_places, g_this_1, .ref h_costs, .ref h_here, .ref h_behind, g_this_5, .ref h_joined])), (h_behind, .inl (cy, 180, .inl a_behind)), (h_costs, .inl (cy, 2160, .inl a_costs)), (h_here, .inl (cy, 180, .inl (upd a_here (Int32.toNatClampNeg ((x1 * 9) + x2)) x3_65))), (h_joined, .inl (cy, 9, .inl a_joined))] := hD
            refine lv_iinc (v := x2 + 1) (lv' := [(2, .int (x2 + 1)), (0, .ref h_this), (1, .int x1), (3, .int x3_65)]) hx hb dX1_allowAnySigns_77 hl (k := 2) rfl (by rfl) (by decide) rfl (fun ls hl => ?_)
            refine lv_goto (tgt := 12) hx hb dX1_allowAnySigns_80 (by decide) ?_
            exact ih (x2 + 1) (upd a_here (Int32.toNatClampNeg ((x1 * 9) + x2)) x3_65) H locs ls h hP hD hS (lv_sub hl [1, 2, 0] rfl)
      refine lv_iload_n hx hb dX1_allowAnySigns_2 rfl (lv_at hl 1 rfl) ?_
      refine lv_aload_n hx hb dX1_allowAnySigns_3 rfl (lv_at hl 0 rfl) ?_
      refine va_get (D := (dC, dI)) (ci := 1) (v := .int f_places) (C := RX1) (T := TX1) (N := 7) hx hb hts in_X1 hown hK hP 0 rfl rfl 0 (by decide) k_9 (fun _ h9 => h9) rfl dX1_allowAnySigns_4 ?_
      refine lv_icmp_ge (tgt := 89) hx hb dX1_allowAnySigns_7 (by decide) (fun c7 => ?_) (fun c7 => ?_)
      · replace h := And.left h c7
        exact hk x1 a_here H locs ls h hP hD hS (lv_sub hl [0] rfl)
      · replace h := And.right h c7
        refine lv_iconst (v := 0) hx hb dX1_allowAnySigns_10 (by decide) ?_
        refine lv_istore_n (lv' := [(2, .int 0), (0, .ref h_this), (1, .int x1)]) hx hb dX1_allowAnySigns_11 rfl hl (by decide) rfl (fun ls hl => ?_)
        obtain ⟨n12, h⟩ := h
        refine L12 x1 a_behind a_joined _ n12 0 a_here H locs ls h hP hD hS (lv_sub hl [1, 2, 0] rfl) (fun x2_83 a_here_83 H locs ls h hP hD hS hl => ?_)
        refine lv_iinc (v := x1 + 1) (lv' := [(1, .int (x1 + 1)), (0, .ref h_this)]) hx hb dX1_allowAnySigns_83 hl (k := 1) rfl (by rfl) (by decide) rfl (fun ls hl => ?_)
        refine lv_goto (tgt := 2) hx hb dX1_allowAnySigns_86 (by decide) ?_
        exact ih (x1 + 1) a_here_83 H locs ls h hP hD hS (lv_sub hl [1, 0] rfl)
  generalize hlo : ([] : List Loc) = locs at hS ⊢
  obtain ⟨H, hH⟩ : ∃ z, z = s.heap := ⟨_, rfl⟩
  rw [show W p l e rm_X1_allowAnySigns s m args below meth c s.heap = W p l e rm_X1_allowAnySigns s m args below meth c H by rw [hH]]
  replace hP : va_P (dC, dI) vwCl [(h_this, .inr (1, [.int f_places, g_this_1, .ref h_costs, .ref h_here, .ref h_behind, g_this_5, .ref h_joined])), (h_behind, .inl (cy, 180, .inl a_behind)), (h_costs, .inl (cy, 2160, .inl a_costs)), (h_here, .inl (cy, 180, .inl a_here)), (h_joined, .inl (cy, 9, .inl a_joined))] H := by rw [hH]; exact hP
  replace hS : va_S A s.heap H locs := by rw [hH]; exact hS
  clear hH hlo
  refine lv_iconst (v := 0) hx hb dX1_allowAnySigns_0 (by decide) ?_
  refine lv_istore_n (lv' := [(1, .int 0), (0, .ref h_this)]) hx hb dX1_allowAnySigns_1 rfl hl (by decide) rfl (fun ls hl => ?_)
  obtain ⟨n2, h⟩ := h
  refine L2 a_behind a_joined _ n2 0 a_here H locs ls h hP hD hS (lv_sub hl [1, 0] rfl) (fun x1_89 a_here_89 H locs ls h hP hD hS hl => ?_)
  refine lv_aload_n hx hb dX1_allowAnySigns_89 rfl (lv_at hl 0 rfl) ?_
  have hPc := hP.sub (ws' := [(h_this, .inr (1, [.int f_places, g_this_1, .ref h_costs, .ref h_here, .ref h_behind, g_this_5, .ref h_joined])), (h_behind, .inl (cy, 180, .inl a_behind)), (h_here, .inl (cy, 180, .inl a_here_89)), (h_joined, .inl (cy, 9, .inl a_joined))]) [0, 1, 3, 4] rfl
  have hDc := hD.sub (ws' := [(h_this, .inr (1, [.int f_places, g_this_1, .ref h_costs, .ref h_here, .ref h_behind, g_this_5, .ref h_joined])), (h_behind, .inl (cy, 180, .inl a_behind)), (h_here, .inl (cy, 180, .inl a_here_89)), (h_joined, .inl (cy, 9, .inl a_joined))]) [0, 1, 3, 4] (by decide) rfl
  have hFc := va_free (wc := [(h_this, .inr (1, [.int f_places, g_this_1, .ref h_costs, .ref h_here, .ref h_behind, g_this_5, .ref h_joined])), (h_behind, .inl (cy, 180, .inl a_behind)), (h_here, .inl (cy, 180, .inl a_here_89)), (h_joined, .inl (cy, 9, .inl a_joined))]) hD hS hA [0, 1, 3, 4] rfl
  refine va_callv (va_runV (As := []) (rest := []) ⟨hx, hb, hml, hown, hts⟩ (c_X1_sumFromTheEnd l dC dI cy h_this h_behind h_here h_joined H.size (g_this_1) (.ref h_costs) (g_this_5) f_places a_behind a_here_89 a_joined  _ h) (cwV 0 hts gX1_allowAnySigns_X1_sumFromTheEnd rfl rfl rfl q_X1_sumFromTheEnd ⟨Nat.le_of_ble_eq_true rfl, Nat.le_of_ble_eq_true rfl⟩) ⟨fun a U g mk q => by obtain ⟨q0, q1, qP, qK, qD⟩ := q; exact ⟨q0, q1, qP, va_K.moved (u := U) (U := U.calling g mk a) (Vm.Alike.refl U.vm) qK, qD⟩, va_recv hK hP (ci := 1) (q0 := 0) rfl rfl, fun U hU hW => ⟨rfl, by rw [hU], by rw [hU]; exact hPc, va_K.moved hW.alike hK, hDc.weaken (fun _ _ _ _ => trivial)⟩⟩ rfl rfl hl.1 rfl (lv_room (Nat.le_of_ble_eq_true rfl)) dX1_allowAnySigns_90 ⟨Nat.le_of_ble_eq_true rfl, Nat.le_of_ble_eq_true rfl⟩) hS (fun q _ h => hFc q h) hFc (fun u t H1 locs ht hvm hw hB hz1 hk1 hS => ?_)
  obtain ⟨a_behind_90, a_joined_90⟩ := u
  obtain ⟨hP1, hK1, hD1⟩ := hB
  rw [ht] at hP1
  obtain ⟨hP, hD⟩ := va_join (wr := [(h_costs, .inl (cy, 2160, .inl a_costs))]) (w1 := [(h_this, .inr (1, [.int f_places, g_this_1, .ref h_costs, .ref h_here, .ref h_behind, g_this_5, .ref h_joined])), (h_behind, .inl (cy, 180, .inl a_behind_90)), (h_here, .inl (cy, 180, .inl a_here_89)), (h_joined, .inl (cy, 9, .inl a_joined_90))]) hP hD [0, 1, 3, 4] [2] rfl rfl (by decide) (by decide) hk1 hFc hP1 hD1
  replace hP := hP.sub (ws' := [(h_this, .inr (1, [.int f_places, g_this_1, .ref h_costs, .ref h_here, .ref h_behind, g_this_5, .ref h_joined])), (h_behind, .inl (cy, 180, .inl a_behind_90)), (h_costs, .inl (cy, 2160, .inl a_costs)), (h_here, .inl (cy, 180, .inl a_here_89)), (h_joined, .inl (cy, 9, .inl a_joined_90))]) [1, 2, 0, 3, 4] rfl
  replace hD := hD.sub (ws' := [(h_this, .inr (1, [.int f_places, g_this_1, .ref h_costs, .ref h_here, .ref h_behind, g_this_5, .ref h_joined])), (h_behind, .inl (cy, 180, .inl a_behind_90)), (h_costs, .inl (cy, 2160, .inl a_costs)), (h_here, .inl (cy, 180, .inl a_here_89)), (h_joined, .inl (cy, 9, .inl a_joined_90))]) [1, 2, 0, 3, 4] (by decide) rfl
  clear hPc hDc hFc hP1 hK1 hD1 hz1 hk1 hvm
  subst ht
  generalize t.heap = H at hP hS ⊢
  replace h := hw
  clear hw
  exact RET a_behind_90 a_here_89 a_joined_90 H locs ls 93 dX1_allowAnySigns_93 h hP hD hS
abbrev rm_X1_allowAt : Room := { frames := 1, cells := 0, slots := 0, locals := 21 }
theorem q_X1_allowAt : yX1_allowAt.cls = RX1 ∧ yX1_allowAt.cls ≠ "java/lang/invoke/MethodHandle" ∧ yX1_allowAt.cls ≠ "java/lang/invoke/VarHandle" ∧ (parseMethodDescriptor yX1_allowAt.desc).map (fun d => d.parameters.length) = some 2 := by decide +kernel
set_option maxHeartbeats 4000000 in
set_option maxRecDepth 100000 in
theorem c_X1_allowAt (l : Launch) (dC : Nat → ClassId) (dI : Nat → Nat → Nat) (cy : ClassId) (h_this : Nat) (h_costs : Nat) (h_here : Nat) (sz : Nat) (g_this_0 g_this_1 g_this_4 g_this_5 g_this_6 : Value) (a_costs : Nat → Int32) (a_here : Nat → Int32) (x1 : Int32) (x2 : Int32) (Q : (Nat → Int32) → Prop) (h : p_X1_allowAt a_costs a_here x1 x2 Q) : Met l yX1_allowAt wsX1_allowAt rm_X1_allowAt (va_Pc [.ref h_this, .int x1, .int x2] (fun U => U.heap.size = sz ∧ va_P (dC, dI) vwCl [(h_this, .inr (1, [g_this_0, g_this_1, .ref h_costs, .ref h_here, g_this_4, g_this_5, g_this_6])), (h_costs, .inl (cy, 2160, .inl a_costs)), (h_here, .inl (cy, 180, .inl a_here))] U.heap ∧ va_K (dC, dI) vwCl [(cy, .int)] U ∧ va_D (fun _ => True) [(h_this, .inr (1, [g_this_0, g_this_1, .ref h_costs, .ref h_here, g_this_4, g_this_5, g_this_6])), (h_costs, .inl (cy, 2160, .inl a_costs)), (h_here, .inl (cy, 180, .inl a_here))])) (va_Qv (fun (u : (Nat → Int32)) => Q u) (fun (u : (Nat → Int32)) (t : State) => va_P (dC, dI) vwCl [(h_this, .inr (1, [g_this_0, g_this_1, .ref h_costs, .ref h_here, g_this_4, g_this_5, g_this_6])), (h_costs, .inl (cy, 2160, .inl a_costs)), (h_here, .inl (cy, 180, .inl u))] t.heap ∧ va_K (dC, dI) vwCl [(cy, .int)] t ∧ va_D (va_A [(h_this, .inr (1, [g_this_0, g_this_1, .ref h_costs, .ref h_here, g_this_4, g_this_5, g_this_6])), (h_costs, .inl (cy, 2160, .inl a_costs)), (h_here, .inl (cy, 180, .inl a_here))] sz) [(h_this, .inr (1, [g_this_0, g_this_1, .ref h_costs, .ref h_here, g_this_4, g_this_5, g_this_6])), (h_costs, .inl (cy, 2160, .inl a_costs)), (h_here, .inl (cy, 180, .inl u))]) (va_A [(h_this, .inr (1, [g_this_0, g_this_1, .ref h_costs, .ref h_here, g_this_4, g_this_5, g_this_6])), (h_costs, .inl (cy, 2160, .inl a_costs)), (h_here, .inl (cy, 180, .inl a_here))] sz)) 0 0 (va_A [(h_this, .inr (1, [g_this_0, g_this_1, .ref h_costs, .ref h_here, g_this_4, g_this_5, g_this_6])), (h_costs, .inl (cy, 2160, .inl a_costs)), (h_here, .inl (cy, 180, .inl a_here))] sz) := by
  refine Met.ofW (cc := cX1_allowAt) (maxL := 4) (ret := none) (by decide) rfl ?_
  intro p e s m args below meth c s₁ B hml hv
  obtain ⟨hargs, hsz, hP, hK, hD0⟩ := hv
  have hx := B.exec
  have hb := B.bytes
  have hr := B.returns
  have hts := atoms_spec (ws := wsX1_allowAt) B.pre
  have hown : s.vm.findClass RX1 = some m.cls := findClass_of_methodNamed B.named
  have hlocks := B.notSynchronized
  subst hsz
  have hD := hD0.self (sz := s.heap.size)
  generalize hAe : va_A [(h_this, .inr (1, [g_this_0, g_this_1, .ref h_costs, .ref h_here, g_this_4, g_this_5, g_this_6])), (h_costs, .inl (cy, 2160, .inl a_costs)), (h_here, .inl (cy, 180, .inl a_here))] s.heap.size = A at hD ⊢
  have hA : ∀ q : Nat, s.heap.size ≤ q → A q := fun q h => by rw [← hAe]; exact Or.inr h
  have hS : va_S A s.heap s.heap [] := va_S.rf
  have in_X1 : ∀ w ∈ u_ws RX1 TX1 7, w ∈ wsX1_allowAt := by decide +kernel
  have k_19 := hts (.fieldLink RX1 19 "ChequeDesk$Head" "costs" "[I") (by decide +kernel)
  have k_22 := hts (.fieldLink RX1 22 "ChequeDesk$Head" "here" "[I") (by decide +kernel)
  have hl := lv_entry ([.ref h_this, .int x1, .int x2]) (n := 4) (Nat.le_of_ble_eq_true rfl)
  rw [show entryFrame m args 4 = entryFrame m ([.ref h_this, .int x1, .int x2] : List Value).toArray 4 by rw [hargs], lg_entry_eq]
  generalize (lg_sl ([.ref h_this, .int x1, .int x2]) ++ List.replicate (4 - (lg_sl ([.ref h_this, .int x1, .int x2])).length) Slot.unset).toArray = ls at hl ⊢
  have hl : lv_has ls 4 [(0, .ref h_this), (1, .int x1), (2, .int x2)] := hl
  have hP : va_P (dC, dI) vwCl [(h_this, .inr (1, [g_this_0, g_this_1, .ref h_costs, .ref h_here, g_this_4, g_this_5, g_this_6])), (h_costs, .inl (cy, 2160, .inl a_costs)), (h_here, .inl (cy, 180, .inl a_here))] s.heap := hP
  change W p l e rm_X1_allowAt s m args below meth c s.heap [] 0 0 _ _
  generalize hQQ : MQ below _ _ _ _ _ _ = QQ
  have RET : ∀ (a_here : Nat → Int32) (H : Heap) (locs : List Loc) (ls : Array Slot) (pc : Nat), decode cX1_allowAt pc = .ok (.return_, 1) → Q a_here → va_P (dC, dI) vwCl [(h_this, .inr (1, [g_this_0, g_this_1, .ref h_costs, .ref h_here, g_this_4, g_this_5, g_this_6])), (h_costs, .inl (cy, 2160, .inl a_costs)), (h_here, .inl (cy, 180, .inl a_here))] H → va_D A [(h_this, .inr (1, [g_this_0, g_this_1, .ref h_costs, .ref h_here, g_this_4, g_this_5, g_this_6])), (h_costs, .inl (cy, 2160, .inl a_costs)), (h_here, .inl (cy, 180, .inl a_here))] → va_S A s.heap H locs → W p l e rm_X1_allowAt s m args below meth c H locs 0 0 QQ (F0 m pc ls []) := by
    intro a_here H locs ls pc hdg hq hP hD hS
    rw [← hQQ]
    exact W.vret hx hb hr (fun t ht hW => ⟨⟨a_here, rfl, hq, by rw [ht]; exact hP, va_K.moved hW.alike hK, hD⟩, hS.F ht⟩) hS.2.2 hdg
  clear hQQ
  unfold p_X1_allowAt at h
  have L2 : ∀ (x1 : Int32) (x2 : Int32) (K2 : Int32 → (Nat → Int32) → Prop) (n : Nat) (x3 : Int32) (a_here : Nat → Int32) (H : Heap) (locs : List Loc) (ls : Array Slot), wl2 (p_X1_allowAt_B2 a_costs x1 x2 K2) n x3 a_here → va_P (dC, dI) vwCl [(h_this, .inr (1, [g_this_0, g_this_1, .ref h_costs, .ref h_here, g_this_4, g_this_5, g_this_6])), (h_costs, .inl (cy, 2160, .inl a_costs)), (h_here, .inl (cy, 180, .inl a_here))] H → va_D A [(h_this, .inr (1, [g_this_0, g_this_1, .ref h_costs, .ref h_here, g_this_4, g_this_5, g_this_6])), (h_costs, .inl (cy, 2160, .inl a_costs)), (h_here, .inl (cy, 180, .inl a_here))] → va_S A s.heap H locs → lv_has ls 4 [(0, .ref h_this), (1, .int x1), (2, .int x2), (3, .int x3)] → (∀ (x3 : Int32) (a_here : Nat → Int32) (H : Heap) (locs : List Loc) (ls : Array Slot), K2 x3 a_here → va_P (dC, dI) vwCl [(h_this, .inr (1, [g_this_0, g_this_1, .ref h_costs, .ref h_here, g_this_4, g_this_5, g_this_6])), (h_costs, .inl (cy, 2160, .inl a_costs)), (h_here, .inl (cy, 180, .inl a_here))] H → va_D A [(h_this, .inr (1, [g_this_0, g_this_1, .ref h_costs, .ref h_here, g_this_4, g_this_5, g_this_6])), (h_costs, .inl (cy, 2160, .inl a_costs)), (h_here, .inl (cy, 180, .inl a_here))] → va_S A s.heap H locs → lv_has ls 4 [] → W p l e rm_X1_allowAt s m args below meth c H locs 0 0 QQ (F0 m 37 ls [])) → W p l e rm_X1_allowAt s m args below meth c H locs 0 0 QQ (F0 m 2 ls []) := by
    intro x1 x2 K2 n
    induction n with
    | zero => intro x3 a_here H locs ls h; exact False.elim h
    | succ n ih =>
      intro x3 a_here H locs ls h hP hD hS hl hk
      have ih := fun x3 a_here H locs ls h hP hD hS hl => ih x3 a_here H locs ls h hP hD hS hl hk
      replace h : p_X1_allowAt_B2 a_costs x1 x2 K2 (wl2 (p_X1_allowAt_B2 a_costs x1 x2 K2) n) x3 a_here := h
      unfold p_X1_allowAt_B2 at h
      refine lv_iload_n hx hb dX1_allowAt_2 rfl (lv_at hl 3 rfl) ?_
      refine lv_bipush (v := 9) hx hb dX1_allowAt_3 (by decide) ?_
      refine lv_icmp_ge (tgt := 37) hx hb dX1_allowAt_5 (by decide) (fun c5 => ?_) (fun c5 => ?_)
      · replace h := And.left h c5
        exact hk x3 a_here H locs ls h hP hD hS (lv_sub hl [] rfl)
      · replace h := And.right h c5
        refine lv_aload_n hx hb dX1_allowAt_8 rfl (lv_at hl 0 rfl) ?_
        refine va_get (D := (dC, dI)) (ci := 1) (v := .ref h_here) (C := RX1) (T := TX1) (N := 7) hx hb hts in_X1 hown hK hP 0 rfl rfl 3 (by decide) k_22 (fun _ h9 => h9) rfl dX1_allowAt_9 ?_
        refine lv_iload_n hx hb dX1_allowAt_12 rfl (lv_at hl 1 rfl) ?_
        refine lv_bipush (v := 9) hx hb dX1_allowAt_13 (by decide) ?_
        refine lv_imul hx hb dX1_allowAt_15 ?_
        refine lv_iload_n hx hb dX1_allowAt_16 rfl (lv_at hl 3 rfl) ?_
        refine lv_iadd hx hb dX1_allowAt_17 ?_
        refine lv_aload_n hx hb dX1_allowAt_18 rfl (lv_at hl 0 rfl) ?_
        refine va_get (D := (dC, dI)) (ci := 1) (v := .ref h_costs) (C := RX1) (T := TX1) (N := 7) hx hb hts in_X1 hown hK hP 0 rfl rfl 2 (by decide) k_19 (fun _ h9 => h9) rfl dX1_allowAt_19 ?_
        refine lv_iload_n hx hb dX1_allowAt_22 rfl (lv_at hl 1 rfl) ?_
        refine lv_iload_n hx hb dX1_allowAt_23 rfl (lv_at hl 2 rfl) ?_
        have hPc := hP.sub (ws' := []) [] rfl
        have hDc := hD.sub (ws' := []) [] (by decide) rfl
        have hFc := va_free (wc := []) hD hS hA [] rfl
        refine va_calli (va_runS (As := [.int x1, .int x2]) (rest := [.ref h_costs, .int ((x1 * 9) + x3), .ref h_here]) ⟨hx, hb, hml, hown, hts⟩ (c_X1_rowOf l dC dI cy  H.size   x1 x2 _ h) (va_cwS 2 hts gX1_allowAt_X1_rowOf rfl rfl rfl q_X1_rowOf ⟨Nat.le_of_ble_eq_true rfl, Nat.le_of_ble_eq_true rfl⟩) ⟨fun a U g mk q => by obtain ⟨q0, q1, qP, qK, qD⟩ := q; exact ⟨q0, q1, qP, va_K.moved (u := U) (U := U.calling g mk a) (Vm.Alike.refl U.vm) qK, qD⟩, fun U hU hW => ⟨rfl, by rw [hU], by rw [hU]; exact hPc, va_K.moved hW.alike hK, hDc.weaken (fun _ _ _ _ => trivial)⟩⟩ rfl rfl hl.1 rfl (lv_room (Nat.le_of_ble_eq_true rfl)) dX1_allowAt_24 ⟨Nat.le_of_ble_eq_true rfl, Nat.le_of_ble_eq_true rfl⟩) hS (fun q _ h => hFc q h) hFc (fun r24 u t H1 locs ht hvm hw hB hz1 hk1 hS => ?_)
        obtain ⟨hP1, hK1, hD1⟩ := hB
        rw [ht] at hP1
        obtain ⟨hP, hD⟩ := va_join (wr := [(h_this, .inr (1, [g_this_0, g_this_1, .ref h_costs, .ref h_here, g_this_4, g_this_5, g_this_6])), (h_costs, .inl (cy, 2160, .inl a_costs)), (h_here, .inl (cy, 180, .inl a_here))]) (w1 := []) hP hD [] [0, 1, 2] rfl rfl (by decide) (by decide) hk1 hFc hP1 hD1
        replace hP := hP.sub (ws' := [(h_this, .inr (1, [g_this_0, g_this_1, .ref h_costs, .ref h_here, g_this_4, g_this_5, g_this_6])), (h_costs, .inl (cy, 2160, .inl a_costs)), (h_here, .inl (cy, 180, .inl a_here))]) [0, 1, 2] rfl
        replace hD := hD.sub (ws' := [(h_this, .inr (1, [g_this_0, g_this_1, .ref h_costs, .ref h_here, g_this_4, g_this_5, g_this_6])), (h_costs, .inl (cy, 2160, .inl a_costs)), (h_here, .inl (cy, 180, .inl a_here))]) [0, 1, 2] (by decide) rfl
        clear hPc hDc hFc hP1 hK1 hD1 hz1 hk1 hvm
        subst ht
        generalize t.heap = H at hP hS ⊢
        replace h := hw
        clear hw
        refine lv_iload_n hx hb dX1_allowAt_27 rfl (lv_at hl 3 rfl) ?_
        refine lv_iadd hx hb dX1_allowAt_28 ?_
        obtain ⟨b29, h⟩ := h
        refine va_iald hx hb hK hP 1 0 rfl rfl b29 dX1_allowAt_29 ?_
        obtain ⟨b30, h⟩ := h
        refine va_iast hx hb hK hP hD hS 2 0 rfl rfl b30 dX1_allowAt_30 (fun H locs hP hD hS => ?_)
        have hP : va_P (dC, dI) vwCl [(h_this, .inr (1, [g_this_0, g_this_1, .ref h_costs, .ref h_here, g_this_4, g_this_5, g_this_6])), (h_costs, .inl (cy, 2160, .inl a_costs)), (h_here, .inl (cy, 180, .inl (upd a_here (Int32.toNatClampNeg ((x1 * 9) + x3)) (a_costs (Int32.toNatClampNeg (r24 + x3))))))] H := hP
        have hD : va_D A [(h_this, .inr (1, [g_this_0, g_this_1, .ref h_costs, .ref h_here, g_this_4, g_this_5, g_this_6])), (h_costs, .inl (cy, 2160, .inl a_costs)), (h_here, .inl (cy, 180, .inl (upd a_here (Int32.toNatClampNeg ((x1 * 9) + x3)) (a_costs (Int32.toNatClampNeg (r24 + x3))))))] := hD
        refine lv_iinc (v := x3 + 1) (lv' := [(3, .int (x3 + 1)), (0, .ref h_this), (1, .int x1), (2, .int x2)]) hx hb dX1_allowAt_31 hl (k := 3) rfl (by rfl) (by decide) rfl (fun ls hl => ?_)
        refine lv_goto (tgt := 2) hx hb dX1_allowAt_34 (by decide) ?_
        exact ih (x3 + 1) (upd a_here (Int32.toNatClampNeg ((x1 * 9) + x3)) (a_costs (Int32.toNatClampNeg (r24 + x3)))) H locs ls h hP hD hS (lv_sub hl [1, 2, 3, 0] rfl)
  generalize hlo : ([] : List Loc) = locs at hS ⊢
  obtain ⟨H, hH⟩ : ∃ z, z = s.heap := ⟨_, rfl⟩
  rw [show W p l e rm_X1_allowAt s m args below meth c s.heap = W p l e rm_X1_allowAt s m args below meth c H by rw [hH]]
  replace hP : va_P (dC, dI) vwCl [(h_this, .inr (1, [g_this_0, g_this_1, .ref h_costs, .ref h_here, g_this_4, g_this_5, g_this_6])), (h_costs, .inl (cy, 2160, .inl a_costs)), (h_here, .inl (cy, 180, .inl a_here))] H := by rw [hH]; exact hP
  replace hS : va_S A s.heap H locs := by rw [hH]; exact hS
  clear hH hlo
  refine lv_iconst (v := 0) hx hb dX1_allowAt_0 (by decide) ?_
  refine lv_istore_n (lv' := [(3, .int 0), (0, .ref h_this), (1, .int x1), (2, .int x2)]) hx hb dX1_allowAt_1 rfl hl (by decide) rfl (fun ls hl => ?_)
  obtain ⟨n2, h⟩ := h
  refine L2 x1 x2 _ n2 0 a_here H locs ls h hP hD hS (lv_sub hl [1, 2, 3, 0] rfl) (fun x3_37 a_here_37 H locs ls h hP hD hS hl => ?_)
  exact RET a_here_37 H locs ls 37 dX1_allowAt_37 h hP hD hS
