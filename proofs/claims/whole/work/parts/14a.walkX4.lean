abbrev rm_X4_differInOneDigit : Room := { frames := 0, cells := 0, slots := 0, locals := 0 }
theorem q_X4_differInOneDigit : yX4_differInOneDigit.cls ≠ "java/lang/invoke/MethodHandle" ∧ yX4_differInOneDigit.cls ≠ "java/lang/invoke/VarHandle" ∧ (parseMethodDescriptor yX4_differInOneDigit.desc).map (fun d => d.parameters.length) = some 2 := by decide +kernel
set_option maxHeartbeats 4000000 in
set_option maxRecDepth 100000 in
theorem c_X4_differInOneDigit (l : Launch) (dC : Nat → ClassId) (dI : Nat → Nat → Nat) (cy : ClassId) (sz : Nat) (x0 : Int32) (x1 : Int32) (Q : Int32 → Prop) (h : p_X4_differInOneDigit x0 x1 Q) : Met l yX4_differInOneDigit wsX4_differInOneDigit rm_X4_differInOneDigit (va_Pc [.int x0, .int x1] (fun U => U.heap.size = sz ∧ va_P (dC, dI) vwCl [] U.heap ∧ va_K (dC, dI) vwCl [(cy, .int)] U ∧ va_D (fun _ => True) [])) (va_Qi (fun (r : Int32) (u : Unit) => Q r) (fun (u : Unit) (t : State) => va_P (dC, dI) vwCl [] t.heap ∧ va_K (dC, dI) vwCl [(cy, .int)] t ∧ va_D (va_A [] sz) []) (va_A [] sz)) 0 0 (va_A [] sz) := by
  refine Met.ofW (cc := cX4_differInOneDigit) (maxL := 6) (ret := (some .boolean)) (by decide) rfl ?_
  intro p e s m args below meth c s₁ B hml hv
  obtain ⟨hargs, hsz, hP, hK, hD0⟩ := hv
  have hx := B.exec
  have hb := B.bytes
  have hr := B.returns
  have hts := atoms_spec (ws := wsX4_differInOneDigit) B.pre
  have hown : s.vm.findClass RX4 = some m.cls := findClass_of_methodNamed B.named
  have hlocks := B.notSynchronized
  subst hsz
  have hD := hD0.self (sz := s.heap.size)
  generalize hAe : va_A [] s.heap.size = A at hD ⊢
  have hA : ∀ q : Nat, s.heap.size ≤ q → A q := fun q h => by rw [← hAe]; exact Or.inr h
  have hS : va_S A s.heap s.heap [] := va_S.rf
  have hl := lv_entry ([.int x0, .int x1]) (n := 6) (Nat.le_of_ble_eq_true rfl)
  rw [show entryFrame m args 6 = entryFrame m ([.int x0, .int x1] : List Value).toArray 6 by rw [hargs], lg_entry_eq]
  generalize (lg_sl ([.int x0, .int x1]) ++ List.replicate (6 - (lg_sl ([.int x0, .int x1])).length) Slot.unset).toArray = ls at hl ⊢
  have hl : lv_has ls 6 [(0, .int x0), (1, .int x1)] := hl
  have hP : va_P (dC, dI) vwCl [] s.heap := hP
  change W p l e rm_X4_differInOneDigit s m args below meth c s.heap [] 0 0 _ _
  generalize hQQ : MQ below _ _ _ _ _ _ = QQ
  have RET : ∀ (r : Int32) (H : Heap) (locs : List Loc) (ls : Array Slot) (pc : Nat), decode cX4_differInOneDigit pc = .ok (.ireturn, 1) → narrow .boolean (.int r) = .int r → Q r → va_P (dC, dI) vwCl [] H → va_D A [] → va_S A s.heap H locs → W p l e rm_X4_differInOneDigit s m args below meth c H locs 0 0 QQ (F0 m pc ls [.int r]) := by
    intro r  H locs ls pc hdg hz hq hP hD hS
    rw [← hQQ]
    exact W.zret (v := r) hx hb hr hz (fun t ht hW => ⟨⟨r, (), rfl, hq, by rw [ht]; exact hP, va_K.moved hW.alike hK, hD⟩, hS.F ht⟩) hS.2.2 hdg
  clear hQQ
  unfold p_X4_differInOneDigit at h
  have J58 : ∀ (s0 : Int32) (H : Heap) (locs : List Loc) (ls : Array Slot), p_X4_differInOneDigit_J58 Q s0 → va_P (dC, dI) vwCl [] H → va_D A [] → va_S A s.heap H locs → lv_has ls 6 [] → W p l e rm_X4_differInOneDigit s m args below meth c H locs 0 0 QQ (F0 m 58 ls [.int s0]) := by
    intro s0 H locs ls h hP hD hS hl
    unfold p_X4_differInOneDigit_J58 at h
    obtain ⟨zr58, h⟩ := h
    exact RET s0 H locs ls 58 dX4_differInOneDigit_58 zr58 h hP hD hS
  have L10 : ∀ (K10 : Int32 → Int32 → Int32 → Int32 → Prop) (n : Nat) (x2 : Int32) (x3 : Int32) (x4 : Int32) (x5 : Int32) (H : Heap) (locs : List Loc) (ls : Array Slot), wl4 (p_X4_differInOneDigit_B10 K10) n x2 x3 x4 x5 → va_P (dC, dI) vwCl [] H → va_D A [] → va_S A s.heap H locs → lv_has ls 6 [(2, .int x2), (3, .int x3), (4, .int x4), (5, .int x5)] → (∀ (x2 : Int32) (x3 : Int32) (x4 : Int32) (x5 : Int32) (H : Heap) (locs : List Loc) (ls : Array Slot), K10 x2 x3 x4 x5 → va_P (dC, dI) vwCl [] H → va_D A [] → va_S A s.heap H locs → lv_has ls 6 [(4, .int x4)] → W p l e rm_X4_differInOneDigit s m args below meth c H locs 0 0 QQ (F0 m 47 ls [])) → W p l e rm_X4_differInOneDigit s m args below meth c H locs 0 0 QQ (F0 m 10 ls []) := by
    intro K10 n
    induction n with
    | zero => intro x2 x3 x4 x5 H locs ls h; exact False.elim h
    | succ n ih =>
      intro x2 x3 x4 x5 H locs ls h hP hD hS hl hk
      have ih := fun x2 x3 x4 x5 H locs ls h hP hD hS hl => ih x2 x3 x4 x5 H locs ls h hP hD hS hl hk
      replace h : p_X4_differInOneDigit_B10 K10 (wl4 (p_X4_differInOneDigit_B10 K10) n) x2 x3 x4 x5 := h
      unfold p_X4_differInOneDigit_B10 at h
      have J31 : ∀ (x2 : Int32) (x3 : Int32) (x4 : Int32) (x5 : Int32) (H : Heap) (locs : List Loc) (ls : Array Slot), p_X4_differInOneDigit_J31 (wl4 (p_X4_differInOneDigit_B10 K10) n) x2 x3 x4 x5 → va_P (dC, dI) vwCl [] H → va_D A [] → va_S A s.heap H locs → lv_has ls 6 [(2, .int x2), (3, .int x3), (4, .int x4), (5, .int x5)] → W p l e rm_X4_differInOneDigit s m args below meth c H locs 0 0 QQ (F0 m 31 ls []) := by
        intro x2 x3 x4 x5 H locs ls h hP hD hS hl
        unfold p_X4_differInOneDigit_J31 at h
        refine lv_iload_n hx hb dX4_differInOneDigit_31 rfl (lv_at hl 0 rfl) ?_
        refine lv_bipush (v := 10) hx hb dX4_differInOneDigit_32 (by decide) ?_
        refine lv_idiv hx hb dX4_differInOneDigit_34 (by decide) ?_
        refine lv_istore_n (lv' := [(2, .int (x2 / 10)), (3, .int x3), (4, .int x4), (5, .int x5)]) hx hb dX4_differInOneDigit_35 rfl hl (by decide) rfl (fun ls hl => ?_)
        refine lv_iload_n hx hb dX4_differInOneDigit_36 rfl (lv_at hl 1 rfl) ?_
        refine lv_bipush (v := 10) hx hb dX4_differInOneDigit_37 (by decide) ?_
        refine lv_idiv hx hb dX4_differInOneDigit_39 (by decide) ?_
        refine lv_istore_n (lv' := [(3, .int (x3 / 10)), (2, .int (x2 / 10)), (4, .int x4), (5, .int x5)]) hx hb dX4_differInOneDigit_40 rfl hl (by decide) rfl (fun ls hl => ?_)
        refine lv_iinc (v := x5 + 1) (lv' := [(5, .int (x5 + 1)), (3, .int (x3 / 10)), (2, .int (x2 / 10)), (4, .int x4)]) hx hb dX4_differInOneDigit_41 hl (k := 3) rfl (by rfl) (by decide) rfl (fun ls hl => ?_)
        refine lv_goto (tgt := 10) hx hb dX4_differInOneDigit_44 (by decide) ?_
        exact ih (x2 / 10) (x3 / 10) x4 (x5 + 1) H locs ls h hP hD hS (lv_sub hl [2, 1, 3, 0] rfl)
      refine lv_iload hx hb dX4_differInOneDigit_10 (lv_at hl 3 rfl) ?_
      refine lv_bipush (v := 7) hx hb dX4_differInOneDigit_12 (by decide) ?_
      refine lv_icmp_ge (tgt := 47) hx hb dX4_differInOneDigit_14 (by decide) (fun c14 => ?_) (fun c14 => ?_)
      · replace h := And.left h c14
        exact hk x2 x3 x4 x5 H locs ls h hP hD hS (lv_sub hl [2] rfl)
      · replace h := And.right h c14
        refine lv_iload_n hx hb dX4_differInOneDigit_17 rfl (lv_at hl 0 rfl) ?_
        refine lv_bipush (v := 10) hx hb dX4_differInOneDigit_18 (by decide) ?_
        refine my_irem hx hb dX4_differInOneDigit_20 (by decide) ?_
        refine lv_iload_n hx hb dX4_differInOneDigit_21 rfl (lv_at hl 1 rfl) ?_
        refine lv_bipush (v := 10) hx hb dX4_differInOneDigit_22 (by decide) ?_
        refine my_irem hx hb dX4_differInOneDigit_24 (by decide) ?_
        refine lv_icmp_eq (tgt := 31) hx hb dX4_differInOneDigit_25 (by decide) (fun c25 => ?_) (fun c25 => ?_)
        · replace h := And.left h c25
          exact J31 x2 x3 x4 x5 H locs ls h hP hD hS (lv_sub hl [0, 1, 2, 3] rfl)
        · replace h := And.right h c25
          refine lv_iinc (v := x4 + 1) (lv' := [(4, .int (x4 + 1)), (2, .int x2), (3, .int x3), (5, .int x5)]) hx hb dX4_differInOneDigit_28 hl (k := 2) rfl (by rfl) (by decide) rfl (fun ls hl => ?_)
          exact J31 x2 x3 (x4 + 1) x5 H locs ls h hP hD hS (lv_sub hl [1, 2, 0, 3] rfl)
  generalize hlo : ([] : List Loc) = locs at hS ⊢
  obtain ⟨H, hH⟩ : ∃ z, z = s.heap := ⟨_, rfl⟩
  rw [show W p l e rm_X4_differInOneDigit s m args below meth c s.heap = W p l e rm_X4_differInOneDigit s m args below meth c H by rw [hH]]
  replace hP : va_P (dC, dI) vwCl [] H := by rw [hH]; exact hP
  replace hS : va_S A s.heap H locs := by rw [hH]; exact hS
  clear hH hlo
  refine lv_iload_n hx hb dX4_differInOneDigit_0 rfl (lv_at hl 0 rfl) ?_
  refine lv_istore_n (lv' := [(2, .int x0), (0, .int x0), (1, .int x1)]) hx hb dX4_differInOneDigit_1 rfl hl (by decide) rfl (fun ls hl => ?_)
  refine lv_iload_n hx hb dX4_differInOneDigit_2 rfl (lv_at hl 2 rfl) ?_
  refine lv_istore_n (lv' := [(3, .int x1), (2, .int x0), (0, .int x0), (1, .int x1)]) hx hb dX4_differInOneDigit_3 rfl hl (by decide) rfl (fun ls hl => ?_)
  refine lv_iconst (v := 0) hx hb dX4_differInOneDigit_4 (by decide) ?_
  refine lv_istore (lv' := [(4, .int 0), (3, .int x1), (2, .int x0), (0, .int x0), (1, .int x1)]) hx hb dX4_differInOneDigit_5 hl (by decide) rfl (fun ls hl => ?_)
  refine lv_iconst (v := 0) hx hb dX4_differInOneDigit_7 (by decide) ?_
  refine lv_istore (lv' := [(5, .int 0), (4, .int 0), (3, .int x1), (2, .int x0), (0, .int x0), (1, .int x1)]) hx hb dX4_differInOneDigit_8 hl (by decide) rfl (fun ls hl => ?_)
  obtain ⟨n10, h⟩ := h
  refine L10  _ n10 x0 x1 0 0 H locs ls h hP hD hS (lv_sub hl [3, 2, 1, 0] rfl) (fun x2_47 x3_47 x4_47 x5_47 H locs ls h hP hD hS hl => ?_)
  refine lv_iload hx hb dX4_differInOneDigit_47 (lv_at hl 0 rfl) ?_
  refine lv_iconst (v := 1) hx hb dX4_differInOneDigit_49 (by decide) ?_
  refine lv_icmp_ne (tgt := 57) hx hb dX4_differInOneDigit_50 (by decide) (fun c50 => ?_) (fun c50 => ?_)
  · replace h := And.left h c50
    refine lv_iconst (v := 0) hx hb dX4_differInOneDigit_57 (by decide) ?_
    exact J58 0 H locs ls h hP hD hS (lv_sub hl [] rfl)
  · replace h := And.right h c50
    refine lv_iconst (v := 1) hx hb dX4_differInOneDigit_53 (by decide) ?_
    refine lv_goto (tgt := 58) hx hb dX4_differInOneDigit_54 (by decide) ?_
    exact J58 1 H locs ls h hP hD hS (lv_sub hl [] rfl)
abbrev rm_X4_note : Room := { frames := 0, cells := 0, slots := 0, locals := 0 }
theorem q_X4_note : yX4_note.cls = RX4 ∧ yX4_note.cls ≠ "java/lang/invoke/MethodHandle" ∧ yX4_note.cls ≠ "java/lang/invoke/VarHandle" ∧ (parseMethodDescriptor yX4_note.desc).map (fun d => d.parameters.length) = some 3 := by decide +kernel
set_option maxHeartbeats 4000000 in
set_option maxRecDepth 100000 in
theorem c_X4_note (l : Launch) (dC : Nat → ClassId) (dI : Nat → Nat → Nat) (cy : ClassId) (h_this : Nat) (h_amounts : Nat) (h_kinds : Nat) (h_papers : Nat) (sz : Nat) (f_size : Int32) (a_amounts : Nat → Int32) (a_kinds : Nat → Int32) (a_papers : Nat → Int32) (x1 : Int32) (x2 : Int32) (x3 : Int32) (Q : Int32 → (Nat → Int32) → (Nat → Int32) → (Nat → Int32) → Prop) (h : p_X4_note f_size a_amounts a_kinds a_papers x1 x2 x3 Q) : Met l yX4_note wsX4_note rm_X4_note (va_Pc [.ref h_this, .int x1, .int x2, .int x3] (fun U => U.heap.size = sz ∧ va_P (dC, dI) vwCl [(h_this, .inr (4, [.int f_size, .ref h_kinds, .ref h_papers, .ref h_amounts])), (h_amounts, .inl (cy, 301, .inl a_amounts)), (h_kinds, .inl (cy, 301, .inl a_kinds)), (h_papers, .inl (cy, 301, .inl a_papers))] U.heap ∧ va_K (dC, dI) vwCl [(cy, .int)] U ∧ va_D (fun _ => True) [(h_this, .inr (4, [.int f_size, .ref h_kinds, .ref h_papers, .ref h_amounts])), (h_amounts, .inl (cy, 301, .inl a_amounts)), (h_kinds, .inl (cy, 301, .inl a_kinds)), (h_papers, .inl (cy, 301, .inl a_papers))])) (va_Qv (fun (u : Int32 × (Nat → Int32) × (Nat → Int32) × (Nat → Int32)) => Q u.1 u.2.1 u.2.2.1 u.2.2.2) (fun (u : Int32 × (Nat → Int32) × (Nat → Int32) × (Nat → Int32)) (t : State) => va_P (dC, dI) vwCl [(h_this, .inr (4, [.int (u.1), .ref h_kinds, .ref h_papers, .ref h_amounts])), (h_amounts, .inl (cy, 301, .inl (u.2.1))), (h_kinds, .inl (cy, 301, .inl (u.2.2.1))), (h_papers, .inl (cy, 301, .inl (u.2.2.2)))] t.heap ∧ va_K (dC, dI) vwCl [(cy, .int)] t ∧ va_D (va_A [(h_this, .inr (4, [.int f_size, .ref h_kinds, .ref h_papers, .ref h_amounts])), (h_amounts, .inl (cy, 301, .inl a_amounts)), (h_kinds, .inl (cy, 301, .inl a_kinds)), (h_papers, .inl (cy, 301, .inl a_papers))] sz) [(h_this, .inr (4, [.int (u.1), .ref h_kinds, .ref h_papers, .ref h_amounts])), (h_amounts, .inl (cy, 301, .inl (u.2.1))), (h_kinds, .inl (cy, 301, .inl (u.2.2.1))), (h_papers, .inl (cy, 301, .inl (u.2.2.2)))]) (va_A [(h_this, .inr (4, [.int f_size, .ref h_kinds, .ref h_papers, .ref h_amounts])), (h_amounts, .inl (cy, 301, .inl a_amounts)), (h_kinds, .inl (cy, 301, .inl a_kinds)), (h_papers, .inl (cy, 301, .inl a_papers))] sz)) 0 0 (va_A [(h_this, .inr (4, [.int f_size, .ref h_kinds, .ref h_papers, .ref h_amounts])), (h_amounts, .inl (cy, 301, .inl a_amounts)), (h_kinds, .inl (cy, 301, .inl a_kinds)), (h_papers, .inl (cy, 301, .inl a_papers))] sz) := by
  refine Met.ofW (cc := cX4_note) (maxL := 4) (ret := none) (by decide) rfl ?_
  intro p e s m args below meth c s₁ B hml hv
  obtain ⟨hargs, hsz, hP, hK, hD0⟩ := hv
  have hx := B.exec
  have hb := B.bytes
  have hr := B.returns
  have hts := atoms_spec (ws := wsX4_note) B.pre
  have hown : s.vm.findClass RX4 = some m.cls := findClass_of_methodNamed B.named
  have hlocks := B.notSynchronized
  subst hsz
  have hD := hD0.self (sz := s.heap.size)
  generalize hAe : va_A [(h_this, .inr (4, [.int f_size, .ref h_kinds, .ref h_papers, .ref h_amounts])), (h_amounts, .inl (cy, 301, .inl a_amounts)), (h_kinds, .inl (cy, 301, .inl a_kinds)), (h_papers, .inl (cy, 301, .inl a_papers))] s.heap.size = A at hD ⊢
  have hA : ∀ q : Nat, s.heap.size ≤ q → A q := fun q h => by rw [← hAe]; exact Or.inr h
  have hS : va_S A s.heap s.heap [] := va_S.rf
  have in_X4 : ∀ w ∈ u_ws RX4 TX4 4, w ∈ wsX4_note := by decide +kernel
  have k_9 := hts (.fieldLink RX4 9 "ChequeDesk$Slips" "size" "I") (by decide +kernel)
  have k_15 := hts (.fieldLink RX4 15 "ChequeDesk$Slips" "kinds" "[I") (by decide +kernel)
  have k_19 := hts (.fieldLink RX4 19 "ChequeDesk$Slips" "papers" "[I") (by decide +kernel)
  have k_22 := hts (.fieldLink RX4 22 "ChequeDesk$Slips" "amounts" "[I") (by decide +kernel)
  have hl := lv_entry ([.ref h_this, .int x1, .int x2, .int x3]) (n := 4) (Nat.le_of_ble_eq_true rfl)
  rw [show entryFrame m args 4 = entryFrame m ([.ref h_this, .int x1, .int x2, .int x3] : List Value).toArray 4 by rw [hargs], lg_entry_eq]
  generalize (lg_sl ([.ref h_this, .int x1, .int x2, .int x3]) ++ List.replicate (4 - (lg_sl ([.ref h_this, .int x1, .int x2, .int x3])).length) Slot.unset).toArray = ls at hl ⊢
  have hl : lv_has ls 4 [(0, .ref h_this), (1, .int x1), (2, .int x2), (3, .int x3)] := hl
  have hP : va_P (dC, dI) vwCl [(h_this, .inr (4, [.int f_size, .ref h_kinds, .ref h_papers, .ref h_amounts])), (h_amounts, .inl (cy, 301, .inl a_amounts)), (h_kinds, .inl (cy, 301, .inl a_kinds)), (h_papers, .inl (cy, 301, .inl a_papers))] s.heap := hP
  change W p l e rm_X4_note s m args below meth c s.heap [] 0 0 _ _
  generalize hQQ : MQ below _ _ _ _ _ _ = QQ
  have RET : ∀ (f_size : Int32) (a_amounts : Nat → Int32) (a_kinds : Nat → Int32) (a_papers : Nat → Int32) (H : Heap) (locs : List Loc) (ls : Array Slot) (pc : Nat), decode cX4_note pc = .ok (.return_, 1) → Q f_size a_amounts a_kinds a_papers → va_P (dC, dI) vwCl [(h_this, .inr (4, [.int f_size, .ref h_kinds, .ref h_papers, .ref h_amounts])), (h_amounts, .inl (cy, 301, .inl a_amounts)), (h_kinds, .inl (cy, 301, .inl a_kinds)), (h_papers, .inl (cy, 301, .inl a_papers))] H → va_D A [(h_this, .inr (4, [.int f_size, .ref h_kinds, .ref h_papers, .ref h_amounts])), (h_amounts, .inl (cy, 301, .inl a_amounts)), (h_kinds, .inl (cy, 301, .inl a_kinds)), (h_papers, .inl (cy, 301, .inl a_papers))] → va_S A s.heap H locs → W p l e rm_X4_note s m args below meth c H locs 0 0 QQ (F0 m pc ls []) := by
    intro f_size a_amounts a_kinds a_papers H locs ls pc hdg hq hP hD hS
    rw [← hQQ]
    exact W.vret hx hb hr (fun t ht hW => ⟨⟨(f_size, a_amounts, a_kinds, a_papers), rfl, hq, by rw [ht]; exact hP, va_K.moved hW.alike hK, hD⟩, hS.F ht⟩) hS.2.2 hdg
  clear hQQ
  unfold p_X4_note at h
  generalize hlo : ([] : List Loc) = locs at hS ⊢
  obtain ⟨H, hH⟩ : ∃ z, z = s.heap := ⟨_, rfl⟩
  rw [show W p l e rm_X4_note s m args below meth c s.heap = W p l e rm_X4_note s m args below meth c H by rw [hH]]
  replace hP : va_P (dC, dI) vwCl [(h_this, .inr (4, [.int f_size, .ref h_kinds, .ref h_papers, .ref h_amounts])), (h_amounts, .inl (cy, 301, .inl a_amounts)), (h_kinds, .inl (cy, 301, .inl a_kinds)), (h_papers, .inl (cy, 301, .inl a_papers))] H := by rw [hH]; exact hP
  replace hS : va_S A s.heap H locs := by rw [hH]; exact hS
  clear hH hlo
  refine lv_aload_n hx hb dX4_note_0 rfl (lv_at hl 0 rfl) ?_
  refine va_get (D := (dC, dI)) (ci := 4) (v := .int f_size) (C := RX4) (T := TX4) (N := 4) hx hb hts in_X4 hown hK hP 0 rfl rfl 0 (by decide) k_9 (fun _ h9 => h9) rfl dX4_note_1 ?_
  refine lv_sipush (v := 301) hx hb dX4_note_4 (by decide) ?_
  refine lv_icmp_lt (tgt := 11) hx hb dX4_note_7 (by decide) (fun c7 => ?_) (fun c7 => ?_)
  · replace h := And.left h c7
    refine lv_aload_n hx hb dX4_note_11 rfl (lv_at hl 0 rfl) ?_
    refine va_get (D := (dC, dI)) (ci := 4) (v := .ref h_kinds) (C := RX4) (T := TX4) (N := 4) hx hb hts in_X4 hown hK hP 0 rfl rfl 1 (by decide) k_15 (fun _ h9 => h9) rfl dX4_note_12 ?_
    refine lv_aload_n hx hb dX4_note_15 rfl (lv_at hl 0 rfl) ?_
    refine va_get (D := (dC, dI)) (ci := 4) (v := .int f_size) (C := RX4) (T := TX4) (N := 4) hx hb hts in_X4 hown hK hP 0 rfl rfl 0 (by decide) k_9 (fun _ h9 => h9) rfl dX4_note_16 ?_
    refine lv_iload_n hx hb dX4_note_19 rfl (lv_at hl 1 rfl) ?_
    obtain ⟨b20, h⟩ := h
    refine va_iast hx hb hK hP hD hS 2 0 rfl rfl b20 dX4_note_20 (fun H locs hP hD hS => ?_)
    have hP : va_P (dC, dI) vwCl [(h_this, .inr (4, [.int f_size, .ref h_kinds, .ref h_papers, .ref h_amounts])), (h_amounts, .inl (cy, 301, .inl a_amounts)), (h_kinds, .inl (cy, 301, .inl (upd a_kinds (Int32.toNatClampNeg f_size) x1))), (h_papers, .inl (cy, 301, .inl a_papers))] H := hP
    have hD : va_D A [(h_this, .inr (4, [.int f_size, .ref h_kinds, .ref h_papers, .ref h_amounts])), (h_amounts, .inl (cy, 301, .inl a_amounts)), (h_kinds, .inl (cy, 301, .inl (upd a_kinds (Int32.toNatClampNeg f_size) x1))), (h_papers, .inl (cy, 301, .inl a_papers))] := hD
    refine lv_aload_n hx hb dX4_note_21 rfl (lv_at hl 0 rfl) ?_
    refine va_get (D := (dC, dI)) (ci := 4) (v := .ref h_papers) (C := RX4) (T := TX4) (N := 4) hx hb hts in_X4 hown hK hP 0 rfl rfl 2 (by decide) k_19 (fun _ h9 => h9) rfl dX4_note_22 ?_
    refine lv_aload_n hx hb dX4_note_25 rfl (lv_at hl 0 rfl) ?_
    refine va_get (D := (dC, dI)) (ci := 4) (v := .int f_size) (C := RX4) (T := TX4) (N := 4) hx hb hts in_X4 hown hK hP 0 rfl rfl 0 (by decide) k_9 (fun _ h9 => h9) rfl dX4_note_26 ?_
    refine lv_iload_n hx hb dX4_note_29 rfl (lv_at hl 2 rfl) ?_
    obtain ⟨b30, h⟩ := h
    refine va_iast hx hb hK hP hD hS 3 0 rfl rfl b30 dX4_note_30 (fun H locs hP hD hS => ?_)
    have hP : va_P (dC, dI) vwCl [(h_this, .inr (4, [.int f_size, .ref h_kinds, .ref h_papers, .ref h_amounts])), (h_amounts, .inl (cy, 301, .inl a_amounts)), (h_kinds, .inl (cy, 301, .inl (upd a_kinds (Int32.toNatClampNeg f_size) x1))), (h_papers, .inl (cy, 301, .inl (upd a_papers (Int32.toNatClampNeg f_size) x2)))] H := hP
    have hD : va_D A [(h_this, .inr (4, [.int f_size, .ref h_kinds, .ref h_papers, .ref h_amounts])), (h_amounts, .inl (cy, 301, .inl a_amounts)), (h_kinds, .inl (cy, 301, .inl (upd a_kinds (Int32.toNatClampNeg f_size) x1))), (h_papers, .inl (cy, 301, .inl (upd a_papers (Int32.toNatClampNeg f_size) x2)))] := hD
    refine lv_aload_n hx hb dX4_note_31 rfl (lv_at hl 0 rfl) ?_
    refine va_get (D := (dC, dI)) (ci := 4) (v := .ref h_amounts) (C := RX4) (T := TX4) (N := 4) hx hb hts in_X4 hown hK hP 0 rfl rfl 3 (by decide) k_22 (fun _ h9 => h9) rfl dX4_note_32 ?_
    refine lv_aload_n hx hb dX4_note_35 rfl (lv_at hl 0 rfl) ?_
    refine va_get (D := (dC, dI)) (ci := 4) (v := .int f_size) (C := RX4) (T := TX4) (N := 4) hx hb hts in_X4 hown hK hP 0 rfl rfl 0 (by decide) k_9 (fun _ h9 => h9) rfl dX4_note_36 ?_
    refine lv_iload_n hx hb dX4_note_39 rfl (lv_at hl 3 rfl) ?_
    obtain ⟨b40, h⟩ := h
    refine va_iast hx hb hK hP hD hS 1 0 rfl rfl b40 dX4_note_40 (fun H locs hP hD hS => ?_)
    have hP : va_P (dC, dI) vwCl [(h_this, .inr (4, [.int f_size, .ref h_kinds, .ref h_papers, .ref h_amounts])), (h_amounts, .inl (cy, 301, .inl (upd a_amounts (Int32.toNatClampNeg f_size) x3))), (h_kinds, .inl (cy, 301, .inl (upd a_kinds (Int32.toNatClampNeg f_size) x1))), (h_papers, .inl (cy, 301, .inl (upd a_papers (Int32.toNatClampNeg f_size) x2)))] H := hP
    have hD : va_D A [(h_this, .inr (4, [.int f_size, .ref h_kinds, .ref h_papers, .ref h_amounts])), (h_amounts, .inl (cy, 301, .inl (upd a_amounts (Int32.toNatClampNeg f_size) x3))), (h_kinds, .inl (cy, 301, .inl (upd a_kinds (Int32.toNatClampNeg f_size) x1))), (h_papers, .inl (cy, 301, .inl (upd a_papers (Int32.toNatClampNeg f_size) x2)))] := hD
    refine lv_aload_n hx hb dX4_note_41 rfl (lv_at hl 0 rfl) ?_
    refine lv_dup hx hb dX4_note_42 rfl ?_
    refine va_get (D := (dC, dI)) (ci := 4) (v := .int f_size) (C := RX4) (T := TX4) (N := 4) hx hb hts in_X4 hown hK hP 0 rfl rfl 0 (by decide) k_9 (fun _ h9 => h9) rfl dX4_note_43 ?_
    refine lv_iconst (v := 1) hx hb dX4_note_46 (by decide) ?_
    refine lv_iadd hx hb dX4_note_47 ?_
    refine va_put (D := (dC, dI)) (ci := 4) (v := .int (f_size + 1)) (ty := .int) (C := RX4) (T := TX4) (N := 4) hx hb hts in_X4 tyX4 tyX4_ok nmX4 hown hK hP hD hS 0 rfl rfl 0 (by decide) k_9 (fun _ h9 => h9) rfl (by decide +kernel) rfl rfl (Nat.le_of_ble_eq_true rfl) dX4_note_48 (fun H locs hP hD hS => ?_)
    have hP : va_P (dC, dI) vwCl [(h_this, .inr (4, [.int (f_size + 1), .ref h_kinds, .ref h_papers, .ref h_amounts])), (h_amounts, .inl (cy, 301, .inl (upd a_amounts (Int32.toNatClampNeg f_size) x3))), (h_kinds, .inl (cy, 301, .inl (upd a_kinds (Int32.toNatClampNeg f_size) x1))), (h_papers, .inl (cy, 301, .inl (upd a_papers (Int32.toNatClampNeg f_size) x2)))] H := hP
    have hD : va_D A [(h_this, .inr (4, [.int (f_size + 1), .ref h_kinds, .ref h_papers, .ref h_amounts])), (h_amounts, .inl (cy, 301, .inl (upd a_amounts (Int32.toNatClampNeg f_size) x3))), (h_kinds, .inl (cy, 301, .inl (upd a_kinds (Int32.toNatClampNeg f_size) x1))), (h_papers, .inl (cy, 301, .inl (upd a_papers (Int32.toNatClampNeg f_size) x2)))] := hD
    exact RET (f_size + 1) (upd a_amounts (Int32.toNatClampNeg f_size) x3) (upd a_kinds (Int32.toNatClampNeg f_size) x1) (upd a_papers (Int32.toNatClampNeg f_size) x2) H locs ls 51 dX4_note_51 h hP hD hS
  · replace h := And.right h c7
    exact RET f_size a_amounts a_kinds a_papers H locs ls 10 dX4_note_10 h hP hD hS
abbrev rm_X4_differByNeighbours : Room := { frames := 0, cells := 0, slots := 0, locals := 0 }
theorem q_X4_differByNeighbours : yX4_differByNeighbours.cls ≠ "java/lang/invoke/MethodHandle" ∧ yX4_differByNeighbours.cls ≠ "java/lang/invoke/VarHandle" ∧ (parseMethodDescriptor yX4_differByNeighbours.desc).map (fun d => d.parameters.length) = some 2 := by decide +kernel
set_option maxHeartbeats 4000000 in
set_option maxRecDepth 100000 in
theorem c_X4_differByNeighbours (l : Launch) (dC : Nat → ClassId) (dI : Nat → Nat → Nat) (cy : ClassId) (sz : Nat) (x0 : Int32) (x1 : Int32) (Q : Int32 → Prop) (h : p_X4_differByNeighbours x0 x1 Q) : Met l yX4_differByNeighbours wsX4_differByNeighbours rm_X4_differByNeighbours (va_Pc [.int x0, .int x1] (fun U => U.heap.size = sz ∧ va_P (dC, dI) vwCl [] U.heap ∧ va_K (dC, dI) vwCl [(cy, .int)] U ∧ va_D (fun _ => True) [])) (va_Qi (fun (r : Int32) (u : Unit) => Q r) (fun (u : Unit) (t : State) => va_P (dC, dI) vwCl [] t.heap ∧ va_K (dC, dI) vwCl [(cy, .int)] t ∧ va_D (va_A [] sz) []) (va_A [] sz)) 0 0 (va_A [] sz) := by
  refine Met.ofW (cc := cX4_differByNeighbours) (maxL := 7) (ret := (some .boolean)) (by decide) rfl ?_
  intro p e s m args below meth c s₁ B hml hv
  obtain ⟨hargs, hsz, hP, hK, hD0⟩ := hv
  have hx := B.exec
  have hb := B.bytes
  have hr := B.returns
  have hts := atoms_spec (ws := wsX4_differByNeighbours) B.pre
  have hown : s.vm.findClass RX4 = some m.cls := findClass_of_methodNamed B.named
  have hlocks := B.notSynchronized
  subst hsz
  have hD := hD0.self (sz := s.heap.size)
  generalize hAe : va_A [] s.heap.size = A at hD ⊢
  have hA : ∀ q : Nat, s.heap.size ≤ q → A q := fun q h => by rw [← hAe]; exact Or.inr h
  have hS : va_S A s.heap s.heap [] := va_S.rf
  have hl := lv_entry ([.int x0, .int x1]) (n := 7) (Nat.le_of_ble_eq_true rfl)
  rw [show entryFrame m args 7 = entryFrame m ([.int x0, .int x1] : List Value).toArray 7 by rw [hargs], lg_entry_eq]
  generalize (lg_sl ([.int x0, .int x1]) ++ List.replicate (7 - (lg_sl ([.int x0, .int x1])).length) Slot.unset).toArray = ls at hl ⊢
  have hl : lv_has ls 7 [(0, .int x0), (1, .int x1)] := hl
  have hP : va_P (dC, dI) vwCl [] s.heap := hP
  change W p l e rm_X4_differByNeighbours s m args below meth c s.heap [] 0 0 _ _
  generalize hQQ : MQ below _ _ _ _ _ _ = QQ
  have RET : ∀ (r : Int32) (H : Heap) (locs : List Loc) (ls : Array Slot) (pc : Nat), decode cX4_differByNeighbours pc = .ok (.ireturn, 1) → narrow .boolean (.int r) = .int r → Q r → va_P (dC, dI) vwCl [] H → va_D A [] → va_S A s.heap H locs → W p l e rm_X4_differByNeighbours s m args below meth c H locs 0 0 QQ (F0 m pc ls [.int r]) := by
    intro r  H locs ls pc hdg hz hq hP hD hS
    rw [← hQQ]
    exact W.zret (v := r) hx hb hr hz (fun t ht hW => ⟨⟨r, (), rfl, hq, by rw [ht]; exact hP, va_K.moved hW.alike hK, hD⟩, hS.F ht⟩) hS.2.2 hdg
  clear hQQ
  unfold p_X4_differByNeighbours at h
  have L7 : ∀ (x0 : Int32) (x1 : Int32) (K7 : Int32 → Int32 → Int32 → Prop) (n : Nat) (x2 : Int32) (x3 : Int32) (x4 : Int32) (H : Heap) (locs : List Loc) (ls : Array Slot), wl3 (p_X4_differByNeighbours_B7 x0 x1 Q K7) n x2 x3 x4 → va_P (dC, dI) vwCl [] H → va_D A [] → va_S A s.heap H locs → lv_has ls 7 [(0, .int x0), (1, .int x1), (2, .int x2), (3, .int x3), (4, .int x4)] → (∀ (x2 : Int32) (x3 : Int32) (x4 : Int32) (H : Heap) (locs : List Loc) (ls : Array Slot), K7 x2 x3 x4 → va_P (dC, dI) vwCl [] H → va_D A [] → va_S A s.heap H locs → lv_has ls 7 [] → W p l e rm_X4_differByNeighbours s m args below meth c H locs 0 0 QQ (F0 m 67 ls [])) → W p l e rm_X4_differByNeighbours s m args below meth c H locs 0 0 QQ (F0 m 7 ls []) := by
    intro x0 x1 K7 n
    induction n with
    | zero => intro x2 x3 x4 H locs ls h; exact False.elim h
    | succ n ih =>
      intro x2 x3 x4 H locs ls h hP hD hS hl hk
      have ih := fun x2 x3 x4 H locs ls h hP hD hS hl => ih x2 x3 x4 H locs ls h hP hD hS hl hk
      replace h : p_X4_differByNeighbours_B7 x0 x1 Q K7 (wl3 (p_X4_differByNeighbours_B7 x0 x1 Q K7) n) x2 x3 x4 := h
      unfold p_X4_differByNeighbours_B7 at h
      have J56 : ∀ (x2 : Int32) (x3 : Int32) (x4 : Int32) (H : Heap) (locs : List Loc) (ls : Array Slot), p_X4_differByNeighbours_J56 (wl3 (p_X4_differByNeighbours_B7 x0 x1 Q K7) n) x2 x3 x4 → va_P (dC, dI) vwCl [] H → va_D A [] → va_S A s.heap H locs → lv_has ls 7 [(0, .int x0), (1, .int x1), (2, .int x2), (3, .int x3), (4, .int x4)] → W p l e rm_X4_differByNeighbours s m args below meth c H locs 0 0 QQ (F0 m 56 ls []) := by
        intro x2 x3 x4 H locs ls h hP hD hS hl
        unfold p_X4_differByNeighbours_J56 at h
        refine lv_iload_n hx hb dX4_differByNeighbours_56 rfl (lv_at hl 3 rfl) ?_
        refine lv_bipush (v := 10) hx hb dX4_differByNeighbours_57 (by decide) ?_
        refine lv_imul hx hb dX4_differByNeighbours_59 ?_
        refine lv_istore_n (lv' := [(3, .int (x3 * 10)), (0, .int x0), (1, .int x1), (2, .int x2), (4, .int x4)]) hx hb dX4_differByNeighbours_60 rfl hl (by decide) rfl (fun ls hl => ?_)
        refine lv_iinc (v := x4 + 1) (lv' := [(4, .int (x4 + 1)), (3, .int (x3 * 10)), (0, .int x0), (1, .int x1), (2, .int x2)]) hx hb dX4_differByNeighbours_61 hl (k := 4) rfl (by rfl) (by decide) rfl (fun ls hl => ?_)
        refine lv_goto (tgt := 7) hx hb dX4_differByNeighbours_64 (by decide) ?_
        exact ih x2 (x3 * 10) (x4 + 1) H locs ls h hP hD hS (lv_sub hl [2, 3, 4, 1, 0] rfl)
      refine lv_iload hx hb dX4_differByNeighbours_7 (lv_at hl 4 rfl) ?_
      refine lv_bipush (v := 6) hx hb dX4_differByNeighbours_9 (by decide) ?_
      refine lv_icmp_ge (tgt := 67) hx hb dX4_differByNeighbours_11 (by decide) (fun c11 => ?_) (fun c11 => ?_)
      · replace h := And.left h c11
        exact hk x2 x3 x4 H locs ls h hP hD hS (lv_sub hl [] rfl)
      · replace h := And.right h c11
        refine lv_iload_n hx hb dX4_differByNeighbours_14 rfl (lv_at hl 2 rfl) ?_
        refine lv_bipush (v := 10) hx hb dX4_differByNeighbours_15 (by decide) ?_
        refine my_irem hx hb dX4_differByNeighbours_17 (by decide) ?_
        refine lv_istore (lv' := [(5, .int (jrem x2 10)), (0, .int x0), (1, .int x1), (2, .int x2), (3, .int x3), (4, .int x4)]) hx hb dX4_differByNeighbours_18 hl (by decide) rfl (fun ls hl => ?_)
        refine lv_iload_n hx hb dX4_differByNeighbours_20 rfl (lv_at hl 3 rfl) ?_
        refine lv_bipush (v := 10) hx hb dX4_differByNeighbours_21 (by decide) ?_
        refine lv_idiv hx hb dX4_differByNeighbours_23 (by decide) ?_
        refine lv_istore_n (lv' := [(2, .int (x2 / 10)), (5, .int (jrem x2 10)), (0, .int x0), (1, .int x1), (3, .int x3), (4, .int x4)]) hx hb dX4_differByNeighbours_24 rfl hl (by decide) rfl (fun ls hl => ?_)
        refine lv_iload_n hx hb dX4_differByNeighbours_25 rfl (lv_at hl 0 rfl) ?_
        refine lv_bipush (v := 10) hx hb dX4_differByNeighbours_26 (by decide) ?_
        refine my_irem hx hb dX4_differByNeighbours_28 (by decide) ?_
        refine lv_istore (lv' := [(6, .int (jrem (x2 / 10) 10)), (2, .int (x2 / 10)), (5, .int (jrem x2 10)), (0, .int x0), (1, .int x1), (3, .int x3), (4, .int x4)]) hx hb dX4_differByNeighbours_29 hl (by decide) rfl (fun ls hl => ?_)
        refine lv_iload hx hb dX4_differByNeighbours_31 (lv_at hl 2 rfl) ?_
        refine lv_iload hx hb dX4_differByNeighbours_33 (lv_at hl 0 rfl) ?_
        refine lv_icmp_eq (tgt := 56) hx hb dX4_differByNeighbours_35 (by decide) (fun c35 => ?_) (fun c35 => ?_)
        · replace h := And.left h c35
          exact J56 (x2 / 10) x3 x4 H locs ls h hP hD hS (lv_sub hl [3, 4, 1, 5, 6] rfl)
        · replace h := And.right h c35
          refine lv_iload_n hx hb dX4_differByNeighbours_38 rfl (lv_at hl 4 rfl) ?_
          refine lv_iload_n hx hb dX4_differByNeighbours_39 rfl (lv_at hl 3 rfl) ?_
          refine lv_isub hx hb dX4_differByNeighbours_40 ?_
          refine lv_iload hx hb dX4_differByNeighbours_41 (lv_at hl 2 rfl) ?_
          refine lv_iload hx hb dX4_differByNeighbours_43 (lv_at hl 0 rfl) ?_
          refine lv_isub hx hb dX4_differByNeighbours_45 ?_
          refine lv_bipush (v := 9) hx hb dX4_differByNeighbours_46 (by decide) ?_
          refine lv_imul hx hb dX4_differByNeighbours_48 ?_
          refine lv_iload_n hx hb dX4_differByNeighbours_49 rfl (lv_at hl 5 rfl) ?_
          refine lv_imul hx hb dX4_differByNeighbours_50 ?_
          refine lv_icmp_ne (tgt := 56) hx hb dX4_differByNeighbours_51 (by decide) (fun c51 => ?_) (fun c51 => ?_)
          · replace h := And.left h c51
            exact J56 (x2 / 10) x3 x4 H locs ls h hP hD hS (lv_sub hl [3, 4, 1, 5, 6] rfl)
          · replace h := And.right h c51
            refine lv_iconst (v := 1) hx hb dX4_differByNeighbours_54 (by decide) ?_
            obtain ⟨zr55, h⟩ := h
            exact RET 1 H locs ls 55 dX4_differByNeighbours_55 zr55 h hP hD hS
  generalize hlo : ([] : List Loc) = locs at hS ⊢
  obtain ⟨H, hH⟩ : ∃ z, z = s.heap := ⟨_, rfl⟩
  rw [show W p l e rm_X4_differByNeighbours s m args below meth c s.heap = W p l e rm_X4_differByNeighbours s m args below meth c H by rw [hH]]
  replace hP : va_P (dC, dI) vwCl [] H := by rw [hH]; exact hP
  replace hS : va_S A s.heap H locs := by rw [hH]; exact hS
  clear hH hlo
  refine lv_iload_n hx hb dX4_differByNeighbours_0 rfl (lv_at hl 0 rfl) ?_
  refine lv_istore_n (lv' := [(2, .int x0), (0, .int x0), (1, .int x1)]) hx hb dX4_differByNeighbours_1 rfl hl (by decide) rfl (fun ls hl => ?_)
  refine lv_iconst (v := 1) hx hb dX4_differByNeighbours_2 (by decide) ?_
  refine lv_istore_n (lv' := [(3, .int 1), (2, .int x0), (0, .int x0), (1, .int x1)]) hx hb dX4_differByNeighbours_3 rfl hl (by decide) rfl (fun ls hl => ?_)
  refine lv_iconst (v := 0) hx hb dX4_differByNeighbours_4 (by decide) ?_
  refine lv_istore (lv' := [(4, .int 0), (3, .int 1), (2, .int x0), (0, .int x0), (1, .int x1)]) hx hb dX4_differByNeighbours_5 hl (by decide) rfl (fun ls hl => ?_)
  obtain ⟨n7, h⟩ := h
  refine L7 x0 x1 _ n7 x0 1 0 H locs ls h hP hD hS (lv_sub hl [3, 4, 2, 1, 0] rfl) (fun x2_67 x3_67 x4_67 H locs ls h hP hD hS hl => ?_)
  refine lv_iconst (v := 0) hx hb dX4_differByNeighbours_67 (by decide) ?_
  obtain ⟨zr68, h⟩ := h
  exact RET 0 H locs ls 68 dX4_differByNeighbours_68 zr68 h hP hD hS
abbrev rm_X4_explainBy : Room := { frames := 1, cells := 0, slots := 0, locals := 26 }
theorem q_X4_explainBy : yX4_explainBy.cls = RX4 ∧ yX4_explainBy.cls ≠ "java/lang/invoke/MethodHandle" ∧ yX4_explainBy.cls ≠ "java/lang/invoke/VarHandle" ∧ (parseMethodDescriptor yX4_explainBy.desc).map (fun d => d.parameters.length) = some 3 := by decide +kernel
set_option maxHeartbeats 4000000 in
set_option maxRecDepth 100000 in
theorem c_X4_explainBy (l : Launch) (dC : Nat → ClassId) (dI : Nat → Nat → Nat) (cy : ClassId) (h_this : Nat) (h_amounts : Nat) (h_kinds : Nat) (h_papers : Nat) (sz : Nat) (f_size : Int32) (a_amounts : Nat → Int32) (a_kinds : Nat → Int32) (a_papers : Nat → Int32) (x1 : Int32) (x2 : Int32) (x3 : Int64) (Q : Int32 → (Nat → Int32) → (Nat → Int32) → (Nat → Int32) → Prop) (h : p_X4_explainBy f_size a_amounts a_kinds a_papers x1 x2 x3 Q) : Met l yX4_explainBy wsX4_explainBy rm_X4_explainBy (va_Pc [.ref h_this, .int x1, .int x2, .long x3] (fun U => U.heap.size = sz ∧ va_P (dC, dI) vwCl [(h_this, .inr (4, [.int f_size, .ref h_kinds, .ref h_papers, .ref h_amounts])), (h_amounts, .inl (cy, 301, .inl a_amounts)), (h_kinds, .inl (cy, 301, .inl a_kinds)), (h_papers, .inl (cy, 301, .inl a_papers))] U.heap ∧ va_K (dC, dI) vwCl [(cy, .int)] U ∧ va_D (fun _ => True) [(h_this, .inr (4, [.int f_size, .ref h_kinds, .ref h_papers, .ref h_amounts])), (h_amounts, .inl (cy, 301, .inl a_amounts)), (h_kinds, .inl (cy, 301, .inl a_kinds)), (h_papers, .inl (cy, 301, .inl a_papers))])) (va_Qv (fun (u : Int32 × (Nat → Int32) × (Nat → Int32) × (Nat → Int32)) => Q u.1 u.2.1 u.2.2.1 u.2.2.2) (fun (u : Int32 × (Nat → Int32) × (Nat → Int32) × (Nat → Int32)) (t : State) => va_P (dC, dI) vwCl [(h_this, .inr (4, [.int (u.1), .ref h_kinds, .ref h_papers, .ref h_amounts])), (h_amounts, .inl (cy, 301, .inl (u.2.1))), (h_kinds, .inl (cy, 301, .inl (u.2.2.1))), (h_papers, .inl (cy, 301, .inl (u.2.2.2)))] t.heap ∧ va_K (dC, dI) vwCl [(cy, .int)] t ∧ va_D (va_A [(h_this, .inr (4, [.int f_size, .ref h_kinds, .ref h_papers, .ref h_amounts])), (h_amounts, .inl (cy, 301, .inl a_amounts)), (h_kinds, .inl (cy, 301, .inl a_kinds)), (h_papers, .inl (cy, 301, .inl a_papers))] sz) [(h_this, .inr (4, [.int (u.1), .ref h_kinds, .ref h_papers, .ref h_amounts])), (h_amounts, .inl (cy, 301, .inl (u.2.1))), (h_kinds, .inl (cy, 301, .inl (u.2.2.1))), (h_papers, .inl (cy, 301, .inl (u.2.2.2)))]) (va_A [(h_this, .inr (4, [.int f_size, .ref h_kinds, .ref h_papers, .ref h_amounts])), (h_amounts, .inl (cy, 301, .inl a_amounts)), (h_kinds, .inl (cy, 301, .inl a_kinds)), (h_papers, .inl (cy, 301, .inl a_papers))] sz)) 0 0 (va_A [(h_this, .inr (4, [.int f_size, .ref h_kinds, .ref h_papers, .ref h_amounts])), (h_amounts, .inl (cy, 301, .inl a_amounts)), (h_kinds, .inl (cy, 301, .inl a_kinds)), (h_papers, .inl (cy, 301, .inl a_papers))] sz) := by
  refine Met.ofW (cc := cX4_explainBy) (maxL := 7) (ret := none) (by decide) rfl ?_
  intro p e s m args below meth c s₁ B hml hv
  obtain ⟨hargs, hsz, hP, hK, hD0⟩ := hv
  have hx := B.exec
  have hb := B.bytes
  have hr := B.returns
  have hts := atoms_spec (ws := wsX4_explainBy) B.pre
  have hown : s.vm.findClass RX4 = some m.cls := findClass_of_methodNamed B.named
  have hlocks := B.notSynchronized
  subst hsz
  have hD := hD0.self (sz := s.heap.size)
  generalize hAe : va_A [(h_this, .inr (4, [.int f_size, .ref h_kinds, .ref h_papers, .ref h_amounts])), (h_amounts, .inl (cy, 301, .inl a_amounts)), (h_kinds, .inl (cy, 301, .inl a_kinds)), (h_papers, .inl (cy, 301, .inl a_papers))] s.heap.size = A at hD ⊢
  have hA : ∀ q : Nat, s.heap.size ≤ q → A q := fun q h => by rw [← hAe]; exact Or.inr h
  have hS : va_S A s.heap s.heap [] := va_S.rf
  have k_41 := hts (.constantLong RX4 41 9999999) (by decide +kernel)
  have hl := lv_entry ([.ref h_this, .int x1, .int x2, .long x3]) (n := 7) (Nat.le_of_ble_eq_true rfl)
  rw [show entryFrame m args 7 = entryFrame m ([.ref h_this, .int x1, .int x2, .long x3] : List Value).toArray 7 by rw [hargs], lg_entry_eq]
  generalize (lg_sl ([.ref h_this, .int x1, .int x2, .long x3]) ++ List.replicate (7 - (lg_sl ([.ref h_this, .int x1, .int x2, .long x3])).length) Slot.unset).toArray = ls at hl ⊢
  have hl : lv_has ls 7 [(0, .ref h_this), (1, .int x1), (2, .int x2), (3, .long x3)] := hl
  have hP : va_P (dC, dI) vwCl [(h_this, .inr (4, [.int f_size, .ref h_kinds, .ref h_papers, .ref h_amounts])), (h_amounts, .inl (cy, 301, .inl a_amounts)), (h_kinds, .inl (cy, 301, .inl a_kinds)), (h_papers, .inl (cy, 301, .inl a_papers))] s.heap := hP
  change W p l e rm_X4_explainBy s m args below meth c s.heap [] 0 0 _ _
  generalize hQQ : MQ below _ _ _ _ _ _ = QQ
  have RET : ∀ (f_size : Int32) (a_amounts : Nat → Int32) (a_kinds : Nat → Int32) (a_papers : Nat → Int32) (H : Heap) (locs : List Loc) (ls : Array Slot) (pc : Nat), decode cX4_explainBy pc = .ok (.return_, 1) → Q f_size a_amounts a_kinds a_papers → va_P (dC, dI) vwCl [(h_this, .inr (4, [.int f_size, .ref h_kinds, .ref h_papers, .ref h_amounts])), (h_amounts, .inl (cy, 301, .inl a_amounts)), (h_kinds, .inl (cy, 301, .inl a_kinds)), (h_papers, .inl (cy, 301, .inl a_papers))] H → va_D A [(h_this, .inr (4, [.int f_size, .ref h_kinds, .ref h_papers, .ref h_amounts])), (h_amounts, .inl (cy, 301, .inl a_amounts)), (h_kinds, .inl (cy, 301, .inl a_kinds)), (h_papers, .inl (cy, 301, .inl a_papers))] → va_S A s.heap H locs → W p l e rm_X4_explainBy s m args below meth c H locs 0 0 QQ (F0 m pc ls []) := by
    intro f_size a_amounts a_kinds a_papers H locs ls pc hdg hq hP hD hS
    rw [← hQQ]
    exact W.vret hx hb hr (fun t ht hW => ⟨⟨(f_size, a_amounts, a_kinds, a_papers), rfl, hq, by rw [ht]; exact hP, va_K.moved hW.alike hK, hD⟩, hS.F ht⟩) hS.2.2 hdg
  clear hQQ
  unfold p_X4_explainBy at h
  have J74 : ∀ (f_size : Int32) (a_amounts : Nat → Int32) (a_kinds : Nat → Int32) (a_papers : Nat → Int32) (H : Heap) (locs : List Loc) (ls : Array Slot), p_X4_explainBy_J74 f_size a_amounts a_kinds a_papers Q → va_P (dC, dI) vwCl [(h_this, .inr (4, [.int f_size, .ref h_kinds, .ref h_papers, .ref h_amounts])), (h_amounts, .inl (cy, 301, .inl a_amounts)), (h_kinds, .inl (cy, 301, .inl a_kinds)), (h_papers, .inl (cy, 301, .inl a_papers))] H → va_D A [(h_this, .inr (4, [.int f_size, .ref h_kinds, .ref h_papers, .ref h_amounts])), (h_amounts, .inl (cy, 301, .inl a_amounts)), (h_kinds, .inl (cy, 301, .inl a_kinds)), (h_papers, .inl (cy, 301, .inl a_papers))] → va_S A s.heap H locs → lv_has ls 7 [] → W p l e rm_X4_explainBy s m args below meth c H locs 0 0 QQ (F0 m 74 ls []) := by
    intro f_size a_amounts a_kinds a_papers H locs ls h hP hD hS hl
    unfold p_X4_explainBy_J74 at h
    exact RET f_size a_amounts a_kinds a_papers H locs ls 74 dX4_explainBy_74 h hP hD hS
  have J60 : ∀ (x1 : Int32) (x2 : Int32) (x3 : Int64) (f_size : Int32) (a_amounts : Nat → Int32) (a_kinds : Nat → Int32) (a_papers : Nat → Int32) (H : Heap) (locs : List Loc) (ls : Array Slot), p_X4_explainBy_J60 f_size a_amounts a_kinds a_papers Q x1 x2 x3 → va_P (dC, dI) vwCl [(h_this, .inr (4, [.int f_size, .ref h_kinds, .ref h_papers, .ref h_amounts])), (h_amounts, .inl (cy, 301, .inl a_amounts)), (h_kinds, .inl (cy, 301, .inl a_kinds)), (h_papers, .inl (cy, 301, .inl a_papers))] H → va_D A [(h_this, .inr (4, [.int f_size, .ref h_kinds, .ref h_papers, .ref h_amounts])), (h_amounts, .inl (cy, 301, .inl a_amounts)), (h_kinds, .inl (cy, 301, .inl a_kinds)), (h_papers, .inl (cy, 301, .inl a_papers))] → va_S A s.heap H locs → lv_has ls 7 [(0, .ref h_this), (1, .int x1), (2, .int x2), (3, .long x3)] → W p l e rm_X4_explainBy s m args below meth c H locs 0 0 QQ (F0 m 60 ls []) := by
    intro x1 x2 x3 f_size a_amounts a_kinds a_papers H locs ls h hP hD hS hl
    unfold p_X4_explainBy_J60 at h
    refine lv_iload_n hx hb dX4_explainBy_60 rfl (lv_at hl 2 rfl) ?_
    refine lv_i2l hx hb dX4_explainBy_61 rfl ?_
    refine lv_lload_n hx hb dX4_explainBy_62 rfl (lv_at hl 3 rfl) ?_
    refine W.lcmp hx hb dX4_explainBy_63 ?_
    refine lv_if_ne (tgt := 74) hx hb dX4_explainBy_64 (by decide) (fun c64 => ?_) (fun c64 => ?_)
    · replace h := And.left h c64
      exact J74 f_size a_amounts a_kinds a_papers H locs ls h hP hD hS (lv_sub hl [] rfl)
    · replace h := And.right h c64
      refine lv_aload_n hx hb dX4_explainBy_67 rfl (lv_at hl 0 rfl) ?_
      refine lv_iconst (v := 2) hx hb dX4_explainBy_68 (by decide) ?_
      refine lv_iload_n hx hb dX4_explainBy_69 rfl (lv_at hl 1 rfl) ?_
      refine lv_iconst (v := 0) hx hb dX4_explainBy_70 (by decide) ?_
      have hPc := hP.sub (ws' := [(h_this, .inr (4, [.int f_size, .ref h_kinds, .ref h_papers, .ref h_amounts])), (h_amounts, .inl (cy, 301, .inl a_amounts)), (h_kinds, .inl (cy, 301, .inl a_kinds)), (h_papers, .inl (cy, 301, .inl a_papers))]) [0, 1, 2, 3] rfl
      have hDc := hD.sub (ws' := [(h_this, .inr (4, [.int f_size, .ref h_kinds, .ref h_papers, .ref h_amounts])), (h_amounts, .inl (cy, 301, .inl a_amounts)), (h_kinds, .inl (cy, 301, .inl a_kinds)), (h_papers, .inl (cy, 301, .inl a_papers))]) [0, 1, 2, 3] (by decide) rfl
      have hFc := va_free (wc := [(h_this, .inr (4, [.int f_size, .ref h_kinds, .ref h_papers, .ref h_amounts])), (h_amounts, .inl (cy, 301, .inl a_amounts)), (h_kinds, .inl (cy, 301, .inl a_kinds)), (h_papers, .inl (cy, 301, .inl a_papers))]) hD hS hA [0, 1, 2, 3] rfl
      refine va_callv (va_runV (As := [.int 2, .int x1, .int 0]) (rest := []) ⟨hx, hb, hml, hown, hts⟩ (c_X4_note l dC dI cy h_this h_amounts h_kinds h_papers H.size  f_size a_amounts a_kinds a_papers 2 x1 0 _ h) (cwV 3 hts gX4_explainBy_X4_note rfl rfl rfl q_X4_note ⟨Nat.le_of_ble_eq_true rfl, Nat.le_of_ble_eq_true rfl⟩) ⟨fun a U g mk q => by obtain ⟨q0, q1, qP, qK, qD⟩ := q; exact ⟨q0, q1, qP, va_K.moved (u := U) (U := U.calling g mk a) (Vm.Alike.refl U.vm) qK, qD⟩, va_recv hK hP (ci := 4) (q0 := 0) rfl rfl, fun U hU hW => ⟨rfl, by rw [hU], by rw [hU]; exact hPc, va_K.moved hW.alike hK, hDc.weaken (fun _ _ _ _ => trivial)⟩⟩ rfl rfl hl.1 rfl (lv_room (Nat.le_of_ble_eq_true rfl)) dX4_explainBy_71 ⟨Nat.le_of_ble_eq_true rfl, Nat.le_of_ble_eq_true rfl⟩) hS (fun q _ h => hFc q h) hFc (fun u t H1 locs ht hvm hw hB hz1 hk1 hS => ?_)
      obtain ⟨f_size_71, a_amounts_71, a_kinds_71, a_papers_71⟩ := u
      obtain ⟨hP1, hK1, hD1⟩ := hB
      rw [ht] at hP1
      obtain ⟨hP, hD⟩ := va_join (wr := []) (w1 := [(h_this, .inr (4, [.int f_size_71, .ref h_kinds, .ref h_papers, .ref h_amounts])), (h_amounts, .inl (cy, 301, .inl a_amounts_71)), (h_kinds, .inl (cy, 301, .inl a_kinds_71)), (h_papers, .inl (cy, 301, .inl a_papers_71))]) hP hD [0, 1, 2, 3] [] rfl rfl (by decide) (by decide) hk1 hFc hP1 hD1
      replace hP := hP.sub (ws' := [(h_this, .inr (4, [.int f_size_71, .ref h_kinds, .ref h_papers, .ref h_amounts])), (h_amounts, .inl (cy, 301, .inl a_amounts_71)), (h_kinds, .inl (cy, 301, .inl a_kinds_71)), (h_papers, .inl (cy, 301, .inl a_papers_71))]) [0, 1, 2, 3] rfl
      replace hD := hD.sub (ws' := [(h_this, .inr (4, [.int f_size_71, .ref h_kinds, .ref h_papers, .ref h_amounts])), (h_amounts, .inl (cy, 301, .inl a_amounts_71)), (h_kinds, .inl (cy, 301, .inl a_kinds_71)), (h_papers, .inl (cy, 301, .inl a_papers_71))]) [0, 1, 2, 3] (by decide) rfl
      clear hPc hDc hFc hP1 hK1 hD1 hz1 hk1 hvm
      subst ht
      generalize t.heap = H at hP hS ⊢
      replace h := hw
      clear hw
      exact J74 f_size_71 a_amounts_71 a_kinds_71 a_papers_71 H locs ls h hP hD hS (lv_sub hl [] rfl)
  have J41 : ∀ (x1 : Int32) (x2 : Int32) (x3 : Int64) (x5 : Int64) (f_size : Int32) (a_amounts : Nat → Int32) (a_kinds : Nat → Int32) (a_papers : Nat → Int32) (H : Heap) (locs : List Loc) (ls : Array Slot), p_X4_explainBy_J41 f_size a_amounts a_kinds a_papers Q x1 x2 x3 x5 → va_P (dC, dI) vwCl [(h_this, .inr (4, [.int f_size, .ref h_kinds, .ref h_papers, .ref h_amounts])), (h_amounts, .inl (cy, 301, .inl a_amounts)), (h_kinds, .inl (cy, 301, .inl a_kinds)), (h_papers, .inl (cy, 301, .inl a_papers))] H → va_D A [(h_this, .inr (4, [.int f_size, .ref h_kinds, .ref h_papers, .ref h_amounts])), (h_amounts, .inl (cy, 301, .inl a_amounts)), (h_kinds, .inl (cy, 301, .inl a_kinds)), (h_papers, .inl (cy, 301, .inl a_papers))] → va_S A s.heap H locs → lv_has ls 7 [(0, .ref h_this), (1, .int x1), (2, .int x2), (3, .long x3), (5, .long x5)] → W p l e rm_X4_explainBy s m args below meth c H locs 0 0 QQ (F0 m 41 ls []) := by
    intro x1 x2 x3 x5 f_size a_amounts a_kinds a_papers H locs ls h hP hD hS hl
    unfold p_X4_explainBy_J41 at h
    refine lv_iload_n hx hb dX4_explainBy_41 rfl (lv_at hl 2 rfl) ?_
    refine lv_lload hx hb dX4_explainBy_42 (lv_at hl 4 rfl) ?_
    refine lv_l2i hx hb dX4_explainBy_44 rfl ?_
    have hPc := hP.sub (ws' := []) [] rfl
    have hDc := hD.sub (ws' := []) [] (by decide) rfl
    have hFc := va_free (wc := []) hD hS hA [] rfl
    refine va_calli (va_runS (As := [.int x2, .int (Int64.toInt32 x5)]) (rest := []) ⟨hx, hb, hml, hown, hts⟩ (c_X4_differByNeighbours l dC dI cy  H.size   x2 (Int64.toInt32 x5) _ h) (va_cwS 2 hts gX4_explainBy_X4_differByNeighbours rfl rfl rfl q_X4_differByNeighbours ⟨Nat.le_of_ble_eq_true rfl, Nat.le_of_ble_eq_true rfl⟩) ⟨fun a U g mk q => by obtain ⟨q0, q1, qP, qK, qD⟩ := q; exact ⟨q0, q1, qP, va_K.moved (u := U) (U := U.calling g mk a) (Vm.Alike.refl U.vm) qK, qD⟩, fun U hU hW => ⟨rfl, by rw [hU], by rw [hU]; exact hPc, va_K.moved hW.alike hK, hDc.weaken (fun _ _ _ _ => trivial)⟩⟩ rfl rfl hl.1 rfl (lv_room (Nat.le_of_ble_eq_true rfl)) dX4_explainBy_45 ⟨Nat.le_of_ble_eq_true rfl, Nat.le_of_ble_eq_true rfl⟩) hS (fun q _ h => hFc q h) hFc (fun r45 u t H1 locs ht hvm hw hB hz1 hk1 hS => ?_)
    obtain ⟨hP1, hK1, hD1⟩ := hB
    rw [ht] at hP1
    obtain ⟨hP, hD⟩ := va_join (wr := [(h_this, .inr (4, [.int f_size, .ref h_kinds, .ref h_papers, .ref h_amounts])), (h_amounts, .inl (cy, 301, .inl a_amounts)), (h_kinds, .inl (cy, 301, .inl a_kinds)), (h_papers, .inl (cy, 301, .inl a_papers))]) (w1 := []) hP hD [] [0, 1, 2, 3] rfl rfl (by decide) (by decide) hk1 hFc hP1 hD1
    replace hP := hP.sub (ws' := [(h_this, .inr (4, [.int f_size, .ref h_kinds, .ref h_papers, .ref h_amounts])), (h_amounts, .inl (cy, 301, .inl a_amounts)), (h_kinds, .inl (cy, 301, .inl a_kinds)), (h_papers, .inl (cy, 301, .inl a_papers))]) [0, 1, 2, 3] rfl
    replace hD := hD.sub (ws' := [(h_this, .inr (4, [.int f_size, .ref h_kinds, .ref h_papers, .ref h_amounts])), (h_amounts, .inl (cy, 301, .inl a_amounts)), (h_kinds, .inl (cy, 301, .inl a_kinds)), (h_papers, .inl (cy, 301, .inl a_papers))]) [0, 1, 2, 3] (by decide) rfl
    clear hPc hDc hFc hP1 hK1 hD1 hz1 hk1 hvm
    subst ht
    generalize t.heap = H at hP hS ⊢
    replace h := hw
    clear hw
    refine lv_if_eq (tgt := 60) hx hb dX4_explainBy_48 (by decide) (fun c48 => ?_) (fun c48 => ?_)
    · replace h := And.left h c48
      exact J60 x1 x2 x3 f_size a_amounts a_kinds a_papers H locs ls h hP hD hS (lv_sub hl [0, 1, 2, 3] rfl)
    · replace h := And.right h c48
      refine lv_aload_n hx hb dX4_explainBy_51 rfl (lv_at hl 0 rfl) ?_
      refine lv_iconst (v := 1) hx hb dX4_explainBy_52 (by decide) ?_
      refine lv_iload_n hx hb dX4_explainBy_53 rfl (lv_at hl 1 rfl) ?_
      refine lv_lload hx hb dX4_explainBy_54 (lv_at hl 4 rfl) ?_
      refine lv_l2i hx hb dX4_explainBy_56 rfl ?_
      have hPc := hP.sub (ws' := [(h_this, .inr (4, [.int f_size, .ref h_kinds, .ref h_papers, .ref h_amounts])), (h_amounts, .inl (cy, 301, .inl a_amounts)), (h_kinds, .inl (cy, 301, .inl a_kinds)), (h_papers, .inl (cy, 301, .inl a_papers))]) [0, 1, 2, 3] rfl
      have hDc := hD.sub (ws' := [(h_this, .inr (4, [.int f_size, .ref h_kinds, .ref h_papers, .ref h_amounts])), (h_amounts, .inl (cy, 301, .inl a_amounts)), (h_kinds, .inl (cy, 301, .inl a_kinds)), (h_papers, .inl (cy, 301, .inl a_papers))]) [0, 1, 2, 3] (by decide) rfl
      have hFc := va_free (wc := [(h_this, .inr (4, [.int f_size, .ref h_kinds, .ref h_papers, .ref h_amounts])), (h_amounts, .inl (cy, 301, .inl a_amounts)), (h_kinds, .inl (cy, 301, .inl a_kinds)), (h_papers, .inl (cy, 301, .inl a_papers))]) hD hS hA [0, 1, 2, 3] rfl
      refine va_callv (va_runV (As := [.int 1, .int x1, .int (Int64.toInt32 x5)]) (rest := []) ⟨hx, hb, hml, hown, hts⟩ (c_X4_note l dC dI cy h_this h_amounts h_kinds h_papers H.size  f_size a_amounts a_kinds a_papers 1 x1 (Int64.toInt32 x5) _ h) (cwV 3 hts gX4_explainBy_X4_note rfl rfl rfl q_X4_note ⟨Nat.le_of_ble_eq_true rfl, Nat.le_of_ble_eq_true rfl⟩) ⟨fun a U g mk q => by obtain ⟨q0, q1, qP, qK, qD⟩ := q; exact ⟨q0, q1, qP, va_K.moved (u := U) (U := U.calling g mk a) (Vm.Alike.refl U.vm) qK, qD⟩, va_recv hK hP (ci := 4) (q0 := 0) rfl rfl, fun U hU hW => ⟨rfl, by rw [hU], by rw [hU]; exact hPc, va_K.moved hW.alike hK, hDc.weaken (fun _ _ _ _ => trivial)⟩⟩ rfl rfl hl.1 rfl (lv_room (Nat.le_of_ble_eq_true rfl)) dX4_explainBy_57 ⟨Nat.le_of_ble_eq_true rfl, Nat.le_of_ble_eq_true rfl⟩) hS (fun q _ h => hFc q h) hFc (fun u t H1 locs ht hvm hw hB hz1 hk1 hS => ?_)
      obtain ⟨f_size_57, a_amounts_57, a_kinds_57, a_papers_57⟩ := u
      obtain ⟨hP1, hK1, hD1⟩ := hB
      rw [ht] at hP1
      obtain ⟨hP, hD⟩ := va_join (wr := []) (w1 := [(h_this, .inr (4, [.int f_size_57, .ref h_kinds, .ref h_papers, .ref h_amounts])), (h_amounts, .inl (cy, 301, .inl a_amounts_57)), (h_kinds, .inl (cy, 301, .inl a_kinds_57)), (h_papers, .inl (cy, 301, .inl a_papers_57))]) hP hD [0, 1, 2, 3] [] rfl rfl (by decide) (by decide) hk1 hFc hP1 hD1
      replace hP := hP.sub (ws' := [(h_this, .inr (4, [.int f_size_57, .ref h_kinds, .ref h_papers, .ref h_amounts])), (h_amounts, .inl (cy, 301, .inl a_amounts_57)), (h_kinds, .inl (cy, 301, .inl a_kinds_57)), (h_papers, .inl (cy, 301, .inl a_papers_57))]) [0, 1, 2, 3] rfl
      replace hD := hD.sub (ws' := [(h_this, .inr (4, [.int f_size_57, .ref h_kinds, .ref h_papers, .ref h_amounts])), (h_amounts, .inl (cy, 301, .inl a_amounts_57)), (h_kinds, .inl (cy, 301, .inl a_kinds_57)), (h_papers, .inl (cy, 301, .inl a_papers_57))]) [0, 1, 2, 3] (by decide) rfl
      clear hPc hDc hFc hP1 hK1 hD1 hz1 hk1 hvm
      subst ht
      generalize t.heap = H at hP hS ⊢
      replace h := hw
      clear hw
      exact J60 x1 x2 x3 f_size_57 a_amounts_57 a_kinds_57 a_papers_57 H locs ls h hP hD hS (lv_sub hl [0, 1, 2, 3] rfl)
  generalize hlo : ([] : List Loc) = locs at hS ⊢
  obtain ⟨H, hH⟩ : ∃ z, z = s.heap := ⟨_, rfl⟩
  rw [show W p l e rm_X4_explainBy s m args below meth c s.heap = W p l e rm_X4_explainBy s m args below meth c H by rw [hH]]
  replace hP : va_P (dC, dI) vwCl [(h_this, .inr (4, [.int f_size, .ref h_kinds, .ref h_papers, .ref h_amounts])), (h_amounts, .inl (cy, 301, .inl a_amounts)), (h_kinds, .inl (cy, 301, .inl a_kinds)), (h_papers, .inl (cy, 301, .inl a_papers))] H := by rw [hH]; exact hP
  replace hS : va_S A s.heap H locs := by rw [hH]; exact hS
  clear hH hlo
  refine lv_iload_n hx hb dX4_explainBy_0 rfl (lv_at hl 2 rfl) ?_
  refine lv_i2l hx hb dX4_explainBy_1 rfl ?_
  refine lv_lload_n hx hb dX4_explainBy_2 rfl (lv_at hl 3 rfl) ?_
  refine lv_lsub hx hb dX4_explainBy_3 ?_
  refine lv_lstore (lv' := [(5, .long ((Int32.toInt64 x2) - x3)), (0, .ref h_this), (1, .int x1), (2, .int x2), (3, .long x3)]) hx hb dX4_explainBy_4 hl (by decide) rfl (fun ls hl => ?_)
  refine lv_lload hx hb dX4_explainBy_6 (lv_at hl 0 rfl) ?_
  refine lv_lconst (v := 0) hx hb dX4_explainBy_8 (by decide) ?_
  refine W.lcmp hx hb dX4_explainBy_9 ?_
  refine lv_if_lt (tgt := 60) hx hb dX4_explainBy_10 (by decide) (fun c10 => ?_) (fun c10 => ?_)
  · replace h := And.left h c10
    exact J60 x1 x2 x3 f_size a_amounts a_kinds a_papers H locs ls h hP hD hS (lv_sub hl [1, 2, 3, 4] rfl)
  · replace h := And.right h c10
    refine lv_lload hx hb dX4_explainBy_13 (lv_at hl 0 rfl) ?_
    refine lv_ldc2 (v := 9999999) hx hb hown k_41 dX4_explainBy_15 ?_
    refine W.lcmp hx hb dX4_explainBy_18 ?_
    refine lv_if_gt (tgt := 60) hx hb dX4_explainBy_19 (by decide) (fun c19 => ?_) (fun c19 => ?_)
    · replace h := And.left h c19
      exact J60 x1 x2 x3 f_size a_amounts a_kinds a_papers H locs ls h hP hD hS (lv_sub hl [1, 2, 3, 4] rfl)
    · replace h := And.right h c19
      refine lv_iload_n hx hb dX4_explainBy_22 rfl (lv_at hl 3 rfl) ?_
      refine lv_lload hx hb dX4_explainBy_23 (lv_at hl 0 rfl) ?_
      refine lv_l2i hx hb dX4_explainBy_25 rfl ?_
      have hPc := hP.sub (ws' := []) [] rfl
      have hDc := hD.sub (ws' := []) [] (by decide) rfl
      have hFc := va_free (wc := []) hD hS hA [] rfl
      refine va_calli (va_runS (As := [.int x2, .int (Int64.toInt32 ((Int32.toInt64 x2) - x3))]) (rest := []) ⟨hx, hb, hml, hown, hts⟩ (c_X4_differInOneDigit l dC dI cy  H.size   x2 (Int64.toInt32 ((Int32.toInt64 x2) - x3)) _ h) (va_cwS 2 hts gX4_explainBy_X4_differInOneDigit rfl rfl rfl q_X4_differInOneDigit ⟨Nat.le_of_ble_eq_true rfl, Nat.le_of_ble_eq_true rfl⟩) ⟨fun a U g mk q => by obtain ⟨q0, q1, qP, qK, qD⟩ := q; exact ⟨q0, q1, qP, va_K.moved (u := U) (U := U.calling g mk a) (Vm.Alike.refl U.vm) qK, qD⟩, fun U hU hW => ⟨rfl, by rw [hU], by rw [hU]; exact hPc, va_K.moved hW.alike hK, hDc.weaken (fun _ _ _ _ => trivial)⟩⟩ rfl rfl hl.1 rfl (lv_room (Nat.le_of_ble_eq_true rfl)) dX4_explainBy_26 ⟨Nat.le_of_ble_eq_true rfl, Nat.le_of_ble_eq_true rfl⟩) hS (fun q _ h => hFc q h) hFc (fun r26 u t H1 locs ht hvm hw hB hz1 hk1 hS => ?_)
      obtain ⟨hP1, hK1, hD1⟩ := hB
      rw [ht] at hP1
      obtain ⟨hP, hD⟩ := va_join (wr := [(h_this, .inr (4, [.int f_size, .ref h_kinds, .ref h_papers, .ref h_amounts])), (h_amounts, .inl (cy, 301, .inl a_amounts)), (h_kinds, .inl (cy, 301, .inl a_kinds)), (h_papers, .inl (cy, 301, .inl a_papers))]) (w1 := []) hP hD [] [0, 1, 2, 3] rfl rfl (by decide) (by decide) hk1 hFc hP1 hD1
      replace hP := hP.sub (ws' := [(h_this, .inr (4, [.int f_size, .ref h_kinds, .ref h_papers, .ref h_amounts])), (h_amounts, .inl (cy, 301, .inl a_amounts)), (h_kinds, .inl (cy, 301, .inl a_kinds)), (h_papers, .inl (cy, 301, .inl a_papers))]) [0, 1, 2, 3] rfl
      replace hD := hD.sub (ws' := [(h_this, .inr (4, [.int f_size, .ref h_kinds, .ref h_papers, .ref h_amounts])), (h_amounts, .inl (cy, 301, .inl a_amounts)), (h_kinds, .inl (cy, 301, .inl a_kinds)), (h_papers, .inl (cy, 301, .inl a_papers))]) [0, 1, 2, 3] (by decide) rfl
      clear hPc hDc hFc hP1 hK1 hD1 hz1 hk1 hvm
      subst ht
      generalize t.heap = H at hP hS ⊢
      replace h := hw
      clear hw
      refine lv_if_eq (tgt := 41) hx hb dX4_explainBy_29 (by decide) (fun c29 => ?_) (fun c29 => ?_)
      · replace h := And.left h c29
        exact J41 x1 x2 x3 ((Int32.toInt64 x2) - x3) f_size a_amounts a_kinds a_papers H locs ls h hP hD hS (lv_sub hl [1, 2, 3, 4, 0] rfl)
      · replace h := And.right h c29
        refine lv_aload_n hx hb dX4_explainBy_32 rfl (lv_at hl 1 rfl) ?_
        refine lv_iconst (v := 0) hx hb dX4_explainBy_33 (by decide) ?_
        refine lv_iload_n hx hb dX4_explainBy_34 rfl (lv_at hl 2 rfl) ?_
        refine lv_lload hx hb dX4_explainBy_35 (lv_at hl 0 rfl) ?_
        refine lv_l2i hx hb dX4_explainBy_37 rfl ?_
        have hPc := hP.sub (ws' := [(h_this, .inr (4, [.int f_size, .ref h_kinds, .ref h_papers, .ref h_amounts])), (h_amounts, .inl (cy, 301, .inl a_amounts)), (h_kinds, .inl (cy, 301, .inl a_kinds)), (h_papers, .inl (cy, 301, .inl a_papers))]) [0, 1, 2, 3] rfl
        have hDc := hD.sub (ws' := [(h_this, .inr (4, [.int f_size, .ref h_kinds, .ref h_papers, .ref h_amounts])), (h_amounts, .inl (cy, 301, .inl a_amounts)), (h_kinds, .inl (cy, 301, .inl a_kinds)), (h_papers, .inl (cy, 301, .inl a_papers))]) [0, 1, 2, 3] (by decide) rfl
        have hFc := va_free (wc := [(h_this, .inr (4, [.int f_size, .ref h_kinds, .ref h_papers, .ref h_amounts])), (h_amounts, .inl (cy, 301, .inl a_amounts)), (h_kinds, .inl (cy, 301, .inl a_kinds)), (h_papers, .inl (cy, 301, .inl a_papers))]) hD hS hA [0, 1, 2, 3] rfl
        refine va_callv (va_runV (As := [.int 0, .int x1, .int (Int64.toInt32 ((Int32.toInt64 x2) - x3))]) (rest := []) ⟨hx, hb, hml, hown, hts⟩ (c_X4_note l dC dI cy h_this h_amounts h_kinds h_papers H.size  f_size a_amounts a_kinds a_papers 0 x1 (Int64.toInt32 ((Int32.toInt64 x2) - x3)) _ h) (cwV 3 hts gX4_explainBy_X4_note rfl rfl rfl q_X4_note ⟨Nat.le_of_ble_eq_true rfl, Nat.le_of_ble_eq_true rfl⟩) ⟨fun a U g mk q => by obtain ⟨q0, q1, qP, qK, qD⟩ := q; exact ⟨q0, q1, qP, va_K.moved (u := U) (U := U.calling g mk a) (Vm.Alike.refl U.vm) qK, qD⟩, va_recv hK hP (ci := 4) (q0 := 0) rfl rfl, fun U hU hW => ⟨rfl, by rw [hU], by rw [hU]; exact hPc, va_K.moved hW.alike hK, hDc.weaken (fun _ _ _ _ => trivial)⟩⟩ rfl rfl hl.1 rfl (lv_room (Nat.le_of_ble_eq_true rfl)) dX4_explainBy_38 ⟨Nat.le_of_ble_eq_true rfl, Nat.le_of_ble_eq_true rfl⟩) hS (fun q _ h => hFc q h) hFc (fun u t H1 locs ht hvm hw hB hz1 hk1 hS => ?_)
        obtain ⟨f_size_38, a_amounts_38, a_kinds_38, a_papers_38⟩ := u
        obtain ⟨hP1, hK1, hD1⟩ := hB
        rw [ht] at hP1
        obtain ⟨hP, hD⟩ := va_join (wr := []) (w1 := [(h_this, .inr (4, [.int f_size_38, .ref h_kinds, .ref h_papers, .ref h_amounts])), (h_amounts, .inl (cy, 301, .inl a_amounts_38)), (h_kinds, .inl (cy, 301, .inl a_kinds_38)), (h_papers, .inl (cy, 301, .inl a_papers_38))]) hP hD [0, 1, 2, 3] [] rfl rfl (by decide) (by decide) hk1 hFc hP1 hD1
        replace hP := hP.sub (ws' := [(h_this, .inr (4, [.int f_size_38, .ref h_kinds, .ref h_papers, .ref h_amounts])), (h_amounts, .inl (cy, 301, .inl a_amounts_38)), (h_kinds, .inl (cy, 301, .inl a_kinds_38)), (h_papers, .inl (cy, 301, .inl a_papers_38))]) [0, 1, 2, 3] rfl
        replace hD := hD.sub (ws' := [(h_this, .inr (4, [.int f_size_38, .ref h_kinds, .ref h_papers, .ref h_amounts])), (h_amounts, .inl (cy, 301, .inl a_amounts_38)), (h_kinds, .inl (cy, 301, .inl a_kinds_38)), (h_papers, .inl (cy, 301, .inl a_papers_38))]) [0, 1, 2, 3] (by decide) rfl
        clear hPc hDc hFc hP1 hK1 hD1 hz1 hk1 hvm
        subst ht
        generalize t.heap = H at hP hS ⊢
        replace h := hw
        clear hw
        exact J41 x1 x2 x3 ((Int32.toInt64 x2) - x3) f_size_38 a_amounts_38 a_kinds_38 a_papers_38 H locs ls h hP hD hS (lv_sub hl [1, 2, 3, 4, 0] rfl)
abbrev rm_X4_explain : Room := { frames := 2, cells := 0, slots := 0, locals := 52 }
theorem q_X4_explain : yX4_explain.cls = RX4 ∧ yX4_explain.cls ≠ "java/lang/invoke/MethodHandle" ∧ yX4_explain.cls ≠ "java/lang/invoke/VarHandle" ∧ (parseMethodDescriptor yX4_explain.desc).map (fun d => d.parameters.length) = some 2 := by decide +kernel
set_option maxHeartbeats 4000000 in
set_option maxRecDepth 100000 in
theorem c_X4_explain (l : Launch) (dC : Nat → ClassId) (dI : Nat → Nat → Nat) (cy : ClassId) (h_this : Nat) (h_p1 : Nat) (h_amounts : Nat) (h_kinds : Nat) (h_papers : Nat) (h_p1_amounts : Nat) (h_p1_batchOf : Nat) (h_p1_told : Nat) (sz : Nat) (g_p1_0 g_p1_5 g_p1_6 g_p1_7 : Value) (f_size : Int32) (f_p1_papers : Int32) (a_amounts : Nat → Int32) (a_kinds : Nat → Int32) (a_papers : Nat → Int32) (a_p1_amounts : Nat → Int32) (a_p1_batchOf : Nat → Int32) (a_p1_told : Nat → Int32) (x2 : Int32) (Q : Int32 → (Nat → Int32) → (Nat → Int32) → (Nat → Int32) → Prop) (h : p_X4_explain f_size f_p1_papers a_amounts a_kinds a_papers a_p1_amounts a_p1_batchOf a_p1_told x2 Q) : Met l yX4_explain wsX4_explain rm_X4_explain (va_Pc [.ref h_this, .ref h_p1, .int x2] (fun U => U.heap.size = sz ∧ va_P (dC, dI) vwCl [(h_this, .inr (4, [.int f_size, .ref h_kinds, .ref h_papers, .ref h_amounts])), (h_p1, .inr (2, [g_p1_0, .ref h_p1_told, .int f_p1_papers, .ref h_p1_batchOf, .ref h_p1_amounts, g_p1_5, g_p1_6, g_p1_7])), (h_amounts, .inl (cy, 301, .inl a_amounts)), (h_kinds, .inl (cy, 301, .inl a_kinds)), (h_papers, .inl (cy, 301, .inl a_papers)), (h_p1_amounts, .inl (cy, 100, .inl a_p1_amounts)), (h_p1_batchOf, .inl (cy, 100, .inl a_p1_batchOf)), (h_p1_told, .inl (cy, 20, .inl a_p1_told))] U.heap ∧ va_K (dC, dI) vwCl [(cy, .int)] U ∧ va_D (fun _ => True) [(h_this, .inr (4, [.int f_size, .ref h_kinds, .ref h_papers, .ref h_amounts])), (h_p1, .inr (2, [g_p1_0, .ref h_p1_told, .int f_p1_papers, .ref h_p1_batchOf, .ref h_p1_amounts, g_p1_5, g_p1_6, g_p1_7])), (h_amounts, .inl (cy, 301, .inl a_amounts)), (h_kinds, .inl (cy, 301, .inl a_kinds)), (h_papers, .inl (cy, 301, .inl a_papers)), (h_p1_amounts, .inl (cy, 100, .inl a_p1_amounts)), (h_p1_batchOf, .inl (cy, 100, .inl a_p1_batchOf)), (h_p1_told, .inl (cy, 20, .inl a_p1_told))])) (va_Qv (fun (u : Int32 × (Nat → Int32) × (Nat → Int32) × (Nat → Int32)) => Q u.1 u.2.1 u.2.2.1 u.2.2.2) (fun (u : Int32 × (Nat → Int32) × (Nat → Int32) × (Nat → Int32)) (t : State) => va_P (dC, dI) vwCl [(h_this, .inr (4, [.int (u.1), .ref h_kinds, .ref h_papers, .ref h_amounts])), (h_p1, .inr (2, [g_p1_0, .ref h_p1_told, .int f_p1_papers, .ref h_p1_batchOf, .ref h_p1_amounts, g_p1_5, g_p1_6, g_p1_7])), (h_amounts, .inl (cy, 301, .inl (u.2.1))), (h_kinds, .inl (cy, 301, .inl (u.2.2.1))), (h_papers, .inl (cy, 301, .inl (u.2.2.2))), (h_p1_amounts, .inl (cy, 100, .inl a_p1_amounts)), (h_p1_batchOf, .inl (cy, 100, .inl a_p1_batchOf)), (h_p1_told, .inl (cy, 20, .inl a_p1_told))] t.heap ∧ va_K (dC, dI) vwCl [(cy, .int)] t ∧ va_D (va_A [(h_this, .inr (4, [.int f_size, .ref h_kinds, .ref h_papers, .ref h_amounts])), (h_p1, .inr (2, [g_p1_0, .ref h_p1_told, .int f_p1_papers, .ref h_p1_batchOf, .ref h_p1_amounts, g_p1_5, g_p1_6, g_p1_7])), (h_amounts, .inl (cy, 301, .inl a_amounts)), (h_kinds, .inl (cy, 301, .inl a_kinds)), (h_papers, .inl (cy, 301, .inl a_papers)), (h_p1_amounts, .inl (cy, 100, .inl a_p1_amounts)), (h_p1_batchOf, .inl (cy, 100, .inl a_p1_batchOf)), (h_p1_told, .inl (cy, 20, .inl a_p1_told))] sz) [(h_this, .inr (4, [.int (u.1), .ref h_kinds, .ref h_papers, .ref h_amounts])), (h_p1, .inr (2, [g_p1_0, .ref h_p1_told, .int f_p1_papers, .ref h_p1_batchOf, .ref h_p1_amounts, g_p1_5, g_p1_6, g_p1_7])), (h_amounts, .inl (cy, 301, .inl (u.2.1))), (h_kinds, .inl (cy, 301, .inl (u.2.2.1))), (h_papers, .inl (cy, 301, .inl (u.2.2.2))), (h_p1_amounts, .inl (cy, 100, .inl a_p1_amounts)), (h_p1_batchOf, .inl (cy, 100, .inl a_p1_batchOf)), (h_p1_told, .inl (cy, 20, .inl a_p1_told))]) (va_A [(h_this, .inr (4, [.int f_size, .ref h_kinds, .ref h_papers, .ref h_amounts])), (h_p1, .inr (2, [g_p1_0, .ref h_p1_told, .int f_p1_papers, .ref h_p1_batchOf, .ref h_p1_amounts, g_p1_5, g_p1_6, g_p1_7])), (h_amounts, .inl (cy, 301, .inl a_amounts)), (h_kinds, .inl (cy, 301, .inl a_kinds)), (h_papers, .inl (cy, 301, .inl a_papers)), (h_p1_amounts, .inl (cy, 100, .inl a_p1_amounts)), (h_p1_batchOf, .inl (cy, 100, .inl a_p1_batchOf)), (h_p1_told, .inl (cy, 20, .inl a_p1_told))] sz)) 0 0 (va_A [(h_this, .inr (4, [.int f_size, .ref h_kinds, .ref h_papers, .ref h_amounts])), (h_p1, .inr (2, [g_p1_0, .ref h_p1_told, .int f_p1_papers, .ref h_p1_batchOf, .ref h_p1_amounts, g_p1_5, g_p1_6, g_p1_7])), (h_amounts, .inl (cy, 301, .inl a_amounts)), (h_kinds, .inl (cy, 301, .inl a_kinds)), (h_papers, .inl (cy, 301, .inl a_papers)), (h_p1_amounts, .inl (cy, 100, .inl a_p1_amounts)), (h_p1_batchOf, .inl (cy, 100, .inl a_p1_batchOf)), (h_p1_told, .inl (cy, 20, .inl a_p1_told))] sz) := by
  refine Met.ofW (cc := cX4_explain) (maxL := 6) (ret := none) (by decide) rfl ?_
  intro p e s m args below meth c s₁ B hml hv
  obtain ⟨hargs, hsz, hP, hK, hD0⟩ := hv
  have hx := B.exec
  have hb := B.bytes
  have hr := B.returns
  have hts := atoms_spec (ws := wsX4_explain) B.pre
  have hown : s.vm.findClass RX4 = some m.cls := findClass_of_methodNamed B.named
  have hlocks := B.notSynchronized
  subst hsz
  have hD := hD0.self (sz := s.heap.size)
  generalize hAe : va_A [(h_this, .inr (4, [.int f_size, .ref h_kinds, .ref h_papers, .ref h_amounts])), (h_p1, .inr (2, [g_p1_0, .ref h_p1_told, .int f_p1_papers, .ref h_p1_batchOf, .ref h_p1_amounts, g_p1_5, g_p1_6, g_p1_7])), (h_amounts, .inl (cy, 301, .inl a_amounts)), (h_kinds, .inl (cy, 301, .inl a_kinds)), (h_papers, .inl (cy, 301, .inl a_papers)), (h_p1_amounts, .inl (cy, 100, .inl a_p1_amounts)), (h_p1_batchOf, .inl (cy, 100, .inl a_p1_batchOf)), (h_p1_told, .inl (cy, 20, .inl a_p1_told))] s.heap.size = A at hD ⊢
  have hA : ∀ q : Nat, s.heap.size ≤ q → A q := fun q h => by rw [← hAe]; exact Or.inr h
  have hS : va_S A s.heap s.heap [] := va_S.rf
  have in_X2 : ∀ w ∈ u_ws RX2 TX2 8, w ∈ wsX4_explain := by decide +kernel
  have in_X4 : ∀ w ∈ u_ws RX4 TX4 4, w ∈ wsX4_explain := by decide +kernel
  have k_9 := hts (.fieldLink RX4 9 "ChequeDesk$Slips" "size" "I") (by decide +kernel)
  have k_31 := hts (.fieldLink RX4 31 "ChequeDesk$Ledger" "papers" "I") (by decide +kernel)
  have k_33 := hts (.fieldLink RX4 33 "ChequeDesk$Ledger" "batchOf" "[I") (by decide +kernel)
  have k_36 := hts (.fieldLink RX4 36 "ChequeDesk$Ledger" "amounts" "[I") (by decide +kernel)
  have k_41 := hts (.constantLong RX4 41 9999999) (by decide +kernel)
  have hl := lv_entry ([.ref h_this, .ref h_p1, .int x2]) (n := 6) (Nat.le_of_ble_eq_true rfl)
  rw [show entryFrame m args 6 = entryFrame m ([.ref h_this, .ref h_p1, .int x2] : List Value).toArray 6 by rw [hargs], lg_entry_eq]
  generalize (lg_sl ([.ref h_this, .ref h_p1, .int x2]) ++ List.replicate (6 - (lg_sl ([.ref h_this, .ref h_p1, .int x2])).length) Slot.unset).toArray = ls at hl ⊢
  have hl : lv_has ls 6 [(0, .ref h_this), (1, .ref h_p1), (2, .int x2)] := hl
  have hP : va_P (dC, dI) vwCl [(h_this, .inr (4, [.int f_size, .ref h_kinds, .ref h_papers, .ref h_amounts])), (h_p1, .inr (2, [g_p1_0, .ref h_p1_told, .int f_p1_papers, .ref h_p1_batchOf, .ref h_p1_amounts, g_p1_5, g_p1_6, g_p1_7])), (h_amounts, .inl (cy, 301, .inl a_amounts)), (h_kinds, .inl (cy, 301, .inl a_kinds)), (h_papers, .inl (cy, 301, .inl a_papers)), (h_p1_amounts, .inl (cy, 100, .inl a_p1_amounts)), (h_p1_batchOf, .inl (cy, 100, .inl a_p1_batchOf)), (h_p1_told, .inl (cy, 20, .inl a_p1_told))] s.heap := hP
  change W p l e rm_X4_explain s m args below meth c s.heap [] 0 0 _ _
  generalize hQQ : MQ below _ _ _ _ _ _ = QQ
  have RET : ∀ (f_size : Int32) (a_amounts : Nat → Int32) (a_kinds : Nat → Int32) (a_papers : Nat → Int32) (H : Heap) (locs : List Loc) (ls : Array Slot) (pc : Nat), decode cX4_explain pc = .ok (.return_, 1) → Q f_size a_amounts a_kinds a_papers → va_P (dC, dI) vwCl [(h_this, .inr (4, [.int f_size, .ref h_kinds, .ref h_papers, .ref h_amounts])), (h_p1, .inr (2, [g_p1_0, .ref h_p1_told, .int f_p1_papers, .ref h_p1_batchOf, .ref h_p1_amounts, g_p1_5, g_p1_6, g_p1_7])), (h_amounts, .inl (cy, 301, .inl a_amounts)), (h_kinds, .inl (cy, 301, .inl a_kinds)), (h_papers, .inl (cy, 301, .inl a_papers)), (h_p1_amounts, .inl (cy, 100, .inl a_p1_amounts)), (h_p1_batchOf, .inl (cy, 100, .inl a_p1_batchOf)), (h_p1_told, .inl (cy, 20, .inl a_p1_told))] H → va_D A [(h_this, .inr (4, [.int f_size, .ref h_kinds, .ref h_papers, .ref h_amounts])), (h_p1, .inr (2, [g_p1_0, .ref h_p1_told, .int f_p1_papers, .ref h_p1_batchOf, .ref h_p1_amounts, g_p1_5, g_p1_6, g_p1_7])), (h_amounts, .inl (cy, 301, .inl a_amounts)), (h_kinds, .inl (cy, 301, .inl a_kinds)), (h_papers, .inl (cy, 301, .inl a_papers)), (h_p1_amounts, .inl (cy, 100, .inl a_p1_amounts)), (h_p1_batchOf, .inl (cy, 100, .inl a_p1_batchOf)), (h_p1_told, .inl (cy, 20, .inl a_p1_told))] → va_S A s.heap H locs → W p l e rm_X4_explain s m args below meth c H locs 0 0 QQ (F0 m pc ls []) := by
    intro f_size a_amounts a_kinds a_papers H locs ls pc hdg hq hP hD hS
    rw [← hQQ]
    exact W.vret hx hb hr (fun t ht hW => ⟨⟨(f_size, a_amounts, a_kinds, a_papers), rfl, hq, by rw [ht]; exact hP, va_K.moved hW.alike hK, hD⟩, hS.F ht⟩) hS.2.2 hdg
  clear hQQ
  unfold p_X4_explain at h
  have J85 : ∀ (f_size : Int32) (a_amounts : Nat → Int32) (a_kinds : Nat → Int32) (a_papers : Nat → Int32) (H : Heap) (locs : List Loc) (ls : Array Slot), p_X4_explain_J85 f_size a_amounts a_kinds a_papers Q → va_P (dC, dI) vwCl [(h_this, .inr (4, [.int f_size, .ref h_kinds, .ref h_papers, .ref h_amounts])), (h_p1, .inr (2, [g_p1_0, .ref h_p1_told, .int f_p1_papers, .ref h_p1_batchOf, .ref h_p1_amounts, g_p1_5, g_p1_6, g_p1_7])), (h_amounts, .inl (cy, 301, .inl a_amounts)), (h_kinds, .inl (cy, 301, .inl a_kinds)), (h_papers, .inl (cy, 301, .inl a_papers)), (h_p1_amounts, .inl (cy, 100, .inl a_p1_amounts)), (h_p1_batchOf, .inl (cy, 100, .inl a_p1_batchOf)), (h_p1_told, .inl (cy, 20, .inl a_p1_told))] H → va_D A [(h_this, .inr (4, [.int f_size, .ref h_kinds, .ref h_papers, .ref h_amounts])), (h_p1, .inr (2, [g_p1_0, .ref h_p1_told, .int f_p1_papers, .ref h_p1_batchOf, .ref h_p1_amounts, g_p1_5, g_p1_6, g_p1_7])), (h_amounts, .inl (cy, 301, .inl a_amounts)), (h_kinds, .inl (cy, 301, .inl a_kinds)), (h_papers, .inl (cy, 301, .inl a_papers)), (h_p1_amounts, .inl (cy, 100, .inl a_p1_amounts)), (h_p1_batchOf, .inl (cy, 100, .inl a_p1_batchOf)), (h_p1_told, .inl (cy, 20, .inl a_p1_told))] → va_S A s.heap H locs → lv_has ls 6 [] → W p l e rm_X4_explain s m args below meth c H locs 0 0 QQ (F0 m 85 ls []) := by
    intro f_size a_amounts a_kinds a_papers H locs ls h hP hD hS hl
    unfold p_X4_explain_J85 at h
    exact RET f_size a_amounts a_kinds a_papers H locs ls 85 dX4_explain_85 h hP hD hS
  have L21 : ∀ (x2 : Int32) (x3 : Int64) (K21 : Int32 → Int32 → (Nat → Int32) → (Nat → Int32) → (Nat → Int32) → Prop) (n : Nat) (x5 : Int32) (f_size : Int32) (a_amounts : Nat → Int32) (a_kinds : Nat → Int32) (a_papers : Nat → Int32) (H : Heap) (locs : List Loc) (ls : Array Slot), wl5 (p_X4_explain_B21 f_p1_papers a_p1_amounts a_p1_batchOf x2 x3 K21) n x5 f_size a_amounts a_kinds a_papers → va_P (dC, dI) vwCl [(h_this, .inr (4, [.int f_size, .ref h_kinds, .ref h_papers, .ref h_amounts])), (h_p1, .inr (2, [g_p1_0, .ref h_p1_told, .int f_p1_papers, .ref h_p1_batchOf, .ref h_p1_amounts, g_p1_5, g_p1_6, g_p1_7])), (h_amounts, .inl (cy, 301, .inl a_amounts)), (h_kinds, .inl (cy, 301, .inl a_kinds)), (h_papers, .inl (cy, 301, .inl a_papers)), (h_p1_amounts, .inl (cy, 100, .inl a_p1_amounts)), (h_p1_batchOf, .inl (cy, 100, .inl a_p1_batchOf)), (h_p1_told, .inl (cy, 20, .inl a_p1_told))] H → va_D A [(h_this, .inr (4, [.int f_size, .ref h_kinds, .ref h_papers, .ref h_amounts])), (h_p1, .inr (2, [g_p1_0, .ref h_p1_told, .int f_p1_papers, .ref h_p1_batchOf, .ref h_p1_amounts, g_p1_5, g_p1_6, g_p1_7])), (h_amounts, .inl (cy, 301, .inl a_amounts)), (h_kinds, .inl (cy, 301, .inl a_kinds)), (h_papers, .inl (cy, 301, .inl a_papers)), (h_p1_amounts, .inl (cy, 100, .inl a_p1_amounts)), (h_p1_batchOf, .inl (cy, 100, .inl a_p1_batchOf)), (h_p1_told, .inl (cy, 20, .inl a_p1_told))] → va_S A s.heap H locs → lv_has ls 6 [(0, .ref h_this), (1, .ref h_p1), (2, .int x2), (3, .long x3), (5, .int x5)] → (∀ (x5 : Int32) (f_size : Int32) (a_amounts : Nat → Int32) (a_kinds : Nat → Int32) (a_papers : Nat → Int32) (H : Heap) (locs : List Loc) (ls : Array Slot), K21 x5 f_size a_amounts a_kinds a_papers → va_P (dC, dI) vwCl [(h_this, .inr (4, [.int f_size, .ref h_kinds, .ref h_papers, .ref h_amounts])), (h_p1, .inr (2, [g_p1_0, .ref h_p1_told, .int f_p1_papers, .ref h_p1_batchOf, .ref h_p1_amounts, g_p1_5, g_p1_6, g_p1_7])), (h_amounts, .inl (cy, 301, .inl a_amounts)), (h_kinds, .inl (cy, 301, .inl a_kinds)), (h_papers, .inl (cy, 301, .inl a_papers)), (h_p1_amounts, .inl (cy, 100, .inl a_p1_amounts)), (h_p1_batchOf, .inl (cy, 100, .inl a_p1_batchOf)), (h_p1_told, .inl (cy, 20, .inl a_p1_told))] H → va_D A [(h_this, .inr (4, [.int f_size, .ref h_kinds, .ref h_papers, .ref h_amounts])), (h_p1, .inr (2, [g_p1_0, .ref h_p1_told, .int f_p1_papers, .ref h_p1_batchOf, .ref h_p1_amounts, g_p1_5, g_p1_6, g_p1_7])), (h_amounts, .inl (cy, 301, .inl a_amounts)), (h_kinds, .inl (cy, 301, .inl a_kinds)), (h_papers, .inl (cy, 301, .inl a_papers)), (h_p1_amounts, .inl (cy, 100, .inl a_p1_amounts)), (h_p1_batchOf, .inl (cy, 100, .inl a_p1_batchOf)), (h_p1_told, .inl (cy, 20, .inl a_p1_told))] → va_S A s.heap H locs → lv_has ls 6 [(0, .ref h_this), (3, .long x3)] → W p l e rm_X4_explain s m args below meth c H locs 0 0 QQ (F0 m 61 ls [])) → W p l e rm_X4_explain s m args below meth c H locs 0 0 QQ (F0 m 21 ls []) := by
    intro x2 x3 K21 n
    induction n with
    | zero => intro x5 f_size a_amounts a_kinds a_papers H locs ls h; exact False.elim h
    | succ n ih =>
      intro x5 f_size a_amounts a_kinds a_papers H locs ls h hP hD hS hl hk
      have ih := fun x5 f_size a_amounts a_kinds a_papers H locs ls h hP hD hS hl => ih x5 f_size a_amounts a_kinds a_papers H locs ls h hP hD hS hl hk
      replace h : p_X4_explain_B21 f_p1_papers a_p1_amounts a_p1_batchOf x2 x3 K21 (wl5 (p_X4_explain_B21 f_p1_papers a_p1_amounts a_p1_batchOf x2 x3 K21) n) x5 f_size a_amounts a_kinds a_papers := h
      unfold p_X4_explain_B21 at h
      have J55 : ∀ (x5 : Int32) (f_size : Int32) (a_amounts : Nat → Int32) (a_kinds : Nat → Int32) (a_papers : Nat → Int32) (H : Heap) (locs : List Loc) (ls : Array Slot), p_X4_explain_J55 f_size a_amounts a_kinds a_papers (wl5 (p_X4_explain_B21 f_p1_papers a_p1_amounts a_p1_batchOf x2 x3 K21) n) x5 → va_P (dC, dI) vwCl [(h_this, .inr (4, [.int f_size, .ref h_kinds, .ref h_papers, .ref h_amounts])), (h_p1, .inr (2, [g_p1_0, .ref h_p1_told, .int f_p1_papers, .ref h_p1_batchOf, .ref h_p1_amounts, g_p1_5, g_p1_6, g_p1_7])), (h_amounts, .inl (cy, 301, .inl a_amounts)), (h_kinds, .inl (cy, 301, .inl a_kinds)), (h_papers, .inl (cy, 301, .inl a_papers)), (h_p1_amounts, .inl (cy, 100, .inl a_p1_amounts)), (h_p1_batchOf, .inl (cy, 100, .inl a_p1_batchOf)), (h_p1_told, .inl (cy, 20, .inl a_p1_told))] H → va_D A [(h_this, .inr (4, [.int f_size, .ref h_kinds, .ref h_papers, .ref h_amounts])), (h_p1, .inr (2, [g_p1_0, .ref h_p1_told, .int f_p1_papers, .ref h_p1_batchOf, .ref h_p1_amounts, g_p1_5, g_p1_6, g_p1_7])), (h_amounts, .inl (cy, 301, .inl a_amounts)), (h_kinds, .inl (cy, 301, .inl a_kinds)), (h_papers, .inl (cy, 301, .inl a_papers)), (h_p1_amounts, .inl (cy, 100, .inl a_p1_amounts)), (h_p1_batchOf, .inl (cy, 100, .inl a_p1_batchOf)), (h_p1_told, .inl (cy, 20, .inl a_p1_told))] → va_S A s.heap H locs → lv_has ls 6 [(0, .ref h_this), (1, .ref h_p1), (2, .int x2), (3, .long x3), (5, .int x5)] → W p l e rm_X4_explain s m args below meth c H locs 0 0 QQ (F0 m 55 ls []) := by
        intro x5 f_size a_amounts a_kinds a_papers H locs ls h hP hD hS hl
        unfold p_X4_explain_J55 at h
        refine lv_iinc (v := x5 + 1) (lv' := [(5, .int (x5 + 1)), (0, .ref h_this), (1, .ref h_p1), (2, .int x2), (3, .long x3)]) hx hb dX4_explain_55 hl (k := 4) rfl (by rfl) (by decide) rfl (fun ls hl => ?_)
        refine lv_goto (tgt := 21) hx hb dX4_explain_58 (by decide) ?_
        exact ih (x5 + 1) f_size a_amounts a_kinds a_papers H locs ls h hP hD hS (lv_sub hl [1, 2, 3, 4, 0] rfl)
      refine lv_iload hx hb dX4_explain_21 (lv_at hl 4 rfl) ?_
      refine lv_aload_n hx hb dX4_explain_23 rfl (lv_at hl 1 rfl) ?_
      refine va_get (D := (dC, dI)) (ci := 2) (v := .int f_p1_papers) (C := RX2) (T := TX2) (N := 8) hx hb hts in_X2 hown hK hP 1 rfl rfl 2 (by decide) k_31 (fun _ h9 => h9) rfl dX4_explain_24 ?_
      refine lv_icmp_ge (tgt := 61) hx hb dX4_explain_27 (by decide) (fun c27 => ?_) (fun c27 => ?_)
      · replace h := And.left h c27
        exact hk x5 f_size a_amounts a_kinds a_papers H locs ls h hP hD hS (lv_sub hl [0, 3] rfl)
      · replace h := And.right h c27
        refine lv_aload_n hx hb dX4_explain_30 rfl (lv_at hl 1 rfl) ?_
        refine va_get (D := (dC, dI)) (ci := 2) (v := .ref h_p1_batchOf) (C := RX2) (T := TX2) (N := 8) hx hb hts in_X2 hown hK hP 1 rfl rfl 3 (by decide) k_33 (fun _ h9 => h9) rfl dX4_explain_31 ?_
        refine lv_iload hx hb dX4_explain_34 (lv_at hl 4 rfl) ?_
        obtain ⟨b36, h⟩ := h
        refine va_iald hx hb hK hP 6 0 rfl rfl b36 dX4_explain_36 ?_
        refine lv_iload_n hx hb dX4_explain_37 rfl (lv_at hl 2 rfl) ?_
        refine lv_icmp_ne (tgt := 55) hx hb dX4_explain_38 (by decide) (fun c38 => ?_) (fun c38 => ?_)
        · replace h := And.left h c38
          exact J55 x5 f_size a_amounts a_kinds a_papers H locs ls h hP hD hS (lv_sub hl [0, 1, 2, 3, 4] rfl)
        · replace h := And.right h c38
          refine lv_aload_n hx hb dX4_explain_41 rfl (lv_at hl 0 rfl) ?_
          refine lv_iload hx hb dX4_explain_42 (lv_at hl 4 rfl) ?_
          refine lv_aload_n hx hb dX4_explain_44 rfl (lv_at hl 1 rfl) ?_
          refine va_get (D := (dC, dI)) (ci := 2) (v := .ref h_p1_amounts) (C := RX2) (T := TX2) (N := 8) hx hb hts in_X2 hown hK hP 1 rfl rfl 4 (by decide) k_36 (fun _ h9 => h9) rfl dX4_explain_45 ?_
          refine lv_iload hx hb dX4_explain_48 (lv_at hl 4 rfl) ?_
          obtain ⟨b50, h⟩ := h
          refine va_iald hx hb hK hP 5 0 rfl rfl b50 dX4_explain_50 ?_
          refine lv_lload_n hx hb dX4_explain_51 rfl (lv_at hl 3 rfl) ?_
          have hPc := hP.sub (ws' := [(h_this, .inr (4, [.int f_size, .ref h_kinds, .ref h_papers, .ref h_amounts])), (h_amounts, .inl (cy, 301, .inl a_amounts)), (h_kinds, .inl (cy, 301, .inl a_kinds)), (h_papers, .inl (cy, 301, .inl a_papers))]) [0, 2, 3, 4] rfl
          have hDc := hD.sub (ws' := [(h_this, .inr (4, [.int f_size, .ref h_kinds, .ref h_papers, .ref h_amounts])), (h_amounts, .inl (cy, 301, .inl a_amounts)), (h_kinds, .inl (cy, 301, .inl a_kinds)), (h_papers, .inl (cy, 301, .inl a_papers))]) [0, 2, 3, 4] (by decide) rfl
          have hFc := va_free (wc := [(h_this, .inr (4, [.int f_size, .ref h_kinds, .ref h_papers, .ref h_amounts])), (h_amounts, .inl (cy, 301, .inl a_amounts)), (h_kinds, .inl (cy, 301, .inl a_kinds)), (h_papers, .inl (cy, 301, .inl a_papers))]) hD hS hA [0, 2, 3, 4] rfl
          refine va_callv (va_runV (As := [.int x5, .int (a_p1_amounts (Int32.toNatClampNeg x5)), .long x3]) (rest := []) ⟨hx, hb, hml, hown, hts⟩ (c_X4_explainBy l dC dI cy h_this h_amounts h_kinds h_papers H.size  f_size a_amounts a_kinds a_papers x5 (a_p1_amounts (Int32.toNatClampNeg x5)) x3 _ h) (cwV 3 hts gX4_explain_X4_explainBy rfl rfl rfl q_X4_explainBy ⟨Nat.le_of_ble_eq_true rfl, Nat.le_of_ble_eq_true rfl⟩) ⟨fun a U g mk q => by obtain ⟨q0, q1, qP, qK, qD⟩ := q; exact ⟨q0, q1, qP, va_K.moved (u := U) (U := U.calling g mk a) (Vm.Alike.refl U.vm) qK, qD⟩, va_recv hK hP (ci := 4) (q0 := 0) rfl rfl, fun U hU hW => ⟨rfl, by rw [hU], by rw [hU]; exact hPc, va_K.moved hW.alike hK, hDc.weaken (fun _ _ _ _ => trivial)⟩⟩ rfl rfl hl.1 rfl (lv_room (Nat.le_of_ble_eq_true rfl)) dX4_explain_52 ⟨Nat.le_of_ble_eq_true rfl, Nat.le_of_ble_eq_true rfl⟩) hS (fun q _ h => hFc q h) hFc (fun u t H1 locs ht hvm hw hB hz1 hk1 hS => ?_)
          obtain ⟨f_size_52, a_amounts_52, a_kinds_52, a_papers_52⟩ := u
          obtain ⟨hP1, hK1, hD1⟩ := hB
          rw [ht] at hP1
          obtain ⟨hP, hD⟩ := va_join (wr := [(h_p1, .inr (2, [g_p1_0, .ref h_p1_told, .int f_p1_papers, .ref h_p1_batchOf, .ref h_p1_amounts, g_p1_5, g_p1_6, g_p1_7])), (h_p1_amounts, .inl (cy, 100, .inl a_p1_amounts)), (h_p1_batchOf, .inl (cy, 100, .inl a_p1_batchOf)), (h_p1_told, .inl (cy, 20, .inl a_p1_told))]) (w1 := [(h_this, .inr (4, [.int f_size_52, .ref h_kinds, .ref h_papers, .ref h_amounts])), (h_amounts, .inl (cy, 301, .inl a_amounts_52)), (h_kinds, .inl (cy, 301, .inl a_kinds_52)), (h_papers, .inl (cy, 301, .inl a_papers_52))]) hP hD [0, 2, 3, 4] [1, 5, 6, 7] rfl rfl (by decide) (by decide) hk1 hFc hP1 hD1
          replace hP := hP.sub (ws' := [(h_this, .inr (4, [.int f_size_52, .ref h_kinds, .ref h_papers, .ref h_amounts])), (h_p1, .inr (2, [g_p1_0, .ref h_p1_told, .int f_p1_papers, .ref h_p1_batchOf, .ref h_p1_amounts, g_p1_5, g_p1_6, g_p1_7])), (h_amounts, .inl (cy, 301, .inl a_amounts_52)), (h_kinds, .inl (cy, 301, .inl a_kinds_52)), (h_papers, .inl (cy, 301, .inl a_papers_52)), (h_p1_amounts, .inl (cy, 100, .inl a_p1_amounts)), (h_p1_batchOf, .inl (cy, 100, .inl a_p1_batchOf)), (h_p1_told, .inl (cy, 20, .inl a_p1_told))]) [4, 0, 5, 6, 7, 1, 2, 3] rfl
          replace hD := hD.sub (ws' := [(h_this, .inr (4, [.int f_size_52, .ref h_kinds, .ref h_papers, .ref h_amounts])), (h_p1, .inr (2, [g_p1_0, .ref h_p1_told, .int f_p1_papers, .ref h_p1_batchOf, .ref h_p1_amounts, g_p1_5, g_p1_6, g_p1_7])), (h_amounts, .inl (cy, 301, .inl a_amounts_52)), (h_kinds, .inl (cy, 301, .inl a_kinds_52)), (h_papers, .inl (cy, 301, .inl a_papers_52)), (h_p1_amounts, .inl (cy, 100, .inl a_p1_amounts)), (h_p1_batchOf, .inl (cy, 100, .inl a_p1_batchOf)), (h_p1_told, .inl (cy, 20, .inl a_p1_told))]) [4, 0, 5, 6, 7, 1, 2, 3] (by decide) rfl
          clear hPc hDc hFc hP1 hK1 hD1 hz1 hk1 hvm
          subst ht
          generalize t.heap = H at hP hS ⊢
          replace h := hw
          clear hw
          exact J55 x5 f_size_52 a_amounts_52 a_kinds_52 a_papers_52 H locs ls h hP hD hS (lv_sub hl [0, 1, 2, 3, 4] rfl)
  generalize hlo : ([] : List Loc) = locs at hS ⊢
  obtain ⟨H, hH⟩ : ∃ z, z = s.heap := ⟨_, rfl⟩
  rw [show W p l e rm_X4_explain s m args below meth c s.heap = W p l e rm_X4_explain s m args below meth c H by rw [hH]]
  replace hP : va_P (dC, dI) vwCl [(h_this, .inr (4, [.int f_size, .ref h_kinds, .ref h_papers, .ref h_amounts])), (h_p1, .inr (2, [g_p1_0, .ref h_p1_told, .int f_p1_papers, .ref h_p1_batchOf, .ref h_p1_amounts, g_p1_5, g_p1_6, g_p1_7])), (h_amounts, .inl (cy, 301, .inl a_amounts)), (h_kinds, .inl (cy, 301, .inl a_kinds)), (h_papers, .inl (cy, 301, .inl a_papers)), (h_p1_amounts, .inl (cy, 100, .inl a_p1_amounts)), (h_p1_batchOf, .inl (cy, 100, .inl a_p1_batchOf)), (h_p1_told, .inl (cy, 20, .inl a_p1_told))] H := by rw [hH]; exact hP
  replace hS : va_S A s.heap H locs := by rw [hH]; exact hS
  clear hH hlo
  refine lv_aload_n hx hb dX4_explain_0 rfl (lv_at hl 0 rfl) ?_
  refine lv_iconst (v := 0) hx hb dX4_explain_1 (by decide) ?_
  refine va_put (D := (dC, dI)) (ci := 4) (v := .int 0) (ty := .int) (C := RX4) (T := TX4) (N := 4) hx hb hts in_X4 tyX4 tyX4_ok nmX4 hown hK hP hD hS 0 rfl rfl 0 (by decide) k_9 (fun _ h9 => h9) rfl (by decide +kernel) rfl rfl (Nat.le_of_ble_eq_true rfl) dX4_explain_2 (fun H locs hP hD hS => ?_)
  have hP : va_P (dC, dI) vwCl [(h_this, .inr (4, [.int 0, .ref h_kinds, .ref h_papers, .ref h_amounts])), (h_p1, .inr (2, [g_p1_0, .ref h_p1_told, .int f_p1_papers, .ref h_p1_batchOf, .ref h_p1_amounts, g_p1_5, g_p1_6, g_p1_7])), (h_amounts, .inl (cy, 301, .inl a_amounts)), (h_kinds, .inl (cy, 301, .inl a_kinds)), (h_papers, .inl (cy, 301, .inl a_papers)), (h_p1_amounts, .inl (cy, 100, .inl a_p1_amounts)), (h_p1_batchOf, .inl (cy, 100, .inl a_p1_batchOf)), (h_p1_told, .inl (cy, 20, .inl a_p1_told))] H := hP
  have hD : va_D A [(h_this, .inr (4, [.int 0, .ref h_kinds, .ref h_papers, .ref h_amounts])), (h_p1, .inr (2, [g_p1_0, .ref h_p1_told, .int f_p1_papers, .ref h_p1_batchOf, .ref h_p1_amounts, g_p1_5, g_p1_6, g_p1_7])), (h_amounts, .inl (cy, 301, .inl a_amounts)), (h_kinds, .inl (cy, 301, .inl a_kinds)), (h_papers, .inl (cy, 301, .inl a_papers)), (h_p1_amounts, .inl (cy, 100, .inl a_p1_amounts)), (h_p1_batchOf, .inl (cy, 100, .inl a_p1_batchOf)), (h_p1_told, .inl (cy, 20, .inl a_p1_told))] := hD
  refine lv_aload_n hx hb dX4_explain_5 rfl (lv_at hl 1 rfl) ?_
  refine lv_iload_n hx hb dX4_explain_6 rfl (lv_at hl 2 rfl) ?_
  have hPc := hP.sub (ws' := [(h_p1, .inr (2, [g_p1_0, .ref h_p1_told, .int f_p1_papers, .ref h_p1_batchOf, .ref h_p1_amounts, g_p1_5, g_p1_6, g_p1_7])), (h_p1_amounts, .inl (cy, 100, .inl a_p1_amounts)), (h_p1_batchOf, .inl (cy, 100, .inl a_p1_batchOf)), (h_p1_told, .inl (cy, 20, .inl a_p1_told))]) [1, 5, 6, 7] rfl
  have hDc := hD.sub (ws' := [(h_p1, .inr (2, [g_p1_0, .ref h_p1_told, .int f_p1_papers, .ref h_p1_batchOf, .ref h_p1_amounts, g_p1_5, g_p1_6, g_p1_7])), (h_p1_amounts, .inl (cy, 100, .inl a_p1_amounts)), (h_p1_batchOf, .inl (cy, 100, .inl a_p1_batchOf)), (h_p1_told, .inl (cy, 20, .inl a_p1_told))]) [1, 5, 6, 7] (by decide) rfl
  have hFc := va_free (wc := [(h_p1, .inr (2, [g_p1_0, .ref h_p1_told, .int f_p1_papers, .ref h_p1_batchOf, .ref h_p1_amounts, g_p1_5, g_p1_6, g_p1_7])), (h_p1_amounts, .inl (cy, 100, .inl a_p1_amounts)), (h_p1_batchOf, .inl (cy, 100, .inl a_p1_batchOf)), (h_p1_told, .inl (cy, 20, .inl a_p1_told))]) hD hS hA [1, 5, 6, 7] rfl
  refine va_calll (va_runV (As := [.int x2]) (rest := []) ⟨hx, hb, hml, hown, hts⟩ (c_X2_sumOut l dC dI cy h_p1 h_p1_amounts h_p1_batchOf h_p1_told H.size (g_p1_0) (g_p1_5) (g_p1_6) (g_p1_7) f_p1_papers a_p1_amounts a_p1_batchOf a_p1_told x2 _ h) (cwV 1 hts gX4_explain_X2_sumOut rfl rfl rfl q_X2_sumOut ⟨Nat.le_of_ble_eq_true rfl, Nat.le_of_ble_eq_true rfl⟩) ⟨fun a U g mk q => by obtain ⟨q0, q1, qP, qK, qD⟩ := q; exact ⟨q0, q1, qP, va_K.moved (u := U) (U := U.calling g mk a) (Vm.Alike.refl U.vm) qK, qD⟩, va_recv hK hP (ci := 2) (q0 := 1) rfl rfl, fun U hU hW => ⟨rfl, by rw [hU], by rw [hU]; exact hPc, va_K.moved hW.alike hK, hDc.weaken (fun _ _ _ _ => trivial)⟩⟩ rfl rfl hl.1 rfl (lv_room (Nat.le_of_ble_eq_true rfl)) dX4_explain_7 ⟨Nat.le_of_ble_eq_true rfl, Nat.le_of_ble_eq_true rfl⟩) hS (fun q _ h => hFc q h) hFc (fun r7 u t H1 locs ht hvm hw hB hz1 hk1 hS => ?_)
  obtain ⟨hP1, hK1, hD1⟩ := hB
  rw [ht] at hP1
  obtain ⟨hP, hD⟩ := va_join (wr := [(h_this, .inr (4, [.int 0, .ref h_kinds, .ref h_papers, .ref h_amounts])), (h_amounts, .inl (cy, 301, .inl a_amounts)), (h_kinds, .inl (cy, 301, .inl a_kinds)), (h_papers, .inl (cy, 301, .inl a_papers))]) (w1 := [(h_p1, .inr (2, [g_p1_0, .ref h_p1_told, .int f_p1_papers, .ref h_p1_batchOf, .ref h_p1_amounts, g_p1_5, g_p1_6, g_p1_7])), (h_p1_amounts, .inl (cy, 100, .inl a_p1_amounts)), (h_p1_batchOf, .inl (cy, 100, .inl a_p1_batchOf)), (h_p1_told, .inl (cy, 20, .inl a_p1_told))]) hP hD [1, 5, 6, 7] [0, 2, 3, 4] rfl rfl (by decide) (by decide) hk1 hFc hP1 hD1
  replace hP := hP.sub (ws' := [(h_this, .inr (4, [.int 0, .ref h_kinds, .ref h_papers, .ref h_amounts])), (h_p1, .inr (2, [g_p1_0, .ref h_p1_told, .int f_p1_papers, .ref h_p1_batchOf, .ref h_p1_amounts, g_p1_5, g_p1_6, g_p1_7])), (h_amounts, .inl (cy, 301, .inl a_amounts)), (h_kinds, .inl (cy, 301, .inl a_kinds)), (h_papers, .inl (cy, 301, .inl a_papers)), (h_p1_amounts, .inl (cy, 100, .inl a_p1_amounts)), (h_p1_batchOf, .inl (cy, 100, .inl a_p1_batchOf)), (h_p1_told, .inl (cy, 20, .inl a_p1_told))]) [0, 4, 1, 2, 3, 5, 6, 7] rfl
  replace hD := hD.sub (ws' := [(h_this, .inr (4, [.int 0, .ref h_kinds, .ref h_papers, .ref h_amounts])), (h_p1, .inr (2, [g_p1_0, .ref h_p1_told, .int f_p1_papers, .ref h_p1_batchOf, .ref h_p1_amounts, g_p1_5, g_p1_6, g_p1_7])), (h_amounts, .inl (cy, 301, .inl a_amounts)), (h_kinds, .inl (cy, 301, .inl a_kinds)), (h_papers, .inl (cy, 301, .inl a_papers)), (h_p1_amounts, .inl (cy, 100, .inl a_p1_amounts)), (h_p1_batchOf, .inl (cy, 100, .inl a_p1_batchOf)), (h_p1_told, .inl (cy, 20, .inl a_p1_told))]) [0, 4, 1, 2, 3, 5, 6, 7] (by decide) rfl
  clear hPc hDc hFc hP1 hK1 hD1 hz1 hk1 hvm
  subst ht
  generalize t.heap = H at hP hS ⊢
  replace h := hw
  clear hw
  refine lv_lstore_n (lv' := [(3, .long r7), (0, .ref h_this), (1, .ref h_p1), (2, .int x2)]) hx hb dX4_explain_10 rfl hl (by decide) rfl (fun ls hl => ?_)
  refine lv_lload_n hx hb dX4_explain_11 rfl (lv_at hl 0 rfl) ?_
  refine lv_lconst (v := 0) hx hb dX4_explain_12 (by decide) ?_
  refine W.lcmp hx hb dX4_explain_13 ?_
  refine lv_if_ne (tgt := 18) hx hb dX4_explain_14 (by decide) (fun c14 => ?_) (fun c14 => ?_)
  · replace h := And.left h c14
    refine lv_iconst (v := 0) hx hb dX4_explain_18 (by decide) ?_
    refine lv_istore (lv' := [(5, .int 0), (3, .long r7), (0, .ref h_this), (1, .ref h_p1), (2, .int x2)]) hx hb dX4_explain_19 hl (by decide) rfl (fun ls hl => ?_)
    obtain ⟨n21, h⟩ := h
    refine L21 x2 r7 _ n21 0 0 a_amounts a_kinds a_papers H locs ls h hP hD hS (lv_sub hl [2, 3, 4, 1, 0] rfl) (fun x5_61 f_size_61 a_amounts_61 a_kinds_61 a_papers_61 H locs ls h hP hD hS hl => ?_)
    refine lv_lload_n hx hb dX4_explain_61 rfl (lv_at hl 1 rfl) ?_
    refine lv_lconst (v := 0) hx hb dX4_explain_62 (by decide) ?_
    refine W.lcmp hx hb dX4_explain_63 ?_
    refine lv_if_ge (tgt := 85) hx hb dX4_explain_64 (by decide) (fun c64 => ?_) (fun c64 => ?_)
    · replace h := And.left h c64
      exact J85 f_size_61 a_amounts_61 a_kinds_61 a_papers_61 H locs ls h hP hD hS (lv_sub hl [] rfl)
    · replace h := And.right h c64
      refine lv_lload_n hx hb dX4_explain_67 rfl (lv_at hl 1 rfl) ?_
      refine my_lneg hx hb dX4_explain_68 ?_
      refine lv_ldc2 (v := 9999999) hx hb hown k_41 dX4_explain_69 ?_
      refine W.lcmp hx hb dX4_explain_72 ?_
      refine lv_if_gt (tgt := 85) hx hb dX4_explain_73 (by decide) (fun c73 => ?_) (fun c73 => ?_)
      · replace h := And.left h c73
        exact J85 f_size_61 a_amounts_61 a_kinds_61 a_papers_61 H locs ls h hP hD hS (lv_sub hl [] rfl)
      · replace h := And.right h c73
        refine lv_aload_n hx hb dX4_explain_76 rfl (lv_at hl 0 rfl) ?_
        refine lv_iconst (v := 3) hx hb dX4_explain_77 (by decide) ?_
        refine lv_iconst (v := (-1)) hx hb dX4_explain_78 (by decide) ?_
        refine lv_lload_n hx hb dX4_explain_79 rfl (lv_at hl 1 rfl) ?_
        refine my_lneg hx hb dX4_explain_80 ?_
        refine lv_l2i hx hb dX4_explain_81 rfl ?_
        have hPc := hP.sub (ws' := [(h_this, .inr (4, [.int f_size_61, .ref h_kinds, .ref h_papers, .ref h_amounts])), (h_amounts, .inl (cy, 301, .inl a_amounts_61)), (h_kinds, .inl (cy, 301, .inl a_kinds_61)), (h_papers, .inl (cy, 301, .inl a_papers_61))]) [0, 2, 3, 4] rfl
        have hDc := hD.sub (ws' := [(h_this, .inr (4, [.int f_size_61, .ref h_kinds, .ref h_papers, .ref h_amounts])), (h_amounts, .inl (cy, 301, .inl a_amounts_61)), (h_kinds, .inl (cy, 301, .inl a_kinds_61)), (h_papers, .inl (cy, 301, .inl a_papers_61))]) [0, 2, 3, 4] (by decide) rfl
        have hFc := va_free (wc := [(h_this, .inr (4, [.int f_size_61, .ref h_kinds, .ref h_papers, .ref h_amounts])), (h_amounts, .inl (cy, 301, .inl a_amounts_61)), (h_kinds, .inl (cy, 301, .inl a_kinds_61)), (h_papers, .inl (cy, 301, .inl a_papers_61))]) hD hS hA [0, 2, 3, 4] rfl
        refine va_callv (va_runV (As := [.int 3, .int (-1), .int (Int64.toInt32 (jlneg r7))]) (rest := []) ⟨hx, hb, hml, hown, hts⟩ (c_X4_note l dC dI cy h_this h_amounts h_kinds h_papers H.size  f_size_61 a_amounts_61 a_kinds_61 a_papers_61 3 (-1) (Int64.toInt32 (jlneg r7)) _ h) (cwV 3 hts gX4_explain_X4_note rfl rfl rfl q_X4_note ⟨Nat.le_of_ble_eq_true rfl, Nat.le_of_ble_eq_true rfl⟩) ⟨fun a U g mk q => by obtain ⟨q0, q1, qP, qK, qD⟩ := q; exact ⟨q0, q1, qP, va_K.moved (u := U) (U := U.calling g mk a) (Vm.Alike.refl U.vm) qK, qD⟩, va_recv hK hP (ci := 4) (q0 := 0) rfl rfl, fun U hU hW => ⟨rfl, by rw [hU], by rw [hU]; exact hPc, va_K.moved hW.alike hK, hDc.weaken (fun _ _ _ _ => trivial)⟩⟩ rfl rfl hl.1 rfl (lv_room (Nat.le_of_ble_eq_true rfl)) dX4_explain_82 ⟨Nat.le_of_ble_eq_true rfl, Nat.le_of_ble_eq_true rfl⟩) hS (fun q _ h => hFc q h) hFc (fun u t H1 locs ht hvm hw hB hz1 hk1 hS => ?_)
        obtain ⟨f_size_82, a_amounts_82, a_kinds_82, a_papers_82⟩ := u
        obtain ⟨hP1, hK1, hD1⟩ := hB
        rw [ht] at hP1
        obtain ⟨hP, hD⟩ := va_join (wr := [(h_p1, .inr (2, [g_p1_0, .ref h_p1_told, .int f_p1_papers, .ref h_p1_batchOf, .ref h_p1_amounts, g_p1_5, g_p1_6, g_p1_7])), (h_p1_amounts, .inl (cy, 100, .inl a_p1_amounts)), (h_p1_batchOf, .inl (cy, 100, .inl a_p1_batchOf)), (h_p1_told, .inl (cy, 20, .inl a_p1_told))]) (w1 := [(h_this, .inr (4, [.int f_size_82, .ref h_kinds, .ref h_papers, .ref h_amounts])), (h_amounts, .inl (cy, 301, .inl a_amounts_82)), (h_kinds, .inl (cy, 301, .inl a_kinds_82)), (h_papers, .inl (cy, 301, .inl a_papers_82))]) hP hD [0, 2, 3, 4] [1, 5, 6, 7] rfl rfl (by decide) (by decide) hk1 hFc hP1 hD1
        replace hP := hP.sub (ws' := [(h_this, .inr (4, [.int f_size_82, .ref h_kinds, .ref h_papers, .ref h_amounts])), (h_p1, .inr (2, [g_p1_0, .ref h_p1_told, .int f_p1_papers, .ref h_p1_batchOf, .ref h_p1_amounts, g_p1_5, g_p1_6, g_p1_7])), (h_amounts, .inl (cy, 301, .inl a_amounts_82)), (h_kinds, .inl (cy, 301, .inl a_kinds_82)), (h_papers, .inl (cy, 301, .inl a_papers_82)), (h_p1_amounts, .inl (cy, 100, .inl a_p1_amounts)), (h_p1_batchOf, .inl (cy, 100, .inl a_p1_batchOf)), (h_p1_told, .inl (cy, 20, .inl a_p1_told))]) [4, 0, 5, 6, 7, 1, 2, 3] rfl
        replace hD := hD.sub (ws' := [(h_this, .inr (4, [.int f_size_82, .ref h_kinds, .ref h_papers, .ref h_amounts])), (h_p1, .inr (2, [g_p1_0, .ref h_p1_told, .int f_p1_papers, .ref h_p1_batchOf, .ref h_p1_amounts, g_p1_5, g_p1_6, g_p1_7])), (h_amounts, .inl (cy, 301, .inl a_amounts_82)), (h_kinds, .inl (cy, 301, .inl a_kinds_82)), (h_papers, .inl (cy, 301, .inl a_papers_82)), (h_p1_amounts, .inl (cy, 100, .inl a_p1_amounts)), (h_p1_batchOf, .inl (cy, 100, .inl a_p1_batchOf)), (h_p1_told, .inl (cy, 20, .inl a_p1_told))]) [4, 0, 5, 6, 7, 1, 2, 3] (by decide) rfl
        clear hPc hDc hFc hP1 hK1 hD1 hz1 hk1 hvm
        subst ht
        generalize t.heap = H at hP hS ⊢
        replace h := hw
        clear hw
        exact J85 f_size_82 a_amounts_82 a_kinds_82 a_papers_82 H locs ls h hP hD hS (lv_sub hl [] rfl)
  · replace h := And.right h c14
    exact RET 0 a_amounts a_kinds a_papers H locs ls 17 dX4_explain_17 h hP hD hS
