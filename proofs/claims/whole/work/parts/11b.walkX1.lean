abbrev rm_X1_allowOnly : Room := { frames := 2, cells := 0, slots := 0, locals := 44 }
theorem q_X1_allowOnly : yX1_allowOnly.cls = RX1 ∧ yX1_allowOnly.cls ≠ "java/lang/invoke/MethodHandle" ∧ yX1_allowOnly.cls ≠ "java/lang/invoke/VarHandle" ∧ (parseMethodDescriptor yX1_allowOnly.desc).map (fun d => d.parameters.length) = some 1 := by decide +kernel
set_option maxHeartbeats 4000000 in
set_option maxRecDepth 100000 in
theorem c_X1_allowOnly (l : Launch) (dC : Nat → ClassId) (dI : Nat → Nat → Nat) (cy : ClassId) (h_this : Nat) (h_costs : Nat) (h_here : Nat) (h_p1 : Nat) (sz : Nat) (g_this_1 g_this_4 g_this_5 g_this_6 : Value) (f_places : Int32) (a_costs : Nat → Int32) (a_here : Nat → Int32) (a_p1 : Nat → Int32) (Q : (Nat → Int32) → Prop) (h : p_X1_allowOnly f_places a_costs a_here a_p1 Q) : Met l yX1_allowOnly wsX1_allowOnly rm_X1_allowOnly (va_Pc [.ref h_this, .ref h_p1] (fun U => U.heap.size = sz ∧ va_P (dC, dI) vwCl [(h_this, .inr (1, [.int f_places, g_this_1, .ref h_costs, .ref h_here, g_this_4, g_this_5, g_this_6])), (h_costs, .inl (cy, 2160, .inl a_costs)), (h_here, .inl (cy, 180, .inl a_here)), (h_p1, .inl (cy, 20, .inl a_p1))] U.heap ∧ va_K (dC, dI) vwCl [(cy, .int)] U ∧ va_D (fun _ => True) [(h_this, .inr (1, [.int f_places, g_this_1, .ref h_costs, .ref h_here, g_this_4, g_this_5, g_this_6])), (h_costs, .inl (cy, 2160, .inl a_costs)), (h_here, .inl (cy, 180, .inl a_here)), (h_p1, .inl (cy, 20, .inl a_p1))])) (va_Qv (fun (u : (Nat → Int32)) => Q u) (fun (u : (Nat → Int32)) (t : State) => va_P (dC, dI) vwCl [(h_this, .inr (1, [.int f_places, g_this_1, .ref h_costs, .ref h_here, g_this_4, g_this_5, g_this_6])), (h_costs, .inl (cy, 2160, .inl a_costs)), (h_here, .inl (cy, 180, .inl u)), (h_p1, .inl (cy, 20, .inl a_p1))] t.heap ∧ va_K (dC, dI) vwCl [(cy, .int)] t ∧ va_D (va_A [(h_this, .inr (1, [.int f_places, g_this_1, .ref h_costs, .ref h_here, g_this_4, g_this_5, g_this_6])), (h_costs, .inl (cy, 2160, .inl a_costs)), (h_here, .inl (cy, 180, .inl a_here)), (h_p1, .inl (cy, 20, .inl a_p1))] sz) [(h_this, .inr (1, [.int f_places, g_this_1, .ref h_costs, .ref h_here, g_this_4, g_this_5, g_this_6])), (h_costs, .inl (cy, 2160, .inl a_costs)), (h_here, .inl (cy, 180, .inl u)), (h_p1, .inl (cy, 20, .inl a_p1))]) (va_A [(h_this, .inr (1, [.int f_places, g_this_1, .ref h_costs, .ref h_here, g_this_4, g_this_5, g_this_6])), (h_costs, .inl (cy, 2160, .inl a_costs)), (h_here, .inl (cy, 180, .inl a_here)), (h_p1, .inl (cy, 20, .inl a_p1))] sz)) 0 0 (va_A [(h_this, .inr (1, [.int f_places, g_this_1, .ref h_costs, .ref h_here, g_this_4, g_this_5, g_this_6])), (h_costs, .inl (cy, 2160, .inl a_costs)), (h_here, .inl (cy, 180, .inl a_here)), (h_p1, .inl (cy, 20, .inl a_p1))] sz) := by
  refine Met.ofW (cc := cX1_allowOnly) (maxL := 3) (ret := none) (by decide) rfl ?_
  intro p e s m args below meth c s₁ B hml hv
  obtain ⟨hargs, hsz, hP, hK, hD0⟩ := hv
  have hx := B.exec
  have hb := B.bytes
  have hr := B.returns
  have hts := atoms_spec (ws := wsX1_allowOnly) B.pre
  have hown : s.vm.findClass RX1 = some m.cls := findClass_of_methodNamed B.named
  have hlocks := B.notSynchronized
  subst hsz
  have hD := hD0.self (sz := s.heap.size)
  generalize hAe : va_A [(h_this, .inr (1, [.int f_places, g_this_1, .ref h_costs, .ref h_here, g_this_4, g_this_5, g_this_6])), (h_costs, .inl (cy, 2160, .inl a_costs)), (h_here, .inl (cy, 180, .inl a_here)), (h_p1, .inl (cy, 20, .inl a_p1))] s.heap.size = A at hD ⊢
  have hA : ∀ q : Nat, s.heap.size ≤ q → A q := fun q h => by rw [← hAe]; exact Or.inr h
  have hS : va_S A s.heap s.heap [] := va_S.rf
  have in_X1 : ∀ w ∈ u_ws RX1 TX1 7, w ∈ wsX1_allowOnly := by decide +kernel
  have k_9 := hts (.fieldLink RX1 9 "ChequeDesk$Head" "places" "I") (by decide +kernel)
  have hl := lv_entry ([.ref h_this, .ref h_p1]) (n := 3) (Nat.le_of_ble_eq_true rfl)
  rw [show entryFrame m args 3 = entryFrame m ([.ref h_this, .ref h_p1] : List Value).toArray 3 by rw [hargs], lg_entry_eq]
  generalize (lg_sl ([.ref h_this, .ref h_p1]) ++ List.replicate (3 - (lg_sl ([.ref h_this, .ref h_p1])).length) Slot.unset).toArray = ls at hl ⊢
  have hl : lv_has ls 3 [(0, .ref h_this), (1, .ref h_p1)] := hl
  have hP : va_P (dC, dI) vwCl [(h_this, .inr (1, [.int f_places, g_this_1, .ref h_costs, .ref h_here, g_this_4, g_this_5, g_this_6])), (h_costs, .inl (cy, 2160, .inl a_costs)), (h_here, .inl (cy, 180, .inl a_here)), (h_p1, .inl (cy, 20, .inl a_p1))] s.heap := hP
  change W p l e rm_X1_allowOnly s m args below meth c s.heap [] 0 0 _ _
  generalize hQQ : MQ below _ _ _ _ _ _ = QQ
  have RET : ∀ (a_here : Nat → Int32) (H : Heap) (locs : List Loc) (ls : Array Slot) (pc : Nat), decode cX1_allowOnly pc = .ok (.return_, 1) → Q a_here → va_P (dC, dI) vwCl [(h_this, .inr (1, [.int f_places, g_this_1, .ref h_costs, .ref h_here, g_this_4, g_this_5, g_this_6])), (h_costs, .inl (cy, 2160, .inl a_costs)), (h_here, .inl (cy, 180, .inl a_here)), (h_p1, .inl (cy, 20, .inl a_p1))] H → va_D A [(h_this, .inr (1, [.int f_places, g_this_1, .ref h_costs, .ref h_here, g_this_4, g_this_5, g_this_6])), (h_costs, .inl (cy, 2160, .inl a_costs)), (h_here, .inl (cy, 180, .inl a_here)), (h_p1, .inl (cy, 20, .inl a_p1))] → va_S A s.heap H locs → W p l e rm_X1_allowOnly s m args below meth c H locs 0 0 QQ (F0 m pc ls []) := by
    intro a_here H locs ls pc hdg hq hP hD hS
    rw [← hQQ]
    exact W.vret hx hb hr (fun t ht hW => ⟨⟨a_here, rfl, hq, by rw [ht]; exact hP, va_K.moved hW.alike hK, hD⟩, hS.F ht⟩) hS.2.2 hdg
  clear hQQ
  unfold p_X1_allowOnly at h
  have L2 : ∀ (K2 : Int32 → (Nat → Int32) → Prop) (n : Nat) (x2 : Int32) (a_here : Nat → Int32) (H : Heap) (locs : List Loc) (ls : Array Slot), wl2 (p_X1_allowOnly_B2 f_places a_costs a_p1 K2) n x2 a_here → va_P (dC, dI) vwCl [(h_this, .inr (1, [.int f_places, g_this_1, .ref h_costs, .ref h_here, g_this_4, g_this_5, g_this_6])), (h_costs, .inl (cy, 2160, .inl a_costs)), (h_here, .inl (cy, 180, .inl a_here)), (h_p1, .inl (cy, 20, .inl a_p1))] H → va_D A [(h_this, .inr (1, [.int f_places, g_this_1, .ref h_costs, .ref h_here, g_this_4, g_this_5, g_this_6])), (h_costs, .inl (cy, 2160, .inl a_costs)), (h_here, .inl (cy, 180, .inl a_here)), (h_p1, .inl (cy, 20, .inl a_p1))] → va_S A s.heap H locs → lv_has ls 3 [(0, .ref h_this), (1, .ref h_p1), (2, .int x2)] → (∀ (x2 : Int32) (a_here : Nat → Int32) (H : Heap) (locs : List Loc) (ls : Array Slot), K2 x2 a_here → va_P (dC, dI) vwCl [(h_this, .inr (1, [.int f_places, g_this_1, .ref h_costs, .ref h_here, g_this_4, g_this_5, g_this_6])), (h_costs, .inl (cy, 2160, .inl a_costs)), (h_here, .inl (cy, 180, .inl a_here)), (h_p1, .inl (cy, 20, .inl a_p1))] H → va_D A [(h_this, .inr (1, [.int f_places, g_this_1, .ref h_costs, .ref h_here, g_this_4, g_this_5, g_this_6])), (h_costs, .inl (cy, 2160, .inl a_costs)), (h_here, .inl (cy, 180, .inl a_here)), (h_p1, .inl (cy, 20, .inl a_p1))] → va_S A s.heap H locs → lv_has ls 3 [] → W p l e rm_X1_allowOnly s m args below meth c H locs 0 0 QQ (F0 m 24 ls [])) → W p l e rm_X1_allowOnly s m args below meth c H locs 0 0 QQ (F0 m 2 ls []) := by
    intro K2 n
    induction n with
    | zero => intro x2 a_here H locs ls h; exact False.elim h
    | succ n ih =>
      intro x2 a_here H locs ls h hP hD hS hl hk
      have ih := fun x2 a_here H locs ls h hP hD hS hl => ih x2 a_here H locs ls h hP hD hS hl hk
      replace h : p_X1_allowOnly_B2 f_places a_costs a_p1 K2 (wl2 (p_X1_allowOnly_B2 f_places a_costs a_p1 K2) n) x2 a_here := h
      unfold p_X1_allowOnly_B2 at h
      refine lv_iload_n hx hb dX1_allowOnly_2 rfl (lv_at hl 2 rfl) ?_
      refine lv_aload_n hx hb dX1_allowOnly_3 rfl (lv_at hl 0 rfl) ?_
      refine va_get (D := (dC, dI)) (ci := 1) (v := .int f_places) (C := RX1) (T := TX1) (N := 7) hx hb hts in_X1 hown hK hP 0 rfl rfl 0 (by decide) k_9 (fun _ h9 => h9) rfl dX1_allowOnly_4 ?_
      refine lv_icmp_ge (tgt := 24) hx hb dX1_allowOnly_7 (by decide) (fun c7 => ?_) (fun c7 => ?_)
      · replace h := And.left h c7
        exact hk x2 a_here H locs ls h hP hD hS (lv_sub hl [] rfl)
      · replace h := And.right h c7
        refine lv_aload_n hx hb dX1_allowOnly_10 rfl (lv_at hl 0 rfl) ?_
        refine lv_iload_n hx hb dX1_allowOnly_11 rfl (lv_at hl 2 rfl) ?_
        refine lv_aload_n hx hb dX1_allowOnly_12 rfl (lv_at hl 1 rfl) ?_
        refine lv_iload_n hx hb dX1_allowOnly_13 rfl (lv_at hl 2 rfl) ?_
        obtain ⟨b14, h⟩ := h
        refine va_iald hx hb hK hP 3 0 rfl rfl b14 dX1_allowOnly_14 ?_
        have hPc := hP.sub (ws' := [(h_this, .inr (1, [.int f_places, g_this_1, .ref h_costs, .ref h_here, g_this_4, g_this_5, g_this_6])), (h_costs, .inl (cy, 2160, .inl a_costs)), (h_here, .inl (cy, 180, .inl a_here))]) [0, 1, 2] rfl
        have hDc := hD.sub (ws' := [(h_this, .inr (1, [.int f_places, g_this_1, .ref h_costs, .ref h_here, g_this_4, g_this_5, g_this_6])), (h_costs, .inl (cy, 2160, .inl a_costs)), (h_here, .inl (cy, 180, .inl a_here))]) [0, 1, 2] (by decide) rfl
        have hFc := va_free (wc := [(h_this, .inr (1, [.int f_places, g_this_1, .ref h_costs, .ref h_here, g_this_4, g_this_5, g_this_6])), (h_costs, .inl (cy, 2160, .inl a_costs)), (h_here, .inl (cy, 180, .inl a_here))]) hD hS hA [0, 1, 2] rfl
        refine va_callv (va_runV (As := [.int x2, .int (a_p1 (Int32.toNatClampNeg x2))]) (rest := []) ⟨hx, hb, hml, hown, hts⟩ (c_X1_allowAt l dC dI cy h_this h_costs h_here H.size (.int f_places) (g_this_1) (g_this_4) (g_this_5) (g_this_6) a_costs a_here x2 (a_p1 (Int32.toNatClampNeg x2)) _ h) (cwV 2 hts gX1_allowOnly_X1_allowAt rfl rfl rfl q_X1_allowAt ⟨Nat.le_of_ble_eq_true rfl, Nat.le_of_ble_eq_true rfl⟩) ⟨fun a U g mk q => by obtain ⟨q0, q1, qP, qK, qD⟩ := q; exact ⟨q0, q1, qP, va_K.moved (u := U) (U := U.calling g mk a) (Vm.Alike.refl U.vm) qK, qD⟩, va_recv hK hP (ci := 1) (q0 := 0) rfl rfl, fun U hU hW => ⟨rfl, by rw [hU], by rw [hU]; exact hPc, va_K.moved hW.alike hK, hDc.weaken (fun _ _ _ _ => trivial)⟩⟩ rfl rfl hl.1 rfl (lv_room (Nat.le_of_ble_eq_true rfl)) dX1_allowOnly_15 ⟨Nat.le_of_ble_eq_true rfl, Nat.le_of_ble_eq_true rfl⟩) hS (fun q _ h => hFc q h) hFc (fun u t H1 locs ht hvm hw hB hz1 hk1 hS => ?_)
        obtain ⟨a_here_15, rfl⟩ : ∃ z, z = u := ⟨_, rfl⟩
        obtain ⟨hP1, hK1, hD1⟩ := hB
        rw [ht] at hP1
        obtain ⟨hP, hD⟩ := va_join (wr := [(h_p1, .inl (cy, 20, .inl a_p1))]) (w1 := [(h_this, .inr (1, [.int f_places, g_this_1, .ref h_costs, .ref h_here, g_this_4, g_this_5, g_this_6])), (h_costs, .inl (cy, 2160, .inl a_costs)), (h_here, .inl (cy, 180, .inl a_here_15))]) hP hD [0, 1, 2] [3] rfl rfl (by decide) (by decide) hk1 hFc hP1 hD1
        replace hP := hP.sub (ws' := [(h_this, .inr (1, [.int f_places, g_this_1, .ref h_costs, .ref h_here, g_this_4, g_this_5, g_this_6])), (h_costs, .inl (cy, 2160, .inl a_costs)), (h_here, .inl (cy, 180, .inl a_here_15)), (h_p1, .inl (cy, 20, .inl a_p1))]) [1, 2, 3, 0] rfl
        replace hD := hD.sub (ws' := [(h_this, .inr (1, [.int f_places, g_this_1, .ref h_costs, .ref h_here, g_this_4, g_this_5, g_this_6])), (h_costs, .inl (cy, 2160, .inl a_costs)), (h_here, .inl (cy, 180, .inl a_here_15)), (h_p1, .inl (cy, 20, .inl a_p1))]) [1, 2, 3, 0] (by decide) rfl
        clear hPc hDc hFc hP1 hK1 hD1 hz1 hk1 hvm
        subst ht
        generalize t.heap = H at hP hS ⊢
        replace h := hw
        clear hw
        refine lv_iinc (v := x2 + 1) (lv' := [(2, .int (x2 + 1)), (0, .ref h_this), (1, .ref h_p1)]) hx hb dX1_allowOnly_18 hl (k := 2) rfl (by rfl) (by decide) rfl (fun ls hl => ?_)
        refine lv_goto (tgt := 2) hx hb dX1_allowOnly_21 (by decide) ?_
        exact ih (x2 + 1) a_here_15 H locs ls h hP hD hS (lv_sub hl [1, 2, 0] rfl)
  generalize hlo : ([] : List Loc) = locs at hS ⊢
  obtain ⟨H, hH⟩ : ∃ z, z = s.heap := ⟨_, rfl⟩
  rw [show W p l e rm_X1_allowOnly s m args below meth c s.heap = W p l e rm_X1_allowOnly s m args below meth c H by rw [hH]]
  replace hP : va_P (dC, dI) vwCl [(h_this, .inr (1, [.int f_places, g_this_1, .ref h_costs, .ref h_here, g_this_4, g_this_5, g_this_6])), (h_costs, .inl (cy, 2160, .inl a_costs)), (h_here, .inl (cy, 180, .inl a_here)), (h_p1, .inl (cy, 20, .inl a_p1))] H := by rw [hH]; exact hP
  replace hS : va_S A s.heap H locs := by rw [hH]; exact hS
  clear hH hlo
  refine lv_iconst (v := 0) hx hb dX1_allowOnly_0 (by decide) ?_
  refine lv_istore_n (lv' := [(2, .int 0), (0, .ref h_this), (1, .ref h_p1)]) hx hb dX1_allowOnly_1 rfl hl (by decide) rfl (fun ls hl => ?_)
  obtain ⟨n2, h⟩ := h
  refine L2  _ n2 0 a_here H locs ls h hP hD hS (lv_sub hl [1, 2, 0] rfl) (fun x2_24 a_here_24 H locs ls h hP hD hS hl => ?_)
  exact RET a_here_24 H locs ls 24 dX1_allowOnly_24 h hP hD hS
abbrev rm_X1_leastCost : Room := { frames := 1, cells := 0, slots := 0, locals := 21 }
theorem q_X1_leastCost : yX1_leastCost.cls = RX1 ∧ yX1_leastCost.cls ≠ "java/lang/invoke/MethodHandle" ∧ yX1_leastCost.cls ≠ "java/lang/invoke/VarHandle" ∧ (parseMethodDescriptor yX1_leastCost.desc).map (fun d => d.parameters.length) = some 0 := by decide +kernel
set_option maxHeartbeats 4000000 in
set_option maxRecDepth 100000 in
theorem c_X1_leastCost (l : Launch) (dC : Nat → ClassId) (dI : Nat → Nat → Nat) (cy : ClassId) (h_this : Nat) (h_behind : Nat) (h_here : Nat) (sz : Nat) (g_this_0 g_this_1 g_this_2 g_this_5 g_this_6 : Value) (a_behind : Nat → Int32) (a_here : Nat → Int32) (Q : Int32 → Prop) (h : p_X1_leastCost a_behind a_here Q) : Met l yX1_leastCost wsX1_leastCost rm_X1_leastCost (va_Pc [.ref h_this] (fun U => U.heap.size = sz ∧ va_P (dC, dI) vwCl [(h_this, .inr (1, [g_this_0, g_this_1, g_this_2, .ref h_here, .ref h_behind, g_this_5, g_this_6])), (h_behind, .inl (cy, 180, .inl a_behind)), (h_here, .inl (cy, 180, .inl a_here))] U.heap ∧ va_K (dC, dI) vwCl [(cy, .int)] U ∧ va_D (fun _ => True) [(h_this, .inr (1, [g_this_0, g_this_1, g_this_2, .ref h_here, .ref h_behind, g_this_5, g_this_6])), (h_behind, .inl (cy, 180, .inl a_behind)), (h_here, .inl (cy, 180, .inl a_here))])) (va_Qi (fun (r : Int32) (u : Unit) => Q r) (fun (u : Unit) (t : State) => va_P (dC, dI) vwCl [(h_this, .inr (1, [g_this_0, g_this_1, g_this_2, .ref h_here, .ref h_behind, g_this_5, g_this_6])), (h_behind, .inl (cy, 180, .inl a_behind)), (h_here, .inl (cy, 180, .inl a_here))] t.heap ∧ va_K (dC, dI) vwCl [(cy, .int)] t ∧ va_D (va_A [(h_this, .inr (1, [g_this_0, g_this_1, g_this_2, .ref h_here, .ref h_behind, g_this_5, g_this_6])), (h_behind, .inl (cy, 180, .inl a_behind)), (h_here, .inl (cy, 180, .inl a_here))] sz) [(h_this, .inr (1, [g_this_0, g_this_1, g_this_2, .ref h_here, .ref h_behind, g_this_5, g_this_6])), (h_behind, .inl (cy, 180, .inl a_behind)), (h_here, .inl (cy, 180, .inl a_here))]) (va_A [(h_this, .inr (1, [g_this_0, g_this_1, g_this_2, .ref h_here, .ref h_behind, g_this_5, g_this_6])), (h_behind, .inl (cy, 180, .inl a_behind)), (h_here, .inl (cy, 180, .inl a_here))] sz)) 0 0 (va_A [(h_this, .inr (1, [g_this_0, g_this_1, g_this_2, .ref h_here, .ref h_behind, g_this_5, g_this_6])), (h_behind, .inl (cy, 180, .inl a_behind)), (h_here, .inl (cy, 180, .inl a_here))] sz) := by
  refine Met.ofW (cc := cX1_leastCost) (maxL := 3) (ret := (some .int)) (by decide) rfl ?_
  intro p e s m args below meth c s₁ B hml hv
  obtain ⟨hargs, hsz, hP, hK, hD0⟩ := hv
  have hx := B.exec
  have hb := B.bytes
  have hr := B.returns
  have hts := atoms_spec (ws := wsX1_leastCost) B.pre
  have hown : s.vm.findClass RX1 = some m.cls := findClass_of_methodNamed B.named
  have hlocks := B.notSynchronized
  subst hsz
  have hD := hD0.self (sz := s.heap.size)
  generalize hAe : va_A [(h_this, .inr (1, [g_this_0, g_this_1, g_this_2, .ref h_here, .ref h_behind, g_this_5, g_this_6])), (h_behind, .inl (cy, 180, .inl a_behind)), (h_here, .inl (cy, 180, .inl a_here))] s.heap.size = A at hD ⊢
  have hA : ∀ q : Nat, s.heap.size ≤ q → A q := fun q h => by rw [← hAe]; exact Or.inr h
  have hS : va_S A s.heap s.heap [] := va_S.rf
  have in_X1 : ∀ w ∈ u_ws RX1 TX1 7, w ∈ wsX1_leastCost := by decide +kernel
  have k_22 := hts (.fieldLink RX1 22 "ChequeDesk$Head" "here" "[I") (by decide +kernel)
  have k_25 := hts (.fieldLink RX1 25 "ChequeDesk$Head" "behind" "[I") (by decide +kernel)
  have m_48_1 := hts (.methodLink RX1 48 Lib.Math.min.name) (by decide +kernel)
  have m_48_2 := hts (.static Lib.Math.min.name) (by decide +kernel)
  have m_48_3 := hts (.initialized "java/lang/Math") (by decide +kernel)
  have m_48_4 := hts (.code Lib.Math.min.name Lib.Math.min.code 2 (some .int)) (by decide +kernel)
  have hl := lv_entry ([.ref h_this]) (n := 3) (Nat.le_of_ble_eq_true rfl)
  rw [show entryFrame m args 3 = entryFrame m ([.ref h_this] : List Value).toArray 3 by rw [hargs], lg_entry_eq]
  generalize (lg_sl ([.ref h_this]) ++ List.replicate (3 - (lg_sl ([.ref h_this])).length) Slot.unset).toArray = ls at hl ⊢
  have hl : lv_has ls 3 [(0, .ref h_this)] := hl
  have hP : va_P (dC, dI) vwCl [(h_this, .inr (1, [g_this_0, g_this_1, g_this_2, .ref h_here, .ref h_behind, g_this_5, g_this_6])), (h_behind, .inl (cy, 180, .inl a_behind)), (h_here, .inl (cy, 180, .inl a_here))] s.heap := hP
  change W p l e rm_X1_leastCost s m args below meth c s.heap [] 0 0 _ _
  generalize hQQ : MQ below _ _ _ _ _ _ = QQ
  have RET : ∀ (r : Int32) (H : Heap) (locs : List Loc) (ls : Array Slot) (pc : Nat), decode cX1_leastCost pc = .ok (.ireturn, 1) → Q r → va_P (dC, dI) vwCl [(h_this, .inr (1, [g_this_0, g_this_1, g_this_2, .ref h_here, .ref h_behind, g_this_5, g_this_6])), (h_behind, .inl (cy, 180, .inl a_behind)), (h_here, .inl (cy, 180, .inl a_here))] H → va_D A [(h_this, .inr (1, [g_this_0, g_this_1, g_this_2, .ref h_here, .ref h_behind, g_this_5, g_this_6])), (h_behind, .inl (cy, 180, .inl a_behind)), (h_here, .inl (cy, 180, .inl a_here))] → va_S A s.heap H locs → W p l e rm_X1_leastCost s m args below meth c H locs 0 0 QQ (F0 m pc ls [.int r]) := by
    intro r  H locs ls pc hdg hq hP hD hS
    rw [← hQQ]
    exact W.iret (v := r) hx hb hr (fun t ht hW => ⟨⟨r, (), rfl, hq, by rw [ht]; exact hP, va_K.moved hW.alike hK, hD⟩, hS.F ht⟩) hS.2.2 hdg
  clear hQQ
  unfold p_X1_leastCost at h
  have L16 : ∀ (K16 : Int32 → Int32 → Prop) (n : Nat) (x1 : Int32) (x2 : Int32) (H : Heap) (locs : List Loc) (ls : Array Slot), wl2 (p_X1_leastCost_B16 a_behind a_here K16) n x1 x2 → va_P (dC, dI) vwCl [(h_this, .inr (1, [g_this_0, g_this_1, g_this_2, .ref h_here, .ref h_behind, g_this_5, g_this_6])), (h_behind, .inl (cy, 180, .inl a_behind)), (h_here, .inl (cy, 180, .inl a_here))] H → va_D A [(h_this, .inr (1, [g_this_0, g_this_1, g_this_2, .ref h_here, .ref h_behind, g_this_5, g_this_6])), (h_behind, .inl (cy, 180, .inl a_behind)), (h_here, .inl (cy, 180, .inl a_here))] → va_S A s.heap H locs → lv_has ls 3 [(0, .ref h_this), (1, .int x1), (2, .int x2)] → (∀ (x1 : Int32) (x2 : Int32) (H : Heap) (locs : List Loc) (ls : Array Slot), K16 x1 x2 → va_P (dC, dI) vwCl [(h_this, .inr (1, [g_this_0, g_this_1, g_this_2, .ref h_here, .ref h_behind, g_this_5, g_this_6])), (h_behind, .inl (cy, 180, .inl a_behind)), (h_here, .inl (cy, 180, .inl a_here))] H → va_D A [(h_this, .inr (1, [g_this_0, g_this_1, g_this_2, .ref h_here, .ref h_behind, g_this_5, g_this_6])), (h_behind, .inl (cy, 180, .inl a_behind)), (h_here, .inl (cy, 180, .inl a_here))] → va_S A s.heap H locs → lv_has ls 3 [(1, .int x1)] → W p l e rm_X1_leastCost s m args below meth c H locs 0 0 QQ (F0 m 46 ls [])) → W p l e rm_X1_leastCost s m args below meth c H locs 0 0 QQ (F0 m 16 ls []) := by
    intro K16 n
    induction n with
    | zero => intro x1 x2 H locs ls h; exact False.elim h
    | succ n ih =>
      intro x1 x2 H locs ls h hP hD hS hl hk
      have ih := fun x1 x2 H locs ls h hP hD hS hl => ih x1 x2 H locs ls h hP hD hS hl hk
      replace h : p_X1_leastCost_B16 a_behind a_here K16 (wl2 (p_X1_leastCost_B16 a_behind a_here K16) n) x1 x2 := h
      unfold p_X1_leastCost_B16 at h
      refine lv_iload_n hx hb dX1_leastCost_16 rfl (lv_at hl 2 rfl) ?_
      refine lv_bipush (v := 9) hx hb dX1_leastCost_17 (by decide) ?_
      refine lv_icmp_ge (tgt := 46) hx hb dX1_leastCost_19 (by decide) (fun c19 => ?_) (fun c19 => ?_)
      · replace h := And.left h c19
        exact hk x1 x2 H locs ls h hP hD hS (lv_sub hl [1] rfl)
      · replace h := And.right h c19
        refine lv_iload_n hx hb dX1_leastCost_22 rfl (lv_at hl 1 rfl) ?_
        refine lv_aload_n hx hb dX1_leastCost_23 rfl (lv_at hl 0 rfl) ?_
        refine va_get (D := (dC, dI)) (ci := 1) (v := .ref h_here) (C := RX1) (T := TX1) (N := 7) hx hb hts in_X1 hown hK hP 0 rfl rfl 3 (by decide) k_22 (fun _ h9 => h9) rfl dX1_leastCost_24 ?_
        refine lv_iload_n hx hb dX1_leastCost_27 rfl (lv_at hl 2 rfl) ?_
        obtain ⟨b28, h⟩ := h
        refine va_iald hx hb hK hP 2 0 rfl rfl b28 dX1_leastCost_28 ?_
        refine lv_aload_n hx hb dX1_leastCost_29 rfl (lv_at hl 0 rfl) ?_
        refine va_get (D := (dC, dI)) (ci := 1) (v := .ref h_behind) (C := RX1) (T := TX1) (N := 7) hx hb hts in_X1 hown hK hP 0 rfl rfl 4 (by decide) k_25 (fun _ h9 => h9) rfl dX1_leastCost_30 ?_
        refine lv_iload_n hx hb dX1_leastCost_33 rfl (lv_at hl 2 rfl) ?_
        obtain ⟨b34, h⟩ := h
        refine va_iald hx hb hK hP 1 0 rfl rfl b34 dX1_leastCost_34 ?_
        refine lv_iadd hx hb dX1_leastCost_35 ?_
        refine my_mmin hx hb (by rw [hml]; exact hl.1.symm) hown m_48_1 m_48_2 m_48_3 m_48_4 (Nat.le_of_ble_eq_true rfl) (Nat.le_of_ble_eq_true rfl) (Nat.zero_le _) (Nat.zero_le _) dX1_leastCost_36 ?_
        refine lv_istore_n (lv' := [(1, .int (jmin x1 ((a_here (Int32.toNatClampNeg x2)) + (a_behind (Int32.toNatClampNeg x2))))), (0, .ref h_this), (2, .int x2)]) hx hb dX1_leastCost_39 rfl hl (by decide) rfl (fun ls hl => ?_)
        refine lv_iinc (v := x2 + 1) (lv' := [(2, .int (x2 + 1)), (1, .int (jmin x1 ((a_here (Int32.toNatClampNeg x2)) + (a_behind (Int32.toNatClampNeg x2))))), (0, .ref h_this)]) hx hb dX1_leastCost_40 hl (k := 2) rfl (by rfl) (by decide) rfl (fun ls hl => ?_)
        refine lv_goto (tgt := 16) hx hb dX1_leastCost_43 (by decide) ?_
        exact ih (jmin x1 ((a_here (Int32.toNatClampNeg x2)) + (a_behind (Int32.toNatClampNeg x2)))) (x2 + 1) H locs ls h hP hD hS (lv_sub hl [2, 1, 0] rfl)
  generalize hlo : ([] : List Loc) = locs at hS ⊢
  obtain ⟨H, hH⟩ : ∃ z, z = s.heap := ⟨_, rfl⟩
  rw [show W p l e rm_X1_leastCost s m args below meth c s.heap = W p l e rm_X1_leastCost s m args below meth c H by rw [hH]]
  replace hP : va_P (dC, dI) vwCl [(h_this, .inr (1, [g_this_0, g_this_1, g_this_2, .ref h_here, .ref h_behind, g_this_5, g_this_6])), (h_behind, .inl (cy, 180, .inl a_behind)), (h_here, .inl (cy, 180, .inl a_here))] H := by rw [hH]; exact hP
  replace hS : va_S A s.heap H locs := by rw [hH]; exact hS
  clear hH hlo
  refine lv_aload_n hx hb dX1_leastCost_0 rfl (lv_at hl 0 rfl) ?_
  refine va_get (D := (dC, dI)) (ci := 1) (v := .ref h_here) (C := RX1) (T := TX1) (N := 7) hx hb hts in_X1 hown hK hP 0 rfl rfl 3 (by decide) k_22 (fun _ h9 => h9) rfl dX1_leastCost_1 ?_
  refine lv_iconst (v := 0) hx hb dX1_leastCost_4 (by decide) ?_
  obtain ⟨b5, h⟩ := h
  refine va_iald hx hb hK hP 2 0 rfl rfl b5 dX1_leastCost_5 ?_
  refine lv_aload_n hx hb dX1_leastCost_6 rfl (lv_at hl 0 rfl) ?_
  refine va_get (D := (dC, dI)) (ci := 1) (v := .ref h_behind) (C := RX1) (T := TX1) (N := 7) hx hb hts in_X1 hown hK hP 0 rfl rfl 4 (by decide) k_25 (fun _ h9 => h9) rfl dX1_leastCost_7 ?_
  refine lv_iconst (v := 0) hx hb dX1_leastCost_10 (by decide) ?_
  obtain ⟨b11, h⟩ := h
  refine va_iald hx hb hK hP 1 0 rfl rfl b11 dX1_leastCost_11 ?_
  refine lv_iadd hx hb dX1_leastCost_12 ?_
  refine lv_istore_n (lv' := [(1, .int ((a_here (Int32.toNatClampNeg 0)) + (a_behind (Int32.toNatClampNeg 0)))), (0, .ref h_this)]) hx hb dX1_leastCost_13 rfl hl (by decide) rfl (fun ls hl => ?_)
  refine lv_iconst (v := 1) hx hb dX1_leastCost_14 (by decide) ?_
  refine lv_istore_n (lv' := [(2, .int 1), (1, .int ((a_here (Int32.toNatClampNeg 0)) + (a_behind (Int32.toNatClampNeg 0)))), (0, .ref h_this)]) hx hb dX1_leastCost_15 rfl hl (by decide) rfl (fun ls hl => ?_)
  obtain ⟨n16, h⟩ := h
  refine L16  _ n16 ((a_here (Int32.toNatClampNeg 0)) + (a_behind (Int32.toNatClampNeg 0))) 1 H locs ls h hP hD hS (lv_sub hl [2, 1, 0] rfl) (fun x1_46 x2_46 H locs ls h hP hD hS hl => ?_)
  refine lv_iload_n hx hb dX1_leastCost_46 rfl (lv_at hl 0 rfl) ?_
  exact RET x1_46 H locs ls 47 dX1_leastCost_47 h hP hD hS
abbrev rm_X1_startWalk : Room := { frames := 0, cells := 0, slots := 0, locals := 0 }
theorem q_X1_startWalk : yX1_startWalk.cls = RX1 ∧ yX1_startWalk.cls ≠ "java/lang/invoke/MethodHandle" ∧ yX1_startWalk.cls ≠ "java/lang/invoke/VarHandle" ∧ (parseMethodDescriptor yX1_startWalk.desc).map (fun d => d.parameters.length) = some 0 := by decide +kernel
set_option maxHeartbeats 4000000 in
set_option maxRecDepth 100000 in
theorem c_X1_startWalk (l : Launch) (dC : Nat → ClassId) (dI : Nat → Nat → Nat) (cy : ClassId) (h_this : Nat) (h_before : Nat) (sz : Nat) (g_this_0 g_this_1 g_this_2 g_this_3 g_this_4 g_this_6 : Value) (a_before : Nat → Int32) (Q : (Nat → Int32) → Prop) (h : p_X1_startWalk a_before Q) : Met l yX1_startWalk wsX1_startWalk rm_X1_startWalk (va_Pc [.ref h_this] (fun U => U.heap.size = sz ∧ va_P (dC, dI) vwCl [(h_this, .inr (1, [g_this_0, g_this_1, g_this_2, g_this_3, g_this_4, .ref h_before, g_this_6])), (h_before, .inl (cy, 9, .inl a_before))] U.heap ∧ va_K (dC, dI) vwCl [(cy, .int)] U ∧ va_D (fun _ => True) [(h_this, .inr (1, [g_this_0, g_this_1, g_this_2, g_this_3, g_this_4, .ref h_before, g_this_6])), (h_before, .inl (cy, 9, .inl a_before))])) (va_Qv (fun (u : (Nat → Int32)) => Q u) (fun (u : (Nat → Int32)) (t : State) => va_P (dC, dI) vwCl [(h_this, .inr (1, [g_this_0, g_this_1, g_this_2, g_this_3, g_this_4, .ref h_before, g_this_6])), (h_before, .inl (cy, 9, .inl u))] t.heap ∧ va_K (dC, dI) vwCl [(cy, .int)] t ∧ va_D (va_A [(h_this, .inr (1, [g_this_0, g_this_1, g_this_2, g_this_3, g_this_4, .ref h_before, g_this_6])), (h_before, .inl (cy, 9, .inl a_before))] sz) [(h_this, .inr (1, [g_this_0, g_this_1, g_this_2, g_this_3, g_this_4, .ref h_before, g_this_6])), (h_before, .inl (cy, 9, .inl u))]) (va_A [(h_this, .inr (1, [g_this_0, g_this_1, g_this_2, g_this_3, g_this_4, .ref h_before, g_this_6])), (h_before, .inl (cy, 9, .inl a_before))] sz)) 0 0 (va_A [(h_this, .inr (1, [g_this_0, g_this_1, g_this_2, g_this_3, g_this_4, .ref h_before, g_this_6])), (h_before, .inl (cy, 9, .inl a_before))] sz) := by
  refine Met.ofW (cc := cX1_startWalk) (maxL := 2) (ret := none) (by decide) rfl ?_
  intro p e s m args below meth c s₁ B hml hv
  obtain ⟨hargs, hsz, hP, hK, hD0⟩ := hv
  have hx := B.exec
  have hb := B.bytes
  have hr := B.returns
  have hts := atoms_spec (ws := wsX1_startWalk) B.pre
  have hown : s.vm.findClass RX1 = some m.cls := findClass_of_methodNamed B.named
  have hlocks := B.notSynchronized
  subst hsz
  have hD := hD0.self (sz := s.heap.size)
  generalize hAe : va_A [(h_this, .inr (1, [g_this_0, g_this_1, g_this_2, g_this_3, g_this_4, .ref h_before, g_this_6])), (h_before, .inl (cy, 9, .inl a_before))] s.heap.size = A at hD ⊢
  have hA : ∀ q : Nat, s.heap.size ≤ q → A q := fun q h => by rw [← hAe]; exact Or.inr h
  have hS : va_S A s.heap s.heap [] := va_S.rf
  have in_X1 : ∀ w ∈ u_ws RX1 TX1 7, w ∈ wsX1_startWalk := by decide +kernel
  have k_28 := hts (.fieldLink RX1 28 "ChequeDesk$Head" "before" "[I") (by decide +kernel)
  have hl := lv_entry ([.ref h_this]) (n := 2) (Nat.le_of_ble_eq_true rfl)
  rw [show entryFrame m args 2 = entryFrame m ([.ref h_this] : List Value).toArray 2 by rw [hargs], lg_entry_eq]
  generalize (lg_sl ([.ref h_this]) ++ List.replicate (2 - (lg_sl ([.ref h_this])).length) Slot.unset).toArray = ls at hl ⊢
  have hl : lv_has ls 2 [(0, .ref h_this)] := hl
  have hP : va_P (dC, dI) vwCl [(h_this, .inr (1, [g_this_0, g_this_1, g_this_2, g_this_3, g_this_4, .ref h_before, g_this_6])), (h_before, .inl (cy, 9, .inl a_before))] s.heap := hP
  change W p l e rm_X1_startWalk s m args below meth c s.heap [] 0 0 _ _
  generalize hQQ : MQ below _ _ _ _ _ _ = QQ
  have RET : ∀ (a_before : Nat → Int32) (H : Heap) (locs : List Loc) (ls : Array Slot) (pc : Nat), decode cX1_startWalk pc = .ok (.return_, 1) → Q a_before → va_P (dC, dI) vwCl [(h_this, .inr (1, [g_this_0, g_this_1, g_this_2, g_this_3, g_this_4, .ref h_before, g_this_6])), (h_before, .inl (cy, 9, .inl a_before))] H → va_D A [(h_this, .inr (1, [g_this_0, g_this_1, g_this_2, g_this_3, g_this_4, .ref h_before, g_this_6])), (h_before, .inl (cy, 9, .inl a_before))] → va_S A s.heap H locs → W p l e rm_X1_startWalk s m args below meth c H locs 0 0 QQ (F0 m pc ls []) := by
    intro a_before H locs ls pc hdg hq hP hD hS
    rw [← hQQ]
    exact W.vret hx hb hr (fun t ht hW => ⟨⟨a_before, rfl, hq, by rw [ht]; exact hP, va_K.moved hW.alike hK, hD⟩, hS.F ht⟩) hS.2.2 hdg
  clear hQQ
  unfold p_X1_startWalk at h
  have L2 : ∀ (K2 : Int32 → (Nat → Int32) → Prop) (n : Nat) (x1 : Int32) (a_before : Nat → Int32) (H : Heap) (locs : List Loc) (ls : Array Slot), wl2 (p_X1_startWalk_B2 K2) n x1 a_before → va_P (dC, dI) vwCl [(h_this, .inr (1, [g_this_0, g_this_1, g_this_2, g_this_3, g_this_4, .ref h_before, g_this_6])), (h_before, .inl (cy, 9, .inl a_before))] H → va_D A [(h_this, .inr (1, [g_this_0, g_this_1, g_this_2, g_this_3, g_this_4, .ref h_before, g_this_6])), (h_before, .inl (cy, 9, .inl a_before))] → va_S A s.heap H locs → lv_has ls 2 [(0, .ref h_this), (1, .int x1)] → (∀ (x1 : Int32) (a_before : Nat → Int32) (H : Heap) (locs : List Loc) (ls : Array Slot), K2 x1 a_before → va_P (dC, dI) vwCl [(h_this, .inr (1, [g_this_0, g_this_1, g_this_2, g_this_3, g_this_4, .ref h_before, g_this_6])), (h_before, .inl (cy, 9, .inl a_before))] H → va_D A [(h_this, .inr (1, [g_this_0, g_this_1, g_this_2, g_this_3, g_this_4, .ref h_before, g_this_6])), (h_before, .inl (cy, 9, .inl a_before))] → va_S A s.heap H locs → lv_has ls 2 [] → W p l e rm_X1_startWalk s m args below meth c H locs 0 0 QQ (F0 m 21 ls [])) → W p l e rm_X1_startWalk s m args below meth c H locs 0 0 QQ (F0 m 2 ls []) := by
    intro K2 n
    induction n with
    | zero => intro x1 a_before H locs ls h; exact False.elim h
    | succ n ih =>
      intro x1 a_before H locs ls h hP hD hS hl hk
      have ih := fun x1 a_before H locs ls h hP hD hS hl => ih x1 a_before H locs ls h hP hD hS hl hk
      replace h : p_X1_startWalk_B2 K2 (wl2 (p_X1_startWalk_B2 K2) n) x1 a_before := h
      unfold p_X1_startWalk_B2 at h
      refine lv_iload_n hx hb dX1_startWalk_2 rfl (lv_at hl 1 rfl) ?_
      refine lv_bipush (v := 9) hx hb dX1_startWalk_3 (by decide) ?_
      refine lv_icmp_ge (tgt := 21) hx hb dX1_startWalk_5 (by decide) (fun c5 => ?_) (fun c5 => ?_)
      · replace h := And.left h c5
        exact hk x1 a_before H locs ls h hP hD hS (lv_sub hl [] rfl)
      · replace h := And.right h c5
        refine lv_aload_n hx hb dX1_startWalk_8 rfl (lv_at hl 0 rfl) ?_
        refine va_get (D := (dC, dI)) (ci := 1) (v := .ref h_before) (C := RX1) (T := TX1) (N := 7) hx hb hts in_X1 hown hK hP 0 rfl rfl 5 (by decide) k_28 (fun _ h9 => h9) rfl dX1_startWalk_9 ?_
        refine lv_iload_n hx hb dX1_startWalk_12 rfl (lv_at hl 1 rfl) ?_
        refine lv_iconst (v := 0) hx hb dX1_startWalk_13 (by decide) ?_
        obtain ⟨b14, h⟩ := h
        refine va_iast hx hb hK hP hD hS 1 0 rfl rfl b14 dX1_startWalk_14 (fun H locs hP hD hS => ?_)
        have hP : va_P (dC, dI) vwCl [(h_this, .inr (1, [g_this_0, g_this_1, g_this_2, g_this_3, g_this_4, .ref h_before, g_this_6])), (h_before, .inl (cy, 9, .inl (upd a_before (Int32.toNatClampNeg x1) 0)))] H := hP
        have hD : va_D A [(h_this, .inr (1, [g_this_0, g_this_1, g_this_2, g_this_3, g_this_4, .ref h_before, g_this_6])), (h_before, .inl (cy, 9, .inl (upd a_before (Int32.toNatClampNeg x1) 0)))] := hD
        refine lv_iinc (v := x1 + 1) (lv' := [(1, .int (x1 + 1)), (0, .ref h_this)]) hx hb dX1_startWalk_15 hl (k := 1) rfl (by rfl) (by decide) rfl (fun ls hl => ?_)
        refine lv_goto (tgt := 2) hx hb dX1_startWalk_18 (by decide) ?_
        exact ih (x1 + 1) (upd a_before (Int32.toNatClampNeg x1) 0) H locs ls h hP hD hS (lv_sub hl [1, 0] rfl)
  generalize hlo : ([] : List Loc) = locs at hS ⊢
  obtain ⟨H, hH⟩ : ∃ z, z = s.heap := ⟨_, rfl⟩
  rw [show W p l e rm_X1_startWalk s m args below meth c s.heap = W p l e rm_X1_startWalk s m args below meth c H by rw [hH]]
  replace hP : va_P (dC, dI) vwCl [(h_this, .inr (1, [g_this_0, g_this_1, g_this_2, g_this_3, g_this_4, .ref h_before, g_this_6])), (h_before, .inl (cy, 9, .inl a_before))] H := by rw [hH]; exact hP
  replace hS : va_S A s.heap H locs := by rw [hH]; exact hS
  clear hH hlo
  refine lv_iconst (v := 0) hx hb dX1_startWalk_0 (by decide) ?_
  refine lv_istore_n (lv' := [(1, .int 0), (0, .ref h_this)]) hx hb dX1_startWalk_1 rfl hl (by decide) rfl (fun ls hl => ?_)
  obtain ⟨n2, h⟩ := h
  refine L2  _ n2 0 a_before H locs ls h hP hD hS (lv_sub hl [1, 0] rfl) (fun x1_21 a_before_21 H locs ls h hP hD hS hl => ?_)
  exact RET a_before_21 H locs ls 21 dX1_startWalk_21 h hP hD hS
abbrev rm_X1_walkOn : Room := { frames := 2, cells := 0, slots := 0, locals := 43 }
theorem q_X1_walkOn : yX1_walkOn.cls = RX1 ∧ yX1_walkOn.cls ≠ "java/lang/invoke/MethodHandle" ∧ yX1_walkOn.cls ≠ "java/lang/invoke/VarHandle" ∧ (parseMethodDescriptor yX1_walkOn.desc).map (fun d => d.parameters.length) = some 2 := by decide +kernel
set_option maxHeartbeats 4000000 in
set_option maxRecDepth 100000 in
theorem c_X1_walkOn (l : Launch) (dC : Nat → ClassId) (dI : Nat → Nat → Nat) (cy : ClassId) (n_p1 : Nat) (h_this : Nat) (h_before : Nat) (h_joined : Nat) (h_p1 : Nat) (sz : Nat) (g_this_0 g_this_1 g_this_2 g_this_3 g_this_4 : Value) (a_before : Nat → Int32) (a_joined : Nat → Int32) (a_p1 : Nat → Int32) (x2 : Int32) (Q : (Nat → Int32) → (Nat → Int32) → Prop) (h : p_X1_walkOn n_p1 a_before a_joined a_p1 x2 Q) : Met l yX1_walkOn wsX1_walkOn rm_X1_walkOn (va_Pc [.ref h_this, .ref h_p1, .int x2] (fun U => U.heap.size = sz ∧ va_P (dC, dI) vwCl [(h_this, .inr (1, [g_this_0, g_this_1, g_this_2, g_this_3, g_this_4, .ref h_before, .ref h_joined])), (h_before, .inl (cy, 9, .inl a_before)), (h_joined, .inl (cy, 9, .inl a_joined)), (h_p1, .inl (cy, n_p1, .inl a_p1))] U.heap ∧ va_K (dC, dI) vwCl [(cy, .int)] U ∧ va_D (fun _ => True) [(h_this, .inr (1, [g_this_0, g_this_1, g_this_2, g_this_3, g_this_4, .ref h_before, .ref h_joined])), (h_before, .inl (cy, 9, .inl a_before)), (h_joined, .inl (cy, 9, .inl a_joined)), (h_p1, .inl (cy, n_p1, .inl a_p1))])) (va_Qv (fun (u : (Nat → Int32) × (Nat → Int32)) => Q u.1 u.2) (fun (u : (Nat → Int32) × (Nat → Int32)) (t : State) => va_P (dC, dI) vwCl [(h_this, .inr (1, [g_this_0, g_this_1, g_this_2, g_this_3, g_this_4, .ref h_before, .ref h_joined])), (h_before, .inl (cy, 9, .inl (u.1))), (h_joined, .inl (cy, 9, .inl (u.2))), (h_p1, .inl (cy, n_p1, .inl a_p1))] t.heap ∧ va_K (dC, dI) vwCl [(cy, .int)] t ∧ va_D (va_A [(h_this, .inr (1, [g_this_0, g_this_1, g_this_2, g_this_3, g_this_4, .ref h_before, .ref h_joined])), (h_before, .inl (cy, 9, .inl a_before)), (h_joined, .inl (cy, 9, .inl a_joined)), (h_p1, .inl (cy, n_p1, .inl a_p1))] sz) [(h_this, .inr (1, [g_this_0, g_this_1, g_this_2, g_this_3, g_this_4, .ref h_before, .ref h_joined])), (h_before, .inl (cy, 9, .inl (u.1))), (h_joined, .inl (cy, 9, .inl (u.2))), (h_p1, .inl (cy, n_p1, .inl a_p1))]) (va_A [(h_this, .inr (1, [g_this_0, g_this_1, g_this_2, g_this_3, g_this_4, .ref h_before, .ref h_joined])), (h_before, .inl (cy, 9, .inl a_before)), (h_joined, .inl (cy, 9, .inl a_joined)), (h_p1, .inl (cy, n_p1, .inl a_p1))] sz)) 0 0 (va_A [(h_this, .inr (1, [g_this_0, g_this_1, g_this_2, g_this_3, g_this_4, .ref h_before, .ref h_joined])), (h_before, .inl (cy, 9, .inl a_before)), (h_joined, .inl (cy, 9, .inl a_joined)), (h_p1, .inl (cy, n_p1, .inl a_p1))] sz) := by
  refine Met.ofW (cc := cX1_walkOn) (maxL := 4) (ret := none) (by decide) rfl ?_
  intro p e s m args below meth c s₁ B hml hv
  obtain ⟨hargs, hsz, hP, hK, hD0⟩ := hv
  have hx := B.exec
  have hb := B.bytes
  have hr := B.returns
  have hts := atoms_spec (ws := wsX1_walkOn) B.pre
  have hown : s.vm.findClass RX1 = some m.cls := findClass_of_methodNamed B.named
  have hlocks := B.notSynchronized
  subst hsz
  have hD := hD0.self (sz := s.heap.size)
  generalize hAe : va_A [(h_this, .inr (1, [g_this_0, g_this_1, g_this_2, g_this_3, g_this_4, .ref h_before, .ref h_joined])), (h_before, .inl (cy, 9, .inl a_before)), (h_joined, .inl (cy, 9, .inl a_joined)), (h_p1, .inl (cy, n_p1, .inl a_p1))] s.heap.size = A at hD ⊢
  have hA : ∀ q : Nat, s.heap.size ≤ q → A q := fun q h => by rw [← hAe]; exact Or.inr h
  have hS : va_S A s.heap s.heap [] := va_S.rf
  have in_X1 : ∀ w ∈ u_ws RX1 TX1 7, w ∈ wsX1_walkOn := by decide +kernel
  have k_28 := hts (.fieldLink RX1 28 "ChequeDesk$Head" "before" "[I") (by decide +kernel)
  have k_31 := hts (.fieldLink RX1 31 "ChequeDesk$Head" "joined" "[I") (by decide +kernel)
  have hl := lv_entry ([.ref h_this, .ref h_p1, .int x2]) (n := 4) (Nat.le_of_ble_eq_true rfl)
  rw [show entryFrame m args 4 = entryFrame m ([.ref h_this, .ref h_p1, .int x2] : List Value).toArray 4 by rw [hargs], lg_entry_eq]
  generalize (lg_sl ([.ref h_this, .ref h_p1, .int x2]) ++ List.replicate (4 - (lg_sl ([.ref h_this, .ref h_p1, .int x2])).length) Slot.unset).toArray = ls at hl ⊢
  have hl : lv_has ls 4 [(0, .ref h_this), (1, .ref h_p1), (2, .int x2)] := hl
  have hP : va_P (dC, dI) vwCl [(h_this, .inr (1, [g_this_0, g_this_1, g_this_2, g_this_3, g_this_4, .ref h_before, .ref h_joined])), (h_before, .inl (cy, 9, .inl a_before)), (h_joined, .inl (cy, 9, .inl a_joined)), (h_p1, .inl (cy, n_p1, .inl a_p1))] s.heap := hP
  change W p l e rm_X1_walkOn s m args below meth c s.heap [] 0 0 _ _
  generalize hQQ : MQ below _ _ _ _ _ _ = QQ
  have RET : ∀ (a_before : Nat → Int32) (a_joined : Nat → Int32) (H : Heap) (locs : List Loc) (ls : Array Slot) (pc : Nat), decode cX1_walkOn pc = .ok (.return_, 1) → Q a_before a_joined → va_P (dC, dI) vwCl [(h_this, .inr (1, [g_this_0, g_this_1, g_this_2, g_this_3, g_this_4, .ref h_before, .ref h_joined])), (h_before, .inl (cy, 9, .inl a_before)), (h_joined, .inl (cy, 9, .inl a_joined)), (h_p1, .inl (cy, n_p1, .inl a_p1))] H → va_D A [(h_this, .inr (1, [g_this_0, g_this_1, g_this_2, g_this_3, g_this_4, .ref h_before, .ref h_joined])), (h_before, .inl (cy, 9, .inl a_before)), (h_joined, .inl (cy, 9, .inl a_joined)), (h_p1, .inl (cy, n_p1, .inl a_p1))] → va_S A s.heap H locs → W p l e rm_X1_walkOn s m args below meth c H locs 0 0 QQ (F0 m pc ls []) := by
    intro a_before a_joined H locs ls pc hdg hq hP hD hS
    rw [← hQQ]
    exact W.vret hx hb hr (fun t ht hW => ⟨⟨(a_before, a_joined), rfl, hq, by rw [ht]; exact hP, va_K.moved hW.alike hK, hD⟩, hS.F ht⟩) hS.2.2 hdg
  clear hQQ
  unfold p_X1_walkOn at h
  have L34 : ∀ (a_joined : Nat → Int32) (K34 : Int32 → (Nat → Int32) → Prop) (n : Nat) (x3 : Int32) (a_before : Nat → Int32) (H : Heap) (locs : List Loc) (ls : Array Slot), wl2 (p_X1_walkOn_B34 a_joined K34) n x3 a_before → va_P (dC, dI) vwCl [(h_this, .inr (1, [g_this_0, g_this_1, g_this_2, g_this_3, g_this_4, .ref h_before, .ref h_joined])), (h_before, .inl (cy, 9, .inl a_before)), (h_joined, .inl (cy, 9, .inl a_joined)), (h_p1, .inl (cy, n_p1, .inl a_p1))] H → va_D A [(h_this, .inr (1, [g_this_0, g_this_1, g_this_2, g_this_3, g_this_4, .ref h_before, .ref h_joined])), (h_before, .inl (cy, 9, .inl a_before)), (h_joined, .inl (cy, 9, .inl a_joined)), (h_p1, .inl (cy, n_p1, .inl a_p1))] → va_S A s.heap H locs → lv_has ls 4 [(0, .ref h_this), (3, .int x3)] → (∀ (x3 : Int32) (a_before : Nat → Int32) (H : Heap) (locs : List Loc) (ls : Array Slot), K34 x3 a_before → va_P (dC, dI) vwCl [(h_this, .inr (1, [g_this_0, g_this_1, g_this_2, g_this_3, g_this_4, .ref h_before, .ref h_joined])), (h_before, .inl (cy, 9, .inl a_before)), (h_joined, .inl (cy, 9, .inl a_joined)), (h_p1, .inl (cy, n_p1, .inl a_p1))] H → va_D A [(h_this, .inr (1, [g_this_0, g_this_1, g_this_2, g_this_3, g_this_4, .ref h_before, .ref h_joined])), (h_before, .inl (cy, 9, .inl a_before)), (h_joined, .inl (cy, 9, .inl a_joined)), (h_p1, .inl (cy, n_p1, .inl a_p1))] → va_S A s.heap H locs → lv_has ls 4 [] → W p l e rm_X1_walkOn s m args below meth c H locs 0 0 QQ (F0 m 57 ls [])) → W p l e rm_X1_walkOn s m args below meth c H locs 0 0 QQ (F0 m 34 ls []) := by
    intro a_joined K34 n
    induction n with
    | zero => intro x3 a_before H locs ls h; exact False.elim h
    | succ n ih =>
      intro x3 a_before H locs ls h hP hD hS hl hk
      have ih := fun x3 a_before H locs ls h hP hD hS hl => ih x3 a_before H locs ls h hP hD hS hl hk
      replace h : p_X1_walkOn_B34 a_joined K34 (wl2 (p_X1_walkOn_B34 a_joined K34) n) x3 a_before := h
      unfold p_X1_walkOn_B34 at h
      refine lv_iload_n hx hb dX1_walkOn_34 rfl (lv_at hl 1 rfl) ?_
      refine lv_bipush (v := 9) hx hb dX1_walkOn_35 (by decide) ?_
      refine lv_icmp_ge (tgt := 57) hx hb dX1_walkOn_37 (by decide) (fun c37 => ?_) (fun c37 => ?_)
      · replace h := And.left h c37
        exact hk x3 a_before H locs ls h hP hD hS (lv_sub hl [] rfl)
      · replace h := And.right h c37
        refine lv_aload_n hx hb dX1_walkOn_40 rfl (lv_at hl 0 rfl) ?_
        refine va_get (D := (dC, dI)) (ci := 1) (v := .ref h_before) (C := RX1) (T := TX1) (N := 7) hx hb hts in_X1 hown hK hP 0 rfl rfl 5 (by decide) k_28 (fun _ h9 => h9) rfl dX1_walkOn_41 ?_
        refine lv_iload_n hx hb dX1_walkOn_44 rfl (lv_at hl 1 rfl) ?_
        refine lv_aload_n hx hb dX1_walkOn_45 rfl (lv_at hl 0 rfl) ?_
        refine lv_iload_n hx hb dX1_walkOn_46 rfl (lv_at hl 1 rfl) ?_
        have hPc := hP.sub (ws' := [(h_this, .inr (1, [g_this_0, g_this_1, g_this_2, g_this_3, g_this_4, .ref h_before, .ref h_joined])), (h_joined, .inl (cy, 9, .inl a_joined))]) [0, 2] rfl
        have hDc := hD.sub (ws' := [(h_this, .inr (1, [g_this_0, g_this_1, g_this_2, g_this_3, g_this_4, .ref h_before, .ref h_joined])), (h_joined, .inl (cy, 9, .inl a_joined))]) [0, 2] (by decide) rfl
        have hFc := va_free (wc := [(h_this, .inr (1, [g_this_0, g_this_1, g_this_2, g_this_3, g_this_4, .ref h_before, .ref h_joined])), (h_joined, .inl (cy, 9, .inl a_joined))]) hD hS hA [0, 2] rfl
        refine va_calli (va_runV (As := [.int x3]) (rest := [.int x3, .ref h_before]) ⟨hx, hb, hml, hown, hts⟩ (c_X1_leastNear l dC dI cy h_this h_joined H.size (g_this_0) (g_this_1) (g_this_2) (g_this_3) (g_this_4) (.ref h_before) a_joined x3 _ h) (cwV 1 hts gX1_walkOn_X1_leastNear rfl rfl rfl q_X1_leastNear ⟨Nat.le_of_ble_eq_true rfl, Nat.le_of_ble_eq_true rfl⟩) ⟨fun a U g mk q => by obtain ⟨q0, q1, qP, qK, qD⟩ := q; exact ⟨q0, q1, qP, va_K.moved (u := U) (U := U.calling g mk a) (Vm.Alike.refl U.vm) qK, qD⟩, va_recv hK hP (ci := 1) (q0 := 0) rfl rfl, fun U hU hW => ⟨rfl, by rw [hU], by rw [hU]; exact hPc, va_K.moved hW.alike hK, hDc.weaken (fun _ _ _ _ => trivial)⟩⟩ rfl rfl hl.1 rfl (lv_room (Nat.le_of_ble_eq_true rfl)) dX1_walkOn_47 ⟨Nat.le_of_ble_eq_true rfl, Nat.le_of_ble_eq_true rfl⟩) hS (fun q _ h => hFc q h) hFc (fun r47 u t H1 locs ht hvm hw hB hz1 hk1 hS => ?_)
        obtain ⟨hP1, hK1, hD1⟩ := hB
        rw [ht] at hP1
        obtain ⟨hP, hD⟩ := va_join (wr := [(h_before, .inl (cy, 9, .inl a_before)), (h_p1, .inl (cy, n_p1, .inl a_p1))]) (w1 := [(h_this, .inr (1, [g_this_0, g_this_1, g_this_2, g_this_3, g_this_4, .ref h_before, .ref h_joined])), (h_joined, .inl (cy, 9, .inl a_joined))]) hP hD [0, 2] [1, 3] rfl rfl (by decide) (by decide) hk1 hFc hP1 hD1
        replace hP := hP.sub (ws' := [(h_this, .inr (1, [g_this_0, g_this_1, g_this_2, g_this_3, g_this_4, .ref h_before, .ref h_joined])), (h_before, .inl (cy, 9, .inl a_before)), (h_joined, .inl (cy, 9, .inl a_joined)), (h_p1, .inl (cy, n_p1, .inl a_p1))]) [2, 0, 3, 1] rfl
        replace hD := hD.sub (ws' := [(h_this, .inr (1, [g_this_0, g_this_1, g_this_2, g_this_3, g_this_4, .ref h_before, .ref h_joined])), (h_before, .inl (cy, 9, .inl a_before)), (h_joined, .inl (cy, 9, .inl a_joined)), (h_p1, .inl (cy, n_p1, .inl a_p1))]) [2, 0, 3, 1] (by decide) rfl
        clear hPc hDc hFc hP1 hK1 hD1 hz1 hk1 hvm
        subst ht
        generalize t.heap = H at hP hS ⊢
        replace h := hw
        clear hw
        obtain ⟨b50, h⟩ := h
        refine va_iast hx hb hK hP hD hS 1 0 rfl rfl b50 dX1_walkOn_50 (fun H locs hP hD hS => ?_)
        have hP : va_P (dC, dI) vwCl [(h_this, .inr (1, [g_this_0, g_this_1, g_this_2, g_this_3, g_this_4, .ref h_before, .ref h_joined])), (h_before, .inl (cy, 9, .inl (upd a_before (Int32.toNatClampNeg x3) r47))), (h_joined, .inl (cy, 9, .inl a_joined)), (h_p1, .inl (cy, n_p1, .inl a_p1))] H := hP
        have hD : va_D A [(h_this, .inr (1, [g_this_0, g_this_1, g_this_2, g_this_3, g_this_4, .ref h_before, .ref h_joined])), (h_before, .inl (cy, 9, .inl (upd a_before (Int32.toNatClampNeg x3) r47))), (h_joined, .inl (cy, 9, .inl a_joined)), (h_p1, .inl (cy, n_p1, .inl a_p1))] := hD
        refine lv_iinc (v := x3 + 1) (lv' := [(3, .int (x3 + 1)), (0, .ref h_this)]) hx hb dX1_walkOn_51 hl (k := 1) rfl (by rfl) (by decide) rfl (fun ls hl => ?_)
        refine lv_goto (tgt := 34) hx hb dX1_walkOn_54 (by decide) ?_
        exact ih (x3 + 1) (upd a_before (Int32.toNatClampNeg x3) r47) H locs ls h hP hD hS (lv_sub hl [1, 0] rfl)
  have L2 : ∀ (x2 : Int32) (a_before : Nat → Int32) (K2 : Int32 → (Nat → Int32) → Prop) (n : Nat) (x3 : Int32) (a_joined : Nat → Int32) (H : Heap) (locs : List Loc) (ls : Array Slot), wl2 (p_X1_walkOn_B2 n_p1 a_before a_p1 x2 K2) n x3 a_joined → va_P (dC, dI) vwCl [(h_this, .inr (1, [g_this_0, g_this_1, g_this_2, g_this_3, g_this_4, .ref h_before, .ref h_joined])), (h_before, .inl (cy, 9, .inl a_before)), (h_joined, .inl (cy, 9, .inl a_joined)), (h_p1, .inl (cy, n_p1, .inl a_p1))] H → va_D A [(h_this, .inr (1, [g_this_0, g_this_1, g_this_2, g_this_3, g_this_4, .ref h_before, .ref h_joined])), (h_before, .inl (cy, 9, .inl a_before)), (h_joined, .inl (cy, 9, .inl a_joined)), (h_p1, .inl (cy, n_p1, .inl a_p1))] → va_S A s.heap H locs → lv_has ls 4 [(0, .ref h_this), (1, .ref h_p1), (2, .int x2), (3, .int x3)] → (∀ (x3 : Int32) (a_joined : Nat → Int32) (H : Heap) (locs : List Loc) (ls : Array Slot), K2 x3 a_joined → va_P (dC, dI) vwCl [(h_this, .inr (1, [g_this_0, g_this_1, g_this_2, g_this_3, g_this_4, .ref h_before, .ref h_joined])), (h_before, .inl (cy, 9, .inl a_before)), (h_joined, .inl (cy, 9, .inl a_joined)), (h_p1, .inl (cy, n_p1, .inl a_p1))] H → va_D A [(h_this, .inr (1, [g_this_0, g_this_1, g_this_2, g_this_3, g_this_4, .ref h_before, .ref h_joined])), (h_before, .inl (cy, 9, .inl a_before)), (h_joined, .inl (cy, 9, .inl a_joined)), (h_p1, .inl (cy, n_p1, .inl a_p1))] → va_S A s.heap H locs → lv_has ls 4 [(0, .ref h_this)] → W p l e rm_X1_walkOn s m args below meth c H locs 0 0 QQ (F0 m 32 ls [])) → W p l e rm_X1_walkOn s m args below meth c H locs 0 0 QQ (F0 m 2 ls []) := by
    intro x2 a_before K2 n
    induction n with
    | zero => intro x3 a_joined H locs ls h; exact False.elim h
    | succ n ih =>
      intro x3 a_joined H locs ls h hP hD hS hl hk
      have ih := fun x3 a_joined H locs ls h hP hD hS hl => ih x3 a_joined H locs ls h hP hD hS hl hk
      replace h : p_X1_walkOn_B2 n_p1 a_before a_p1 x2 K2 (wl2 (p_X1_walkOn_B2 n_p1 a_before a_p1 x2 K2) n) x3 a_joined := h
      unfold p_X1_walkOn_B2 at h
      refine lv_iload_n hx hb dX1_walkOn_2 rfl (lv_at hl 3 rfl) ?_
      refine lv_bipush (v := 9) hx hb dX1_walkOn_3 (by decide) ?_
      refine lv_icmp_ge (tgt := 32) hx hb dX1_walkOn_5 (by decide) (fun c5 => ?_) (fun c5 => ?_)
      · replace h := And.left h c5
        exact hk x3 a_joined H locs ls h hP hD hS (lv_sub hl [0] rfl)
      · replace h := And.right h c5
        refine lv_aload_n hx hb dX1_walkOn_8 rfl (lv_at hl 0 rfl) ?_
        refine va_get (D := (dC, dI)) (ci := 1) (v := .ref h_joined) (C := RX1) (T := TX1) (N := 7) hx hb hts in_X1 hown hK hP 0 rfl rfl 6 (by decide) k_31 (fun _ h9 => h9) rfl dX1_walkOn_9 ?_
        refine lv_iload_n hx hb dX1_walkOn_12 rfl (lv_at hl 3 rfl) ?_
        refine lv_aload_n hx hb dX1_walkOn_13 rfl (lv_at hl 0 rfl) ?_
        refine va_get (D := (dC, dI)) (ci := 1) (v := .ref h_before) (C := RX1) (T := TX1) (N := 7) hx hb hts in_X1 hown hK hP 0 rfl rfl 5 (by decide) k_28 (fun _ h9 => h9) rfl dX1_walkOn_14 ?_
        refine lv_iload_n hx hb dX1_walkOn_17 rfl (lv_at hl 3 rfl) ?_
        obtain ⟨b18, h⟩ := h
        refine va_iald hx hb hK hP 1 0 rfl rfl b18 dX1_walkOn_18 ?_
        refine lv_aload_n hx hb dX1_walkOn_19 rfl (lv_at hl 1 rfl) ?_
        refine lv_iload_n hx hb dX1_walkOn_20 rfl (lv_at hl 2 rfl) ?_
        refine lv_iload_n hx hb dX1_walkOn_21 rfl (lv_at hl 3 rfl) ?_
        refine lv_iadd hx hb dX1_walkOn_22 ?_
        obtain ⟨b23, h⟩ := h
        refine va_iald hx hb hK hP 3 0 rfl rfl b23 dX1_walkOn_23 ?_
        refine lv_iadd hx hb dX1_walkOn_24 ?_
        obtain ⟨b25, h⟩ := h
        refine va_iast hx hb hK hP hD hS 2 0 rfl rfl b25 dX1_walkOn_25 (fun H locs hP hD hS => ?_)
        have hP : va_P (dC, dI) vwCl [(h_this, .inr (1, [g_this_0, g_this_1, g_this_2, g_this_3, g_this_4, .ref h_before, .ref h_joined])), (h_before, .inl (cy, 9, .inl a_before)), (h_joined, .inl (cy, 9, .inl (upd a_joined (Int32.toNatClampNeg x3) ((a_before (Int32.toNatClampNeg x3)) + (a_p1 (Int32.toNatClampNeg (x2 + x3))))))), (h_p1, .inl (cy, n_p1, .inl a_p1))] H := hP
        have hD : va_D A [(h_this, .inr (1, [g_this_0, g_this_1, g_this_2, g_this_3, g_this_4, .ref h_before, .ref h_joined])), (h_before, .inl (cy, 9, .inl a_before)), (h_joined, .inl (cy, 9, .inl (upd a_joined (Int32.toNatClampNeg x3) ((a_before (Int32.toNatClampNeg x3)) + (a_p1 (Int32.toNatClampNeg (x2 + x3))))))), (h_p1, .inl (cy, n_p1, .inl a_p1))] := hD
        refine lv_iinc (v := x3 + 1) (lv' := [(3, .int (x3 + 1)), (0, .ref h_this), (1, .ref h_p1), (2, .int x2)]) hx hb dX1_walkOn_26 hl (k := 3) rfl (by rfl) (by decide) rfl (fun ls hl => ?_)
        refine lv_goto (tgt := 2) hx hb dX1_walkOn_29 (by decide) ?_
        exact ih (x3 + 1) (upd a_joined (Int32.toNatClampNeg x3) ((a_before (Int32.toNatClampNeg x3)) + (a_p1 (Int32.toNatClampNeg (x2 + x3))))) H locs ls h hP hD hS (lv_sub hl [1, 2, 3, 0] rfl)
  generalize hlo : ([] : List Loc) = locs at hS ⊢
  obtain ⟨H, hH⟩ : ∃ z, z = s.heap := ⟨_, rfl⟩
  rw [show W p l e rm_X1_walkOn s m args below meth c s.heap = W p l e rm_X1_walkOn s m args below meth c H by rw [hH]]
  replace hP : va_P (dC, dI) vwCl [(h_this, .inr (1, [g_this_0, g_this_1, g_this_2, g_this_3, g_this_4, .ref h_before, .ref h_joined])), (h_before, .inl (cy, 9, .inl a_before)), (h_joined, .inl (cy, 9, .inl a_joined)), (h_p1, .inl (cy, n_p1, .inl a_p1))] H := by rw [hH]; exact hP
  replace hS : va_S A s.heap H locs := by rw [hH]; exact hS
  clear hH hlo
  refine lv_iconst (v := 0) hx hb dX1_walkOn_0 (by decide) ?_
  refine lv_istore_n (lv' := [(3, .int 0), (0, .ref h_this), (1, .ref h_p1), (2, .int x2)]) hx hb dX1_walkOn_1 rfl hl (by decide) rfl (fun ls hl => ?_)
  obtain ⟨n2, h⟩ := h
  refine L2 x2 a_before _ n2 0 a_joined H locs ls h hP hD hS (lv_sub hl [1, 2, 3, 0] rfl) (fun x3_32 a_joined_32 H locs ls h hP hD hS hl => ?_)
  refine lv_iconst (v := 0) hx hb dX1_walkOn_32 (by decide) ?_
  refine lv_istore_n (lv' := [(3, .int 0), (0, .ref h_this)]) hx hb dX1_walkOn_33 rfl hl (by decide) rfl (fun ls hl => ?_)
  obtain ⟨n34, h⟩ := h
  refine L34 a_joined_32 _ n34 0 a_before H locs ls h hP hD hS (lv_sub hl [1, 0] rfl) (fun x3_57 a_before_57 H locs ls h hP hD hS hl => ?_)
  exact RET a_before_57 a_joined_32 H locs ls 57 dX1_walkOn_57 h hP hD hS
abbrev rm_X1_leastThrough : Room := { frames := 1, cells := 0, slots := 0, locals := 21 }
theorem q_X1_leastThrough : yX1_leastThrough.cls = RX1 ∧ yX1_leastThrough.cls ≠ "java/lang/invoke/MethodHandle" ∧ yX1_leastThrough.cls ≠ "java/lang/invoke/VarHandle" ∧ (parseMethodDescriptor yX1_leastThrough.desc).map (fun d => d.parameters.length) = some 2 := by decide +kernel
set_option maxHeartbeats 4000000 in
set_option maxRecDepth 100000 in
theorem c_X1_leastThrough (l : Launch) (dC : Nat → ClassId) (dI : Nat → Nat → Nat) (cy : ClassId) (h_this : Nat) (h_before : Nat) (h_behind : Nat) (h_costs : Nat) (sz : Nat) (g_this_0 g_this_1 g_this_3 g_this_6 : Value) (a_before : Nat → Int32) (a_behind : Nat → Int32) (a_costs : Nat → Int32) (x1 : Int32) (x2 : Int32) (Q : Int32 → Prop) (h : p_X1_leastThrough a_before a_behind a_costs x1 x2 Q) : Met l yX1_leastThrough wsX1_leastThrough rm_X1_leastThrough (va_Pc [.ref h_this, .int x1, .int x2] (fun U => U.heap.size = sz ∧ va_P (dC, dI) vwCl [(h_this, .inr (1, [g_this_0, g_this_1, .ref h_costs, g_this_3, .ref h_behind, .ref h_before, g_this_6])), (h_before, .inl (cy, 9, .inl a_before)), (h_behind, .inl (cy, 180, .inl a_behind)), (h_costs, .inl (cy, 2160, .inl a_costs))] U.heap ∧ va_K (dC, dI) vwCl [(cy, .int)] U ∧ va_D (fun _ => True) [(h_this, .inr (1, [g_this_0, g_this_1, .ref h_costs, g_this_3, .ref h_behind, .ref h_before, g_this_6])), (h_before, .inl (cy, 9, .inl a_before)), (h_behind, .inl (cy, 180, .inl a_behind)), (h_costs, .inl (cy, 2160, .inl a_costs))])) (va_Qi (fun (r : Int32) (u : Unit) => Q r) (fun (u : Unit) (t : State) => va_P (dC, dI) vwCl [(h_this, .inr (1, [g_this_0, g_this_1, .ref h_costs, g_this_3, .ref h_behind, .ref h_before, g_this_6])), (h_before, .inl (cy, 9, .inl a_before)), (h_behind, .inl (cy, 180, .inl a_behind)), (h_costs, .inl (cy, 2160, .inl a_costs))] t.heap ∧ va_K (dC, dI) vwCl [(cy, .int)] t ∧ va_D (va_A [(h_this, .inr (1, [g_this_0, g_this_1, .ref h_costs, g_this_3, .ref h_behind, .ref h_before, g_this_6])), (h_before, .inl (cy, 9, .inl a_before)), (h_behind, .inl (cy, 180, .inl a_behind)), (h_costs, .inl (cy, 2160, .inl a_costs))] sz) [(h_this, .inr (1, [g_this_0, g_this_1, .ref h_costs, g_this_3, .ref h_behind, .ref h_before, g_this_6])), (h_before, .inl (cy, 9, .inl a_before)), (h_behind, .inl (cy, 180, .inl a_behind)), (h_costs, .inl (cy, 2160, .inl a_costs))]) (va_A [(h_this, .inr (1, [g_this_0, g_this_1, .ref h_costs, g_this_3, .ref h_behind, .ref h_before, g_this_6])), (h_before, .inl (cy, 9, .inl a_before)), (h_behind, .inl (cy, 180, .inl a_behind)), (h_costs, .inl (cy, 2160, .inl a_costs))] sz)) 0 0 (va_A [(h_this, .inr (1, [g_this_0, g_this_1, .ref h_costs, g_this_3, .ref h_behind, .ref h_before, g_this_6])), (h_before, .inl (cy, 9, .inl a_before)), (h_behind, .inl (cy, 180, .inl a_behind)), (h_costs, .inl (cy, 2160, .inl a_costs))] sz) := by
  refine Met.ofW (cc := cX1_leastThrough) (maxL := 7) (ret := (some .int)) (by decide) rfl ?_
  intro p e s m args below meth c s₁ B hml hv
  obtain ⟨hargs, hsz, hP, hK, hD0⟩ := hv
  have hx := B.exec
  have hb := B.bytes
  have hr := B.returns
  have hts := atoms_spec (ws := wsX1_leastThrough) B.pre
  have hown : s.vm.findClass RX1 = some m.cls := findClass_of_methodNamed B.named
  have hlocks := B.notSynchronized
  subst hsz
  have hD := hD0.self (sz := s.heap.size)
  generalize hAe : va_A [(h_this, .inr (1, [g_this_0, g_this_1, .ref h_costs, g_this_3, .ref h_behind, .ref h_before, g_this_6])), (h_before, .inl (cy, 9, .inl a_before)), (h_behind, .inl (cy, 180, .inl a_behind)), (h_costs, .inl (cy, 2160, .inl a_costs))] s.heap.size = A at hD ⊢
  have hA : ∀ q : Nat, s.heap.size ≤ q → A q := fun q h => by rw [← hAe]; exact Or.inr h
  have hS : va_S A s.heap s.heap [] := va_S.rf
  have in_X1 : ∀ w ∈ u_ws RX1 TX1 7, w ∈ wsX1_leastThrough := by decide +kernel
  have k_19 := hts (.fieldLink RX1 19 "ChequeDesk$Head" "costs" "[I") (by decide +kernel)
  have k_25 := hts (.fieldLink RX1 25 "ChequeDesk$Head" "behind" "[I") (by decide +kernel)
  have k_28 := hts (.fieldLink RX1 28 "ChequeDesk$Head" "before" "[I") (by decide +kernel)
  have m_48_1 := hts (.methodLink RX1 48 Lib.Math.min.name) (by decide +kernel)
  have m_48_2 := hts (.static Lib.Math.min.name) (by decide +kernel)
  have m_48_3 := hts (.initialized "java/lang/Math") (by decide +kernel)
  have m_48_4 := hts (.code Lib.Math.min.name Lib.Math.min.code 2 (some .int)) (by decide +kernel)
  have hl := lv_entry ([.ref h_this, .int x1, .int x2]) (n := 7) (Nat.le_of_ble_eq_true rfl)
  rw [show entryFrame m args 7 = entryFrame m ([.ref h_this, .int x1, .int x2] : List Value).toArray 7 by rw [hargs], lg_entry_eq]
  generalize (lg_sl ([.ref h_this, .int x1, .int x2]) ++ List.replicate (7 - (lg_sl ([.ref h_this, .int x1, .int x2])).length) Slot.unset).toArray = ls at hl ⊢
  have hl : lv_has ls 7 [(0, .ref h_this), (1, .int x1), (2, .int x2)] := hl
  have hP : va_P (dC, dI) vwCl [(h_this, .inr (1, [g_this_0, g_this_1, .ref h_costs, g_this_3, .ref h_behind, .ref h_before, g_this_6])), (h_before, .inl (cy, 9, .inl a_before)), (h_behind, .inl (cy, 180, .inl a_behind)), (h_costs, .inl (cy, 2160, .inl a_costs))] s.heap := hP
  change W p l e rm_X1_leastThrough s m args below meth c s.heap [] 0 0 _ _
  generalize hQQ : MQ below _ _ _ _ _ _ = QQ
  have RET : ∀ (r : Int32) (H : Heap) (locs : List Loc) (ls : Array Slot) (pc : Nat), decode cX1_leastThrough pc = .ok (.ireturn, 1) → Q r → va_P (dC, dI) vwCl [(h_this, .inr (1, [g_this_0, g_this_1, .ref h_costs, g_this_3, .ref h_behind, .ref h_before, g_this_6])), (h_before, .inl (cy, 9, .inl a_before)), (h_behind, .inl (cy, 180, .inl a_behind)), (h_costs, .inl (cy, 2160, .inl a_costs))] H → va_D A [(h_this, .inr (1, [g_this_0, g_this_1, .ref h_costs, g_this_3, .ref h_behind, .ref h_before, g_this_6])), (h_before, .inl (cy, 9, .inl a_before)), (h_behind, .inl (cy, 180, .inl a_behind)), (h_costs, .inl (cy, 2160, .inl a_costs))] → va_S A s.heap H locs → W p l e rm_X1_leastThrough s m args below meth c H locs 0 0 QQ (F0 m pc ls [.int r]) := by
    intro r  H locs ls pc hdg hq hP hD hS
    rw [← hQQ]
    exact W.iret (v := r) hx hb hr (fun t ht hW => ⟨⟨r, (), rfl, hq, by rw [ht]; exact hP, va_K.moved hW.alike hK, hD⟩, hS.F ht⟩) hS.2.2 hdg
  clear hQQ
  unfold p_X1_leastThrough at h
  have L38 : ∀ (x3 : Int32) (x4 : Int32) (K38 : Int32 → Int32 → Prop) (n : Nat) (x5 : Int32) (x6 : Int32) (H : Heap) (locs : List Loc) (ls : Array Slot), wl2 (p_X1_leastThrough_B38 a_before a_behind a_costs x3 x4 K38) n x5 x6 → va_P (dC, dI) vwCl [(h_this, .inr (1, [g_this_0, g_this_1, .ref h_costs, g_this_3, .ref h_behind, .ref h_before, g_this_6])), (h_before, .inl (cy, 9, .inl a_before)), (h_behind, .inl (cy, 180, .inl a_behind)), (h_costs, .inl (cy, 2160, .inl a_costs))] H → va_D A [(h_this, .inr (1, [g_this_0, g_this_1, .ref h_costs, g_this_3, .ref h_behind, .ref h_before, g_this_6])), (h_before, .inl (cy, 9, .inl a_before)), (h_behind, .inl (cy, 180, .inl a_behind)), (h_costs, .inl (cy, 2160, .inl a_costs))] → va_S A s.heap H locs → lv_has ls 7 [(0, .ref h_this), (3, .int x3), (4, .int x4), (5, .int x5), (6, .int x6)] → (∀ (x5 : Int32) (x6 : Int32) (H : Heap) (locs : List Loc) (ls : Array Slot), K38 x5 x6 → va_P (dC, dI) vwCl [(h_this, .inr (1, [g_this_0, g_this_1, .ref h_costs, g_this_3, .ref h_behind, .ref h_before, g_this_6])), (h_before, .inl (cy, 9, .inl a_before)), (h_behind, .inl (cy, 180, .inl a_behind)), (h_costs, .inl (cy, 2160, .inl a_costs))] H → va_D A [(h_this, .inr (1, [g_this_0, g_this_1, .ref h_costs, g_this_3, .ref h_behind, .ref h_before, g_this_6])), (h_before, .inl (cy, 9, .inl a_before)), (h_behind, .inl (cy, 180, .inl a_behind)), (h_costs, .inl (cy, 2160, .inl a_costs))] → va_S A s.heap H locs → lv_has ls 7 [(5, .int x5)] → W p l e rm_X1_leastThrough s m args below meth c H locs 0 0 QQ (F0 m 86 ls [])) → W p l e rm_X1_leastThrough s m args below meth c H locs 0 0 QQ (F0 m 38 ls []) := by
    intro x3 x4 K38 n
    induction n with
    | zero => intro x5 x6 H locs ls h; exact False.elim h
    | succ n ih =>
      intro x5 x6 H locs ls h hP hD hS hl hk
      have ih := fun x5 x6 H locs ls h hP hD hS hl => ih x5 x6 H locs ls h hP hD hS hl hk
      replace h : p_X1_leastThrough_B38 a_before a_behind a_costs x3 x4 K38 (wl2 (p_X1_leastThrough_B38 a_before a_behind a_costs x3 x4 K38) n) x5 x6 := h
      unfold p_X1_leastThrough_B38 at h
      refine lv_iload hx hb dX1_leastThrough_38 (lv_at hl 4 rfl) ?_
      refine lv_bipush (v := 9) hx hb dX1_leastThrough_40 (by decide) ?_
      refine lv_icmp_ge (tgt := 86) hx hb dX1_leastThrough_42 (by decide) (fun c42 => ?_) (fun c42 => ?_)
      · replace h := And.left h c42
        exact hk x5 x6 H locs ls h hP hD hS (lv_sub hl [3] rfl)
      · replace h := And.right h c42
        refine lv_iload hx hb dX1_leastThrough_45 (lv_at hl 3 rfl) ?_
        refine lv_aload_n hx hb dX1_leastThrough_47 rfl (lv_at hl 0 rfl) ?_
        refine va_get (D := (dC, dI)) (ci := 1) (v := .ref h_before) (C := RX1) (T := TX1) (N := 7) hx hb hts in_X1 hown hK hP 0 rfl rfl 5 (by decide) k_28 (fun _ h9 => h9) rfl dX1_leastThrough_48 ?_
        refine lv_iload hx hb dX1_leastThrough_51 (lv_at hl 4 rfl) ?_
        obtain ⟨b53, h⟩ := h
        refine va_iald hx hb hK hP 1 0 rfl rfl b53 dX1_leastThrough_53 ?_
        refine lv_aload_n hx hb dX1_leastThrough_54 rfl (lv_at hl 0 rfl) ?_
        refine va_get (D := (dC, dI)) (ci := 1) (v := .ref h_costs) (C := RX1) (T := TX1) (N := 7) hx hb hts in_X1 hown hK hP 0 rfl rfl 2 (by decide) k_19 (fun _ h9 => h9) rfl dX1_leastThrough_55 ?_
        refine lv_iload_n hx hb dX1_leastThrough_58 rfl (lv_at hl 1 rfl) ?_
        refine lv_iload hx hb dX1_leastThrough_59 (lv_at hl 4 rfl) ?_
        refine lv_iadd hx hb dX1_leastThrough_61 ?_
        obtain ⟨b62, h⟩ := h
        refine va_iald hx hb hK hP 3 0 rfl rfl b62 dX1_leastThrough_62 ?_
        refine lv_iadd hx hb dX1_leastThrough_63 ?_
        refine lv_aload_n hx hb dX1_leastThrough_64 rfl (lv_at hl 0 rfl) ?_
        refine va_get (D := (dC, dI)) (ci := 1) (v := .ref h_behind) (C := RX1) (T := TX1) (N := 7) hx hb hts in_X1 hown hK hP 0 rfl rfl 4 (by decide) k_25 (fun _ h9 => h9) rfl dX1_leastThrough_65 ?_
        refine lv_iload hx hb dX1_leastThrough_68 (lv_at hl 2 rfl) ?_
        refine lv_iload hx hb dX1_leastThrough_70 (lv_at hl 4 rfl) ?_
        refine lv_iadd hx hb dX1_leastThrough_72 ?_
        obtain ⟨b73, h⟩ := h
        refine va_iald hx hb hK hP 2 0 rfl rfl b73 dX1_leastThrough_73 ?_
        refine lv_iadd hx hb dX1_leastThrough_74 ?_
        refine my_mmin hx hb (by rw [hml]; exact hl.1.symm) hown m_48_1 m_48_2 m_48_3 m_48_4 (Nat.le_of_ble_eq_true rfl) (Nat.le_of_ble_eq_true rfl) (Nat.zero_le _) (Nat.zero_le _) dX1_leastThrough_75 ?_
        refine lv_istore (lv' := [(5, .int (jmin x5 (((a_before (Int32.toNatClampNeg x6)) + (a_costs (Int32.toNatClampNeg (x3 + x6)))) + (a_behind (Int32.toNatClampNeg (x4 + x6)))))), (0, .ref h_this), (3, .int x3), (4, .int x4), (6, .int x6)]) hx hb dX1_leastThrough_78 hl (by decide) rfl (fun ls hl => ?_)
        refine lv_iinc (v := x6 + 1) (lv' := [(6, .int (x6 + 1)), (5, .int (jmin x5 (((a_before (Int32.toNatClampNeg x6)) + (a_costs (Int32.toNatClampNeg (x3 + x6)))) + (a_behind (Int32.toNatClampNeg (x4 + x6)))))), (0, .ref h_this), (3, .int x3), (4, .int x4)]) hx hb dX1_leastThrough_80 hl (k := 4) rfl (by rfl) (by decide) rfl (fun ls hl => ?_)
        refine lv_goto (tgt := 38) hx hb dX1_leastThrough_83 (by decide) ?_
        exact ih (jmin x5 (((a_before (Int32.toNatClampNeg x6)) + (a_costs (Int32.toNatClampNeg (x3 + x6)))) + (a_behind (Int32.toNatClampNeg (x4 + x6))))) (x6 + 1) H locs ls h hP hD hS (lv_sub hl [2, 3, 4, 1, 0] rfl)
  generalize hlo : ([] : List Loc) = locs at hS ⊢
  obtain ⟨H, hH⟩ : ∃ z, z = s.heap := ⟨_, rfl⟩
  rw [show W p l e rm_X1_leastThrough s m args below meth c s.heap = W p l e rm_X1_leastThrough s m args below meth c H by rw [hH]]
  replace hP : va_P (dC, dI) vwCl [(h_this, .inr (1, [g_this_0, g_this_1, .ref h_costs, g_this_3, .ref h_behind, .ref h_before, g_this_6])), (h_before, .inl (cy, 9, .inl a_before)), (h_behind, .inl (cy, 180, .inl a_behind)), (h_costs, .inl (cy, 2160, .inl a_costs))] H := by rw [hH]; exact hP
  replace hS : va_S A s.heap H locs := by rw [hH]; exact hS
  clear hH hlo
  refine lv_iload_n hx hb dX1_leastThrough_0 rfl (lv_at hl 1 rfl) ?_
  refine lv_iload_n hx hb dX1_leastThrough_1 rfl (lv_at hl 2 rfl) ?_
  have hPc := hP.sub (ws' := []) [] rfl
  have hDc := hD.sub (ws' := []) [] (by decide) rfl
  have hFc := va_free (wc := []) hD hS hA [] rfl
  refine va_calli (va_runS (As := [.int x1, .int x2]) (rest := []) ⟨hx, hb, hml, hown, hts⟩ (c_X1_rowOf l dC dI cy  H.size   x1 x2 _ h) (va_cwS 2 hts gX1_leastThrough_X1_rowOf rfl rfl rfl q_X1_rowOf ⟨Nat.le_of_ble_eq_true rfl, Nat.le_of_ble_eq_true rfl⟩) ⟨fun a U g mk q => by obtain ⟨q0, q1, qP, qK, qD⟩ := q; exact ⟨q0, q1, qP, va_K.moved (u := U) (U := U.calling g mk a) (Vm.Alike.refl U.vm) qK, qD⟩, fun U hU hW => ⟨rfl, by rw [hU], by rw [hU]; exact hPc, va_K.moved hW.alike hK, hDc.weaken (fun _ _ _ _ => trivial)⟩⟩ rfl rfl hl.1 rfl (lv_room (Nat.le_of_ble_eq_true rfl)) dX1_leastThrough_2 ⟨Nat.le_of_ble_eq_true rfl, Nat.le_of_ble_eq_true rfl⟩) hS (fun q _ h => hFc q h) hFc (fun r2 u t H1 locs ht hvm hw hB hz1 hk1 hS => ?_)
  obtain ⟨hP1, hK1, hD1⟩ := hB
  rw [ht] at hP1
  obtain ⟨hP, hD⟩ := va_join (wr := [(h_this, .inr (1, [g_this_0, g_this_1, .ref h_costs, g_this_3, .ref h_behind, .ref h_before, g_this_6])), (h_before, .inl (cy, 9, .inl a_before)), (h_behind, .inl (cy, 180, .inl a_behind)), (h_costs, .inl (cy, 2160, .inl a_costs))]) (w1 := []) hP hD [] [0, 1, 2, 3] rfl rfl (by decide) (by decide) hk1 hFc hP1 hD1
  replace hP := hP.sub (ws' := [(h_this, .inr (1, [g_this_0, g_this_1, .ref h_costs, g_this_3, .ref h_behind, .ref h_before, g_this_6])), (h_before, .inl (cy, 9, .inl a_before)), (h_behind, .inl (cy, 180, .inl a_behind)), (h_costs, .inl (cy, 2160, .inl a_costs))]) [0, 1, 2, 3] rfl
  replace hD := hD.sub (ws' := [(h_this, .inr (1, [g_this_0, g_this_1, .ref h_costs, g_this_3, .ref h_behind, .ref h_before, g_this_6])), (h_before, .inl (cy, 9, .inl a_before)), (h_behind, .inl (cy, 180, .inl a_behind)), (h_costs, .inl (cy, 2160, .inl a_costs))]) [0, 1, 2, 3] (by decide) rfl
  clear hPc hDc hFc hP1 hK1 hD1 hz1 hk1 hvm
  subst ht
  generalize t.heap = H at hP hS ⊢
  replace h := hw
  clear hw
  refine lv_istore_n (lv' := [(3, .int r2), (0, .ref h_this), (1, .int x1), (2, .int x2)]) hx hb dX1_leastThrough_5 rfl hl (by decide) rfl (fun ls hl => ?_)
  refine lv_iload_n hx hb dX1_leastThrough_6 rfl (lv_at hl 2 rfl) ?_
  refine lv_bipush (v := 9) hx hb dX1_leastThrough_7 (by decide) ?_
  refine lv_imul hx hb dX1_leastThrough_9 ?_
  refine lv_istore (lv' := [(4, .int (x1 * 9)), (3, .int r2), (0, .ref h_this), (1, .int x1), (2, .int x2)]) hx hb dX1_leastThrough_10 hl (by decide) rfl (fun ls hl => ?_)
  refine lv_aload_n hx hb dX1_leastThrough_12 rfl (lv_at hl 2 rfl) ?_
  refine va_get (D := (dC, dI)) (ci := 1) (v := .ref h_before) (C := RX1) (T := TX1) (N := 7) hx hb hts in_X1 hown hK hP 0 rfl rfl 5 (by decide) k_28 (fun _ h9 => h9) rfl dX1_leastThrough_13 ?_
  refine lv_iconst (v := 0) hx hb dX1_leastThrough_16 (by decide) ?_
  obtain ⟨b17, h⟩ := h
  refine va_iald hx hb hK hP 1 0 rfl rfl b17 dX1_leastThrough_17 ?_
  refine lv_aload_n hx hb dX1_leastThrough_18 rfl (lv_at hl 2 rfl) ?_
  refine va_get (D := (dC, dI)) (ci := 1) (v := .ref h_costs) (C := RX1) (T := TX1) (N := 7) hx hb hts in_X1 hown hK hP 0 rfl rfl 2 (by decide) k_19 (fun _ h9 => h9) rfl dX1_leastThrough_19 ?_
  refine lv_iload_n hx hb dX1_leastThrough_22 rfl (lv_at hl 1 rfl) ?_
  obtain ⟨b23, h⟩ := h
  refine va_iald hx hb hK hP 3 0 rfl rfl b23 dX1_leastThrough_23 ?_
  refine lv_iadd hx hb dX1_leastThrough_24 ?_
  refine lv_aload_n hx hb dX1_leastThrough_25 rfl (lv_at hl 2 rfl) ?_
  refine va_get (D := (dC, dI)) (ci := 1) (v := .ref h_behind) (C := RX1) (T := TX1) (N := 7) hx hb hts in_X1 hown hK hP 0 rfl rfl 4 (by decide) k_25 (fun _ h9 => h9) rfl dX1_leastThrough_26 ?_
  refine lv_iload hx hb dX1_leastThrough_29 (lv_at hl 0 rfl) ?_
  obtain ⟨b31, h⟩ := h
  refine va_iald hx hb hK hP 2 0 rfl rfl b31 dX1_leastThrough_31 ?_
  refine lv_iadd hx hb dX1_leastThrough_32 ?_
  refine lv_istore (lv' := [(5, .int (((a_before (Int32.toNatClampNeg 0)) + (a_costs (Int32.toNatClampNeg r2))) + (a_behind (Int32.toNatClampNeg (x1 * 9))))), (4, .int (x1 * 9)), (3, .int r2), (0, .ref h_this), (1, .int x1), (2, .int x2)]) hx hb dX1_leastThrough_33 hl (by decide) rfl (fun ls hl => ?_)
  refine lv_iconst (v := 1) hx hb dX1_leastThrough_35 (by decide) ?_
  refine lv_istore (lv' := [(6, .int 1), (5, .int (((a_before (Int32.toNatClampNeg 0)) + (a_costs (Int32.toNatClampNeg r2))) + (a_behind (Int32.toNatClampNeg (x1 * 9))))), (4, .int (x1 * 9)), (3, .int r2), (0, .ref h_this), (1, .int x1), (2, .int x2)]) hx hb dX1_leastThrough_36 hl (by decide) rfl (fun ls hl => ?_)
  obtain ⟨n38, h⟩ := h
  refine L38 r2 (x1 * 9) _ n38 (((a_before (Int32.toNatClampNeg 0)) + (a_costs (Int32.toNatClampNeg r2))) + (a_behind (Int32.toNatClampNeg (x1 * 9)))) 1 H locs ls h hP hD hS (lv_sub hl [4, 3, 2, 1, 0] rfl) (fun x5_86 x6_86 H locs ls h hP hD hS hl => ?_)
  refine lv_iload hx hb dX1_leastThrough_86 (lv_at hl 0 rfl) ?_
  exact RET x5_86 H locs ls 88 dX1_leastThrough_88 h hP hD hS
abbrev rm_X1_pickSigns : Room := { frames := 3, cells := 0, slots := 0, locals := 66 }
theorem q_X1_pickSigns : yX1_pickSigns.cls = RX1 ∧ yX1_pickSigns.cls ≠ "java/lang/invoke/MethodHandle" ∧ yX1_pickSigns.cls ≠ "java/lang/invoke/VarHandle" ∧ (parseMethodDescriptor yX1_pickSigns.desc).map (fun d => d.parameters.length) = some 2 := by decide +kernel
set_option maxHeartbeats 4000000 in
set_option maxRecDepth 100000 in
theorem c_X1_pickSigns (l : Launch) (dC : Nat → ClassId) (dI : Nat → Nat → Nat) (cy : ClassId) (h_this : Nat) (h_before : Nat) (h_behind : Nat) (h_costs : Nat) (h_joined : Nat) (h_p1 : Nat) (sz : Nat) (g_this_1 g_this_3 : Value) (f_places : Int32) (a_before : Nat → Int32) (a_behind : Nat → Int32) (a_costs : Nat → Int32) (a_joined : Nat → Int32) (a_p1 : Nat → Int32) (x2 : Int32) (Q : (Nat → Int32) → (Nat → Int32) → (Nat → Int32) → Prop) (h : p_X1_pickSigns f_places a_before a_behind a_costs a_joined a_p1 x2 Q) : Met l yX1_pickSigns wsX1_pickSigns rm_X1_pickSigns (va_Pc [.ref h_this, .ref h_p1, .int x2] (fun U => U.heap.size = sz ∧ va_P (dC, dI) vwCl [(h_this, .inr (1, [.int f_places, g_this_1, .ref h_costs, g_this_3, .ref h_behind, .ref h_before, .ref h_joined])), (h_before, .inl (cy, 9, .inl a_before)), (h_behind, .inl (cy, 180, .inl a_behind)), (h_costs, .inl (cy, 2160, .inl a_costs)), (h_joined, .inl (cy, 9, .inl a_joined)), (h_p1, .inl (cy, 20, .inl a_p1))] U.heap ∧ va_K (dC, dI) vwCl [(cy, .int)] U ∧ va_D (fun _ => True) [(h_this, .inr (1, [.int f_places, g_this_1, .ref h_costs, g_this_3, .ref h_behind, .ref h_before, .ref h_joined])), (h_before, .inl (cy, 9, .inl a_before)), (h_behind, .inl (cy, 180, .inl a_behind)), (h_costs, .inl (cy, 2160, .inl a_costs)), (h_joined, .inl (cy, 9, .inl a_joined)), (h_p1, .inl (cy, 20, .inl a_p1))])) (va_Qv (fun (u : (Nat → Int32) × (Nat → Int32) × (Nat → Int32)) => Q u.1 u.2.1 u.2.2) (fun (u : (Nat → Int32) × (Nat → Int32) × (Nat → Int32)) (t : State) => va_P (dC, dI) vwCl [(h_this, .inr (1, [.int f_places, g_this_1, .ref h_costs, g_this_3, .ref h_behind, .ref h_before, .ref h_joined])), (h_before, .inl (cy, 9, .inl (u.1))), (h_behind, .inl (cy, 180, .inl a_behind)), (h_costs, .inl (cy, 2160, .inl a_costs)), (h_joined, .inl (cy, 9, .inl (u.2.1))), (h_p1, .inl (cy, 20, .inl (u.2.2)))] t.heap ∧ va_K (dC, dI) vwCl [(cy, .int)] t ∧ va_D (va_A [(h_this, .inr (1, [.int f_places, g_this_1, .ref h_costs, g_this_3, .ref h_behind, .ref h_before, .ref h_joined])), (h_before, .inl (cy, 9, .inl a_before)), (h_behind, .inl (cy, 180, .inl a_behind)), (h_costs, .inl (cy, 2160, .inl a_costs)), (h_joined, .inl (cy, 9, .inl a_joined)), (h_p1, .inl (cy, 20, .inl a_p1))] sz) [(h_this, .inr (1, [.int f_places, g_this_1, .ref h_costs, g_this_3, .ref h_behind, .ref h_before, .ref h_joined])), (h_before, .inl (cy, 9, .inl (u.1))), (h_behind, .inl (cy, 180, .inl a_behind)), (h_costs, .inl (cy, 2160, .inl a_costs)), (h_joined, .inl (cy, 9, .inl (u.2.1))), (h_p1, .inl (cy, 20, .inl (u.2.2)))]) (va_A [(h_this, .inr (1, [.int f_places, g_this_1, .ref h_costs, g_this_3, .ref h_behind, .ref h_before, .ref h_joined])), (h_before, .inl (cy, 9, .inl a_before)), (h_behind, .inl (cy, 180, .inl a_behind)), (h_costs, .inl (cy, 2160, .inl a_costs)), (h_joined, .inl (cy, 9, .inl a_joined)), (h_p1, .inl (cy, 20, .inl a_p1))] sz)) 0 0 (va_A [(h_this, .inr (1, [.int f_places, g_this_1, .ref h_costs, g_this_3, .ref h_behind, .ref h_before, .ref h_joined])), (h_before, .inl (cy, 9, .inl a_before)), (h_behind, .inl (cy, 180, .inl a_behind)), (h_costs, .inl (cy, 2160, .inl a_costs)), (h_joined, .inl (cy, 9, .inl a_joined)), (h_p1, .inl (cy, 20, .inl a_p1))] sz) := by
  refine Met.ofW (cc := cX1_pickSigns) (maxL := 5) (ret := none) (by decide) rfl ?_
  intro p e s m args below meth c s₁ B hml hv
  obtain ⟨hargs, hsz, hP, hK, hD0⟩ := hv
  have hx := B.exec
  have hb := B.bytes
  have hr := B.returns
  have hts := atoms_spec (ws := wsX1_pickSigns) B.pre
  have hown : s.vm.findClass RX1 = some m.cls := findClass_of_methodNamed B.named
  have hlocks := B.notSynchronized
  subst hsz
  have hD := hD0.self (sz := s.heap.size)
  generalize hAe : va_A [(h_this, .inr (1, [.int f_places, g_this_1, .ref h_costs, g_this_3, .ref h_behind, .ref h_before, .ref h_joined])), (h_before, .inl (cy, 9, .inl a_before)), (h_behind, .inl (cy, 180, .inl a_behind)), (h_costs, .inl (cy, 2160, .inl a_costs)), (h_joined, .inl (cy, 9, .inl a_joined)), (h_p1, .inl (cy, 20, .inl a_p1))] s.heap.size = A at hD ⊢
  have hA : ∀ q : Nat, s.heap.size ≤ q → A q := fun q h => by rw [← hAe]; exact Or.inr h
  have hS : va_S A s.heap s.heap [] := va_S.rf
  have in_X1 : ∀ w ∈ u_ws RX1 TX1 7, w ∈ wsX1_pickSigns := by decide +kernel
  have k_9 := hts (.fieldLink RX1 9 "ChequeDesk$Head" "places" "I") (by decide +kernel)
  have k_19 := hts (.fieldLink RX1 19 "ChequeDesk$Head" "costs" "[I") (by decide +kernel)
  have hl := lv_entry ([.ref h_this, .ref h_p1, .int x2]) (n := 5) (Nat.le_of_ble_eq_true rfl)
  rw [show entryFrame m args 5 = entryFrame m ([.ref h_this, .ref h_p1, .int x2] : List Value).toArray 5 by rw [hargs], lg_entry_eq]
  generalize (lg_sl ([.ref h_this, .ref h_p1, .int x2]) ++ List.replicate (5 - (lg_sl ([.ref h_this, .ref h_p1, .int x2])).length) Slot.unset).toArray = ls at hl ⊢
  have hl : lv_has ls 5 [(0, .ref h_this), (1, .ref h_p1), (2, .int x2)] := hl
  have hP : va_P (dC, dI) vwCl [(h_this, .inr (1, [.int f_places, g_this_1, .ref h_costs, g_this_3, .ref h_behind, .ref h_before, .ref h_joined])), (h_before, .inl (cy, 9, .inl a_before)), (h_behind, .inl (cy, 180, .inl a_behind)), (h_costs, .inl (cy, 2160, .inl a_costs)), (h_joined, .inl (cy, 9, .inl a_joined)), (h_p1, .inl (cy, 20, .inl a_p1))] s.heap := hP
  change W p l e rm_X1_pickSigns s m args below meth c s.heap [] 0 0 _ _
  generalize hQQ : MQ below _ _ _ _ _ _ = QQ
  have RET : ∀ (a_before : Nat → Int32) (a_joined : Nat → Int32) (a_p1 : Nat → Int32) (H : Heap) (locs : List Loc) (ls : Array Slot) (pc : Nat), decode cX1_pickSigns pc = .ok (.return_, 1) → Q a_before a_joined a_p1 → va_P (dC, dI) vwCl [(h_this, .inr (1, [.int f_places, g_this_1, .ref h_costs, g_this_3, .ref h_behind, .ref h_before, .ref h_joined])), (h_before, .inl (cy, 9, .inl a_before)), (h_behind, .inl (cy, 180, .inl a_behind)), (h_costs, .inl (cy, 2160, .inl a_costs)), (h_joined, .inl (cy, 9, .inl a_joined)), (h_p1, .inl (cy, 20, .inl a_p1))] H → va_D A [(h_this, .inr (1, [.int f_places, g_this_1, .ref h_costs, g_this_3, .ref h_behind, .ref h_before, .ref h_joined])), (h_before, .inl (cy, 9, .inl a_before)), (h_behind, .inl (cy, 180, .inl a_behind)), (h_costs, .inl (cy, 2160, .inl a_costs)), (h_joined, .inl (cy, 9, .inl a_joined)), (h_p1, .inl (cy, 20, .inl a_p1))] → va_S A s.heap H locs → W p l e rm_X1_pickSigns s m args below meth c H locs 0 0 QQ (F0 m pc ls []) := by
    intro a_before a_joined a_p1 H locs ls pc hdg hq hP hD hS
    rw [← hQQ]
    exact W.vret hx hb hr (fun t ht hW => ⟨⟨(a_before, a_joined, a_p1), rfl, hq, by rw [ht]; exact hP, va_K.moved hW.alike hK, hD⟩, hS.F ht⟩) hS.2.2 hdg
  clear hQQ
  unfold p_X1_pickSigns at h
  have L6 : ∀ (x2 : Int32) (K6 : Int32 → (Nat → Int32) → (Nat → Int32) → (Nat → Int32) → Prop) (n : Nat) (x3 : Int32) (a_before : Nat → Int32) (a_joined : Nat → Int32) (a_p1 : Nat → Int32) (H : Heap) (locs : List Loc) (ls : Array Slot), wl4 (p_X1_pickSigns_B6 f_places a_behind a_costs x2 K6) n x3 a_before a_joined a_p1 → va_P (dC, dI) vwCl [(h_this, .inr (1, [.int f_places, g_this_1, .ref h_costs, g_this_3, .ref h_behind, .ref h_before, .ref h_joined])), (h_before, .inl (cy, 9, .inl a_before)), (h_behind, .inl (cy, 180, .inl a_behind)), (h_costs, .inl (cy, 2160, .inl a_costs)), (h_joined, .inl (cy, 9, .inl a_joined)), (h_p1, .inl (cy, 20, .inl a_p1))] H → va_D A [(h_this, .inr (1, [.int f_places, g_this_1, .ref h_costs, g_this_3, .ref h_behind, .ref h_before, .ref h_joined])), (h_before, .inl (cy, 9, .inl a_before)), (h_behind, .inl (cy, 180, .inl a_behind)), (h_costs, .inl (cy, 2160, .inl a_costs)), (h_joined, .inl (cy, 9, .inl a_joined)), (h_p1, .inl (cy, 20, .inl a_p1))] → va_S A s.heap H locs → lv_has ls 5 [(0, .ref h_this), (1, .ref h_p1), (2, .int x2), (3, .int x3)] → (∀ (x3 : Int32) (a_before : Nat → Int32) (a_joined : Nat → Int32) (a_p1 : Nat → Int32) (H : Heap) (locs : List Loc) (ls : Array Slot), K6 x3 a_before a_joined a_p1 → va_P (dC, dI) vwCl [(h_this, .inr (1, [.int f_places, g_this_1, .ref h_costs, g_this_3, .ref h_behind, .ref h_before, .ref h_joined])), (h_before, .inl (cy, 9, .inl a_before)), (h_behind, .inl (cy, 180, .inl a_behind)), (h_costs, .inl (cy, 2160, .inl a_costs)), (h_joined, .inl (cy, 9, .inl a_joined)), (h_p1, .inl (cy, 20, .inl a_p1))] H → va_D A [(h_this, .inr (1, [.int f_places, g_this_1, .ref h_costs, g_this_3, .ref h_behind, .ref h_before, .ref h_joined])), (h_before, .inl (cy, 9, .inl a_before)), (h_behind, .inl (cy, 180, .inl a_behind)), (h_costs, .inl (cy, 2160, .inl a_costs)), (h_joined, .inl (cy, 9, .inl a_joined)), (h_p1, .inl (cy, 20, .inl a_p1))] → va_S A s.heap H locs → lv_has ls 5 [] → W p l e rm_X1_pickSigns s m args below meth c H locs 0 0 QQ (F0 m 66 ls [])) → W p l e rm_X1_pickSigns s m args below meth c H locs 0 0 QQ (F0 m 6 ls []) := by
    intro x2 K6 n
    induction n with
    | zero => intro x3 a_before a_joined a_p1 H locs ls h; exact False.elim h
    | succ n ih =>
      intro x3 a_before a_joined a_p1 H locs ls h hP hD hS hl hk
      have ih := fun x3 a_before a_joined a_p1 H locs ls h hP hD hS hl => ih x3 a_before a_joined a_p1 H locs ls h hP hD hS hl hk
      replace h : p_X1_pickSigns_B6 f_places a_behind a_costs x2 K6 (wl4 (p_X1_pickSigns_B6 f_places a_behind a_costs x2 K6) n) x3 a_before a_joined a_p1 := h
      unfold p_X1_pickSigns_B6 at h
      have L17 : ∀ (x2 : Int32) (x3 : Int32) (a_before : Nat → Int32) (a_joined : Nat → Int32) (a_p1 : Nat → Int32) (K17 : Int32 → Prop) (n : Nat) (x4 : Int32) (H : Heap) (locs : List Loc) (ls : Array Slot), wl1 (p_X1_pickSigns_B17 a_before a_behind a_costs x2 x3 K17) n x4 → va_P (dC, dI) vwCl [(h_this, .inr (1, [.int f_places, g_this_1, .ref h_costs, g_this_3, .ref h_behind, .ref h_before, .ref h_joined])), (h_before, .inl (cy, 9, .inl a_before)), (h_behind, .inl (cy, 180, .inl a_behind)), (h_costs, .inl (cy, 2160, .inl a_costs)), (h_joined, .inl (cy, 9, .inl a_joined)), (h_p1, .inl (cy, 20, .inl a_p1))] H → va_D A [(h_this, .inr (1, [.int f_places, g_this_1, .ref h_costs, g_this_3, .ref h_behind, .ref h_before, .ref h_joined])), (h_before, .inl (cy, 9, .inl a_before)), (h_behind, .inl (cy, 180, .inl a_behind)), (h_costs, .inl (cy, 2160, .inl a_costs)), (h_joined, .inl (cy, 9, .inl a_joined)), (h_p1, .inl (cy, 20, .inl a_p1))] → va_S A s.heap H locs → lv_has ls 5 [(0, .ref h_this), (1, .ref h_p1), (2, .int x2), (3, .int x3), (4, .int x4)] → (∀ (x4 : Int32) (H : Heap) (locs : List Loc) (ls : Array Slot), K17 x4 → va_P (dC, dI) vwCl [(h_this, .inr (1, [.int f_places, g_this_1, .ref h_costs, g_this_3, .ref h_behind, .ref h_before, .ref h_joined])), (h_before, .inl (cy, 9, .inl a_before)), (h_behind, .inl (cy, 180, .inl a_behind)), (h_costs, .inl (cy, 2160, .inl a_costs)), (h_joined, .inl (cy, 9, .inl a_joined)), (h_p1, .inl (cy, 20, .inl a_p1))] H → va_D A [(h_this, .inr (1, [.int f_places, g_this_1, .ref h_costs, g_this_3, .ref h_behind, .ref h_before, .ref h_joined])), (h_before, .inl (cy, 9, .inl a_before)), (h_behind, .inl (cy, 180, .inl a_behind)), (h_costs, .inl (cy, 2160, .inl a_costs)), (h_joined, .inl (cy, 9, .inl a_joined)), (h_p1, .inl (cy, 20, .inl a_p1))] → va_S A s.heap H locs → lv_has ls 5 [(0, .ref h_this), (1, .ref h_p1), (2, .int x2), (3, .int x3), (4, .int x4)] → W p l e rm_X1_pickSigns s m args below meth c H locs 0 0 QQ (F0 m 41 ls [])) → W p l e rm_X1_pickSigns s m args below meth c H locs 0 0 QQ (F0 m 17 ls []) := by
        intro x2 x3 a_before a_joined a_p1 K17 n
        induction n with
        | zero => intro x4 H locs ls h; exact False.elim h
        | succ n ih =>
          intro x4 H locs ls h hP hD hS hl hk
          have ih := fun x4 H locs ls h hP hD hS hl => ih x4 H locs ls h hP hD hS hl hk
          replace h : p_X1_pickSigns_B17 a_before a_behind a_costs x2 x3 K17 (wl1 (p_X1_pickSigns_B17 a_before a_behind a_costs x2 x3 K17) n) x4 := h
          unfold p_X1_pickSigns_B17 at h
          refine lv_iload hx hb dX1_pickSigns_17 (lv_at hl 4 rfl) ?_
          refine lv_bipush (v := 11) hx hb dX1_pickSigns_19 (by decide) ?_
          refine lv_icmp_ge (tgt := 41) hx hb dX1_pickSigns_21 (by decide) (fun c21 => ?_) (fun c21 => ?_)
          · replace h := And.left h c21
            exact hk x4 H locs ls h hP hD hS (lv_sub hl [0, 1, 2, 3, 4] rfl)
          · replace h := And.right h c21
            refine lv_aload_n hx hb dX1_pickSigns_24 rfl (lv_at hl 0 rfl) ?_
            refine lv_iload_n hx hb dX1_pickSigns_25 rfl (lv_at hl 3 rfl) ?_
            refine lv_iload hx hb dX1_pickSigns_26 (lv_at hl 4 rfl) ?_
            have hPc := hP.sub (ws' := [(h_this, .inr (1, [.int f_places, g_this_1, .ref h_costs, g_this_3, .ref h_behind, .ref h_before, .ref h_joined])), (h_before, .inl (cy, 9, .inl a_before)), (h_behind, .inl (cy, 180, .inl a_behind)), (h_costs, .inl (cy, 2160, .inl a_costs))]) [0, 1, 2, 3] rfl
            have hDc := hD.sub (ws' := [(h_this, .inr (1, [.int f_places, g_this_1, .ref h_costs, g_this_3, .ref h_behind, .ref h_before, .ref h_joined])), (h_before, .inl (cy, 9, .inl a_before)), (h_behind, .inl (cy, 180, .inl a_behind)), (h_costs, .inl (cy, 2160, .inl a_costs))]) [0, 1, 2, 3] (by decide) rfl
            have hFc := va_free (wc := [(h_this, .inr (1, [.int f_places, g_this_1, .ref h_costs, g_this_3, .ref h_behind, .ref h_before, .ref h_joined])), (h_before, .inl (cy, 9, .inl a_before)), (h_behind, .inl (cy, 180, .inl a_behind)), (h_costs, .inl (cy, 2160, .inl a_costs))]) hD hS hA [0, 1, 2, 3] rfl
            refine va_calli (va_runV (As := [.int x3, .int x4]) (rest := []) ⟨hx, hb, hml, hown, hts⟩ (c_X1_leastThrough l dC dI cy h_this h_before h_behind h_costs H.size (.int f_places) (g_this_1) (g_this_3) (.ref h_joined) a_before a_behind a_costs x3 x4 _ h) (cwV 2 hts gX1_pickSigns_X1_leastThrough rfl rfl rfl q_X1_leastThrough ⟨Nat.le_of_ble_eq_true rfl, Nat.le_of_ble_eq_true rfl⟩) ⟨fun a U g mk q => by obtain ⟨q0, q1, qP, qK, qD⟩ := q; exact ⟨q0, q1, qP, va_K.moved (u := U) (U := U.calling g mk a) (Vm.Alike.refl U.vm) qK, qD⟩, va_recv hK hP (ci := 1) (q0 := 0) rfl rfl, fun U hU hW => ⟨rfl, by rw [hU], by rw [hU]; exact hPc, va_K.moved hW.alike hK, hDc.weaken (fun _ _ _ _ => trivial)⟩⟩ rfl rfl hl.1 rfl (lv_room (Nat.le_of_ble_eq_true rfl)) dX1_pickSigns_28 ⟨Nat.le_of_ble_eq_true rfl, Nat.le_of_ble_eq_true rfl⟩) hS (fun q _ h => hFc q h) hFc (fun r28 u t H1 locs ht hvm hw hB hz1 hk1 hS => ?_)
            obtain ⟨hP1, hK1, hD1⟩ := hB
            rw [ht] at hP1
            obtain ⟨hP, hD⟩ := va_join (wr := [(h_joined, .inl (cy, 9, .inl a_joined)), (h_p1, .inl (cy, 20, .inl a_p1))]) (w1 := [(h_this, .inr (1, [.int f_places, g_this_1, .ref h_costs, g_this_3, .ref h_behind, .ref h_before, .ref h_joined])), (h_before, .inl (cy, 9, .inl a_before)), (h_behind, .inl (cy, 180, .inl a_behind)), (h_costs, .inl (cy, 2160, .inl a_costs))]) hP hD [0, 1, 2, 3] [4, 5] rfl rfl (by decide) (by decide) hk1 hFc hP1 hD1
            replace hP := hP.sub (ws' := [(h_this, .inr (1, [.int f_places, g_this_1, .ref h_costs, g_this_3, .ref h_behind, .ref h_before, .ref h_joined])), (h_before, .inl (cy, 9, .inl a_before)), (h_behind, .inl (cy, 180, .inl a_behind)), (h_costs, .inl (cy, 2160, .inl a_costs)), (h_joined, .inl (cy, 9, .inl a_joined)), (h_p1, .inl (cy, 20, .inl a_p1))]) [2, 3, 4, 5, 0, 1] rfl
            replace hD := hD.sub (ws' := [(h_this, .inr (1, [.int f_places, g_this_1, .ref h_costs, g_this_3, .ref h_behind, .ref h_before, .ref h_joined])), (h_before, .inl (cy, 9, .inl a_before)), (h_behind, .inl (cy, 180, .inl a_behind)), (h_costs, .inl (cy, 2160, .inl a_costs)), (h_joined, .inl (cy, 9, .inl a_joined)), (h_p1, .inl (cy, 20, .inl a_p1))]) [2, 3, 4, 5, 0, 1] (by decide) rfl
            clear hPc hDc hFc hP1 hK1 hD1 hz1 hk1 hvm
            subst ht
            generalize t.heap = H at hP hS ⊢
            replace h := hw
            clear hw
            refine lv_iload_n hx hb dX1_pickSigns_31 rfl (lv_at hl 2 rfl) ?_
            refine lv_icmp_eq (tgt := 41) hx hb dX1_pickSigns_32 (by decide) (fun c32 => ?_) (fun c32 => ?_)
            · replace h := And.left h c32
              exact hk x4 H locs ls h hP hD hS (lv_sub hl [0, 1, 2, 3, 4] rfl)
            · replace h := And.right h c32
              refine lv_iinc (v := x4 + 1) (lv' := [(4, .int (x4 + 1)), (0, .ref h_this), (1, .ref h_p1), (2, .int x2), (3, .int x3)]) hx hb dX1_pickSigns_35 hl (k := 4) rfl (by rfl) (by decide) rfl (fun ls hl => ?_)
              refine lv_goto (tgt := 17) hx hb dX1_pickSigns_38 (by decide) ?_
              exact ih (x4 + 1) H locs ls h hP hD hS (lv_sub hl [1, 2, 3, 4, 0] rfl)
      refine lv_iload_n hx hb dX1_pickSigns_6 rfl (lv_at hl 3 rfl) ?_
      refine lv_aload_n hx hb dX1_pickSigns_7 rfl (lv_at hl 0 rfl) ?_
      refine va_get (D := (dC, dI)) (ci := 1) (v := .int f_places) (C := RX1) (T := TX1) (N := 7) hx hb hts in_X1 hown hK hP 0 rfl rfl 0 (by decide) k_9 (fun _ h9 => h9) rfl dX1_pickSigns_8 ?_
      refine lv_icmp_ge (tgt := 66) hx hb dX1_pickSigns_11 (by decide) (fun c11 => ?_) (fun c11 => ?_)
      · replace h := And.left h c11
        exact hk x3 a_before a_joined a_p1 H locs ls h hP hD hS (lv_sub hl [] rfl)
      · replace h := And.right h c11
        refine lv_iconst (v := 0) hx hb dX1_pickSigns_14 (by decide) ?_
        refine lv_istore (lv' := [(4, .int 0), (0, .ref h_this), (1, .ref h_p1), (2, .int x2), (3, .int x3)]) hx hb dX1_pickSigns_15 hl (by decide) rfl (fun ls hl => ?_)
        obtain ⟨n17, h⟩ := h
        refine L17 x2 x3 a_before a_joined a_p1 _ n17 0 H locs ls h hP hD hS (lv_sub hl [1, 2, 3, 4, 0] rfl) (fun x4_41 H locs ls h hP hD hS hl => ?_)
        refine lv_aload_n hx hb dX1_pickSigns_41 rfl (lv_at hl 1 rfl) ?_
        refine lv_iload_n hx hb dX1_pickSigns_42 rfl (lv_at hl 3 rfl) ?_
        refine lv_iload hx hb dX1_pickSigns_43 (lv_at hl 4 rfl) ?_
        obtain ⟨b45, h⟩ := h
        refine va_iast hx hb hK hP hD hS 5 0 rfl rfl b45 dX1_pickSigns_45 (fun H locs hP hD hS => ?_)
        have hP : va_P (dC, dI) vwCl [(h_this, .inr (1, [.int f_places, g_this_1, .ref h_costs, g_this_3, .ref h_behind, .ref h_before, .ref h_joined])), (h_before, .inl (cy, 9, .inl a_before)), (h_behind, .inl (cy, 180, .inl a_behind)), (h_costs, .inl (cy, 2160, .inl a_costs)), (h_joined, .inl (cy, 9, .inl a_joined)), (h_p1, .inl (cy, 20, .inl (upd a_p1 (Int32.toNatClampNeg x3) x4_41)))] H := hP
        have hD : va_D A [(h_this, .inr (1, [.int f_places, g_this_1, .ref h_costs, g_this_3, .ref h_behind, .ref h_before, .ref h_joined])), (h_before, .inl (cy, 9, .inl a_before)), (h_behind, .inl (cy, 180, .inl a_behind)), (h_costs, .inl (cy, 2160, .inl a_costs)), (h_joined, .inl (cy, 9, .inl a_joined)), (h_p1, .inl (cy, 20, .inl (upd a_p1 (Int32.toNatClampNeg x3) x4_41)))] := hD
        refine lv_aload_n hx hb dX1_pickSigns_46 rfl (lv_at hl 0 rfl) ?_
        refine lv_aload_n hx hb dX1_pickSigns_47 rfl (lv_at hl 0 rfl) ?_
        refine va_get (D := (dC, dI)) (ci := 1) (v := .ref h_costs) (C := RX1) (T := TX1) (N := 7) hx hb hts in_X1 hown hK hP 0 rfl rfl 2 (by decide) k_19 (fun _ h9 => h9) rfl dX1_pickSigns_48 ?_
        refine lv_iload_n hx hb dX1_pickSigns_51 rfl (lv_at hl 3 rfl) ?_
        refine lv_iload hx hb dX1_pickSigns_52 (lv_at hl 4 rfl) ?_
        have hPc := hP.sub (ws' := []) [] rfl
        have hDc := hD.sub (ws' := []) [] (by decide) rfl
        have hFc := va_free (wc := []) hD hS hA [] rfl
        refine va_calli (va_runS (As := [.int x3, .int x4_41]) (rest := [.ref h_costs, .ref h_this]) ⟨hx, hb, hml, hown, hts⟩ (c_X1_rowOf l dC dI cy  H.size   x3 x4_41 _ h) (va_cwS 2 hts gX1_pickSigns_X1_rowOf rfl rfl rfl q_X1_rowOf ⟨Nat.le_of_ble_eq_true rfl, Nat.le_of_ble_eq_true rfl⟩) ⟨fun a U g mk q => by obtain ⟨q0, q1, qP, qK, qD⟩ := q; exact ⟨q0, q1, qP, va_K.moved (u := U) (U := U.calling g mk a) (Vm.Alike.refl U.vm) qK, qD⟩, fun U hU hW => ⟨rfl, by rw [hU], by rw [hU]; exact hPc, va_K.moved hW.alike hK, hDc.weaken (fun _ _ _ _ => trivial)⟩⟩ rfl rfl hl.1 rfl (lv_room (Nat.le_of_ble_eq_true rfl)) dX1_pickSigns_54 ⟨Nat.le_of_ble_eq_true rfl, Nat.le_of_ble_eq_true rfl⟩) hS (fun q _ h => hFc q h) hFc (fun r54 u t H1 locs ht hvm hw hB hz1 hk1 hS => ?_)
        obtain ⟨hP1, hK1, hD1⟩ := hB
        rw [ht] at hP1
        obtain ⟨hP, hD⟩ := va_join (wr := [(h_this, .inr (1, [.int f_places, g_this_1, .ref h_costs, g_this_3, .ref h_behind, .ref h_before, .ref h_joined])), (h_before, .inl (cy, 9, .inl a_before)), (h_behind, .inl (cy, 180, .inl a_behind)), (h_costs, .inl (cy, 2160, .inl a_costs)), (h_joined, .inl (cy, 9, .inl a_joined)), (h_p1, .inl (cy, 20, .inl (upd a_p1 (Int32.toNatClampNeg x3) x4_41)))]) (w1 := []) hP hD [] [0, 1, 2, 3, 4, 5] rfl rfl (by decide) (by decide) hk1 hFc hP1 hD1
        replace hP := hP.sub (ws' := [(h_this, .inr (1, [.int f_places, g_this_1, .ref h_costs, g_this_3, .ref h_behind, .ref h_before, .ref h_joined])), (h_before, .inl (cy, 9, .inl a_before)), (h_behind, .inl (cy, 180, .inl a_behind)), (h_costs, .inl (cy, 2160, .inl a_costs)), (h_joined, .inl (cy, 9, .inl a_joined)), (h_p1, .inl (cy, 20, .inl (upd a_p1 (Int32.toNatClampNeg x3) x4_41)))]) [0, 1, 2, 3, 4, 5] rfl
        replace hD := hD.sub (ws' := [(h_this, .inr (1, [.int f_places, g_this_1, .ref h_costs, g_this_3, .ref h_behind, .ref h_before, .ref h_joined])), (h_before, .inl (cy, 9, .inl a_before)), (h_behind, .inl (cy, 180, .inl a_behind)), (h_costs, .inl (cy, 2160, .inl a_costs)), (h_joined, .inl (cy, 9, .inl a_joined)), (h_p1, .inl (cy, 20, .inl (upd a_p1 (Int32.toNatClampNeg x3) x4_41)))]) [0, 1, 2, 3, 4, 5] (by decide) rfl
        clear hPc hDc hFc hP1 hK1 hD1 hz1 hk1 hvm
        subst ht
        generalize t.heap = H at hP hS ⊢
        replace h := hw
        clear hw
        have hPc := hP.sub (ws' := [(h_this, .inr (1, [.int f_places, g_this_1, .ref h_costs, g_this_3, .ref h_behind, .ref h_before, .ref h_joined])), (h_before, .inl (cy, 9, .inl a_before)), (h_joined, .inl (cy, 9, .inl a_joined)), (h_costs, .inl (cy, 2160, .inl a_costs))]) [0, 1, 4, 3] rfl
        have hDc := hD.sub (ws' := [(h_this, .inr (1, [.int f_places, g_this_1, .ref h_costs, g_this_3, .ref h_behind, .ref h_before, .ref h_joined])), (h_before, .inl (cy, 9, .inl a_before)), (h_joined, .inl (cy, 9, .inl a_joined)), (h_costs, .inl (cy, 2160, .inl a_costs))]) [0, 1, 4, 3] (by decide) rfl
        have hFc := va_free (wc := [(h_this, .inr (1, [.int f_places, g_this_1, .ref h_costs, g_this_3, .ref h_behind, .ref h_before, .ref h_joined])), (h_before, .inl (cy, 9, .inl a_before)), (h_joined, .inl (cy, 9, .inl a_joined)), (h_costs, .inl (cy, 2160, .inl a_costs))]) hD hS hA [0, 1, 4, 3] rfl
        refine va_callv (va_runV (As := [.ref h_costs, .int r54]) (rest := []) ⟨hx, hb, hml, hown, hts⟩ (c_X1_walkOn l dC dI cy 2160 h_this h_before h_joined h_costs H.size (.int f_places) (g_this_1) (.ref h_costs) (g_this_3) (.ref h_behind) a_before a_joined a_costs r54 _ h) (cwV 2 hts gX1_pickSigns_X1_walkOn rfl rfl rfl q_X1_walkOn ⟨Nat.le_of_ble_eq_true rfl, Nat.le_of_ble_eq_true rfl⟩) ⟨fun a U g mk q => by obtain ⟨q0, q1, qP, qK, qD⟩ := q; exact ⟨q0, q1, qP, va_K.moved (u := U) (U := U.calling g mk a) (Vm.Alike.refl U.vm) qK, qD⟩, va_recv hK hP (ci := 1) (q0 := 0) rfl rfl, fun U hU hW => ⟨rfl, by rw [hU], by rw [hU]; exact hPc, va_K.moved hW.alike hK, hDc.weaken (fun _ _ _ _ => trivial)⟩⟩ rfl rfl hl.1 rfl (lv_room (Nat.le_of_ble_eq_true rfl)) dX1_pickSigns_57 ⟨Nat.le_of_ble_eq_true rfl, Nat.le_of_ble_eq_true rfl⟩) hS (fun q _ h => hFc q h) hFc (fun u t H1 locs ht hvm hw hB hz1 hk1 hS => ?_)
        obtain ⟨a_before_57, a_joined_57⟩ := u
        obtain ⟨hP1, hK1, hD1⟩ := hB
        rw [ht] at hP1
        obtain ⟨hP, hD⟩ := va_join (wr := [(h_behind, .inl (cy, 180, .inl a_behind)), (h_p1, .inl (cy, 20, .inl (upd a_p1 (Int32.toNatClampNeg x3) x4_41)))]) (w1 := [(h_this, .inr (1, [.int f_places, g_this_1, .ref h_costs, g_this_3, .ref h_behind, .ref h_before, .ref h_joined])), (h_before, .inl (cy, 9, .inl a_before_57)), (h_joined, .inl (cy, 9, .inl a_joined_57)), (h_costs, .inl (cy, 2160, .inl a_costs))]) hP hD [0, 1, 4, 3] [2, 5] rfl rfl (by decide) (by decide) hk1 hFc hP1 hD1
        replace hP := hP.sub (ws' := [(h_this, .inr (1, [.int f_places, g_this_1, .ref h_costs, g_this_3, .ref h_behind, .ref h_before, .ref h_joined])), (h_before, .inl (cy, 9, .inl a_before_57)), (h_behind, .inl (cy, 180, .inl a_behind)), (h_costs, .inl (cy, 2160, .inl a_costs)), (h_joined, .inl (cy, 9, .inl a_joined_57)), (h_p1, .inl (cy, 20, .inl (upd a_p1 (Int32.toNatClampNeg x3) x4_41)))]) [2, 3, 0, 5, 4, 1] rfl
        replace hD := hD.sub (ws' := [(h_this, .inr (1, [.int f_places, g_this_1, .ref h_costs, g_this_3, .ref h_behind, .ref h_before, .ref h_joined])), (h_before, .inl (cy, 9, .inl a_before_57)), (h_behind, .inl (cy, 180, .inl a_behind)), (h_costs, .inl (cy, 2160, .inl a_costs)), (h_joined, .inl (cy, 9, .inl a_joined_57)), (h_p1, .inl (cy, 20, .inl (upd a_p1 (Int32.toNatClampNeg x3) x4_41)))]) [2, 3, 0, 5, 4, 1] (by decide) rfl
        clear hPc hDc hFc hP1 hK1 hD1 hz1 hk1 hvm
        subst ht
        generalize t.heap = H at hP hS ⊢
        replace h := hw
        clear hw
        refine lv_iinc (v := x3 + 1) (lv' := [(3, .int (x3 + 1)), (0, .ref h_this), (1, .ref h_p1), (2, .int x2), (4, .int x4_41)]) hx hb dX1_pickSigns_60 hl (k := 3) rfl (by rfl) (by decide) rfl (fun ls hl => ?_)
        refine lv_goto (tgt := 6) hx hb dX1_pickSigns_63 (by decide) ?_
        exact ih (x3 + 1) a_before_57 a_joined_57 (upd a_p1 (Int32.toNatClampNeg x3) x4_41) H locs ls h hP hD hS (lv_sub hl [1, 2, 3, 0] rfl)
  generalize hlo : ([] : List Loc) = locs at hS ⊢
  obtain ⟨H, hH⟩ : ∃ z, z = s.heap := ⟨_, rfl⟩
  rw [show W p l e rm_X1_pickSigns s m args below meth c s.heap = W p l e rm_X1_pickSigns s m args below meth c H by rw [hH]]
  replace hP : va_P (dC, dI) vwCl [(h_this, .inr (1, [.int f_places, g_this_1, .ref h_costs, g_this_3, .ref h_behind, .ref h_before, .ref h_joined])), (h_before, .inl (cy, 9, .inl a_before)), (h_behind, .inl (cy, 180, .inl a_behind)), (h_costs, .inl (cy, 2160, .inl a_costs)), (h_joined, .inl (cy, 9, .inl a_joined)), (h_p1, .inl (cy, 20, .inl a_p1))] H := by rw [hH]; exact hP
  replace hS : va_S A s.heap H locs := by rw [hH]; exact hS
  clear hH hlo
  refine lv_aload_n hx hb dX1_pickSigns_0 rfl (lv_at hl 0 rfl) ?_
  have hPc := hP.sub (ws' := [(h_this, .inr (1, [.int f_places, g_this_1, .ref h_costs, g_this_3, .ref h_behind, .ref h_before, .ref h_joined])), (h_before, .inl (cy, 9, .inl a_before))]) [0, 1] rfl
  have hDc := hD.sub (ws' := [(h_this, .inr (1, [.int f_places, g_this_1, .ref h_costs, g_this_3, .ref h_behind, .ref h_before, .ref h_joined])), (h_before, .inl (cy, 9, .inl a_before))]) [0, 1] (by decide) rfl
  have hFc := va_free (wc := [(h_this, .inr (1, [.int f_places, g_this_1, .ref h_costs, g_this_3, .ref h_behind, .ref h_before, .ref h_joined])), (h_before, .inl (cy, 9, .inl a_before))]) hD hS hA [0, 1] rfl
  refine va_callv (va_runV (As := []) (rest := []) ⟨hx, hb, hml, hown, hts⟩ (c_X1_startWalk l dC dI cy h_this h_before H.size (.int f_places) (g_this_1) (.ref h_costs) (g_this_3) (.ref h_behind) (.ref h_joined) a_before  _ h) (cwV 0 hts gX1_pickSigns_X1_startWalk rfl rfl rfl q_X1_startWalk ⟨Nat.le_of_ble_eq_true rfl, Nat.le_of_ble_eq_true rfl⟩) ⟨fun a U g mk q => by obtain ⟨q0, q1, qP, qK, qD⟩ := q; exact ⟨q0, q1, qP, va_K.moved (u := U) (U := U.calling g mk a) (Vm.Alike.refl U.vm) qK, qD⟩, va_recv hK hP (ci := 1) (q0 := 0) rfl rfl, fun U hU hW => ⟨rfl, by rw [hU], by rw [hU]; exact hPc, va_K.moved hW.alike hK, hDc.weaken (fun _ _ _ _ => trivial)⟩⟩ rfl rfl hl.1 rfl (lv_room (Nat.le_of_ble_eq_true rfl)) dX1_pickSigns_1 ⟨Nat.le_of_ble_eq_true rfl, Nat.le_of_ble_eq_true rfl⟩) hS (fun q _ h => hFc q h) hFc (fun u t H1 locs ht hvm hw hB hz1 hk1 hS => ?_)
  obtain ⟨a_before_1, rfl⟩ : ∃ z, z = u := ⟨_, rfl⟩
  obtain ⟨hP1, hK1, hD1⟩ := hB
  rw [ht] at hP1
  obtain ⟨hP, hD⟩ := va_join (wr := [(h_behind, .inl (cy, 180, .inl a_behind)), (h_costs, .inl (cy, 2160, .inl a_costs)), (h_joined, .inl (cy, 9, .inl a_joined)), (h_p1, .inl (cy, 20, .inl a_p1))]) (w1 := [(h_this, .inr (1, [.int f_places, g_this_1, .ref h_costs, g_this_3, .ref h_behind, .ref h_before, .ref h_joined])), (h_before, .inl (cy, 9, .inl a_before_1))]) hP hD [0, 1] [2, 3, 4, 5] rfl rfl (by decide) (by decide) hk1 hFc hP1 hD1
  replace hP := hP.sub (ws' := [(h_this, .inr (1, [.int f_places, g_this_1, .ref h_costs, g_this_3, .ref h_behind, .ref h_before, .ref h_joined])), (h_before, .inl (cy, 9, .inl a_before_1)), (h_behind, .inl (cy, 180, .inl a_behind)), (h_costs, .inl (cy, 2160, .inl a_costs)), (h_joined, .inl (cy, 9, .inl a_joined)), (h_p1, .inl (cy, 20, .inl a_p1))]) [4, 5, 0, 1, 2, 3] rfl
  replace hD := hD.sub (ws' := [(h_this, .inr (1, [.int f_places, g_this_1, .ref h_costs, g_this_3, .ref h_behind, .ref h_before, .ref h_joined])), (h_before, .inl (cy, 9, .inl a_before_1)), (h_behind, .inl (cy, 180, .inl a_behind)), (h_costs, .inl (cy, 2160, .inl a_costs)), (h_joined, .inl (cy, 9, .inl a_joined)), (h_p1, .inl (cy, 20, .inl a_p1))]) [4, 5, 0, 1, 2, 3] (by decide) rfl
  clear hPc hDc hFc hP1 hK1 hD1 hz1 hk1 hvm
  subst ht
  generalize t.heap = H at hP hS ⊢
  replace h := hw
  clear hw
  refine lv_iconst (v := 0) hx hb dX1_pickSigns_4 (by decide) ?_
  refine lv_istore_n (lv' := [(3, .int 0), (0, .ref h_this), (1, .ref h_p1), (2, .int x2)]) hx hb dX1_pickSigns_5 rfl hl (by decide) rfl (fun ls hl => ?_)
  obtain ⟨n6, h⟩ := h
  refine L6 x2 _ n6 0 a_before_1 a_joined a_p1 H locs ls h hP hD hS (lv_sub hl [1, 2, 3, 0] rfl) (fun x3_66 a_before_66 a_joined_66 a_p1_66 H locs ls h hP hD hS hl => ?_)
  exact RET a_before_66 a_joined_66 a_p1_66 H locs ls 66 dX1_pickSigns_66 h hP hD hS
abbrev rm_X1_leastCostBeside : Room := { frames := 3, cells := 0, slots := 0, locals := 66 }
theorem q_X1_leastCostBeside : yX1_leastCostBeside.cls = RX1 ∧ yX1_leastCostBeside.cls ≠ "java/lang/invoke/MethodHandle" ∧ yX1_leastCostBeside.cls ≠ "java/lang/invoke/VarHandle" ∧ (parseMethodDescriptor yX1_leastCostBeside.desc).map (fun d => d.parameters.length) = some 1 := by decide +kernel
set_option maxHeartbeats 4000000 in
set_option maxRecDepth 100000 in
theorem c_X1_leastCostBeside (l : Launch) (dC : Nat → ClassId) (dI : Nat → Nat → Nat) (cy : ClassId) (h_this : Nat) (h_before : Nat) (h_behind : Nat) (h_costs : Nat) (h_here : Nat) (h_joined : Nat) (h_p1 : Nat) (sz : Nat) (g_this_1 : Value) (f_places : Int32) (a_before : Nat → Int32) (a_behind : Nat → Int32) (a_costs : Nat → Int32) (a_here : Nat → Int32) (a_joined : Nat → Int32) (a_p1 : Nat → Int32) (Q : Int32 → (Nat → Int32) → (Nat → Int32) → Prop) (h : p_X1_leastCostBeside f_places a_before a_behind a_costs a_here a_joined a_p1 Q) : Met l yX1_leastCostBeside wsX1_leastCostBeside rm_X1_leastCostBeside (va_Pc [.ref h_this, .ref h_p1] (fun U => U.heap.size = sz ∧ va_P (dC, dI) vwCl [(h_this, .inr (1, [.int f_places, g_this_1, .ref h_costs, .ref h_here, .ref h_behind, .ref h_before, .ref h_joined])), (h_before, .inl (cy, 9, .inl a_before)), (h_behind, .inl (cy, 180, .inl a_behind)), (h_costs, .inl (cy, 2160, .inl a_costs)), (h_here, .inl (cy, 180, .inl a_here)), (h_joined, .inl (cy, 9, .inl a_joined)), (h_p1, .inl (cy, 20, .inl a_p1))] U.heap ∧ va_K (dC, dI) vwCl [(cy, .int)] U ∧ va_D (fun _ => True) [(h_this, .inr (1, [.int f_places, g_this_1, .ref h_costs, .ref h_here, .ref h_behind, .ref h_before, .ref h_joined])), (h_before, .inl (cy, 9, .inl a_before)), (h_behind, .inl (cy, 180, .inl a_behind)), (h_costs, .inl (cy, 2160, .inl a_costs)), (h_here, .inl (cy, 180, .inl a_here)), (h_joined, .inl (cy, 9, .inl a_joined)), (h_p1, .inl (cy, 20, .inl a_p1))])) (va_Qi (fun (r : Int32) (u : (Nat → Int32) × (Nat → Int32)) => Q r u.1 u.2) (fun (u : (Nat → Int32) × (Nat → Int32)) (t : State) => va_P (dC, dI) vwCl [(h_this, .inr (1, [.int f_places, g_this_1, .ref h_costs, .ref h_here, .ref h_behind, .ref h_before, .ref h_joined])), (h_before, .inl (cy, 9, .inl (u.1))), (h_behind, .inl (cy, 180, .inl a_behind)), (h_costs, .inl (cy, 2160, .inl a_costs)), (h_here, .inl (cy, 180, .inl a_here)), (h_joined, .inl (cy, 9, .inl (u.2))), (h_p1, .inl (cy, 20, .inl a_p1))] t.heap ∧ va_K (dC, dI) vwCl [(cy, .int)] t ∧ va_D (va_A [(h_this, .inr (1, [.int f_places, g_this_1, .ref h_costs, .ref h_here, .ref h_behind, .ref h_before, .ref h_joined])), (h_before, .inl (cy, 9, .inl a_before)), (h_behind, .inl (cy, 180, .inl a_behind)), (h_costs, .inl (cy, 2160, .inl a_costs)), (h_here, .inl (cy, 180, .inl a_here)), (h_joined, .inl (cy, 9, .inl a_joined)), (h_p1, .inl (cy, 20, .inl a_p1))] sz) [(h_this, .inr (1, [.int f_places, g_this_1, .ref h_costs, .ref h_here, .ref h_behind, .ref h_before, .ref h_joined])), (h_before, .inl (cy, 9, .inl (u.1))), (h_behind, .inl (cy, 180, .inl a_behind)), (h_costs, .inl (cy, 2160, .inl a_costs)), (h_here, .inl (cy, 180, .inl a_here)), (h_joined, .inl (cy, 9, .inl (u.2))), (h_p1, .inl (cy, 20, .inl a_p1))]) (va_A [(h_this, .inr (1, [.int f_places, g_this_1, .ref h_costs, .ref h_here, .ref h_behind, .ref h_before, .ref h_joined])), (h_before, .inl (cy, 9, .inl a_before)), (h_behind, .inl (cy, 180, .inl a_behind)), (h_costs, .inl (cy, 2160, .inl a_costs)), (h_here, .inl (cy, 180, .inl a_here)), (h_joined, .inl (cy, 9, .inl a_joined)), (h_p1, .inl (cy, 20, .inl a_p1))] sz)) 0 0 (va_A [(h_this, .inr (1, [.int f_places, g_this_1, .ref h_costs, .ref h_here, .ref h_behind, .ref h_before, .ref h_joined])), (h_before, .inl (cy, 9, .inl a_before)), (h_behind, .inl (cy, 180, .inl a_behind)), (h_costs, .inl (cy, 2160, .inl a_costs)), (h_here, .inl (cy, 180, .inl a_here)), (h_joined, .inl (cy, 9, .inl a_joined)), (h_p1, .inl (cy, 20, .inl a_p1))] sz) := by
  refine Met.ofW (cc := cX1_leastCostBeside) (maxL := 5) (ret := (some .int)) (by decide) rfl ?_
  intro p e s m args below meth c s₁ B hml hv
  obtain ⟨hargs, hsz, hP, hK, hD0⟩ := hv
  have hx := B.exec
  have hb := B.bytes
  have hr := B.returns
  have hts := atoms_spec (ws := wsX1_leastCostBeside) B.pre
  have hown : s.vm.findClass RX1 = some m.cls := findClass_of_methodNamed B.named
  have hlocks := B.notSynchronized
  subst hsz
  have hD := hD0.self (sz := s.heap.size)
  generalize hAe : va_A [(h_this, .inr (1, [.int f_places, g_this_1, .ref h_costs, .ref h_here, .ref h_behind, .ref h_before, .ref h_joined])), (h_before, .inl (cy, 9, .inl a_before)), (h_behind, .inl (cy, 180, .inl a_behind)), (h_costs, .inl (cy, 2160, .inl a_costs)), (h_here, .inl (cy, 180, .inl a_here)), (h_joined, .inl (cy, 9, .inl a_joined)), (h_p1, .inl (cy, 20, .inl a_p1))] s.heap.size = A at hD ⊢
  have hA : ∀ q : Nat, s.heap.size ≤ q → A q := fun q h => by rw [← hAe]; exact Or.inr h
  have hS : va_S A s.heap s.heap [] := va_S.rf
  have in_X1 : ∀ w ∈ u_ws RX1 TX1 7, w ∈ wsX1_leastCostBeside := by decide +kernel
  have k_9 := hts (.fieldLink RX1 9 "ChequeDesk$Head" "places" "I") (by decide +kernel)
  have k_22 := hts (.fieldLink RX1 22 "ChequeDesk$Head" "here" "[I") (by decide +kernel)
  have m_48_1 := hts (.methodLink RX1 48 Lib.Math.min.name) (by decide +kernel)
  have m_48_2 := hts (.static Lib.Math.min.name) (by decide +kernel)
  have m_48_3 := hts (.initialized "java/lang/Math") (by decide +kernel)
  have m_48_4 := hts (.code Lib.Math.min.name Lib.Math.min.code 2 (some .int)) (by decide +kernel)
  have hl := lv_entry ([.ref h_this, .ref h_p1]) (n := 5) (Nat.le_of_ble_eq_true rfl)
  rw [show entryFrame m args 5 = entryFrame m ([.ref h_this, .ref h_p1] : List Value).toArray 5 by rw [hargs], lg_entry_eq]
  generalize (lg_sl ([.ref h_this, .ref h_p1]) ++ List.replicate (5 - (lg_sl ([.ref h_this, .ref h_p1])).length) Slot.unset).toArray = ls at hl ⊢
  have hl : lv_has ls 5 [(0, .ref h_this), (1, .ref h_p1)] := hl
  have hP : va_P (dC, dI) vwCl [(h_this, .inr (1, [.int f_places, g_this_1, .ref h_costs, .ref h_here, .ref h_behind, .ref h_before, .ref h_joined])), (h_before, .inl (cy, 9, .inl a_before)), (h_behind, .inl (cy, 180, .inl a_behind)), (h_costs, .inl (cy, 2160, .inl a_costs)), (h_here, .inl (cy, 180, .inl a_here)), (h_joined, .inl (cy, 9, .inl a_joined)), (h_p1, .inl (cy, 20, .inl a_p1))] s.heap := hP
  change W p l e rm_X1_leastCostBeside s m args below meth c s.heap [] 0 0 _ _
  generalize hQQ : MQ below _ _ _ _ _ _ = QQ
  have RET : ∀ (r : Int32) (a_before : Nat → Int32) (a_joined : Nat → Int32) (H : Heap) (locs : List Loc) (ls : Array Slot) (pc : Nat), decode cX1_leastCostBeside pc = .ok (.ireturn, 1) → Q r a_before a_joined → va_P (dC, dI) vwCl [(h_this, .inr (1, [.int f_places, g_this_1, .ref h_costs, .ref h_here, .ref h_behind, .ref h_before, .ref h_joined])), (h_before, .inl (cy, 9, .inl a_before)), (h_behind, .inl (cy, 180, .inl a_behind)), (h_costs, .inl (cy, 2160, .inl a_costs)), (h_here, .inl (cy, 180, .inl a_here)), (h_joined, .inl (cy, 9, .inl a_joined)), (h_p1, .inl (cy, 20, .inl a_p1))] H → va_D A [(h_this, .inr (1, [.int f_places, g_this_1, .ref h_costs, .ref h_here, .ref h_behind, .ref h_before, .ref h_joined])), (h_before, .inl (cy, 9, .inl a_before)), (h_behind, .inl (cy, 180, .inl a_behind)), (h_costs, .inl (cy, 2160, .inl a_costs)), (h_here, .inl (cy, 180, .inl a_here)), (h_joined, .inl (cy, 9, .inl a_joined)), (h_p1, .inl (cy, 20, .inl a_p1))] → va_S A s.heap H locs → W p l e rm_X1_leastCostBeside s m args below meth c H locs 0 0 QQ (F0 m pc ls [.int r]) := by
    intro r a_before a_joined H locs ls pc hdg hq hP hD hS
    rw [← hQQ]
    exact W.iret (v := r) hx hb hr (fun t ht hW => ⟨⟨r, (a_before, a_joined), rfl, hq, by rw [ht]; exact hP, va_K.moved hW.alike hK, hD⟩, hS.F ht⟩) hS.2.2 hdg
  clear hQQ
  unfold p_X1_leastCostBeside at h
  have L10 : ∀ (K10 : Int32 → Int32 → (Nat → Int32) → (Nat → Int32) → Prop) (n : Nat) (x2 : Int32) (x3 : Int32) (a_before : Nat → Int32) (a_joined : Nat → Int32) (H : Heap) (locs : List Loc) (ls : Array Slot), wl4 (p_X1_leastCostBeside_B10 f_places a_behind a_costs a_here a_p1 K10) n x2 x3 a_before a_joined → va_P (dC, dI) vwCl [(h_this, .inr (1, [.int f_places, g_this_1, .ref h_costs, .ref h_here, .ref h_behind, .ref h_before, .ref h_joined])), (h_before, .inl (cy, 9, .inl a_before)), (h_behind, .inl (cy, 180, .inl a_behind)), (h_costs, .inl (cy, 2160, .inl a_costs)), (h_here, .inl (cy, 180, .inl a_here)), (h_joined, .inl (cy, 9, .inl a_joined)), (h_p1, .inl (cy, 20, .inl a_p1))] H → va_D A [(h_this, .inr (1, [.int f_places, g_this_1, .ref h_costs, .ref h_here, .ref h_behind, .ref h_before, .ref h_joined])), (h_before, .inl (cy, 9, .inl a_before)), (h_behind, .inl (cy, 180, .inl a_behind)), (h_costs, .inl (cy, 2160, .inl a_costs)), (h_here, .inl (cy, 180, .inl a_here)), (h_joined, .inl (cy, 9, .inl a_joined)), (h_p1, .inl (cy, 20, .inl a_p1))] → va_S A s.heap H locs → lv_has ls 5 [(0, .ref h_this), (1, .ref h_p1), (2, .int x2), (3, .int x3)] → (∀ (x2 : Int32) (x3 : Int32) (a_before : Nat → Int32) (a_joined : Nat → Int32) (H : Heap) (locs : List Loc) (ls : Array Slot), K10 x2 x3 a_before a_joined → va_P (dC, dI) vwCl [(h_this, .inr (1, [.int f_places, g_this_1, .ref h_costs, .ref h_here, .ref h_behind, .ref h_before, .ref h_joined])), (h_before, .inl (cy, 9, .inl a_before)), (h_behind, .inl (cy, 180, .inl a_behind)), (h_costs, .inl (cy, 2160, .inl a_costs)), (h_here, .inl (cy, 180, .inl a_here)), (h_joined, .inl (cy, 9, .inl a_joined)), (h_p1, .inl (cy, 20, .inl a_p1))] H → va_D A [(h_this, .inr (1, [.int f_places, g_this_1, .ref h_costs, .ref h_here, .ref h_behind, .ref h_before, .ref h_joined])), (h_before, .inl (cy, 9, .inl a_before)), (h_behind, .inl (cy, 180, .inl a_behind)), (h_costs, .inl (cy, 2160, .inl a_costs)), (h_here, .inl (cy, 180, .inl a_here)), (h_joined, .inl (cy, 9, .inl a_joined)), (h_p1, .inl (cy, 20, .inl a_p1))] → va_S A s.heap H locs → lv_has ls 5 [(2, .int x2)] → W p l e rm_X1_leastCostBeside s m args below meth c H locs 0 0 QQ (F0 m 72 ls [])) → W p l e rm_X1_leastCostBeside s m args below meth c H locs 0 0 QQ (F0 m 10 ls []) := by
    intro K10 n
    induction n with
    | zero => intro x2 x3 a_before a_joined H locs ls h; exact False.elim h
    | succ n ih =>
      intro x2 x3 a_before a_joined H locs ls h hP hD hS hl hk
      have ih := fun x2 x3 a_before a_joined H locs ls h hP hD hS hl => ih x2 x3 a_before a_joined H locs ls h hP hD hS hl hk
      replace h : p_X1_leastCostBeside_B10 f_places a_behind a_costs a_here a_p1 K10 (wl4 (p_X1_leastCostBeside_B10 f_places a_behind a_costs a_here a_p1 K10) n) x2 x3 a_before a_joined := h
      unfold p_X1_leastCostBeside_B10 at h
      have L21 : ∀ (x3 : Int32) (a_before : Nat → Int32) (a_joined : Nat → Int32) (K21 : Int32 → Int32 → Prop) (n : Nat) (x2 : Int32) (x4 : Int32) (H : Heap) (locs : List Loc) (ls : Array Slot), wl2 (p_X1_leastCostBeside_B21 a_before a_behind a_costs a_p1 x3 K21) n x2 x4 → va_P (dC, dI) vwCl [(h_this, .inr (1, [.int f_places, g_this_1, .ref h_costs, .ref h_here, .ref h_behind, .ref h_before, .ref h_joined])), (h_before, .inl (cy, 9, .inl a_before)), (h_behind, .inl (cy, 180, .inl a_behind)), (h_costs, .inl (cy, 2160, .inl a_costs)), (h_here, .inl (cy, 180, .inl a_here)), (h_joined, .inl (cy, 9, .inl a_joined)), (h_p1, .inl (cy, 20, .inl a_p1))] H → va_D A [(h_this, .inr (1, [.int f_places, g_this_1, .ref h_costs, .ref h_here, .ref h_behind, .ref h_before, .ref h_joined])), (h_before, .inl (cy, 9, .inl a_before)), (h_behind, .inl (cy, 180, .inl a_behind)), (h_costs, .inl (cy, 2160, .inl a_costs)), (h_here, .inl (cy, 180, .inl a_here)), (h_joined, .inl (cy, 9, .inl a_joined)), (h_p1, .inl (cy, 20, .inl a_p1))] → va_S A s.heap H locs → lv_has ls 5 [(0, .ref h_this), (1, .ref h_p1), (2, .int x2), (3, .int x3), (4, .int x4)] → (∀ (x2 : Int32) (x4 : Int32) (H : Heap) (locs : List Loc) (ls : Array Slot), K21 x2 x4 → va_P (dC, dI) vwCl [(h_this, .inr (1, [.int f_places, g_this_1, .ref h_costs, .ref h_here, .ref h_behind, .ref h_before, .ref h_joined])), (h_before, .inl (cy, 9, .inl a_before)), (h_behind, .inl (cy, 180, .inl a_behind)), (h_costs, .inl (cy, 2160, .inl a_costs)), (h_here, .inl (cy, 180, .inl a_here)), (h_joined, .inl (cy, 9, .inl a_joined)), (h_p1, .inl (cy, 20, .inl a_p1))] H → va_D A [(h_this, .inr (1, [.int f_places, g_this_1, .ref h_costs, .ref h_here, .ref h_behind, .ref h_before, .ref h_joined])), (h_before, .inl (cy, 9, .inl a_before)), (h_behind, .inl (cy, 180, .inl a_behind)), (h_costs, .inl (cy, 2160, .inl a_costs)), (h_here, .inl (cy, 180, .inl a_here)), (h_joined, .inl (cy, 9, .inl a_joined)), (h_p1, .inl (cy, 20, .inl a_p1))] → va_S A s.heap H locs → lv_has ls 5 [(0, .ref h_this), (1, .ref h_p1), (2, .int x2), (3, .int x3)] → W p l e rm_X1_leastCostBeside s m args below meth c H locs 0 0 QQ (F0 m 54 ls [])) → W p l e rm_X1_leastCostBeside s m args below meth c H locs 0 0 QQ (F0 m 21 ls []) := by
        intro x3 a_before a_joined K21 n
        induction n with
        | zero => intro x2 x4 H locs ls h; exact False.elim h
        | succ n ih =>
          intro x2 x4 H locs ls h hP hD hS hl hk
          have ih := fun x2 x4 H locs ls h hP hD hS hl => ih x2 x4 H locs ls h hP hD hS hl hk
          replace h : p_X1_leastCostBeside_B21 a_before a_behind a_costs a_p1 x3 K21 (wl2 (p_X1_leastCostBeside_B21 a_before a_behind a_costs a_p1 x3 K21) n) x2 x4 := h
          unfold p_X1_leastCostBeside_B21 at h
          have J48 : ∀ (x2 : Int32) (x4 : Int32) (H : Heap) (locs : List Loc) (ls : Array Slot), p_X1_leastCostBeside_J48 (wl2 (p_X1_leastCostBeside_B21 a_before a_behind a_costs a_p1 x3 K21) n) x2 x4 → va_P (dC, dI) vwCl [(h_this, .inr (1, [.int f_places, g_this_1, .ref h_costs, .ref h_here, .ref h_behind, .ref h_before, .ref h_joined])), (h_before, .inl (cy, 9, .inl a_before)), (h_behind, .inl (cy, 180, .inl a_behind)), (h_costs, .inl (cy, 2160, .inl a_costs)), (h_here, .inl (cy, 180, .inl a_here)), (h_joined, .inl (cy, 9, .inl a_joined)), (h_p1, .inl (cy, 20, .inl a_p1))] H → va_D A [(h_this, .inr (1, [.int f_places, g_this_1, .ref h_costs, .ref h_here, .ref h_behind, .ref h_before, .ref h_joined])), (h_before, .inl (cy, 9, .inl a_before)), (h_behind, .inl (cy, 180, .inl a_behind)), (h_costs, .inl (cy, 2160, .inl a_costs)), (h_here, .inl (cy, 180, .inl a_here)), (h_joined, .inl (cy, 9, .inl a_joined)), (h_p1, .inl (cy, 20, .inl a_p1))] → va_S A s.heap H locs → lv_has ls 5 [(0, .ref h_this), (1, .ref h_p1), (2, .int x2), (3, .int x3), (4, .int x4)] → W p l e rm_X1_leastCostBeside s m args below meth c H locs 0 0 QQ (F0 m 48 ls []) := by
            intro x2 x4 H locs ls h hP hD hS hl
            unfold p_X1_leastCostBeside_J48 at h
            refine lv_iinc (v := x4 + 1) (lv' := [(4, .int (x4 + 1)), (0, .ref h_this), (1, .ref h_p1), (2, .int x2), (3, .int x3)]) hx hb dX1_leastCostBeside_48 hl (k := 4) rfl (by rfl) (by decide) rfl (fun ls hl => ?_)
            refine lv_goto (tgt := 21) hx hb dX1_leastCostBeside_51 (by decide) ?_
            exact ih x2 (x4 + 1) H locs ls h hP hD hS (lv_sub hl [1, 2, 3, 4, 0] rfl)
          refine lv_iload hx hb dX1_leastCostBeside_21 (lv_at hl 4 rfl) ?_
          refine lv_bipush (v := 12) hx hb dX1_leastCostBeside_23 (by decide) ?_
          refine lv_icmp_ge (tgt := 54) hx hb dX1_leastCostBeside_25 (by decide) (fun c25 => ?_) (fun c25 => ?_)
          · replace h := And.left h c25
            exact hk x2 x4 H locs ls h hP hD hS (lv_sub hl [0, 1, 2, 3] rfl)
          · replace h := And.right h c25
            refine lv_iload hx hb dX1_leastCostBeside_28 (lv_at hl 4 rfl) ?_
            refine lv_aload_n hx hb dX1_leastCostBeside_30 rfl (lv_at hl 1 rfl) ?_
            refine lv_iload_n hx hb dX1_leastCostBeside_31 rfl (lv_at hl 3 rfl) ?_
            obtain ⟨b32, h⟩ := h
            refine va_iald hx hb hK hP 6 0 rfl rfl b32 dX1_leastCostBeside_32 ?_
            refine lv_icmp_eq (tgt := 48) hx hb dX1_leastCostBeside_33 (by decide) (fun c33 => ?_) (fun c33 => ?_)
            · replace h := And.left h c33
              exact J48 x2 x4 H locs ls h hP hD hS (lv_sub hl [0, 1, 2, 3, 4] rfl)
            · replace h := And.right h c33
              refine lv_iload_n hx hb dX1_leastCostBeside_36 rfl (lv_at hl 2 rfl) ?_
              refine lv_aload_n hx hb dX1_leastCostBeside_37 rfl (lv_at hl 0 rfl) ?_
              refine lv_iload_n hx hb dX1_leastCostBeside_38 rfl (lv_at hl 3 rfl) ?_
              refine lv_iload hx hb dX1_leastCostBeside_39 (lv_at hl 4 rfl) ?_
              have hPc := hP.sub (ws' := [(h_this, .inr (1, [.int f_places, g_this_1, .ref h_costs, .ref h_here, .ref h_behind, .ref h_before, .ref h_joined])), (h_before, .inl (cy, 9, .inl a_before)), (h_behind, .inl (cy, 180, .inl a_behind)), (h_costs, .inl (cy, 2160, .inl a_costs))]) [0, 1, 2, 3] rfl
              have hDc := hD.sub (ws' := [(h_this, .inr (1, [.int f_places, g_this_1, .ref h_costs, .ref h_here, .ref h_behind, .ref h_before, .ref h_joined])), (h_before, .inl (cy, 9, .inl a_before)), (h_behind, .inl (cy, 180, .inl a_behind)), (h_costs, .inl (cy, 2160, .inl a_costs))]) [0, 1, 2, 3] (by decide) rfl
              have hFc := va_free (wc := [(h_this, .inr (1, [.int f_places, g_this_1, .ref h_costs, .ref h_here, .ref h_behind, .ref h_before, .ref h_joined])), (h_before, .inl (cy, 9, .inl a_before)), (h_behind, .inl (cy, 180, .inl a_behind)), (h_costs, .inl (cy, 2160, .inl a_costs))]) hD hS hA [0, 1, 2, 3] rfl
              refine va_calli (va_runV (As := [.int x3, .int x4]) (rest := [.int x2]) ⟨hx, hb, hml, hown, hts⟩ (c_X1_leastThrough l dC dI cy h_this h_before h_behind h_costs H.size (.int f_places) (g_this_1) (.ref h_here) (.ref h_joined) a_before a_behind a_costs x3 x4 _ h) (cwV 2 hts gX1_leastCostBeside_X1_leastThrough rfl rfl rfl q_X1_leastThrough ⟨Nat.le_of_ble_eq_true rfl, Nat.le_of_ble_eq_true rfl⟩) ⟨fun a U g mk q => by obtain ⟨q0, q1, qP, qK, qD⟩ := q; exact ⟨q0, q1, qP, va_K.moved (u := U) (U := U.calling g mk a) (Vm.Alike.refl U.vm) qK, qD⟩, va_recv hK hP (ci := 1) (q0 := 0) rfl rfl, fun U hU hW => ⟨rfl, by rw [hU], by rw [hU]; exact hPc, va_K.moved hW.alike hK, hDc.weaken (fun _ _ _ _ => trivial)⟩⟩ rfl rfl hl.1 rfl (lv_room (Nat.le_of_ble_eq_true rfl)) dX1_leastCostBeside_41 ⟨Nat.le_of_ble_eq_true rfl, Nat.le_of_ble_eq_true rfl⟩) hS (fun q _ h => hFc q h) hFc (fun r41 u t H1 locs ht hvm hw hB hz1 hk1 hS => ?_)
              obtain ⟨hP1, hK1, hD1⟩ := hB
              rw [ht] at hP1
              obtain ⟨hP, hD⟩ := va_join (wr := [(h_here, .inl (cy, 180, .inl a_here)), (h_joined, .inl (cy, 9, .inl a_joined)), (h_p1, .inl (cy, 20, .inl a_p1))]) (w1 := [(h_this, .inr (1, [.int f_places, g_this_1, .ref h_costs, .ref h_here, .ref h_behind, .ref h_before, .ref h_joined])), (h_before, .inl (cy, 9, .inl a_before)), (h_behind, .inl (cy, 180, .inl a_behind)), (h_costs, .inl (cy, 2160, .inl a_costs))]) hP hD [0, 1, 2, 3] [4, 5, 6] rfl rfl (by decide) (by decide) hk1 hFc hP1 hD1
              replace hP := hP.sub (ws' := [(h_this, .inr (1, [.int f_places, g_this_1, .ref h_costs, .ref h_here, .ref h_behind, .ref h_before, .ref h_joined])), (h_before, .inl (cy, 9, .inl a_before)), (h_behind, .inl (cy, 180, .inl a_behind)), (h_costs, .inl (cy, 2160, .inl a_costs)), (h_here, .inl (cy, 180, .inl a_here)), (h_joined, .inl (cy, 9, .inl a_joined)), (h_p1, .inl (cy, 20, .inl a_p1))]) [3, 4, 5, 6, 0, 1, 2] rfl
              replace hD := hD.sub (ws' := [(h_this, .inr (1, [.int f_places, g_this_1, .ref h_costs, .ref h_here, .ref h_behind, .ref h_before, .ref h_joined])), (h_before, .inl (cy, 9, .inl a_before)), (h_behind, .inl (cy, 180, .inl a_behind)), (h_costs, .inl (cy, 2160, .inl a_costs)), (h_here, .inl (cy, 180, .inl a_here)), (h_joined, .inl (cy, 9, .inl a_joined)), (h_p1, .inl (cy, 20, .inl a_p1))]) [3, 4, 5, 6, 0, 1, 2] (by decide) rfl
              clear hPc hDc hFc hP1 hK1 hD1 hz1 hk1 hvm
              subst ht
              generalize t.heap = H at hP hS ⊢
              replace h := hw
              clear hw
              refine my_mmin hx hb (by rw [hml]; exact hl.1.symm) hown m_48_1 m_48_2 m_48_3 m_48_4 (Nat.le_of_ble_eq_true rfl) (Nat.le_of_ble_eq_true rfl) (Nat.zero_le _) (Nat.zero_le _) dX1_leastCostBeside_44 ?_
              refine lv_istore_n (lv' := [(2, .int (jmin x2 r41)), (0, .ref h_this), (1, .ref h_p1), (3, .int x3), (4, .int x4)]) hx hb dX1_leastCostBeside_47 rfl hl (by decide) rfl (fun ls hl => ?_)
              exact J48 (jmin x2 r41) x4 H locs ls h hP hD hS (lv_sub hl [1, 2, 0, 3, 4] rfl)
      refine lv_iload_n hx hb dX1_leastCostBeside_10 rfl (lv_at hl 3 rfl) ?_
      refine lv_aload_n hx hb dX1_leastCostBeside_11 rfl (lv_at hl 0 rfl) ?_
      refine va_get (D := (dC, dI)) (ci := 1) (v := .int f_places) (C := RX1) (T := TX1) (N := 7) hx hb hts in_X1 hown hK hP 0 rfl rfl 0 (by decide) k_9 (fun _ h9 => h9) rfl dX1_leastCostBeside_12 ?_
      refine lv_icmp_ge (tgt := 72) hx hb dX1_leastCostBeside_15 (by decide) (fun c15 => ?_) (fun c15 => ?_)
      · replace h := And.left h c15
        exact hk x2 x3 a_before a_joined H locs ls h hP hD hS (lv_sub hl [2] rfl)
      · replace h := And.right h c15
        refine lv_iconst (v := 0) hx hb dX1_leastCostBeside_18 (by decide) ?_
        refine lv_istore (lv' := [(4, .int 0), (0, .ref h_this), (1, .ref h_p1), (2, .int x2), (3, .int x3)]) hx hb dX1_leastCostBeside_19 hl (by decide) rfl (fun ls hl => ?_)
        obtain ⟨n21, h⟩ := h
        refine L21 x3 a_before a_joined _ n21 x2 0 H locs ls h hP hD hS (lv_sub hl [1, 2, 3, 4, 0] rfl) (fun x2_54 x4_54 H locs ls h hP hD hS hl => ?_)
        refine lv_aload_n hx hb dX1_leastCostBeside_54 rfl (lv_at hl 0 rfl) ?_
        refine lv_aload_n hx hb dX1_leastCostBeside_55 rfl (lv_at hl 0 rfl) ?_
        refine va_get (D := (dC, dI)) (ci := 1) (v := .ref h_here) (C := RX1) (T := TX1) (N := 7) hx hb hts in_X1 hown hK hP 0 rfl rfl 3 (by decide) k_22 (fun _ h9 => h9) rfl dX1_leastCostBeside_56 ?_
        refine lv_iload_n hx hb dX1_leastCostBeside_59 rfl (lv_at hl 3 rfl) ?_
        refine lv_bipush (v := 9) hx hb dX1_leastCostBeside_60 (by decide) ?_
        refine lv_imul hx hb dX1_leastCostBeside_62 ?_
        have hPc := hP.sub (ws' := [(h_this, .inr (1, [.int f_places, g_this_1, .ref h_costs, .ref h_here, .ref h_behind, .ref h_before, .ref h_joined])), (h_before, .inl (cy, 9, .inl a_before)), (h_joined, .inl (cy, 9, .inl a_joined)), (h_here, .inl (cy, 180, .inl a_here))]) [0, 1, 5, 4] rfl
        have hDc := hD.sub (ws' := [(h_this, .inr (1, [.int f_places, g_this_1, .ref h_costs, .ref h_here, .ref h_behind, .ref h_before, .ref h_joined])), (h_before, .inl (cy, 9, .inl a_before)), (h_joined, .inl (cy, 9, .inl a_joined)), (h_here, .inl (cy, 180, .inl a_here))]) [0, 1, 5, 4] (by decide) rfl
        have hFc := va_free (wc := [(h_this, .inr (1, [.int f_places, g_this_1, .ref h_costs, .ref h_here, .ref h_behind, .ref h_before, .ref h_joined])), (h_before, .inl (cy, 9, .inl a_before)), (h_joined, .inl (cy, 9, .inl a_joined)), (h_here, .inl (cy, 180, .inl a_here))]) hD hS hA [0, 1, 5, 4] rfl
        refine va_callv (va_runV (As := [.ref h_here, .int (x3 * 9)]) (rest := []) ⟨hx, hb, hml, hown, hts⟩ (c_X1_walkOn l dC dI cy 180 h_this h_before h_joined h_here H.size (.int f_places) (g_this_1) (.ref h_costs) (.ref h_here) (.ref h_behind) a_before a_joined a_here (x3 * 9) _ h) (cwV 2 hts gX1_leastCostBeside_X1_walkOn rfl rfl rfl q_X1_walkOn ⟨Nat.le_of_ble_eq_true rfl, Nat.le_of_ble_eq_true rfl⟩) ⟨fun a U g mk q => by obtain ⟨q0, q1, qP, qK, qD⟩ := q; exact ⟨q0, q1, qP, va_K.moved (u := U) (U := U.calling g mk a) (Vm.Alike.refl U.vm) qK, qD⟩, va_recv hK hP (ci := 1) (q0 := 0) rfl rfl, fun U hU hW => ⟨rfl, by rw [hU], by rw [hU]; exact hPc, va_K.moved hW.alike hK, hDc.weaken (fun _ _ _ _ => trivial)⟩⟩ rfl rfl hl.1 rfl (lv_room (Nat.le_of_ble_eq_true rfl)) dX1_leastCostBeside_63 ⟨Nat.le_of_ble_eq_true rfl, Nat.le_of_ble_eq_true rfl⟩) hS (fun q _ h => hFc q h) hFc (fun u t H1 locs ht hvm hw hB hz1 hk1 hS => ?_)
        obtain ⟨a_before_63, a_joined_63⟩ := u
        obtain ⟨hP1, hK1, hD1⟩ := hB
        rw [ht] at hP1
        obtain ⟨hP, hD⟩ := va_join (wr := [(h_behind, .inl (cy, 180, .inl a_behind)), (h_costs, .inl (cy, 2160, .inl a_costs)), (h_p1, .inl (cy, 20, .inl a_p1))]) (w1 := [(h_this, .inr (1, [.int f_places, g_this_1, .ref h_costs, .ref h_here, .ref h_behind, .ref h_before, .ref h_joined])), (h_before, .inl (cy, 9, .inl a_before_63)), (h_joined, .inl (cy, 9, .inl a_joined_63)), (h_here, .inl (cy, 180, .inl a_here))]) hP hD [0, 1, 5, 4] [2, 3, 6] rfl rfl (by decide) (by decide) hk1 hFc hP1 hD1
        replace hP := hP.sub (ws' := [(h_this, .inr (1, [.int f_places, g_this_1, .ref h_costs, .ref h_here, .ref h_behind, .ref h_before, .ref h_joined])), (h_before, .inl (cy, 9, .inl a_before_63)), (h_behind, .inl (cy, 180, .inl a_behind)), (h_costs, .inl (cy, 2160, .inl a_costs)), (h_here, .inl (cy, 180, .inl a_here)), (h_joined, .inl (cy, 9, .inl a_joined_63)), (h_p1, .inl (cy, 20, .inl a_p1))]) [3, 4, 0, 1, 6, 5, 2] rfl
        replace hD := hD.sub (ws' := [(h_this, .inr (1, [.int f_places, g_this_1, .ref h_costs, .ref h_here, .ref h_behind, .ref h_before, .ref h_joined])), (h_before, .inl (cy, 9, .inl a_before_63)), (h_behind, .inl (cy, 180, .inl a_behind)), (h_costs, .inl (cy, 2160, .inl a_costs)), (h_here, .inl (cy, 180, .inl a_here)), (h_joined, .inl (cy, 9, .inl a_joined_63)), (h_p1, .inl (cy, 20, .inl a_p1))]) [3, 4, 0, 1, 6, 5, 2] (by decide) rfl
        clear hPc hDc hFc hP1 hK1 hD1 hz1 hk1 hvm
        subst ht
        generalize t.heap = H at hP hS ⊢
        replace h := hw
        clear hw
        refine lv_iinc (v := x3 + 1) (lv' := [(3, .int (x3 + 1)), (0, .ref h_this), (1, .ref h_p1), (2, .int x2_54)]) hx hb dX1_leastCostBeside_66 hl (k := 3) rfl (by rfl) (by decide) rfl (fun ls hl => ?_)
        refine lv_goto (tgt := 10) hx hb dX1_leastCostBeside_69 (by decide) ?_
        exact ih x2_54 (x3 + 1) a_before_63 a_joined_63 H locs ls h hP hD hS (lv_sub hl [1, 2, 3, 0] rfl)
  generalize hlo : ([] : List Loc) = locs at hS ⊢
  obtain ⟨H, hH⟩ : ∃ z, z = s.heap := ⟨_, rfl⟩
  rw [show W p l e rm_X1_leastCostBeside s m args below meth c s.heap = W p l e rm_X1_leastCostBeside s m args below meth c H by rw [hH]]
  replace hP : va_P (dC, dI) vwCl [(h_this, .inr (1, [.int f_places, g_this_1, .ref h_costs, .ref h_here, .ref h_behind, .ref h_before, .ref h_joined])), (h_before, .inl (cy, 9, .inl a_before)), (h_behind, .inl (cy, 180, .inl a_behind)), (h_costs, .inl (cy, 2160, .inl a_costs)), (h_here, .inl (cy, 180, .inl a_here)), (h_joined, .inl (cy, 9, .inl a_joined)), (h_p1, .inl (cy, 20, .inl a_p1))] H := by rw [hH]; exact hP
  replace hS : va_S A s.heap H locs := by rw [hH]; exact hS
  clear hH hlo
  refine lv_sipush (v := 7201) hx hb dX1_leastCostBeside_0 (by decide) ?_
  refine lv_istore_n (lv' := [(2, .int 7201), (0, .ref h_this), (1, .ref h_p1)]) hx hb dX1_leastCostBeside_3 rfl hl (by decide) rfl (fun ls hl => ?_)
  refine lv_aload_n hx hb dX1_leastCostBeside_4 rfl (lv_at hl 1 rfl) ?_
  have hPc := hP.sub (ws' := [(h_this, .inr (1, [.int f_places, g_this_1, .ref h_costs, .ref h_here, .ref h_behind, .ref h_before, .ref h_joined])), (h_before, .inl (cy, 9, .inl a_before))]) [0, 1] rfl
  have hDc := hD.sub (ws' := [(h_this, .inr (1, [.int f_places, g_this_1, .ref h_costs, .ref h_here, .ref h_behind, .ref h_before, .ref h_joined])), (h_before, .inl (cy, 9, .inl a_before))]) [0, 1] (by decide) rfl
  have hFc := va_free (wc := [(h_this, .inr (1, [.int f_places, g_this_1, .ref h_costs, .ref h_here, .ref h_behind, .ref h_before, .ref h_joined])), (h_before, .inl (cy, 9, .inl a_before))]) hD hS hA [0, 1] rfl
  refine va_callv (va_runV (As := []) (rest := []) ⟨hx, hb, hml, hown, hts⟩ (c_X1_startWalk l dC dI cy h_this h_before H.size (.int f_places) (g_this_1) (.ref h_costs) (.ref h_here) (.ref h_behind) (.ref h_joined) a_before  _ h) (cwV 0 hts gX1_leastCostBeside_X1_startWalk rfl rfl rfl q_X1_startWalk ⟨Nat.le_of_ble_eq_true rfl, Nat.le_of_ble_eq_true rfl⟩) ⟨fun a U g mk q => by obtain ⟨q0, q1, qP, qK, qD⟩ := q; exact ⟨q0, q1, qP, va_K.moved (u := U) (U := U.calling g mk a) (Vm.Alike.refl U.vm) qK, qD⟩, va_recv hK hP (ci := 1) (q0 := 0) rfl rfl, fun U hU hW => ⟨rfl, by rw [hU], by rw [hU]; exact hPc, va_K.moved hW.alike hK, hDc.weaken (fun _ _ _ _ => trivial)⟩⟩ rfl rfl hl.1 rfl (lv_room (Nat.le_of_ble_eq_true rfl)) dX1_leastCostBeside_5 ⟨Nat.le_of_ble_eq_true rfl, Nat.le_of_ble_eq_true rfl⟩) hS (fun q _ h => hFc q h) hFc (fun u t H1 locs ht hvm hw hB hz1 hk1 hS => ?_)
  obtain ⟨a_before_5, rfl⟩ : ∃ z, z = u := ⟨_, rfl⟩
  obtain ⟨hP1, hK1, hD1⟩ := hB
  rw [ht] at hP1
  obtain ⟨hP, hD⟩ := va_join (wr := [(h_behind, .inl (cy, 180, .inl a_behind)), (h_costs, .inl (cy, 2160, .inl a_costs)), (h_here, .inl (cy, 180, .inl a_here)), (h_joined, .inl (cy, 9, .inl a_joined)), (h_p1, .inl (cy, 20, .inl a_p1))]) (w1 := [(h_this, .inr (1, [.int f_places, g_this_1, .ref h_costs, .ref h_here, .ref h_behind, .ref h_before, .ref h_joined])), (h_before, .inl (cy, 9, .inl a_before_5))]) hP hD [0, 1] [2, 3, 4, 5, 6] rfl rfl (by decide) (by decide) hk1 hFc hP1 hD1
  replace hP := hP.sub (ws' := [(h_this, .inr (1, [.int f_places, g_this_1, .ref h_costs, .ref h_here, .ref h_behind, .ref h_before, .ref h_joined])), (h_before, .inl (cy, 9, .inl a_before_5)), (h_behind, .inl (cy, 180, .inl a_behind)), (h_costs, .inl (cy, 2160, .inl a_costs)), (h_here, .inl (cy, 180, .inl a_here)), (h_joined, .inl (cy, 9, .inl a_joined)), (h_p1, .inl (cy, 20, .inl a_p1))]) [5, 6, 0, 1, 2, 3, 4] rfl
  replace hD := hD.sub (ws' := [(h_this, .inr (1, [.int f_places, g_this_1, .ref h_costs, .ref h_here, .ref h_behind, .ref h_before, .ref h_joined])), (h_before, .inl (cy, 9, .inl a_before_5)), (h_behind, .inl (cy, 180, .inl a_behind)), (h_costs, .inl (cy, 2160, .inl a_costs)), (h_here, .inl (cy, 180, .inl a_here)), (h_joined, .inl (cy, 9, .inl a_joined)), (h_p1, .inl (cy, 20, .inl a_p1))]) [5, 6, 0, 1, 2, 3, 4] (by decide) rfl
  clear hPc hDc hFc hP1 hK1 hD1 hz1 hk1 hvm
  subst ht
  generalize t.heap = H at hP hS ⊢
  replace h := hw
  clear hw
  refine lv_iconst (v := 0) hx hb dX1_leastCostBeside_8 (by decide) ?_
  refine lv_istore_n (lv' := [(3, .int 0), (2, .int 7201), (0, .ref h_this), (1, .ref h_p1)]) hx hb dX1_leastCostBeside_9 rfl hl (by decide) rfl (fun ls hl => ?_)
  obtain ⟨n10, h⟩ := h
  refine L10  _ n10 7201 0 a_before_5 a_joined H locs ls h hP hD hS (lv_sub hl [2, 3, 1, 0] rfl) (fun x2_72 x3_72 a_before_72 a_joined_72 H locs ls h hP hD hS hl => ?_)
  refine lv_iload_n hx hb dX1_leastCostBeside_72 rfl (lv_at hl 0 rfl) ?_
  exact RET x2_72 a_before_72 a_joined_72 H locs ls 73 dX1_leastCostBeside_73 h hP hD hS
