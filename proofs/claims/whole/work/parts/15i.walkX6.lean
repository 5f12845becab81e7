abbrev rm_X6_amount : Room := { frames := 1, cells := 0, slots := 0, locals := 22 }
theorem q_X6_amount : yX6_amount.cls = RX6 ∧ yX6_amount.cls ≠ "java/lang/invoke/MethodHandle" ∧ yX6_amount.cls ≠ "java/lang/invoke/VarHandle" ∧ (parseMethodDescriptor yX6_amount.desc).map (fun d => d.parameters.length) = some 2 := by decide +kernel
set_option maxHeartbeats 4000000 in
set_option maxRecDepth 100000 in
theorem c_X6_amount (l : Launch) (dC : Nat → ClassId) (dI : Nat → Nat → Nat) (cy : ClassId) (h_this : Nat) (h_paperAmount : Nat) (sz : Nat) (g_this_1 g_this_2 g_this_3 g_this_4 g_this_5 g_this_6 g_this_7 g_this_8 g_this_9 g_this_10 g_this_11 g_this_12 g_this_13 g_this_14 g_this_15 g_this_16 g_this_17 g_this_18 g_this_19 g_this_20 g_this_21 g_this_22 g_this_24 g_this_25 g_this_26 g_this_28 g_this_29 g_this_30 : Value) (f_thrown : Int32) (f_papers : Int32) (a_paperAmount : Nat → Int32) (x1 : Int32) (x2 : Int32) (Q : Int32 → Int32 → (Nat → Int32) → Prop) (h : p_X6_amount f_thrown f_papers a_paperAmount x1 x2 Q) : Met l yX6_amount wsX6_amount rm_X6_amount (va_Pc [.ref h_this, .int x1, .int x2] (fun U => U.heap.size = sz ∧ va_P (dC, dI) vwCl [(h_this, .inr (6, [.int f_thrown, g_this_1, g_this_2, g_this_3, g_this_4, g_this_5, g_this_6, g_this_7, g_this_8, g_this_9, g_this_10, g_this_11, g_this_12, g_this_13, g_this_14, g_this_15, g_this_16, g_this_17, g_this_18, g_this_19, g_this_20, g_this_21, g_this_22, .ref h_paperAmount, g_this_24, g_this_25, g_this_26, .int f_papers, g_this_28, g_this_29, g_this_30])), (h_paperAmount, .inl (cy, 100, .inl a_paperAmount))] U.heap ∧ va_K (dC, dI) vwCl [(cy, .int)] U ∧ va_D (fun _ => True) [(h_this, .inr (6, [.int f_thrown, g_this_1, g_this_2, g_this_3, g_this_4, g_this_5, g_this_6, g_this_7, g_this_8, g_this_9, g_this_10, g_this_11, g_this_12, g_this_13, g_this_14, g_this_15, g_this_16, g_this_17, g_this_18, g_this_19, g_this_20, g_this_21, g_this_22, .ref h_paperAmount, g_this_24, g_this_25, g_this_26, .int f_papers, g_this_28, g_this_29, g_this_30])), (h_paperAmount, .inl (cy, 100, .inl a_paperAmount))])) (va_Qi (fun (r : Int32) (u : Int32 × (Nat → Int32)) => Q r u.1 u.2) (fun (u : Int32 × (Nat → Int32)) (t : State) => va_P (dC, dI) vwCl [(h_this, .inr (6, [.int (u.1), g_this_1, g_this_2, g_this_3, g_this_4, g_this_5, g_this_6, g_this_7, g_this_8, g_this_9, g_this_10, g_this_11, g_this_12, g_this_13, g_this_14, g_this_15, g_this_16, g_this_17, g_this_18, g_this_19, g_this_20, g_this_21, g_this_22, .ref h_paperAmount, g_this_24, g_this_25, g_this_26, .int f_papers, g_this_28, g_this_29, g_this_30])), (h_paperAmount, .inl (cy, 100, .inl (u.2)))] t.heap ∧ va_K (dC, dI) vwCl [(cy, .int)] t ∧ va_D (va_A [(h_this, .inr (6, [.int f_thrown, g_this_1, g_this_2, g_this_3, g_this_4, g_this_5, g_this_6, g_this_7, g_this_8, g_this_9, g_this_10, g_this_11, g_this_12, g_this_13, g_this_14, g_this_15, g_this_16, g_this_17, g_this_18, g_this_19, g_this_20, g_this_21, g_this_22, .ref h_paperAmount, g_this_24, g_this_25, g_this_26, .int f_papers, g_this_28, g_this_29, g_this_30])), (h_paperAmount, .inl (cy, 100, .inl a_paperAmount))] sz) [(h_this, .inr (6, [.int (u.1), g_this_1, g_this_2, g_this_3, g_this_4, g_this_5, g_this_6, g_this_7, g_this_8, g_this_9, g_this_10, g_this_11, g_this_12, g_this_13, g_this_14, g_this_15, g_this_16, g_this_17, g_this_18, g_this_19, g_this_20, g_this_21, g_this_22, .ref h_paperAmount, g_this_24, g_this_25, g_this_26, .int f_papers, g_this_28, g_this_29, g_this_30])), (h_paperAmount, .inl (cy, 100, .inl (u.2)))]) (va_A [(h_this, .inr (6, [.int f_thrown, g_this_1, g_this_2, g_this_3, g_this_4, g_this_5, g_this_6, g_this_7, g_this_8, g_this_9, g_this_10, g_this_11, g_this_12, g_this_13, g_this_14, g_this_15, g_this_16, g_this_17, g_this_18, g_this_19, g_this_20, g_this_21, g_this_22, .ref h_paperAmount, g_this_24, g_this_25, g_this_26, .int f_papers, g_this_28, g_this_29, g_this_30])), (h_paperAmount, .inl (cy, 100, .inl a_paperAmount))] sz)) 0 0 (va_A [(h_this, .inr (6, [.int f_thrown, g_this_1, g_this_2, g_this_3, g_this_4, g_this_5, g_this_6, g_this_7, g_this_8, g_this_9, g_this_10, g_this_11, g_this_12, g_this_13, g_this_14, g_this_15, g_this_16, g_this_17, g_this_18, g_this_19, g_this_20, g_this_21, g_this_22, .ref h_paperAmount, g_this_24, g_this_25, g_this_26, .int f_papers, g_this_28, g_this_29, g_this_30])), (h_paperAmount, .inl (cy, 100, .inl a_paperAmount))] sz) := by
  refine Met.ofW (cc := cX6_amount) (maxL := 4) (ret := (some .int)) (by decide) rfl ?_
  intro p e s m args below meth c s₁ B hml hv
  obtain ⟨hargs, hsz, hP, hK, hD0⟩ := hv
  have hx := B.exec
  have hb := B.bytes
  have hr := B.returns
  have hts := atoms_spec (ws := wsX6_amount) B.pre
  have hown : s.vm.findClass RX6 = some m.cls := findClass_of_methodNamed B.named
  have hlocks := B.notSynchronized
  subst hsz
  have hD := hD0.self (sz := s.heap.size)
  generalize hAe : va_A [(h_this, .inr (6, [.int f_thrown, g_this_1, g_this_2, g_this_3, g_this_4, g_this_5, g_this_6, g_this_7, g_this_8, g_this_9, g_this_10, g_this_11, g_this_12, g_this_13, g_this_14, g_this_15, g_this_16, g_this_17, g_this_18, g_this_19, g_this_20, g_this_21, g_this_22, .ref h_paperAmount, g_this_24, g_this_25, g_this_26, .int f_papers, g_this_28, g_this_29, g_this_30])), (h_paperAmount, .inl (cy, 100, .inl a_paperAmount))] s.heap.size = A at hD ⊢
  have hA : ∀ q : Nat, s.heap.size ≤ q → A q := fun q h => by rw [← hAe]; exact Or.inr h
  have hS : va_S A s.heap s.heap [] := va_S.rf
  have in_X6 : ∀ w ∈ u_ws RX6 TX6 31, w ∈ wsX6_amount := by decide +kernel
  have k_46 := hts (.fieldLink RX6 46 "ChequeDeskModel" "paperAmount" "[I") (by decide +kernel)
  have k_58 := hts (.fieldLink RX6 58 "ChequeDeskModel" "thrown" "I") (by decide +kernel)
  have k_154 := hts (.fieldLink RX6 154 "ChequeDeskModel" "papers" "I") (by decide +kernel)
  have hl := lv_entry ([.ref h_this, .int x1, .int x2]) (n := 4) (Nat.le_of_ble_eq_true rfl)
  rw [show entryFrame m args 4 = entryFrame m ([.ref h_this, .int x1, .int x2] : List Value).toArray 4 by rw [hargs], lg_entry_eq]
  generalize (lg_sl ([.ref h_this, .int x1, .int x2]) ++ List.replicate (4 - (lg_sl ([.ref h_this, .int x1, .int x2])).length) Slot.unset).toArray = ls at hl ⊢
  have hl : lv_has ls 4 [(0, .ref h_this), (1, .int x1), (2, .int x2)] := hl
  have hP : va_P (dC, dI) vwCl [(h_this, .inr (6, [.int f_thrown, g_this_1, g_this_2, g_this_3, g_this_4, g_this_5, g_this_6, g_this_7, g_this_8, g_this_9, g_this_10, g_this_11, g_this_12, g_this_13, g_this_14, g_this_15, g_this_16, g_this_17, g_this_18, g_this_19, g_this_20, g_this_21, g_this_22, .ref h_paperAmount, g_this_24, g_this_25, g_this_26, .int f_papers, g_this_28, g_this_29, g_this_30])), (h_paperAmount, .inl (cy, 100, .inl a_paperAmount))] s.heap := hP
  change W p l e rm_X6_amount s m args below meth c s.heap [] 0 0 _ _
  generalize hQQ : MQ below _ _ _ _ _ _ = QQ
  have RET : ∀ (r : Int32) (f_thrown : Int32) (a_paperAmount : Nat → Int32) (H : Heap) (locs : List Loc) (ls : Array Slot) (pc : Nat), decode cX6_amount pc = .ok (.ireturn, 1) → Q r f_thrown a_paperAmount → va_P (dC, dI) vwCl [(h_this, .inr (6, [.int f_thrown, g_this_1, g_this_2, g_this_3, g_this_4, g_this_5, g_this_6, g_this_7, g_this_8, g_this_9, g_this_10, g_this_11, g_this_12, g_this_13, g_this_14, g_this_15, g_this_16, g_this_17, g_this_18, g_this_19, g_this_20, g_this_21, g_this_22, .ref h_paperAmount, g_this_24, g_this_25, g_this_26, .int f_papers, g_this_28, g_this_29, g_this_30])), (h_paperAmount, .inl (cy, 100, .inl a_paperAmount))] H → va_D A [(h_this, .inr (6, [.int f_thrown, g_this_1, g_this_2, g_this_3, g_this_4, g_this_5, g_this_6, g_this_7, g_this_8, g_this_9, g_this_10, g_this_11, g_this_12, g_this_13, g_this_14, g_this_15, g_this_16, g_this_17, g_this_18, g_this_19, g_this_20, g_this_21, g_this_22, .ref h_paperAmount, g_this_24, g_this_25, g_this_26, .int f_papers, g_this_28, g_this_29, g_this_30])), (h_paperAmount, .inl (cy, 100, .inl a_paperAmount))] → va_S A s.heap H locs → W p l e rm_X6_amount s m args below meth c H locs 0 0 QQ (F0 m pc ls [.int r]) := by
    intro r f_thrown a_paperAmount H locs ls pc hdg hq hP hD hS
    rw [← hQQ]
    exact W.iret (v := r) hx hb hr (fun t ht hW => ⟨⟨r, (f_thrown, a_paperAmount), rfl, hq, by rw [ht]; exact hP, va_K.moved hW.alike hK, hD⟩, hS.F ht⟩) hS.2.2 hdg
  clear hQQ
  unfold p_X6_amount at h
  have J51 : ∀ (f_thrown : Int32) (a_paperAmount : Nat → Int32) (H : Heap) (locs : List Loc) (ls : Array Slot), p_X6_amount_J51 f_thrown a_paperAmount Q → va_P (dC, dI) vwCl [(h_this, .inr (6, [.int f_thrown, g_this_1, g_this_2, g_this_3, g_this_4, g_this_5, g_this_6, g_this_7, g_this_8, g_this_9, g_this_10, g_this_11, g_this_12, g_this_13, g_this_14, g_this_15, g_this_16, g_this_17, g_this_18, g_this_19, g_this_20, g_this_21, g_this_22, .ref h_paperAmount, g_this_24, g_this_25, g_this_26, .int f_papers, g_this_28, g_this_29, g_this_30])), (h_paperAmount, .inl (cy, 100, .inl a_paperAmount))] H → va_D A [(h_this, .inr (6, [.int f_thrown, g_this_1, g_this_2, g_this_3, g_this_4, g_this_5, g_this_6, g_this_7, g_this_8, g_this_9, g_this_10, g_this_11, g_this_12, g_this_13, g_this_14, g_this_15, g_this_16, g_this_17, g_this_18, g_this_19, g_this_20, g_this_21, g_this_22, .ref h_paperAmount, g_this_24, g_this_25, g_this_26, .int f_papers, g_this_28, g_this_29, g_this_30])), (h_paperAmount, .inl (cy, 100, .inl a_paperAmount))] → va_S A s.heap H locs → lv_has ls 4 [] → W p l e rm_X6_amount s m args below meth c H locs 0 0 QQ (F0 m 51 ls []) := by
    intro f_thrown a_paperAmount H locs ls h hP hD hS hl
    unfold p_X6_amount_J51 at h
    refine lv_iconst (v := 0) hx hb dX6_amount_51 (by decide) ?_
    exact RET 0 f_thrown a_paperAmount H locs ls 52 dX6_amount_52 h hP hD hS
  have J44 : ∀ (x1 : Int32) (x2 : Int32) (s0 : Int32) (f_thrown : Int32) (a_paperAmount : Nat → Int32) (H : Heap) (locs : List Loc) (ls : Array Slot), p_X6_amount_J44 f_thrown a_paperAmount Q x1 x2 s0 → va_P (dC, dI) vwCl [(h_this, .inr (6, [.int f_thrown, g_this_1, g_this_2, g_this_3, g_this_4, g_this_5, g_this_6, g_this_7, g_this_8, g_this_9, g_this_10, g_this_11, g_this_12, g_this_13, g_this_14, g_this_15, g_this_16, g_this_17, g_this_18, g_this_19, g_this_20, g_this_21, g_this_22, .ref h_paperAmount, g_this_24, g_this_25, g_this_26, .int f_papers, g_this_28, g_this_29, g_this_30])), (h_paperAmount, .inl (cy, 100, .inl a_paperAmount))] H → va_D A [(h_this, .inr (6, [.int f_thrown, g_this_1, g_this_2, g_this_3, g_this_4, g_this_5, g_this_6, g_this_7, g_this_8, g_this_9, g_this_10, g_this_11, g_this_12, g_this_13, g_this_14, g_this_15, g_this_16, g_this_17, g_this_18, g_this_19, g_this_20, g_this_21, g_this_22, .ref h_paperAmount, g_this_24, g_this_25, g_this_26, .int f_papers, g_this_28, g_this_29, g_this_30])), (h_paperAmount, .inl (cy, 100, .inl a_paperAmount))] → va_S A s.heap H locs → lv_has ls 4 [(0, .ref h_this), (1, .int x1), (2, .int x2)] → W p l e rm_X6_amount s m args below meth c H locs 0 0 QQ (F0 m 44 ls [.int s0, .ref h_this]) := by
    intro x1 x2 s0 f_thrown a_paperAmount H locs ls h hP hD hS hl
    unfold p_X6_amount_J44 at h
    refine lv_iconst (v := 2) hx hb dX6_amount_44 (by decide) ?_
    have hPc := hP.sub (ws' := [(h_this, .inr (6, [.int f_thrown, g_this_1, g_this_2, g_this_3, g_this_4, g_this_5, g_this_6, g_this_7, g_this_8, g_this_9, g_this_10, g_this_11, g_this_12, g_this_13, g_this_14, g_this_15, g_this_16, g_this_17, g_this_18, g_this_19, g_this_20, g_this_21, g_this_22, .ref h_paperAmount, g_this_24, g_this_25, g_this_26, .int f_papers, g_this_28, g_this_29, g_this_30]))]) [0] rfl
    have hDc := hD.sub (ws' := [(h_this, .inr (6, [.int f_thrown, g_this_1, g_this_2, g_this_3, g_this_4, g_this_5, g_this_6, g_this_7, g_this_8, g_this_9, g_this_10, g_this_11, g_this_12, g_this_13, g_this_14, g_this_15, g_this_16, g_this_17, g_this_18, g_this_19, g_this_20, g_this_21, g_this_22, .ref h_paperAmount, g_this_24, g_this_25, g_this_26, .int f_papers, g_this_28, g_this_29, g_this_30]))]) [0] (by decide) rfl
    have hFc := va_free (wc := [(h_this, .inr (6, [.int f_thrown, g_this_1, g_this_2, g_this_3, g_this_4, g_this_5, g_this_6, g_this_7, g_this_8, g_this_9, g_this_10, g_this_11, g_this_12, g_this_13, g_this_14, g_this_15, g_this_16, g_this_17, g_this_18, g_this_19, g_this_20, g_this_21, g_this_22, .ref h_paperAmount, g_this_24, g_this_25, g_this_26, .int f_papers, g_this_28, g_this_29, g_this_30]))]) hD hS hA [0] rfl
    refine va_calli (va_runV (As := [.int s0, .int 2]) (rest := []) ⟨hx, hb, hml, hown, hts⟩ (c_X6_bad l dC dI cy h_this H.size (g_this_1) (g_this_2) (g_this_3) (g_this_4) (g_this_5) (g_this_6) (g_this_7) (g_this_8) (g_this_9) (g_this_10) (g_this_11) (g_this_12) (g_this_13) (g_this_14) (g_this_15) (g_this_16) (g_this_17) (g_this_18) (g_this_19) (g_this_20) (g_this_21) (g_this_22) (.ref h_paperAmount) (g_this_24) (g_this_25) (g_this_26) (.int f_papers) (g_this_28) (g_this_29) (g_this_30) f_thrown s0 2 _ h) (cwV 2 hts gX6_amount_X6_bad rfl rfl rfl q_X6_bad ⟨Nat.le_of_ble_eq_true rfl, Nat.le_of_ble_eq_true rfl⟩) ⟨fun a U g mk q => by obtain ⟨q0, q1, qP, qK, qD⟩ := q; exact ⟨q0, q1, qP, va_K.moved (u := U) (U := U.calling g mk a) (Vm.Alike.refl U.vm) qK, qD⟩, va_recv hK hP (ci := 6) (q0 := 0) rfl rfl, fun U hU hW => ⟨rfl, by rw [hU], by rw [hU]; exact hPc, va_K.moved hW.alike hK, hDc.weaken (fun _ _ _ _ => trivial)⟩⟩ rfl rfl hl.1 rfl (lv_room (Nat.le_of_ble_eq_true rfl)) dX6_amount_45 ⟨Nat.le_of_ble_eq_true rfl, Nat.le_of_ble_eq_true rfl⟩) hS (fun q _ h => hFc q h) hFc (fun r45 u t H1 locs ht hvm hw hB hz1 hk1 hS => ?_)
    obtain ⟨f_thrown_45, rfl⟩ : ∃ z, z = u := ⟨_, rfl⟩
    obtain ⟨hP1, hK1, hD1⟩ := hB
    rw [ht] at hP1
    obtain ⟨hP, hD⟩ := va_join (wr := [(h_paperAmount, .inl (cy, 100, .inl a_paperAmount))]) (w1 := [(h_this, .inr (6, [.int f_thrown_45, g_this_1, g_this_2, g_this_3, g_this_4, g_this_5, g_this_6, g_this_7, g_this_8, g_this_9, g_this_10, g_this_11, g_this_12, g_this_13, g_this_14, g_this_15, g_this_16, g_this_17, g_this_18, g_this_19, g_this_20, g_this_21, g_this_22, .ref h_paperAmount, g_this_24, g_this_25, g_this_26, .int f_papers, g_this_28, g_this_29, g_this_30]))]) hP hD [0] [1] rfl rfl (by decide) (by decide) hk1 hFc hP1 hD1
    replace hP := hP.sub (ws' := [(h_this, .inr (6, [.int f_thrown_45, g_this_1, g_this_2, g_this_3, g_this_4, g_this_5, g_this_6, g_this_7, g_this_8, g_this_9, g_this_10, g_this_11, g_this_12, g_this_13, g_this_14, g_this_15, g_this_16, g_this_17, g_this_18, g_this_19, g_this_20, g_this_21, g_this_22, .ref h_paperAmount, g_this_24, g_this_25, g_this_26, .int f_papers, g_this_28, g_this_29, g_this_30])), (h_paperAmount, .inl (cy, 100, .inl a_paperAmount))]) [1, 0] rfl
    replace hD := hD.sub (ws' := [(h_this, .inr (6, [.int f_thrown_45, g_this_1, g_this_2, g_this_3, g_this_4, g_this_5, g_this_6, g_this_7, g_this_8, g_this_9, g_this_10, g_this_11, g_this_12, g_this_13, g_this_14, g_this_15, g_this_16, g_this_17, g_this_18, g_this_19, g_this_20, g_this_21, g_this_22, .ref h_paperAmount, g_this_24, g_this_25, g_this_26, .int f_papers, g_this_28, g_this_29, g_this_30])), (h_paperAmount, .inl (cy, 100, .inl a_paperAmount))]) [1, 0] (by decide) rfl
    clear hPc hDc hFc hP1 hK1 hD1 hz1 hk1 hvm
    subst ht
    generalize t.heap = H at hP hS ⊢
    replace h := hw
    clear hw
    refine lv_if_eq (tgt := 53) hx hb dX6_amount_48 (by decide) (fun c48 => ?_) (fun c48 => ?_)
    · replace h := And.left h c48
      refine lv_aload_n hx hb dX6_amount_53 rfl (lv_at hl 0 rfl) ?_
      refine va_get (D := (dC, dI)) (ci := 6) (v := .ref h_paperAmount) (C := RX6) (T := TX6) (N := 31) hx hb hts in_X6 hown hK hP 0 rfl rfl 23 (by decide) k_46 (fun _ h9 => h9) rfl dX6_amount_54 ?_
      refine lv_iload_n hx hb dX6_amount_57 rfl (lv_at hl 1 rfl) ?_
      obtain ⟨b58, h⟩ := h
      refine va_iald hx hb hK hP 1 0 rfl rfl b58 dX6_amount_58 ?_
      refine lv_istore_n (lv' := [(3, .int (a_paperAmount (Int32.toNatClampNeg x1))), (0, .ref h_this), (1, .int x1), (2, .int x2)]) hx hb dX6_amount_59 rfl hl (by decide) rfl (fun ls hl => ?_)
      refine lv_aload_n hx hb dX6_amount_60 rfl (lv_at hl 1 rfl) ?_
      refine va_get (D := (dC, dI)) (ci := 6) (v := .ref h_paperAmount) (C := RX6) (T := TX6) (N := 31) hx hb hts in_X6 hown hK hP 0 rfl rfl 23 (by decide) k_46 (fun _ h9 => h9) rfl dX6_amount_61 ?_
      refine lv_iload_n hx hb dX6_amount_64 rfl (lv_at hl 2 rfl) ?_
      refine lv_iload_n hx hb dX6_amount_65 rfl (lv_at hl 3 rfl) ?_
      obtain ⟨b66, h⟩ := h
      refine va_iast hx hb hK hP hD hS 1 0 rfl rfl b66 dX6_amount_66 (fun H locs hP hD hS => ?_)
      have hP : va_P (dC, dI) vwCl [(h_this, .inr (6, [.int f_thrown_45, g_this_1, g_this_2, g_this_3, g_this_4, g_this_5, g_this_6, g_this_7, g_this_8, g_this_9, g_this_10, g_this_11, g_this_12, g_this_13, g_this_14, g_this_15, g_this_16, g_this_17, g_this_18, g_this_19, g_this_20, g_this_21, g_this_22, .ref h_paperAmount, g_this_24, g_this_25, g_this_26, .int f_papers, g_this_28, g_this_29, g_this_30])), (h_paperAmount, .inl (cy, 100, .inl (upd a_paperAmount (Int32.toNatClampNeg x1) x2)))] H := hP
      have hD : va_D A [(h_this, .inr (6, [.int f_thrown_45, g_this_1, g_this_2, g_this_3, g_this_4, g_this_5, g_this_6, g_this_7, g_this_8, g_this_9, g_this_10, g_this_11, g_this_12, g_this_13, g_this_14, g_this_15, g_this_16, g_this_17, g_this_18, g_this_19, g_this_20, g_this_21, g_this_22, .ref h_paperAmount, g_this_24, g_this_25, g_this_26, .int f_papers, g_this_28, g_this_29, g_this_30])), (h_paperAmount, .inl (cy, 100, .inl (upd a_paperAmount (Int32.toNatClampNeg x1) x2)))] := hD
      refine lv_iload_n hx hb dX6_amount_67 rfl (lv_at hl 0 rfl) ?_
      exact RET (a_paperAmount (Int32.toNatClampNeg x1)) f_thrown_45 (upd a_paperAmount (Int32.toNatClampNeg x1) x2) H locs ls 68 dX6_amount_68 h hP hD hS
    · replace h := And.right h c48
      exact J51 f_thrown_45 a_paperAmount H locs ls h hP hD hS (lv_sub hl [] rfl)
  have J23 : ∀ (x1 : Int32) (x2 : Int32) (s0 : Int32) (f_thrown : Int32) (a_paperAmount : Nat → Int32) (H : Heap) (locs : List Loc) (ls : Array Slot), p_X6_amount_J23 f_thrown a_paperAmount Q x1 x2 s0 → va_P (dC, dI) vwCl [(h_this, .inr (6, [.int f_thrown, g_this_1, g_this_2, g_this_3, g_this_4, g_this_5, g_this_6, g_this_7, g_this_8, g_this_9, g_this_10, g_this_11, g_this_12, g_this_13, g_this_14, g_this_15, g_this_16, g_this_17, g_this_18, g_this_19, g_this_20, g_this_21, g_this_22, .ref h_paperAmount, g_this_24, g_this_25, g_this_26, .int f_papers, g_this_28, g_this_29, g_this_30])), (h_paperAmount, .inl (cy, 100, .inl a_paperAmount))] H → va_D A [(h_this, .inr (6, [.int f_thrown, g_this_1, g_this_2, g_this_3, g_this_4, g_this_5, g_this_6, g_this_7, g_this_8, g_this_9, g_this_10, g_this_11, g_this_12, g_this_13, g_this_14, g_this_15, g_this_16, g_this_17, g_this_18, g_this_19, g_this_20, g_this_21, g_this_22, .ref h_paperAmount, g_this_24, g_this_25, g_this_26, .int f_papers, g_this_28, g_this_29, g_this_30])), (h_paperAmount, .inl (cy, 100, .inl a_paperAmount))] → va_S A s.heap H locs → lv_has ls 4 [(0, .ref h_this), (1, .int x1), (2, .int x2)] → W p l e rm_X6_amount s m args below meth c H locs 0 0 QQ (F0 m 23 ls [.int s0, .ref h_this]) := by
    intro x1 x2 s0 f_thrown a_paperAmount H locs ls h hP hD hS hl
    unfold p_X6_amount_J23 at h
    refine lv_iconst (v := 1) hx hb dX6_amount_23 (by decide) ?_
    have hPc := hP.sub (ws' := [(h_this, .inr (6, [.int f_thrown, g_this_1, g_this_2, g_this_3, g_this_4, g_this_5, g_this_6, g_this_7, g_this_8, g_this_9, g_this_10, g_this_11, g_this_12, g_this_13, g_this_14, g_this_15, g_this_16, g_this_17, g_this_18, g_this_19, g_this_20, g_this_21, g_this_22, .ref h_paperAmount, g_this_24, g_this_25, g_this_26, .int f_papers, g_this_28, g_this_29, g_this_30]))]) [0] rfl
    have hDc := hD.sub (ws' := [(h_this, .inr (6, [.int f_thrown, g_this_1, g_this_2, g_this_3, g_this_4, g_this_5, g_this_6, g_this_7, g_this_8, g_this_9, g_this_10, g_this_11, g_this_12, g_this_13, g_this_14, g_this_15, g_this_16, g_this_17, g_this_18, g_this_19, g_this_20, g_this_21, g_this_22, .ref h_paperAmount, g_this_24, g_this_25, g_this_26, .int f_papers, g_this_28, g_this_29, g_this_30]))]) [0] (by decide) rfl
    have hFc := va_free (wc := [(h_this, .inr (6, [.int f_thrown, g_this_1, g_this_2, g_this_3, g_this_4, g_this_5, g_this_6, g_this_7, g_this_8, g_this_9, g_this_10, g_this_11, g_this_12, g_this_13, g_this_14, g_this_15, g_this_16, g_this_17, g_this_18, g_this_19, g_this_20, g_this_21, g_this_22, .ref h_paperAmount, g_this_24, g_this_25, g_this_26, .int f_papers, g_this_28, g_this_29, g_this_30]))]) hD hS hA [0] rfl
    refine va_calli (va_runV (As := [.int s0, .int 1]) (rest := []) ⟨hx, hb, hml, hown, hts⟩ (c_X6_bad l dC dI cy h_this H.size (g_this_1) (g_this_2) (g_this_3) (g_this_4) (g_this_5) (g_this_6) (g_this_7) (g_this_8) (g_this_9) (g_this_10) (g_this_11) (g_this_12) (g_this_13) (g_this_14) (g_this_15) (g_this_16) (g_this_17) (g_this_18) (g_this_19) (g_this_20) (g_this_21) (g_this_22) (.ref h_paperAmount) (g_this_24) (g_this_25) (g_this_26) (.int f_papers) (g_this_28) (g_this_29) (g_this_30) f_thrown s0 1 _ h) (cwV 2 hts gX6_amount_X6_bad rfl rfl rfl q_X6_bad ⟨Nat.le_of_ble_eq_true rfl, Nat.le_of_ble_eq_true rfl⟩) ⟨fun a U g mk q => by obtain ⟨q0, q1, qP, qK, qD⟩ := q; exact ⟨q0, q1, qP, va_K.moved (u := U) (U := U.calling g mk a) (Vm.Alike.refl U.vm) qK, qD⟩, va_recv hK hP (ci := 6) (q0 := 0) rfl rfl, fun U hU hW => ⟨rfl, by rw [hU], by rw [hU]; exact hPc, va_K.moved hW.alike hK, hDc.weaken (fun _ _ _ _ => trivial)⟩⟩ rfl rfl hl.1 rfl (lv_room (Nat.le_of_ble_eq_true rfl)) dX6_amount_24 ⟨Nat.le_of_ble_eq_true rfl, Nat.le_of_ble_eq_true rfl⟩) hS (fun q _ h => hFc q h) hFc (fun r24 u t H1 locs ht hvm hw hB hz1 hk1 hS => ?_)
    obtain ⟨f_thrown_24, rfl⟩ : ∃ z, z = u := ⟨_, rfl⟩
    obtain ⟨hP1, hK1, hD1⟩ := hB
    rw [ht] at hP1
    obtain ⟨hP, hD⟩ := va_join (wr := [(h_paperAmount, .inl (cy, 100, .inl a_paperAmount))]) (w1 := [(h_this, .inr (6, [.int f_thrown_24, g_this_1, g_this_2, g_this_3, g_this_4, g_this_5, g_this_6, g_this_7, g_this_8, g_this_9, g_this_10, g_this_11, g_this_12, g_this_13, g_this_14, g_this_15, g_this_16, g_this_17, g_this_18, g_this_19, g_this_20, g_this_21, g_this_22, .ref h_paperAmount, g_this_24, g_this_25, g_this_26, .int f_papers, g_this_28, g_this_29, g_this_30]))]) hP hD [0] [1] rfl rfl (by decide) (by decide) hk1 hFc hP1 hD1
    replace hP := hP.sub (ws' := [(h_this, .inr (6, [.int f_thrown_24, g_this_1, g_this_2, g_this_3, g_this_4, g_this_5, g_this_6, g_this_7, g_this_8, g_this_9, g_this_10, g_this_11, g_this_12, g_this_13, g_this_14, g_this_15, g_this_16, g_this_17, g_this_18, g_this_19, g_this_20, g_this_21, g_this_22, .ref h_paperAmount, g_this_24, g_this_25, g_this_26, .int f_papers, g_this_28, g_this_29, g_this_30])), (h_paperAmount, .inl (cy, 100, .inl a_paperAmount))]) [1, 0] rfl
    replace hD := hD.sub (ws' := [(h_this, .inr (6, [.int f_thrown_24, g_this_1, g_this_2, g_this_3, g_this_4, g_this_5, g_this_6, g_this_7, g_this_8, g_this_9, g_this_10, g_this_11, g_this_12, g_this_13, g_this_14, g_this_15, g_this_16, g_this_17, g_this_18, g_this_19, g_this_20, g_this_21, g_this_22, .ref h_paperAmount, g_this_24, g_this_25, g_this_26, .int f_papers, g_this_28, g_this_29, g_this_30])), (h_paperAmount, .inl (cy, 100, .inl a_paperAmount))]) [1, 0] (by decide) rfl
    clear hPc hDc hFc hP1 hK1 hD1 hz1 hk1 hvm
    subst ht
    generalize t.heap = H at hP hS ⊢
    replace h := hw
    clear hw
    refine lv_if_ne (tgt := 51) hx hb dX6_amount_27 (by decide) (fun c27 => ?_) (fun c27 => ?_)
    · replace h := And.left h c27
      exact J51 f_thrown_24 a_paperAmount H locs ls h hP hD hS (lv_sub hl [] rfl)
    · replace h := And.right h c27
      refine lv_aload_n hx hb dX6_amount_30 rfl (lv_at hl 0 rfl) ?_
      refine lv_iload_n hx hb dX6_amount_31 rfl (lv_at hl 2 rfl) ?_
      refine lv_i2l hx hb dX6_amount_32 rfl ?_
      have hPc := hP.sub (ws' := []) [] rfl
      have hDc := hD.sub (ws' := []) [] (by decide) rfl
      have hFc := va_free (wc := []) hD hS hA [] rfl
      refine va_calli (va_runS (As := [.long (Int32.toInt64 x2)]) (rest := [.ref h_this]) ⟨hx, hb, hml, hown, hts⟩ (c_X6_isAmount l dC dI cy  H.size   (Int32.toInt64 x2) _ h) (va_cwS 1 hts gX6_amount_X6_isAmount rfl rfl rfl q_X6_isAmount ⟨Nat.le_of_ble_eq_true rfl, Nat.le_of_ble_eq_true rfl⟩) ⟨fun a U g mk q => by obtain ⟨q0, q1, qP, qK, qD⟩ := q; exact ⟨q0, q1, qP, va_K.moved (u := U) (U := U.calling g mk a) (Vm.Alike.refl U.vm) qK, qD⟩, fun U hU hW => ⟨rfl, by rw [hU], by rw [hU]; exact hPc, va_K.moved hW.alike hK, hDc.weaken (fun _ _ _ _ => trivial)⟩⟩ rfl rfl hl.1 rfl (lv_room (Nat.le_of_ble_eq_true rfl)) dX6_amount_33 ⟨Nat.le_of_ble_eq_true rfl, Nat.le_of_ble_eq_true rfl⟩) hS (fun q _ h => hFc q h) hFc (fun r33 u t H1 locs ht hvm hw hB hz1 hk1 hS => ?_)
      obtain ⟨hP1, hK1, hD1⟩ := hB
      rw [ht] at hP1
      obtain ⟨hP, hD⟩ := va_join (wr := [(h_this, .inr (6, [.int f_thrown_24, g_this_1, g_this_2, g_this_3, g_this_4, g_this_5, g_this_6, g_this_7, g_this_8, g_this_9, g_this_10, g_this_11, g_this_12, g_this_13, g_this_14, g_this_15, g_this_16, g_this_17, g_this_18, g_this_19, g_this_20, g_this_21, g_this_22, .ref h_paperAmount, g_this_24, g_this_25, g_this_26, .int f_papers, g_this_28, g_this_29, g_this_30])), (h_paperAmount, .inl (cy, 100, .inl a_paperAmount))]) (w1 := []) hP hD [] [0, 1] rfl rfl (by decide) (by decide) hk1 hFc hP1 hD1
      replace hP := hP.sub (ws' := [(h_this, .inr (6, [.int f_thrown_24, g_this_1, g_this_2, g_this_3, g_this_4, g_this_5, g_this_6, g_this_7, g_this_8, g_this_9, g_this_10, g_this_11, g_this_12, g_this_13, g_this_14, g_this_15, g_this_16, g_this_17, g_this_18, g_this_19, g_this_20, g_this_21, g_this_22, .ref h_paperAmount, g_this_24, g_this_25, g_this_26, .int f_papers, g_this_28, g_this_29, g_this_30])), (h_paperAmount, .inl (cy, 100, .inl a_paperAmount))]) [0, 1] rfl
      replace hD := hD.sub (ws' := [(h_this, .inr (6, [.int f_thrown_24, g_this_1, g_this_2, g_this_3, g_this_4, g_this_5, g_this_6, g_this_7, g_this_8, g_this_9, g_this_10, g_this_11, g_this_12, g_this_13, g_this_14, g_this_15, g_this_16, g_this_17, g_this_18, g_this_19, g_this_20, g_this_21, g_this_22, .ref h_paperAmount, g_this_24, g_this_25, g_this_26, .int f_papers, g_this_28, g_this_29, g_this_30])), (h_paperAmount, .inl (cy, 100, .inl a_paperAmount))]) [0, 1] (by decide) rfl
      clear hPc hDc hFc hP1 hK1 hD1 hz1 hk1 hvm
      subst ht
      generalize t.heap = H at hP hS ⊢
      replace h := hw
      clear hw
      refine lv_if_ne (tgt := 43) hx hb dX6_amount_36 (by decide) (fun c36 => ?_) (fun c36 => ?_)
      · replace h := And.left h c36
        refine lv_iconst (v := 0) hx hb dX6_amount_43 (by decide) ?_
        exact J44 x1 x2 0 f_thrown_24 a_paperAmount H locs ls h hP hD hS (lv_sub hl [0, 1, 2] rfl)
      · replace h := And.right h c36
        refine lv_iconst (v := 1) hx hb dX6_amount_39 (by decide) ?_
        refine lv_goto (tgt := 44) hx hb dX6_amount_40 (by decide) ?_
        exact J44 x1 x2 1 f_thrown_24 a_paperAmount H locs ls h hP hD hS (lv_sub hl [0, 1, 2] rfl)
  have J18 : ∀ (x1 : Int32) (x2 : Int32) (f_thrown : Int32) (a_paperAmount : Nat → Int32) (H : Heap) (locs : List Loc) (ls : Array Slot), p_X6_amount_J18 f_thrown a_paperAmount Q x1 x2 → va_P (dC, dI) vwCl [(h_this, .inr (6, [.int f_thrown, g_this_1, g_this_2, g_this_3, g_this_4, g_this_5, g_this_6, g_this_7, g_this_8, g_this_9, g_this_10, g_this_11, g_this_12, g_this_13, g_this_14, g_this_15, g_this_16, g_this_17, g_this_18, g_this_19, g_this_20, g_this_21, g_this_22, .ref h_paperAmount, g_this_24, g_this_25, g_this_26, .int f_papers, g_this_28, g_this_29, g_this_30])), (h_paperAmount, .inl (cy, 100, .inl a_paperAmount))] H → va_D A [(h_this, .inr (6, [.int f_thrown, g_this_1, g_this_2, g_this_3, g_this_4, g_this_5, g_this_6, g_this_7, g_this_8, g_this_9, g_this_10, g_this_11, g_this_12, g_this_13, g_this_14, g_this_15, g_this_16, g_this_17, g_this_18, g_this_19, g_this_20, g_this_21, g_this_22, .ref h_paperAmount, g_this_24, g_this_25, g_this_26, .int f_papers, g_this_28, g_this_29, g_this_30])), (h_paperAmount, .inl (cy, 100, .inl a_paperAmount))] → va_S A s.heap H locs → lv_has ls 4 [(0, .ref h_this), (1, .int x1), (2, .int x2)] → W p l e rm_X6_amount s m args below meth c H locs 0 0 QQ (F0 m 18 ls [.ref h_this]) := by
    intro x1 x2 f_thrown a_paperAmount H locs ls h hP hD hS hl
    unfold p_X6_amount_J18 at h
    refine lv_iconst (v := 1) hx hb dX6_amount_18 (by decide) ?_
    refine lv_goto (tgt := 23) hx hb dX6_amount_19 (by decide) ?_
    exact J23 x1 x2 1 f_thrown a_paperAmount H locs ls h hP hD hS (lv_sub hl [0, 1, 2] rfl)
  generalize hlo : ([] : List Loc) = locs at hS ⊢
  obtain ⟨H, hH⟩ : ∃ z, z = s.heap := ⟨_, rfl⟩
  rw [show W p l e rm_X6_amount s m args below meth c s.heap = W p l e rm_X6_amount s m args below meth c H by rw [hH]]
  replace hP : va_P (dC, dI) vwCl [(h_this, .inr (6, [.int f_thrown, g_this_1, g_this_2, g_this_3, g_this_4, g_this_5, g_this_6, g_this_7, g_this_8, g_this_9, g_this_10, g_this_11, g_this_12, g_this_13, g_this_14, g_this_15, g_this_16, g_this_17, g_this_18, g_this_19, g_this_20, g_this_21, g_this_22, .ref h_paperAmount, g_this_24, g_this_25, g_this_26, .int f_papers, g_this_28, g_this_29, g_this_30])), (h_paperAmount, .inl (cy, 100, .inl a_paperAmount))] H := by rw [hH]; exact hP
  replace hS : va_S A s.heap H locs := by rw [hH]; exact hS
  clear hH hlo
  refine lv_aload_n hx hb dX6_amount_0 rfl (lv_at hl 0 rfl) ?_
  refine lv_iconst (v := 0) hx hb dX6_amount_1 (by decide) ?_
  refine va_put (D := (dC, dI)) (ci := 6) (v := .int 0) (ty := .int) (C := RX6) (T := TX6) (N := 31) hx hb hts in_X6 tyX6 tyX6_ok nmX6 hown hK hP hD hS 0 rfl rfl 0 (by decide) k_58 (fun _ h9 => h9) rfl (by decide +kernel) rfl rfl (Nat.le_of_ble_eq_true rfl) dX6_amount_2 (fun H locs hP hD hS => ?_)
  have hP : va_P (dC, dI) vwCl [(h_this, .inr (6, [.int 0, g_this_1, g_this_2, g_this_3, g_this_4, g_this_5, g_this_6, g_this_7, g_this_8, g_this_9, g_this_10, g_this_11, g_this_12, g_this_13, g_this_14, g_this_15, g_this_16, g_this_17, g_this_18, g_this_19, g_this_20, g_this_21, g_this_22, .ref h_paperAmount, g_this_24, g_this_25, g_this_26, .int f_papers, g_this_28, g_this_29, g_this_30])), (h_paperAmount, .inl (cy, 100, .inl a_paperAmount))] H := hP
  have hD : va_D A [(h_this, .inr (6, [.int 0, g_this_1, g_this_2, g_this_3, g_this_4, g_this_5, g_this_6, g_this_7, g_this_8, g_this_9, g_this_10, g_this_11, g_this_12, g_this_13, g_this_14, g_this_15, g_this_16, g_this_17, g_this_18, g_this_19, g_this_20, g_this_21, g_this_22, .ref h_paperAmount, g_this_24, g_this_25, g_this_26, .int f_papers, g_this_28, g_this_29, g_this_30])), (h_paperAmount, .inl (cy, 100, .inl a_paperAmount))] := hD
  refine lv_aload_n hx hb dX6_amount_5 rfl (lv_at hl 0 rfl) ?_
  refine lv_iload_n hx hb dX6_amount_6 rfl (lv_at hl 1 rfl) ?_
  refine lv_if_lt (tgt := 18) hx hb dX6_amount_7 (by decide) (fun c7 => ?_) (fun c7 => ?_)
  · replace h := And.left h c7
    exact J18 x1 x2 0 a_paperAmount H locs ls h hP hD hS (lv_sub hl [0, 1, 2] rfl)
  · replace h := And.right h c7
    refine lv_iload_n hx hb dX6_amount_10 rfl (lv_at hl 1 rfl) ?_
    refine lv_aload_n hx hb dX6_amount_11 rfl (lv_at hl 0 rfl) ?_
    refine va_get (D := (dC, dI)) (ci := 6) (v := .int f_papers) (C := RX6) (T := TX6) (N := 31) hx hb hts in_X6 hown hK hP 0 rfl rfl 27 (by decide) k_154 (fun _ h9 => h9) rfl dX6_amount_12 ?_
    refine lv_icmp_lt (tgt := 22) hx hb dX6_amount_15 (by decide) (fun c15 => ?_) (fun c15 => ?_)
    · replace h := And.left h c15
      refine lv_iconst (v := 0) hx hb dX6_amount_22 (by decide) ?_
      exact J23 x1 x2 0 0 a_paperAmount H locs ls h hP hD hS (lv_sub hl [0, 1, 2] rfl)
    · replace h := And.right h c15
      exact J18 x1 x2 0 a_paperAmount H locs ls h hP hD hS (lv_sub hl [0, 1, 2] rfl)
abbrev rm_X6_outOf : Room := { frames := 0, cells := 0, slots := 0, locals := 0 }
theorem q_X6_outOf : yX6_outOf.cls = RX6 ∧ yX6_outOf.cls ≠ "java/lang/invoke/MethodHandle" ∧ yX6_outOf.cls ≠ "java/lang/invoke/VarHandle" ∧ (parseMethodDescriptor yX6_outOf.desc).map (fun d => d.parameters.length) = some 1 := by decide +kernel
set_option maxHeartbeats 4000000 in
set_option maxRecDepth 100000 in
theorem c_X6_outOf (l : Launch) (dC : Nat → ClassId) (dI : Nat → Nat → Nat) (cy : ClassId) (h_this : Nat) (h_paperAmount : Nat) (h_paperBatch : Nat) (h_toldSum : Nat) (sz : Nat) (g_this_0 g_this_1 g_this_2 g_this_3 g_this_4 g_this_5 g_this_6 g_this_7 g_this_8 g_this_9 g_this_10 g_this_11 g_this_12 g_this_13 g_this_14 g_this_15 g_this_16 g_this_17 g_this_18 g_this_19 g_this_21 g_this_24 g_this_25 g_this_26 g_this_28 g_this_29 g_this_30 : Value) (f_papers : Int32) (a_paperAmount : Nat → Int32) (a_paperBatch : Nat → Int32) (a_toldSum : Nat → Int32) (x1 : Int32) (Q : Int64 → Prop) (h : p_X6_outOf f_papers a_paperAmount a_paperBatch a_toldSum x1 Q) : Met l yX6_outOf wsX6_outOf rm_X6_outOf (va_Pc [.ref h_this, .int x1] (fun U => U.heap.size = sz ∧ va_P (dC, dI) vwCl [(h_this, .inr (6, [g_this_0, g_this_1, g_this_2, g_this_3, g_this_4, g_this_5, g_this_6, g_this_7, g_this_8, g_this_9, g_this_10, g_this_11, g_this_12, g_this_13, g_this_14, g_this_15, g_this_16, g_this_17, g_this_18, g_this_19, .ref h_toldSum, g_this_21, .ref h_paperBatch, .ref h_paperAmount, g_this_24, g_this_25, g_this_26, .int f_papers, g_this_28, g_this_29, g_this_30])), (h_paperAmount, .inl (cy, 100, .inl a_paperAmount)), (h_paperBatch, .inl (cy, 100, .inl a_paperBatch)), (h_toldSum, .inl (cy, 20, .inl a_toldSum))] U.heap ∧ va_K (dC, dI) vwCl [(cy, .int)] U ∧ va_D (fun _ => True) [(h_this, .inr (6, [g_this_0, g_this_1, g_this_2, g_this_3, g_this_4, g_this_5, g_this_6, g_this_7, g_this_8, g_this_9, g_this_10, g_this_11, g_this_12, g_this_13, g_this_14, g_this_15, g_this_16, g_this_17, g_this_18, g_this_19, .ref h_toldSum, g_this_21, .ref h_paperBatch, .ref h_paperAmount, g_this_24, g_this_25, g_this_26, .int f_papers, g_this_28, g_this_29, g_this_30])), (h_paperAmount, .inl (cy, 100, .inl a_paperAmount)), (h_paperBatch, .inl (cy, 100, .inl a_paperBatch)), (h_toldSum, .inl (cy, 20, .inl a_toldSum))])) (va_Ql (fun (r : Int64) (u : Unit) => Q r) (fun (u : Unit) (t : State) => va_P (dC, dI) vwCl [(h_this, .inr (6, [g_this_0, g_this_1, g_this_2, g_this_3, g_this_4, g_this_5, g_this_6, g_this_7, g_this_8, g_this_9, g_this_10, g_this_11, g_this_12, g_this_13, g_this_14, g_this_15, g_this_16, g_this_17, g_this_18, g_this_19, .ref h_toldSum, g_this_21, .ref h_paperBatch, .ref h_paperAmount, g_this_24, g_this_25, g_this_26, .int f_papers, g_this_28, g_this_29, g_this_30])), (h_paperAmount, .inl (cy, 100, .inl a_paperAmount)), (h_paperBatch, .inl (cy, 100, .inl a_paperBatch)), (h_toldSum, .inl (cy, 20, .inl a_toldSum))] t.heap ∧ va_K (dC, dI) vwCl [(cy, .int)] t ∧ va_D (va_A [(h_this, .inr (6, [g_this_0, g_this_1, g_this_2, g_this_3, g_this_4, g_this_5, g_this_6, g_this_7, g_this_8, g_this_9, g_this_10, g_this_11, g_this_12, g_this_13, g_this_14, g_this_15, g_this_16, g_this_17, g_this_18, g_this_19, .ref h_toldSum, g_this_21, .ref h_paperBatch, .ref h_paperAmount, g_this_24, g_this_25, g_this_26, .int f_papers, g_this_28, g_this_29, g_this_30])), (h_paperAmount, .inl (cy, 100, .inl a_paperAmount)), (h_paperBatch, .inl (cy, 100, .inl a_paperBatch)), (h_toldSum, .inl (cy, 20, .inl a_toldSum))] sz) [(h_this, .inr (6, [g_this_0, g_this_1, g_this_2, g_this_3, g_this_4, g_this_5, g_this_6, g_this_7, g_this_8, g_this_9, g_this_10, g_this_11, g_this_12, g_this_13, g_this_14, g_this_15, g_this_16, g_this_17, g_this_18, g_this_19, .ref h_toldSum, g_this_21, .ref h_paperBatch, .ref h_paperAmount, g_this_24, g_this_25, g_this_26, .int f_papers, g_this_28, g_this_29, g_this_30])), (h_paperAmount, .inl (cy, 100, .inl a_paperAmount)), (h_paperBatch, .inl (cy, 100, .inl a_paperBatch)), (h_toldSum, .inl (cy, 20, .inl a_toldSum))]) (va_A [(h_this, .inr (6, [g_this_0, g_this_1, g_this_2, g_this_3, g_this_4, g_this_5, g_this_6, g_this_7, g_this_8, g_this_9, g_this_10, g_this_11, g_this_12, g_this_13, g_this_14, g_this_15, g_this_16, g_this_17, g_this_18, g_this_19, .ref h_toldSum, g_this_21, .ref h_paperBatch, .ref h_paperAmount, g_this_24, g_this_25, g_this_26, .int f_papers, g_this_28, g_this_29, g_this_30])), (h_paperAmount, .inl (cy, 100, .inl a_paperAmount)), (h_paperBatch, .inl (cy, 100, .inl a_paperBatch)), (h_toldSum, .inl (cy, 20, .inl a_toldSum))] sz)) 0 0 (va_A [(h_this, .inr (6, [g_this_0, g_this_1, g_this_2, g_this_3, g_this_4, g_this_5, g_this_6, g_this_7, g_this_8, g_this_9, g_this_10, g_this_11, g_this_12, g_this_13, g_this_14, g_this_15, g_this_16, g_this_17, g_this_18, g_this_19, .ref h_toldSum, g_this_21, .ref h_paperBatch, .ref h_paperAmount, g_this_24, g_this_25, g_this_26, .int f_papers, g_this_28, g_this_29, g_this_30])), (h_paperAmount, .inl (cy, 100, .inl a_paperAmount)), (h_paperBatch, .inl (cy, 100, .inl a_paperBatch)), (h_toldSum, .inl (cy, 20, .inl a_toldSum))] sz) := by
  refine Met.ofW (cc := cX6_outOf) (maxL := 5) (ret := (some .long)) (by decide) rfl ?_
  intro p e s m args below meth c s₁ B hml hv
  obtain ⟨hargs, hsz, hP, hK, hD0⟩ := hv
  have hx := B.exec
  have hb := B.bytes
  have hr := B.returns
  have hts := atoms_spec (ws := wsX6_outOf) B.pre
  have hown : s.vm.findClass RX6 = some m.cls := findClass_of_methodNamed B.named
  have hlocks := B.notSynchronized
  subst hsz
  have hD := hD0.self (sz := s.heap.size)
  generalize hAe : va_A [(h_this, .inr (6, [g_this_0, g_this_1, g_this_2, g_this_3, g_this_4, g_this_5, g_this_6, g_this_7, g_this_8, g_this_9, g_this_10, g_this_11, g_this_12, g_this_13, g_this_14, g_this_15, g_this_16, g_this_17, g_this_18, g_this_19, .ref h_toldSum, g_this_21, .ref h_paperBatch, .ref h_paperAmount, g_this_24, g_this_25, g_this_26, .int f_papers, g_this_28, g_this_29, g_this_30])), (h_paperAmount, .inl (cy, 100, .inl a_paperAmount)), (h_paperBatch, .inl (cy, 100, .inl a_paperBatch)), (h_toldSum, .inl (cy, 20, .inl a_toldSum))] s.heap.size = A at hD ⊢
  have hA : ∀ q : Nat, s.heap.size ≤ q → A q := fun q h => by rw [← hAe]; exact Or.inr h
  have hS : va_S A s.heap s.heap [] := va_S.rf
  have in_X6 : ∀ w ∈ u_ws RX6 TX6 31, w ∈ wsX6_outOf := by decide +kernel
  have k_40 := hts (.fieldLink RX6 40 "ChequeDeskModel" "toldSum" "[I") (by decide +kernel)
  have k_43 := hts (.fieldLink RX6 43 "ChequeDeskModel" "paperBatch" "[I") (by decide +kernel)
  have k_46 := hts (.fieldLink RX6 46 "ChequeDeskModel" "paperAmount" "[I") (by decide +kernel)
  have k_154 := hts (.fieldLink RX6 154 "ChequeDeskModel" "papers" "I") (by decide +kernel)
  have hl := lv_entry ([.ref h_this, .int x1]) (n := 5) (Nat.le_of_ble_eq_true rfl)
  rw [show entryFrame m args 5 = entryFrame m ([.ref h_this, .int x1] : List Value).toArray 5 by rw [hargs], lg_entry_eq]
  generalize (lg_sl ([.ref h_this, .int x1]) ++ List.replicate (5 - (lg_sl ([.ref h_this, .int x1])).length) Slot.unset).toArray = ls at hl ⊢
  have hl : lv_has ls 5 [(0, .ref h_this), (1, .int x1)] := hl
  have hP : va_P (dC, dI) vwCl [(h_this, .inr (6, [g_this_0, g_this_1, g_this_2, g_this_3, g_this_4, g_this_5, g_this_6, g_this_7, g_this_8, g_this_9, g_this_10, g_this_11, g_this_12, g_this_13, g_this_14, g_this_15, g_this_16, g_this_17, g_this_18, g_this_19, .ref h_toldSum, g_this_21, .ref h_paperBatch, .ref h_paperAmount, g_this_24, g_this_25, g_this_26, .int f_papers, g_this_28, g_this_29, g_this_30])), (h_paperAmount, .inl (cy, 100, .inl a_paperAmount)), (h_paperBatch, .inl (cy, 100, .inl a_paperBatch)), (h_toldSum, .inl (cy, 20, .inl a_toldSum))] s.heap := hP
  change W p l e rm_X6_outOf s m args below meth c s.heap [] 0 0 _ _
  generalize hQQ : MQ below _ _ _ _ _ _ = QQ
  have RET : ∀ (r : Int64) (H : Heap) (locs : List Loc) (ls : Array Slot) (pc : Nat), decode cX6_outOf pc = .ok (.lreturn, 1) → Q r → va_P (dC, dI) vwCl [(h_this, .inr (6, [g_this_0, g_this_1, g_this_2, g_this_3, g_this_4, g_this_5, g_this_6, g_this_7, g_this_8, g_this_9, g_this_10, g_this_11, g_this_12, g_this_13, g_this_14, g_this_15, g_this_16, g_this_17, g_this_18, g_this_19, .ref h_toldSum, g_this_21, .ref h_paperBatch, .ref h_paperAmount, g_this_24, g_this_25, g_this_26, .int f_papers, g_this_28, g_this_29, g_this_30])), (h_paperAmount, .inl (cy, 100, .inl a_paperAmount)), (h_paperBatch, .inl (cy, 100, .inl a_paperBatch)), (h_toldSum, .inl (cy, 20, .inl a_toldSum))] H → va_D A [(h_this, .inr (6, [g_this_0, g_this_1, g_this_2, g_this_3, g_this_4, g_this_5, g_this_6, g_this_7, g_this_8, g_this_9, g_this_10, g_this_11, g_this_12, g_this_13, g_this_14, g_this_15, g_this_16, g_this_17, g_this_18, g_this_19, .ref h_toldSum, g_this_21, .ref h_paperBatch, .ref h_paperAmount, g_this_24, g_this_25, g_this_26, .int f_papers, g_this_28, g_this_29, g_this_30])), (h_paperAmount, .inl (cy, 100, .inl a_paperAmount)), (h_paperBatch, .inl (cy, 100, .inl a_paperBatch)), (h_toldSum, .inl (cy, 20, .inl a_toldSum))] → va_S A s.heap H locs → W p l e rm_X6_outOf s m args below meth c H locs 0 0 QQ (F0 m pc ls [.long r]) := by
    intro r  H locs ls pc hdg hq hP hD hS
    rw [← hQQ]
    exact W.lret (v := r) hx hb hr (fun t ht hW => ⟨⟨r, (), rfl, hq, by rw [ht]; exact hP, va_K.moved hW.alike hK, hD⟩, hS.F ht⟩) hS.2.2 hdg
  clear hQQ
  unfold p_X6_outOf at h
  have L12 : ∀ (x1 : Int32) (K12 : Int64 → Int32 → Prop) (n : Nat) (x2 : Int64) (x4 : Int32) (H : Heap) (locs : List Loc) (ls : Array Slot), wl2 (p_X6_outOf_B12 f_papers a_paperAmount a_paperBatch x1 K12) n x2 x4 → va_P (dC, dI) vwCl [(h_this, .inr (6, [g_this_0, g_this_1, g_this_2, g_this_3, g_this_4, g_this_5, g_this_6, g_this_7, g_this_8, g_this_9, g_this_10, g_this_11, g_this_12, g_this_13, g_this_14, g_this_15, g_this_16, g_this_17, g_this_18, g_this_19, .ref h_toldSum, g_this_21, .ref h_paperBatch, .ref h_paperAmount, g_this_24, g_this_25, g_this_26, .int f_papers, g_this_28, g_this_29, g_this_30])), (h_paperAmount, .inl (cy, 100, .inl a_paperAmount)), (h_paperBatch, .inl (cy, 100, .inl a_paperBatch)), (h_toldSum, .inl (cy, 20, .inl a_toldSum))] H → va_D A [(h_this, .inr (6, [g_this_0, g_this_1, g_this_2, g_this_3, g_this_4, g_this_5, g_this_6, g_this_7, g_this_8, g_this_9, g_this_10, g_this_11, g_this_12, g_this_13, g_this_14, g_this_15, g_this_16, g_this_17, g_this_18, g_this_19, .ref h_toldSum, g_this_21, .ref h_paperBatch, .ref h_paperAmount, g_this_24, g_this_25, g_this_26, .int f_papers, g_this_28, g_this_29, g_this_30])), (h_paperAmount, .inl (cy, 100, .inl a_paperAmount)), (h_paperBatch, .inl (cy, 100, .inl a_paperBatch)), (h_toldSum, .inl (cy, 20, .inl a_toldSum))] → va_S A s.heap H locs → lv_has ls 5 [(0, .ref h_this), (1, .int x1), (2, .long x2), (4, .int x4)] → (∀ (x2 : Int64) (x4 : Int32) (H : Heap) (locs : List Loc) (ls : Array Slot), K12 x2 x4 → va_P (dC, dI) vwCl [(h_this, .inr (6, [g_this_0, g_this_1, g_this_2, g_this_3, g_this_4, g_this_5, g_this_6, g_this_7, g_this_8, g_this_9, g_this_10, g_this_11, g_this_12, g_this_13, g_this_14, g_this_15, g_this_16, g_this_17, g_this_18, g_this_19, .ref h_toldSum, g_this_21, .ref h_paperBatch, .ref h_paperAmount, g_this_24, g_this_25, g_this_26, .int f_papers, g_this_28, g_this_29, g_this_30])), (h_paperAmount, .inl (cy, 100, .inl a_paperAmount)), (h_paperBatch, .inl (cy, 100, .inl a_paperBatch)), (h_toldSum, .inl (cy, 20, .inl a_toldSum))] H → va_D A [(h_this, .inr (6, [g_this_0, g_this_1, g_this_2, g_this_3, g_this_4, g_this_5, g_this_6, g_this_7, g_this_8, g_this_9, g_this_10, g_this_11, g_this_12, g_this_13, g_this_14, g_this_15, g_this_16, g_this_17, g_this_18, g_this_19, .ref h_toldSum, g_this_21, .ref h_paperBatch, .ref h_paperAmount, g_this_24, g_this_25, g_this_26, .int f_papers, g_this_28, g_this_29, g_this_30])), (h_paperAmount, .inl (cy, 100, .inl a_paperAmount)), (h_paperBatch, .inl (cy, 100, .inl a_paperBatch)), (h_toldSum, .inl (cy, 20, .inl a_toldSum))] → va_S A s.heap H locs → lv_has ls 5 [(2, .long x2)] → W p l e rm_X6_outOf s m args below meth c H locs 0 0 QQ (F0 m 53 ls [])) → W p l e rm_X6_outOf s m args below meth c H locs 0 0 QQ (F0 m 12 ls []) := by
    intro x1 K12 n
    induction n with
    | zero => intro x2 x4 H locs ls h; exact False.elim h
    | succ n ih =>
      intro x2 x4 H locs ls h hP hD hS hl hk
      have ih := fun x2 x4 H locs ls h hP hD hS hl => ih x2 x4 H locs ls h hP hD hS hl hk
      replace h : p_X6_outOf_B12 f_papers a_paperAmount a_paperBatch x1 K12 (wl2 (p_X6_outOf_B12 f_papers a_paperAmount a_paperBatch x1 K12) n) x2 x4 := h
      unfold p_X6_outOf_B12 at h
      have J45 : ∀ (x4 : Int32) (s0 : Int64) (s1 : Int64) (H : Heap) (locs : List Loc) (ls : Array Slot), p_X6_outOf_J45 (wl2 (p_X6_outOf_B12 f_papers a_paperAmount a_paperBatch x1 K12) n) x4 s0 s1 → va_P (dC, dI) vwCl [(h_this, .inr (6, [g_this_0, g_this_1, g_this_2, g_this_3, g_this_4, g_this_5, g_this_6, g_this_7, g_this_8, g_this_9, g_this_10, g_this_11, g_this_12, g_this_13, g_this_14, g_this_15, g_this_16, g_this_17, g_this_18, g_this_19, .ref h_toldSum, g_this_21, .ref h_paperBatch, .ref h_paperAmount, g_this_24, g_this_25, g_this_26, .int f_papers, g_this_28, g_this_29, g_this_30])), (h_paperAmount, .inl (cy, 100, .inl a_paperAmount)), (h_paperBatch, .inl (cy, 100, .inl a_paperBatch)), (h_toldSum, .inl (cy, 20, .inl a_toldSum))] H → va_D A [(h_this, .inr (6, [g_this_0, g_this_1, g_this_2, g_this_3, g_this_4, g_this_5, g_this_6, g_this_7, g_this_8, g_this_9, g_this_10, g_this_11, g_this_12, g_this_13, g_this_14, g_this_15, g_this_16, g_this_17, g_this_18, g_this_19, .ref h_toldSum, g_this_21, .ref h_paperBatch, .ref h_paperAmount, g_this_24, g_this_25, g_this_26, .int f_papers, g_this_28, g_this_29, g_this_30])), (h_paperAmount, .inl (cy, 100, .inl a_paperAmount)), (h_paperBatch, .inl (cy, 100, .inl a_paperBatch)), (h_toldSum, .inl (cy, 20, .inl a_toldSum))] → va_S A s.heap H locs → lv_has ls 5 [(0, .ref h_this), (1, .int x1), (4, .int x4)] → W p l e rm_X6_outOf s m args below meth c H locs 0 0 QQ (F0 m 45 ls [.long s0, .long s1]) := by
        intro x4 s0 s1 H locs ls h hP hD hS hl
        unfold p_X6_outOf_J45 at h
        refine lv_ladd hx hb dX6_outOf_45 ?_
        refine lv_lstore_n (lv' := [(2, .long (s1 + s0)), (0, .ref h_this), (1, .int x1), (4, .int x4)]) hx hb dX6_outOf_46 rfl hl (by decide) rfl (fun ls hl => ?_)
        refine lv_iinc (v := x4 + 1) (lv' := [(4, .int (x4 + 1)), (2, .long (s1 + s0)), (0, .ref h_this), (1, .int x1)]) hx hb dX6_outOf_47 hl (k := 3) rfl (by rfl) (by decide) rfl (fun ls hl => ?_)
        refine lv_goto (tgt := 12) hx hb dX6_outOf_50 (by decide) ?_
        exact ih (s1 + s0) (x4 + 1) H locs ls h hP hD hS (lv_sub hl [2, 3, 1, 0] rfl)
      refine lv_iload hx hb dX6_outOf_12 (lv_at hl 3 rfl) ?_
      refine lv_aload_n hx hb dX6_outOf_14 rfl (lv_at hl 0 rfl) ?_
      refine va_get (D := (dC, dI)) (ci := 6) (v := .int f_papers) (C := RX6) (T := TX6) (N := 31) hx hb hts in_X6 hown hK hP 0 rfl rfl 27 (by decide) k_154 (fun _ h9 => h9) rfl dX6_outOf_15 ?_
      refine lv_icmp_ge (tgt := 53) hx hb dX6_outOf_18 (by decide) (fun c18 => ?_) (fun c18 => ?_)
      · replace h := And.left h c18
        exact hk x2 x4 H locs ls h hP hD hS (lv_sub hl [2] rfl)
      · replace h := And.right h c18
        refine lv_lload_n hx hb dX6_outOf_21 rfl (lv_at hl 2 rfl) ?_
        refine lv_aload_n hx hb dX6_outOf_22 rfl (lv_at hl 0 rfl) ?_
        refine va_get (D := (dC, dI)) (ci := 6) (v := .ref h_paperBatch) (C := RX6) (T := TX6) (N := 31) hx hb hts in_X6 hown hK hP 0 rfl rfl 22 (by decide) k_43 (fun _ h9 => h9) rfl dX6_outOf_23 ?_
        refine lv_iload hx hb dX6_outOf_26 (lv_at hl 3 rfl) ?_
        obtain ⟨b28, h⟩ := h
        refine va_iald hx hb hK hP 2 0 rfl rfl b28 dX6_outOf_28 ?_
        refine lv_iload_n hx hb dX6_outOf_29 rfl (lv_at hl 1 rfl) ?_
        refine lv_icmp_ne (tgt := 44) hx hb dX6_outOf_30 (by decide) (fun c30 => ?_) (fun c30 => ?_)
        · replace h := And.left h c30
          refine lv_lconst (v := 0) hx hb dX6_outOf_44 (by decide) ?_
          exact J45 x4 0 x2 H locs ls h hP hD hS (lv_sub hl [0, 1, 3] rfl)
        · replace h := And.right h c30
          refine lv_aload_n hx hb dX6_outOf_33 rfl (lv_at hl 0 rfl) ?_
          refine va_get (D := (dC, dI)) (ci := 6) (v := .ref h_paperAmount) (C := RX6) (T := TX6) (N := 31) hx hb hts in_X6 hown hK hP 0 rfl rfl 23 (by decide) k_46 (fun _ h9 => h9) rfl dX6_outOf_34 ?_
          refine lv_iload hx hb dX6_outOf_37 (lv_at hl 3 rfl) ?_
          obtain ⟨b39, h⟩ := h
          refine va_iald hx hb hK hP 1 0 rfl rfl b39 dX6_outOf_39 ?_
          refine lv_i2l hx hb dX6_outOf_40 rfl ?_
          refine lv_goto (tgt := 45) hx hb dX6_outOf_41 (by decide) ?_
          exact J45 x4 (Int32.toInt64 (a_paperAmount (Int32.toNatClampNeg x4))) x2 H locs ls h hP hD hS (lv_sub hl [0, 1, 3] rfl)
  generalize hlo : ([] : List Loc) = locs at hS ⊢
  obtain ⟨H, hH⟩ : ∃ z, z = s.heap := ⟨_, rfl⟩
  rw [show W p l e rm_X6_outOf s m args below meth c s.heap = W p l e rm_X6_outOf s m args below meth c H by rw [hH]]
  replace hP : va_P (dC, dI) vwCl [(h_this, .inr (6, [g_this_0, g_this_1, g_this_2, g_this_3, g_this_4, g_this_5, g_this_6, g_this_7, g_this_8, g_this_9, g_this_10, g_this_11, g_this_12, g_this_13, g_this_14, g_this_15, g_this_16, g_this_17, g_this_18, g_this_19, .ref h_toldSum, g_this_21, .ref h_paperBatch, .ref h_paperAmount, g_this_24, g_this_25, g_this_26, .int f_papers, g_this_28, g_this_29, g_this_30])), (h_paperAmount, .inl (cy, 100, .inl a_paperAmount)), (h_paperBatch, .inl (cy, 100, .inl a_paperBatch)), (h_toldSum, .inl (cy, 20, .inl a_toldSum))] H := by rw [hH]; exact hP
  replace hS : va_S A s.heap H locs := by rw [hH]; exact hS
  clear hH hlo
  refine lv_aload_n hx hb dX6_outOf_0 rfl (lv_at hl 0 rfl) ?_
  refine va_get (D := (dC, dI)) (ci := 6) (v := .ref h_toldSum) (C := RX6) (T := TX6) (N := 31) hx hb hts in_X6 hown hK hP 0 rfl rfl 20 (by decide) k_40 (fun _ h9 => h9) rfl dX6_outOf_1 ?_
  refine lv_iload_n hx hb dX6_outOf_4 rfl (lv_at hl 1 rfl) ?_
  obtain ⟨b5, h⟩ := h
  refine va_iald hx hb hK hP 3 0 rfl rfl b5 dX6_outOf_5 ?_
  refine my_ineg hx hb dX6_outOf_6 ?_
  refine lv_i2l hx hb dX6_outOf_7 rfl ?_
  refine lv_lstore_n (lv' := [(2, .long (Int32.toInt64 (jneg (a_toldSum (Int32.toNatClampNeg x1))))), (0, .ref h_this), (1, .int x1)]) hx hb dX6_outOf_8 rfl hl (by decide) rfl (fun ls hl => ?_)
  refine lv_iconst (v := 0) hx hb dX6_outOf_9 (by decide) ?_
  refine lv_istore (lv' := [(4, .int 0), (2, .long (Int32.toInt64 (jneg (a_toldSum (Int32.toNatClampNeg x1))))), (0, .ref h_this), (1, .int x1)]) hx hb dX6_outOf_10 hl (by decide) rfl (fun ls hl => ?_)
  obtain ⟨n12, h⟩ := h
  refine L12 x1 _ n12 (Int32.toInt64 (jneg (a_toldSum (Int32.toNatClampNeg x1)))) 0 H locs ls h hP hD hS (lv_sub hl [2, 3, 1, 0] rfl) (fun x2_53 x4_53 H locs ls h hP hD hS hl => ?_)
  refine lv_lload_n hx hb dX6_outOf_53 rfl (lv_at hl 0 rfl) ?_
  exact RET x2_53 H locs ls 54 dX6_outOf_54 h hP hD hS
abbrev rm_X6_out : Room := { frames := 1, cells := 0, slots := 0, locals := 24 }
theorem q_X6_out : yX6_out.cls = RX6 ∧ yX6_out.cls ≠ "java/lang/invoke/MethodHandle" ∧ yX6_out.cls ≠ "java/lang/invoke/VarHandle" ∧ (parseMethodDescriptor yX6_out.desc).map (fun d => d.parameters.length) = some 1 := by decide +kernel
set_option maxHeartbeats 4000000 in
set_option maxRecDepth 100000 in
theorem c_X6_out (l : Launch) (dC : Nat → ClassId) (dI : Nat → Nat → Nat) (cy : ClassId) (h_this : Nat) (h_paperAmount : Nat) (h_paperBatch : Nat) (h_toldSum : Nat) (sz : Nat) (g_this_1 g_this_2 g_this_3 g_this_4 g_this_5 g_this_6 g_this_7 g_this_8 g_this_9 g_this_10 g_this_11 g_this_12 g_this_13 g_this_14 g_this_15 g_this_16 g_this_17 g_this_18 g_this_19 g_this_24 g_this_25 g_this_26 g_this_28 g_this_29 g_this_30 : Value) (f_thrown : Int32) (f_batches : Int32) (f_papers : Int32) (a_paperAmount : Nat → Int32) (a_paperBatch : Nat → Int32) (a_toldSum : Nat → Int32) (x1 : Int32) (Q : Int64 → Int32 → Prop) (h : p_X6_out f_thrown f_batches f_papers a_paperAmount a_paperBatch a_toldSum x1 Q) : Met l yX6_out wsX6_out rm_X6_out (va_Pc [.ref h_this, .int x1] (fun U => U.heap.size = sz ∧ va_P (dC, dI) vwCl [(h_this, .inr (6, [.int f_thrown, g_this_1, g_this_2, g_this_3, g_this_4, g_this_5, g_this_6, g_this_7, g_this_8, g_this_9, g_this_10, g_this_11, g_this_12, g_this_13, g_this_14, g_this_15, g_this_16, g_this_17, g_this_18, g_this_19, .ref h_toldSum, .int f_batches, .ref h_paperBatch, .ref h_paperAmount, g_this_24, g_this_25, g_this_26, .int f_papers, g_this_28, g_this_29, g_this_30])), (h_paperAmount, .inl (cy, 100, .inl a_paperAmount)), (h_paperBatch, .inl (cy, 100, .inl a_paperBatch)), (h_toldSum, .inl (cy, 20, .inl a_toldSum))] U.heap ∧ va_K (dC, dI) vwCl [(cy, .int)] U ∧ va_D (fun _ => True) [(h_this, .inr (6, [.int f_thrown, g_this_1, g_this_2, g_this_3, g_this_4, g_this_5, g_this_6, g_this_7, g_this_8, g_this_9, g_this_10, g_this_11, g_this_12, g_this_13, g_this_14, g_this_15, g_this_16, g_this_17, g_this_18, g_this_19, .ref h_toldSum, .int f_batches, .ref h_paperBatch, .ref h_paperAmount, g_this_24, g_this_25, g_this_26, .int f_papers, g_this_28, g_this_29, g_this_30])), (h_paperAmount, .inl (cy, 100, .inl a_paperAmount)), (h_paperBatch, .inl (cy, 100, .inl a_paperBatch)), (h_toldSum, .inl (cy, 20, .inl a_toldSum))])) (va_Ql (fun (r : Int64) (u : Int32) => Q r u) (fun (u : Int32) (t : State) => va_P (dC, dI) vwCl [(h_this, .inr (6, [.int u, g_this_1, g_this_2, g_this_3, g_this_4, g_this_5, g_this_6, g_this_7, g_this_8, g_this_9, g_this_10, g_this_11, g_this_12, g_this_13, g_this_14, g_this_15, g_this_16, g_this_17, g_this_18, g_this_19, .ref h_toldSum, .int f_batches, .ref h_paperBatch, .ref h_paperAmount, g_this_24, g_this_25, g_this_26, .int f_papers, g_this_28, g_this_29, g_this_30])), (h_paperAmount, .inl (cy, 100, .inl a_paperAmount)), (h_paperBatch, .inl (cy, 100, .inl a_paperBatch)), (h_toldSum, .inl (cy, 20, .inl a_toldSum))] t.heap ∧ va_K (dC, dI) vwCl [(cy, .int)] t ∧ va_D (va_A [(h_this, .inr (6, [.int f_thrown, g_this_1, g_this_2, g_this_3, g_this_4, g_this_5, g_this_6, g_this_7, g_this_8, g_this_9, g_this_10, g_this_11, g_this_12, g_this_13, g_this_14, g_this_15, g_this_16, g_this_17, g_this_18, g_this_19, .ref h_toldSum, .int f_batches, .ref h_paperBatch, .ref h_paperAmount, g_this_24, g_this_25, g_this_26, .int f_papers, g_this_28, g_this_29, g_this_30])), (h_paperAmount, .inl (cy, 100, .inl a_paperAmount)), (h_paperBatch, .inl (cy, 100, .inl a_paperBatch)), (h_toldSum, .inl (cy, 20, .inl a_toldSum))] sz) [(h_this, .inr (6, [.int u, g_this_1, g_this_2, g_this_3, g_this_4, g_this_5, g_this_6, g_this_7, g_this_8, g_this_9, g_this_10, g_this_11, g_this_12, g_this_13, g_this_14, g_this_15, g_this_16, g_this_17, g_this_18, g_this_19, .ref h_toldSum, .int f_batches, .ref h_paperBatch, .ref h_paperAmount, g_this_24, g_this_25, g_this_26, .int f_papers, g_this_28, g_this_29, g_this_30])), (h_paperAmount, .inl (cy, 100, .inl a_paperAmount)), (h_paperBatch, .inl (cy, 100, .inl a_paperBatch)), (h_toldSum, .inl (cy, 20, .inl a_toldSum))]) (va_A [(h_this, .inr (6, [.int f_thrown, g_this_1, g_this_2, g_this_3, g_this_4, g_this_5, g_this_6, g_this_7, g_this_8, g_this_9, g_this_10, g_this_11, g_this_12, g_this_13, g_this_14, g_this_15, g_this_16, g_this_17, g_this_18, g_this_19, .ref h_toldSum, .int f_batches, .ref h_paperBatch, .ref h_paperAmount, g_this_24, g_this_25, g_this_26, .int f_papers, g_this_28, g_this_29, g_this_30])), (h_paperAmount, .inl (cy, 100, .inl a_paperAmount)), (h_paperBatch, .inl (cy, 100, .inl a_paperBatch)), (h_toldSum, .inl (cy, 20, .inl a_toldSum))] sz)) 0 0 (va_A [(h_this, .inr (6, [.int f_thrown, g_this_1, g_this_2, g_this_3, g_this_4, g_this_5, g_this_6, g_this_7, g_this_8, g_this_9, g_this_10, g_this_11, g_this_12, g_this_13, g_this_14, g_this_15, g_this_16, g_this_17, g_this_18, g_this_19, .ref h_toldSum, .int f_batches, .ref h_paperBatch, .ref h_paperAmount, g_this_24, g_this_25, g_this_26, .int f_papers, g_this_28, g_this_29, g_this_30])), (h_paperAmount, .inl (cy, 100, .inl a_paperAmount)), (h_paperBatch, .inl (cy, 100, .inl a_paperBatch)), (h_toldSum, .inl (cy, 20, .inl a_toldSum))] sz) := by
  refine Met.ofW (cc := cX6_out) (maxL := 2) (ret := (some .long)) (by decide) rfl ?_
  intro p e s m args below meth c s₁ B hml hv
  obtain ⟨hargs, hsz, hP, hK, hD0⟩ := hv
  have hx := B.exec
  have hb := B.bytes
  have hr := B.returns
  have hts := atoms_spec (ws := wsX6_out) B.pre
  have hown : s.vm.findClass RX6 = some m.cls := findClass_of_methodNamed B.named
  have hlocks := B.notSynchronized
  subst hsz
  have hD := hD0.self (sz := s.heap.size)
  generalize hAe : va_A [(h_this, .inr (6, [.int f_thrown, g_this_1, g_this_2, g_this_3, g_this_4, g_this_5, g_this_6, g_this_7, g_this_8, g_this_9, g_this_10, g_this_11, g_this_12, g_this_13, g_this_14, g_this_15, g_this_16, g_this_17, g_this_18, g_this_19, .ref h_toldSum, .int f_batches, .ref h_paperBatch, .ref h_paperAmount, g_this_24, g_this_25, g_this_26, .int f_papers, g_this_28, g_this_29, g_this_30])), (h_paperAmount, .inl (cy, 100, .inl a_paperAmount)), (h_paperBatch, .inl (cy, 100, .inl a_paperBatch)), (h_toldSum, .inl (cy, 20, .inl a_toldSum))] s.heap.size = A at hD ⊢
  have hA : ∀ q : Nat, s.heap.size ≤ q → A q := fun q h => by rw [← hAe]; exact Or.inr h
  have hS : va_S A s.heap s.heap [] := va_S.rf
  have hl := lv_entry ([.ref h_this, .int x1]) (n := 2) (Nat.le_of_ble_eq_true rfl)
  rw [show entryFrame m args 2 = entryFrame m ([.ref h_this, .int x1] : List Value).toArray 2 by rw [hargs], lg_entry_eq]
  generalize (lg_sl ([.ref h_this, .int x1]) ++ List.replicate (2 - (lg_sl ([.ref h_this, .int x1])).length) Slot.unset).toArray = ls at hl ⊢
  have hl : lv_has ls 2 [(0, .ref h_this), (1, .int x1)] := hl
  have hP : va_P (dC, dI) vwCl [(h_this, .inr (6, [.int f_thrown, g_this_1, g_this_2, g_this_3, g_this_4, g_this_5, g_this_6, g_this_7, g_this_8, g_this_9, g_this_10, g_this_11, g_this_12, g_this_13, g_this_14, g_this_15, g_this_16, g_this_17, g_this_18, g_this_19, .ref h_toldSum, .int f_batches, .ref h_paperBatch, .ref h_paperAmount, g_this_24, g_this_25, g_this_26, .int f_papers, g_this_28, g_this_29, g_this_30])), (h_paperAmount, .inl (cy, 100, .inl a_paperAmount)), (h_paperBatch, .inl (cy, 100, .inl a_paperBatch)), (h_toldSum, .inl (cy, 20, .inl a_toldSum))] s.heap := hP
  change W p l e rm_X6_out s m args below meth c s.heap [] 0 0 _ _
  generalize hQQ : MQ below _ _ _ _ _ _ = QQ
  have RET : ∀ (r : Int64) (f_thrown : Int32) (H : Heap) (locs : List Loc) (ls : Array Slot) (pc : Nat), decode cX6_out pc = .ok (.lreturn, 1) → Q r f_thrown → va_P (dC, dI) vwCl [(h_this, .inr (6, [.int f_thrown, g_this_1, g_this_2, g_this_3, g_this_4, g_this_5, g_this_6, g_this_7, g_this_8, g_this_9, g_this_10, g_this_11, g_this_12, g_this_13, g_this_14, g_this_15, g_this_16, g_this_17, g_this_18, g_this_19, .ref h_toldSum, .int f_batches, .ref h_paperBatch, .ref h_paperAmount, g_this_24, g_this_25, g_this_26, .int f_papers, g_this_28, g_this_29, g_this_30])), (h_paperAmount, .inl (cy, 100, .inl a_paperAmount)), (h_paperBatch, .inl (cy, 100, .inl a_paperBatch)), (h_toldSum, .inl (cy, 20, .inl a_toldSum))] H → va_D A [(h_this, .inr (6, [.int f_thrown, g_this_1, g_this_2, g_this_3, g_this_4, g_this_5, g_this_6, g_this_7, g_this_8, g_this_9, g_this_10, g_this_11, g_this_12, g_this_13, g_this_14, g_this_15, g_this_16, g_this_17, g_this_18, g_this_19, .ref h_toldSum, .int f_batches, .ref h_paperBatch, .ref h_paperAmount, g_this_24, g_this_25, g_this_26, .int f_papers, g_this_28, g_this_29, g_this_30])), (h_paperAmount, .inl (cy, 100, .inl a_paperAmount)), (h_paperBatch, .inl (cy, 100, .inl a_paperBatch)), (h_toldSum, .inl (cy, 20, .inl a_toldSum))] → va_S A s.heap H locs → W p l e rm_X6_out s m args below meth c H locs 0 0 QQ (F0 m pc ls [.long r]) := by
    intro r f_thrown H locs ls pc hdg hq hP hD hS
    rw [← hQQ]
    exact W.lret (v := r) hx hb hr (fun t ht hW => ⟨⟨r, f_thrown, rfl, hq, by rw [ht]; exact hP, va_K.moved hW.alike hK, hD⟩, hS.F ht⟩) hS.2.2 hdg
  clear hQQ
  unfold p_X6_out at h
  have J17 : ∀ (s0 : Int64) (f_thrown : Int32) (H : Heap) (locs : List Loc) (ls : Array Slot), p_X6_out_J17 f_thrown Q s0 → va_P (dC, dI) vwCl [(h_this, .inr (6, [.int f_thrown, g_this_1, g_this_2, g_this_3, g_this_4, g_this_5, g_this_6, g_this_7, g_this_8, g_this_9, g_this_10, g_this_11, g_this_12, g_this_13, g_this_14, g_this_15, g_this_16, g_this_17, g_this_18, g_this_19, .ref h_toldSum, .int f_batches, .ref h_paperBatch, .ref h_paperAmount, g_this_24, g_this_25, g_this_26, .int f_papers, g_this_28, g_this_29, g_this_30])), (h_paperAmount, .inl (cy, 100, .inl a_paperAmount)), (h_paperBatch, .inl (cy, 100, .inl a_paperBatch)), (h_toldSum, .inl (cy, 20, .inl a_toldSum))] H → va_D A [(h_this, .inr (6, [.int f_thrown, g_this_1, g_this_2, g_this_3, g_this_4, g_this_5, g_this_6, g_this_7, g_this_8, g_this_9, g_this_10, g_this_11, g_this_12, g_this_13, g_this_14, g_this_15, g_this_16, g_this_17, g_this_18, g_this_19, .ref h_toldSum, .int f_batches, .ref h_paperBatch, .ref h_paperAmount, g_this_24, g_this_25, g_this_26, .int f_papers, g_this_28, g_this_29, g_this_30])), (h_paperAmount, .inl (cy, 100, .inl a_paperAmount)), (h_paperBatch, .inl (cy, 100, .inl a_paperBatch)), (h_toldSum, .inl (cy, 20, .inl a_toldSum))] → va_S A s.heap H locs → lv_has ls 2 [] → W p l e rm_X6_out s m args below meth c H locs 0 0 QQ (F0 m 17 ls [.long s0]) := by
    intro s0 f_thrown H locs ls h hP hD hS hl
    unfold p_X6_out_J17 at h
    exact RET s0 f_thrown H locs ls 17 dX6_out_17 h hP hD hS
  generalize hlo : ([] : List Loc) = locs at hS ⊢
  obtain ⟨H, hH⟩ : ∃ z, z = s.heap := ⟨_, rfl⟩
  rw [show W p l e rm_X6_out s m args below meth c s.heap = W p l e rm_X6_out s m args below meth c H by rw [hH]]
  replace hP : va_P (dC, dI) vwCl [(h_this, .inr (6, [.int f_thrown, g_this_1, g_this_2, g_this_3, g_this_4, g_this_5, g_this_6, g_this_7, g_this_8, g_this_9, g_this_10, g_this_11, g_this_12, g_this_13, g_this_14, g_this_15, g_this_16, g_this_17, g_this_18, g_this_19, .ref h_toldSum, .int f_batches, .ref h_paperBatch, .ref h_paperAmount, g_this_24, g_this_25, g_this_26, .int f_papers, g_this_28, g_this_29, g_this_30])), (h_paperAmount, .inl (cy, 100, .inl a_paperAmount)), (h_paperBatch, .inl (cy, 100, .inl a_paperBatch)), (h_toldSum, .inl (cy, 20, .inl a_toldSum))] H := by rw [hH]; exact hP
  replace hS : va_S A s.heap H locs := by rw [hH]; exact hS
  clear hH hlo
  refine lv_aload_n hx hb dX6_out_0 rfl (lv_at hl 0 rfl) ?_
  refine lv_iload_n hx hb dX6_out_1 rfl (lv_at hl 1 rfl) ?_
  have hPc := hP.sub (ws' := [(h_this, .inr (6, [.int f_thrown, g_this_1, g_this_2, g_this_3, g_this_4, g_this_5, g_this_6, g_this_7, g_this_8, g_this_9, g_this_10, g_this_11, g_this_12, g_this_13, g_this_14, g_this_15, g_this_16, g_this_17, g_this_18, g_this_19, .ref h_toldSum, .int f_batches, .ref h_paperBatch, .ref h_paperAmount, g_this_24, g_this_25, g_this_26, .int f_papers, g_this_28, g_this_29, g_this_30]))]) [0] rfl
  have hDc := hD.sub (ws' := [(h_this, .inr (6, [.int f_thrown, g_this_1, g_this_2, g_this_3, g_this_4, g_this_5, g_this_6, g_this_7, g_this_8, g_this_9, g_this_10, g_this_11, g_this_12, g_this_13, g_this_14, g_this_15, g_this_16, g_this_17, g_this_18, g_this_19, .ref h_toldSum, .int f_batches, .ref h_paperBatch, .ref h_paperAmount, g_this_24, g_this_25, g_this_26, .int f_papers, g_this_28, g_this_29, g_this_30]))]) [0] (by decide) rfl
  have hFc := va_free (wc := [(h_this, .inr (6, [.int f_thrown, g_this_1, g_this_2, g_this_3, g_this_4, g_this_5, g_this_6, g_this_7, g_this_8, g_this_9, g_this_10, g_this_11, g_this_12, g_this_13, g_this_14, g_this_15, g_this_16, g_this_17, g_this_18, g_this_19, .ref h_toldSum, .int f_batches, .ref h_paperBatch, .ref h_paperAmount, g_this_24, g_this_25, g_this_26, .int f_papers, g_this_28, g_this_29, g_this_30]))]) hD hS hA [0] rfl
  refine va_calli (va_runV (As := [.int x1]) (rest := []) ⟨hx, hb, hml, hown, hts⟩ (c_X6_isBatch l dC dI cy h_this H.size (g_this_1) (g_this_2) (g_this_3) (g_this_4) (g_this_5) (g_this_6) (g_this_7) (g_this_8) (g_this_9) (g_this_10) (g_this_11) (g_this_12) (g_this_13) (g_this_14) (g_this_15) (g_this_16) (g_this_17) (g_this_18) (g_this_19) (.ref h_toldSum) (.ref h_paperBatch) (.ref h_paperAmount) (g_this_24) (g_this_25) (g_this_26) (.int f_papers) (g_this_28) (g_this_29) (g_this_30) f_thrown f_batches x1 _ h) (cwV 1 hts gX6_out_X6_isBatch rfl rfl rfl q_X6_isBatch ⟨Nat.le_of_ble_eq_true rfl, Nat.le_of_ble_eq_true rfl⟩) ⟨fun a U g mk q => by obtain ⟨q0, q1, qP, qK, qD⟩ := q; exact ⟨q0, q1, qP, va_K.moved (u := U) (U := U.calling g mk a) (Vm.Alike.refl U.vm) qK, qD⟩, va_recv hK hP (ci := 6) (q0 := 0) rfl rfl, fun U hU hW => ⟨rfl, by rw [hU], by rw [hU]; exact hPc, va_K.moved hW.alike hK, hDc.weaken (fun _ _ _ _ => trivial)⟩⟩ rfl rfl hl.1 rfl (lv_room (Nat.le_of_ble_eq_true rfl)) dX6_out_2 ⟨Nat.le_of_ble_eq_true rfl, Nat.le_of_ble_eq_true rfl⟩) hS (fun q _ h => hFc q h) hFc (fun r2 u t H1 locs ht hvm hw hB hz1 hk1 hS => ?_)
  obtain ⟨f_thrown_2, rfl⟩ : ∃ z, z = u := ⟨_, rfl⟩
  obtain ⟨hP1, hK1, hD1⟩ := hB
  rw [ht] at hP1
  obtain ⟨hP, hD⟩ := va_join (wr := [(h_paperAmount, .inl (cy, 100, .inl a_paperAmount)), (h_paperBatch, .inl (cy, 100, .inl a_paperBatch)), (h_toldSum, .inl (cy, 20, .inl a_toldSum))]) (w1 := [(h_this, .inr (6, [.int f_thrown_2, g_this_1, g_this_2, g_this_3, g_this_4, g_this_5, g_this_6, g_this_7, g_this_8, g_this_9, g_this_10, g_this_11, g_this_12, g_this_13, g_this_14, g_this_15, g_this_16, g_this_17, g_this_18, g_this_19, .ref h_toldSum, .int f_batches, .ref h_paperBatch, .ref h_paperAmount, g_this_24, g_this_25, g_this_26, .int f_papers, g_this_28, g_this_29, g_this_30]))]) hP hD [0] [1, 2, 3] rfl rfl (by decide) (by decide) hk1 hFc hP1 hD1
  replace hP := hP.sub (ws' := [(h_this, .inr (6, [.int f_thrown_2, g_this_1, g_this_2, g_this_3, g_this_4, g_this_5, g_this_6, g_this_7, g_this_8, g_this_9, g_this_10, g_this_11, g_this_12, g_this_13, g_this_14, g_this_15, g_this_16, g_this_17, g_this_18, g_this_19, .ref h_toldSum, .int f_batches, .ref h_paperBatch, .ref h_paperAmount, g_this_24, g_this_25, g_this_26, .int f_papers, g_this_28, g_this_29, g_this_30])), (h_paperAmount, .inl (cy, 100, .inl a_paperAmount)), (h_paperBatch, .inl (cy, 100, .inl a_paperBatch)), (h_toldSum, .inl (cy, 20, .inl a_toldSum))]) [3, 0, 1, 2] rfl
  replace hD := hD.sub (ws' := [(h_this, .inr (6, [.int f_thrown_2, g_this_1, g_this_2, g_this_3, g_this_4, g_this_5, g_this_6, g_this_7, g_this_8, g_this_9, g_this_10, g_this_11, g_this_12, g_this_13, g_this_14, g_this_15, g_this_16, g_this_17, g_this_18, g_this_19, .ref h_toldSum, .int f_batches, .ref h_paperBatch, .ref h_paperAmount, g_this_24, g_this_25, g_this_26, .int f_papers, g_this_28, g_this_29, g_this_30])), (h_paperAmount, .inl (cy, 100, .inl a_paperAmount)), (h_paperBatch, .inl (cy, 100, .inl a_paperBatch)), (h_toldSum, .inl (cy, 20, .inl a_toldSum))]) [3, 0, 1, 2] (by decide) rfl
  clear hPc hDc hFc hP1 hK1 hD1 hz1 hk1 hvm
  subst ht
  generalize t.heap = H at hP hS ⊢
  replace h := hw
  clear hw
  refine lv_if_eq (tgt := 16) hx hb dX6_out_5 (by decide) (fun c5 => ?_) (fun c5 => ?_)
  · replace h := And.left h c5
    refine lv_lconst (v := 0) hx hb dX6_out_16 (by decide) ?_
    exact J17 0 f_thrown_2 H locs ls h hP hD hS (lv_sub hl [] rfl)
  · replace h := And.right h c5
    refine lv_aload_n hx hb dX6_out_8 rfl (lv_at hl 0 rfl) ?_
    refine lv_iload_n hx hb dX6_out_9 rfl (lv_at hl 1 rfl) ?_
    have hPc := hP.sub (ws' := [(h_this, .inr (6, [.int f_thrown_2, g_this_1, g_this_2, g_this_3, g_this_4, g_this_5, g_this_6, g_this_7, g_this_8, g_this_9, g_this_10, g_this_11, g_this_12, g_this_13, g_this_14, g_this_15, g_this_16, g_this_17, g_this_18, g_this_19, .ref h_toldSum, .int f_batches, .ref h_paperBatch, .ref h_paperAmount, g_this_24, g_this_25, g_this_26, .int f_papers, g_this_28, g_this_29, g_this_30])), (h_paperAmount, .inl (cy, 100, .inl a_paperAmount)), (h_paperBatch, .inl (cy, 100, .inl a_paperBatch)), (h_toldSum, .inl (cy, 20, .inl a_toldSum))]) [0, 1, 2, 3] rfl
    have hDc := hD.sub (ws' := [(h_this, .inr (6, [.int f_thrown_2, g_this_1, g_this_2, g_this_3, g_this_4, g_this_5, g_this_6, g_this_7, g_this_8, g_this_9, g_this_10, g_this_11, g_this_12, g_this_13, g_this_14, g_this_15, g_this_16, g_this_17, g_this_18, g_this_19, .ref h_toldSum, .int f_batches, .ref h_paperBatch, .ref h_paperAmount, g_this_24, g_this_25, g_this_26, .int f_papers, g_this_28, g_this_29, g_this_30])), (h_paperAmount, .inl (cy, 100, .inl a_paperAmount)), (h_paperBatch, .inl (cy, 100, .inl a_paperBatch)), (h_toldSum, .inl (cy, 20, .inl a_toldSum))]) [0, 1, 2, 3] (by decide) rfl
    have hFc := va_free (wc := [(h_this, .inr (6, [.int f_thrown_2, g_this_1, g_this_2, g_this_3, g_this_4, g_this_5, g_this_6, g_this_7, g_this_8, g_this_9, g_this_10, g_this_11, g_this_12, g_this_13, g_this_14, g_this_15, g_this_16, g_this_17, g_this_18, g_this_19, .ref h_toldSum, .int f_batches, .ref h_paperBatch, .ref h_paperAmount, g_this_24, g_this_25, g_this_26, .int f_papers, g_this_28, g_this_29, g_this_30])), (h_paperAmount, .inl (cy, 100, .inl a_paperAmount)), (h_paperBatch, .inl (cy, 100, .inl a_paperBatch)), (h_toldSum, .inl (cy, 20, .inl a_toldSum))]) hD hS hA [0, 1, 2, 3] rfl
    refine va_calll (va_runV (As := [.int x1]) (rest := []) ⟨hx, hb, hml, hown, hts⟩ (c_X6_outOf l dC dI cy h_this h_paperAmount h_paperBatch h_toldSum H.size (.int f_thrown_2) (g_this_1) (g_this_2) (g_this_3) (g_this_4) (g_this_5) (g_this_6) (g_this_7) (g_this_8) (g_this_9) (g_this_10) (g_this_11) (g_this_12) (g_this_13) (g_this_14) (g_this_15) (g_this_16) (g_this_17) (g_this_18) (g_this_19) (.int f_batches) (g_this_24) (g_this_25) (g_this_26) (g_this_28) (g_this_29) (g_this_30) f_papers a_paperAmount a_paperBatch a_toldSum x1 _ h) (cwV 1 hts gX6_out_X6_outOf rfl rfl rfl q_X6_outOf ⟨Nat.le_of_ble_eq_true rfl, Nat.le_of_ble_eq_true rfl⟩) ⟨fun a U g mk q => by obtain ⟨q0, q1, qP, qK, qD⟩ := q; exact ⟨q0, q1, qP, va_K.moved (u := U) (U := U.calling g mk a) (Vm.Alike.refl U.vm) qK, qD⟩, va_recv hK hP (ci := 6) (q0 := 0) rfl rfl, fun U hU hW => ⟨rfl, by rw [hU], by rw [hU]; exact hPc, va_K.moved hW.alike hK, hDc.weaken (fun _ _ _ _ => trivial)⟩⟩ rfl rfl hl.1 rfl (lv_room (Nat.le_of_ble_eq_true rfl)) dX6_out_10 ⟨Nat.le_of_ble_eq_true rfl, Nat.le_of_ble_eq_true rfl⟩) hS (fun q _ h => hFc q h) hFc (fun r10 u t H1 locs ht hvm hw hB hz1 hk1 hS => ?_)
    obtain ⟨hP1, hK1, hD1⟩ := hB
    rw [ht] at hP1
    obtain ⟨hP, hD⟩ := va_join (wr := []) (w1 := [(h_this, .inr (6, [.int f_thrown_2, g_this_1, g_this_2, g_this_3, g_this_4, g_this_5, g_this_6, g_this_7, g_this_8, g_this_9, g_this_10, g_this_11, g_this_12, g_this_13, g_this_14, g_this_15, g_this_16, g_this_17, g_this_18, g_this_19, .ref h_toldSum, .int f_batches, .ref h_paperBatch, .ref h_paperAmount, g_this_24, g_this_25, g_this_26, .int f_papers, g_this_28, g_this_29, g_this_30])), (h_paperAmount, .inl (cy, 100, .inl a_paperAmount)), (h_paperBatch, .inl (cy, 100, .inl a_paperBatch)), (h_toldSum, .inl (cy, 20, .inl a_toldSum))]) hP hD [0, 1, 2, 3] [] rfl rfl (by decide) (by decide) hk1 hFc hP1 hD1
    replace hP := hP.sub (ws' := [(h_this, .inr (6, [.int f_thrown_2, g_this_1, g_this_2, g_this_3, g_this_4, g_this_5, g_this_6, g_this_7, g_this_8, g_this_9, g_this_10, g_this_11, g_this_12, g_this_13, g_this_14, g_this_15, g_this_16, g_this_17, g_this_18, g_this_19, .ref h_toldSum, .int f_batches, .ref h_paperBatch, .ref h_paperAmount, g_this_24, g_this_25, g_this_26, .int f_papers, g_this_28, g_this_29, g_this_30])), (h_paperAmount, .inl (cy, 100, .inl a_paperAmount)), (h_paperBatch, .inl (cy, 100, .inl a_paperBatch)), (h_toldSum, .inl (cy, 20, .inl a_toldSum))]) [0, 1, 2, 3] rfl
    replace hD := hD.sub (ws' := [(h_this, .inr (6, [.int f_thrown_2, g_this_1, g_this_2, g_this_3, g_this_4, g_this_5, g_this_6, g_this_7, g_this_8, g_this_9, g_this_10, g_this_11, g_this_12, g_this_13, g_this_14, g_this_15, g_this_16, g_this_17, g_this_18, g_this_19, .ref h_toldSum, .int f_batches, .ref h_paperBatch, .ref h_paperAmount, g_this_24, g_this_25, g_this_26, .int f_papers, g_this_28, g_this_29, g_this_30])), (h_paperAmount, .inl (cy, 100, .inl a_paperAmount)), (h_paperBatch, .inl (cy, 100, .inl a_paperBatch)), (h_toldSum, .inl (cy, 20, .inl a_toldSum))]) [0, 1, 2, 3] (by decide) rfl
    clear hPc hDc hFc hP1 hK1 hD1 hz1 hk1 hvm
    subst ht
    generalize t.heap = H at hP hS ⊢
    replace h := hw
    clear hw
    refine lv_goto (tgt := 17) hx hb dX6_out_13 (by decide) ?_
    exact J17 r10 f_thrown_2 H locs ls h hP hD hS (lv_sub hl [] rfl)
abbrev rm_X6_isSlip : Room := { frames := 0, cells := 0, slots := 0, locals := 0 }
theorem q_X6_isSlip : yX6_isSlip.cls ≠ "java/lang/invoke/MethodHandle" ∧ yX6_isSlip.cls ≠ "java/lang/invoke/VarHandle" ∧ (parseMethodDescriptor yX6_isSlip.desc).map (fun d => d.parameters.length) = some 3 := by decide +kernel
set_option maxHeartbeats 4000000 in
set_option maxRecDepth 100000 in
theorem c_X6_isSlip (l : Launch) (dC : Nat → ClassId) (dI : Nat → Nat → Nat) (cy : ClassId) (sz : Nat) (x0 : Int32) (x1 : Int32) (x2 : Int32) (Q : Int32 → Prop) (h : p_X6_isSlip x0 x1 x2 Q) : Met l yX6_isSlip wsX6_isSlip rm_X6_isSlip (va_Pc [.int x0, .int x1, .int x2] (fun U => U.heap.size = sz ∧ va_P (dC, dI) vwCl [] U.heap ∧ va_K (dC, dI) vwCl [(cy, .int)] U ∧ va_D (fun _ => True) [])) (va_Qi (fun (r : Int32) (u : Unit) => Q r) (fun (u : Unit) (t : State) => va_P (dC, dI) vwCl [] t.heap ∧ va_K (dC, dI) vwCl [(cy, .int)] t ∧ va_D (va_A [] sz) []) (va_A [] sz)) 0 0 (va_A [] sz) := by
  refine Met.ofW (cc := cX6_isSlip) (maxL := 9) (ret := (some .boolean)) (by decide) rfl ?_
  intro p e s m args below meth c s₁ B hml hv
  obtain ⟨hargs, hsz, hP, hK, hD0⟩ := hv
  have hx := B.exec
  have hb := B.bytes
  have hr := B.returns
  have hts := atoms_spec (ws := wsX6_isSlip) B.pre
  have hown : s.vm.findClass RX6 = some m.cls := findClass_of_methodNamed B.named
  have hlocks := B.notSynchronized
  subst hsz
  have hD := hD0.self (sz := s.heap.size)
  generalize hAe : va_A [] s.heap.size = A at hD ⊢
  have hA : ∀ q : Nat, s.heap.size ≤ q → A q := fun q h => by rw [← hAe]; exact Or.inr h
  have hS : va_S A s.heap s.heap [] := va_S.rf
  have hl := lv_entry ([.int x0, .int x1, .int x2]) (n := 9) (Nat.le_of_ble_eq_true rfl)
  rw [show entryFrame m args 9 = entryFrame m ([.int x0, .int x1, .int x2] : List Value).toArray 9 by rw [hargs], lg_entry_eq]
  generalize (lg_sl ([.int x0, .int x1, .int x2]) ++ List.replicate (9 - (lg_sl ([.int x0, .int x1, .int x2])).length) Slot.unset).toArray = ls at hl ⊢
  have hl : lv_has ls 9 [(0, .int x0), (1, .int x1), (2, .int x2)] := hl
  have hP : va_P (dC, dI) vwCl [] s.heap := hP
  change W p l e rm_X6_isSlip s m args below meth c s.heap [] 0 0 _ _
  generalize hQQ : MQ below _ _ _ _ _ _ = QQ
  have RET : ∀ (r : Int32) (H : Heap) (locs : List Loc) (ls : Array Slot) (pc : Nat), decode cX6_isSlip pc = .ok (.ireturn, 1) → narrow .boolean (.int r) = .int r → Q r → va_P (dC, dI) vwCl [] H → va_D A [] → va_S A s.heap H locs → W p l e rm_X6_isSlip s m args below meth c H locs 0 0 QQ (F0 m pc ls [.int r]) := by
    intro r  H locs ls pc hdg hz hq hP hD hS
    rw [← hQQ]
    exact W.zret (v := r) hx hb hr hz (fun t ht hW => ⟨⟨r, (), rfl, hq, by rw [ht]; exact hP, va_K.moved hW.alike hK, hD⟩, hS.F ht⟩) hS.2.2 hdg
  clear hQQ
  unfold p_X6_isSlip at h
  have J163 : ∀ (s0 : Int32) (H : Heap) (locs : List Loc) (ls : Array Slot), p_X6_isSlip_J163 Q s0 → va_P (dC, dI) vwCl [] H → va_D A [] → va_S A s.heap H locs → lv_has ls 9 [] → W p l e rm_X6_isSlip s m args below meth c H locs 0 0 QQ (F0 m 163 ls [.int s0]) := by
    intro s0 H locs ls h hP hD hS hl
    unfold p_X6_isSlip_J163 at h
    obtain ⟨zr163, h⟩ := h
    exact RET s0 H locs ls 163 dX6_isSlip_163 zr163 h hP hD hS
  have J162 : ∀ (H : Heap) (locs : List Loc) (ls : Array Slot), p_X6_isSlip_J162 Q → va_P (dC, dI) vwCl [] H → va_D A [] → va_S A s.heap H locs → lv_has ls 9 [] → W p l e rm_X6_isSlip s m args below meth c H locs 0 0 QQ (F0 m 162 ls []) := by
    intro  H locs ls h hP hD hS hl
    unfold p_X6_isSlip_J162 at h
    refine lv_iconst (v := 0) hx hb dX6_isSlip_162 (by decide) ?_
    exact J163 0 H locs ls h hP hD hS (lv_sub hl [] rfl)
  have L98 : ∀ (x1 : Int32) (x2 : Int32) (x4 : Int32) (K98 : Int32 → Int32 → Prop) (n : Nat) (x7 : Int32) (x8 : Int32) (H : Heap) (locs : List Loc) (ls : Array Slot), wl2 (p_X6_isSlip_B98 x4 K98) n x7 x8 → va_P (dC, dI) vwCl [] H → va_D A [] → va_S A s.heap H locs → lv_has ls 9 [(1, .int x1), (2, .int x2), (4, .int x4), (7, .int x7), (8, .int x8)] → (∀ (x7 : Int32) (x8 : Int32) (H : Heap) (locs : List Loc) (ls : Array Slot), K98 x7 x8 → va_P (dC, dI) vwCl [] H → va_D A [] → va_S A s.heap H locs → lv_has ls 9 [(1, .int x1), (2, .int x2), (7, .int x7)] → W p l e rm_X6_isSlip s m args below meth c H locs 0 0 QQ (F0 m 118 ls [])) → W p l e rm_X6_isSlip s m args below meth c H locs 0 0 QQ (F0 m 98 ls []) := by
    intro x1 x2 x4 K98 n
    induction n with
    | zero => intro x7 x8 H locs ls h; exact False.elim h
    | succ n ih =>
      intro x7 x8 H locs ls h hP hD hS hl hk
      have ih := fun x7 x8 H locs ls h hP hD hS hl => ih x7 x8 H locs ls h hP hD hS hl hk
      replace h : p_X6_isSlip_B98 x4 K98 (wl2 (p_X6_isSlip_B98 x4 K98) n) x7 x8 := h
      unfold p_X6_isSlip_B98 at h
      refine lv_iload hx hb dX6_isSlip_98 (lv_at hl 4 rfl) ?_
      refine lv_iload hx hb dX6_isSlip_100 (lv_at hl 2 rfl) ?_
      refine lv_icmp_ge (tgt := 118) hx hb dX6_isSlip_102 (by decide) (fun c102 => ?_) (fun c102 => ?_)
      · replace h := And.left h c102
        exact hk x7 x8 H locs ls h hP hD hS (lv_sub hl [0, 1, 3] rfl)
      · replace h := And.right h c102
        refine lv_iload hx hb dX6_isSlip_105 (lv_at hl 3 rfl) ?_
        refine lv_bipush (v := 10) hx hb dX6_isSlip_107 (by decide) ?_
        refine lv_imul hx hb dX6_isSlip_109 ?_
        refine lv_istore (lv' := [(7, .int (x7 * 10)), (1, .int x1), (2, .int x2), (4, .int x4), (8, .int x8)]) hx hb dX6_isSlip_110 hl (by decide) rfl (fun ls hl => ?_)
        refine lv_iinc (v := x8 + 1) (lv' := [(8, .int (x8 + 1)), (7, .int (x7 * 10)), (1, .int x1), (2, .int x2), (4, .int x4)]) hx hb dX6_isSlip_112 hl (k := 4) rfl (by rfl) (by decide) rfl (fun ls hl => ?_)
        refine lv_goto (tgt := 98) hx hb dX6_isSlip_115 (by decide) ?_
        exact ih (x7 * 10) (x8 + 1) H locs ls h hP hD hS (lv_sub hl [2, 3, 4, 1, 0] rfl)
  have J84 : ∀ (s0 : Int32) (H : Heap) (locs : List Loc) (ls : Array Slot), p_X6_isSlip_J84 Q s0 → va_P (dC, dI) vwCl [] H → va_D A [] → va_S A s.heap H locs → lv_has ls 9 [] → W p l e rm_X6_isSlip s m args below meth c H locs 0 0 QQ (F0 m 84 ls [.int s0]) := by
    intro s0 H locs ls h hP hD hS hl
    unfold p_X6_isSlip_J84 at h
    obtain ⟨zr84, h⟩ := h
    exact RET s0 H locs ls 84 dX6_isSlip_84 zr84 h hP hD hS
  have L14 : ∀ (x0 : Int32) (x1 : Int32) (x2 : Int32) (K14 : Int32 → Int32 → Int32 → Int32 → Int32 → Prop) (n : Nat) (x3 : Int32) (x4 : Int32) (x5 : Int32) (x6 : Int32) (x7 : Int32) (H : Heap) (locs : List Loc) (ls : Array Slot), wl5 (p_X6_isSlip_B14 K14) n x3 x4 x5 x6 x7 → va_P (dC, dI) vwCl [] H → va_D A [] → va_S A s.heap H locs → lv_has ls 9 [(0, .int x0), (1, .int x1), (2, .int x2), (3, .int x3), (4, .int x4), (5, .int x5), (6, .int x6), (7, .int x7)] → (∀ (x3 : Int32) (x4 : Int32) (x5 : Int32) (x6 : Int32) (x7 : Int32) (H : Heap) (locs : List Loc) (ls : Array Slot), K14 x3 x4 x5 x6 x7 → va_P (dC, dI) vwCl [] H → va_D A [] → va_S A s.heap H locs → lv_has ls 9 [(0, .int x0), (1, .int x1), (2, .int x2), (3, .int x3), (4, .int x4)] → W p l e rm_X6_isSlip s m args below meth c H locs 0 0 QQ (F0 m 70 ls [])) → W p l e rm_X6_isSlip s m args below meth c H locs 0 0 QQ (F0 m 14 ls []) := by
    intro x0 x1 x2 K14 n
    induction n with
    | zero => intro x3 x4 x5 x6 x7 H locs ls h; exact False.elim h
    | succ n ih =>
      intro x3 x4 x5 x6 x7 H locs ls h hP hD hS hl hk
      have ih := fun x3 x4 x5 x6 x7 H locs ls h hP hD hS hl => ih x3 x4 x5 x6 x7 H locs ls h hP hD hS hl hk
      replace h : p_X6_isSlip_B14 K14 (wl5 (p_X6_isSlip_B14 K14) n) x3 x4 x5 x6 x7 := h
      unfold p_X6_isSlip_B14 at h
      have J50 : ∀ (x3 : Int32) (x4 : Int32) (x5 : Int32) (x6 : Int32) (x7 : Int32) (H : Heap) (locs : List Loc) (ls : Array Slot), p_X6_isSlip_J50 (wl5 (p_X6_isSlip_B14 K14) n) x3 x4 x5 x6 x7 → va_P (dC, dI) vwCl [] H → va_D A [] → va_S A s.heap H locs → lv_has ls 9 [(0, .int x0), (1, .int x1), (2, .int x2), (3, .int x3), (4, .int x4), (5, .int x5), (6, .int x6), (7, .int x7)] → W p l e rm_X6_isSlip s m args below meth c H locs 0 0 QQ (F0 m 50 ls []) := by
        intro x3 x4 x5 x6 x7 H locs ls h hP hD hS hl
        unfold p_X6_isSlip_J50 at h
        refine lv_iload hx hb dX6_isSlip_50 (lv_at hl 5 rfl) ?_
        refine lv_bipush (v := 10) hx hb dX6_isSlip_52 (by decide) ?_
        refine lv_idiv hx hb dX6_isSlip_54 (by decide) ?_
        refine lv_istore (lv' := [(5, .int (x5 / 10)), (0, .int x0), (1, .int x1), (2, .int x2), (3, .int x3), (4, .int x4), (6, .int x6), (7, .int x7)]) hx hb dX6_isSlip_55 hl (by decide) rfl (fun ls hl => ?_)
        refine lv_iload hx hb dX6_isSlip_57 (lv_at hl 6 rfl) ?_
        refine lv_bipush (v := 10) hx hb dX6_isSlip_59 (by decide) ?_
        refine lv_idiv hx hb dX6_isSlip_61 (by decide) ?_
        refine lv_istore (lv' := [(6, .int (x6 / 10)), (5, .int (x5 / 10)), (0, .int x0), (1, .int x1), (2, .int x2), (3, .int x3), (4, .int x4), (7, .int x7)]) hx hb dX6_isSlip_62 hl (by decide) rfl (fun ls hl => ?_)
        refine lv_iinc (v := x7 + 1) (lv' := [(7, .int (x7 + 1)), (6, .int (x6 / 10)), (5, .int (x5 / 10)), (0, .int x0), (1, .int x1), (2, .int x2), (3, .int x3), (4, .int x4)]) hx hb dX6_isSlip_64 hl (k := 7) rfl (by rfl) (by decide) rfl (fun ls hl => ?_)
        refine lv_goto (tgt := 14) hx hb dX6_isSlip_67 (by decide) ?_
        exact ih x3 x4 (x5 / 10) (x6 / 10) (x7 + 1) H locs ls h hP hD hS (lv_sub hl [3, 4, 5, 6, 7, 2, 1, 0] rfl)
      have J45 : ∀ (x3 : Int32) (x5 : Int32) (x6 : Int32) (x7 : Int32) (s0 : Int32) (H : Heap) (locs : List Loc) (ls : Array Slot), p_X6_isSlip_J45 (wl5 (p_X6_isSlip_B14 K14) n) x3 x5 x6 x7 s0 → va_P (dC, dI) vwCl [] H → va_D A [] → va_S A s.heap H locs → lv_has ls 9 [(0, .int x0), (1, .int x1), (2, .int x2), (3, .int x3), (5, .int x5), (6, .int x6), (7, .int x7)] → W p l e rm_X6_isSlip s m args below meth c H locs 0 0 QQ (F0 m 45 ls [.int s0]) := by
        intro x3 x5 x6 x7 s0 H locs ls h hP hD hS hl
        unfold p_X6_isSlip_J45 at h
        refine lv_istore (lv' := [(4, .int s0), (0, .int x0), (1, .int x1), (2, .int x2), (3, .int x3), (5, .int x5), (6, .int x6), (7, .int x7)]) hx hb dX6_isSlip_45 hl (by decide) rfl (fun ls hl => ?_)
        refine lv_iinc (v := x3 + 1) (lv' := [(3, .int (x3 + 1)), (4, .int s0), (0, .int x0), (1, .int x1), (2, .int x2), (5, .int x5), (6, .int x6), (7, .int x7)]) hx hb dX6_isSlip_47 hl (k := 4) rfl (by rfl) (by decide) rfl (fun ls hl => ?_)
        exact J50 (x3 + 1) s0 x5 x6 x7 H locs ls h hP hD hS (lv_sub hl [2, 3, 4, 0, 1, 5, 6, 7] rfl)
      refine lv_iload hx hb dX6_isSlip_14 (lv_at hl 7 rfl) ?_
      refine lv_bipush (v := 7) hx hb dX6_isSlip_16 (by decide) ?_
      refine lv_icmp_ge (tgt := 70) hx hb dX6_isSlip_18 (by decide) (fun c18 => ?_) (fun c18 => ?_)
      · replace h := And.left h c18
        exact hk x3 x4 x5 x6 x7 H locs ls h hP hD hS (lv_sub hl [0, 1, 2, 3, 4] rfl)
      · replace h := And.right h c18
        refine lv_iload hx hb dX6_isSlip_21 (lv_at hl 5 rfl) ?_
        refine lv_bipush (v := 10) hx hb dX6_isSlip_23 (by decide) ?_
        refine my_irem hx hb dX6_isSlip_25 (by decide) ?_
        refine lv_iload hx hb dX6_isSlip_26 (lv_at hl 6 rfl) ?_
        refine lv_bipush (v := 10) hx hb dX6_isSlip_28 (by decide) ?_
        refine my_irem hx hb dX6_isSlip_30 (by decide) ?_
        refine lv_icmp_eq (tgt := 50) hx hb dX6_isSlip_31 (by decide) (fun c31 => ?_) (fun c31 => ?_)
        · replace h := And.left h c31
          exact J50 x3 x4 x5 x6 x7 H locs ls h hP hD hS (lv_sub hl [0, 1, 2, 3, 4, 5, 6, 7] rfl)
        · replace h := And.right h c31
          refine lv_iload_n hx hb dX6_isSlip_34 rfl (lv_at hl 3 rfl) ?_
          refine lv_if_ne (tgt := 43) hx hb dX6_isSlip_35 (by decide) (fun c35 => ?_) (fun c35 => ?_)
          · replace h := And.left h c35
            refine lv_iload hx hb dX6_isSlip_43 (lv_at hl 4 rfl) ?_
            exact J45 x3 x5 x6 x7 x4 H locs ls h hP hD hS (lv_sub hl [0, 1, 2, 3, 5, 6, 7] rfl)
          · replace h := And.right h c35
            refine lv_iload hx hb dX6_isSlip_38 (lv_at hl 7 rfl) ?_
            refine lv_goto (tgt := 45) hx hb dX6_isSlip_40 (by decide) ?_
            exact J45 x3 x5 x6 x7 x7 H locs ls h hP hD hS (lv_sub hl [0, 1, 2, 3, 5, 6, 7] rfl)
  generalize hlo : ([] : List Loc) = locs at hS ⊢
  obtain ⟨H, hH⟩ : ∃ z, z = s.heap := ⟨_, rfl⟩
  rw [show W p l e rm_X6_isSlip s m args below meth c s.heap = W p l e rm_X6_isSlip s m args below meth c H by rw [hH]]
  replace hP : va_P (dC, dI) vwCl [] H := by rw [hH]; exact hP
  replace hS : va_S A s.heap H locs := by rw [hH]; exact hS
  clear hH hlo
  refine lv_iconst (v := 0) hx hb dX6_isSlip_0 (by decide) ?_
  refine lv_istore_n (lv' := [(3, .int 0), (0, .int x0), (1, .int x1), (2, .int x2)]) hx hb dX6_isSlip_1 rfl hl (by decide) rfl (fun ls hl => ?_)
  refine lv_iconst (v := 0) hx hb dX6_isSlip_2 (by decide) ?_
  refine lv_istore (lv' := [(4, .int 0), (3, .int 0), (0, .int x0), (1, .int x1), (2, .int x2)]) hx hb dX6_isSlip_3 hl (by decide) rfl (fun ls hl => ?_)
  refine lv_iload_n hx hb dX6_isSlip_5 rfl (lv_at hl 3 rfl) ?_
  refine lv_istore (lv' := [(5, .int x1), (4, .int 0), (3, .int 0), (0, .int x0), (1, .int x1), (2, .int x2)]) hx hb dX6_isSlip_6 hl (by decide) rfl (fun ls hl => ?_)
  refine lv_iload_n hx hb dX6_isSlip_8 rfl (lv_at hl 5 rfl) ?_
  refine lv_istore (lv' := [(6, .int x2), (5, .int x1), (4, .int 0), (3, .int 0), (0, .int x0), (1, .int x1), (2, .int x2)]) hx hb dX6_isSlip_9 hl (by decide) rfl (fun ls hl => ?_)
  refine lv_iconst (v := 0) hx hb dX6_isSlip_11 (by decide) ?_
  refine lv_istore (lv' := [(7, .int 0), (6, .int x2), (5, .int x1), (4, .int 0), (3, .int 0), (0, .int x0), (1, .int x1), (2, .int x2)]) hx hb dX6_isSlip_12 hl (by decide) rfl (fun ls hl => ?_)
  obtain ⟨n14, h⟩ := h
  refine L14 x0 x1 x2 _ n14 0 0 x1 x2 0 H locs ls h hP hD hS (lv_sub hl [5, 6, 7, 4, 3, 2, 1, 0] rfl) (fun x3_70 x4_70 x5_70 x6_70 x7_70 H locs ls h hP hD hS hl => ?_)
  refine lv_iload_n hx hb dX6_isSlip_70 rfl (lv_at hl 0 rfl) ?_
  refine lv_if_ne (tgt := 85) hx hb dX6_isSlip_71 (by decide) (fun c71 => ?_) (fun c71 => ?_)
  · replace h := And.left h c71
    refine lv_iload_n hx hb dX6_isSlip_85 rfl (lv_at hl 3 rfl) ?_
    refine lv_iconst (v := 2) hx hb dX6_isSlip_86 (by decide) ?_
    refine lv_icmp_eq (tgt := 92) hx hb dX6_isSlip_87 (by decide) (fun c87 => ?_) (fun c87 => ?_)
    · replace h := And.left h c87
      refine lv_iconst (v := 1) hx hb dX6_isSlip_92 (by decide) ?_
      refine lv_istore (lv' := [(7, .int 1), (0, .int x0), (1, .int x1), (2, .int x2), (3, .int x3_70), (4, .int x4_70)]) hx hb dX6_isSlip_93 hl (by decide) rfl (fun ls hl => ?_)
      refine lv_iconst (v := 0) hx hb dX6_isSlip_95 (by decide) ?_
      refine lv_istore (lv' := [(8, .int 0), (7, .int 1), (0, .int x0), (1, .int x1), (2, .int x2), (3, .int x3_70), (4, .int x4_70)]) hx hb dX6_isSlip_96 hl (by decide) rfl (fun ls hl => ?_)
      obtain ⟨n98, h⟩ := h
      refine L98 x1 x2 x4_70 _ n98 1 0 H locs ls h hP hD hS (lv_sub hl [3, 4, 6, 1, 0] rfl) (fun x7_118 x8_118 H locs ls h hP hD hS hl => ?_)
      refine lv_iload_n hx hb dX6_isSlip_118 rfl (lv_at hl 0 rfl) ?_
      refine lv_iload hx hb dX6_isSlip_119 (lv_at hl 2 rfl) ?_
      obtain ⟨z121, h⟩ := h
      refine lv_idiv hx hb dX6_isSlip_121 z121 ?_
      refine lv_bipush (v := 10) hx hb dX6_isSlip_122 (by decide) ?_
      refine my_irem hx hb dX6_isSlip_124 (by decide) ?_
      refine lv_iload_n hx hb dX6_isSlip_125 rfl (lv_at hl 1 rfl) ?_
      refine lv_iload hx hb dX6_isSlip_126 (lv_at hl 2 rfl) ?_
      obtain ⟨z128, h⟩ := h
      refine lv_idiv hx hb dX6_isSlip_128 z128 ?_
      refine lv_bipush (v := 10) hx hb dX6_isSlip_129 (by decide) ?_
      refine lv_idiv hx hb dX6_isSlip_131 (by decide) ?_
      refine lv_bipush (v := 10) hx hb dX6_isSlip_132 (by decide) ?_
      refine my_irem hx hb dX6_isSlip_134 (by decide) ?_
      refine lv_icmp_ne (tgt := 162) hx hb dX6_isSlip_135 (by decide) (fun c135 => ?_) (fun c135 => ?_)
      · replace h := And.left h c135
        exact J162  H locs ls h hP hD hS (lv_sub hl [] rfl)
      · replace h := And.right h c135
        refine lv_iload_n hx hb dX6_isSlip_138 rfl (lv_at hl 0 rfl) ?_
        refine lv_iload hx hb dX6_isSlip_139 (lv_at hl 2 rfl) ?_
        obtain ⟨z141, h⟩ := h
        refine lv_idiv hx hb dX6_isSlip_141 z141 ?_
        refine lv_bipush (v := 10) hx hb dX6_isSlip_142 (by decide) ?_
        refine lv_idiv hx hb dX6_isSlip_144 (by decide) ?_
        refine lv_bipush (v := 10) hx hb dX6_isSlip_145 (by decide) ?_
        refine my_irem hx hb dX6_isSlip_147 (by decide) ?_
        refine lv_iload_n hx hb dX6_isSlip_148 rfl (lv_at hl 1 rfl) ?_
        refine lv_iload hx hb dX6_isSlip_149 (lv_at hl 2 rfl) ?_
        obtain ⟨z151, h⟩ := h
        refine lv_idiv hx hb dX6_isSlip_151 z151 ?_
        refine lv_bipush (v := 10) hx hb dX6_isSlip_152 (by decide) ?_
        refine my_irem hx hb dX6_isSlip_154 (by decide) ?_
        refine lv_icmp_ne (tgt := 162) hx hb dX6_isSlip_155 (by decide) (fun c155 => ?_) (fun c155 => ?_)
        · replace h := And.left h c155
          exact J162  H locs ls h hP hD hS (lv_sub hl [] rfl)
        · replace h := And.right h c155
          refine lv_iconst (v := 1) hx hb dX6_isSlip_158 (by decide) ?_
          refine lv_goto (tgt := 163) hx hb dX6_isSlip_159 (by decide) ?_
          exact J163 1 H locs ls h hP hD hS (lv_sub hl [] rfl)
    · replace h := And.right h c87
      refine lv_iconst (v := 0) hx hb dX6_isSlip_90 (by decide) ?_
      obtain ⟨zr91, h⟩ := h
      exact RET 0 H locs ls 91 dX6_isSlip_91 zr91 h hP hD hS
  · replace h := And.right h c71
    refine lv_iload_n hx hb dX6_isSlip_74 rfl (lv_at hl 3 rfl) ?_
    refine lv_iconst (v := 1) hx hb dX6_isSlip_75 (by decide) ?_
    refine lv_icmp_ne (tgt := 83) hx hb dX6_isSlip_76 (by decide) (fun c76 => ?_) (fun c76 => ?_)
    · replace h := And.left h c76
      refine lv_iconst (v := 0) hx hb dX6_isSlip_83 (by decide) ?_
      exact J84 0 H locs ls h hP hD hS (lv_sub hl [] rfl)
    · replace h := And.right h c76
      refine lv_iconst (v := 1) hx hb dX6_isSlip_79 (by decide) ?_
      refine lv_goto (tgt := 84) hx hb dX6_isSlip_80 (by decide) ?_
      exact J84 1 H locs ls h hP hD hS (lv_sub hl [] rfl)
abbrev rm_X6_looks : Room := { frames := 1, cells := 0, slots := 0, locals := 28 }
theorem q_X6_looks : yX6_looks.cls = RX6 ∧ yX6_looks.cls ≠ "java/lang/invoke/MethodHandle" ∧ yX6_looks.cls ≠ "java/lang/invoke/VarHandle" ∧ (parseMethodDescriptor yX6_looks.desc).map (fun d => d.parameters.length) = some 2 := by decide +kernel
set_option maxHeartbeats 4000000 in
set_option maxRecDepth 100000 in
theorem c_X6_looks (l : Launch) (dC : Nat → ClassId) (dI : Nat → Nat → Nat) (cy : ClassId) (h_this : Nat) (h_paperAmount : Nat) (h_paperBatch : Nat) (h_toldSum : Nat) (sz : Nat) (g_this_0 g_this_1 g_this_2 g_this_3 g_this_4 g_this_5 g_this_6 g_this_7 g_this_8 g_this_9 g_this_10 g_this_11 g_this_12 g_this_13 g_this_14 g_this_15 g_this_16 g_this_17 g_this_18 g_this_19 g_this_21 g_this_24 g_this_25 g_this_26 : Value) (f_papers : Int32) (f_slipKind : Int32) (f_slipPaper : Int32) (f_slipAmount : Int32) (a_paperAmount : Nat → Int32) (a_paperBatch : Nat → Int32) (a_toldSum : Nat → Int32) (x1 : Int32) (x2 : Int32) (Q : Int32 → Int32 → Int32 → Int32 → Prop) (h : p_X6_looks f_papers f_slipKind f_slipPaper f_slipAmount a_paperAmount a_paperBatch a_toldSum x1 x2 Q) : Met l yX6_looks wsX6_looks rm_X6_looks (va_Pc [.ref h_this, .int x1, .int x2] (fun U => U.heap.size = sz ∧ va_P (dC, dI) vwCl [(h_this, .inr (6, [g_this_0, g_this_1, g_this_2, g_this_3, g_this_4, g_this_5, g_this_6, g_this_7, g_this_8, g_this_9, g_this_10, g_this_11, g_this_12, g_this_13, g_this_14, g_this_15, g_this_16, g_this_17, g_this_18, g_this_19, .ref h_toldSum, g_this_21, .ref h_paperBatch, .ref h_paperAmount, g_this_24, g_this_25, g_this_26, .int f_papers, .int f_slipKind, .int f_slipPaper, .int f_slipAmount])), (h_paperAmount, .inl (cy, 100, .inl a_paperAmount)), (h_paperBatch, .inl (cy, 100, .inl a_paperBatch)), (h_toldSum, .inl (cy, 20, .inl a_toldSum))] U.heap ∧ va_K (dC, dI) vwCl [(cy, .int)] U ∧ va_D (fun _ => True) [(h_this, .inr (6, [g_this_0, g_this_1, g_this_2, g_this_3, g_this_4, g_this_5, g_this_6, g_this_7, g_this_8, g_this_9, g_this_10, g_this_11, g_this_12, g_this_13, g_this_14, g_this_15, g_this_16, g_this_17, g_this_18, g_this_19, .ref h_toldSum, g_this_21, .ref h_paperBatch, .ref h_paperAmount, g_this_24, g_this_25, g_this_26, .int f_papers, .int f_slipKind, .int f_slipPaper, .int f_slipAmount])), (h_paperAmount, .inl (cy, 100, .inl a_paperAmount)), (h_paperBatch, .inl (cy, 100, .inl a_paperBatch)), (h_toldSum, .inl (cy, 20, .inl a_toldSum))])) (va_Qi (fun (r : Int32) (u : Int32 × Int32 × Int32) => Q r u.1 u.2.1 u.2.2) (fun (u : Int32 × Int32 × Int32) (t : State) => va_P (dC, dI) vwCl [(h_this, .inr (6, [g_this_0, g_this_1, g_this_2, g_this_3, g_this_4, g_this_5, g_this_6, g_this_7, g_this_8, g_this_9, g_this_10, g_this_11, g_this_12, g_this_13, g_this_14, g_this_15, g_this_16, g_this_17, g_this_18, g_this_19, .ref h_toldSum, g_this_21, .ref h_paperBatch, .ref h_paperAmount, g_this_24, g_this_25, g_this_26, .int f_papers, .int (u.1), .int (u.2.1), .int (u.2.2)])), (h_paperAmount, .inl (cy, 100, .inl a_paperAmount)), (h_paperBatch, .inl (cy, 100, .inl a_paperBatch)), (h_toldSum, .inl (cy, 20, .inl a_toldSum))] t.heap ∧ va_K (dC, dI) vwCl [(cy, .int)] t ∧ va_D (va_A [(h_this, .inr (6, [g_this_0, g_this_1, g_this_2, g_this_3, g_this_4, g_this_5, g_this_6, g_this_7, g_this_8, g_this_9, g_this_10, g_this_11, g_this_12, g_this_13, g_this_14, g_this_15, g_this_16, g_this_17, g_this_18, g_this_19, .ref h_toldSum, g_this_21, .ref h_paperBatch, .ref h_paperAmount, g_this_24, g_this_25, g_this_26, .int f_papers, .int f_slipKind, .int f_slipPaper, .int f_slipAmount])), (h_paperAmount, .inl (cy, 100, .inl a_paperAmount)), (h_paperBatch, .inl (cy, 100, .inl a_paperBatch)), (h_toldSum, .inl (cy, 20, .inl a_toldSum))] sz) [(h_this, .inr (6, [g_this_0, g_this_1, g_this_2, g_this_3, g_this_4, g_this_5, g_this_6, g_this_7, g_this_8, g_this_9, g_this_10, g_this_11, g_this_12, g_this_13, g_this_14, g_this_15, g_this_16, g_this_17, g_this_18, g_this_19, .ref h_toldSum, g_this_21, .ref h_paperBatch, .ref h_paperAmount, g_this_24, g_this_25, g_this_26, .int f_papers, .int (u.1), .int (u.2.1), .int (u.2.2)])), (h_paperAmount, .inl (cy, 100, .inl a_paperAmount)), (h_paperBatch, .inl (cy, 100, .inl a_paperBatch)), (h_toldSum, .inl (cy, 20, .inl a_toldSum))]) (va_A [(h_this, .inr (6, [g_this_0, g_this_1, g_this_2, g_this_3, g_this_4, g_this_5, g_this_6, g_this_7, g_this_8, g_this_9, g_this_10, g_this_11, g_this_12, g_this_13, g_this_14, g_this_15, g_this_16, g_this_17, g_this_18, g_this_19, .ref h_toldSum, g_this_21, .ref h_paperBatch, .ref h_paperAmount, g_this_24, g_this_25, g_this_26, .int f_papers, .int f_slipKind, .int f_slipPaper, .int f_slipAmount])), (h_paperAmount, .inl (cy, 100, .inl a_paperAmount)), (h_paperBatch, .inl (cy, 100, .inl a_paperBatch)), (h_toldSum, .inl (cy, 20, .inl a_toldSum))] sz)) 0 0 (va_A [(h_this, .inr (6, [g_this_0, g_this_1, g_this_2, g_this_3, g_this_4, g_this_5, g_this_6, g_this_7, g_this_8, g_this_9, g_this_10, g_this_11, g_this_12, g_this_13, g_this_14, g_this_15, g_this_16, g_this_17, g_this_18, g_this_19, .ref h_toldSum, g_this_21, .ref h_paperBatch, .ref h_paperAmount, g_this_24, g_this_25, g_this_26, .int f_papers, .int f_slipKind, .int f_slipPaper, .int f_slipAmount])), (h_paperAmount, .inl (cy, 100, .inl a_paperAmount)), (h_paperBatch, .inl (cy, 100, .inl a_paperBatch)), (h_toldSum, .inl (cy, 20, .inl a_toldSum))] sz) := by
  refine Met.ofW (cc := cX6_looks) (maxL := 11) (ret := (some .int)) (by decide) rfl ?_
  intro p e s m args below meth c s₁ B hml hv
  obtain ⟨hargs, hsz, hP, hK, hD0⟩ := hv
  have hx := B.exec
  have hb := B.bytes
  have hr := B.returns
  have hts := atoms_spec (ws := wsX6_looks) B.pre
  have hown : s.vm.findClass RX6 = some m.cls := findClass_of_methodNamed B.named
  have hlocks := B.notSynchronized
  subst hsz
  have hD := hD0.self (sz := s.heap.size)
  generalize hAe : va_A [(h_this, .inr (6, [g_this_0, g_this_1, g_this_2, g_this_3, g_this_4, g_this_5, g_this_6, g_this_7, g_this_8, g_this_9, g_this_10, g_this_11, g_this_12, g_this_13, g_this_14, g_this_15, g_this_16, g_this_17, g_this_18, g_this_19, .ref h_toldSum, g_this_21, .ref h_paperBatch, .ref h_paperAmount, g_this_24, g_this_25, g_this_26, .int f_papers, .int f_slipKind, .int f_slipPaper, .int f_slipAmount])), (h_paperAmount, .inl (cy, 100, .inl a_paperAmount)), (h_paperBatch, .inl (cy, 100, .inl a_paperBatch)), (h_toldSum, .inl (cy, 20, .inl a_toldSum))] s.heap.size = A at hD ⊢
  have hA : ∀ q : Nat, s.heap.size ≤ q → A q := fun q h => by rw [← hAe]; exact Or.inr h
  have hS : va_S A s.heap s.heap [] := va_S.rf
  have in_X6 : ∀ w ∈ u_ws RX6 TX6 31, w ∈ wsX6_looks := by decide +kernel
  have k_43 := hts (.fieldLink RX6 43 "ChequeDeskModel" "paperBatch" "[I") (by decide +kernel)
  have k_46 := hts (.fieldLink RX6 46 "ChequeDeskModel" "paperAmount" "[I") (by decide +kernel)
  have k_154 := hts (.fieldLink RX6 154 "ChequeDeskModel" "papers" "I") (by decide +kernel)
  have k_176 := hts (.fieldLink RX6 176 "ChequeDeskModel" "slipKind" "I") (by decide +kernel)
  have k_179 := hts (.fieldLink RX6 179 "ChequeDeskModel" "slipPaper" "I") (by decide +kernel)
  have k_182 := hts (.fieldLink RX6 182 "ChequeDeskModel" "slipAmount" "I") (by decide +kernel)
  have hl := lv_entry ([.ref h_this, .int x1, .int x2]) (n := 11) (Nat.le_of_ble_eq_true rfl)
  rw [show entryFrame m args 11 = entryFrame m ([.ref h_this, .int x1, .int x2] : List Value).toArray 11 by rw [hargs], lg_entry_eq]
  generalize (lg_sl ([.ref h_this, .int x1, .int x2]) ++ List.replicate (11 - (lg_sl ([.ref h_this, .int x1, .int x2])).length) Slot.unset).toArray = ls at hl ⊢
  have hl : lv_has ls 11 [(0, .ref h_this), (1, .int x1), (2, .int x2)] := hl
  have hP : va_P (dC, dI) vwCl [(h_this, .inr (6, [g_this_0, g_this_1, g_this_2, g_this_3, g_this_4, g_this_5, g_this_6, g_this_7, g_this_8, g_this_9, g_this_10, g_this_11, g_this_12, g_this_13, g_this_14, g_this_15, g_this_16, g_this_17, g_this_18, g_this_19, .ref h_toldSum, g_this_21, .ref h_paperBatch, .ref h_paperAmount, g_this_24, g_this_25, g_this_26, .int f_papers, .int f_slipKind, .int f_slipPaper, .int f_slipAmount])), (h_paperAmount, .inl (cy, 100, .inl a_paperAmount)), (h_paperBatch, .inl (cy, 100, .inl a_paperBatch)), (h_toldSum, .inl (cy, 20, .inl a_toldSum))] s.heap := hP
  change W p l e rm_X6_looks s m args below meth c s.heap [] 0 0 _ _
  generalize hQQ : MQ below _ _ _ _ _ _ = QQ
  have RET : ∀ (r : Int32) (f_slipKind : Int32) (f_slipPaper : Int32) (f_slipAmount : Int32) (H : Heap) (locs : List Loc) (ls : Array Slot) (pc : Nat), decode cX6_looks pc = .ok (.ireturn, 1) → Q r f_slipKind f_slipPaper f_slipAmount → va_P (dC, dI) vwCl [(h_this, .inr (6, [g_this_0, g_this_1, g_this_2, g_this_3, g_this_4, g_this_5, g_this_6, g_this_7, g_this_8, g_this_9, g_this_10, g_this_11, g_this_12, g_this_13, g_this_14, g_this_15, g_this_16, g_this_17, g_this_18, g_this_19, .ref h_toldSum, g_this_21, .ref h_paperBatch, .ref h_paperAmount, g_this_24, g_this_25, g_this_26, .int f_papers, .int f_slipKind, .int f_slipPaper, .int f_slipAmount])), (h_paperAmount, .inl (cy, 100, .inl a_paperAmount)), (h_paperBatch, .inl (cy, 100, .inl a_paperBatch)), (h_toldSum, .inl (cy, 20, .inl a_toldSum))] H → va_D A [(h_this, .inr (6, [g_this_0, g_this_1, g_this_2, g_this_3, g_this_4, g_this_5, g_this_6, g_this_7, g_this_8, g_this_9, g_this_10, g_this_11, g_this_12, g_this_13, g_this_14, g_this_15, g_this_16, g_this_17, g_this_18, g_this_19, .ref h_toldSum, g_this_21, .ref h_paperBatch, .ref h_paperAmount, g_this_24, g_this_25, g_this_26, .int f_papers, .int f_slipKind, .int f_slipPaper, .int f_slipAmount])), (h_paperAmount, .inl (cy, 100, .inl a_paperAmount)), (h_paperBatch, .inl (cy, 100, .inl a_paperBatch)), (h_toldSum, .inl (cy, 20, .inl a_toldSum))] → va_S A s.heap H locs → W p l e rm_X6_looks s m args below meth c H locs 0 0 QQ (F0 m pc ls [.int r]) := by
    intro r f_slipKind f_slipPaper f_slipAmount H locs ls pc hdg hq hP hD hS
    rw [← hQQ]
    exact W.iret (v := r) hx hb hr (fun t ht hW => ⟨⟨r, (f_slipKind, f_slipPaper, f_slipAmount), rfl, hq, by rw [ht]; exact hP, va_K.moved hW.alike hK, hD⟩, hS.F ht⟩) hS.2.2 hdg
  clear hQQ
  unfold p_X6_looks at h
  have J195 : ∀ (x5 : Int32) (f_slipKind : Int32) (f_slipPaper : Int32) (f_slipAmount : Int32) (H : Heap) (locs : List Loc) (ls : Array Slot), p_X6_looks_J195 f_slipKind f_slipPaper f_slipAmount Q x5 → va_P (dC, dI) vwCl [(h_this, .inr (6, [g_this_0, g_this_1, g_this_2, g_this_3, g_this_4, g_this_5, g_this_6, g_this_7, g_this_8, g_this_9, g_this_10, g_this_11, g_this_12, g_this_13, g_this_14, g_this_15, g_this_16, g_this_17, g_this_18, g_this_19, .ref h_toldSum, g_this_21, .ref h_paperBatch, .ref h_paperAmount, g_this_24, g_this_25, g_this_26, .int f_papers, .int f_slipKind, .int f_slipPaper, .int f_slipAmount])), (h_paperAmount, .inl (cy, 100, .inl a_paperAmount)), (h_paperBatch, .inl (cy, 100, .inl a_paperBatch)), (h_toldSum, .inl (cy, 20, .inl a_toldSum))] H → va_D A [(h_this, .inr (6, [g_this_0, g_this_1, g_this_2, g_this_3, g_this_4, g_this_5, g_this_6, g_this_7, g_this_8, g_this_9, g_this_10, g_this_11, g_this_12, g_this_13, g_this_14, g_this_15, g_this_16, g_this_17, g_this_18, g_this_19, .ref h_toldSum, g_this_21, .ref h_paperBatch, .ref h_paperAmount, g_this_24, g_this_25, g_this_26, .int f_papers, .int f_slipKind, .int f_slipPaper, .int f_slipAmount])), (h_paperAmount, .inl (cy, 100, .inl a_paperAmount)), (h_paperBatch, .inl (cy, 100, .inl a_paperBatch)), (h_toldSum, .inl (cy, 20, .inl a_toldSum))] → va_S A s.heap H locs → lv_has ls 11 [(5, .int x5)] → W p l e rm_X6_looks s m args below meth c H locs 0 0 QQ (F0 m 195 ls []) := by
    intro x5 f_slipKind f_slipPaper f_slipAmount H locs ls h hP hD hS hl
    unfold p_X6_looks_J195 at h
    refine lv_iload hx hb dX6_looks_195 (lv_at hl 0 rfl) ?_
    exact RET x5 f_slipKind f_slipPaper f_slipAmount H locs ls 197 dX6_looks_197 h hP hD hS
  have L20 : ∀ (x1 : Int32) (x2 : Int32) (x3 : Int64) (K20 : Int32 → Int32 → Int32 → Int32 → Int32 → Prop) (n : Nat) (x5 : Int32) (x6 : Int32) (f_slipKind : Int32) (f_slipPaper : Int32) (f_slipAmount : Int32) (H : Heap) (locs : List Loc) (ls : Array Slot), wl5 (p_X6_looks_B20 f_papers a_paperAmount a_paperBatch x1 x2 x3 Q K20) n x5 x6 f_slipKind f_slipPaper f_slipAmount → va_P (dC, dI) vwCl [(h_this, .inr (6, [g_this_0, g_this_1, g_this_2, g_this_3, g_this_4, g_this_5, g_this_6, g_this_7, g_this_8, g_this_9, g_this_10, g_this_11, g_this_12, g_this_13, g_this_14, g_this_15, g_this_16, g_this_17, g_this_18, g_this_19, .ref h_toldSum, g_this_21, .ref h_paperBatch, .ref h_paperAmount, g_this_24, g_this_25, g_this_26, .int f_papers, .int f_slipKind, .int f_slipPaper, .int f_slipAmount])), (h_paperAmount, .inl (cy, 100, .inl a_paperAmount)), (h_paperBatch, .inl (cy, 100, .inl a_paperBatch)), (h_toldSum, .inl (cy, 20, .inl a_toldSum))] H → va_D A [(h_this, .inr (6, [g_this_0, g_this_1, g_this_2, g_this_3, g_this_4, g_this_5, g_this_6, g_this_7, g_this_8, g_this_9, g_this_10, g_this_11, g_this_12, g_this_13, g_this_14, g_this_15, g_this_16, g_this_17, g_this_18, g_this_19, .ref h_toldSum, g_this_21, .ref h_paperBatch, .ref h_paperAmount, g_this_24, g_this_25, g_this_26, .int f_papers, .int f_slipKind, .int f_slipPaper, .int f_slipAmount])), (h_paperAmount, .inl (cy, 100, .inl a_paperAmount)), (h_paperBatch, .inl (cy, 100, .inl a_paperBatch)), (h_toldSum, .inl (cy, 20, .inl a_toldSum))] → va_S A s.heap H locs → lv_has ls 11 [(0, .ref h_this), (1, .int x1), (2, .int x2), (3, .long x3), (5, .int x5), (6, .int x6)] → (∀ (x5 : Int32) (x6 : Int32) (f_slipKind : Int32) (f_slipPaper : Int32) (f_slipAmount : Int32) (H : Heap) (locs : List Loc) (ls : Array Slot), K20 x5 x6 f_slipKind f_slipPaper f_slipAmount → va_P (dC, dI) vwCl [(h_this, .inr (6, [g_this_0, g_this_1, g_this_2, g_this_3, g_this_4, g_this_5, g_this_6, g_this_7, g_this_8, g_this_9, g_this_10, g_this_11, g_this_12, g_this_13, g_this_14, g_this_15, g_this_16, g_this_17, g_this_18, g_this_19, .ref h_toldSum, g_this_21, .ref h_paperBatch, .ref h_paperAmount, g_this_24, g_this_25, g_this_26, .int f_papers, .int f_slipKind, .int f_slipPaper, .int f_slipAmount])), (h_paperAmount, .inl (cy, 100, .inl a_paperAmount)), (h_paperBatch, .inl (cy, 100, .inl a_paperBatch)), (h_toldSum, .inl (cy, 20, .inl a_toldSum))] H → va_D A [(h_this, .inr (6, [g_this_0, g_this_1, g_this_2, g_this_3, g_this_4, g_this_5, g_this_6, g_this_7, g_this_8, g_this_9, g_this_10, g_this_11, g_this_12, g_this_13, g_this_14, g_this_15, g_this_16, g_this_17, g_this_18, g_this_19, .ref h_toldSum, g_this_21, .ref h_paperBatch, .ref h_paperAmount, g_this_24, g_this_25, g_this_26, .int f_papers, .int f_slipKind, .int f_slipPaper, .int f_slipAmount])), (h_paperAmount, .inl (cy, 100, .inl a_paperAmount)), (h_paperBatch, .inl (cy, 100, .inl a_paperBatch)), (h_toldSum, .inl (cy, 20, .inl a_toldSum))] → va_S A s.heap H locs → lv_has ls 11 [(0, .ref h_this), (3, .long x3), (5, .int x5)] → W p l e rm_X6_looks s m args below meth c H locs 0 0 QQ (F0 m 181 ls [])) → W p l e rm_X6_looks s m args below meth c H locs 0 0 QQ (F0 m 20 ls []) := by
    intro x1 x2 x3 K20 n
    induction n with
    | zero => intro x5 x6 f_slipKind f_slipPaper f_slipAmount H locs ls h; exact False.elim h
    | succ n ih =>
      intro x5 x6 f_slipKind f_slipPaper f_slipAmount H locs ls h hP hD hS hl hk
      have ih := fun x5 x6 f_slipKind f_slipPaper f_slipAmount H locs ls h hP hD hS hl => ih x5 x6 f_slipKind f_slipPaper f_slipAmount H locs ls h hP hD hS hl hk
      replace h : p_X6_looks_B20 f_papers a_paperAmount a_paperBatch x1 x2 x3 Q K20 (wl5 (p_X6_looks_B20 f_papers a_paperAmount a_paperBatch x1 x2 x3 Q K20) n) x5 x6 f_slipKind f_slipPaper f_slipAmount := h
      unfold p_X6_looks_B20 at h
      have J175 : ∀ (x5 : Int32) (x6 : Int32) (f_slipKind : Int32) (f_slipPaper : Int32) (f_slipAmount : Int32) (H : Heap) (locs : List Loc) (ls : Array Slot), p_X6_looks_J175 f_slipKind f_slipPaper f_slipAmount (wl5 (p_X6_looks_B20 f_papers a_paperAmount a_paperBatch x1 x2 x3 Q K20) n) x5 x6 → va_P (dC, dI) vwCl [(h_this, .inr (6, [g_this_0, g_this_1, g_this_2, g_this_3, g_this_4, g_this_5, g_this_6, g_this_7, g_this_8, g_this_9, g_this_10, g_this_11, g_this_12, g_this_13, g_this_14, g_this_15, g_this_16, g_this_17, g_this_18, g_this_19, .ref h_toldSum, g_this_21, .ref h_paperBatch, .ref h_paperAmount, g_this_24, g_this_25, g_this_26, .int f_papers, .int f_slipKind, .int f_slipPaper, .int f_slipAmount])), (h_paperAmount, .inl (cy, 100, .inl a_paperAmount)), (h_paperBatch, .inl (cy, 100, .inl a_paperBatch)), (h_toldSum, .inl (cy, 20, .inl a_toldSum))] H → va_D A [(h_this, .inr (6, [g_this_0, g_this_1, g_this_2, g_this_3, g_this_4, g_this_5, g_this_6, g_this_7, g_this_8, g_this_9, g_this_10, g_this_11, g_this_12, g_this_13, g_this_14, g_this_15, g_this_16, g_this_17, g_this_18, g_this_19, .ref h_toldSum, g_this_21, .ref h_paperBatch, .ref h_paperAmount, g_this_24, g_this_25, g_this_26, .int f_papers, .int f_slipKind, .int f_slipPaper, .int f_slipAmount])), (h_paperAmount, .inl (cy, 100, .inl a_paperAmount)), (h_paperBatch, .inl (cy, 100, .inl a_paperBatch)), (h_toldSum, .inl (cy, 20, .inl a_toldSum))] → va_S A s.heap H locs → lv_has ls 11 [(0, .ref h_this), (1, .int x1), (2, .int x2), (3, .long x3), (5, .int x5), (6, .int x6)] → W p l e rm_X6_looks s m args below meth c H locs 0 0 QQ (F0 m 175 ls []) := by
        intro x5 x6 f_slipKind f_slipPaper f_slipAmount H locs ls h hP hD hS hl
        unfold p_X6_looks_J175 at h
        refine lv_iinc (v := x6 + 1) (lv' := [(6, .int (x6 + 1)), (0, .ref h_this), (1, .int x1), (2, .int x2), (3, .long x3), (5, .int x5)]) hx hb dX6_looks_175 hl (k := 5) rfl (by rfl) (by decide) rfl (fun ls hl => ?_)
        refine lv_goto (tgt := 20) hx hb dX6_looks_178 (by decide) ?_
        exact ih x5 (x6 + 1) f_slipKind f_slipPaper f_slipAmount H locs ls h hP hD hS (lv_sub hl [1, 2, 3, 4, 5, 0] rfl)
      have L46 : ∀ (x1 : Int32) (x2 : Int32) (x3 : Int64) (x6 : Int32) (K46 : Int32 → Int32 → Int32 → Int32 → Int32 → Prop) (n : Nat) (x5 : Int32) (x7 : Int32) (f_slipKind : Int32) (f_slipPaper : Int32) (f_slipAmount : Int32) (H : Heap) (locs : List Loc) (ls : Array Slot), wl5 (p_X6_looks_B46 a_paperAmount x2 x3 x6 Q K46) n x5 x7 f_slipKind f_slipPaper f_slipAmount → va_P (dC, dI) vwCl [(h_this, .inr (6, [g_this_0, g_this_1, g_this_2, g_this_3, g_this_4, g_this_5, g_this_6, g_this_7, g_this_8, g_this_9, g_this_10, g_this_11, g_this_12, g_this_13, g_this_14, g_this_15, g_this_16, g_this_17, g_this_18, g_this_19, .ref h_toldSum, g_this_21, .ref h_paperBatch, .ref h_paperAmount, g_this_24, g_this_25, g_this_26, .int f_papers, .int f_slipKind, .int f_slipPaper, .int f_slipAmount])), (h_paperAmount, .inl (cy, 100, .inl a_paperAmount)), (h_paperBatch, .inl (cy, 100, .inl a_paperBatch)), (h_toldSum, .inl (cy, 20, .inl a_toldSum))] H → va_D A [(h_this, .inr (6, [g_this_0, g_this_1, g_this_2, g_this_3, g_this_4, g_this_5, g_this_6, g_this_7, g_this_8, g_this_9, g_this_10, g_this_11, g_this_12, g_this_13, g_this_14, g_this_15, g_this_16, g_this_17, g_this_18, g_this_19, .ref h_toldSum, g_this_21, .ref h_paperBatch, .ref h_paperAmount, g_this_24, g_this_25, g_this_26, .int f_papers, .int f_slipKind, .int f_slipPaper, .int f_slipAmount])), (h_paperAmount, .inl (cy, 100, .inl a_paperAmount)), (h_paperBatch, .inl (cy, 100, .inl a_paperBatch)), (h_toldSum, .inl (cy, 20, .inl a_toldSum))] → va_S A s.heap H locs → lv_has ls 11 [(0, .ref h_this), (1, .int x1), (2, .int x2), (3, .long x3), (5, .int x5), (6, .int x6), (7, .int x7)] → (∀ (x5 : Int32) (x7 : Int32) (f_slipKind : Int32) (f_slipPaper : Int32) (f_slipAmount : Int32) (H : Heap) (locs : List Loc) (ls : Array Slot), K46 x5 x7 f_slipKind f_slipPaper f_slipAmount → va_P (dC, dI) vwCl [(h_this, .inr (6, [g_this_0, g_this_1, g_this_2, g_this_3, g_this_4, g_this_5, g_this_6, g_this_7, g_this_8, g_this_9, g_this_10, g_this_11, g_this_12, g_this_13, g_this_14, g_this_15, g_this_16, g_this_17, g_this_18, g_this_19, .ref h_toldSum, g_this_21, .ref h_paperBatch, .ref h_paperAmount, g_this_24, g_this_25, g_this_26, .int f_papers, .int f_slipKind, .int f_slipPaper, .int f_slipAmount])), (h_paperAmount, .inl (cy, 100, .inl a_paperAmount)), (h_paperBatch, .inl (cy, 100, .inl a_paperBatch)), (h_toldSum, .inl (cy, 20, .inl a_toldSum))] H → va_D A [(h_this, .inr (6, [g_this_0, g_this_1, g_this_2, g_this_3, g_this_4, g_this_5, g_this_6, g_this_7, g_this_8, g_this_9, g_this_10, g_this_11, g_this_12, g_this_13, g_this_14, g_this_15, g_this_16, g_this_17, g_this_18, g_this_19, .ref h_toldSum, g_this_21, .ref h_paperBatch, .ref h_paperAmount, g_this_24, g_this_25, g_this_26, .int f_papers, .int f_slipKind, .int f_slipPaper, .int f_slipAmount])), (h_paperAmount, .inl (cy, 100, .inl a_paperAmount)), (h_paperBatch, .inl (cy, 100, .inl a_paperBatch)), (h_toldSum, .inl (cy, 20, .inl a_toldSum))] → va_S A s.heap H locs → lv_has ls 11 [(0, .ref h_this), (1, .int x1), (2, .int x2), (3, .long x3), (5, .int x5), (6, .int x6)] → W p l e rm_X6_looks s m args below meth c H locs 0 0 QQ (F0 m 175 ls [])) → W p l e rm_X6_looks s m args below meth c H locs 0 0 QQ (F0 m 46 ls []) := by
        intro x1 x2 x3 x6 K46 n
        induction n with
        | zero => intro x5 x7 f_slipKind f_slipPaper f_slipAmount H locs ls h; exact False.elim h
        | succ n ih =>
          intro x5 x7 f_slipKind f_slipPaper f_slipAmount H locs ls h hP hD hS hl hk
          have ih := fun x5 x7 f_slipKind f_slipPaper f_slipAmount H locs ls h hP hD hS hl => ih x5 x7 f_slipKind f_slipPaper f_slipAmount H locs ls h hP hD hS hl hk
          replace h : p_X6_looks_B46 a_paperAmount x2 x3 x6 Q K46 (wl5 (p_X6_looks_B46 a_paperAmount x2 x3 x6 Q K46) n) x5 x7 f_slipKind f_slipPaper f_slipAmount := h
          unfold p_X6_looks_B46 at h
          have J169 : ∀ (x5 : Int32) (x7 : Int32) (f_slipKind : Int32) (f_slipPaper : Int32) (f_slipAmount : Int32) (H : Heap) (locs : List Loc) (ls : Array Slot), p_X6_looks_J169 f_slipKind f_slipPaper f_slipAmount (wl5 (p_X6_looks_B46 a_paperAmount x2 x3 x6 Q K46) n) x5 x7 → va_P (dC, dI) vwCl [(h_this, .inr (6, [g_this_0, g_this_1, g_this_2, g_this_3, g_this_4, g_this_5, g_this_6, g_this_7, g_this_8, g_this_9, g_this_10, g_this_11, g_this_12, g_this_13, g_this_14, g_this_15, g_this_16, g_this_17, g_this_18, g_this_19, .ref h_toldSum, g_this_21, .ref h_paperBatch, .ref h_paperAmount, g_this_24, g_this_25, g_this_26, .int f_papers, .int f_slipKind, .int f_slipPaper, .int f_slipAmount])), (h_paperAmount, .inl (cy, 100, .inl a_paperAmount)), (h_paperBatch, .inl (cy, 100, .inl a_paperBatch)), (h_toldSum, .inl (cy, 20, .inl a_toldSum))] H → va_D A [(h_this, .inr (6, [g_this_0, g_this_1, g_this_2, g_this_3, g_this_4, g_this_5, g_this_6, g_this_7, g_this_8, g_this_9, g_this_10, g_this_11, g_this_12, g_this_13, g_this_14, g_this_15, g_this_16, g_this_17, g_this_18, g_this_19, .ref h_toldSum, g_this_21, .ref h_paperBatch, .ref h_paperAmount, g_this_24, g_this_25, g_this_26, .int f_papers, .int f_slipKind, .int f_slipPaper, .int f_slipAmount])), (h_paperAmount, .inl (cy, 100, .inl a_paperAmount)), (h_paperBatch, .inl (cy, 100, .inl a_paperBatch)), (h_toldSum, .inl (cy, 20, .inl a_toldSum))] → va_S A s.heap H locs → lv_has ls 11 [(0, .ref h_this), (1, .int x1), (2, .int x2), (3, .long x3), (5, .int x5), (6, .int x6), (7, .int x7)] → W p l e rm_X6_looks s m args below meth c H locs 0 0 QQ (F0 m 169 ls []) := by
            intro x5 x7 f_slipKind f_slipPaper f_slipAmount H locs ls h hP hD hS hl
            unfold p_X6_looks_J169 at h
            refine lv_iinc (v := x7 + 1) (lv' := [(7, .int (x7 + 1)), (0, .ref h_this), (1, .int x1), (2, .int x2), (3, .long x3), (5, .int x5), (6, .int x6)]) hx hb dX6_looks_169 hl (k := 6) rfl (by rfl) (by decide) rfl (fun ls hl => ?_)
            refine lv_goto (tgt := 46) hx hb dX6_looks_172 (by decide) ?_
            exact ih x5 (x7 + 1) f_slipKind f_slipPaper f_slipAmount H locs ls h hP hD hS (lv_sub hl [1, 2, 3, 4, 5, 6, 0] rfl)
          have J152 : ∀ (x5 : Int32) (x7 : Int32) (s0 : Int32) (f_slipKind : Int32) (f_slipPaper : Int32) (f_slipAmount : Int32) (H : Heap) (locs : List Loc) (ls : Array Slot), p_X6_looks_J152 f_slipKind f_slipPaper Q (wl5 (p_X6_looks_B46 a_paperAmount x2 x3 x6 Q K46) n) x2 x5 x7 s0 → va_P (dC, dI) vwCl [(h_this, .inr (6, [g_this_0, g_this_1, g_this_2, g_this_3, g_this_4, g_this_5, g_this_6, g_this_7, g_this_8, g_this_9, g_this_10, g_this_11, g_this_12, g_this_13, g_this_14, g_this_15, g_this_16, g_this_17, g_this_18, g_this_19, .ref h_toldSum, g_this_21, .ref h_paperBatch, .ref h_paperAmount, g_this_24, g_this_25, g_this_26, .int f_papers, .int f_slipKind, .int f_slipPaper, .int f_slipAmount])), (h_paperAmount, .inl (cy, 100, .inl a_paperAmount)), (h_paperBatch, .inl (cy, 100, .inl a_paperBatch)), (h_toldSum, .inl (cy, 20, .inl a_toldSum))] H → va_D A [(h_this, .inr (6, [g_this_0, g_this_1, g_this_2, g_this_3, g_this_4, g_this_5, g_this_6, g_this_7, g_this_8, g_this_9, g_this_10, g_this_11, g_this_12, g_this_13, g_this_14, g_this_15, g_this_16, g_this_17, g_this_18, g_this_19, .ref h_toldSum, g_this_21, .ref h_paperBatch, .ref h_paperAmount, g_this_24, g_this_25, g_this_26, .int f_papers, .int f_slipKind, .int f_slipPaper, .int f_slipAmount])), (h_paperAmount, .inl (cy, 100, .inl a_paperAmount)), (h_paperBatch, .inl (cy, 100, .inl a_paperBatch)), (h_toldSum, .inl (cy, 20, .inl a_toldSum))] → va_S A s.heap H locs → lv_has ls 11 [(0, .ref h_this), (1, .int x1), (2, .int x2), (3, .long x3), (5, .int x5), (6, .int x6), (7, .int x7)] → W p l e rm_X6_looks s m args below meth c H locs 0 0 QQ (F0 m 152 ls [.int s0, .ref h_this]) := by
            intro x5 x7 s0 f_slipKind f_slipPaper f_slipAmount H locs ls h hP hD hS hl
            unfold p_X6_looks_J152 at h
            refine va_put (D := (dC, dI)) (ci := 6) (v := .int s0) (ty := .int) (C := RX6) (T := TX6) (N := 31) hx hb hts in_X6 tyX6 tyX6_ok nmX6 hown hK hP hD hS 0 rfl rfl 30 (by decide) k_182 (fun _ h9 => h9) rfl (by decide +kernel) rfl rfl (Nat.le_of_ble_eq_true rfl) dX6_looks_152 (fun H locs hP hD hS => ?_)
            have hP : va_P (dC, dI) vwCl [(h_this, .inr (6, [g_this_0, g_this_1, g_this_2, g_this_3, g_this_4, g_this_5, g_this_6, g_this_7, g_this_8, g_this_9, g_this_10, g_this_11, g_this_12, g_this_13, g_this_14, g_this_15, g_this_16, g_this_17, g_this_18, g_this_19, .ref h_toldSum, g_this_21, .ref h_paperBatch, .ref h_paperAmount, g_this_24, g_this_25, g_this_26, .int f_papers, .int f_slipKind, .int f_slipPaper, .int s0])), (h_paperAmount, .inl (cy, 100, .inl a_paperAmount)), (h_paperBatch, .inl (cy, 100, .inl a_paperBatch)), (h_toldSum, .inl (cy, 20, .inl a_toldSum))] H := hP
            have hD : va_D A [(h_this, .inr (6, [g_this_0, g_this_1, g_this_2, g_this_3, g_this_4, g_this_5, g_this_6, g_this_7, g_this_8, g_this_9, g_this_10, g_this_11, g_this_12, g_this_13, g_this_14, g_this_15, g_this_16, g_this_17, g_this_18, g_this_19, .ref h_toldSum, g_this_21, .ref h_paperBatch, .ref h_paperAmount, g_this_24, g_this_25, g_this_26, .int f_papers, .int f_slipKind, .int f_slipPaper, .int s0])), (h_paperAmount, .inl (cy, 100, .inl a_paperAmount)), (h_paperBatch, .inl (cy, 100, .inl a_paperBatch)), (h_toldSum, .inl (cy, 20, .inl a_toldSum))] := hD
            refine lv_iinc (v := x5 + 1) (lv' := [(5, .int (x5 + 1)), (0, .ref h_this), (1, .int x1), (2, .int x2), (3, .long x3), (6, .int x6), (7, .int x7)]) hx hb dX6_looks_155 hl (k := 4) rfl (by rfl) (by decide) rfl (fun ls hl => ?_)
            refine lv_iload hx hb dX6_looks_158 (lv_at hl 0 rfl) ?_
            refine lv_iload_n hx hb dX6_looks_160 rfl (lv_at hl 3 rfl) ?_
            refine lv_iconst (v := 1) hx hb dX6_looks_161 (by decide) ?_
            refine lv_iadd hx hb dX6_looks_162 ?_
            refine lv_icmp_ne (tgt := 169) hx hb dX6_looks_163 (by decide) (fun c163 => ?_) (fun c163 => ?_)
            · replace h := And.left h c163
              exact J169 (x5 + 1) x7 f_slipKind f_slipPaper s0 H locs ls h hP hD hS (lv_sub hl [1, 2, 3, 4, 0, 5, 6] rfl)
            · replace h := And.right h c163
              refine lv_iload hx hb dX6_looks_166 (lv_at hl 0 rfl) ?_
              exact RET (x5 + 1) f_slipKind f_slipPaper s0 H locs ls 168 dX6_looks_168 h hP hD hS
          have J116 : ∀ (x5 : Int32) (x7 : Int32) (x8 : Int64) (s0 : Int32) (f_slipKind : Int32) (f_slipPaper : Int32) (f_slipAmount : Int32) (H : Heap) (locs : List Loc) (ls : Array Slot), p_X6_looks_J116 f_slipKind f_slipPaper f_slipAmount Q (wl5 (p_X6_looks_B46 a_paperAmount x2 x3 x6 Q K46) n) x2 x5 x6 x7 x8 s0 → va_P (dC, dI) vwCl [(h_this, .inr (6, [g_this_0, g_this_1, g_this_2, g_this_3, g_this_4, g_this_5, g_this_6, g_this_7, g_this_8, g_this_9, g_this_10, g_this_11, g_this_12, g_this_13, g_this_14, g_this_15, g_this_16, g_this_17, g_this_18, g_this_19, .ref h_toldSum, g_this_21, .ref h_paperBatch, .ref h_paperAmount, g_this_24, g_this_25, g_this_26, .int f_papers, .int f_slipKind, .int f_slipPaper, .int f_slipAmount])), (h_paperAmount, .inl (cy, 100, .inl a_paperAmount)), (h_paperBatch, .inl (cy, 100, .inl a_paperBatch)), (h_toldSum, .inl (cy, 20, .inl a_toldSum))] H → va_D A [(h_this, .inr (6, [g_this_0, g_this_1, g_this_2, g_this_3, g_this_4, g_this_5, g_this_6, g_this_7, g_this_8, g_this_9, g_this_10, g_this_11, g_this_12, g_this_13, g_this_14, g_this_15, g_this_16, g_this_17, g_this_18, g_this_19, .ref h_toldSum, g_this_21, .ref h_paperBatch, .ref h_paperAmount, g_this_24, g_this_25, g_this_26, .int f_papers, .int f_slipKind, .int f_slipPaper, .int f_slipAmount])), (h_paperAmount, .inl (cy, 100, .inl a_paperAmount)), (h_paperBatch, .inl (cy, 100, .inl a_paperBatch)), (h_toldSum, .inl (cy, 20, .inl a_toldSum))] → va_S A s.heap H locs → lv_has ls 11 [(0, .ref h_this), (1, .int x1), (2, .int x2), (3, .long x3), (5, .int x5), (6, .int x6), (7, .int x7), (8, .long x8)] → W p l e rm_X6_looks s m args below meth c H locs 0 0 QQ (F0 m 116 ls [.int s0]) := by
            intro x5 x7 x8 s0 f_slipKind f_slipPaper f_slipAmount H locs ls h hP hD hS hl
            unfold p_X6_looks_J116 at h
            refine lv_istore (lv' := [(10, .int s0), (0, .ref h_this), (1, .int x1), (2, .int x2), (3, .long x3), (5, .int x5), (6, .int x6), (7, .int x7), (8, .long x8)]) hx hb dX6_looks_116 hl (by decide) rfl (fun ls hl => ?_)
            refine lv_iload hx hb dX6_looks_118 (lv_at hl 0 rfl) ?_
            refine lv_if_ne (tgt := 126) hx hb dX6_looks_120 (by decide) (fun c120 => ?_) (fun c120 => ?_)
            · replace h := And.left h c120
              refine lv_aload_n hx hb dX6_looks_126 rfl (lv_at hl 1 rfl) ?_
              refine lv_iload hx hb dX6_looks_127 (lv_at hl 7 rfl) ?_
              refine va_put (D := (dC, dI)) (ci := 6) (v := .int x7) (ty := .int) (C := RX6) (T := TX6) (N := 31) hx hb hts in_X6 tyX6 tyX6_ok nmX6 hown hK hP hD hS 0 rfl rfl 28 (by decide) k_176 (fun _ h9 => h9) rfl (by decide +kernel) rfl rfl (Nat.le_of_ble_eq_true rfl) dX6_looks_129 (fun H locs hP hD hS => ?_)
              have hP : va_P (dC, dI) vwCl [(h_this, .inr (6, [g_this_0, g_this_1, g_this_2, g_this_3, g_this_4, g_this_5, g_this_6, g_this_7, g_this_8, g_this_9, g_this_10, g_this_11, g_this_12, g_this_13, g_this_14, g_this_15, g_this_16, g_this_17, g_this_18, g_this_19, .ref h_toldSum, g_this_21, .ref h_paperBatch, .ref h_paperAmount, g_this_24, g_this_25, g_this_26, .int f_papers, .int x7, .int f_slipPaper, .int f_slipAmount])), (h_paperAmount, .inl (cy, 100, .inl a_paperAmount)), (h_paperBatch, .inl (cy, 100, .inl a_paperBatch)), (h_toldSum, .inl (cy, 20, .inl a_toldSum))] H := hP
              have hD : va_D A [(h_this, .inr (6, [g_this_0, g_this_1, g_this_2, g_this_3, g_this_4, g_this_5, g_this_6, g_this_7, g_this_8, g_this_9, g_this_10, g_this_11, g_this_12, g_this_13, g_this_14, g_this_15, g_this_16, g_this_17, g_this_18, g_this_19, .ref h_toldSum, g_this_21, .ref h_paperBatch, .ref h_paperAmount, g_this_24, g_this_25, g_this_26, .int f_papers, .int x7, .int f_slipPaper, .int f_slipAmount])), (h_paperAmount, .inl (cy, 100, .inl a_paperAmount)), (h_paperBatch, .inl (cy, 100, .inl a_paperBatch)), (h_toldSum, .inl (cy, 20, .inl a_toldSum))] := hD
              refine lv_aload_n hx hb dX6_looks_132 rfl (lv_at hl 1 rfl) ?_
              refine lv_iload hx hb dX6_looks_133 (lv_at hl 6 rfl) ?_
              refine va_put (D := (dC, dI)) (ci := 6) (v := .int x6) (ty := .int) (C := RX6) (T := TX6) (N := 31) hx hb hts in_X6 tyX6 tyX6_ok nmX6 hown hK hP hD hS 0 rfl rfl 29 (by decide) k_179 (fun _ h9 => h9) rfl (by decide +kernel) rfl rfl (Nat.le_of_ble_eq_true rfl) dX6_looks_135 (fun H locs hP hD hS => ?_)
              have hP : va_P (dC, dI) vwCl [(h_this, .inr (6, [g_this_0, g_this_1, g_this_2, g_this_3, g_this_4, g_this_5, g_this_6, g_this_7, g_this_8, g_this_9, g_this_10, g_this_11, g_this_12, g_this_13, g_this_14, g_this_15, g_this_16, g_this_17, g_this_18, g_this_19, .ref h_toldSum, g_this_21, .ref h_paperBatch, .ref h_paperAmount, g_this_24, g_this_25, g_this_26, .int f_papers, .int x7, .int x6, .int f_slipAmount])), (h_paperAmount, .inl (cy, 100, .inl a_paperAmount)), (h_paperBatch, .inl (cy, 100, .inl a_paperBatch)), (h_toldSum, .inl (cy, 20, .inl a_toldSum))] H := hP
              have hD : va_D A [(h_this, .inr (6, [g_this_0, g_this_1, g_this_2, g_this_3, g_this_4, g_this_5, g_this_6, g_this_7, g_this_8, g_this_9, g_this_10, g_this_11, g_this_12, g_this_13, g_this_14, g_this_15, g_this_16, g_this_17, g_this_18, g_this_19, .ref h_toldSum, g_this_21, .ref h_paperBatch, .ref h_paperAmount, g_this_24, g_this_25, g_this_26, .int f_papers, .int x7, .int x6, .int f_slipAmount])), (h_paperAmount, .inl (cy, 100, .inl a_paperAmount)), (h_paperBatch, .inl (cy, 100, .inl a_paperBatch)), (h_toldSum, .inl (cy, 20, .inl a_toldSum))] := hD
              refine lv_aload_n hx hb dX6_looks_138 rfl (lv_at hl 1 rfl) ?_
              refine lv_iload hx hb dX6_looks_139 (lv_at hl 7 rfl) ?_
              refine lv_iconst (v := 2) hx hb dX6_looks_141 (by decide) ?_
              refine lv_icmp_ne (tgt := 149) hx hb dX6_looks_142 (by decide) (fun c142 => ?_) (fun c142 => ?_)
              · replace h := And.left h c142
                refine lv_lload hx hb dX6_looks_149 (lv_at hl 8 rfl) ?_
                refine lv_l2i hx hb dX6_looks_151 rfl ?_
                exact J152 x5 x7 (Int64.toInt32 x8) x7 x6 f_slipAmount H locs ls h hP hD hS (lv_sub hl [1, 2, 3, 4, 5, 6, 7] rfl)
              · replace h := And.right h c142
                refine lv_iconst (v := 0) hx hb dX6_looks_145 (by decide) ?_
                refine lv_goto (tgt := 152) hx hb dX6_looks_146 (by decide) ?_
                exact J152 x5 x7 0 x7 x6 f_slipAmount H locs ls h hP hD hS (lv_sub hl [1, 2, 3, 4, 5, 6, 7] rfl)
            · replace h := And.right h c120
              refine lv_goto (tgt := 169) hx hb dX6_looks_123 (by decide) ?_
              exact J169 x5 x7 f_slipKind f_slipPaper f_slipAmount H locs ls h hP hD hS (lv_sub hl [1, 2, 3, 4, 5, 6, 7] rfl)
          have J115 : ∀ (x5 : Int32) (x7 : Int32) (x8 : Int64) (f_slipKind : Int32) (f_slipPaper : Int32) (f_slipAmount : Int32) (H : Heap) (locs : List Loc) (ls : Array Slot), p_X6_looks_J115 f_slipKind f_slipPaper f_slipAmount Q (wl5 (p_X6_looks_B46 a_paperAmount x2 x3 x6 Q K46) n) x2 x5 x6 x7 x8 → va_P (dC, dI) vwCl [(h_this, .inr (6, [g_this_0, g_this_1, g_this_2, g_this_3, g_this_4, g_this_5, g_this_6, g_this_7, g_this_8, g_this_9, g_this_10, g_this_11, g_this_12, g_this_13, g_this_14, g_this_15, g_this_16, g_this_17, g_this_18, g_this_19, .ref h_toldSum, g_this_21, .ref h_paperBatch, .ref h_paperAmount, g_this_24, g_this_25, g_this_26, .int f_papers, .int f_slipKind, .int f_slipPaper, .int f_slipAmount])), (h_paperAmount, .inl (cy, 100, .inl a_paperAmount)), (h_paperBatch, .inl (cy, 100, .inl a_paperBatch)), (h_toldSum, .inl (cy, 20, .inl a_toldSum))] H → va_D A [(h_this, .inr (6, [g_this_0, g_this_1, g_this_2, g_this_3, g_this_4, g_this_5, g_this_6, g_this_7, g_this_8, g_this_9, g_this_10, g_this_11, g_this_12, g_this_13, g_this_14, g_this_15, g_this_16, g_this_17, g_this_18, g_this_19, .ref h_toldSum, g_this_21, .ref h_paperBatch, .ref h_paperAmount, g_this_24, g_this_25, g_this_26, .int f_papers, .int f_slipKind, .int f_slipPaper, .int f_slipAmount])), (h_paperAmount, .inl (cy, 100, .inl a_paperAmount)), (h_paperBatch, .inl (cy, 100, .inl a_paperBatch)), (h_toldSum, .inl (cy, 20, .inl a_toldSum))] → va_S A s.heap H locs → lv_has ls 11 [(0, .ref h_this), (1, .int x1), (2, .int x2), (3, .long x3), (5, .int x5), (6, .int x6), (7, .int x7), (8, .long x8)] → W p l e rm_X6_looks s m args below meth c H locs 0 0 QQ (F0 m 115 ls []) := by
            intro x5 x7 x8 f_slipKind f_slipPaper f_slipAmount H locs ls h hP hD hS hl
            unfold p_X6_looks_J115 at h
            refine lv_iconst (v := 0) hx hb dX6_looks_115 (by decide) ?_
            exact J116 x5 x7 x8 0 f_slipKind f_slipPaper f_slipAmount H locs ls h hP hD hS (lv_sub hl [0, 1, 2, 3, 4, 5, 6, 7] rfl)
          refine lv_iload hx hb dX6_looks_46 (lv_at hl 6 rfl) ?_
          refine lv_iconst (v := 3) hx hb dX6_looks_48 (by decide) ?_
          refine lv_icmp_ge (tgt := 175) hx hb dX6_looks_49 (by decide) (fun c49 => ?_) (fun c49 => ?_)
          · replace h := And.left h c49
            exact hk x5 x7 f_slipKind f_slipPaper f_slipAmount H locs ls h hP hD hS (lv_sub hl [0, 1, 2, 3, 4, 5] rfl)
          · replace h := And.right h c49
            refine lv_aload_n hx hb dX6_looks_52 rfl (lv_at hl 0 rfl) ?_
            refine va_get (D := (dC, dI)) (ci := 6) (v := .ref h_paperAmount) (C := RX6) (T := TX6) (N := 31) hx hb hts in_X6 hown hK hP 0 rfl rfl 23 (by decide) k_46 (fun _ h9 => h9) rfl dX6_looks_53 ?_
            refine lv_iload hx hb dX6_looks_56 (lv_at hl 5 rfl) ?_
            obtain ⟨b58, h⟩ := h
            refine va_iald hx hb hK hP 1 0 rfl rfl b58 dX6_looks_58 ?_
            refine lv_i2l hx hb dX6_looks_59 rfl ?_
            refine lv_lload_n hx hb dX6_looks_60 rfl (lv_at hl 3 rfl) ?_
            refine lv_lsub hx hb dX6_looks_61 ?_
            refine lv_lstore (lv' := [(8, .long ((Int32.toInt64 (a_paperAmount (Int32.toNatClampNeg x6))) - x3)), (0, .ref h_this), (1, .int x1), (2, .int x2), (3, .long x3), (5, .int x5), (6, .int x6), (7, .int x7)]) hx hb dX6_looks_62 hl (by decide) rfl (fun ls hl => ?_)
            refine lv_iload hx hb dX6_looks_64 (lv_at hl 7 rfl) ?_
            refine lv_iconst (v := 2) hx hb dX6_looks_66 (by decide) ?_
            refine lv_icmp_ne (tgt := 85) hx hb dX6_looks_67 (by decide) (fun c67 => ?_) (fun c67 => ?_)
            · replace h := And.left h c67
              refine lv_lload hx hb dX6_looks_85 (lv_at hl 0 rfl) ?_
              have hPc := hP.sub (ws' := []) [] rfl
              have hDc := hD.sub (ws' := []) [] (by decide) rfl
              have hFc := va_free (wc := []) hD hS hA [] rfl
              refine va_calli (va_runS (As := [.long ((Int32.toInt64 (a_paperAmount (Int32.toNatClampNeg x6))) - x3)]) (rest := []) ⟨hx, hb, hml, hown, hts⟩ (c_X6_isAmount l dC dI cy  H.size   ((Int32.toInt64 (a_paperAmount (Int32.toNatClampNeg x6))) - x3) _ h) (va_cwS 1 hts gX6_looks_X6_isAmount rfl rfl rfl q_X6_isAmount ⟨Nat.le_of_ble_eq_true rfl, Nat.le_of_ble_eq_true rfl⟩) ⟨fun a U g mk q => by obtain ⟨q0, q1, qP, qK, qD⟩ := q; exact ⟨q0, q1, qP, va_K.moved (u := U) (U := U.calling g mk a) (Vm.Alike.refl U.vm) qK, qD⟩, fun U hU hW => ⟨rfl, by rw [hU], by rw [hU]; exact hPc, va_K.moved hW.alike hK, hDc.weaken (fun _ _ _ _ => trivial)⟩⟩ rfl rfl hl.1 rfl (lv_room (Nat.le_of_ble_eq_true rfl)) dX6_looks_87 ⟨Nat.le_of_ble_eq_true rfl, Nat.le_of_ble_eq_true rfl⟩) hS (fun q _ h => hFc q h) hFc (fun r87 u t H1 locs ht hvm hw hB hz1 hk1 hS => ?_)
              obtain ⟨hP1, hK1, hD1⟩ := hB
              rw [ht] at hP1
              obtain ⟨hP, hD⟩ := va_join (wr := [(h_this, .inr (6, [g_this_0, g_this_1, g_this_2, g_this_3, g_this_4, g_this_5, g_this_6, g_this_7, g_this_8, g_this_9, g_this_10, g_this_11, g_this_12, g_this_13, g_this_14, g_this_15, g_this_16, g_this_17, g_this_18, g_this_19, .ref h_toldSum, g_this_21, .ref h_paperBatch, .ref h_paperAmount, g_this_24, g_this_25, g_this_26, .int f_papers, .int f_slipKind, .int f_slipPaper, .int f_slipAmount])), (h_paperAmount, .inl (cy, 100, .inl a_paperAmount)), (h_paperBatch, .inl (cy, 100, .inl a_paperBatch)), (h_toldSum, .inl (cy, 20, .inl a_toldSum))]) (w1 := []) hP hD [] [0, 1, 2, 3] rfl rfl (by decide) (by decide) hk1 hFc hP1 hD1
              replace hP := hP.sub (ws' := [(h_this, .inr (6, [g_this_0, g_this_1, g_this_2, g_this_3, g_this_4, g_this_5, g_this_6, g_this_7, g_this_8, g_this_9, g_this_10, g_this_11, g_this_12, g_this_13, g_this_14, g_this_15, g_this_16, g_this_17, g_this_18, g_this_19, .ref h_toldSum, g_this_21, .ref h_paperBatch, .ref h_paperAmount, g_this_24, g_this_25, g_this_26, .int f_papers, .int f_slipKind, .int f_slipPaper, .int f_slipAmount])), (h_paperAmount, .inl (cy, 100, .inl a_paperAmount)), (h_paperBatch, .inl (cy, 100, .inl a_paperBatch)), (h_toldSum, .inl (cy, 20, .inl a_toldSum))]) [0, 1, 2, 3] rfl
              replace hD := hD.sub (ws' := [(h_this, .inr (6, [g_this_0, g_this_1, g_this_2, g_this_3, g_this_4, g_this_5, g_this_6, g_this_7, g_this_8, g_this_9, g_this_10, g_this_11, g_this_12, g_this_13, g_this_14, g_this_15, g_this_16, g_this_17, g_this_18, g_this_19, .ref h_toldSum, g_this_21, .ref h_paperBatch, .ref h_paperAmount, g_this_24, g_this_25, g_this_26, .int f_papers, .int f_slipKind, .int f_slipPaper, .int f_slipAmount])), (h_paperAmount, .inl (cy, 100, .inl a_paperAmount)), (h_paperBatch, .inl (cy, 100, .inl a_paperBatch)), (h_toldSum, .inl (cy, 20, .inl a_toldSum))]) [0, 1, 2, 3] (by decide) rfl
              clear hPc hDc hFc hP1 hK1 hD1 hz1 hk1 hvm
              subst ht
              generalize t.heap = H at hP hS ⊢
              replace h := hw
              clear hw
              refine lv_if_eq (tgt := 115) hx hb dX6_looks_90 (by decide) (fun c90 => ?_) (fun c90 => ?_)
              · replace h := And.left h c90
                exact J115 x5 x7 ((Int32.toInt64 (a_paperAmount (Int32.toNatClampNeg x6))) - x3) f_slipKind f_slipPaper f_slipAmount H locs ls h hP hD hS (lv_sub hl [1, 2, 3, 4, 5, 6, 7, 0] rfl)
              · replace h := And.right h c90
                refine lv_iload hx hb dX6_looks_93 (lv_at hl 7 rfl) ?_
                refine lv_aload_n hx hb dX6_looks_95 rfl (lv_at hl 1 rfl) ?_
                refine va_get (D := (dC, dI)) (ci := 6) (v := .ref h_paperAmount) (C := RX6) (T := TX6) (N := 31) hx hb hts in_X6 hown hK hP 0 rfl rfl 23 (by decide) k_46 (fun _ h9 => h9) rfl dX6_looks_96 ?_
                refine lv_iload hx hb dX6_looks_99 (lv_at hl 6 rfl) ?_
                obtain ⟨b101, h⟩ := h
                refine va_iald hx hb hK hP 1 0 rfl rfl b101 dX6_looks_101 ?_
                refine lv_lload hx hb dX6_looks_102 (lv_at hl 0 rfl) ?_
                refine lv_l2i hx hb dX6_looks_104 rfl ?_
                have hPc := hP.sub (ws' := []) [] rfl
                have hDc := hD.sub (ws' := []) [] (by decide) rfl
                have hFc := va_free (wc := []) hD hS hA [] rfl
                refine va_calli (va_runS (As := [.int x7, .int (a_paperAmount (Int32.toNatClampNeg x6)), .int (Int64.toInt32 ((Int32.toInt64 (a_paperAmount (Int32.toNatClampNeg x6))) - x3))]) (rest := []) ⟨hx, hb, hml, hown, hts⟩ (c_X6_isSlip l dC dI cy  H.size   x7 (a_paperAmount (Int32.toNatClampNeg x6)) (Int64.toInt32 ((Int32.toInt64 (a_paperAmount (Int32.toNatClampNeg x6))) - x3)) _ h) (va_cwS 3 hts gX6_looks_X6_isSlip rfl rfl rfl q_X6_isSlip ⟨Nat.le_of_ble_eq_true rfl, Nat.le_of_ble_eq_true rfl⟩) ⟨fun a U g mk q => by obtain ⟨q0, q1, qP, qK, qD⟩ := q; exact ⟨q0, q1, qP, va_K.moved (u := U) (U := U.calling g mk a) (Vm.Alike.refl U.vm) qK, qD⟩, fun U hU hW => ⟨rfl, by rw [hU], by rw [hU]; exact hPc, va_K.moved hW.alike hK, hDc.weaken (fun _ _ _ _ => trivial)⟩⟩ rfl rfl hl.1 rfl (lv_room (Nat.le_of_ble_eq_true rfl)) dX6_looks_105 ⟨Nat.le_of_ble_eq_true rfl, Nat.le_of_ble_eq_true rfl⟩) hS (fun q _ h => hFc q h) hFc (fun r105 u t H1 locs ht hvm hw hB hz1 hk1 hS => ?_)
                obtain ⟨hP1, hK1, hD1⟩ := hB
                rw [ht] at hP1
                obtain ⟨hP, hD⟩ := va_join (wr := [(h_this, .inr (6, [g_this_0, g_this_1, g_this_2, g_this_3, g_this_4, g_this_5, g_this_6, g_this_7, g_this_8, g_this_9, g_this_10, g_this_11, g_this_12, g_this_13, g_this_14, g_this_15, g_this_16, g_this_17, g_this_18, g_this_19, .ref h_toldSum, g_this_21, .ref h_paperBatch, .ref h_paperAmount, g_this_24, g_this_25, g_this_26, .int f_papers, .int f_slipKind, .int f_slipPaper, .int f_slipAmount])), (h_paperAmount, .inl (cy, 100, .inl a_paperAmount)), (h_paperBatch, .inl (cy, 100, .inl a_paperBatch)), (h_toldSum, .inl (cy, 20, .inl a_toldSum))]) (w1 := []) hP hD [] [0, 1, 2, 3] rfl rfl (by decide) (by decide) hk1 hFc hP1 hD1
                replace hP := hP.sub (ws' := [(h_this, .inr (6, [g_this_0, g_this_1, g_this_2, g_this_3, g_this_4, g_this_5, g_this_6, g_this_7, g_this_8, g_this_9, g_this_10, g_this_11, g_this_12, g_this_13, g_this_14, g_this_15, g_this_16, g_this_17, g_this_18, g_this_19, .ref h_toldSum, g_this_21, .ref h_paperBatch, .ref h_paperAmount, g_this_24, g_this_25, g_this_26, .int f_papers, .int f_slipKind, .int f_slipPaper, .int f_slipAmount])), (h_paperAmount, .inl (cy, 100, .inl a_paperAmount)), (h_paperBatch, .inl (cy, 100, .inl a_paperBatch)), (h_toldSum, .inl (cy, 20, .inl a_toldSum))]) [0, 1, 2, 3] rfl
                replace hD := hD.sub (ws' := [(h_this, .inr (6, [g_this_0, g_this_1, g_this_2, g_this_3, g_this_4, g_this_5, g_this_6, g_this_7, g_this_8, g_this_9, g_this_10, g_this_11, g_this_12, g_this_13, g_this_14, g_this_15, g_this_16, g_this_17, g_this_18, g_this_19, .ref h_toldSum, g_this_21, .ref h_paperBatch, .ref h_paperAmount, g_this_24, g_this_25, g_this_26, .int f_papers, .int f_slipKind, .int f_slipPaper, .int f_slipAmount])), (h_paperAmount, .inl (cy, 100, .inl a_paperAmount)), (h_paperBatch, .inl (cy, 100, .inl a_paperBatch)), (h_toldSum, .inl (cy, 20, .inl a_toldSum))]) [0, 1, 2, 3] (by decide) rfl
                clear hPc hDc hFc hP1 hK1 hD1 hz1 hk1 hvm
                subst ht
                generalize t.heap = H at hP hS ⊢
                replace h := hw
                clear hw
                refine lv_if_eq (tgt := 115) hx hb dX6_looks_108 (by decide) (fun c108 => ?_) (fun c108 => ?_)
                · replace h := And.left h c108
                  exact J115 x5 x7 ((Int32.toInt64 (a_paperAmount (Int32.toNatClampNeg x6))) - x3) f_slipKind f_slipPaper f_slipAmount H locs ls h hP hD hS (lv_sub hl [1, 2, 3, 4, 5, 6, 7, 0] rfl)
                · replace h := And.right h c108
                  refine lv_iconst (v := 1) hx hb dX6_looks_111 (by decide) ?_
                  refine lv_goto (tgt := 116) hx hb dX6_looks_112 (by decide) ?_
                  exact J116 x5 x7 ((Int32.toInt64 (a_paperAmount (Int32.toNatClampNeg x6))) - x3) 1 f_slipKind f_slipPaper f_slipAmount H locs ls h hP hD hS (lv_sub hl [1, 2, 3, 4, 5, 6, 7, 0] rfl)
            · replace h := And.right h c67
              refine lv_lload hx hb dX6_looks_70 (lv_at hl 0 rfl) ?_
              refine lv_lconst (v := 0) hx hb dX6_looks_72 (by decide) ?_
              refine W.lcmp hx hb dX6_looks_73 ?_
              refine lv_if_ne (tgt := 81) hx hb dX6_looks_74 (by decide) (fun c74 => ?_) (fun c74 => ?_)
              · replace h := And.left h c74
                refine lv_iconst (v := 0) hx hb dX6_looks_81 (by decide) ?_
                refine lv_goto (tgt := 116) hx hb dX6_looks_82 (by decide) ?_
                exact J116 x5 x7 ((Int32.toInt64 (a_paperAmount (Int32.toNatClampNeg x6))) - x3) 0 f_slipKind f_slipPaper f_slipAmount H locs ls h hP hD hS (lv_sub hl [1, 2, 3, 4, 5, 6, 7, 0] rfl)
              · replace h := And.right h c74
                refine lv_iconst (v := 1) hx hb dX6_looks_77 (by decide) ?_
                refine lv_goto (tgt := 116) hx hb dX6_looks_78 (by decide) ?_
                exact J116 x5 x7 ((Int32.toInt64 (a_paperAmount (Int32.toNatClampNeg x6))) - x3) 1 f_slipKind f_slipPaper f_slipAmount H locs ls h hP hD hS (lv_sub hl [1, 2, 3, 4, 5, 6, 7, 0] rfl)
      refine lv_iload hx hb dX6_looks_20 (lv_at hl 5 rfl) ?_
      refine lv_aload_n hx hb dX6_looks_22 rfl (lv_at hl 0 rfl) ?_
      refine va_get (D := (dC, dI)) (ci := 6) (v := .int f_papers) (C := RX6) (T := TX6) (N := 31) hx hb hts in_X6 hown hK hP 0 rfl rfl 27 (by decide) k_154 (fun _ h9 => h9) rfl dX6_looks_23 ?_
      refine lv_icmp_ge (tgt := 181) hx hb dX6_looks_26 (by decide) (fun c26 => ?_) (fun c26 => ?_)
      · replace h := And.left h c26
        exact hk x5 x6 f_slipKind f_slipPaper f_slipAmount H locs ls h hP hD hS (lv_sub hl [0, 3, 4] rfl)
      · replace h := And.right h c26
        refine lv_aload_n hx hb dX6_looks_29 rfl (lv_at hl 0 rfl) ?_
        refine va_get (D := (dC, dI)) (ci := 6) (v := .ref h_paperBatch) (C := RX6) (T := TX6) (N := 31) hx hb hts in_X6 hown hK hP 0 rfl rfl 22 (by decide) k_43 (fun _ h9 => h9) rfl dX6_looks_30 ?_
        refine lv_iload hx hb dX6_looks_33 (lv_at hl 5 rfl) ?_
        obtain ⟨b35, h⟩ := h
        refine va_iald hx hb hK hP 2 0 rfl rfl b35 dX6_looks_35 ?_
        refine lv_iload_n hx hb dX6_looks_36 rfl (lv_at hl 1 rfl) ?_
        refine lv_icmp_eq (tgt := 43) hx hb dX6_looks_37 (by decide) (fun c37 => ?_) (fun c37 => ?_)
        · replace h := And.left h c37
          refine lv_iconst (v := 0) hx hb dX6_looks_43 (by decide) ?_
          refine lv_istore (lv' := [(7, .int 0), (0, .ref h_this), (1, .int x1), (2, .int x2), (3, .long x3), (5, .int x5), (6, .int x6)]) hx hb dX6_looks_44 hl (by decide) rfl (fun ls hl => ?_)
          obtain ⟨n46, h⟩ := h
          refine L46 x1 x2 x3 x6 _ n46 x5 0 f_slipKind f_slipPaper f_slipAmount H locs ls h hP hD hS (lv_sub hl [1, 2, 3, 4, 5, 6, 0] rfl) (fun x5_175 x7_175 f_slipKind_175 f_slipPaper_175 f_slipAmount_175 H locs ls h hP hD hS hl => ?_)
          exact J175 x5_175 x6 f_slipKind_175 f_slipPaper_175 f_slipAmount_175 H locs ls h hP hD hS (lv_sub hl [0, 1, 2, 3, 4, 5] rfl)
        · replace h := And.right h c37
          refine lv_goto (tgt := 175) hx hb dX6_looks_40 (by decide) ?_
          exact J175 x5 x6 f_slipKind f_slipPaper f_slipAmount H locs ls h hP hD hS (lv_sub hl [0, 1, 2, 3, 4, 5] rfl)
  generalize hlo : ([] : List Loc) = locs at hS ⊢
  obtain ⟨H, hH⟩ : ∃ z, z = s.heap := ⟨_, rfl⟩
  rw [show W p l e rm_X6_looks s m args below meth c s.heap = W p l e rm_X6_looks s m args below meth c H by rw [hH]]
  replace hP : va_P (dC, dI) vwCl [(h_this, .inr (6, [g_this_0, g_this_1, g_this_2, g_this_3, g_this_4, g_this_5, g_this_6, g_this_7, g_this_8, g_this_9, g_this_10, g_this_11, g_this_12, g_this_13, g_this_14, g_this_15, g_this_16, g_this_17, g_this_18, g_this_19, .ref h_toldSum, g_this_21, .ref h_paperBatch, .ref h_paperAmount, g_this_24, g_this_25, g_this_26, .int f_papers, .int f_slipKind, .int f_slipPaper, .int f_slipAmount])), (h_paperAmount, .inl (cy, 100, .inl a_paperAmount)), (h_paperBatch, .inl (cy, 100, .inl a_paperBatch)), (h_toldSum, .inl (cy, 20, .inl a_toldSum))] H := by rw [hH]; exact hP
  replace hS : va_S A s.heap H locs := by rw [hH]; exact hS
  clear hH hlo
  refine lv_aload_n hx hb dX6_looks_0 rfl (lv_at hl 0 rfl) ?_
  refine lv_iload_n hx hb dX6_looks_1 rfl (lv_at hl 1 rfl) ?_
  have hPc := hP.sub (ws' := [(h_this, .inr (6, [g_this_0, g_this_1, g_this_2, g_this_3, g_this_4, g_this_5, g_this_6, g_this_7, g_this_8, g_this_9, g_this_10, g_this_11, g_this_12, g_this_13, g_this_14, g_this_15, g_this_16, g_this_17, g_this_18, g_this_19, .ref h_toldSum, g_this_21, .ref h_paperBatch, .ref h_paperAmount, g_this_24, g_this_25, g_this_26, .int f_papers, .int f_slipKind, .int f_slipPaper, .int f_slipAmount])), (h_paperAmount, .inl (cy, 100, .inl a_paperAmount)), (h_paperBatch, .inl (cy, 100, .inl a_paperBatch)), (h_toldSum, .inl (cy, 20, .inl a_toldSum))]) [0, 1, 2, 3] rfl
  have hDc := hD.sub (ws' := [(h_this, .inr (6, [g_this_0, g_this_1, g_this_2, g_this_3, g_this_4, g_this_5, g_this_6, g_this_7, g_this_8, g_this_9, g_this_10, g_this_11, g_this_12, g_this_13, g_this_14, g_this_15, g_this_16, g_this_17, g_this_18, g_this_19, .ref h_toldSum, g_this_21, .ref h_paperBatch, .ref h_paperAmount, g_this_24, g_this_25, g_this_26, .int f_papers, .int f_slipKind, .int f_slipPaper, .int f_slipAmount])), (h_paperAmount, .inl (cy, 100, .inl a_paperAmount)), (h_paperBatch, .inl (cy, 100, .inl a_paperBatch)), (h_toldSum, .inl (cy, 20, .inl a_toldSum))]) [0, 1, 2, 3] (by decide) rfl
  have hFc := va_free (wc := [(h_this, .inr (6, [g_this_0, g_this_1, g_this_2, g_this_3, g_this_4, g_this_5, g_this_6, g_this_7, g_this_8, g_this_9, g_this_10, g_this_11, g_this_12, g_this_13, g_this_14, g_this_15, g_this_16, g_this_17, g_this_18, g_this_19, .ref h_toldSum, g_this_21, .ref h_paperBatch, .ref h_paperAmount, g_this_24, g_this_25, g_this_26, .int f_papers, .int f_slipKind, .int f_slipPaper, .int f_slipAmount])), (h_paperAmount, .inl (cy, 100, .inl a_paperAmount)), (h_paperBatch, .inl (cy, 100, .inl a_paperBatch)), (h_toldSum, .inl (cy, 20, .inl a_toldSum))]) hD hS hA [0, 1, 2, 3] rfl
  refine va_calll (va_runV (As := [.int x1]) (rest := []) ⟨hx, hb, hml, hown, hts⟩ (c_X6_outOf l dC dI cy h_this h_paperAmount h_paperBatch h_toldSum H.size (g_this_0) (g_this_1) (g_this_2) (g_this_3) (g_this_4) (g_this_5) (g_this_6) (g_this_7) (g_this_8) (g_this_9) (g_this_10) (g_this_11) (g_this_12) (g_this_13) (g_this_14) (g_this_15) (g_this_16) (g_this_17) (g_this_18) (g_this_19) (g_this_21) (g_this_24) (g_this_25) (g_this_26) (.int f_slipKind) (.int f_slipPaper) (.int f_slipAmount) f_papers a_paperAmount a_paperBatch a_toldSum x1 _ h) (cwV 1 hts gX6_looks_X6_outOf rfl rfl rfl q_X6_outOf ⟨Nat.le_of_ble_eq_true rfl, Nat.le_of_ble_eq_true rfl⟩) ⟨fun a U g mk q => by obtain ⟨q0, q1, qP, qK, qD⟩ := q; exact ⟨q0, q1, qP, va_K.moved (u := U) (U := U.calling g mk a) (Vm.Alike.refl U.vm) qK, qD⟩, va_recv hK hP (ci := 6) (q0 := 0) rfl rfl, fun U hU hW => ⟨rfl, by rw [hU], by rw [hU]; exact hPc, va_K.moved hW.alike hK, hDc.weaken (fun _ _ _ _ => trivial)⟩⟩ rfl rfl hl.1 rfl (lv_room (Nat.le_of_ble_eq_true rfl)) dX6_looks_2 ⟨Nat.le_of_ble_eq_true rfl, Nat.le_of_ble_eq_true rfl⟩) hS (fun q _ h => hFc q h) hFc (fun r2 u t H1 locs ht hvm hw hB hz1 hk1 hS => ?_)
  obtain ⟨hP1, hK1, hD1⟩ := hB
  rw [ht] at hP1
  obtain ⟨hP, hD⟩ := va_join (wr := []) (w1 := [(h_this, .inr (6, [g_this_0, g_this_1, g_this_2, g_this_3, g_this_4, g_this_5, g_this_6, g_this_7, g_this_8, g_this_9, g_this_10, g_this_11, g_this_12, g_this_13, g_this_14, g_this_15, g_this_16, g_this_17, g_this_18, g_this_19, .ref h_toldSum, g_this_21, .ref h_paperBatch, .ref h_paperAmount, g_this_24, g_this_25, g_this_26, .int f_papers, .int f_slipKind, .int f_slipPaper, .int f_slipAmount])), (h_paperAmount, .inl (cy, 100, .inl a_paperAmount)), (h_paperBatch, .inl (cy, 100, .inl a_paperBatch)), (h_toldSum, .inl (cy, 20, .inl a_toldSum))]) hP hD [0, 1, 2, 3] [] rfl rfl (by decide) (by decide) hk1 hFc hP1 hD1
  replace hP := hP.sub (ws' := [(h_this, .inr (6, [g_this_0, g_this_1, g_this_2, g_this_3, g_this_4, g_this_5, g_this_6, g_this_7, g_this_8, g_this_9, g_this_10, g_this_11, g_this_12, g_this_13, g_this_14, g_this_15, g_this_16, g_this_17, g_this_18, g_this_19, .ref h_toldSum, g_this_21, .ref h_paperBatch, .ref h_paperAmount, g_this_24, g_this_25, g_this_26, .int f_papers, .int f_slipKind, .int f_slipPaper, .int f_slipAmount])), (h_paperAmount, .inl (cy, 100, .inl a_paperAmount)), (h_paperBatch, .inl (cy, 100, .inl a_paperBatch)), (h_toldSum, .inl (cy, 20, .inl a_toldSum))]) [0, 1, 2, 3] rfl
  replace hD := hD.sub (ws' := [(h_this, .inr (6, [g_this_0, g_this_1, g_this_2, g_this_3, g_this_4, g_this_5, g_this_6, g_this_7, g_this_8, g_this_9, g_this_10, g_this_11, g_this_12, g_this_13, g_this_14, g_this_15, g_this_16, g_this_17, g_this_18, g_this_19, .ref h_toldSum, g_this_21, .ref h_paperBatch, .ref h_paperAmount, g_this_24, g_this_25, g_this_26, .int f_papers, .int f_slipKind, .int f_slipPaper, .int f_slipAmount])), (h_paperAmount, .inl (cy, 100, .inl a_paperAmount)), (h_paperBatch, .inl (cy, 100, .inl a_paperBatch)), (h_toldSum, .inl (cy, 20, .inl a_toldSum))]) [0, 1, 2, 3] (by decide) rfl
  clear hPc hDc hFc hP1 hK1 hD1 hz1 hk1 hvm
  subst ht
  generalize t.heap = H at hP hS ⊢
  replace h := hw
  clear hw
  refine lv_lstore_n (lv' := [(3, .long r2), (0, .ref h_this), (1, .int x1), (2, .int x2)]) hx hb dX6_looks_5 rfl hl (by decide) rfl (fun ls hl => ?_)
  refine lv_iconst (v := 0) hx hb dX6_looks_6 (by decide) ?_
  refine lv_istore (lv' := [(5, .int 0), (3, .long r2), (0, .ref h_this), (1, .int x1), (2, .int x2)]) hx hb dX6_looks_7 hl (by decide) rfl (fun ls hl => ?_)
  refine lv_lload_n hx hb dX6_looks_9 rfl (lv_at hl 1 rfl) ?_
  refine lv_lconst (v := 0) hx hb dX6_looks_10 (by decide) ?_
  refine W.lcmp hx hb dX6_looks_11 ?_
  refine lv_if_ne (tgt := 17) hx hb dX6_looks_12 (by decide) (fun c12 => ?_) (fun c12 => ?_)
  · replace h := And.left h c12
    refine lv_iconst (v := 0) hx hb dX6_looks_17 (by decide) ?_
    refine lv_istore (lv' := [(6, .int 0), (5, .int 0), (3, .long r2), (0, .ref h_this), (1, .int x1), (2, .int x2)]) hx hb dX6_looks_18 hl (by decide) rfl (fun ls hl => ?_)
    obtain ⟨n20, h⟩ := h
    refine L20 x1 x2 r2 _ n20 0 0 f_slipKind f_slipPaper f_slipAmount H locs ls h hP hD hS (lv_sub hl [3, 4, 5, 2, 1, 0] rfl) (fun x5_181 x6_181 f_slipKind_181 f_slipPaper_181 f_slipAmount_181 H locs ls h hP hD hS hl => ?_)
    refine lv_lload_n hx hb dX6_looks_181 rfl (lv_at hl 1 rfl) ?_
    refine lv_lconst (v := 0) hx hb dX6_looks_182 (by decide) ?_
    refine W.lcmp hx hb dX6_looks_183 ?_
    refine lv_if_gt (tgt := 195) hx hb dX6_looks_184 (by decide) (fun c184 => ?_) (fun c184 => ?_)
    · replace h := And.left h c184
      exact J195 x5_181 f_slipKind_181 f_slipPaper_181 f_slipAmount_181 H locs ls h hP hD hS (lv_sub hl [2] rfl)
    · replace h := And.right h c184
      refine lv_lload_n hx hb dX6_looks_187 rfl (lv_at hl 1 rfl) ?_
      refine my_lneg hx hb dX6_looks_188 ?_
      have hPc := hP.sub (ws' := []) [] rfl
      have hDc := hD.sub (ws' := []) [] (by decide) rfl
      have hFc := va_free (wc := []) hD hS hA [] rfl
      refine va_calli (va_runS (As := [.long (jlneg r2)]) (rest := []) ⟨hx, hb, hml, hown, hts⟩ (c_X6_isAmount l dC dI cy  H.size   (jlneg r2) _ h) (va_cwS 1 hts gX6_looks_X6_isAmount rfl rfl rfl q_X6_isAmount ⟨Nat.le_of_ble_eq_true rfl, Nat.le_of_ble_eq_true rfl⟩) ⟨fun a U g mk q => by obtain ⟨q0, q1, qP, qK, qD⟩ := q; exact ⟨q0, q1, qP, va_K.moved (u := U) (U := U.calling g mk a) (Vm.Alike.refl U.vm) qK, qD⟩, fun U hU hW => ⟨rfl, by rw [hU], by rw [hU]; exact hPc, va_K.moved hW.alike hK, hDc.weaken (fun _ _ _ _ => trivial)⟩⟩ rfl rfl hl.1 rfl (lv_room (Nat.le_of_ble_eq_true rfl)) dX6_looks_189 ⟨Nat.le_of_ble_eq_true rfl, Nat.le_of_ble_eq_true rfl⟩) hS (fun q _ h => hFc q h) hFc (fun r189 u t H1 locs ht hvm hw hB hz1 hk1 hS => ?_)
      obtain ⟨hP1, hK1, hD1⟩ := hB
      rw [ht] at hP1
      obtain ⟨hP, hD⟩ := va_join (wr := [(h_this, .inr (6, [g_this_0, g_this_1, g_this_2, g_this_3, g_this_4, g_this_5, g_this_6, g_this_7, g_this_8, g_this_9, g_this_10, g_this_11, g_this_12, g_this_13, g_this_14, g_this_15, g_this_16, g_this_17, g_this_18, g_this_19, .ref h_toldSum, g_this_21, .ref h_paperBatch, .ref h_paperAmount, g_this_24, g_this_25, g_this_26, .int f_papers, .int f_slipKind_181, .int f_slipPaper_181, .int f_slipAmount_181])), (h_paperAmount, .inl (cy, 100, .inl a_paperAmount)), (h_paperBatch, .inl (cy, 100, .inl a_paperBatch)), (h_toldSum, .inl (cy, 20, .inl a_toldSum))]) (w1 := []) hP hD [] [0, 1, 2, 3] rfl rfl (by decide) (by decide) hk1 hFc hP1 hD1
      replace hP := hP.sub (ws' := [(h_this, .inr (6, [g_this_0, g_this_1, g_this_2, g_this_3, g_this_4, g_this_5, g_this_6, g_this_7, g_this_8, g_this_9, g_this_10, g_this_11, g_this_12, g_this_13, g_this_14, g_this_15, g_this_16, g_this_17, g_this_18, g_this_19, .ref h_toldSum, g_this_21, .ref h_paperBatch, .ref h_paperAmount, g_this_24, g_this_25, g_this_26, .int f_papers, .int f_slipKind_181, .int f_slipPaper_181, .int f_slipAmount_181])), (h_paperAmount, .inl (cy, 100, .inl a_paperAmount)), (h_paperBatch, .inl (cy, 100, .inl a_paperBatch)), (h_toldSum, .inl (cy, 20, .inl a_toldSum))]) [0, 1, 2, 3] rfl
      replace hD := hD.sub (ws' := [(h_this, .inr (6, [g_this_0, g_this_1, g_this_2, g_this_3, g_this_4, g_this_5, g_this_6, g_this_7, g_this_8, g_this_9, g_this_10, g_this_11, g_this_12, g_this_13, g_this_14, g_this_15, g_this_16, g_this_17, g_this_18, g_this_19, .ref h_toldSum, g_this_21, .ref h_paperBatch, .ref h_paperAmount, g_this_24, g_this_25, g_this_26, .int f_papers, .int f_slipKind_181, .int f_slipPaper_181, .int f_slipAmount_181])), (h_paperAmount, .inl (cy, 100, .inl a_paperAmount)), (h_paperBatch, .inl (cy, 100, .inl a_paperBatch)), (h_toldSum, .inl (cy, 20, .inl a_toldSum))]) [0, 1, 2, 3] (by decide) rfl
      clear hPc hDc hFc hP1 hK1 hD1 hz1 hk1 hvm
      subst ht
      generalize t.heap = H at hP hS ⊢
      replace h := hw
      clear hw
      refine lv_if_ne (tgt := 198) hx hb dX6_looks_192 (by decide) (fun c192 => ?_) (fun c192 => ?_)
      · replace h := And.left h c192
        refine lv_aload_n hx hb dX6_looks_198 rfl (lv_at hl 0 rfl) ?_
        refine lv_iconst (v := 3) hx hb dX6_looks_199 (by decide) ?_
        refine va_put (D := (dC, dI)) (ci := 6) (v := .int 3) (ty := .int) (C := RX6) (T := TX6) (N := 31) hx hb hts in_X6 tyX6 tyX6_ok nmX6 hown hK hP hD hS 0 rfl rfl 28 (by decide) k_176 (fun _ h9 => h9) rfl (by decide +kernel) rfl rfl (Nat.le_of_ble_eq_true rfl) dX6_looks_200 (fun H locs hP hD hS => ?_)
        have hP : va_P (dC, dI) vwCl [(h_this, .inr (6, [g_this_0, g_this_1, g_this_2, g_this_3, g_this_4, g_this_5, g_this_6, g_this_7, g_this_8, g_this_9, g_this_10, g_this_11, g_this_12, g_this_13, g_this_14, g_this_15, g_this_16, g_this_17, g_this_18, g_this_19, .ref h_toldSum, g_this_21, .ref h_paperBatch, .ref h_paperAmount, g_this_24, g_this_25, g_this_26, .int f_papers, .int 3, .int f_slipPaper_181, .int f_slipAmount_181])), (h_paperAmount, .inl (cy, 100, .inl a_paperAmount)), (h_paperBatch, .inl (cy, 100, .inl a_paperBatch)), (h_toldSum, .inl (cy, 20, .inl a_toldSum))] H := hP
        have hD : va_D A [(h_this, .inr (6, [g_this_0, g_this_1, g_this_2, g_this_3, g_this_4, g_this_5, g_this_6, g_this_7, g_this_8, g_this_9, g_this_10, g_this_11, g_this_12, g_this_13, g_this_14, g_this_15, g_this_16, g_this_17, g_this_18, g_this_19, .ref h_toldSum, g_this_21, .ref h_paperBatch, .ref h_paperAmount, g_this_24, g_this_25, g_this_26, .int f_papers, .int 3, .int f_slipPaper_181, .int f_slipAmount_181])), (h_paperAmount, .inl (cy, 100, .inl a_paperAmount)), (h_paperBatch, .inl (cy, 100, .inl a_paperBatch)), (h_toldSum, .inl (cy, 20, .inl a_toldSum))] := hD
        refine lv_aload_n hx hb dX6_looks_203 rfl (lv_at hl 0 rfl) ?_
        refine lv_iconst (v := (-1)) hx hb dX6_looks_204 (by decide) ?_
        refine va_put (D := (dC, dI)) (ci := 6) (v := .int (-1)) (ty := .int) (C := RX6) (T := TX6) (N := 31) hx hb hts in_X6 tyX6 tyX6_ok nmX6 hown hK hP hD hS 0 rfl rfl 29 (by decide) k_179 (fun _ h9 => h9) rfl (by decide +kernel) rfl rfl (Nat.le_of_ble_eq_true rfl) dX6_looks_205 (fun H locs hP hD hS => ?_)
        have hP : va_P (dC, dI) vwCl [(h_this, .inr (6, [g_this_0, g_this_1, g_this_2, g_this_3, g_this_4, g_this_5, g_this_6, g_this_7, g_this_8, g_this_9, g_this_10, g_this_11, g_this_12, g_this_13, g_this_14, g_this_15, g_this_16, g_this_17, g_this_18, g_this_19, .ref h_toldSum, g_this_21, .ref h_paperBatch, .ref h_paperAmount, g_this_24, g_this_25, g_this_26, .int f_papers, .int 3, .int (-1), .int f_slipAmount_181])), (h_paperAmount, .inl (cy, 100, .inl a_paperAmount)), (h_paperBatch, .inl (cy, 100, .inl a_paperBatch)), (h_toldSum, .inl (cy, 20, .inl a_toldSum))] H := hP
        have hD : va_D A [(h_this, .inr (6, [g_this_0, g_this_1, g_this_2, g_this_3, g_this_4, g_this_5, g_this_6, g_this_7, g_this_8, g_this_9, g_this_10, g_this_11, g_this_12, g_this_13, g_this_14, g_this_15, g_this_16, g_this_17, g_this_18, g_this_19, .ref h_toldSum, g_this_21, .ref h_paperBatch, .ref h_paperAmount, g_this_24, g_this_25, g_this_26, .int f_papers, .int 3, .int (-1), .int f_slipAmount_181])), (h_paperAmount, .inl (cy, 100, .inl a_paperAmount)), (h_paperBatch, .inl (cy, 100, .inl a_paperBatch)), (h_toldSum, .inl (cy, 20, .inl a_toldSum))] := hD
        refine lv_aload_n hx hb dX6_looks_208 rfl (lv_at hl 0 rfl) ?_
        refine lv_lload_n hx hb dX6_looks_209 rfl (lv_at hl 1 rfl) ?_
        refine my_lneg hx hb dX6_looks_210 ?_
        refine lv_l2i hx hb dX6_looks_211 rfl ?_
        refine va_put (D := (dC, dI)) (ci := 6) (v := .int (Int64.toInt32 (jlneg r2))) (ty := .int) (C := RX6) (T := TX6) (N := 31) hx hb hts in_X6 tyX6 tyX6_ok nmX6 hown hK hP hD hS 0 rfl rfl 30 (by decide) k_182 (fun _ h9 => h9) rfl (by decide +kernel) rfl rfl (Nat.le_of_ble_eq_true rfl) dX6_looks_212 (fun H locs hP hD hS => ?_)
        have hP : va_P (dC, dI) vwCl [(h_this, .inr (6, [g_this_0, g_this_1, g_this_2, g_this_3, g_this_4, g_this_5, g_this_6, g_this_7, g_this_8, g_this_9, g_this_10, g_this_11, g_this_12, g_this_13, g_this_14, g_this_15, g_this_16, g_this_17, g_this_18, g_this_19, .ref h_toldSum, g_this_21, .ref h_paperBatch, .ref h_paperAmount, g_this_24, g_this_25, g_this_26, .int f_papers, .int 3, .int (-1), .int (Int64.toInt32 (jlneg r2))])), (h_paperAmount, .inl (cy, 100, .inl a_paperAmount)), (h_paperBatch, .inl (cy, 100, .inl a_paperBatch)), (h_toldSum, .inl (cy, 20, .inl a_toldSum))] H := hP
        have hD : va_D A [(h_this, .inr (6, [g_this_0, g_this_1, g_this_2, g_this_3, g_this_4, g_this_5, g_this_6, g_this_7, g_this_8, g_this_9, g_this_10, g_this_11, g_this_12, g_this_13, g_this_14, g_this_15, g_this_16, g_this_17, g_this_18, g_this_19, .ref h_toldSum, g_this_21, .ref h_paperBatch, .ref h_paperAmount, g_this_24, g_this_25, g_this_26, .int f_papers, .int 3, .int (-1), .int (Int64.toInt32 (jlneg r2))])), (h_paperAmount, .inl (cy, 100, .inl a_paperAmount)), (h_paperBatch, .inl (cy, 100, .inl a_paperBatch)), (h_toldSum, .inl (cy, 20, .inl a_toldSum))] := hD
        refine lv_iload hx hb dX6_looks_215 (lv_at hl 2 rfl) ?_
        refine lv_iconst (v := 1) hx hb dX6_looks_217 (by decide) ?_
        refine lv_iadd hx hb dX6_looks_218 ?_
        exact RET (x5_181 + 1) 3 (-1) (Int64.toInt32 (jlneg r2)) H locs ls 219 dX6_looks_219 h hP hD hS
      · replace h := And.right h c192
        exact J195 x5_181 f_slipKind_181 f_slipPaper_181 f_slipAmount_181 H locs ls h hP hD hS (lv_sub hl [2] rfl)
  · replace h := And.right h c12
    refine lv_iconst (v := 0) hx hb dX6_looks_15 (by decide) ?_
    exact RET 0 f_slipKind f_slipPaper f_slipAmount H locs ls 16 dX6_looks_16 h hP hD hS
