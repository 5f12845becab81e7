abbrev rm_X1_pickSpeeds : Room := { frames := 3, cells := 0, slots := 0, locals := 67 }
theorem q_X1_pickSpeeds : yX1_pickSpeeds.cls = RX1 ∧ yX1_pickSpeeds.cls ≠ "java/lang/invoke/MethodHandle" ∧ yX1_pickSpeeds.cls ≠ "java/lang/invoke/VarHandle" ∧ (parseMethodDescriptor yX1_pickSpeeds.desc).map (fun d => d.parameters.length) = some 3 := by decide +kernel
set_option maxHeartbeats 4000000 in
set_option maxRecDepth 100000 in
theorem c_X1_pickSpeeds (l : Launch) (dC : Nat → ClassId) (dI : Nat → Nat → Nat) (cy : ClassId) (h_this : Nat) (h_behind : Nat) (h_costs : Nat) (h_here : Nat) (h_joined : Nat) (h_p1 : Nat) (h_p2 : Nat) (sz : Nat) (g_this_1 g_this_5 : Value) (f_places : Int32) (a_behind : Nat → Int32) (a_costs : Nat → Int32) (a_here : Nat → Int32) (a_joined : Nat → Int32) (a_p1 : Nat → Int32) (a_p2 : Nat → Int32) (x3 : Int32) (Q : (Nat → Int32) → (Nat → Int32) → (Nat → Int32) → (Nat → Int32) → Prop) (h : p_X1_pickSpeeds f_places a_behind a_costs a_here a_joined a_p1 a_p2 x3 Q) : Met l yX1_pickSpeeds wsX1_pickSpeeds rm_X1_pickSpeeds (va_Pc [.ref h_this, .ref h_p1, .ref h_p2, .int x3] (fun U => U.heap.size = sz ∧ va_P (dC, dI) vwCl [(h_this, .inr (1, [.int f_places, g_this_1, .ref h_costs, .ref h_here, .ref h_behind, g_this_5, .ref h_joined])), (h_behind, .inl (cy, 180, .inl a_behind)), (h_costs, .inl (cy, 2160, .inl a_costs)), (h_here, .inl (cy, 180, .inl a_here)), (h_joined, .inl (cy, 9, .inl a_joined)), (h_p1, .inl (cy, 20, .inl a_p1)), (h_p2, .inl (cy, 20, .inl a_p2))] U.heap ∧ va_K (dC, dI) vwCl [(cy, .int)] U ∧ va_D (fun _ => True) [(h_this, .inr (1, [.int f_places, g_this_1, .ref h_costs, .ref h_here, .ref h_behind, g_this_5, .ref h_joined])), (h_behind, .inl (cy, 180, .inl a_behind)), (h_costs, .inl (cy, 2160, .inl a_costs)), (h_here, .inl (cy, 180, .inl a_here)), (h_joined, .inl (cy, 9, .inl a_joined)), (h_p1, .inl (cy, 20, .inl a_p1)), (h_p2, .inl (cy, 20, .inl a_p2))])) (va_Qv (fun (u : (Nat → Int32) × (Nat → Int32) × (Nat → Int32) × (Nat → Int32)) => Q u.1 u.2.1 u.2.2.1 u.2.2.2) (fun (u : (Nat → Int32) × (Nat → Int32) × (Nat → Int32) × (Nat → Int32)) (t : State) => va_P (dC, dI) vwCl [(h_this, .inr (1, [.int f_places, g_this_1, .ref h_costs, .ref h_here, .ref h_behind, g_this_5, .ref h_joined])), (h_behind, .inl (cy, 180, .inl (u.1))), (h_costs, .inl (cy, 2160, .inl a_costs)), (h_here, .inl (cy, 180, .inl (u.2.1))), (h_joined, .inl (cy, 9, .inl (u.2.2.1))), (h_p1, .inl (cy, 20, .inl a_p1)), (h_p2, .inl (cy, 20, .inl (u.2.2.2)))] t.heap ∧ va_K (dC, dI) vwCl [(cy, .int)] t ∧ va_D (va_A [(h_this, .inr (1, [.int f_places, g_this_1, .ref h_costs, .ref h_here, .ref h_behind, g_this_5, .ref h_joined])), (h_behind, .inl (cy, 180, .inl a_behind)), (h_costs, .inl (cy, 2160, .inl a_costs)), (h_here, .inl (cy, 180, .inl a_here)), (h_joined, .inl (cy, 9, .inl a_joined)), (h_p1, .inl (cy, 20, .inl a_p1)), (h_p2, .inl (cy, 20, .inl a_p2))] sz) [(h_this, .inr (1, [.int f_places, g_this_1, .ref h_costs, .ref h_here, .ref h_behind, g_this_5, .ref h_joined])), (h_behind, .inl (cy, 180, .inl (u.1))), (h_costs, .inl (cy, 2160, .inl a_costs)), (h_here, .inl (cy, 180, .inl (u.2.1))), (h_joined, .inl (cy, 9, .inl (u.2.2.1))), (h_p1, .inl (cy, 20, .inl a_p1)), (h_p2, .inl (cy, 20, .inl (u.2.2.2)))]) (va_A [(h_this, .inr (1, [.int f_places, g_this_1, .ref h_costs, .ref h_here, .ref h_behind, g_this_5, .ref h_joined])), (h_behind, .inl (cy, 180, .inl a_behind)), (h_costs, .inl (cy, 2160, .inl a_costs)), (h_here, .inl (cy, 180, .inl a_here)), (h_joined, .inl (cy, 9, .inl a_joined)), (h_p1, .inl (cy, 20, .inl a_p1)), (h_p2, .inl (cy, 20, .inl a_p2))] sz)) 0 0 (va_A [(h_this, .inr (1, [.int f_places, g_this_1, .ref h_costs, .ref h_here, .ref h_behind, g_this_5, .ref h_joined])), (h_behind, .inl (cy, 180, .inl a_behind)), (h_costs, .inl (cy, 2160, .inl a_costs)), (h_here, .inl (cy, 180, .inl a_here)), (h_joined, .inl (cy, 9, .inl a_joined)), (h_p1, .inl (cy, 20, .inl a_p1)), (h_p2, .inl (cy, 20, .inl a_p2))] sz) := by
  refine Met.ofW (cc := cX1_pickSpeeds) (maxL := 10) (ret := none) (by decide) rfl ?_
  intro p e s m args below meth c s₁ B hml hv
  obtain ⟨hargs, hsz, hP, hK, hD0⟩ := hv
  have hx := B.exec
  have hb := B.bytes
  have hr := B.returns
  have hts := atoms_spec (ws := wsX1_pickSpeeds) B.pre
  have hown : s.vm.findClass RX1 = some m.cls := findClass_of_methodNamed B.named
  have hlocks := B.notSynchronized
  subst hsz
  have hD := hD0.self (sz := s.heap.size)
  generalize hAe : va_A [(h_this, .inr (1, [.int f_places, g_this_1, .ref h_costs, .ref h_here, .ref h_behind, g_this_5, .ref h_joined])), (h_behind, .inl (cy, 180, .inl a_behind)), (h_costs, .inl (cy, 2160, .inl a_costs)), (h_here, .inl (cy, 180, .inl a_here)), (h_joined, .inl (cy, 9, .inl a_joined)), (h_p1, .inl (cy, 20, .inl a_p1)), (h_p2, .inl (cy, 20, .inl a_p2))] s.heap.size = A at hD ⊢
  have hA : ∀ q : Nat, s.heap.size ≤ q → A q := fun q h => by rw [← hAe]; exact Or.inr h
  have hS : va_S A s.heap s.heap [] := va_S.rf
  have in_X1 : ∀ w ∈ u_ws RX1 TX1 7, w ∈ wsX1_pickSpeeds := by decide +kernel
  have k_9 := hts (.fieldLink RX1 9 "ChequeDesk$Head" "places" "I") (by decide +kernel)
  have k_22 := hts (.fieldLink RX1 22 "ChequeDesk$Head" "here" "[I") (by decide +kernel)
  have k_25 := hts (.fieldLink RX1 25 "ChequeDesk$Head" "behind" "[I") (by decide +kernel)
  have m_48_1 := hts (.methodLink RX1 48 Lib.Math.min.name) (by decide +kernel)
  have m_48_2 := hts (.static Lib.Math.min.name) (by decide +kernel)
  have m_48_3 := hts (.initialized "java/lang/Math") (by decide +kernel)
  have m_48_4 := hts (.code Lib.Math.min.name Lib.Math.min.code 2 (some .int)) (by decide +kernel)
  have m_75_1 := hts (.methodLink RX1 75 Lib.Math.max.name) (by decide +kernel)
  have m_75_2 := hts (.static Lib.Math.max.name) (by decide +kernel)
  have m_75_3 := hts (.initialized "java/lang/Math") (by decide +kernel)
  have m_75_4 := hts (.code Lib.Math.max.name Lib.Math.max.code 2 (some .int)) (by decide +kernel)
  have hl := lv_entry ([.ref h_this, .ref h_p1, .ref h_p2, .int x3]) (n := 10) (Nat.le_of_ble_eq_true rfl)
  rw [show entryFrame m args 10 = entryFrame m ([.ref h_this, .ref h_p1, .ref h_p2, .int x3] : List Value).toArray 10 by rw [hargs], lg_entry_eq]
  generalize (lg_sl ([.ref h_this, .ref h_p1, .ref h_p2, .int x3]) ++ List.replicate (10 - (lg_sl ([.ref h_this, .ref h_p1, .ref h_p2, .int x3])).length) Slot.unset).toArray = ls at hl ⊢
  have hl : lv_has ls 10 [(0, .ref h_this), (1, .ref h_p1), (2, .ref h_p2), (3, .int x3)] := hl
  have hP : va_P (dC, dI) vwCl [(h_this, .inr (1, [.int f_places, g_this_1, .ref h_costs, .ref h_here, .ref h_behind, g_this_5, .ref h_joined])), (h_behind, .inl (cy, 180, .inl a_behind)), (h_costs, .inl (cy, 2160, .inl a_costs)), (h_here, .inl (cy, 180, .inl a_here)), (h_joined, .inl (cy, 9, .inl a_joined)), (h_p1, .inl (cy, 20, .inl a_p1)), (h_p2, .inl (cy, 20, .inl a_p2))] s.heap := hP
  change W p l e rm_X1_pickSpeeds s m args below meth c s.heap [] 0 0 _ _
  generalize hQQ : MQ below _ _ _ _ _ _ = QQ
  have RET : ∀ (a_behind : Nat → Int32) (a_here : Nat → Int32) (a_joined : Nat → Int32) (a_p2 : Nat → Int32) (H : Heap) (locs : List Loc) (ls : Array Slot) (pc : Nat), decode cX1_pickSpeeds pc = .ok (.return_, 1) → Q a_behind a_here a_joined a_p2 → va_P (dC, dI) vwCl [(h_this, .inr (1, [.int f_places, g_this_1, .ref h_costs, .ref h_here, .ref h_behind, g_this_5, .ref h_joined])), (h_behind, .inl (cy, 180, .inl a_behind)), (h_costs, .inl (cy, 2160, .inl a_costs)), (h_here, .inl (cy, 180, .inl a_here)), (h_joined, .inl (cy, 9, .inl a_joined)), (h_p1, .inl (cy, 20, .inl a_p1)), (h_p2, .inl (cy, 20, .inl a_p2))] H → va_D A [(h_this, .inr (1, [.int f_places, g_this_1, .ref h_costs, .ref h_here, .ref h_behind, g_this_5, .ref h_joined])), (h_behind, .inl (cy, 180, .inl a_behind)), (h_costs, .inl (cy, 2160, .inl a_costs)), (h_here, .inl (cy, 180, .inl a_here)), (h_joined, .inl (cy, 9, .inl a_joined)), (h_p1, .inl (cy, 20, .inl a_p1)), (h_p2, .inl (cy, 20, .inl a_p2))] → va_S A s.heap H locs → W p l e rm_X1_pickSpeeds s m args below meth c H locs 0 0 QQ (F0 m pc ls []) := by
    intro a_behind a_here a_joined a_p2 H locs ls pc hdg hq hP hD hS
    rw [← hQQ]
    exact W.vret hx hb hr (fun t ht hW => ⟨⟨(a_behind, a_here, a_joined, a_p2), rfl, hq, by rw [ht]; exact hP, va_K.moved hW.alike hK, hD⟩, hS.F ht⟩) hS.2.2 hdg
  clear hQQ
  unfold p_X1_pickSpeeds at h
  have L22 : ∀ (x3 : Int32) (a_behind : Nat → Int32) (a_here : Nat → Int32) (a_joined : Nat → Int32) (K22 : Int32 → Int32 → Int32 → Int32 → (Nat → Int32) → Prop) (n : Nat) (x4 : Int32) (x5 : Int32) (x6 : Int32) (x7 : Int32) (a_p2 : Nat → Int32) (H : Heap) (locs : List Loc) (ls : Array Slot), wl5 (p_X1_pickSpeeds_B22 f_places a_behind a_here x3 K22) n x4 x5 x6 x7 a_p2 → va_P (dC, dI) vwCl [(h_this, .inr (1, [.int f_places, g_this_1, .ref h_costs, .ref h_here, .ref h_behind, g_this_5, .ref h_joined])), (h_behind, .inl (cy, 180, .inl a_behind)), (h_costs, .inl (cy, 2160, .inl a_costs)), (h_here, .inl (cy, 180, .inl a_here)), (h_joined, .inl (cy, 9, .inl a_joined)), (h_p1, .inl (cy, 20, .inl a_p1)), (h_p2, .inl (cy, 20, .inl a_p2))] H → va_D A [(h_this, .inr (1, [.int f_places, g_this_1, .ref h_costs, .ref h_here, .ref h_behind, g_this_5, .ref h_joined])), (h_behind, .inl (cy, 180, .inl a_behind)), (h_costs, .inl (cy, 2160, .inl a_costs)), (h_here, .inl (cy, 180, .inl a_here)), (h_joined, .inl (cy, 9, .inl a_joined)), (h_p1, .inl (cy, 20, .inl a_p1)), (h_p2, .inl (cy, 20, .inl a_p2))] → va_S A s.heap H locs → lv_has ls 10 [(0, .ref h_this), (2, .ref h_p2), (3, .int x3), (4, .int x4), (5, .int x5), (6, .int x6), (7, .int x7)] → (∀ (x4 : Int32) (x5 : Int32) (x6 : Int32) (x7 : Int32) (a_p2 : Nat → Int32) (H : Heap) (locs : List Loc) (ls : Array Slot), K22 x4 x5 x6 x7 a_p2 → va_P (dC, dI) vwCl [(h_this, .inr (1, [.int f_places, g_this_1, .ref h_costs, .ref h_here, .ref h_behind, g_this_5, .ref h_joined])), (h_behind, .inl (cy, 180, .inl a_behind)), (h_costs, .inl (cy, 2160, .inl a_costs)), (h_here, .inl (cy, 180, .inl a_here)), (h_joined, .inl (cy, 9, .inl a_joined)), (h_p1, .inl (cy, 20, .inl a_p1)), (h_p2, .inl (cy, 20, .inl a_p2))] H → va_D A [(h_this, .inr (1, [.int f_places, g_this_1, .ref h_costs, .ref h_here, .ref h_behind, g_this_5, .ref h_joined])), (h_behind, .inl (cy, 180, .inl a_behind)), (h_costs, .inl (cy, 2160, .inl a_costs)), (h_here, .inl (cy, 180, .inl a_here)), (h_joined, .inl (cy, 9, .inl a_joined)), (h_p1, .inl (cy, 20, .inl a_p1)), (h_p2, .inl (cy, 20, .inl a_p2))] → va_S A s.heap H locs → lv_has ls 10 [] → W p l e rm_X1_pickSpeeds s m args below meth c H locs 0 0 QQ (F0 m 133 ls [])) → W p l e rm_X1_pickSpeeds s m args below meth c H locs 0 0 QQ (F0 m 22 ls []) := by
    intro x3 a_behind a_here a_joined K22 n
    induction n with
    | zero => intro x4 x5 x6 x7 a_p2 H locs ls h; exact False.elim h
    | succ n ih =>
      intro x4 x5 x6 x7 a_p2 H locs ls h hP hD hS hl hk
      have ih := fun x4 x5 x6 x7 a_p2 H locs ls h hP hD hS hl => ih x4 x5 x6 x7 a_p2 H locs ls h hP hD hS hl hk
      replace h : p_X1_pickSpeeds_B22 f_places a_behind a_here x3 K22 (wl5 (p_X1_pickSpeeds_B22 f_places a_behind a_here x3 K22) n) x4 x5 x6 x7 a_p2 := h
      unfold p_X1_pickSpeeds_B22 at h
      have L42 : ∀ (x3 : Int32) (x4 : Int32) (x6 : Int32) (x7 : Int32) (x8 : Int32) (a_behind : Nat → Int32) (a_here : Nat → Int32) (a_joined : Nat → Int32) (a_p2 : Nat → Int32) (K42 : Int32 → Prop) (n : Nat) (x9 : Int32) (H : Heap) (locs : List Loc) (ls : Array Slot), wl1 (p_X1_pickSpeeds_B42 a_behind a_here x3 x4 x6 x8 K42) n x9 → va_P (dC, dI) vwCl [(h_this, .inr (1, [.int f_places, g_this_1, .ref h_costs, .ref h_here, .ref h_behind, g_this_5, .ref h_joined])), (h_behind, .inl (cy, 180, .inl a_behind)), (h_costs, .inl (cy, 2160, .inl a_costs)), (h_here, .inl (cy, 180, .inl a_here)), (h_joined, .inl (cy, 9, .inl a_joined)), (h_p1, .inl (cy, 20, .inl a_p1)), (h_p2, .inl (cy, 20, .inl a_p2))] H → va_D A [(h_this, .inr (1, [.int f_places, g_this_1, .ref h_costs, .ref h_here, .ref h_behind, g_this_5, .ref h_joined])), (h_behind, .inl (cy, 180, .inl a_behind)), (h_costs, .inl (cy, 2160, .inl a_costs)), (h_here, .inl (cy, 180, .inl a_here)), (h_joined, .inl (cy, 9, .inl a_joined)), (h_p1, .inl (cy, 20, .inl a_p1)), (h_p2, .inl (cy, 20, .inl a_p2))] → va_S A s.heap H locs → lv_has ls 10 [(0, .ref h_this), (2, .ref h_p2), (3, .int x3), (4, .int x4), (6, .int x6), (7, .int x7), (8, .int x8), (9, .int x9)] → (∀ (x9 : Int32) (H : Heap) (locs : List Loc) (ls : Array Slot), K42 x9 → va_P (dC, dI) vwCl [(h_this, .inr (1, [.int f_places, g_this_1, .ref h_costs, .ref h_here, .ref h_behind, g_this_5, .ref h_joined])), (h_behind, .inl (cy, 180, .inl a_behind)), (h_costs, .inl (cy, 2160, .inl a_costs)), (h_here, .inl (cy, 180, .inl a_here)), (h_joined, .inl (cy, 9, .inl a_joined)), (h_p1, .inl (cy, 20, .inl a_p1)), (h_p2, .inl (cy, 20, .inl a_p2))] H → va_D A [(h_this, .inr (1, [.int f_places, g_this_1, .ref h_costs, .ref h_here, .ref h_behind, g_this_5, .ref h_joined])), (h_behind, .inl (cy, 180, .inl a_behind)), (h_costs, .inl (cy, 2160, .inl a_costs)), (h_here, .inl (cy, 180, .inl a_here)), (h_joined, .inl (cy, 9, .inl a_joined)), (h_p1, .inl (cy, 20, .inl a_p1)), (h_p2, .inl (cy, 20, .inl a_p2))] → va_S A s.heap H locs → lv_has ls 10 [(0, .ref h_this), (2, .ref h_p2), (3, .int x3), (4, .int x4), (7, .int x7), (8, .int x8), (9, .int x9)] → W p l e rm_X1_pickSpeeds s m args below meth c H locs 0 0 QQ (F0 m 83 ls [])) → W p l e rm_X1_pickSpeeds s m args below meth c H locs 0 0 QQ (F0 m 42 ls []) := by
        intro x3 x4 x6 x7 x8 a_behind a_here a_joined a_p2 K42 n
        induction n with
        | zero => intro x9 H locs ls h; exact False.elim h
        | succ n ih =>
          intro x9 H locs ls h hP hD hS hl hk
          have ih := fun x9 H locs ls h hP hD hS hl => ih x9 H locs ls h hP hD hS hl hk
          replace h : p_X1_pickSpeeds_B42 a_behind a_here x3 x4 x6 x8 K42 (wl1 (p_X1_pickSpeeds_B42 a_behind a_here x3 x4 x6 x8 K42) n) x9 := h
          unfold p_X1_pickSpeeds_B42 at h
          refine lv_iload hx hb dX1_pickSpeeds_42 (lv_at hl 7 rfl) ?_
          refine lv_iload hx hb dX1_pickSpeeds_44 (lv_at hl 4 rfl) ?_
          refine lv_icmp_ge (tgt := 83) hx hb dX1_pickSpeeds_46 (by decide) (fun c46 => ?_) (fun c46 => ?_)
          · replace h := And.left h c46
            exact hk x9 H locs ls h hP hD hS (lv_sub hl [0, 1, 2, 3, 5, 6, 7] rfl)
          · replace h := And.right h c46
            refine lv_iload hx hb dX1_pickSpeeds_49 (lv_at hl 3 rfl) ?_
            refine lv_aload_n hx hb dX1_pickSpeeds_51 rfl (lv_at hl 0 rfl) ?_
            refine va_get (D := (dC, dI)) (ci := 1) (v := .ref h_here) (C := RX1) (T := TX1) (N := 7) hx hb hts in_X1 hown hK hP 0 rfl rfl 3 (by decide) k_22 (fun _ h9 => h9) rfl dX1_pickSpeeds_52 ?_
            refine lv_iload hx hb dX1_pickSpeeds_55 (lv_at hl 6 rfl) ?_
            refine lv_iload hx hb dX1_pickSpeeds_57 (lv_at hl 7 rfl) ?_
            refine lv_iadd hx hb dX1_pickSpeeds_59 ?_
            obtain ⟨b60, h⟩ := h
            refine va_iald hx hb hK hP 3 0 rfl rfl b60 dX1_pickSpeeds_60 ?_
            refine lv_iadd hx hb dX1_pickSpeeds_61 ?_
            refine lv_aload_n hx hb dX1_pickSpeeds_62 rfl (lv_at hl 0 rfl) ?_
            refine va_get (D := (dC, dI)) (ci := 1) (v := .ref h_behind) (C := RX1) (T := TX1) (N := 7) hx hb hts in_X1 hown hK hP 0 rfl rfl 4 (by decide) k_25 (fun _ h9 => h9) rfl dX1_pickSpeeds_63 ?_
            refine lv_iload hx hb dX1_pickSpeeds_66 (lv_at hl 6 rfl) ?_
            refine lv_iload hx hb dX1_pickSpeeds_68 (lv_at hl 7 rfl) ?_
            refine lv_iadd hx hb dX1_pickSpeeds_70 ?_
            obtain ⟨b71, h⟩ := h
            refine va_iald hx hb hK hP 1 0 rfl rfl b71 dX1_pickSpeeds_71 ?_
            refine lv_iadd hx hb dX1_pickSpeeds_72 ?_
            refine lv_iload_n hx hb dX1_pickSpeeds_73 rfl (lv_at hl 2 rfl) ?_
            refine lv_icmp_eq (tgt := 83) hx hb dX1_pickSpeeds_74 (by decide) (fun c74 => ?_) (fun c74 => ?_)
            · replace h := And.left h c74
              exact hk x9 H locs ls h hP hD hS (lv_sub hl [0, 1, 2, 3, 5, 6, 7] rfl)
            · replace h := And.right h c74
              refine lv_iinc (v := x9 + 1) (lv' := [(9, .int (x9 + 1)), (0, .ref h_this), (2, .ref h_p2), (3, .int x3), (4, .int x4), (6, .int x6), (7, .int x7), (8, .int x8)]) hx hb dX1_pickSpeeds_77 hl (k := 7) rfl (by rfl) (by decide) rfl (fun ls hl => ?_)
              refine lv_goto (tgt := 42) hx hb dX1_pickSpeeds_80 (by decide) ?_
              exact ih (x9 + 1) H locs ls h hP hD hS (lv_sub hl [1, 2, 3, 4, 5, 6, 7, 0] rfl)
      refine lv_iload hx hb dX1_pickSpeeds_22 (lv_at hl 6 rfl) ?_
      refine lv_aload_n hx hb dX1_pickSpeeds_24 rfl (lv_at hl 0 rfl) ?_
      refine va_get (D := (dC, dI)) (ci := 1) (v := .int f_places) (C := RX1) (T := TX1) (N := 7) hx hb hts in_X1 hown hK hP 0 rfl rfl 0 (by decide) k_9 (fun _ h9 => h9) rfl dX1_pickSpeeds_25 ?_
      refine lv_icmp_ge (tgt := 133) hx hb dX1_pickSpeeds_28 (by decide) (fun c28 => ?_) (fun c28 => ?_)
      · replace h := And.left h c28
        exact hk x4 x5 x6 x7 a_p2 H locs ls h hP hD hS (lv_sub hl [] rfl)
      · replace h := And.right h c28
        refine lv_iload hx hb dX1_pickSpeeds_31 (lv_at hl 6 rfl) ?_
        refine lv_bipush (v := 9) hx hb dX1_pickSpeeds_33 (by decide) ?_
        refine lv_imul hx hb dX1_pickSpeeds_35 ?_
        refine lv_istore (lv' := [(8, .int (x7 * 9)), (0, .ref h_this), (2, .ref h_p2), (3, .int x3), (4, .int x4), (5, .int x5), (6, .int x6), (7, .int x7)]) hx hb dX1_pickSpeeds_36 hl (by decide) rfl (fun ls hl => ?_)
        refine lv_iload hx hb dX1_pickSpeeds_38 (lv_at hl 5 rfl) ?_
        refine lv_istore (lv' := [(9, .int x5), (8, .int (x7 * 9)), (0, .ref h_this), (2, .ref h_p2), (3, .int x3), (4, .int x4), (5, .int x5), (6, .int x6), (7, .int x7)]) hx hb dX1_pickSpeeds_40 hl (by decide) rfl (fun ls hl => ?_)
        obtain ⟨n42, h⟩ := h
        refine L42 x3 x4 x6 x7 (x7 * 9) a_behind a_here a_joined a_p2 _ n42 x5 H locs ls h hP hD hS (lv_sub hl [2, 3, 4, 5, 7, 8, 1, 0] rfl) (fun x9_83 H locs ls h hP hD hS hl => ?_)
        refine lv_aload_n hx hb dX1_pickSpeeds_83 rfl (lv_at hl 1 rfl) ?_
        refine lv_iload hx hb dX1_pickSpeeds_84 (lv_at hl 4 rfl) ?_
        refine lv_iconst (v := 4) hx hb dX1_pickSpeeds_86 (by decide) ?_
        refine lv_iload hx hb dX1_pickSpeeds_87 (lv_at hl 6 rfl) ?_
        refine lv_iadd hx hb dX1_pickSpeeds_89 ?_
        obtain ⟨b90, h⟩ := h
        refine va_iast hx hb hK hP hD hS 6 0 rfl rfl b90 dX1_pickSpeeds_90 (fun H locs hP hD hS => ?_)
        have hP : va_P (dC, dI) vwCl [(h_this, .inr (1, [.int f_places, g_this_1, .ref h_costs, .ref h_here, .ref h_behind, g_this_5, .ref h_joined])), (h_behind, .inl (cy, 180, .inl a_behind)), (h_costs, .inl (cy, 2160, .inl a_costs)), (h_here, .inl (cy, 180, .inl a_here)), (h_joined, .inl (cy, 9, .inl a_joined)), (h_p1, .inl (cy, 20, .inl a_p1)), (h_p2, .inl (cy, 20, .inl (upd a_p2 (Int32.toNatClampNeg x7) (4 + x9_83))))] H := hP
        have hD : va_D A [(h_this, .inr (1, [.int f_places, g_this_1, .ref h_costs, .ref h_here, .ref h_behind, g_this_5, .ref h_joined])), (h_behind, .inl (cy, 180, .inl a_behind)), (h_costs, .inl (cy, 2160, .inl a_costs)), (h_here, .inl (cy, 180, .inl a_here)), (h_joined, .inl (cy, 9, .inl a_joined)), (h_p1, .inl (cy, 20, .inl a_p1)), (h_p2, .inl (cy, 20, .inl (upd a_p2 (Int32.toNatClampNeg x7) (4 + x9_83))))] := hD
        refine lv_iload hx hb dX1_pickSpeeds_91 (lv_at hl 3 rfl) ?_
        refine lv_aload_n hx hb dX1_pickSpeeds_93 rfl (lv_at hl 0 rfl) ?_
        refine va_get (D := (dC, dI)) (ci := 1) (v := .ref h_here) (C := RX1) (T := TX1) (N := 7) hx hb hts in_X1 hown hK hP 0 rfl rfl 3 (by decide) k_22 (fun _ h9 => h9) rfl dX1_pickSpeeds_94 ?_
        refine lv_iload hx hb dX1_pickSpeeds_97 (lv_at hl 5 rfl) ?_
        refine lv_iload hx hb dX1_pickSpeeds_99 (lv_at hl 6 rfl) ?_
        refine lv_iadd hx hb dX1_pickSpeeds_101 ?_
        obtain ⟨b102, h⟩ := h
        refine va_iald hx hb hK hP 3 0 rfl rfl b102 dX1_pickSpeeds_102 ?_
        refine lv_iadd hx hb dX1_pickSpeeds_103 ?_
        refine lv_istore (lv' := [(4, .int (x4 + (a_here (Int32.toNatClampNeg ((x7 * 9) + x9_83))))), (0, .ref h_this), (2, .ref h_p2), (3, .int x3), (7, .int x7), (8, .int (x7 * 9)), (9, .int x9_83)]) hx hb dX1_pickSpeeds_104 hl (by decide) rfl (fun ls hl => ?_)
        refine lv_iconst (v := 0) hx hb dX1_pickSpeeds_106 (by decide) ?_
        refine lv_iload hx hb dX1_pickSpeeds_107 (lv_at hl 6 rfl) ?_
        refine lv_iconst (v := 1) hx hb dX1_pickSpeeds_109 (by decide) ?_
        refine lv_isub hx hb dX1_pickSpeeds_110 ?_
        refine my_mmax hx hb (by rw [hml]; exact hl.1.symm) hown m_75_1 m_75_2 m_75_3 m_75_4 (Nat.le_of_ble_eq_true rfl) (Nat.le_of_ble_eq_true rfl) (Nat.zero_le _) (Nat.zero_le _) dX1_pickSpeeds_111 ?_
        refine lv_istore (lv' := [(5, .int (jmax 0 (x9_83 - 1))), (4, .int (x4 + (a_here (Int32.toNatClampNeg ((x7 * 9) + x9_83))))), (0, .ref h_this), (2, .ref h_p2), (3, .int x3), (7, .int x7), (8, .int (x7 * 9)), (9, .int x9_83)]) hx hb dX1_pickSpeeds_114 hl (by decide) rfl (fun ls hl => ?_)
        refine lv_bipush (v := 8) hx hb dX1_pickSpeeds_116 (by decide) ?_
        refine lv_iload hx hb dX1_pickSpeeds_118 (lv_at hl 7 rfl) ?_
        refine lv_iconst (v := 1) hx hb dX1_pickSpeeds_120 (by decide) ?_
        refine lv_iadd hx hb dX1_pickSpeeds_121 ?_
        refine my_mmin hx hb (by rw [hml]; exact hl.1.symm) hown m_48_1 m_48_2 m_48_3 m_48_4 (Nat.le_of_ble_eq_true rfl) (Nat.le_of_ble_eq_true rfl) (Nat.zero_le _) (Nat.zero_le _) dX1_pickSpeeds_122 ?_
        refine lv_istore (lv' := [(6, .int (jmin 8 (x9_83 + 1))), (5, .int (jmax 0 (x9_83 - 1))), (4, .int (x4 + (a_here (Int32.toNatClampNeg ((x7 * 9) + x9_83))))), (0, .ref h_this), (2, .ref h_p2), (3, .int x3), (7, .int x7), (8, .int (x7 * 9)), (9, .int x9_83)]) hx hb dX1_pickSpeeds_125 hl (by decide) rfl (fun ls hl => ?_)
        refine lv_iinc (v := x7 + 1) (lv' := [(7, .int (x7 + 1)), (6, .int (jmin 8 (x9_83 + 1))), (5, .int (jmax 0 (x9_83 - 1))), (4, .int (x4 + (a_here (Int32.toNatClampNeg ((x7 * 9) + x9_83))))), (0, .ref h_this), (2, .ref h_p2), (3, .int x3), (8, .int (x7 * 9)), (9, .int x9_83)]) hx hb dX1_pickSpeeds_127 hl (k := 6) rfl (by rfl) (by decide) rfl (fun ls hl => ?_)
        refine lv_goto (tgt := 22) hx hb dX1_pickSpeeds_130 (by decide) ?_
        exact ih (x4 + (a_here (Int32.toNatClampNeg ((x7 * 9) + x9_83)))) (jmax 0 (x9_83 - 1)) (jmin 8 (x9_83 + 1)) (x7 + 1) (upd a_p2 (Int32.toNatClampNeg x7) (4 + x9_83)) H locs ls h hP hD hS (lv_sub hl [4, 5, 6, 3, 2, 1, 0] rfl)
  generalize hlo : ([] : List Loc) = locs at hS ⊢
  obtain ⟨H, hH⟩ : ∃ z, z = s.heap := ⟨_, rfl⟩
  rw [show W p l e rm_X1_pickSpeeds s m args below meth c s.heap = W p l e rm_X1_pickSpeeds s m args below meth c H by rw [hH]]
  replace hP : va_P (dC, dI) vwCl [(h_this, .inr (1, [.int f_places, g_this_1, .ref h_costs, .ref h_here, .ref h_behind, g_this_5, .ref h_joined])), (h_behind, .inl (cy, 180, .inl a_behind)), (h_costs, .inl (cy, 2160, .inl a_costs)), (h_here, .inl (cy, 180, .inl a_here)), (h_joined, .inl (cy, 9, .inl a_joined)), (h_p1, .inl (cy, 20, .inl a_p1)), (h_p2, .inl (cy, 20, .inl a_p2))] H := by rw [hH]; exact hP
  replace hS : va_S A s.heap H locs := by rw [hH]; exact hS
  clear hH hlo
  refine lv_aload_n hx hb dX1_pickSpeeds_0 rfl (lv_at hl 0 rfl) ?_
  refine lv_aload_n hx hb dX1_pickSpeeds_1 rfl (lv_at hl 1 rfl) ?_
  have hPc := hP.sub (ws' := [(h_this, .inr (1, [.int f_places, g_this_1, .ref h_costs, .ref h_here, .ref h_behind, g_this_5, .ref h_joined])), (h_costs, .inl (cy, 2160, .inl a_costs)), (h_here, .inl (cy, 180, .inl a_here)), (h_p1, .inl (cy, 20, .inl a_p1))]) [0, 2, 3, 5] rfl
  have hDc := hD.sub (ws' := [(h_this, .inr (1, [.int f_places, g_this_1, .ref h_costs, .ref h_here, .ref h_behind, g_this_5, .ref h_joined])), (h_costs, .inl (cy, 2160, .inl a_costs)), (h_here, .inl (cy, 180, .inl a_here)), (h_p1, .inl (cy, 20, .inl a_p1))]) [0, 2, 3, 5] (by decide) rfl
  have hFc := va_free (wc := [(h_this, .inr (1, [.int f_places, g_this_1, .ref h_costs, .ref h_here, .ref h_behind, g_this_5, .ref h_joined])), (h_costs, .inl (cy, 2160, .inl a_costs)), (h_here, .inl (cy, 180, .inl a_here)), (h_p1, .inl (cy, 20, .inl a_p1))]) hD hS hA [0, 2, 3, 5] rfl
  refine va_callv (va_runV (As := [.ref h_p1]) (rest := []) ⟨hx, hb, hml, hown, hts⟩ (c_X1_allowOnly l dC dI cy h_this h_costs h_here h_p1 H.size (g_this_1) (.ref h_behind) (g_this_5) (.ref h_joined) f_places a_costs a_here a_p1  _ h) (cwV 1 hts gX1_pickSpeeds_X1_allowOnly rfl rfl rfl q_X1_allowOnly ⟨Nat.le_of_ble_eq_true rfl, Nat.le_of_ble_eq_true rfl⟩) ⟨fun a U g mk q => by obtain ⟨q0, q1, qP, qK, qD⟩ := q; exact ⟨q0, q1, qP, va_K.moved (u := U) (U := U.calling g mk a) (Vm.Alike.refl U.vm) qK, qD⟩, va_recv hK hP (ci := 1) (q0 := 0) rfl rfl, fun U hU hW => ⟨rfl, by rw [hU], by rw [hU]; exact hPc, va_K.moved hW.alike hK, hDc.weaken (fun _ _ _ _ => trivial)⟩⟩ rfl rfl hl.1 rfl (lv_room (Nat.le_of_ble_eq_true rfl)) dX1_pickSpeeds_2 ⟨Nat.le_of_ble_eq_true rfl, Nat.le_of_ble_eq_true rfl⟩) hS (fun q _ h => hFc q h) hFc (fun u t H1 locs ht hvm hw hB hz1 hk1 hS => ?_)
  obtain ⟨a_here_2, rfl⟩ : ∃ z, z = u := ⟨_, rfl⟩
  obtain ⟨hP1, hK1, hD1⟩ := hB
  rw [ht] at hP1
  obtain ⟨hP, hD⟩ := va_join (wr := [(h_behind, .inl (cy, 180, .inl a_behind)), (h_joined, .inl (cy, 9, .inl a_joined)), (h_p2, .inl (cy, 20, .inl a_p2))]) (w1 := [(h_this, .inr (1, [.int f_places, g_this_1, .ref h_costs, .ref h_here, .ref h_behind, g_this_5, .ref h_joined])), (h_costs, .inl (cy, 2160, .inl a_costs)), (h_here, .inl (cy, 180, .inl a_here_2)), (h_p1, .inl (cy, 20, .inl a_p1))]) hP hD [0, 2, 3, 5] [1, 4, 6] rfl rfl (by decide) (by decide) hk1 hFc hP1 hD1
  replace hP := hP.sub (ws' := [(h_this, .inr (1, [.int f_places, g_this_1, .ref h_costs, .ref h_here, .ref h_behind, g_this_5, .ref h_joined])), (h_behind, .inl (cy, 180, .inl a_behind)), (h_costs, .inl (cy, 2160, .inl a_costs)), (h_here, .inl (cy, 180, .inl a_here_2)), (h_joined, .inl (cy, 9, .inl a_joined)), (h_p1, .inl (cy, 20, .inl a_p1)), (h_p2, .inl (cy, 20, .inl a_p2))]) [3, 0, 4, 5, 1, 6, 2] rfl
  replace hD := hD.sub (ws' := [(h_this, .inr (1, [.int f_places, g_this_1, .ref h_costs, .ref h_here, .ref h_behind, g_this_5, .ref h_joined])), (h_behind, .inl (cy, 180, .inl a_behind)), (h_costs, .inl (cy, 2160, .inl a_costs)), (h_here, .inl (cy, 180, .inl a_here_2)), (h_joined, .inl (cy, 9, .inl a_joined)), (h_p1, .inl (cy, 20, .inl a_p1)), (h_p2, .inl (cy, 20, .inl a_p2))]) [3, 0, 4, 5, 1, 6, 2] (by decide) rfl
  clear hPc hDc hFc hP1 hK1 hD1 hz1 hk1 hvm
  subst ht
  generalize t.heap = H at hP hS ⊢
  replace h := hw
  clear hw
  refine lv_aload_n hx hb dX1_pickSpeeds_5 rfl (lv_at hl 0 rfl) ?_
  have hPc := hP.sub (ws' := [(h_this, .inr (1, [.int f_places, g_this_1, .ref h_costs, .ref h_here, .ref h_behind, g_this_5, .ref h_joined])), (h_behind, .inl (cy, 180, .inl a_behind)), (h_here, .inl (cy, 180, .inl a_here_2)), (h_joined, .inl (cy, 9, .inl a_joined))]) [0, 1, 3, 4] rfl
  have hDc := hD.sub (ws' := [(h_this, .inr (1, [.int f_places, g_this_1, .ref h_costs, .ref h_here, .ref h_behind, g_this_5, .ref h_joined])), (h_behind, .inl (cy, 180, .inl a_behind)), (h_here, .inl (cy, 180, .inl a_here_2)), (h_joined, .inl (cy, 9, .inl a_joined))]) [0, 1, 3, 4] (by decide) rfl
  have hFc := va_free (wc := [(h_this, .inr (1, [.int f_places, g_this_1, .ref h_costs, .ref h_here, .ref h_behind, g_this_5, .ref h_joined])), (h_behind, .inl (cy, 180, .inl a_behind)), (h_here, .inl (cy, 180, .inl a_here_2)), (h_joined, .inl (cy, 9, .inl a_joined))]) hD hS hA [0, 1, 3, 4] rfl
  refine va_callv (va_runV (As := []) (rest := []) ⟨hx, hb, hml, hown, hts⟩ (c_X1_sumFromTheEnd l dC dI cy h_this h_behind h_here h_joined H.size (g_this_1) (.ref h_costs) (g_this_5) f_places a_behind a_here_2 a_joined  _ h) (cwV 0 hts gX1_pickSpeeds_X1_sumFromTheEnd rfl rfl rfl q_X1_sumFromTheEnd ⟨Nat.le_of_ble_eq_true rfl, Nat.le_of_ble_eq_true rfl⟩) ⟨fun a U g mk q => by obtain ⟨q0, q1, qP, qK, qD⟩ := q; exact ⟨q0, q1, qP, va_K.moved (u := U) (U := U.calling g mk a) (Vm.Alike.refl U.vm) qK, qD⟩, va_recv hK hP (ci := 1) (q0 := 0) rfl rfl, fun U hU hW => ⟨rfl, by rw [hU], by rw [hU]; exact hPc, va_K.moved hW.alike hK, hDc.weaken (fun _ _ _ _ => trivial)⟩⟩ rfl rfl hl.1 rfl (lv_room (Nat.le_of_ble_eq_true rfl)) dX1_pickSpeeds_6 ⟨Nat.le_of_ble_eq_true rfl, Nat.le_of_ble_eq_true rfl⟩) hS (fun q _ h => hFc q h) hFc (fun u t H1 locs ht hvm hw hB hz1 hk1 hS => ?_)
  obtain ⟨a_behind_6, a_joined_6⟩ := u
  obtain ⟨hP1, hK1, hD1⟩ := hB
  rw [ht] at hP1
  obtain ⟨hP, hD⟩ := va_join (wr := [(h_costs, .inl (cy, 2160, .inl a_costs)), (h_p1, .inl (cy, 20, .inl a_p1)), (h_p2, .inl (cy, 20, .inl a_p2))]) (w1 := [(h_this, .inr (1, [.int f_places, g_this_1, .ref h_costs, .ref h_here, .ref h_behind, g_this_5, .ref h_joined])), (h_behind, .inl (cy, 180, .inl a_behind_6)), (h_here, .inl (cy, 180, .inl a_here_2)), (h_joined, .inl (cy, 9, .inl a_joined_6))]) hP hD [0, 1, 3, 4] [2, 5, 6] rfl rfl (by decide) (by decide) hk1 hFc hP1 hD1
  replace hP := hP.sub (ws' := [(h_this, .inr (1, [.int f_places, g_this_1, .ref h_costs, .ref h_here, .ref h_behind, g_this_5, .ref h_joined])), (h_behind, .inl (cy, 180, .inl a_behind_6)), (h_costs, .inl (cy, 2160, .inl a_costs)), (h_here, .inl (cy, 180, .inl a_here_2)), (h_joined, .inl (cy, 9, .inl a_joined_6)), (h_p1, .inl (cy, 20, .inl a_p1)), (h_p2, .inl (cy, 20, .inl a_p2))]) [3, 4, 0, 5, 6, 1, 2] rfl
  replace hD := hD.sub (ws' := [(h_this, .inr (1, [.int f_places, g_this_1, .ref h_costs, .ref h_here, .ref h_behind, g_this_5, .ref h_joined])), (h_behind, .inl (cy, 180, .inl a_behind_6)), (h_costs, .inl (cy, 2160, .inl a_costs)), (h_here, .inl (cy, 180, .inl a_here_2)), (h_joined, .inl (cy, 9, .inl a_joined_6)), (h_p1, .inl (cy, 20, .inl a_p1)), (h_p2, .inl (cy, 20, .inl a_p2))]) [3, 4, 0, 5, 6, 1, 2] (by decide) rfl
  clear hPc hDc hFc hP1 hK1 hD1 hz1 hk1 hvm
  subst ht
  generalize t.heap = H at hP hS ⊢
  replace h := hw
  clear hw
  refine lv_iconst (v := 0) hx hb dX1_pickSpeeds_9 (by decide) ?_
  refine lv_istore (lv' := [(4, .int 0), (0, .ref h_this), (1, .ref h_p1), (2, .ref h_p2), (3, .int x3)]) hx hb dX1_pickSpeeds_10 hl (by decide) rfl (fun ls hl => ?_)
  refine lv_iconst (v := 0) hx hb dX1_pickSpeeds_12 (by decide) ?_
  refine lv_istore (lv' := [(5, .int 0), (4, .int 0), (0, .ref h_this), (1, .ref h_p1), (2, .ref h_p2), (3, .int x3)]) hx hb dX1_pickSpeeds_13 hl (by decide) rfl (fun ls hl => ?_)
  refine lv_bipush (v := 8) hx hb dX1_pickSpeeds_15 (by decide) ?_
  refine lv_istore (lv' := [(6, .int 8), (5, .int 0), (4, .int 0), (0, .ref h_this), (1, .ref h_p1), (2, .ref h_p2), (3, .int x3)]) hx hb dX1_pickSpeeds_17 hl (by decide) rfl (fun ls hl => ?_)
  refine lv_iconst (v := 0) hx hb dX1_pickSpeeds_19 (by decide) ?_
  refine lv_istore (lv' := [(7, .int 0), (6, .int 8), (5, .int 0), (4, .int 0), (0, .ref h_this), (1, .ref h_p1), (2, .ref h_p2), (3, .int x3)]) hx hb dX1_pickSpeeds_20 hl (by decide) rfl (fun ls hl => ?_)
  obtain ⟨n22, h⟩ := h
  refine L22 x3 a_behind_6 a_here_2 a_joined_6 _ n22 0 0 8 0 a_p2 H locs ls h hP hD hS (lv_sub hl [4, 6, 7, 3, 2, 1, 0] rfl) (fun x4_133 x5_133 x6_133 x7_133 a_p2_133 H locs ls h hP hD hS hl => ?_)
  exact RET a_behind_6 a_here_2 a_joined_6 a_p2_133 H locs ls 133 dX1_pickSpeeds_133 h hP hD hS
abbrev rm_X1_leastCostWith : Room := { frames := 3, cells := 0, slots := 0, locals := 67 }
theorem q_X1_leastCostWith : yX1_leastCostWith.cls = RX1 ∧ yX1_leastCostWith.cls ≠ "java/lang/invoke/MethodHandle" ∧ yX1_leastCostWith.cls ≠ "java/lang/invoke/VarHandle" ∧ (parseMethodDescriptor yX1_leastCostWith.desc).map (fun d => d.parameters.length) = some 3 := by decide +kernel
set_option maxHeartbeats 4000000 in
set_option maxRecDepth 100000 in
theorem c_X1_leastCostWith (l : Launch) (dC : Nat → ClassId) (dI : Nat → Nat → Nat) (cy : ClassId) (h_this : Nat) (h_behind : Nat) (h_costs : Nat) (h_here : Nat) (h_joined : Nat) (h_p1 : Nat) (sz : Nat) (g_this_1 g_this_5 : Value) (f_places : Int32) (a_behind : Nat → Int32) (a_costs : Nat → Int32) (a_here : Nat → Int32) (a_joined : Nat → Int32) (a_p1 : Nat → Int32) (x2 : Int32) (x3 : Int32) (Q : Int32 → (Nat → Int32) → (Nat → Int32) → (Nat → Int32) → Prop) (h : p_X1_leastCostWith f_places a_behind a_costs a_here a_joined a_p1 x2 x3 Q) : Met l yX1_leastCostWith wsX1_leastCostWith rm_X1_leastCostWith (va_Pc [.ref h_this, .ref h_p1, .int x2, .int x3] (fun U => U.heap.size = sz ∧ va_P (dC, dI) vwCl [(h_this, .inr (1, [.int f_places, g_this_1, .ref h_costs, .ref h_here, .ref h_behind, g_this_5, .ref h_joined])), (h_behind, .inl (cy, 180, .inl a_behind)), (h_costs, .inl (cy, 2160, .inl a_costs)), (h_here, .inl (cy, 180, .inl a_here)), (h_joined, .inl (cy, 9, .inl a_joined)), (h_p1, .inl (cy, 20, .inl a_p1))] U.heap ∧ va_K (dC, dI) vwCl [(cy, .int)] U ∧ va_D (fun _ => True) [(h_this, .inr (1, [.int f_places, g_this_1, .ref h_costs, .ref h_here, .ref h_behind, g_this_5, .ref h_joined])), (h_behind, .inl (cy, 180, .inl a_behind)), (h_costs, .inl (cy, 2160, .inl a_costs)), (h_here, .inl (cy, 180, .inl a_here)), (h_joined, .inl (cy, 9, .inl a_joined)), (h_p1, .inl (cy, 20, .inl a_p1))])) (va_Qi (fun (r : Int32) (u : (Nat → Int32) × (Nat → Int32) × (Nat → Int32)) => Q r u.1 u.2.1 u.2.2) (fun (u : (Nat → Int32) × (Nat → Int32) × (Nat → Int32)) (t : State) => va_P (dC, dI) vwCl [(h_this, .inr (1, [.int f_places, g_this_1, .ref h_costs, .ref h_here, .ref h_behind, g_this_5, .ref h_joined])), (h_behind, .inl (cy, 180, .inl (u.1))), (h_costs, .inl (cy, 2160, .inl a_costs)), (h_here, .inl (cy, 180, .inl (u.2.1))), (h_joined, .inl (cy, 9, .inl (u.2.2))), (h_p1, .inl (cy, 20, .inl a_p1))] t.heap ∧ va_K (dC, dI) vwCl [(cy, .int)] t ∧ va_D (va_A [(h_this, .inr (1, [.int f_places, g_this_1, .ref h_costs, .ref h_here, .ref h_behind, g_this_5, .ref h_joined])), (h_behind, .inl (cy, 180, .inl a_behind)), (h_costs, .inl (cy, 2160, .inl a_costs)), (h_here, .inl (cy, 180, .inl a_here)), (h_joined, .inl (cy, 9, .inl a_joined)), (h_p1, .inl (cy, 20, .inl a_p1))] sz) [(h_this, .inr (1, [.int f_places, g_this_1, .ref h_costs, .ref h_here, .ref h_behind, g_this_5, .ref h_joined])), (h_behind, .inl (cy, 180, .inl (u.1))), (h_costs, .inl (cy, 2160, .inl a_costs)), (h_here, .inl (cy, 180, .inl (u.2.1))), (h_joined, .inl (cy, 9, .inl (u.2.2))), (h_p1, .inl (cy, 20, .inl a_p1))]) (va_A [(h_this, .inr (1, [.int f_places, g_this_1, .ref h_costs, .ref h_here, .ref h_behind, g_this_5, .ref h_joined])), (h_behind, .inl (cy, 180, .inl a_behind)), (h_costs, .inl (cy, 2160, .inl a_costs)), (h_here, .inl (cy, 180, .inl a_here)), (h_joined, .inl (cy, 9, .inl a_joined)), (h_p1, .inl (cy, 20, .inl a_p1))] sz)) 0 0 (va_A [(h_this, .inr (1, [.int f_places, g_this_1, .ref h_costs, .ref h_here, .ref h_behind, g_this_5, .ref h_joined])), (h_behind, .inl (cy, 180, .inl a_behind)), (h_costs, .inl (cy, 2160, .inl a_costs)), (h_here, .inl (cy, 180, .inl a_here)), (h_joined, .inl (cy, 9, .inl a_joined)), (h_p1, .inl (cy, 20, .inl a_p1))] sz) := by
  refine Met.ofW (cc := cX1_leastCostWith) (maxL := 4) (ret := (some .int)) (by decide) rfl ?_
  intro p e s m args below meth c s₁ B hml hv
  obtain ⟨hargs, hsz, hP, hK, hD0⟩ := hv
  have hx := B.exec
  have hb := B.bytes
  have hr := B.returns
  have hts := atoms_spec (ws := wsX1_leastCostWith) B.pre
  have hown : s.vm.findClass RX1 = some m.cls := findClass_of_methodNamed B.named
  have hlocks := B.notSynchronized
  subst hsz
  have hD := hD0.self (sz := s.heap.size)
  generalize hAe : va_A [(h_this, .inr (1, [.int f_places, g_this_1, .ref h_costs, .ref h_here, .ref h_behind, g_this_5, .ref h_joined])), (h_behind, .inl (cy, 180, .inl a_behind)), (h_costs, .inl (cy, 2160, .inl a_costs)), (h_here, .inl (cy, 180, .inl a_here)), (h_joined, .inl (cy, 9, .inl a_joined)), (h_p1, .inl (cy, 20, .inl a_p1))] s.heap.size = A at hD ⊢
  have hA : ∀ q : Nat, s.heap.size ≤ q → A q := fun q h => by rw [← hAe]; exact Or.inr h
  have hS : va_S A s.heap s.heap [] := va_S.rf
  have hl := lv_entry ([.ref h_this, .ref h_p1, .int x2, .int x3]) (n := 4) (Nat.le_of_ble_eq_true rfl)
  rw [show entryFrame m args 4 = entryFrame m ([.ref h_this, .ref h_p1, .int x2, .int x3] : List Value).toArray 4 by rw [hargs], lg_entry_eq]
  generalize (lg_sl ([.ref h_this, .ref h_p1, .int x2, .int x3]) ++ List.replicate (4 - (lg_sl ([.ref h_this, .ref h_p1, .int x2, .int x3])).length) Slot.unset).toArray = ls at hl ⊢
  have hl : lv_has ls 4 [(0, .ref h_this), (1, .ref h_p1), (2, .int x2), (3, .int x3)] := hl
  have hP : va_P (dC, dI) vwCl [(h_this, .inr (1, [.int f_places, g_this_1, .ref h_costs, .ref h_here, .ref h_behind, g_this_5, .ref h_joined])), (h_behind, .inl (cy, 180, .inl a_behind)), (h_costs, .inl (cy, 2160, .inl a_costs)), (h_here, .inl (cy, 180, .inl a_here)), (h_joined, .inl (cy, 9, .inl a_joined)), (h_p1, .inl (cy, 20, .inl a_p1))] s.heap := hP
  change W p l e rm_X1_leastCostWith s m args below meth c s.heap [] 0 0 _ _
  generalize hQQ : MQ below _ _ _ _ _ _ = QQ
  have RET : ∀ (r : Int32) (a_behind : Nat → Int32) (a_here : Nat → Int32) (a_joined : Nat → Int32) (H : Heap) (locs : List Loc) (ls : Array Slot) (pc : Nat), decode cX1_leastCostWith pc = .ok (.ireturn, 1) → Q r a_behind a_here a_joined → va_P (dC, dI) vwCl [(h_this, .inr (1, [.int f_places, g_this_1, .ref h_costs, .ref h_here, .ref h_behind, g_this_5, .ref h_joined])), (h_behind, .inl (cy, 180, .inl a_behind)), (h_costs, .inl (cy, 2160, .inl a_costs)), (h_here, .inl (cy, 180, .inl a_here)), (h_joined, .inl (cy, 9, .inl a_joined)), (h_p1, .inl (cy, 20, .inl a_p1))] H → va_D A [(h_this, .inr (1, [.int f_places, g_this_1, .ref h_costs, .ref h_here, .ref h_behind, g_this_5, .ref h_joined])), (h_behind, .inl (cy, 180, .inl a_behind)), (h_costs, .inl (cy, 2160, .inl a_costs)), (h_here, .inl (cy, 180, .inl a_here)), (h_joined, .inl (cy, 9, .inl a_joined)), (h_p1, .inl (cy, 20, .inl a_p1))] → va_S A s.heap H locs → W p l e rm_X1_leastCostWith s m args below meth c H locs 0 0 QQ (F0 m pc ls [.int r]) := by
    intro r a_behind a_here a_joined H locs ls pc hdg hq hP hD hS
    rw [← hQQ]
    exact W.iret (v := r) hx hb hr (fun t ht hW => ⟨⟨r, (a_behind, a_here, a_joined), rfl, hq, by rw [ht]; exact hP, va_K.moved hW.alike hK, hD⟩, hS.F ht⟩) hS.2.2 hdg
  clear hQQ
  unfold p_X1_leastCostWith at h
  generalize hlo : ([] : List Loc) = locs at hS ⊢
  obtain ⟨H, hH⟩ : ∃ z, z = s.heap := ⟨_, rfl⟩
  rw [show W p l e rm_X1_leastCostWith s m args below meth c s.heap = W p l e rm_X1_leastCostWith s m args below meth c H by rw [hH]]
  replace hP : va_P (dC, dI) vwCl [(h_this, .inr (1, [.int f_places, g_this_1, .ref h_costs, .ref h_here, .ref h_behind, g_this_5, .ref h_joined])), (h_behind, .inl (cy, 180, .inl a_behind)), (h_costs, .inl (cy, 2160, .inl a_costs)), (h_here, .inl (cy, 180, .inl a_here)), (h_joined, .inl (cy, 9, .inl a_joined)), (h_p1, .inl (cy, 20, .inl a_p1))] H := by rw [hH]; exact hP
  replace hS : va_S A s.heap H locs := by rw [hH]; exact hS
  clear hH hlo
  refine lv_aload_n hx hb dX1_leastCostWith_0 rfl (lv_at hl 0 rfl) ?_
  refine lv_aload_n hx hb dX1_leastCostWith_1 rfl (lv_at hl 1 rfl) ?_
  have hPc := hP.sub (ws' := [(h_this, .inr (1, [.int f_places, g_this_1, .ref h_costs, .ref h_here, .ref h_behind, g_this_5, .ref h_joined])), (h_costs, .inl (cy, 2160, .inl a_costs)), (h_here, .inl (cy, 180, .inl a_here)), (h_p1, .inl (cy, 20, .inl a_p1))]) [0, 2, 3, 5] rfl
  have hDc := hD.sub (ws' := [(h_this, .inr (1, [.int f_places, g_this_1, .ref h_costs, .ref h_here, .ref h_behind, g_this_5, .ref h_joined])), (h_costs, .inl (cy, 2160, .inl a_costs)), (h_here, .inl (cy, 180, .inl a_here)), (h_p1, .inl (cy, 20, .inl a_p1))]) [0, 2, 3, 5] (by decide) rfl
  have hFc := va_free (wc := [(h_this, .inr (1, [.int f_places, g_this_1, .ref h_costs, .ref h_here, .ref h_behind, g_this_5, .ref h_joined])), (h_costs, .inl (cy, 2160, .inl a_costs)), (h_here, .inl (cy, 180, .inl a_here)), (h_p1, .inl (cy, 20, .inl a_p1))]) hD hS hA [0, 2, 3, 5] rfl
  refine va_callv (va_runV (As := [.ref h_p1]) (rest := []) ⟨hx, hb, hml, hown, hts⟩ (c_X1_allowOnly l dC dI cy h_this h_costs h_here h_p1 H.size (g_this_1) (.ref h_behind) (g_this_5) (.ref h_joined) f_places a_costs a_here a_p1  _ h) (cwV 1 hts gX1_leastCostWith_X1_allowOnly rfl rfl rfl q_X1_allowOnly ⟨Nat.le_of_ble_eq_true rfl, Nat.le_of_ble_eq_true rfl⟩) ⟨fun a U g mk q => by obtain ⟨q0, q1, qP, qK, qD⟩ := q; exact ⟨q0, q1, qP, va_K.moved (u := U) (U := U.calling g mk a) (Vm.Alike.refl U.vm) qK, qD⟩, va_recv hK hP (ci := 1) (q0 := 0) rfl rfl, fun U hU hW => ⟨rfl, by rw [hU], by rw [hU]; exact hPc, va_K.moved hW.alike hK, hDc.weaken (fun _ _ _ _ => trivial)⟩⟩ rfl rfl hl.1 rfl (lv_room (Nat.le_of_ble_eq_true rfl)) dX1_leastCostWith_2 ⟨Nat.le_of_ble_eq_true rfl, Nat.le_of_ble_eq_true rfl⟩) hS (fun q _ h => hFc q h) hFc (fun u t H1 locs ht hvm hw hB hz1 hk1 hS => ?_)
  obtain ⟨a_here_2, rfl⟩ : ∃ z, z = u := ⟨_, rfl⟩
  obtain ⟨hP1, hK1, hD1⟩ := hB
  rw [ht] at hP1
  obtain ⟨hP, hD⟩ := va_join (wr := [(h_behind, .inl (cy, 180, .inl a_behind)), (h_joined, .inl (cy, 9, .inl a_joined))]) (w1 := [(h_this, .inr (1, [.int f_places, g_this_1, .ref h_costs, .ref h_here, .ref h_behind, g_this_5, .ref h_joined])), (h_costs, .inl (cy, 2160, .inl a_costs)), (h_here, .inl (cy, 180, .inl a_here_2)), (h_p1, .inl (cy, 20, .inl a_p1))]) hP hD [0, 2, 3, 5] [1, 4] rfl rfl (by decide) (by decide) hk1 hFc hP1 hD1
  replace hP := hP.sub (ws' := [(h_this, .inr (1, [.int f_places, g_this_1, .ref h_costs, .ref h_here, .ref h_behind, g_this_5, .ref h_joined])), (h_behind, .inl (cy, 180, .inl a_behind)), (h_costs, .inl (cy, 2160, .inl a_costs)), (h_here, .inl (cy, 180, .inl a_here_2)), (h_joined, .inl (cy, 9, .inl a_joined)), (h_p1, .inl (cy, 20, .inl a_p1))]) [2, 0, 3, 4, 1, 5] rfl
  replace hD := hD.sub (ws' := [(h_this, .inr (1, [.int f_places, g_this_1, .ref h_costs, .ref h_here, .ref h_behind, g_this_5, .ref h_joined])), (h_behind, .inl (cy, 180, .inl a_behind)), (h_costs, .inl (cy, 2160, .inl a_costs)), (h_here, .inl (cy, 180, .inl a_here_2)), (h_joined, .inl (cy, 9, .inl a_joined)), (h_p1, .inl (cy, 20, .inl a_p1))]) [2, 0, 3, 4, 1, 5] (by decide) rfl
  clear hPc hDc hFc hP1 hK1 hD1 hz1 hk1 hvm
  subst ht
  generalize t.heap = H at hP hS ⊢
  replace h := hw
  clear hw
  refine lv_aload_n hx hb dX1_leastCostWith_5 rfl (lv_at hl 0 rfl) ?_
  refine lv_iload_n hx hb dX1_leastCostWith_6 rfl (lv_at hl 2 rfl) ?_
  refine lv_iload_n hx hb dX1_leastCostWith_7 rfl (lv_at hl 3 rfl) ?_
  have hPc := hP.sub (ws' := [(h_this, .inr (1, [.int f_places, g_this_1, .ref h_costs, .ref h_here, .ref h_behind, g_this_5, .ref h_joined])), (h_costs, .inl (cy, 2160, .inl a_costs)), (h_here, .inl (cy, 180, .inl a_here_2))]) [0, 2, 3] rfl
  have hDc := hD.sub (ws' := [(h_this, .inr (1, [.int f_places, g_this_1, .ref h_costs, .ref h_here, .ref h_behind, g_this_5, .ref h_joined])), (h_costs, .inl (cy, 2160, .inl a_costs)), (h_here, .inl (cy, 180, .inl a_here_2))]) [0, 2, 3] (by decide) rfl
  have hFc := va_free (wc := [(h_this, .inr (1, [.int f_places, g_this_1, .ref h_costs, .ref h_here, .ref h_behind, g_this_5, .ref h_joined])), (h_costs, .inl (cy, 2160, .inl a_costs)), (h_here, .inl (cy, 180, .inl a_here_2))]) hD hS hA [0, 2, 3] rfl
  refine va_callv (va_runV (As := [.int x2, .int x3]) (rest := []) ⟨hx, hb, hml, hown, hts⟩ (c_X1_allowAt l dC dI cy h_this h_costs h_here H.size (.int f_places) (g_this_1) (.ref h_behind) (g_this_5) (.ref h_joined) a_costs a_here_2 x2 x3 _ h) (cwV 2 hts gX1_leastCostWith_X1_allowAt rfl rfl rfl q_X1_allowAt ⟨Nat.le_of_ble_eq_true rfl, Nat.le_of_ble_eq_true rfl⟩) ⟨fun a U g mk q => by obtain ⟨q0, q1, qP, qK, qD⟩ := q; exact ⟨q0, q1, qP, va_K.moved (u := U) (U := U.calling g mk a) (Vm.Alike.refl U.vm) qK, qD⟩, va_recv hK hP (ci := 1) (q0 := 0) rfl rfl, fun U hU hW => ⟨rfl, by rw [hU], by rw [hU]; exact hPc, va_K.moved hW.alike hK, hDc.weaken (fun _ _ _ _ => trivial)⟩⟩ rfl rfl hl.1 rfl (lv_room (Nat.le_of_ble_eq_true rfl)) dX1_leastCostWith_8 ⟨Nat.le_of_ble_eq_true rfl, Nat.le_of_ble_eq_true rfl⟩) hS (fun q _ h => hFc q h) hFc (fun u t H1 locs ht hvm hw hB hz1 hk1 hS => ?_)
  obtain ⟨a_here_8, rfl⟩ : ∃ z, z = u := ⟨_, rfl⟩
  obtain ⟨hP1, hK1, hD1⟩ := hB
  rw [ht] at hP1
  obtain ⟨hP, hD⟩ := va_join (wr := [(h_behind, .inl (cy, 180, .inl a_behind)), (h_joined, .inl (cy, 9, .inl a_joined)), (h_p1, .inl (cy, 20, .inl a_p1))]) (w1 := [(h_this, .inr (1, [.int f_places, g_this_1, .ref h_costs, .ref h_here, .ref h_behind, g_this_5, .ref h_joined])), (h_costs, .inl (cy, 2160, .inl a_costs)), (h_here, .inl (cy, 180, .inl a_here_8))]) hP hD [0, 2, 3] [1, 4, 5] rfl rfl (by decide) (by decide) hk1 hFc hP1 hD1
  replace hP := hP.sub (ws' := [(h_this, .inr (1, [.int f_places, g_this_1, .ref h_costs, .ref h_here, .ref h_behind, g_this_5, .ref h_joined])), (h_behind, .inl (cy, 180, .inl a_behind)), (h_costs, .inl (cy, 2160, .inl a_costs)), (h_here, .inl (cy, 180, .inl a_here_8)), (h_joined, .inl (cy, 9, .inl a_joined)), (h_p1, .inl (cy, 20, .inl a_p1))]) [3, 0, 4, 5, 1, 2] rfl
  replace hD := hD.sub (ws' := [(h_this, .inr (1, [.int f_places, g_this_1, .ref h_costs, .ref h_here, .ref h_behind, g_this_5, .ref h_joined])), (h_behind, .inl (cy, 180, .inl a_behind)), (h_costs, .inl (cy, 2160, .inl a_costs)), (h_here, .inl (cy, 180, .inl a_here_8)), (h_joined, .inl (cy, 9, .inl a_joined)), (h_p1, .inl (cy, 20, .inl a_p1))]) [3, 0, 4, 5, 1, 2] (by decide) rfl
  clear hPc hDc hFc hP1 hK1 hD1 hz1 hk1 hvm
  subst ht
  generalize t.heap = H at hP hS ⊢
  replace h := hw
  clear hw
  refine lv_aload_n hx hb dX1_leastCostWith_11 rfl (lv_at hl 0 rfl) ?_
  have hPc := hP.sub (ws' := [(h_this, .inr (1, [.int f_places, g_this_1, .ref h_costs, .ref h_here, .ref h_behind, g_this_5, .ref h_joined])), (h_behind, .inl (cy, 180, .inl a_behind)), (h_here, .inl (cy, 180, .inl a_here_8)), (h_joined, .inl (cy, 9, .inl a_joined))]) [0, 1, 3, 4] rfl
  have hDc := hD.sub (ws' := [(h_this, .inr (1, [.int f_places, g_this_1, .ref h_costs, .ref h_here, .ref h_behind, g_this_5, .ref h_joined])), (h_behind, .inl (cy, 180, .inl a_behind)), (h_here, .inl (cy, 180, .inl a_here_8)), (h_joined, .inl (cy, 9, .inl a_joined))]) [0, 1, 3, 4] (by decide) rfl
  have hFc := va_free (wc := [(h_this, .inr (1, [.int f_places, g_this_1, .ref h_costs, .ref h_here, .ref h_behind, g_this_5, .ref h_joined])), (h_behind, .inl (cy, 180, .inl a_behind)), (h_here, .inl (cy, 180, .inl a_here_8)), (h_joined, .inl (cy, 9, .inl a_joined))]) hD hS hA [0, 1, 3, 4] rfl
  refine va_callv (va_runV (As := []) (rest := []) ⟨hx, hb, hml, hown, hts⟩ (c_X1_sumFromTheEnd l dC dI cy h_this h_behind h_here h_joined H.size (g_this_1) (.ref h_costs) (g_this_5) f_places a_behind a_here_8 a_joined  _ h) (cwV 0 hts gX1_leastCostWith_X1_sumFromTheEnd rfl rfl rfl q_X1_sumFromTheEnd ⟨Nat.le_of_ble_eq_true rfl, Nat.le_of_ble_eq_true rfl⟩) ⟨fun a U g mk q => by obtain ⟨q0, q1, qP, qK, qD⟩ := q; exact ⟨q0, q1, qP, va_K.moved (u := U) (U := U.calling g mk a) (Vm.Alike.refl U.vm) qK, qD⟩, va_recv hK hP (ci := 1) (q0 := 0) rfl rfl, fun U hU hW => ⟨rfl, by rw [hU], by rw [hU]; exact hPc, va_K.moved hW.alike hK, hDc.weaken (fun _ _ _ _ => trivial)⟩⟩ rfl rfl hl.1 rfl (lv_room (Nat.le_of_ble_eq_true rfl)) dX1_leastCostWith_12 ⟨Nat.le_of_ble_eq_true rfl, Nat.le_of_ble_eq_true rfl⟩) hS (fun q _ h => hFc q h) hFc (fun u t H1 locs ht hvm hw hB hz1 hk1 hS => ?_)
  obtain ⟨a_behind_12, a_joined_12⟩ := u
  obtain ⟨hP1, hK1, hD1⟩ := hB
  rw [ht] at hP1
  obtain ⟨hP, hD⟩ := va_join (wr := [(h_costs, .inl (cy, 2160, .inl a_costs)), (h_p1, .inl (cy, 20, .inl a_p1))]) (w1 := [(h_this, .inr (1, [.int f_places, g_this_1, .ref h_costs, .ref h_here, .ref h_behind, g_this_5, .ref h_joined])), (h_behind, .inl (cy, 180, .inl a_behind_12)), (h_here, .inl (cy, 180, .inl a_here_8)), (h_joined, .inl (cy, 9, .inl a_joined_12))]) hP hD [0, 1, 3, 4] [2, 5] rfl rfl (by decide) (by decide) hk1 hFc hP1 hD1
  replace hP := hP.sub (ws' := [(h_this, .inr (1, [.int f_places, g_this_1, .ref h_costs, .ref h_here, .ref h_behind, g_this_5, .ref h_joined])), (h_behind, .inl (cy, 180, .inl a_behind_12)), (h_costs, .inl (cy, 2160, .inl a_costs)), (h_here, .inl (cy, 180, .inl a_here_8)), (h_joined, .inl (cy, 9, .inl a_joined_12)), (h_p1, .inl (cy, 20, .inl a_p1))]) [2, 3, 0, 4, 5, 1] rfl
  replace hD := hD.sub (ws' := [(h_this, .inr (1, [.int f_places, g_this_1, .ref h_costs, .ref h_here, .ref h_behind, g_this_5, .ref h_joined])), (h_behind, .inl (cy, 180, .inl a_behind_12)), (h_costs, .inl (cy, 2160, .inl a_costs)), (h_here, .inl (cy, 180, .inl a_here_8)), (h_joined, .inl (cy, 9, .inl a_joined_12)), (h_p1, .inl (cy, 20, .inl a_p1))]) [2, 3, 0, 4, 5, 1] (by decide) rfl
  clear hPc hDc hFc hP1 hK1 hD1 hz1 hk1 hvm
  subst ht
  generalize t.heap = H at hP hS ⊢
  replace h := hw
  clear hw
  refine lv_aload_n hx hb dX1_leastCostWith_15 rfl (lv_at hl 0 rfl) ?_
  have hPc := hP.sub (ws' := [(h_this, .inr (1, [.int f_places, g_this_1, .ref h_costs, .ref h_here, .ref h_behind, g_this_5, .ref h_joined])), (h_behind, .inl (cy, 180, .inl a_behind_12)), (h_here, .inl (cy, 180, .inl a_here_8))]) [0, 1, 3] rfl
  have hDc := hD.sub (ws' := [(h_this, .inr (1, [.int f_places, g_this_1, .ref h_costs, .ref h_here, .ref h_behind, g_this_5, .ref h_joined])), (h_behind, .inl (cy, 180, .inl a_behind_12)), (h_here, .inl (cy, 180, .inl a_here_8))]) [0, 1, 3] (by decide) rfl
  have hFc := va_free (wc := [(h_this, .inr (1, [.int f_places, g_this_1, .ref h_costs, .ref h_here, .ref h_behind, g_this_5, .ref h_joined])), (h_behind, .inl (cy, 180, .inl a_behind_12)), (h_here, .inl (cy, 180, .inl a_here_8))]) hD hS hA [0, 1, 3] rfl
  refine va_calli (va_runV (As := []) (rest := []) ⟨hx, hb, hml, hown, hts⟩ (c_X1_leastCost l dC dI cy h_this h_behind h_here H.size (.int f_places) (g_this_1) (.ref h_costs) (g_this_5) (.ref h_joined) a_behind_12 a_here_8  _ h) (cwV 0 hts gX1_leastCostWith_X1_leastCost rfl rfl rfl q_X1_leastCost ⟨Nat.le_of_ble_eq_true rfl, Nat.le_of_ble_eq_true rfl⟩) ⟨fun a U g mk q => by obtain ⟨q0, q1, qP, qK, qD⟩ := q; exact ⟨q0, q1, qP, va_K.moved (u := U) (U := U.calling g mk a) (Vm.Alike.refl U.vm) qK, qD⟩, va_recv hK hP (ci := 1) (q0 := 0) rfl rfl, fun U hU hW => ⟨rfl, by rw [hU], by rw [hU]; exact hPc, va_K.moved hW.alike hK, hDc.weaken (fun _ _ _ _ => trivial)⟩⟩ rfl rfl hl.1 rfl (lv_room (Nat.le_of_ble_eq_true rfl)) dX1_leastCostWith_16 ⟨Nat.le_of_ble_eq_true rfl, Nat.le_of_ble_eq_true rfl⟩) hS (fun q _ h => hFc q h) hFc (fun r16 u t H1 locs ht hvm hw hB hz1 hk1 hS => ?_)
  obtain ⟨hP1, hK1, hD1⟩ := hB
  rw [ht] at hP1
  obtain ⟨hP, hD⟩ := va_join (wr := [(h_costs, .inl (cy, 2160, .inl a_costs)), (h_joined, .inl (cy, 9, .inl a_joined_12)), (h_p1, .inl (cy, 20, .inl a_p1))]) (w1 := [(h_this, .inr (1, [.int f_places, g_this_1, .ref h_costs, .ref h_here, .ref h_behind, g_this_5, .ref h_joined])), (h_behind, .inl (cy, 180, .inl a_behind_12)), (h_here, .inl (cy, 180, .inl a_here_8))]) hP hD [0, 1, 3] [2, 4, 5] rfl rfl (by decide) (by decide) hk1 hFc hP1 hD1
  replace hP := hP.sub (ws' := [(h_this, .inr (1, [.int f_places, g_this_1, .ref h_costs, .ref h_here, .ref h_behind, g_this_5, .ref h_joined])), (h_behind, .inl (cy, 180, .inl a_behind_12)), (h_costs, .inl (cy, 2160, .inl a_costs)), (h_here, .inl (cy, 180, .inl a_here_8)), (h_joined, .inl (cy, 9, .inl a_joined_12)), (h_p1, .inl (cy, 20, .inl a_p1))]) [3, 4, 0, 5, 1, 2] rfl
  replace hD := hD.sub (ws' := [(h_this, .inr (1, [.int f_places, g_this_1, .ref h_costs, .ref h_here, .ref h_behind, g_this_5, .ref h_joined])), (h_behind, .inl (cy, 180, .inl a_behind_12)), (h_costs, .inl (cy, 2160, .inl a_costs)), (h_here, .inl (cy, 180, .inl a_here_8)), (h_joined, .inl (cy, 9, .inl a_joined_12)), (h_p1, .inl (cy, 20, .inl a_p1))]) [3, 4, 0, 5, 1, 2] (by decide) rfl
  clear hPc hDc hFc hP1 hK1 hD1 hz1 hk1 hvm
  subst ht
  generalize t.heap = H at hP hS ⊢
  replace h := hw
  clear hw
  exact RET r16 a_behind_12 a_here_8 a_joined_12 H locs ls 19 dX1_leastCostWith_19 h hP hD hS
