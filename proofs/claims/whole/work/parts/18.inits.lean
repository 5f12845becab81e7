theorem cy_eq {D : va_G} {cl : List vw_C} {s : State} {cy cA : ClassId} (h : va_K D cl [(cy, .int), (cA, .int)] s) : cA = cy := by
  have h1 : s.vm.findClass ("[" ++ FieldType.int.toString) = some cy := (h.2 0 _ rfl).2
  have h2 : s.vm.findClass ("[" ++ FieldType.int.toString) = some cA := (h.2 1 _ rfl).2
  exact Option.some.inj (h2.symm.trans h1)
theorem my_arr0 (n : Nat) (cA : ClassId) : vp_cell cA (n, .inl (fun _ => (0 : Int32))) = arrV cA n (fun _ => defaultValue .int) := rfl
def ev_N (U : State) : Prop := va_Nw (.methodLinkNest RX5 11 yX0_init "ChequeDesk") U ∧ va_Nw (.methodLinkNest RX5 26 yX1_init "ChequeDesk") U ∧ va_Nw (.methodLinkNest RX5 33 yX3_init "ChequeDesk") U ∧ va_Nw (.methodLinkNest RX5 40 yX2_init "ChequeDesk") U ∧ va_Nw (.methodLinkNest RX5 47 yX4_init "ChequeDesk") U
theorem en_11 {U : State} (h : ev_N U) : va_Nw (.methodLinkNest RX5 11 yX0_init "ChequeDesk") U := h.1
theorem en_26 {U : State} (h : ev_N U) : va_Nw (.methodLinkNest RX5 26 yX1_init "ChequeDesk") U := h.2.1
theorem en_33 {U : State} (h : ev_N U) : va_Nw (.methodLinkNest RX5 33 yX3_init "ChequeDesk") U := h.2.2.1
theorem en_40 {U : State} (h : ev_N U) : va_Nw (.methodLinkNest RX5 40 yX2_init "ChequeDesk") U := h.2.2.2.1
theorem en_47 {U : State} (h : ev_N U) : va_Nw (.methodLinkNest RX5 47 yX4_init "ChequeDesk") U := h.2.2.2.2
theorem en_in {s U : State} (h : ev_N s) (hW : s.WarmedH U.vm) : ev_N U := ⟨(en_11 h).warmM hW, (en_26 h).warmM hW, (en_33 h).warmM hW, (en_40 h).warmM hW, (en_47 h).warmM hW⟩
theorem en_calling {U : State} {g : JFrame} {mk : MethodId} {a : Array Value} (h : ev_N U) : ev_N (U.calling g mk a) := ⟨(en_11 h).same rfl rfl, (en_26 h).same rfl rfl, (en_33 h).same rfl rfl, (en_40 h).same rfl rfl, (en_47 h).same rfl rfl⟩
