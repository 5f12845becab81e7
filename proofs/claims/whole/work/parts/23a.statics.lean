theorem st_arr {args : Array Value} {s : State} {ty : FieldType} (h : (Cond.arrayClass ty).before args s = true) : ∃ cy : ClassId, ArrOfT s cy ty ∧ s.vm.findClass ("[" ++ ty.toString) = some cy := by
  obtain ⟨c, k, comp, h1, h2, h3⟩ := Cond.arrayClass_spec h
  exact ⟨c, fun n z => ⟨fun k h => (by cases h), k, h2, comp, h3⟩, h1⟩
theorem st_int {args : Array Value} {s : State} {t : Term} {n : Int32} (h : (Cond.eq t (.int n)).before args s = true) : t.eval args s none [] s = some (.int n) := by
  obtain ⟨y, h1, h2⟩ := Cond.eq_one h
  rw [h1, ← h2]; rfl
theorem st_str {s : State} {args : Array Value} {own : String} {k : Nat} (h : (Cond.exactly (.string own k) "java/lang/String").before args s = true) : ∃ a : Nat, (Term.string own k).eval args s none [] s = some (.ref a) := by
  obtain ⟨a, c, cA, kA, q1, q2, q3, q4, q5, q6, -⟩ := Cond.exactly_spec (args := args) (first := s) (o := none) (s := s) (idx := []) (t := .string own k) (cls := "java/lang/String") h
  exact ⟨a, q1⟩
theorem st_LAYOUT {s : State} {b : Nat} (hgv : (Jvm.Cond.and given_1 narrow_1).before #[Value.ref b] s = true) (hts0 : ∀ w ∈ lw_tbl, w.before #[Value.ref b] s = true) : ∃ t : Nat, va_Z "ChequeDesk" "LAYOUT" "[I" (.ref t) (fun q : Nat => s.heap.size ≤ q) s s.heap ∧ va_T .int t 18 (fun j => .int (s_LAYOUT j)) (fun q : Nat => s.heap.size ≤ q) s s.heap := by
  have hs := flat_of_before _ hgv
  have e0 := st_int (hs (.eq (.elem (.static "ChequeDesk" "LAYOUT" "[I") (.int 0)) (.int 10)) (by decide +kernel))
  have e1 := st_int (hs (.eq (.elem (.static "ChequeDesk" "LAYOUT" "[I") (.int 1)) (.int (-1))) (by decide +kernel))
  have e2 := st_int (hs (.eq (.elem (.static "ChequeDesk" "LAYOUT" "[I") (.int 2)) (.int (-1))) (by decide +kernel))
  have e3 := st_int (hs (.eq (.elem (.static "ChequeDesk" "LAYOUT" "[I") (.int 3)) (.int (-1))) (by decide +kernel))
  have e4 := st_int (hs (.eq (.elem (.static "ChequeDesk" "LAYOUT" "[I") (.int 4)) (.int (-1))) (by decide +kernel))
  have e5 := st_int (hs (.eq (.elem (.static "ChequeDesk" "LAYOUT" "[I") (.int 5)) (.int 11)) (by decide +kernel))
  have e6 := st_int (hs (.eq (.elem (.static "ChequeDesk" "LAYOUT" "[I") (.int 6)) (.int (-1))) (by decide +kernel))
  have e7 := st_int (hs (.eq (.elem (.static "ChequeDesk" "LAYOUT" "[I") (.int 7)) (.int (-1))) (by decide +kernel))
  have e8 := st_int (hs (.eq (.elem (.static "ChequeDesk" "LAYOUT" "[I") (.int 8)) (.int (-1))) (by decide +kernel))
  have e9 := st_int (hs (.eq (.elem (.static "ChequeDesk" "LAYOUT" "[I") (.int 9)) (.int (-1))) (by decide +kernel))
  have e10 := st_int (hs (.eq (.elem (.static "ChequeDesk" "LAYOUT" "[I") (.int 10)) (.int (-1))) (by decide +kernel))
  have e11 := st_int (hs (.eq (.elem (.static "ChequeDesk" "LAYOUT" "[I") (.int 11)) (.int (-1))) (by decide +kernel))
  have e12 := st_int (hs (.eq (.elem (.static "ChequeDesk" "LAYOUT" "[I") (.int 12)) (.int 11)) (by decide +kernel))
  have e13 := st_int (hs (.eq (.elem (.static "ChequeDesk" "LAYOUT" "[I") (.int 13)) (.int (-1))) (by decide +kernel))
  have e14 := st_int (hs (.eq (.elem (.static "ChequeDesk" "LAYOUT" "[I") (.int 14)) (.int (-1))) (by decide +kernel))
  have e15 := st_int (hs (.eq (.elem (.static "ChequeDesk" "LAYOUT" "[I") (.int 15)) (.int (-1))) (by decide +kernel))
  have e16 := st_int (hs (.eq (.elem (.static "ChequeDesk" "LAYOUT" "[I") (.int 16)) (.int (-1))) (by decide +kernel))
  have e17 := st_int (hs (.eq (.elem (.static "ChequeDesk" "LAYOUT" "[I") (.int 17)) (.int 10)) (by decide +kernel))
  obtain ⟨t, ht, hT⟩ := va_Tof (args := #[Value.ref b]) (s := s) (tm := (.static "ChequeDesk" "LAYOUT" "[I")) (ty := .int) (N := 18) (f := fun j => .int (s_LAYOUT j)) (A := fun q : Nat => s.heap.size ≤ q) (by decide) (hs (.arrayOf (.static "ChequeDesk" "LAYOUT" "[I") .int) (by decide +kernel)) (st_int (hs (.eq (.length (.static "ChequeDesk" "LAYOUT" "[I")) (.int 18)) (by decide +kernel))) (fun j hj => by rcases (show j = 0 ∨ j = 1 ∨ j = 2 ∨ j = 3 ∨ j = 4 ∨ j = 5 ∨ j = 6 ∨ j = 7 ∨ j = 8 ∨ j = 9 ∨ j = 10 ∨ j = 11 ∨ j = 12 ∨ j = 13 ∨ j = 14 ∨ j = 15 ∨ j = 16 ∨ j = 17 by omega) with rfl | rfl | rfl | rfl | rfl | rfl | rfl | rfl | rfl | rfl | rfl | rfl | rfl | rfl | rfl | rfl | rfl | rfl; exact e0; exact e1; exact e2; exact e3; exact e4; exact e5; exact e6; exact e7; exact e8; exact e9; exact e10; exact e11; exact e12; exact e13; exact e14; exact e15; exact e16; exact e17) (fun a h => Nat.not_le.mpr h)
  exact ⟨t, va_Zref (hts0 (.laysStatic "ChequeDesk" "LAYOUT" "[I") (by decide +kernel)) (hts0 (.initialized "ChequeDesk") (by decide +kernel)) ht (fun a h => Nat.not_le.mpr h), hT⟩
theorem st_WEIGHTS {s : State} {b : Nat} (hgv : (Jvm.Cond.and given_1 narrow_1).before #[Value.ref b] s = true) (hts0 : ∀ w ∈ lw_tbl, w.before #[Value.ref b] s = true) : ∃ t : Nat, va_Z "ChequeDesk" "WEIGHTS" "[I" (.ref t) (fun q : Nat => s.heap.size ≤ q) s s.heap ∧ va_T .int t 18 (fun j => .int (s_WEIGHTS j)) (fun q : Nat => s.heap.size ≤ q) s s.heap := by
  have hs := flat_of_before _ hgv
  have e0 := st_int (hs (.eq (.elem (.static "ChequeDesk" "WEIGHTS" "[I") (.int 0)) (.int 0)) (by decide +kernel))
  have e1 := st_int (hs (.eq (.elem (.static "ChequeDesk" "WEIGHTS" "[I") (.int 1)) (.int 0)) (by decide +kernel))
  have e2 := st_int (hs (.eq (.elem (.static "ChequeDesk" "WEIGHTS" "[I") (.int 2)) (.int 0)) (by decide +kernel))
  have e3 := st_int (hs (.eq (.elem (.static "ChequeDesk" "WEIGHTS" "[I") (.int 3)) (.int 0)) (by decide +kernel))
  have e4 := st_int (hs (.eq (.elem (.static "ChequeDesk" "WEIGHTS" "[I") (.int 4)) (.int 0)) (by decide +kernel))
  have e5 := st_int (hs (.eq (.elem (.static "ChequeDesk" "WEIGHTS" "[I") (.int 5)) (.int 0)) (by decide +kernel))
  have e6 := st_int (hs (.eq (.elem (.static "ChequeDesk" "WEIGHTS" "[I") (.int 6)) (.int 7)) (by decide +kernel))
  have e7 := st_int (hs (.eq (.elem (.static "ChequeDesk" "WEIGHTS" "[I") (.int 7)) (.int 3)) (by decide +kernel))
  have e8 := st_int (hs (.eq (.elem (.static "ChequeDesk" "WEIGHTS" "[I") (.int 8)) (.int 1)) (by decide +kernel))
  have e9 := st_int (hs (.eq (.elem (.static "ChequeDesk" "WEIGHTS" "[I") (.int 9)) (.int 7)) (by decide +kernel))
  have e10 := st_int (hs (.eq (.elem (.static "ChequeDesk" "WEIGHTS" "[I") (.int 10)) (.int 3)) (by decide +kernel))
  have e11 := st_int (hs (.eq (.elem (.static "ChequeDesk" "WEIGHTS" "[I") (.int 11)) (.int 1)) (by decide +kernel))
  have e12 := st_int (hs (.eq (.elem (.static "ChequeDesk" "WEIGHTS" "[I") (.int 12)) (.int 0)) (by decide +kernel))
  have e13 := st_int (hs (.eq (.elem (.static "ChequeDesk" "WEIGHTS" "[I") (.int 13)) (.int 0)) (by decide +kernel))
  have e14 := st_int (hs (.eq (.elem (.static "ChequeDesk" "WEIGHTS" "[I") (.int 14)) (.int 0)) (by decide +kernel))
  have e15 := st_int (hs (.eq (.elem (.static "ChequeDesk" "WEIGHTS" "[I") (.int 15)) (.int 0)) (by decide +kernel))
  have e16 := st_int (hs (.eq (.elem (.static "ChequeDesk" "WEIGHTS" "[I") (.int 16)) (.int 0)) (by decide +kernel))
  have e17 := st_int (hs (.eq (.elem (.static "ChequeDesk" "WEIGHTS" "[I") (.int 17)) (.int 0)) (by decide +kernel))
  obtain ⟨t, ht, hT⟩ := va_Tof (args := #[Value.ref b]) (s := s) (tm := (.static "ChequeDesk" "WEIGHTS" "[I")) (ty := .int) (N := 18) (f := fun j => .int (s_WEIGHTS j)) (A := fun q : Nat => s.heap.size ≤ q) (by decide) (hs (.arrayOf (.static "ChequeDesk" "WEIGHTS" "[I") .int) (by decide +kernel)) (st_int (hs (.eq (.length (.static "ChequeDesk" "WEIGHTS" "[I")) (.int 18)) (by decide +kernel))) (fun j hj => by rcases (show j = 0 ∨ j = 1 ∨ j = 2 ∨ j = 3 ∨ j = 4 ∨ j = 5 ∨ j = 6 ∨ j = 7 ∨ j = 8 ∨ j = 9 ∨ j = 10 ∨ j = 11 ∨ j = 12 ∨ j = 13 ∨ j = 14 ∨ j = 15 ∨ j = 16 ∨ j = 17 by omega) with rfl | rfl | rfl | rfl | rfl | rfl | rfl | rfl | rfl | rfl | rfl | rfl | rfl | rfl | rfl | rfl | rfl | rfl; exact e0; exact e1; exact e2; exact e3; exact e4; exact e5; exact e6; exact e7; exact e8; exact e9; exact e10; exact e11; exact e12; exact e13; exact e14; exact e15; exact e16; exact e17) (fun a h => Nat.not_le.mpr h)
  exact ⟨t, va_Zref (hts0 (.laysStatic "ChequeDesk" "WEIGHTS" "[I") (by decide +kernel)) (hts0 (.initialized "ChequeDesk") (by decide +kernel)) ht (fun a h => Nat.not_le.mpr h), hT⟩
theorem st_FIELD_STARTS {s : State} {b : Nat} (hgv : (Jvm.Cond.and given_1 narrow_1).before #[Value.ref b] s = true) (hts0 : ∀ w ∈ lw_tbl, w.before #[Value.ref b] s = true) : ∃ t : Nat, va_Z "ChequeDesk" "FIELD_STARTS" "[I" (.ref t) (fun q : Nat => s.heap.size ≤ q) s s.heap ∧ va_T .int t 3 (fun j => .int (s_FIELD_STARTS j)) (fun q : Nat => s.heap.size ≤ q) s s.heap := by
  have hs := flat_of_before _ hgv
  have e0 := st_int (hs (.eq (.elem (.static "ChequeDesk" "FIELD_STARTS" "[I") (.int 0)) (.int 1)) (by decide +kernel))
  have e1 := st_int (hs (.eq (.elem (.static "ChequeDesk" "FIELD_STARTS" "[I") (.int 1)) (.int 6)) (by decide +kernel))
  have e2 := st_int (hs (.eq (.elem (.static "ChequeDesk" "FIELD_STARTS" "[I") (.int 2)) (.int 13)) (by decide +kernel))
  obtain ⟨t, ht, hT⟩ := va_Tof (args := #[Value.ref b]) (s := s) (tm := (.static "ChequeDesk" "FIELD_STARTS" "[I")) (ty := .int) (N := 3) (f := fun j => .int (s_FIELD_STARTS j)) (A := fun q : Nat => s.heap.size ≤ q) (by decide) (hs (.arrayOf (.static "ChequeDesk" "FIELD_STARTS" "[I") .int) (by decide +kernel)) (st_int (hs (.eq (.length (.static "ChequeDesk" "FIELD_STARTS" "[I")) (.int 3)) (by decide +kernel))) (fun j hj => by rcases (show j = 0 ∨ j = 1 ∨ j = 2 by omega) with rfl | rfl | rfl; exact e0; exact e1; exact e2) (fun a h => Nat.not_le.mpr h)
  exact ⟨t, va_Zref (hts0 (.laysStatic "ChequeDesk" "FIELD_STARTS" "[I") (by decide +kernel)) (hts0 (.initialized "ChequeDesk") (by decide +kernel)) ht (fun a h => Nat.not_le.mpr h), hT⟩
theorem st_FIELD_LENGTHS {s : State} {b : Nat} (hgv : (Jvm.Cond.and given_1 narrow_1).before #[Value.ref b] s = true) (hts0 : ∀ w ∈ lw_tbl, w.before #[Value.ref b] s = true) : ∃ t : Nat, va_Z "ChequeDesk" "FIELD_LENGTHS" "[I" (.ref t) (fun q : Nat => s.heap.size ≤ q) s s.heap ∧ va_T .int t 3 (fun j => .int (s_FIELD_LENGTHS j)) (fun q : Nat => s.heap.size ≤ q) s s.heap := by
  have hs := flat_of_before _ hgv
  have e0 := st_int (hs (.eq (.elem (.static "ChequeDesk" "FIELD_LENGTHS" "[I") (.int 0)) (.int 4)) (by decide +kernel))
  have e1 := st_int (hs (.eq (.elem (.static "ChequeDesk" "FIELD_LENGTHS" "[I") (.int 1)) (.int 6)) (by decide +kernel))
  have e2 := st_int (hs (.eq (.elem (.static "ChequeDesk" "FIELD_LENGTHS" "[I") (.int 2)) (.int 4)) (by decide +kernel))
  obtain ⟨t, ht, hT⟩ := va_Tof (args := #[Value.ref b]) (s := s) (tm := (.static "ChequeDesk" "FIELD_LENGTHS" "[I")) (ty := .int) (N := 3) (f := fun j => .int (s_FIELD_LENGTHS j)) (A := fun q : Nat => s.heap.size ≤ q) (by decide) (hs (.arrayOf (.static "ChequeDesk" "FIELD_LENGTHS" "[I") .int) (by decide +kernel)) (st_int (hs (.eq (.length (.static "ChequeDesk" "FIELD_LENGTHS" "[I")) (.int 3)) (by decide +kernel))) (fun j hj => by rcases (show j = 0 ∨ j = 1 ∨ j = 2 by omega) with rfl | rfl | rfl; exact e0; exact e1; exact e2) (fun a h => Nat.not_le.mpr h)
  exact ⟨t, va_Zref (hts0 (.laysStatic "ChequeDesk" "FIELD_LENGTHS" "[I") (by decide +kernel)) (hts0 (.initialized "ChequeDesk") (by decide +kernel)) ht (fun a h => Nat.not_le.mpr h), hT⟩
