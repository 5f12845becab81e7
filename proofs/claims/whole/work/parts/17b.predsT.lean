def p_X5_teach_J10 (f_alphabet_taught : Int32) (a_alphabet_numbers : Nat → Int32) (a_alphabet_widths : Nat → Int32) (X : String → Int32 → (Nat → Int32) → (Nat → Int32) → Prop) : Prop :=
  X ("java/lang/IllegalArgumentException") f_alphabet_taught a_alphabet_numbers a_alphabet_widths
def p_X5_teach_J54 (f_alphabet_taught : Int32) (a_alphabet_numbers : Nat → Int32) (a_alphabet_widths : Nat → Int32) (Q : Int32 → Int32 → (Nat → Int32) → (Nat → Int32) → Prop) (s0 : Int32) : Prop :=
  Q s0 f_alphabet_taught a_alphabet_numbers a_alphabet_widths
def p_X5_teach (f_alphabet_taught : Int32) (a_alphabet_numbers : Nat → Int32) (a_alphabet_widths : Nat → Int32) (x1 : Int32) (x2 : Int32) (Q : Int32 → Int32 → (Nat → Int32) → (Nat → Int32) → Prop) (X : String → Int32 → (Nat → Int32) → (Nat → Int32) → Prop) : Prop :=
  (x1 < 0 → p_X5_teach_J10 f_alphabet_taught a_alphabet_numbers a_alphabet_widths X) ∧ (¬ x1 < 0 → (x1 < 12 → p_X0_areWidths x2 (fun r21 => (¬ r21 = 0 → p_X0_learn f_alphabet_taught a_alphabet_numbers a_alphabet_widths x1 x2 (fun r43 f_alphabet_taught_43 a_alphabet_numbers_43 a_alphabet_widths_43 => (r43 = 0 → p_X5_teach_J54 f_alphabet_taught_43 a_alphabet_numbers_43 a_alphabet_widths_43 Q 0) ∧ (¬ r43 = 0 → p_X5_teach_J54 f_alphabet_taught_43 a_alphabet_numbers_43 a_alphabet_widths_43 Q 1))) ∧ (r21 = 0 → X ("java/lang/IllegalArgumentException") f_alphabet_taught a_alphabet_numbers a_alphabet_widths))) ∧ (¬ x1 < 12 → p_X5_teach_J10 f_alphabet_taught a_alphabet_numbers a_alphabet_widths X))

def p_X5_tick_J11 (f_tickCount : Int32) (a_ticks : Nat → Int32) (X : String → Int32 → (Nat → Int32) → Prop) : Prop :=
  X ("java/lang/IllegalArgumentException") f_tickCount a_ticks
def p_X5_tick (f_tickCount : Int32) (a_ticks : Nat → Int32) (x1 : Int32) (Q : Int32 → Int32 → (Nat → Int32) → Prop) (X : String → Int32 → (Nat → Int32) → Prop) : Prop :=
  (x1 < 1 → p_X5_tick_J11 f_tickCount a_ticks X) ∧ (¬ x1 < 1 → (x1 ≤ 60 → (f_tickCount < 120 → vp_in f_tickCount 120 ∧ (Q (f_tickCount + 1) (f_tickCount + 1) (upd a_ticks (Int32.toNatClampNeg f_tickCount) x1))) ∧ (¬ f_tickCount < 120 → Q (-1) f_tickCount a_ticks)) ∧ (¬ x1 ≤ 60 → p_X5_tick_J11 f_tickCount a_ticks X))

def p_X5_about_J9 (X : String → Prop) : Prop :=
  X ("java/lang/IllegalArgumentException")
def p_X5_about_J103 (Q : Int32 → Prop) (s0 : Int32) : Prop :=
  Q s0
def p_X5_about_J119 (Q : Int32 → Prop) (s0 : Int32) : Prop :=
  Q s0
def p_X5_about (f_reading_places : Int32) (f_reading_cost : Int32) (f_reading_gap : Int32) (f_reading_turned : Int32) (f_reading_strangers : Int32) (f_reading_checkSum : Int32) (x1 : Int32) (Q : Int32 → Prop) (X : String → Prop) : Prop :=
  (x1 < 0 → p_X5_about_J9 X) ∧ (¬ x1 < 0 → (x1 ≤ 4 → p_X3_isThere f_reading_places (fun r23 => (¬ r23 = 0 → (x1 = 0 → Q f_reading_places) ∧ (x1 = 1 → Q f_reading_cost) ∧ (x1 = 2 → Q f_reading_gap) ∧ (x1 = 3 → (f_reading_turned = 0 → p_X5_about_J103 Q 0) ∧ (¬ f_reading_turned = 0 → p_X5_about_J103 Q 1)) ∧ (¬ x1 = 0 → ¬ x1 = 1 → ¬ x1 = 2 → ¬ x1 = 3 → p_X3_fits f_reading_places f_reading_strangers f_reading_checkSum (fun r108 => (r108 = 0 → p_X5_about_J119 Q 0) ∧ (¬ r108 = 0 → p_X5_about_J119 Q 1)))) ∧ (r23 = 0 → Q (-1)))) ∧ (¬ x1 ≤ 4 → p_X5_about_J9 X))

def p_X5_place_J9 (X : String → Prop) : Prop :=
  X ("java/lang/IllegalArgumentException")
def p_X5_place_J34 (Q : Int32 → Prop) : Prop :=
  Q (-1)
def p_X5_place_J61 (Q : Int32 → Prop) (s0 : Int32) : Prop :=
  Q s0
def p_X5_place (f_reading_places : Int32) (a_reading_signs : Nat → Int32) (a_reading_speeds : Nat → Int32) (x1 : Int32) (x2 : Int32) (Q : Int32 → Prop) (X : String → Prop) : Prop :=
  (x2 < 0 → p_X5_place_J9 X) ∧ (¬ x2 < 0 → (x2 ≤ 1 → (x1 < 0 → p_X5_place_J34 Q) ∧ (¬ x1 < 0 → (x1 < f_reading_places → (¬ x2 = 0 → vp_in x1 20 ∧ (p_X5_place_J61 Q (a_reading_speeds (Int32.toNatClampNeg x1)))) ∧ (x2 = 0 → vp_in x1 20 ∧ (p_X5_place_J61 Q (a_reading_signs (Int32.toNatClampNeg x1))))) ∧ (¬ x1 < f_reading_places → p_X5_place_J34 Q))) ∧ (¬ x2 ≤ 1 → p_X5_place_J9 X))

def p_X5_field_J9 (X : String → Prop) : Prop :=
  X ("java/lang/IllegalArgumentException")
def p_X5_field_J41 (Q : Int32 → Prop) (s0 : Int32) : Prop :=
  Q s0
def p_X5_field (f_reading_places : Int32) (f_reading_strangers : Int32) (f_reading_checkSum : Int32) (a_reading_signs : Nat → Int32) (x1 : Int32) (Q : Int32 → Prop) (X : String → Prop) : Prop :=
  (x1 < 0 → p_X5_field_J9 X) ∧ (¬ x1 < 0 → (x1 ≤ 2 → p_X3_fits f_reading_places f_reading_strangers f_reading_checkSum (fun r23 => (r23 = 0 → p_X5_field_J41 Q (-1)) ∧ (¬ r23 = 0 → p_X3_digitsOf a_reading_signs x1 (fun r34 => p_X5_field_J41 Q r34)))) ∧ (¬ x1 ≤ 2 → p_X5_field_J9 X))

def p_X5_other_J9 (a_head_behind : Nat → Int32) (a_head_here : Nat → Int32) (a_head_joined : Nat → Int32) (X : String → (Nat → Int32) → (Nat → Int32) → (Nat → Int32) → Prop) : Prop :=
  X ("java/lang/IllegalArgumentException") a_head_behind a_head_here a_head_joined
def p_X5_other (f_head_places : Int32) (f_reading_places : Int32) (f_reading_cost : Int32) (f_reading_strangers : Int32) (f_reading_checkSum : Int32) (a_head_behind : Nat → Int32) (a_head_costs : Nat → Int32) (a_head_here : Nat → Int32) (a_head_joined : Nat → Int32) (a_reading_signs : Nat → Int32) (x1 : Int32) (x2 : Int32) (Q : Int32 → (Nat → Int32) → (Nat → Int32) → (Nat → Int32) → Prop) (X : String → (Nat → Int32) → (Nat → Int32) → (Nat → Int32) → Prop) : Prop :=
  (x2 < 0 → p_X5_other_J9 a_head_behind a_head_here a_head_joined X) ∧ (¬ x2 < 0 → (x2 ≤ 2 → p_X3_findOther f_reading_places f_reading_strangers f_reading_checkSum a_reading_signs x1 (fun r24 => (¬ r24 = (-1) → (¬ x2 = 0 → (¬ x2 = 1 → p_X1_leastCostWith f_head_places a_head_behind a_head_costs a_head_here a_head_joined a_reading_signs (r24 / 12) (jrem r24 12) (fun r77 a_head_behind_77 a_head_here_77 a_head_joined_77 => Q (r77 - f_reading_cost) a_head_behind_77 a_head_here_77 a_head_joined_77)) ∧ (x2 = 1 → Q (jrem r24 12) a_head_behind a_head_here a_head_joined)) ∧ (x2 = 0 → Q (r24 / 12) a_head_behind a_head_here a_head_joined)) ∧ (r24 = (-1) → Q (-1) a_head_behind a_head_here a_head_joined))) ∧ (¬ x2 ≤ 2 → p_X5_other_J9 a_head_behind a_head_here a_head_joined X))

def p_X5_batch_J10 (f_ledger_batches : Int32) (a_ledger_told : Nat → Int32) (X : String → Int32 → (Nat → Int32) → Prop) : Prop :=
  X ("java/lang/IllegalArgumentException") f_ledger_batches a_ledger_told
def p_X5_batch (f_ledger_batches : Int32) (a_ledger_told : Nat → Int32) (x1 : Int32) (Q : Int32 → Int32 → (Nat → Int32) → Prop) (X : String → Int32 → (Nat → Int32) → Prop) : Prop :=
  (x1 < 0 → p_X5_batch_J10 f_ledger_batches a_ledger_told X) ∧ (¬ x1 < 0 → (x1 ≤ 1000000000 → (f_ledger_batches < 20 → p_X2_open f_ledger_batches a_ledger_told x1 (fun r47 f_ledger_batches_47 a_ledger_told_47 => Q r47 f_ledger_batches_47 a_ledger_told_47)) ∧ (¬ f_ledger_batches < 20 → X ("java/lang/IllegalStateException") f_ledger_batches a_ledger_told)) ∧ (¬ x1 ≤ 1000000000 → p_X5_batch_J10 f_ledger_batches a_ledger_told X))

def p_X5_requireBatch_J15 (X : String → Prop) : Prop :=
  X ("java/lang/IndexOutOfBoundsException")
def p_X5_requireBatch (f_ledger_batches : Int32) (x1 : Int32) (Q : Prop) (X : String → Prop) : Prop :=
  (x1 < 0 → p_X5_requireBatch_J15 X) ∧ (¬ x1 < 0 → (x1 < f_ledger_batches → Q) ∧ (¬ x1 < f_ledger_batches → p_X5_requireBatch_J15 X))

def p_X5_requireAmount_J10 (X : String → Prop) : Prop :=
  X ("java/lang/IllegalArgumentException")
def p_X5_requireAmount (x0 : Int32) (Q : Prop) (X : String → Prop) : Prop :=
  (x0 < 0 → p_X5_requireAmount_J10 X) ∧ (¬ x0 < 0 → (x0 ≤ 9999999 → Q) ∧ (¬ x0 ≤ 9999999 → p_X5_requireAmount_J10 X))

def p_X5_paper (f_ledger_batches : Int32) (f_ledger_papers : Int32) (f_reading_places : Int32) (f_reading_strangers : Int32) (f_reading_checkSum : Int32) (a_ledger_accounts : Nat → Int32) (a_ledger_amounts : Nat → Int32) (a_ledger_banks : Nat → Int32) (a_ledger_batchOf : Nat → Int32) (a_ledger_numbers : Nat → Int32) (a_reading_signs : Nat → Int32) (x1 : Int32) (x2 : Int32) (Q : Int32 → Int32 → Int32 → (Nat → Int32) → (Nat → Int32) → (Nat → Int32) → (Nat → Int32) → (Nat → Int32) → Prop) (X : String → Int32 → Int32 → (Nat → Int32) → (Nat → Int32) → (Nat → Int32) → (Nat → Int32) → (Nat → Int32) → Prop) : Prop :=
  p_X5_requireBatch f_ledger_batches x1 (p_X5_requireAmount x2 (p_X3_fits f_reading_places f_reading_strangers f_reading_checkSum (fun r13 => (¬ r13 = 0 → p_X2_findTwin f_ledger_papers a_ledger_accounts a_ledger_banks a_ledger_numbers a_reading_signs (fun r29 => (r29 = (-1) → (f_ledger_papers < 100 → p_X2_take f_ledger_papers a_ledger_accounts a_ledger_amounts a_ledger_banks a_ledger_batchOf a_ledger_numbers a_reading_signs x1 x2 (fun r64 f_ledger_papers_64 a_ledger_accounts_64 a_ledger_amounts_64 a_ledger_banks_64 a_ledger_batchOf_64 a_ledger_numbers_64 => p_X3_end f_reading_places (fun f_reading_places_72 => Q r64 f_ledger_papers_64 f_reading_places_72 a_ledger_accounts_64 a_ledger_amounts_64 a_ledger_banks_64 a_ledger_batchOf_64 a_ledger_numbers_64))) ∧ (¬ f_ledger_papers < 100 → Q (-3) f_ledger_papers f_reading_places a_ledger_accounts a_ledger_amounts a_ledger_banks a_ledger_batchOf a_ledger_numbers)) ∧ (¬ r29 = (-1) → Q (-2) f_ledger_papers f_reading_places a_ledger_accounts a_ledger_amounts a_ledger_banks a_ledger_batchOf a_ledger_numbers))) ∧ (r13 = 0 → Q (-1) f_ledger_papers f_reading_places a_ledger_accounts a_ledger_amounts a_ledger_banks a_ledger_batchOf a_ledger_numbers))) (fun E => X E f_ledger_papers f_reading_places a_ledger_accounts a_ledger_amounts a_ledger_banks a_ledger_batchOf a_ledger_numbers)) (fun E => X E f_ledger_papers f_reading_places a_ledger_accounts a_ledger_amounts a_ledger_banks a_ledger_batchOf a_ledger_numbers)

def p_X5_amount_J15 (a_ledger_amounts : Nat → Int32) (X : String → (Nat → Int32) → Prop) : Prop :=
  X ("java/lang/IndexOutOfBoundsException") a_ledger_amounts
def p_X5_amount (f_ledger_papers : Int32) (a_ledger_amounts : Nat → Int32) (x1 : Int32) (x2 : Int32) (Q : Int32 → (Nat → Int32) → Prop) (X : String → (Nat → Int32) → Prop) : Prop :=
  (x1 < 0 → p_X5_amount_J15 a_ledger_amounts X) ∧ (¬ x1 < 0 → (x1 < f_ledger_papers → p_X5_requireAmount x2 (vp_in x1 100 ∧ (vp_in x1 100 ∧ (Q (a_ledger_amounts (Int32.toNatClampNeg x1)) (upd a_ledger_amounts (Int32.toNatClampNeg x1) x2)))) (fun E => X E a_ledger_amounts)) ∧ (¬ x1 < f_ledger_papers → p_X5_amount_J15 a_ledger_amounts X))

def p_X5_out (f_ledger_batches : Int32) (f_ledger_papers : Int32) (a_ledger_amounts : Nat → Int32) (a_ledger_batchOf : Nat → Int32) (a_ledger_told : Nat → Int32) (x1 : Int32) (Q : Int64 → Prop) (X : String → Prop) : Prop :=
  p_X5_requireBatch f_ledger_batches x1 (p_X2_sumOut f_ledger_papers a_ledger_amounts a_ledger_batchOf a_ledger_told x1 (fun r10 => Q r10)) (fun E => X E)

def p_X5_slips (f_found_size : Int32) (f_ledger_batches : Int32) (f_ledger_papers : Int32) (a_found_amounts : Nat → Int32) (a_found_kinds : Nat → Int32) (a_found_papers : Nat → Int32) (a_ledger_amounts : Nat → Int32) (a_ledger_batchOf : Nat → Int32) (a_ledger_told : Nat → Int32) (x1 : Int32) (Q : Int32 → Int32 → (Nat → Int32) → (Nat → Int32) → (Nat → Int32) → Prop) (X : String → Int32 → (Nat → Int32) → (Nat → Int32) → (Nat → Int32) → Prop) : Prop :=
  p_X5_requireBatch f_ledger_batches x1 (p_X4_explain f_found_size f_ledger_papers a_found_amounts a_found_kinds a_found_papers a_ledger_amounts a_ledger_batchOf a_ledger_told x1 (fun f_found_size_14 a_found_amounts_14 a_found_kinds_14 a_found_papers_14 => Q f_found_size_14 f_found_size_14 a_found_amounts_14 a_found_kinds_14 a_found_papers_14)) (fun E => X E f_found_size a_found_amounts a_found_kinds a_found_papers)

def p_X5_slip_J14 (f_found_size : Int32) (a_found_amounts : Nat → Int32) (a_found_kinds : Nat → Int32) (a_found_papers : Nat → Int32) (X : String → Int32 → (Nat → Int32) → (Nat → Int32) → (Nat → Int32) → Prop) : Prop :=
  X ("java/lang/IllegalArgumentException") f_found_size a_found_amounts a_found_kinds a_found_papers
def p_X5_slip_J51 (f_found_size : Int32) (a_found_amounts : Nat → Int32) (a_found_kinds : Nat → Int32) (a_found_papers : Nat → Int32) (Q : Int32 → Int32 → (Nat → Int32) → (Nat → Int32) → (Nat → Int32) → Prop) : Prop :=
  Q (-1) f_found_size a_found_amounts a_found_kinds a_found_papers
def p_X5_slip_J93 (f_found_size : Int32) (a_found_amounts : Nat → Int32) (a_found_kinds : Nat → Int32) (a_found_papers : Nat → Int32) (Q : Int32 → Int32 → (Nat → Int32) → (Nat → Int32) → (Nat → Int32) → Prop) (s0 : Int32) : Prop :=
  Q s0 f_found_size a_found_amounts a_found_kinds a_found_papers
def p_X5_slip (f_found_size : Int32) (f_ledger_batches : Int32) (f_ledger_papers : Int32) (a_found_amounts : Nat → Int32) (a_found_kinds : Nat → Int32) (a_found_papers : Nat → Int32) (a_ledger_amounts : Nat → Int32) (a_ledger_batchOf : Nat → Int32) (a_ledger_told : Nat → Int32) (x1 : Int32) (x2 : Int32) (x3 : Int32) (Q : Int32 → Int32 → (Nat → Int32) → (Nat → Int32) → (Nat → Int32) → Prop) (X : String → Int32 → (Nat → Int32) → (Nat → Int32) → (Nat → Int32) → Prop) : Prop :=
  p_X5_requireBatch f_ledger_batches x1 ((x3 < 0 → p_X5_slip_J14 f_found_size a_found_amounts a_found_kinds a_found_papers X) ∧ (¬ x3 < 0 → (x3 ≤ 2 → p_X4_explain f_found_size f_ledger_papers a_found_amounts a_found_kinds a_found_papers a_ledger_amounts a_ledger_batchOf a_ledger_told x1 (fun f_found_size_33 a_found_amounts_33 a_found_kinds_33 a_found_papers_33 => (x2 < 0 → p_X5_slip_J51 f_found_size_33 a_found_amounts_33 a_found_kinds_33 a_found_papers_33 Q) ∧ (¬ x2 < 0 → (x2 < f_found_size_33 → (¬ x3 = 0 → (¬ x3 = 1 → vp_in x2 301 ∧ (p_X5_slip_J93 f_found_size_33 a_found_amounts_33 a_found_kinds_33 a_found_papers_33 Q (a_found_amounts_33 (Int32.toNatClampNeg x2)))) ∧ (x3 = 1 → vp_in x2 301 ∧ (p_X5_slip_J93 f_found_size_33 a_found_amounts_33 a_found_kinds_33 a_found_papers_33 Q (a_found_papers_33 (Int32.toNatClampNeg x2))))) ∧ (x3 = 0 → vp_in x2 301 ∧ (Q (a_found_kinds_33 (Int32.toNatClampNeg x2)) f_found_size_33 a_found_amounts_33 a_found_kinds_33 a_found_papers_33))) ∧ (¬ x2 < f_found_size_33 → p_X5_slip_J51 f_found_size_33 a_found_amounts_33 a_found_kinds_33 a_found_papers_33 Q)))) ∧ (¬ x3 ≤ 2 → p_X5_slip_J14 f_found_size a_found_amounts a_found_kinds a_found_papers X))) (fun E => X E f_found_size a_found_amounts a_found_kinds a_found_papers)
