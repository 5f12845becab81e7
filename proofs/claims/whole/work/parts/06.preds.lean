def p_X0_areWidths_J12 (Q : Int32 → Prop) : Prop :=
  (narrow .boolean (.int 0) = .int 0) ∧ Q 0
def p_X0_areWidths_J39 (Q : Int32 → Prop) : Prop :=
  (narrow .boolean (.int 0) = .int 0) ∧ Q 0
def p_X0_areWidths_B18 (Q : Int32 → Prop) (K18 : Int32 → Int32 → Prop) (R18 : Int32 → Int32 → Prop) (x1 : Int32) (x2 : Int32) : Prop :=
  (6 ≤ x2 → K18 x1 x2) ∧ (¬ 6 ≤ x2 → ((jrem x1 10) < 1 → p_X0_areWidths_J39 Q) ∧ (¬ (jrem x1 10) < 1 → ((jrem x1 10) ≤ 3 → R18 (x1 / 10) (x2 + 1)) ∧ (¬ (jrem x1 10) ≤ 3 → p_X0_areWidths_J39 Q)))
def p_X0_areWidths (x0 : Int32) (Q : Int32 → Prop) : Prop :=
  (x0 < 111111 → p_X0_areWidths_J12 Q) ∧ (¬ x0 < 111111 → (x0 ≤ 333333 → ∃ n18 : Nat, wl2 (p_X0_areWidths_B18 Q (fun x1_52 x2_52 => (narrow .boolean (.int 1) = .int 1) ∧ Q 1)) n18 x0 0) ∧ (¬ x0 ≤ 333333 → p_X0_areWidths_J12 Q))

def p_X0_learn_B43 (x1 : Int32) (K43 : Int32 → Int32 → (Nat → Int32) → Prop) (R43 : Int32 → Int32 → (Nat → Int32) → Prop) (x3 : Int32) (x4 : Int32) (a_widths : Nat → Int32) : Prop :=
  (x4 < 0 → K43 x3 x4 a_widths) ∧ (¬ x4 < 0 → vp_in ((x1 * 6) + x4) 72 ∧ (R43 (x3 / 10) (x4 + (-1)) (upd a_widths (Int32.toNatClampNeg ((x1 * 6) + x4)) (jrem x3 10))))
def p_X0_learn_J31 (f_taught : Int32) (a_numbers : Nat → Int32) (a_widths : Nat → Int32) (Q : Int32 → Int32 → (Nat → Int32) → (Nat → Int32) → Prop) (x1 : Int32) (x2 : Int32) : Prop :=
  vp_in x1 12 ∧ (∃ n43 : Nat, wl3 (p_X0_learn_B43 x1 (fun x3_75 x4_75 a_widths_75 => (narrow .boolean (.int 1) = .int 1) ∧ Q 1 f_taught (upd a_numbers (Int32.toNatClampNeg x1) x2) a_widths_75)) n43 x2 5 a_widths)
def p_X0_learn (f_taught : Int32) (a_numbers : Nat → Int32) (a_widths : Nat → Int32) (x1 : Int32) (x2 : Int32) (Q : Int32 → Int32 → (Nat → Int32) → (Nat → Int32) → Prop) : Prop :=
  vp_in x1 12 ∧ ((¬ (a_numbers (Int32.toNatClampNeg x1)) = x2 → vp_in x1 12 ∧ ((¬ (a_numbers (Int32.toNatClampNeg x1)) = 0 → p_X0_learn_J31 f_taught a_numbers a_widths Q x1 x2) ∧ ((a_numbers (Int32.toNatClampNeg x1)) = 0 → p_X0_learn_J31 (f_taught + 1) a_numbers a_widths Q x1 x2))) ∧ ((a_numbers (Int32.toNatClampNeg x1)) = x2 → (narrow .boolean (.int 0) = .int 0) ∧ Q 0 f_taught a_numbers a_widths))

def p_X0_isComplete_J14 (Q : Int32 → Prop) (s0 : Int32) : Prop :=
  (narrow .boolean (.int s0) = .int s0) ∧ Q s0
def p_X0_isComplete (f_taught : Int32) (Q : Int32 → Prop) : Prop :=
  (¬ f_taught = 12 → p_X0_isComplete_J14 Q 0) ∧ (f_taught = 12 → p_X0_isComplete_J14 Q 1)

def p_X1_lay_J42 (a_laid : Nat → Int32) (R11 : Int32 → (Nat → Int32) → Prop) (x4 : Int32) (s0 : Int32) (s1 : Int32) : Prop :=
  vp_in s1 120 ∧ (R11 (x4 + 1) (upd a_laid (Int32.toNatClampNeg s1) s0))
def p_X1_lay_B11 (a_p1 : Nat → Int32) (x2 : Int32) (x3 : Int32) (K11 : Int32 → (Nat → Int32) → Prop) (R11 : Int32 → (Nat → Int32) → Prop) (x4 : Int32) (a_laid : Nat → Int32) : Prop :=
  (x2 ≤ x4 → K11 x4 a_laid) ∧ (¬ x2 ≤ x4 → (x3 = 0 → vp_in x4 120 ∧ (p_X1_lay_J42 a_laid R11 x4 (a_p1 (Int32.toNatClampNeg x4)) x4)) ∧ (¬ x3 = 0 → vp_in ((x2 - 1) - x4) 120 ∧ (p_X1_lay_J42 a_laid R11 x4 (a_p1 (Int32.toNatClampNeg ((x2 - 1) - x4))) x4)))
def p_X1_lay (f_places : Int32) (a_laid : Nat → Int32) (a_p1 : Nat → Int32) (x2 : Int32) (x3 : Int32) (Q : Int32 → (Nat → Int32) → Prop) : Prop :=
  ∃ n11 : Nat, wl2 (p_X1_lay_B11 a_p1 x2 x3 (fun x4_49 a_laid_49 => Q (x2 / 6) a_laid_49)) n11 0 a_laid

def p_X1_rowOf (x0 : Int32) (x1 : Int32) (Q : Int32 → Prop) : Prop :=
  Q (((x0 * 12) + x1) * 9)

def p_X1_distance_B6 (a_laid : Nat → Int32) (a_p2 : Nat → Int32) (x1 : Int32) (x3 : Int32) (x4 : Int32) (K6 : Int32 → Int32 → Prop) (R6 : Int32 → Int32 → Prop) (x5 : Int32) (x6 : Int32) : Prop :=
  (6 ≤ x6 → K6 x5 x6) ∧ (¬ 6 ≤ x6 → vp_in ((x1 * 6) + x6) 120 ∧ (vp_in ((x3 * 6) + x6) 72 ∧ (R6 (x5 + (jabs ((a_laid (Int32.toNatClampNeg ((x1 * 6) + x6))) - (x4 * (a_p2 (Int32.toNatClampNeg ((x3 * 6) + x6))))))) (x6 + 1))))
def p_X1_distance (a_laid : Nat → Int32) (a_p2 : Nat → Int32) (x1 : Int32) (x3 : Int32) (x4 : Int32) (Q : Int32 → Prop) : Prop :=
  ∃ n6 : Nat, wl2 (p_X1_distance_B6 a_laid a_p2 x1 x3 x4 (fun x5_52 x6_52 => Q x5_52)) n6 0 0

def p_X1_weigh_B28 (a_laid : Nat → Int32) (a_p1 : Nat → Int32) (x2 : Int32) (x3 : Int32) (x4 : Int32) (K28 : Int32 → (Nat → Int32) → Prop) (R28 : Int32 → (Nat → Int32) → Prop) (x5 : Int32) (a_costs : Nat → Int32) : Prop :=
  (9 ≤ x5 → K28 x5 a_costs) ∧ (¬ 9 ≤ x5 → p_X1_distance a_laid a_p1 x2 x3 (4 + x5) (fun r52 => vp_in (x4 + x5) 2160 ∧ (R28 (x5 + 1) (upd a_costs (Int32.toNatClampNeg (x4 + x5)) r52))))
def p_X1_weigh_B12 (a_laid : Nat → Int32) (a_p1 : Nat → Int32) (x2 : Int32) (K12 : Int32 → (Nat → Int32) → Prop) (R12 : Int32 → (Nat → Int32) → Prop) (x3 : Int32) (a_costs : Nat → Int32) : Prop :=
  (12 ≤ x3 → K12 x3 a_costs) ∧ (¬ 12 ≤ x3 → p_X1_rowOf x2 x3 (fun r20 => ∃ n28 : Nat, wl2 (p_X1_weigh_B28 a_laid a_p1 x2 x3 r20 (fun x5_62 a_costs_62 => R12 (x3 + 1) a_costs_62)) n28 0 a_costs))
def p_X1_weigh_B2 (f_places : Int32) (a_laid : Nat → Int32) (a_p1 : Nat → Int32) (K2 : Int32 → (Nat → Int32) → Prop) (R2 : Int32 → (Nat → Int32) → Prop) (x2 : Int32) (a_costs : Nat → Int32) : Prop :=
  (f_places ≤ x2 → K2 x2 a_costs) ∧ (¬ f_places ≤ x2 → ∃ n12 : Nat, wl2 (p_X1_weigh_B12 a_laid a_p1 x2 (fun x3_68 a_costs_68 => R2 (x2 + 1) a_costs_68)) n12 0 a_costs)
def p_X1_weigh (f_places : Int32) (a_costs : Nat → Int32) (a_laid : Nat → Int32) (a_p1 : Nat → Int32) (Q : (Nat → Int32) → Prop) : Prop :=
  ∃ n2 : Nat, wl2 (p_X1_weigh_B2 f_places a_laid a_p1 (fun x2_74 a_costs_74 => Q a_costs_74)) n2 0 a_costs

def p_X1_leastNear_J43 (Q : Int32 → Prop) (x2 : Int32) : Prop :=
  Q x2
def p_X1_leastNear_J24 (a_joined : Nat → Int32) (Q : Int32 → Prop) (x1 : Int32) (x2 : Int32) : Prop :=
  (8 ≤ x1 → p_X1_leastNear_J43 Q x2) ∧ (¬ 8 ≤ x1 → vp_in (x1 + 1) 9 ∧ (p_X1_leastNear_J43 Q (jmin x2 (a_joined (Int32.toNatClampNeg (x1 + 1))))))
def p_X1_leastNear (a_joined : Nat → Int32) (x1 : Int32) (Q : Int32 → Prop) : Prop :=
  vp_in x1 9 ∧ ((x1 ≤ 0 → p_X1_leastNear_J24 a_joined Q x1 (a_joined (Int32.toNatClampNeg x1))) ∧ (¬ x1 ≤ 0 → vp_in (x1 - 1) 9 ∧ (p_X1_leastNear_J24 a_joined Q x1 (jmin (a_joined (Int32.toNatClampNeg x1)) (a_joined (Int32.toNatClampNeg (x1 - 1)))))))

def p_X1_sumFromTheEnd_J64 (a_behind : Nat → Int32) (R35 : Int32 → (Nat → Int32) → Prop) (x4 : Int32) (s0 : Int32) (s1 : Int32) : Prop :=
  vp_in s1 180 ∧ (R35 (x4 + 1) (upd a_behind (Int32.toNatClampNeg s1) s0))
def p_X1_sumFromTheEnd_B35 (a_joined : Nat → Int32) (x2 : Int32) (x3 : Int32) (K35 : Int32 → (Nat → Int32) → Prop) (R35 : Int32 → (Nat → Int32) → Prop) (x4 : Int32) (a_behind : Nat → Int32) : Prop :=
  (9 ≤ x4 → K35 x4 a_behind) ∧ (¬ 9 ≤ x4 → (x3 = 0 → p_X1_leastNear a_joined x4 (fun r61 => p_X1_sumFromTheEnd_J64 a_behind R35 x4 r61 (x2 + x4))) ∧ (¬ x3 = 0 → p_X1_sumFromTheEnd_J64 a_behind R35 x4 0 (x2 + x4)))
def p_X1_sumFromTheEnd_B74 (a_behind : Nat → Int32) (a_here : Nat → Int32) (x2 : Int32) (K74 : Int32 → (Nat → Int32) → Prop) (R74 : Int32 → (Nat → Int32) → Prop) (x4 : Int32) (a_joined : Nat → Int32) : Prop :=
  (9 ≤ x4 → K74 x4 a_joined) ∧ (¬ 9 ≤ x4 → vp_in (x2 + x4) 180 ∧ (vp_in (x2 + x4) 180 ∧ (vp_in x4 9 ∧ (R74 (x4 + 1) (upd a_joined (Int32.toNatClampNeg x4) ((a_here (Int32.toNatClampNeg (x2 + x4))) + (a_behind (Int32.toNatClampNeg (x2 + x4)))))))))
def p_X1_sumFromTheEnd_J31 (a_behind : Nat → Int32) (a_here : Nat → Int32) (a_joined : Nat → Int32) (R7 : Int32 → (Nat → Int32) → (Nat → Int32) → Prop) (x1 : Int32) (x2 : Int32) (s0 : Int32) : Prop :=
  ∃ n35 : Nat, wl2 (p_X1_sumFromTheEnd_B35 a_joined x2 s0 (fun x4_71 a_behind_71 => ∃ n74 : Nat, wl2 (p_X1_sumFromTheEnd_B74 a_behind_71 a_here x2 (fun x4_113 a_joined_113 => R7 (x1 + (-1)) a_behind_71 a_joined_113)) n74 0 a_joined)) n35 0 a_behind
def p_X1_sumFromTheEnd_B7 (f_places : Int32) (a_here : Nat → Int32) (K7 : Int32 → (Nat → Int32) → (Nat → Int32) → Prop) (R7 : Int32 → (Nat → Int32) → (Nat → Int32) → Prop) (x1 : Int32) (a_behind : Nat → Int32) (a_joined : Nat → Int32) : Prop :=
  (x1 < 0 → K7 x1 a_behind a_joined) ∧ (¬ x1 < 0 → (¬ x1 = (f_places - 1) → p_X1_sumFromTheEnd_J31 a_behind a_here a_joined R7 x1 (x1 * 9) 0) ∧ (x1 = (f_places - 1) → p_X1_sumFromTheEnd_J31 a_behind a_here a_joined R7 x1 (x1 * 9) 1))
def p_X1_sumFromTheEnd (f_places : Int32) (a_behind : Nat → Int32) (a_here : Nat → Int32) (a_joined : Nat → Int32) (Q : (Nat → Int32) → (Nat → Int32) → Prop) : Prop :=
  ∃ n7 : Nat, wl3 (p_X1_sumFromTheEnd_B7 f_places a_here (fun x1_119 a_behind_119 a_joined_119 => Q a_behind_119 a_joined_119)) n7 (f_places - 1) a_behind a_joined

def p_X1_allowAnySigns_B34 (a_costs : Nat → Int32) (x1 : Int32) (x2 : Int32) (K34 : Int32 → Int32 → Prop) (R34 : Int32 → Int32 → Prop) (x3 : Int32) (x4 : Int32) : Prop :=
  (12 ≤ x4 → K34 x3 x4) ∧ (¬ 12 ≤ x4 → p_X1_rowOf x1 x4 (fun r49 => vp_in (r49 + x2) 2160 ∧ (R34 (jmin x3 (a_costs (Int32.toNatClampNeg (r49 + x2)))) (x4 + 1))))
def p_X1_allowAnySigns_B12 (a_costs : Nat → Int32) (x1 : Int32) (K12 : Int32 → (Nat → Int32) → Prop) (R12 : Int32 → (Nat → Int32) → Prop) (x2 : Int32) (a_here : Nat → Int32) : Prop :=
  (9 ≤ x2 → K12 x2 a_here) ∧ (¬ 9 ≤ x2 → p_X1_rowOf x1 0 (fun r24 => vp_in (r24 + x2) 2160 ∧ (∃ n34 : Nat, wl2 (p_X1_allowAnySigns_B34 a_costs x1 x2 (fun x3_65 x4_65 => vp_in ((x1 * 9) + x2) 180 ∧ (R12 (x2 + 1) (upd a_here (Int32.toNatClampNeg ((x1 * 9) + x2)) x3_65)))) n34 (a_costs (Int32.toNatClampNeg (r24 + x2))) 1)))
def p_X1_allowAnySigns_B2 (f_places : Int32) (a_costs : Nat → Int32) (K2 : Int32 → (Nat → Int32) → Prop) (R2 : Int32 → (Nat → Int32) → Prop) (x1 : Int32) (a_here : Nat → Int32) : Prop :=
  (f_places ≤ x1 → K2 x1 a_here) ∧ (¬ f_places ≤ x1 → ∃ n12 : Nat, wl2 (p_X1_allowAnySigns_B12 a_costs x1 (fun x2_83 a_here_83 => R2 (x1 + 1) a_here_83)) n12 0 a_here)
def p_X1_allowAnySigns (f_places : Int32) (a_behind : Nat → Int32) (a_costs : Nat → Int32) (a_here : Nat → Int32) (a_joined : Nat → Int32) (Q : (Nat → Int32) → (Nat → Int32) → (Nat → Int32) → Prop) : Prop :=
  ∃ n2 : Nat, wl2 (p_X1_allowAnySigns_B2 f_places a_costs (fun x1_89 a_here_89 => p_X1_sumFromTheEnd f_places a_behind a_here_89 a_joined (fun a_behind_90 a_joined_90 => Q a_behind_90 a_here_89 a_joined_90))) n2 0 a_here

def p_X1_allowAt_B2 (a_costs : Nat → Int32) (x1 : Int32) (x2 : Int32) (K2 : Int32 → (Nat → Int32) → Prop) (R2 : Int32 → (Nat → Int32) → Prop) (x3 : Int32) (a_here : Nat → Int32) : Prop :=
  (9 ≤ x3 → K2 x3 a_here) ∧ (¬ 9 ≤ x3 → p_X1_rowOf x1 x2 (fun r24 => vp_in (r24 + x3) 2160 ∧ (vp_in ((x1 * 9) + x3) 180 ∧ (R2 (x3 + 1) (upd a_here (Int32.toNatClampNeg ((x1 * 9) + x3)) (a_costs (Int32.toNatClampNeg (r24 + x3))))))))
def p_X1_allowAt (a_costs : Nat → Int32) (a_here : Nat → Int32) (x1 : Int32) (x2 : Int32) (Q : (Nat → Int32) → Prop) : Prop :=
  ∃ n2 : Nat, wl2 (p_X1_allowAt_B2 a_costs x1 x2 (fun x3_37 a_here_37 => Q a_here_37)) n2 0 a_here

def p_X1_allowOnly_B2 (f_places : Int32) (a_costs : Nat → Int32) (a_p1 : Nat → Int32) (K2 : Int32 → (Nat → Int32) → Prop) (R2 : Int32 → (Nat → Int32) → Prop) (x2 : Int32) (a_here : Nat → Int32) : Prop :=
  (f_places ≤ x2 → K2 x2 a_here) ∧ (¬ f_places ≤ x2 → vp_in x2 20 ∧ (p_X1_allowAt a_costs a_here x2 (a_p1 (Int32.toNatClampNeg x2)) (fun a_here_15 => R2 (x2 + 1) a_here_15)))
def p_X1_allowOnly (f_places : Int32) (a_costs : Nat → Int32) (a_here : Nat → Int32) (a_p1 : Nat → Int32) (Q : (Nat → Int32) → Prop) : Prop :=
  ∃ n2 : Nat, wl2 (p_X1_allowOnly_B2 f_places a_costs a_p1 (fun x2_24 a_here_24 => Q a_here_24)) n2 0 a_here

def p_X1_leastCost_B16 (a_behind : Nat → Int32) (a_here : Nat → Int32) (K16 : Int32 → Int32 → Prop) (R16 : Int32 → Int32 → Prop) (x1 : Int32) (x2 : Int32) : Prop :=
  (9 ≤ x2 → K16 x1 x2) ∧ (¬ 9 ≤ x2 → vp_in x2 180 ∧ (vp_in x2 180 ∧ (R16 (jmin x1 ((a_here (Int32.toNatClampNeg x2)) + (a_behind (Int32.toNatClampNeg x2)))) (x2 + 1))))
def p_X1_leastCost (a_behind : Nat → Int32) (a_here : Nat → Int32) (Q : Int32 → Prop) : Prop :=
  vp_in 0 180 ∧ (vp_in 0 180 ∧ (∃ n16 : Nat, wl2 (p_X1_leastCost_B16 a_behind a_here (fun x1_46 x2_46 => Q x1_46)) n16 ((a_here (Int32.toNatClampNeg 0)) + (a_behind (Int32.toNatClampNeg 0))) 1))

def p_X1_startWalk_B2 (K2 : Int32 → (Nat → Int32) → Prop) (R2 : Int32 → (Nat → Int32) → Prop) (x1 : Int32) (a_before : Nat → Int32) : Prop :=
  (9 ≤ x1 → K2 x1 a_before) ∧ (¬ 9 ≤ x1 → vp_in x1 9 ∧ (R2 (x1 + 1) (upd a_before (Int32.toNatClampNeg x1) 0)))
def p_X1_startWalk (a_before : Nat → Int32) (Q : (Nat → Int32) → Prop) : Prop :=
  ∃ n2 : Nat, wl2 (p_X1_startWalk_B2 (fun x1_21 a_before_21 => Q a_before_21)) n2 0 a_before

def p_X1_walkOn_B2 (n_p1 : Nat) (a_before : Nat → Int32) (a_p1 : Nat → Int32) (x2 : Int32) (K2 : Int32 → (Nat → Int32) → Prop) (R2 : Int32 → (Nat → Int32) → Prop) (x3 : Int32) (a_joined : Nat → Int32) : Prop :=
  (9 ≤ x3 → K2 x3 a_joined) ∧ (¬ 9 ≤ x3 → vp_in x3 9 ∧ (vp_in (x2 + x3) n_p1 ∧ (vp_in x3 9 ∧ (R2 (x3 + 1) (upd a_joined (Int32.toNatClampNeg x3) ((a_before (Int32.toNatClampNeg x3)) + (a_p1 (Int32.toNatClampNeg (x2 + x3)))))))))
def p_X1_walkOn_B34 (a_joined : Nat → Int32) (K34 : Int32 → (Nat → Int32) → Prop) (R34 : Int32 → (Nat → Int32) → Prop) (x3 : Int32) (a_before : Nat → Int32) : Prop :=
  (9 ≤ x3 → K34 x3 a_before) ∧ (¬ 9 ≤ x3 → p_X1_leastNear a_joined x3 (fun r47 => vp_in x3 9 ∧ (R34 (x3 + 1) (upd a_before (Int32.toNatClampNeg x3) r47))))
def p_X1_walkOn (n_p1 : Nat) (a_before : Nat → Int32) (a_joined : Nat → Int32) (a_p1 : Nat → Int32) (x2 : Int32) (Q : (Nat → Int32) → (Nat → Int32) → Prop) : Prop :=
  ∃ n2 : Nat, wl2 (p_X1_walkOn_B2 n_p1 a_before a_p1 x2 (fun x3_32 a_joined_32 => ∃ n34 : Nat, wl2 (p_X1_walkOn_B34 a_joined_32 (fun x3_57 a_before_57 => Q a_before_57 a_joined_32)) n34 0 a_before)) n2 0 a_joined

def p_X1_leastThrough_B38 (a_before : Nat → Int32) (a_behind : Nat → Int32) (a_costs : Nat → Int32) (x3 : Int32) (x4 : Int32) (K38 : Int32 → Int32 → Prop) (R38 : Int32 → Int32 → Prop) (x5 : Int32) (x6 : Int32) : Prop :=
  (9 ≤ x6 → K38 x5 x6) ∧ (¬ 9 ≤ x6 → vp_in x6 9 ∧ (vp_in (x3 + x6) 2160 ∧ (vp_in (x4 + x6) 180 ∧ (R38 (jmin x5 (((a_before (Int32.toNatClampNeg x6)) + (a_costs (Int32.toNatClampNeg (x3 + x6)))) + (a_behind (Int32.toNatClampNeg (x4 + x6))))) (x6 + 1)))))
def p_X1_leastThrough (a_before : Nat → Int32) (a_behind : Nat → Int32) (a_costs : Nat → Int32) (x1 : Int32) (x2 : Int32) (Q : Int32 → Prop) : Prop :=
  p_X1_rowOf x1 x2 (fun r2 => vp_in 0 9 ∧ (vp_in r2 2160 ∧ (vp_in (x1 * 9) 180 ∧ (∃ n38 : Nat, wl2 (p_X1_leastThrough_B38 a_before a_behind a_costs r2 (x1 * 9) (fun x5_86 x6_86 => Q x5_86)) n38 (((a_before (Int32.toNatClampNeg 0)) + (a_costs (Int32.toNatClampNeg r2))) + (a_behind (Int32.toNatClampNeg (x1 * 9)))) 1))))

def p_X1_pickSigns_B17 (a_before : Nat → Int32) (a_behind : Nat → Int32) (a_costs : Nat → Int32) (x2 : Int32) (x3 : Int32) (K17 : Int32 → Prop) (R17 : Int32 → Prop) (x4 : Int32) : Prop :=
  (11 ≤ x4 → K17 x4) ∧ (¬ 11 ≤ x4 → p_X1_leastThrough a_before a_behind a_costs x3 x4 (fun r28 => (r28 = x2 → K17 x4) ∧ (¬ r28 = x2 → R17 (x4 + 1))))
def p_X1_pickSigns_B6 (f_places : Int32) (a_behind : Nat → Int32) (a_costs : Nat → Int32) (x2 : Int32) (K6 : Int32 → (Nat → Int32) → (Nat → Int32) → (Nat → Int32) → Prop) (R6 : Int32 → (Nat → Int32) → (Nat → Int32) → (Nat → Int32) → Prop) (x3 : Int32) (a_before : Nat → Int32) (a_joined : Nat → Int32) (a_p1 : Nat → Int32) : Prop :=
  (f_places ≤ x3 → K6 x3 a_before a_joined a_p1) ∧ (¬ f_places ≤ x3 → ∃ n17 : Nat, wl1 (p_X1_pickSigns_B17 a_before a_behind a_costs x2 x3 (fun x4_41 => vp_in x3 20 ∧ (p_X1_rowOf x3 x4_41 (fun r54 => p_X1_walkOn 2160 a_before a_joined a_costs r54 (fun a_before_57 a_joined_57 => R6 (x3 + 1) a_before_57 a_joined_57 (upd a_p1 (Int32.toNatClampNeg x3) x4_41)))))) n17 0)
def p_X1_pickSigns (f_places : Int32) (a_before : Nat → Int32) (a_behind : Nat → Int32) (a_costs : Nat → Int32) (a_joined : Nat → Int32) (a_p1 : Nat → Int32) (x2 : Int32) (Q : (Nat → Int32) → (Nat → Int32) → (Nat → Int32) → Prop) : Prop :=
  p_X1_startWalk a_before (fun a_before_1 => ∃ n6 : Nat, wl4 (p_X1_pickSigns_B6 f_places a_behind a_costs x2 (fun x3_66 a_before_66 a_joined_66 a_p1_66 => Q a_before_66 a_joined_66 a_p1_66)) n6 0 a_before_1 a_joined a_p1)

def p_X1_leastCostBeside_J48 (R21 : Int32 → Int32 → Prop) (x2 : Int32) (x4 : Int32) : Prop :=
  R21 x2 (x4 + 1)
def p_X1_leastCostBeside_B21 (a_before : Nat → Int32) (a_behind : Nat → Int32) (a_costs : Nat → Int32) (a_p1 : Nat → Int32) (x3 : Int32) (K21 : Int32 → Int32 → Prop) (R21 : Int32 → Int32 → Prop) (x2 : Int32) (x4 : Int32) : Prop :=
  (12 ≤ x4 → K21 x2 x4) ∧ (¬ 12 ≤ x4 → vp_in x3 20 ∧ ((x4 = (a_p1 (Int32.toNatClampNeg x3)) → p_X1_leastCostBeside_J48 R21 x2 x4) ∧ (¬ x4 = (a_p1 (Int32.toNatClampNeg x3)) → p_X1_leastThrough a_before a_behind a_costs x3 x4 (fun r41 => p_X1_leastCostBeside_J48 R21 (jmin x2 r41) x4))))
def p_X1_leastCostBeside_B10 (f_places : Int32) (a_behind : Nat → Int32) (a_costs : Nat → Int32) (a_here : Nat → Int32) (a_p1 : Nat → Int32) (K10 : Int32 → Int32 → (Nat → Int32) → (Nat → Int32) → Prop) (R10 : Int32 → Int32 → (Nat → Int32) → (Nat → Int32) → Prop) (x2 : Int32) (x3 : Int32) (a_before : Nat → Int32) (a_joined : Nat → Int32) : Prop :=
  (f_places ≤ x3 → K10 x2 x3 a_before a_joined) ∧ (¬ f_places ≤ x3 → ∃ n21 : Nat, wl2 (p_X1_leastCostBeside_B21 a_before a_behind a_costs a_p1 x3 (fun x2_54 x4_54 => p_X1_walkOn 180 a_before a_joined a_here (x3 * 9) (fun a_before_63 a_joined_63 => R10 x2_54 (x3 + 1) a_before_63 a_joined_63))) n21 x2 0)
def p_X1_leastCostBeside (f_places : Int32) (a_before : Nat → Int32) (a_behind : Nat → Int32) (a_costs : Nat → Int32) (a_here : Nat → Int32) (a_joined : Nat → Int32) (a_p1 : Nat → Int32) (Q : Int32 → (Nat → Int32) → (Nat → Int32) → Prop) : Prop :=
  p_X1_startWalk a_before (fun a_before_5 => ∃ n10 : Nat, wl4 (p_X1_leastCostBeside_B10 f_places a_behind a_costs a_here a_p1 (fun x2_72 x3_72 a_before_72 a_joined_72 => Q x2_72 a_before_72 a_joined_72)) n10 7201 0 a_before_5 a_joined)

def p_X1_pickSpeeds_B42 (a_behind : Nat → Int32) (a_here : Nat → Int32) (x3 : Int32) (x4 : Int32) (x6 : Int32) (x8 : Int32) (K42 : Int32 → Prop) (R42 : Int32 → Prop) (x9 : Int32) : Prop :=
  (x6 ≤ x9 → K42 x9) ∧ (¬ x6 ≤ x9 → vp_in (x8 + x9) 180 ∧ (vp_in (x8 + x9) 180 ∧ ((((x4 + (a_here (Int32.toNatClampNeg (x8 + x9)))) + (a_behind (Int32.toNatClampNeg (x8 + x9)))) = x3 → K42 x9) ∧ (¬ ((x4 + (a_here (Int32.toNatClampNeg (x8 + x9)))) + (a_behind (Int32.toNatClampNeg (x8 + x9)))) = x3 → R42 (x9 + 1)))))
def p_X1_pickSpeeds_B22 (f_places : Int32) (a_behind : Nat → Int32) (a_here : Nat → Int32) (x3 : Int32) (K22 : Int32 → Int32 → Int32 → Int32 → (Nat → Int32) → Prop) (R22 : Int32 → Int32 → Int32 → Int32 → (Nat → Int32) → Prop) (x4 : Int32) (x5 : Int32) (x6 : Int32) (x7 : Int32) (a_p2 : Nat → Int32) : Prop :=
  (f_places ≤ x7 → K22 x4 x5 x6 x7 a_p2) ∧ (¬ f_places ≤ x7 → ∃ n42 : Nat, wl1 (p_X1_pickSpeeds_B42 a_behind a_here x3 x4 x6 (x7 * 9) (fun x9_83 => vp_in x7 20 ∧ (vp_in ((x7 * 9) + x9_83) 180 ∧ (R22 (x4 + (a_here (Int32.toNatClampNeg ((x7 * 9) + x9_83)))) (jmax 0 (x9_83 - 1)) (jmin 8 (x9_83 + 1)) (x7 + 1) (upd a_p2 (Int32.toNatClampNeg x7) (4 + x9_83)))))) n42 x5)
def p_X1_pickSpeeds (f_places : Int32) (a_behind : Nat → Int32) (a_costs : Nat → Int32) (a_here : Nat → Int32) (a_joined : Nat → Int32) (a_p1 : Nat → Int32) (a_p2 : Nat → Int32) (x3 : Int32) (Q : (Nat → Int32) → (Nat → Int32) → (Nat → Int32) → (Nat → Int32) → Prop) : Prop :=
  p_X1_allowOnly f_places a_costs a_here a_p1 (fun a_here_2 => p_X1_sumFromTheEnd f_places a_behind a_here_2 a_joined (fun a_behind_6 a_joined_6 => ∃ n22 : Nat, wl5 (p_X1_pickSpeeds_B22 f_places a_behind_6 a_here_2 x3 (fun x4_133 x5_133 x6_133 x7_133 a_p2_133 => Q a_behind_6 a_here_2 a_joined_6 a_p2_133)) n22 0 0 8 0 a_p2))

def p_X1_leastCostWith (f_places : Int32) (a_behind : Nat → Int32) (a_costs : Nat → Int32) (a_here : Nat → Int32) (a_joined : Nat → Int32) (a_p1 : Nat → Int32) (x2 : Int32) (x3 : Int32) (Q : Int32 → (Nat → Int32) → (Nat → Int32) → (Nat → Int32) → Prop) : Prop :=
  p_X1_allowOnly f_places a_costs a_here a_p1 (fun a_here_2 => p_X1_allowAt a_costs a_here_2 x2 x3 (fun a_here_8 => p_X1_sumFromTheEnd f_places a_behind a_here_8 a_joined (fun a_behind_12 a_joined_12 => p_X1_leastCost a_behind_12 a_here_8 (fun r16 => Q r16 a_behind_12 a_here_8 a_joined_12))))

def p_X3_begin (f_places : Int32) (f_cost : Int32) (f_turned : Int32) (x1 : Int32) (x2 : Int32) (x3 : Int32) (Q : Int32 → Int32 → Int32 → Prop) : Prop :=
  (narrow .boolean (.int x3) = .int x3 ∧ fits .boolean (.int x3) = true) ∧ (Q x1 x2 x3)

def p_X3_end (f_places : Int32) (Q : Int32 → Prop) : Prop :=
  Q 0

def p_X3_isThere_J12 (Q : Int32 → Prop) (s0 : Int32) : Prop :=
  (narrow .boolean (.int s0) = .int s0) ∧ Q s0
def p_X3_isThere (f_places : Int32) (Q : Int32 → Prop) : Prop :=
  (f_places ≤ 0 → p_X3_isThere_J12 Q 0) ∧ (¬ f_places ≤ 0 → p_X3_isThere_J12 Q 1)

def p_X3_isLong_J14 (Q : Int32 → Prop) (s0 : Int32) : Prop :=
  (narrow .boolean (.int s0) = .int s0) ∧ Q s0
def p_X3_isLong (f_places : Int32) (Q : Int32 → Prop) : Prop :=
  (¬ f_places = 18 → p_X3_isLong_J14 Q 0) ∧ (f_places = 18 → p_X3_isLong_J14 Q 1)

def p_X3_belongs_J37 (Q : Int32 → Prop) (s0 : Int32) : Prop :=
  (narrow .boolean (.int s0) = .int s0) ∧ Q s0
def p_X3_belongs (x0 : Int32) (x1 : Int32) (Q : Int32 → Prop) : Prop :=
  vp_in x0 18 ∧ ((¬ (s_LAYOUT (Int32.toNatClampNeg x0)) = (-1) → vp_in x0 18 ∧ ((¬ x1 = (s_LAYOUT (Int32.toNatClampNeg x0)) → p_X3_belongs_J37 Q 0) ∧ (x1 = (s_LAYOUT (Int32.toNatClampNeg x0)) → p_X3_belongs_J37 Q 1))) ∧ ((s_LAYOUT (Int32.toNatClampNeg x0)) = (-1) → (10 ≤ x1 → p_X3_belongs_J37 Q 0) ∧ (¬ 10 ≤ x1 → p_X3_belongs_J37 Q 1)))

def p_X3_checkLine_J49 (f_strangers : Int32) (f_checkSum : Int32) (a_signs : Nat → Int32) (R20 : Int32 → Int32 → Int32 → Prop) (x1 : Int32) : Prop :=
  vp_in x1 18 ∧ (vp_in x1 20 ∧ (R20 (x1 + 1) f_strangers (f_checkSum + ((s_WEIGHTS (Int32.toNatClampNeg x1)) * (a_signs (Int32.toNatClampNeg x1))))))
def p_X3_checkLine_B20 (a_signs : Nat → Int32) (K20 : Int32 → Int32 → Int32 → Prop) (R20 : Int32 → Int32 → Int32 → Prop) (x1 : Int32) (f_strangers : Int32) (f_checkSum : Int32) : Prop :=
  (18 ≤ x1 → K20 x1 f_strangers f_checkSum) ∧ (¬ 18 ≤ x1 → vp_in x1 20 ∧ (p_X3_belongs x1 (a_signs (Int32.toNatClampNeg x1)) (fun r33 => (¬ r33 = 0 → p_X3_checkLine_J49 f_strangers f_checkSum a_signs R20 x1) ∧ (r33 = 0 → p_X3_checkLine_J49 (f_strangers + 1) f_checkSum a_signs R20 x1))))
def p_X3_checkLine (f_places : Int32) (f_strangers : Int32) (f_checkSum : Int32) (a_signs : Nat → Int32) (Q : Int32 → Int32 → Prop) : Prop :=
  p_X3_isLong f_places (fun r11 => (¬ r11 = 0 → ∃ n20 : Nat, wl3 (p_X3_checkLine_B20 a_signs (fun x1_76 f_strangers_76 f_checkSum_76 => Q f_strangers_76 f_checkSum_76)) n20 0 0 0) ∧ (r11 = 0 → Q 0 0))

def p_X3_fits_J29 (Q : Int32 → Prop) (s0 : Int32) : Prop :=
  (narrow .boolean (.int s0) = .int s0) ∧ Q s0
def p_X3_fits_J28 (Q : Int32 → Prop) : Prop :=
  p_X3_fits_J29 Q 0
def p_X3_fits (f_places : Int32) (f_strangers : Int32) (f_checkSum : Int32) (Q : Int32 → Prop) : Prop :=
  p_X3_isLong f_places (fun r1 => (r1 = 0 → p_X3_fits_J28 Q) ∧ (¬ r1 = 0 → (¬ f_strangers = 0 → p_X3_fits_J28 Q) ∧ (f_strangers = 0 → (¬ (jrem f_checkSum 10) = 0 → p_X3_fits_J28 Q) ∧ ((jrem f_checkSum 10) = 0 → p_X3_fits_J29 Q 1))))

def p_X3_isOther_J20 (Q : Int32 → Prop) : Prop :=
  (narrow .boolean (.int 0) = .int 0) ∧ Q 0
def p_X3_isOther_J75 (Q : Int32 → Prop) (s0 : Int32) : Prop :=
  (narrow .boolean (.int s0) = .int s0) ∧ Q s0
def p_X3_isOther_J74 (Q : Int32 → Prop) : Prop :=
  p_X3_isOther_J75 Q 0
def p_X3_isOther_J43 (f_checkSum : Int32) (Q : Int32 → Prop) (x1 : Int32) (x2 : Int32) (x3 : Int32) (s0 : Int32) : Prop :=
  (¬ s0 = 0 → p_X3_isOther_J74 Q) ∧ (s0 = 0 → vp_in x1 18 ∧ ((¬ (jrem (f_checkSum + ((s_WEIGHTS (Int32.toNatClampNeg x1)) * (x2 - x3))) 10) = 0 → p_X3_isOther_J74 Q) ∧ ((jrem (f_checkSum + ((s_WEIGHTS (Int32.toNatClampNeg x1)) * (x2 - x3))) 10) = 0 → p_X3_isOther_J75 Q 1)))
def p_X3_isOther (f_strangers : Int32) (f_checkSum : Int32) (a_signs : Nat → Int32) (x1 : Int32) (x2 : Int32) (Q : Int32 → Prop) : Prop :=
  vp_in x1 20 ∧ ((x2 = (a_signs (Int32.toNatClampNeg x1)) → p_X3_isOther_J20 Q) ∧ (¬ x2 = (a_signs (Int32.toNatClampNeg x1)) → p_X3_belongs x1 x2 (fun r14 => (¬ r14 = 0 → p_X3_belongs x1 (a_signs (Int32.toNatClampNeg x1)) (fun r24 => (r24 = 0 → p_X3_isOther_J43 f_checkSum Q x1 x2 (a_signs (Int32.toNatClampNeg x1)) (f_strangers - 1)) ∧ (¬ r24 = 0 → p_X3_isOther_J43 f_checkSum Q x1 x2 (a_signs (Int32.toNatClampNeg x1)) f_strangers))) ∧ (r14 = 0 → p_X3_isOther_J20 Q))))

def p_X3_countOthers_J39 (R21 : Int32 → Int32 → Prop) (x1 : Int32) (x3 : Int32) : Prop :=
  R21 x1 (x3 + 1)
def p_X3_countOthers_B21 (f_strangers : Int32) (f_checkSum : Int32) (a_signs : Nat → Int32) (x2 : Int32) (K21 : Int32 → Int32 → Prop) (R21 : Int32 → Int32 → Prop) (x1 : Int32) (x3 : Int32) : Prop :=
  (12 ≤ x3 → K21 x1 x3) ∧ (¬ 12 ≤ x3 → p_X3_isOther f_strangers f_checkSum a_signs x2 x3 (fun r30 => (r30 = 0 → p_X3_countOthers_J39 R21 x1 x3) ∧ (¬ r30 = 0 → p_X3_countOthers_J39 R21 (x1 + 1) x3)))
def p_X3_countOthers_B13 (f_strangers : Int32) (f_checkSum : Int32) (a_signs : Nat → Int32) (K13 : Int32 → Int32 → Prop) (R13 : Int32 → Int32 → Prop) (x1 : Int32) (x2 : Int32) : Prop :=
  (18 ≤ x2 → K13 x1 x2) ∧ (¬ 18 ≤ x2 → ∃ n21 : Nat, wl2 (p_X3_countOthers_B21 f_strangers f_checkSum a_signs x2 (fun x1_45 x3_45 => R13 x1_45 (x2 + 1))) n21 x1 0)
def p_X3_countOthers (f_places : Int32) (f_strangers : Int32) (f_checkSum : Int32) (a_signs : Nat → Int32) (Q : Int32 → Prop) : Prop :=
  p_X3_isLong f_places (fun r1 => (¬ r1 = 0 → ∃ n13 : Nat, wl2 (p_X3_countOthers_B13 f_strangers f_checkSum a_signs (fun x1_51 x2_51 => Q x1_51)) n13 0 0) ∧ (r1 = 0 → Q 0))

def p_X3_findOther_J11 (Q : Int32 → Prop) : Prop :=
  Q (-1)
def p_X3_findOther_J58 (R26 : Int32 → Int32 → Prop) (x2 : Int32) (x4 : Int32) : Prop :=
  R26 x2 (x4 + 1)
def p_X3_findOther_B26 (f_strangers : Int32) (f_checkSum : Int32) (a_signs : Nat → Int32) (x3 : Int32) (Q : Int32 → Prop) (K26 : Int32 → Int32 → Prop) (R26 : Int32 → Int32 → Prop) (x2 : Int32) (x4 : Int32) : Prop :=
  (12 ≤ x4 → K26 x2 x4) ∧ (¬ 12 ≤ x4 → p_X3_isOther f_strangers f_checkSum a_signs x3 x4 (fun r37 => (r37 = 0 → p_X3_findOther_J58 R26 x2 x4) ∧ (¬ r37 = 0 → (¬ x2 = 0 → p_X3_findOther_J58 R26 (x2 + (-1)) x4) ∧ (x2 = 0 → Q ((x3 * 12) + x4)))))
def p_X3_findOther_B17 (f_strangers : Int32) (f_checkSum : Int32) (a_signs : Nat → Int32) (Q : Int32 → Prop) (K17 : Int32 → Int32 → Prop) (R17 : Int32 → Int32 → Prop) (x2 : Int32) (x3 : Int32) : Prop :=
  (18 ≤ x3 → K17 x2 x3) ∧ (¬ 18 ≤ x3 → ∃ n26 : Nat, wl2 (p_X3_findOther_B26 f_strangers f_checkSum a_signs x3 Q (fun x2_64 x4_64 => R17 x2_64 (x3 + 1))) n26 x2 0)
def p_X3_findOther (f_places : Int32) (f_strangers : Int32) (f_checkSum : Int32) (a_signs : Nat → Int32) (x1 : Int32) (Q : Int32 → Prop) : Prop :=
  p_X3_isLong f_places (fun r1 => (r1 = 0 → p_X3_findOther_J11 Q) ∧ (¬ r1 = 0 → (0 ≤ x1 → ∃ n17 : Nat, wl2 (p_X3_findOther_B17 f_strangers f_checkSum a_signs Q (fun x2_70 x3_70 => Q (-1))) n17 x1 0) ∧ (¬ 0 ≤ x1 → p_X3_findOther_J11 Q)))

def p_X3_become (f_places : Int32) (f_cost : Int32) (f_gap : Int32) (f_strangers : Int32) (f_checkSum : Int32) (a_signs : Nat → Int32) (x1 : Int32) (x2 : Int32) (x3 : Int32) (Q : Int32 → Int32 → Int32 → Int32 → (Nat → Int32) → Prop) : Prop :=
  vp_in x1 20 ∧ (p_X3_checkLine f_places f_strangers f_checkSum (upd a_signs (Int32.toNatClampNeg x1) x2) (fun f_strangers_18 f_checkSum_18 => Q x3 0 f_strangers_18 f_checkSum_18 (upd a_signs (Int32.toNatClampNeg x1) x2)))

def p_X3_digitsOf_B11 (a_signs : Nat → Int32) (x1 : Int32) (x2 : Int32) (K11 : Int32 → Int32 → Prop) (R11 : Int32 → Int32 → Prop) (x3 : Int32) (x4 : Int32) : Prop :=
  vp_in x1 3 ∧ (((s_FIELD_LENGTHS (Int32.toNatClampNeg x1)) ≤ x4 → K11 x3 x4) ∧ (¬ (s_FIELD_LENGTHS (Int32.toNatClampNeg x1)) ≤ x4 → vp_in (x2 + x4) 20 ∧ (R11 ((x3 * 10) + (a_signs (Int32.toNatClampNeg (x2 + x4)))) (x4 + 1))))
def p_X3_digitsOf (a_signs : Nat → Int32) (x1 : Int32) (Q : Int32 → Prop) : Prop :=
  vp_in x1 3 ∧ (∃ n11 : Nat, wl2 (p_X3_digitsOf_B11 a_signs x1 (s_FIELD_STARTS (Int32.toNatClampNeg x1)) (fun x3_42 x4_42 => Q x3_42)) n11 0 0)

def p_X2_open (f_batches : Int32) (a_told : Nat → Int32) (x1 : Int32) (Q : Int32 → Int32 → (Nat → Int32) → Prop) : Prop :=
  vp_in f_batches 20 ∧ (Q ((f_batches + 1) - 1) (f_batches + 1) (upd a_told (Int32.toNatClampNeg f_batches) x1))

def p_X2_take (f_papers : Int32) (a_accounts : Nat → Int32) (a_amounts : Nat → Int32) (a_banks : Nat → Int32) (a_batchOf : Nat → Int32) (a_numbers : Nat → Int32) (a_p3_signs : Nat → Int32) (x1 : Int32) (x2 : Int32) (Q : Int32 → Int32 → (Nat → Int32) → (Nat → Int32) → (Nat → Int32) → (Nat → Int32) → (Nat → Int32) → Prop) : Prop :=
  vp_in f_papers 100 ∧ (vp_in f_papers 100 ∧ (p_X3_digitsOf a_p3_signs 0 (fun r30 => vp_in f_papers 100 ∧ (p_X3_digitsOf a_p3_signs 1 (fun r44 => vp_in f_papers 100 ∧ (p_X3_digitsOf a_p3_signs 2 (fun r58 => vp_in f_papers 100 ∧ (Q ((f_papers + 1) - 1) (f_papers + 1) (upd a_accounts (Int32.toNatClampNeg f_papers) r44) (upd a_amounts (Int32.toNatClampNeg f_papers) x2) (upd a_banks (Int32.toNatClampNeg f_papers) r30) (upd a_batchOf (Int32.toNatClampNeg f_papers) x1) (upd a_numbers (Int32.toNatClampNeg f_papers) r58)))))))))

def p_X2_findTwin_J68 (R22 : Int32 → Prop) (x5 : Int32) : Prop :=
  R22 (x5 + 1)
def p_X2_findTwin_B22 (f_papers : Int32) (a_accounts : Nat → Int32) (a_banks : Nat → Int32) (a_numbers : Nat → Int32) (x2 : Int32) (x3 : Int32) (x4 : Int32) (Q : Int32 → Prop) (K22 : Int32 → Prop) (R22 : Int32 → Prop) (x5 : Int32) : Prop :=
  (f_papers ≤ x5 → K22 x5) ∧ (¬ f_papers ≤ x5 → vp_in x5 100 ∧ ((¬ (a_banks (Int32.toNatClampNeg x5)) = x2 → p_X2_findTwin_J68 R22 x5) ∧ ((a_banks (Int32.toNatClampNeg x5)) = x2 → vp_in x5 100 ∧ ((¬ (a_accounts (Int32.toNatClampNeg x5)) = x3 → p_X2_findTwin_J68 R22 x5) ∧ ((a_accounts (Int32.toNatClampNeg x5)) = x3 → vp_in x5 100 ∧ ((¬ (a_numbers (Int32.toNatClampNeg x5)) = x4 → p_X2_findTwin_J68 R22 x5) ∧ ((a_numbers (Int32.toNatClampNeg x5)) = x4 → Q x5)))))))
def p_X2_findTwin (f_papers : Int32) (a_accounts : Nat → Int32) (a_banks : Nat → Int32) (a_numbers : Nat → Int32) (a_p1_signs : Nat → Int32) (Q : Int32 → Prop) : Prop :=
  p_X3_digitsOf a_p1_signs 0 (fun r2 => p_X3_digitsOf a_p1_signs 1 (fun r8 => p_X3_digitsOf a_p1_signs 2 (fun r14 => ∃ n22 : Nat, wl1 (p_X2_findTwin_B22 f_papers a_accounts a_banks a_numbers r2 r8 r14 Q (fun x5_74 => Q (-1))) n22 0)))

def p_X2_sumOut_J36 (R5 : Int64 → Int32 → Prop) (x2 : Int64) (x4 : Int32) : Prop :=
  R5 x2 (x4 + 1)
def p_X2_sumOut_B5 (f_papers : Int32) (a_amounts : Nat → Int32) (a_batchOf : Nat → Int32) (x1 : Int32) (K5 : Int64 → Int32 → Prop) (R5 : Int64 → Int32 → Prop) (x2 : Int64) (x4 : Int32) : Prop :=
  (f_papers ≤ x4 → K5 x2 x4) ∧ (¬ f_papers ≤ x4 → vp_in x4 100 ∧ ((¬ (a_batchOf (Int32.toNatClampNeg x4)) = x1 → p_X2_sumOut_J36 R5 x2 x4) ∧ ((a_batchOf (Int32.toNatClampNeg x4)) = x1 → vp_in x4 100 ∧ (p_X2_sumOut_J36 R5 (x2 + (Int32.toInt64 (a_amounts (Int32.toNatClampNeg x4)))) x4))))
def p_X2_sumOut (f_papers : Int32) (a_amounts : Nat → Int32) (a_batchOf : Nat → Int32) (a_told : Nat → Int32) (x1 : Int32) (Q : Int64 → Prop) : Prop :=
  ∃ n5 : Nat, wl2 (p_X2_sumOut_B5 f_papers a_amounts a_batchOf x1 (fun x2_42 x4_42 => vp_in x1 20 ∧ (Q (x2_42 - (Int32.toInt64 (a_told (Int32.toNatClampNeg x1))))))) n5 0 0

def p_X4_differInOneDigit_J31 (R10 : Int32 → Int32 → Int32 → Int32 → Prop) (x2 : Int32) (x3 : Int32) (x4 : Int32) (x5 : Int32) : Prop :=
  R10 (x2 / 10) (x3 / 10) x4 (x5 + 1)
def p_X4_differInOneDigit_B10 (K10 : Int32 → Int32 → Int32 → Int32 → Prop) (R10 : Int32 → Int32 → Int32 → Int32 → Prop) (x2 : Int32) (x3 : Int32) (x4 : Int32) (x5 : Int32) : Prop :=
  (7 ≤ x5 → K10 x2 x3 x4 x5) ∧ (¬ 7 ≤ x5 → ((jrem x2 10) = (jrem x3 10) → p_X4_differInOneDigit_J31 R10 x2 x3 x4 x5) ∧ (¬ (jrem x2 10) = (jrem x3 10) → p_X4_differInOneDigit_J31 R10 x2 x3 (x4 + 1) x5))
def p_X4_differInOneDigit_J58 (Q : Int32 → Prop) (s0 : Int32) : Prop :=
  (narrow .boolean (.int s0) = .int s0) ∧ Q s0
def p_X4_differInOneDigit (x0 : Int32) (x1 : Int32) (Q : Int32 → Prop) : Prop :=
  ∃ n10 : Nat, wl4 (p_X4_differInOneDigit_B10 (fun x2_47 x3_47 x4_47 x5_47 => (¬ x4_47 = 1 → p_X4_differInOneDigit_J58 Q 0) ∧ (x4_47 = 1 → p_X4_differInOneDigit_J58 Q 1))) n10 x0 x1 0 0

def p_X4_note (f_size : Int32) (a_amounts : Nat → Int32) (a_kinds : Nat → Int32) (a_papers : Nat → Int32) (x1 : Int32) (x2 : Int32) (x3 : Int32) (Q : Int32 → (Nat → Int32) → (Nat → Int32) → (Nat → Int32) → Prop) : Prop :=
  (f_size < 301 → vp_in f_size 301 ∧ (vp_in f_size 301 ∧ (vp_in f_size 301 ∧ (Q (f_size + 1) (upd a_amounts (Int32.toNatClampNeg f_size) x3) (upd a_kinds (Int32.toNatClampNeg f_size) x1) (upd a_papers (Int32.toNatClampNeg f_size) x2))))) ∧ (¬ f_size < 301 → Q f_size a_amounts a_kinds a_papers)

def p_X4_differByNeighbours_J56 (R7 : Int32 → Int32 → Int32 → Prop) (x2 : Int32) (x3 : Int32) (x4 : Int32) : Prop :=
  R7 x2 (x3 * 10) (x4 + 1)
def p_X4_differByNeighbours_B7 (x0 : Int32) (x1 : Int32) (Q : Int32 → Prop) (K7 : Int32 → Int32 → Int32 → Prop) (R7 : Int32 → Int32 → Int32 → Prop) (x2 : Int32) (x3 : Int32) (x4 : Int32) : Prop :=
  (6 ≤ x4 → K7 x2 x3 x4) ∧ (¬ 6 ≤ x4 → ((jrem x2 10) = (jrem (x2 / 10) 10) → p_X4_differByNeighbours_J56 R7 (x2 / 10) x3 x4) ∧ (¬ (jrem x2 10) = (jrem (x2 / 10) 10) → (¬ (x1 - x0) = ((((jrem x2 10) - (jrem (x2 / 10) 10)) * 9) * x3) → p_X4_differByNeighbours_J56 R7 (x2 / 10) x3 x4) ∧ ((x1 - x0) = ((((jrem x2 10) - (jrem (x2 / 10) 10)) * 9) * x3) → (narrow .boolean (.int 1) = .int 1) ∧ Q 1)))
def p_X4_differByNeighbours (x0 : Int32) (x1 : Int32) (Q : Int32 → Prop) : Prop :=
  ∃ n7 : Nat, wl3 (p_X4_differByNeighbours_B7 x0 x1 Q (fun x2_67 x3_67 x4_67 => (narrow .boolean (.int 0) = .int 0) ∧ Q 0)) n7 x0 1 0

def p_X4_explainBy_J74 (f_size : Int32) (a_amounts : Nat → Int32) (a_kinds : Nat → Int32) (a_papers : Nat → Int32) (Q : Int32 → (Nat → Int32) → (Nat → Int32) → (Nat → Int32) → Prop) : Prop :=
  Q f_size a_amounts a_kinds a_papers
def p_X4_explainBy_J60 (f_size : Int32) (a_amounts : Nat → Int32) (a_kinds : Nat → Int32) (a_papers : Nat → Int32) (Q : Int32 → (Nat → Int32) → (Nat → Int32) → (Nat → Int32) → Prop) (x1 : Int32) (x2 : Int32) (x3 : Int64) : Prop :=
  (¬ (lg_cmp (Int32.toInt64 x2) x3) = 0 → p_X4_explainBy_J74 f_size a_amounts a_kinds a_papers Q) ∧ ((lg_cmp (Int32.toInt64 x2) x3) = 0 → p_X4_note f_size a_amounts a_kinds a_papers 2 x1 0 (fun f_size_71 a_amounts_71 a_kinds_71 a_papers_71 => p_X4_explainBy_J74 f_size_71 a_amounts_71 a_kinds_71 a_papers_71 Q))
def p_X4_explainBy_J41 (f_size : Int32) (a_amounts : Nat → Int32) (a_kinds : Nat → Int32) (a_papers : Nat → Int32) (Q : Int32 → (Nat → Int32) → (Nat → Int32) → (Nat → Int32) → Prop) (x1 : Int32) (x2 : Int32) (x3 : Int64) (x5 : Int64) : Prop :=
  p_X4_differByNeighbours x2 (Int64.toInt32 x5) (fun r45 => (r45 = 0 → p_X4_explainBy_J60 f_size a_amounts a_kinds a_papers Q x1 x2 x3) ∧ (¬ r45 = 0 → p_X4_note f_size a_amounts a_kinds a_papers 1 x1 (Int64.toInt32 x5) (fun f_size_57 a_amounts_57 a_kinds_57 a_papers_57 => p_X4_explainBy_J60 f_size_57 a_amounts_57 a_kinds_57 a_papers_57 Q x1 x2 x3)))
def p_X4_explainBy (f_size : Int32) (a_amounts : Nat → Int32) (a_kinds : Nat → Int32) (a_papers : Nat → Int32) (x1 : Int32) (x2 : Int32) (x3 : Int64) (Q : Int32 → (Nat → Int32) → (Nat → Int32) → (Nat → Int32) → Prop) : Prop :=
  ((lg_cmp ((Int32.toInt64 x2) - x3) 0) < 0 → p_X4_explainBy_J60 f_size a_amounts a_kinds a_papers Q x1 x2 x3) ∧ (¬ (lg_cmp ((Int32.toInt64 x2) - x3) 0) < 0 → (0 < (lg_cmp ((Int32.toInt64 x2) - x3) 9999999) → p_X4_explainBy_J60 f_size a_amounts a_kinds a_papers Q x1 x2 x3) ∧ (¬ 0 < (lg_cmp ((Int32.toInt64 x2) - x3) 9999999) → p_X4_differInOneDigit x2 (Int64.toInt32 ((Int32.toInt64 x2) - x3)) (fun r26 => (r26 = 0 → p_X4_explainBy_J41 f_size a_amounts a_kinds a_papers Q x1 x2 x3 ((Int32.toInt64 x2) - x3)) ∧ (¬ r26 = 0 → p_X4_note f_size a_amounts a_kinds a_papers 0 x1 (Int64.toInt32 ((Int32.toInt64 x2) - x3)) (fun f_size_38 a_amounts_38 a_kinds_38 a_papers_38 => p_X4_explainBy_J41 f_size_38 a_amounts_38 a_kinds_38 a_papers_38 Q x1 x2 x3 ((Int32.toInt64 x2) - x3))))))

def p_X4_explain_J55 (f_size : Int32) (a_amounts : Nat → Int32) (a_kinds : Nat → Int32) (a_papers : Nat → Int32) (R21 : Int32 → Int32 → (Nat → Int32) → (Nat → Int32) → (Nat → Int32) → Prop) (x5 : Int32) : Prop :=
  R21 (x5 + 1) f_size a_amounts a_kinds a_papers
def p_X4_explain_B21 (f_p1_papers : Int32) (a_p1_amounts : Nat → Int32) (a_p1_batchOf : Nat → Int32) (x2 : Int32) (x3 : Int64) (K21 : Int32 → Int32 → (Nat → Int32) → (Nat → Int32) → (Nat → Int32) → Prop) (R21 : Int32 → Int32 → (Nat → Int32) → (Nat → Int32) → (Nat → Int32) → Prop) (x5 : Int32) (f_size : Int32) (a_amounts : Nat → Int32) (a_kinds : Nat → Int32) (a_papers : Nat → Int32) : Prop :=
  (f_p1_papers ≤ x5 → K21 x5 f_size a_amounts a_kinds a_papers) ∧ (¬ f_p1_papers ≤ x5 → vp_in x5 100 ∧ ((¬ (a_p1_batchOf (Int32.toNatClampNeg x5)) = x2 → p_X4_explain_J55 f_size a_amounts a_kinds a_papers R21 x5) ∧ ((a_p1_batchOf (Int32.toNatClampNeg x5)) = x2 → vp_in x5 100 ∧ (p_X4_explainBy f_size a_amounts a_kinds a_papers x5 (a_p1_amounts (Int32.toNatClampNeg x5)) x3 (fun f_size_52 a_amounts_52 a_kinds_52 a_papers_52 => p_X4_explain_J55 f_size_52 a_amounts_52 a_kinds_52 a_papers_52 R21 x5)))))
def p_X4_explain_J85 (f_size : Int32) (a_amounts : Nat → Int32) (a_kinds : Nat → Int32) (a_papers : Nat → Int32) (Q : Int32 → (Nat → Int32) → (Nat → Int32) → (Nat → Int32) → Prop) : Prop :=
  Q f_size a_amounts a_kinds a_papers
def p_X4_explain (f_size : Int32) (f_p1_papers : Int32) (a_amounts : Nat → Int32) (a_kinds : Nat → Int32) (a_papers : Nat → Int32) (a_p1_amounts : Nat → Int32) (a_p1_batchOf : Nat → Int32) (a_p1_told : Nat → Int32) (x2 : Int32) (Q : Int32 → (Nat → Int32) → (Nat → Int32) → (Nat → Int32) → Prop) : Prop :=
  p_X2_sumOut f_p1_papers a_p1_amounts a_p1_batchOf a_p1_told x2 (fun r7 => (¬ (lg_cmp r7 0) = 0 → ∃ n21 : Nat, wl5 (p_X4_explain_B21 f_p1_papers a_p1_amounts a_p1_batchOf x2 r7 (fun x5_61 f_size_61 a_amounts_61 a_kinds_61 a_papers_61 => (0 ≤ (lg_cmp r7 0) → p_X4_explain_J85 f_size_61 a_amounts_61 a_kinds_61 a_papers_61 Q) ∧ (¬ 0 ≤ (lg_cmp r7 0) → (0 < (lg_cmp (jlneg r7) 9999999) → p_X4_explain_J85 f_size_61 a_amounts_61 a_kinds_61 a_papers_61 Q) ∧ (¬ 0 < (lg_cmp (jlneg r7) 9999999) → p_X4_note f_size_61 a_amounts_61 a_kinds_61 a_papers_61 3 (-1) (Int64.toInt32 (jlneg r7)) (fun f_size_82 a_amounts_82 a_kinds_82 a_papers_82 => p_X4_explain_J85 f_size_82 a_amounts_82 a_kinds_82 a_papers_82 Q))))) n21 0 0 a_amounts a_kinds a_papers) ∧ ((lg_cmp r7 0) = 0 → Q 0 a_amounts a_kinds a_papers))

def p_X6_thrown (f_thrown : Int32) (Q : Int32 → Prop) : Prop :=
  Q f_thrown

def p_X6_bad_J9 (f_thrown : Int32) (Q : Int32 → Int32 → Prop) (x1 : Int32) : Prop :=
  (narrow .boolean (.int x1) = .int x1) ∧ Q x1 f_thrown
def p_X6_bad (f_thrown : Int32) (x1 : Int32) (x2 : Int32) (Q : Int32 → Int32 → Prop) : Prop :=
  (x1 = 0 → p_X6_bad_J9 f_thrown Q x1) ∧ (¬ x1 = 0 → p_X6_bad_J9 x2 Q x1)

def p_X6_teach_J73 (R39 : Int32 → Int32 → Int32 → Prop) (x4 : Int32) (x5 : Int32) (s0 : Int32) : Prop :=
  R39 s0 (x4 / 10) (x5 + 1)
def p_X6_teach_J68 (R39 : Int32 → Int32 → Int32 → Prop) (x4 : Int32) (x5 : Int32) : Prop :=
  p_X6_teach_J73 R39 x4 x5 1
def p_X6_teach_B39 (K39 : Int32 → Int32 → Int32 → Prop) (R39 : Int32 → Int32 → Int32 → Prop) (x3 : Int32) (x4 : Int32) (x5 : Int32) : Prop :=
  (6 ≤ x5 → K39 x3 x4 x5) ∧ (¬ 6 ≤ x5 → (¬ x3 = 0 → K39 x3 x4 x5) ∧ (x3 = 0 → ((jrem x4 10) < 1 → p_X6_teach_J68 R39 x4 x5) ∧ (¬ (jrem x4 10) < 1 → ((jrem x4 10) ≤ 3 → p_X6_teach_J73 R39 x4 x5 0) ∧ (¬ (jrem x4 10) ≤ 3 → p_X6_teach_J68 R39 x4 x5))))
def p_X6_teach_J113 (f_thrown : Int32) (a_taught : Nat → Int32) (Q : Int32 → Int32 → (Nat → Int32) → Prop) (x1 : Int32) (x2 : Int32) (s0 : Int32) : Prop :=
  vp_in x1 12 ∧ (Q s0 f_thrown (upd a_taught (Int32.toNatClampNeg x1) x2))
def p_X6_teach_J32 (f_thrown : Int32) (a_taught : Nat → Int32) (Q : Int32 → Int32 → (Nat → Int32) → Prop) (x1 : Int32) (x2 : Int32) (s0 : Int32) : Prop :=
  ∃ n39 : Nat, wl3 (p_X6_teach_B39 (fun x3_87 x4_87 x5_87 => p_X6_bad f_thrown x3_87 1 (fun r90 f_thrown_90 => (r90 = 0 → vp_in x1 12 ∧ ((¬ (a_taught (Int32.toNatClampNeg x1)) = x2 → p_X6_teach_J113 f_thrown_90 a_taught Q x1 x2 1) ∧ ((a_taught (Int32.toNatClampNeg x1)) = x2 → p_X6_teach_J113 f_thrown_90 a_taught Q x1 x2 0))) ∧ (¬ r90 = 0 → Q 0 f_thrown_90 a_taught)))) n39 s0 x2 0
def p_X6_teach_J27 (f_thrown : Int32) (a_taught : Nat → Int32) (Q : Int32 → Int32 → (Nat → Int32) → Prop) (x1 : Int32) (x2 : Int32) : Prop :=
  p_X6_teach_J32 f_thrown a_taught Q x1 x2 1
def p_X6_teach (f_thrown : Int32) (a_taught : Nat → Int32) (x1 : Int32) (x2 : Int32) (Q : Int32 → Int32 → (Nat → Int32) → Prop) : Prop :=
  (x1 < 0 → p_X6_teach_J27 0 a_taught Q x1 x2) ∧ (¬ x1 < 0 → (12 ≤ x1 → p_X6_teach_J27 0 a_taught Q x1 x2) ∧ (¬ 12 ≤ x1 → (x2 < 111111 → p_X6_teach_J27 0 a_taught Q x1 x2) ∧ (¬ x2 < 111111 → (x2 ≤ 333333 → p_X6_teach_J32 0 a_taught Q x1 x2 0) ∧ (¬ x2 ≤ 333333 → p_X6_teach_J27 0 a_taught Q x1 x2))))

def p_X6_tick_J22 (f_thrown : Int32) (f_tickMany : Int32) (a_ticks : Nat → Int32) (Q : Int32 → Int32 → Int32 → (Nat → Int32) → Prop) (x1 : Int32) (s0 : Int32) : Prop :=
  p_X6_bad f_thrown s0 1 (fun r23 f_thrown_23 => (r23 = 0 → (¬ f_tickMany = 120 → vp_in f_tickMany 120 ∧ (Q (f_tickMany + 1) f_thrown_23 (f_tickMany + 1) (upd a_ticks (Int32.toNatClampNeg f_tickMany) x1))) ∧ (f_tickMany = 120 → Q (-1) f_thrown_23 f_tickMany a_ticks)) ∧ (¬ r23 = 0 → Q 0 f_thrown_23 f_tickMany a_ticks))
def p_X6_tick_J17 (f_thrown : Int32) (f_tickMany : Int32) (a_ticks : Nat → Int32) (Q : Int32 → Int32 → Int32 → (Nat → Int32) → Prop) (x1 : Int32) : Prop :=
  p_X6_tick_J22 f_thrown f_tickMany a_ticks Q x1 1
def p_X6_tick (f_thrown : Int32) (f_tickMany : Int32) (a_ticks : Nat → Int32) (x1 : Int32) (Q : Int32 → Int32 → Int32 → (Nat → Int32) → Prop) : Prop :=
  (x1 < 1 → p_X6_tick_J17 0 f_tickMany a_ticks Q x1) ∧ (¬ x1 < 1 → (x1 ≤ 60 → p_X6_tick_J22 0 f_tickMany a_ticks Q x1 0) ∧ (¬ x1 ≤ 60 → p_X6_tick_J17 0 f_tickMany a_ticks Q x1))

def p_X6_cell (x0 : Int32) (x1 : Int32) (x2 : Int32) (Q : Int32 → Prop) : Prop :=
  Q ((((12 * x0) + x1) * 9) + x2)

def p_X6_costOf_J79 (R14 : Int32 → Int32 → Int32 → Prop) (x6 : Int32) (x7 : Int32) (s0 : Int32) (s1 : Int32) : Prop :=
  R14 (s1 + s0) (x6 / 10) (x7 + (-1))
def p_X6_costOf_J51 (a_ticks : Nat → Int32) (R14 : Int32 → Int32 → Int32 → Prop) (x3 : Int32) (x5 : Int32) (x6 : Int32) (x7 : Int32) (s0 : Int32) : Prop :=
  vp_in s0 120 ∧ ((0 ≤ ((a_ticks (Int32.toNatClampNeg s0)) - ((4 + x3) * (jrem x6 10))) → p_X6_costOf_J79 R14 x6 x7 ((a_ticks (Int32.toNatClampNeg s0)) - ((4 + x3) * (jrem x6 10))) x5) ∧ (¬ 0 ≤ ((a_ticks (Int32.toNatClampNeg s0)) - ((4 + x3) * (jrem x6 10))) → p_X6_costOf_J79 R14 x6 x7 (jneg ((a_ticks (Int32.toNatClampNeg s0)) - ((4 + x3) * (jrem x6 10)))) x5))
def p_X6_costOf_B14 (f_tickMany : Int32) (a_ticks : Nat → Int32) (x1 : Int32) (x3 : Int32) (x4 : Int32) (K14 : Int32 → Int32 → Int32 → Prop) (R14 : Int32 → Int32 → Int32 → Prop) (x5 : Int32) (x6 : Int32) (x7 : Int32) : Prop :=
  (x7 < 0 → K14 x5 x6 x7) ∧ (¬ x7 < 0 → (x4 = 0 → p_X6_costOf_J51 a_ticks R14 x3 x5 x6 x7 ((6 * x1) + x7)) ∧ (¬ x4 = 0 → p_X6_costOf_J51 a_ticks R14 x3 x5 x6 x7 ((f_tickMany - 1) - ((6 * x1) + x7))))
def p_X6_costOf (f_tickMany : Int32) (a_taught : Nat → Int32) (a_ticks : Nat → Int32) (x1 : Int32) (x2 : Int32) (x3 : Int32) (x4 : Int32) (Q : Int32 → Prop) : Prop :=
  vp_in x2 12 ∧ (∃ n14 : Nat, wl3 (p_X6_costOf_B14 f_tickMany a_ticks x1 x3 x4 (fun x5_95 x6_95 x7_95 => Q x5_95)) n14 0 (a_taught (Int32.toNatClampNeg x2)) 5)

def p_X6_fills_B21 (f_tickMany : Int32) (a_taught : Nat → Int32) (a_ticks : Nat → Int32) (x1 : Int32) (x2 : Int32) (x3 : Int32) (K21 : Int32 → (Nat → Int32) → Prop) (R21 : Int32 → (Nat → Int32) → Prop) (x4 : Int32) (a_costs : Nat → Int32) : Prop :=
  (9 ≤ x4 → K21 x4 a_costs) ∧ (¬ 9 ≤ x4 → p_X6_cell x2 x3 x4 (fun r36 => p_X6_costOf f_tickMany a_taught a_ticks x2 x3 x4 x1 (fun r45 => vp_in r36 2160 ∧ (R21 (x4 + 1) (upd a_costs (Int32.toNatClampNeg r36) r45)))))
def p_X6_fills_B12 (f_tickMany : Int32) (a_taught : Nat → Int32) (a_ticks : Nat → Int32) (x1 : Int32) (x2 : Int32) (K12 : Int32 → (Nat → Int32) → Prop) (R12 : Int32 → (Nat → Int32) → Prop) (x3 : Int32) (a_costs : Nat → Int32) : Prop :=
  (12 ≤ x3 → K12 x3 a_costs) ∧ (¬ 12 ≤ x3 → ∃ n21 : Nat, wl2 (p_X6_fills_B21 f_tickMany a_taught a_ticks x1 x2 x3 (fun x4_55 a_costs_55 => R12 (x3 + 1) a_costs_55)) n21 0 a_costs)
def p_X6_fills_B2 (f_tickMany : Int32) (f_places : Int32) (a_taught : Nat → Int32) (a_ticks : Nat → Int32) (x1 : Int32) (K2 : Int32 → (Nat → Int32) → Prop) (R2 : Int32 → (Nat → Int32) → Prop) (x2 : Int32) (a_costs : Nat → Int32) : Prop :=
  (f_places ≤ x2 → K2 x2 a_costs) ∧ (¬ f_places ≤ x2 → ∃ n12 : Nat, wl2 (p_X6_fills_B12 f_tickMany a_taught a_ticks x1 x2 (fun x3_61 a_costs_61 => R2 (x2 + 1) a_costs_61)) n12 0 a_costs)
def p_X6_fills (f_tickMany : Int32) (f_places : Int32) (a_costs : Nat → Int32) (a_taught : Nat → Int32) (a_ticks : Nat → Int32) (x1 : Int32) (Q : (Nat → Int32) → Prop) : Prop :=
  ∃ n2 : Nat, wl2 (p_X6_fills_B2 f_tickMany f_places a_taught a_ticks x1 (fun x2_67 a_costs_67 => Q a_costs_67)) n2 0 a_costs

def p_X6_near_J54 (Q : Int32 → Prop) (x3 : Int32) : Prop :=
  Q x3
def p_X6_near_J29 (n_p0 : Nat) (a_p0 : Nat → Int32) (Q : Int32 → Prop) (x1 : Int32) (x2 : Int32) (x3 : Int32) : Prop :=
  (8 ≤ x2 → p_X6_near_J54 Q x3) ∧ (¬ 8 ≤ x2 → vp_in ((x1 + x2) + 1) n_p0 ∧ ((x3 ≤ (a_p0 (Int32.toNatClampNeg ((x1 + x2) + 1))) → p_X6_near_J54 Q x3) ∧ (¬ x3 ≤ (a_p0 (Int32.toNatClampNeg ((x1 + x2) + 1))) → vp_in ((x1 + x2) + 1) n_p0 ∧ (p_X6_near_J54 Q (a_p0 (Int32.toNatClampNeg ((x1 + x2) + 1)))))))
def p_X6_near (n_p0 : Nat) (a_p0 : Nat → Int32) (x1 : Int32) (x2 : Int32) (Q : Int32 → Prop) : Prop :=
  vp_in (x1 + x2) n_p0 ∧ ((x2 ≤ 0 → p_X6_near_J29 n_p0 a_p0 Q x1 x2 (a_p0 (Int32.toNatClampNeg (x1 + x2)))) ∧ (¬ x2 ≤ 0 → vp_in ((x1 + x2) - 1) n_p0 ∧ (((a_p0 (Int32.toNatClampNeg (x1 + x2))) ≤ (a_p0 (Int32.toNatClampNeg ((x1 + x2) - 1))) → p_X6_near_J29 n_p0 a_p0 Q x1 x2 (a_p0 (Int32.toNatClampNeg (x1 + x2)))) ∧ (¬ (a_p0 (Int32.toNatClampNeg (x1 + x2))) ≤ (a_p0 (Int32.toNatClampNeg ((x1 + x2) - 1))) → vp_in ((x1 + x2) - 1) n_p0 ∧ (p_X6_near_J29 n_p0 a_p0 Q x1 x2 (a_p0 (Int32.toNatClampNeg ((x1 + x2) - 1))))))))

def p_X6_cheapest_J45 (R6 : Int32 → Int32 → Prop) (x4 : Int32) (s0 : Int32) : Prop :=
  R6 s0 (x4 + 1)
def p_X6_cheapest_B6 (a_costs : Nat → Int32) (x1 : Int32) (x2 : Int32) (K6 : Int32 → Int32 → Prop) (R6 : Int32 → Int32 → Prop) (x3 : Int32) (x4 : Int32) : Prop :=
  (12 ≤ x4 → K6 x3 x4) ∧ (¬ 12 ≤ x4 → p_X6_cell x1 x4 x2 (fun r21 => vp_in r21 2160 ∧ ((x3 ≤ (a_costs (Int32.toNatClampNeg r21)) → p_X6_cheapest_J45 R6 x4 x3) ∧ (¬ x3 ≤ (a_costs (Int32.toNatClampNeg r21)) → p_X6_cell x1 x4 x2 (fun r37 => vp_in r37 2160 ∧ (p_X6_cheapest_J45 R6 x4 (a_costs (Int32.toNatClampNeg r37))))))))
def p_X6_cheapest (a_costs : Nat → Int32) (x1 : Int32) (x2 : Int32) (Q : Int32 → Prop) : Prop :=
  ∃ n6 : Nat, wl2 (p_X6_cheapest_B6 a_costs x1 x2 (fun x3_52 x4_52 => Q x3_52)) n6 100000000 0

def p_X6_sums_B2 (f_places : Int32) (K2 : Int32 → (Nat → Int32) → Prop) (R2 : Int32 → (Nat → Int32) → Prop) (x1 : Int32) (a_from : Nat → Int32) : Prop :=
  (9 ≤ x1 → K2 x1 a_from) ∧ (¬ 9 ≤ x1 → vp_in ((9 * f_places) + x1) 189 ∧ (R2 (x1 + 1) (upd a_from (Int32.toNatClampNeg ((9 * f_places) + x1)) 0)))
def p_X6_sums_B42 (a_costs : Nat → Int32) (x1 : Int32) (K42 : Int32 → (Nat → Int32) → Prop) (R42 : Int32 → (Nat → Int32) → Prop) (x2 : Int32) (a_from : Nat → Int32) : Prop :=
  (9 ≤ x2 → K42 x2 a_from) ∧ (¬ 9 ≤ x2 → p_X6_cheapest a_costs x1 x2 (fun r61 => p_X6_near 189 a_from (9 * (x1 + 1)) x2 (fun r75 => vp_in ((9 * x1) + x2) 189 ∧ (R42 (x2 + 1) (upd a_from (Int32.toNatClampNeg ((9 * x1) + x2)) (r61 + r75))))))
def p_X6_sums_B36 (a_costs : Nat → Int32) (K36 : Int32 → (Nat → Int32) → Prop) (R36 : Int32 → (Nat → Int32) → Prop) (x1 : Int32) (a_from : Nat → Int32) : Prop :=
  (x1 < 0 → K36 x1 a_from) ∧ (¬ x1 < 0 → ∃ n42 : Nat, wl2 (p_X6_sums_B42 a_costs x1 (fun x2_86 a_from_86 => R36 (x1 + (-1)) a_from_86)) n42 0 a_from)
def p_X6_sums_J148 (a_upTo : Nat → Int32) (R104 : Int32 → (Nat → Int32) → Prop) (x2 : Int32) (s0 : Int32) (s1 : Int32) (s2 : Int32) : Prop :=
  vp_in s2 180 ∧ (R104 (x2 + 1) (upd a_upTo (Int32.toNatClampNeg s2) (s1 + s0)))
def p_X6_sums_B104 (a_costs : Nat → Int32) (x1 : Int32) (K104 : Int32 → (Nat → Int32) → Prop) (R104 : Int32 → (Nat → Int32) → Prop) (x2 : Int32) (a_upTo : Nat → Int32) : Prop :=
  (9 ≤ x2 → K104 x2 a_upTo) ∧ (¬ 9 ≤ x2 → p_X6_cheapest a_costs x1 x2 (fun r123 => (¬ x1 = 0 → p_X6_near 180 a_upTo (9 * (x1 - 1)) x2 (fun r145 => p_X6_sums_J148 a_upTo R104 x2 r145 r123 ((9 * x1) + x2))) ∧ (x1 = 0 → p_X6_sums_J148 a_upTo R104 x2 0 r123 ((9 * x1) + x2))))
def p_X6_sums_B94 (f_places : Int32) (a_costs : Nat → Int32) (K94 : Int32 → (Nat → Int32) → Prop) (R94 : Int32 → (Nat → Int32) → Prop) (x1 : Int32) (a_upTo : Nat → Int32) : Prop :=
  (f_places ≤ x1 → K94 x1 a_upTo) ∧ (¬ f_places ≤ x1 → ∃ n104 : Nat, wl2 (p_X6_sums_B104 a_costs x1 (fun x2_156 a_upTo_156 => R94 (x1 + 1) a_upTo_156)) n104 0 a_upTo)
def p_X6_sums_J193 (R167 : Int32 → Int32 → Prop) (x2 : Int32) (s0 : Int32) : Prop :=
  R167 s0 (x2 + 1)
def p_X6_sums_B167 (a_from : Nat → Int32) (K167 : Int32 → Int32 → Prop) (R167 : Int32 → Int32 → Prop) (x1 : Int32) (x2 : Int32) : Prop :=
  (9 ≤ x2 → K167 x1 x2) ∧ (¬ 9 ≤ x2 → vp_in x2 189 ∧ ((x1 ≤ (a_from (Int32.toNatClampNeg x2)) → p_X6_sums_J193 R167 x2 x1) ∧ (¬ x1 ≤ (a_from (Int32.toNatClampNeg x2)) → vp_in x2 189 ∧ (p_X6_sums_J193 R167 x2 (a_from (Int32.toNatClampNeg x2))))))
def p_X6_sums (f_places : Int32) (a_costs : Nat → Int32) (a_from : Nat → Int32) (a_upTo : Nat → Int32) (Q : Int32 → (Nat → Int32) → (Nat → Int32) → Prop) : Prop :=
  ∃ n2 : Nat, wl2 (p_X6_sums_B2 f_places (fun x1_29 a_from_29 => ∃ n36 : Nat, wl2 (p_X6_sums_B36 a_costs (fun x1_92 a_from_92 => ∃ n94 : Nat, wl2 (p_X6_sums_B94 f_places a_costs (fun x1_162 a_upTo_162 => ∃ n167 : Nat, wl2 (p_X6_sums_B167 a_from_92 (fun x1_200 x2_200 => Q x1_200 a_from_92 a_upTo_162)) n167 100000000 0)) n94 0 a_upTo)) n36 (f_places - 1) a_from_29)) n2 0 a_from

def p_X6_withSign_J74 (R6 : Int32 → Int32 → Prop) (x4 : Int32) (s0 : Int32) : Prop :=
  R6 s0 (x4 + 1)
def p_X6_withSign_J31 (a_costs : Nat → Int32) (a_from : Nat → Int32) (R6 : Int32 → Int32 → Prop) (x1 : Int32) (x2 : Int32) (x3 : Int32) (x4 : Int32) (s0 : Int32) : Prop :=
  p_X6_cell x1 x2 x4 (fun r39 => vp_in r39 2160 ∧ (p_X6_near 189 a_from (9 * (x1 + 1)) x4 (fun r56 => (x3 ≤ ((s0 + (a_costs (Int32.toNatClampNeg r39))) + r56) → p_X6_withSign_J74 R6 x4 x3) ∧ (¬ x3 ≤ ((s0 + (a_costs (Int32.toNatClampNeg r39))) + r56) → p_X6_withSign_J74 R6 x4 ((s0 + (a_costs (Int32.toNatClampNeg r39))) + r56)))))
def p_X6_withSign_B6 (a_costs : Nat → Int32) (a_from : Nat → Int32) (a_told : Nat → Int32) (x1 : Int32) (x2 : Int32) (K6 : Int32 → Int32 → Prop) (R6 : Int32 → Int32 → Prop) (x3 : Int32) (x4 : Int32) : Prop :=
  (9 ≤ x4 → K6 x3 x4) ∧ (¬ 9 ≤ x4 → (¬ x1 = 0 → p_X6_near 9 a_told 0 x4 (fun r28 => p_X6_withSign_J31 a_costs a_from R6 x1 x2 x3 x4 r28)) ∧ (x1 = 0 → p_X6_withSign_J31 a_costs a_from R6 x1 x2 x3 x4 0))
def p_X6_withSign (a_costs : Nat → Int32) (a_from : Nat → Int32) (a_told : Nat → Int32) (x1 : Int32) (x2 : Int32) (Q : Int32 → Prop) : Prop :=
  ∃ n6 : Nat, wl2 (p_X6_withSign_B6 a_costs a_from a_told x1 x2 (fun x3_81 x4_81 => Q x3_81)) n6 100000000 0

def p_X6_chooses_B12 (a_costs : Nat → Int32) (a_from : Nat → Int32) (a_told : Nat → Int32) (x1 : Int32) (x2 : Int32) (K12 : Int32 → Prop) (R12 : Int32 → Prop) (x3 : Int32) : Prop :=
  p_X6_withSign a_costs a_from a_told x2 x3 (fun r15 => (r15 = x1 → K12 x3) ∧ (¬ r15 = x1 → R12 (x3 + 1)))
def p_X6_chooses_J69 (a_costs : Nat → Int32) (a_next : Nat → Int32) (R38 : Int32 → (Nat → Int32) → Prop) (x2 : Int32) (x3 : Int32) (x4 : Int32) (s0 : Int32) (s1 : Int32) : Prop :=
  p_X6_cell x2 x3 x4 (fun r77 => vp_in r77 2160 ∧ (vp_in s1 9 ∧ (R38 (x4 + 1) (upd a_next (Int32.toNatClampNeg s1) (s0 + (a_costs (Int32.toNatClampNeg r77)))))))
def p_X6_chooses_B38 (a_costs : Nat → Int32) (a_told : Nat → Int32) (x2 : Int32) (x3 : Int32) (K38 : Int32 → (Nat → Int32) → Prop) (R38 : Int32 → (Nat → Int32) → Prop) (x4 : Int32) (a_next : Nat → Int32) : Prop :=
  (9 ≤ x4 → K38 x4 a_next) ∧ (¬ 9 ≤ x4 → (¬ x2 = 0 → p_X6_near 9 a_told 0 x4 (fun r66 => p_X6_chooses_J69 a_costs a_next R38 x2 x3 x4 r66 x4)) ∧ (x2 = 0 → p_X6_chooses_J69 a_costs a_next R38 x2 x3 x4 0 x4))
def p_X6_chooses_B92 (a_next : Nat → Int32) (K92 : Int32 → (Nat → Int32) → Prop) (R92 : Int32 → (Nat → Int32) → Prop) (x4 : Int32) (a_told : Nat → Int32) : Prop :=
  (9 ≤ x4 → K92 x4 a_told) ∧ (¬ 9 ≤ x4 → vp_in x4 9 ∧ (vp_in x4 9 ∧ (R92 (x4 + 1) (upd a_told (Int32.toNatClampNeg x4) (a_next (Int32.toNatClampNeg x4))))))
def p_X6_chooses_B2 (f_places : Int32) (a_costs : Nat → Int32) (a_from : Nat → Int32) (x1 : Int32) (K2 : Int32 → (Nat → Int32) → (Nat → Int32) → (Nat → Int32) → Prop) (R2 : Int32 → (Nat → Int32) → (Nat → Int32) → (Nat → Int32) → Prop) (x2 : Int32) (a_next : Nat → Int32) (a_signs : Nat → Int32) (a_told : Nat → Int32) : Prop :=
  (f_places ≤ x2 → K2 x2 a_next a_signs a_told) ∧ (¬ f_places ≤ x2 → ∃ n12 : Nat, wl1 (p_X6_chooses_B12 a_costs a_from a_told x1 x2 (fun x3_28 => vp_in x2 20 ∧ (∃ n38 : Nat, wl2 (p_X6_chooses_B38 a_costs a_told x2 x3_28 (fun x4_89 a_next_89 => ∃ n92 : Nat, wl2 (p_X6_chooses_B92 a_next_89 (fun x4_119 a_told_119 => R2 (x2 + 1) a_next_89 (upd a_signs (Int32.toNatClampNeg x2) x3_28) a_told_119)) n92 0 a_told)) n38 0 a_next))) n12 0)
def p_X6_chooses_B127 (f_places : Int32) (K127 : Int32 → (Nat → Int32) → Prop) (R127 : Int32 → (Nat → Int32) → Prop) (x2 : Int32) (a_from : Nat → Int32) : Prop :=
  (9 ≤ x2 → K127 x2 a_from) ∧ (¬ 9 ≤ x2 → vp_in ((9 * f_places) + x2) 189 ∧ (R127 (x2 + 1) (upd a_from (Int32.toNatClampNeg ((9 * f_places) + x2)) 0)))
def p_X6_chooses_B167 (a_costs : Nat → Int32) (a_signs : Nat → Int32) (x2 : Int32) (K167 : Int32 → (Nat → Int32) → Prop) (R167 : Int32 → (Nat → Int32) → Prop) (x3 : Int32) (a_from : Nat → Int32) : Prop :=
  (9 ≤ x3 → K167 x3 a_from) ∧ (¬ 9 ≤ x3 → vp_in x2 20 ∧ (p_X6_cell x2 (a_signs (Int32.toNatClampNeg x2)) x3 (fun r195 => vp_in r195 2160 ∧ (p_X6_near 189 a_from (9 * (x2 + 1)) x3 (fun r210 => vp_in ((9 * x2) + x3) 189 ∧ (R167 (x3 + 1) (upd a_from (Int32.toNatClampNeg ((9 * x2) + x3)) ((a_costs (Int32.toNatClampNeg r195)) + r210))))))))
def p_X6_chooses_B161 (a_costs : Nat → Int32) (a_signs : Nat → Int32) (K161 : Int32 → (Nat → Int32) → Prop) (R161 : Int32 → (Nat → Int32) → Prop) (x2 : Int32) (a_from : Nat → Int32) : Prop :=
  (x2 < 0 → K161 x2 a_from) ∧ (¬ x2 < 0 → ∃ n167 : Nat, wl2 (p_X6_chooses_B167 a_costs a_signs x2 (fun x3_221 a_from_221 => R161 (x2 + (-1)) a_from_221)) n167 0 a_from)
def p_X6_chooses_B274 (a_from : Nat → Int32) (x2 : Int32) (x3 : Int32) (K274 : Int32 → Prop) (R274 : Int32 → Prop) (x4 : Int32) : Prop :=
  vp_in ((9 * x3) + x4) 189 ∧ (((a_from (Int32.toNatClampNeg ((9 * x3) + x4))) = x2 → K274 x4) ∧ (¬ (a_from (Int32.toNatClampNeg ((9 * x3) + x4))) = x2 → R274 (x4 + 1)))
def p_X6_chooses_J272 (a_costs : Nat → Int32) (a_from : Nat → Int32) (a_signs : Nat → Int32) (a_speeds : Nat → Int32) (R231 : Int32 → Int32 → (Nat → Int32) → Prop) (x2 : Int32) (x3 : Int32) (s0 : Int32) : Prop :=
  ∃ n274 : Nat, wl1 (p_X6_chooses_B274 a_from x2 x3 (fun x4_296 => vp_in x3 20 ∧ (vp_in x3 20 ∧ (p_X6_cell x3 (a_signs (Int32.toNatClampNeg x3)) x4_296 (fun r318 => vp_in r318 2160 ∧ (R231 (x2 - (a_costs (Int32.toNatClampNeg r318))) (x3 + 1) (upd a_speeds (Int32.toNatClampNeg x3) x4_296))))))) n274 s0
def p_X6_chooses_B231 (f_places : Int32) (a_costs : Nat → Int32) (a_from : Nat → Int32) (a_signs : Nat → Int32) (K231 : Int32 → Int32 → (Nat → Int32) → Prop) (R231 : Int32 → Int32 → (Nat → Int32) → Prop) (x2 : Int32) (x3 : Int32) (a_speeds : Nat → Int32) : Prop :=
  (f_places ≤ x3 → K231 x2 x3 a_speeds) ∧ (¬ f_places ≤ x3 → (¬ x3 = 0 → vp_in (x3 - 1) 20 ∧ (((a_speeds (Int32.toNatClampNeg (x3 - 1))) ≤ 0 → p_X6_chooses_J272 a_costs a_from a_signs a_speeds R231 x2 x3 0) ∧ (¬ (a_speeds (Int32.toNatClampNeg (x3 - 1))) ≤ 0 → vp_in (x3 - 1) 20 ∧ (p_X6_chooses_J272 a_costs a_from a_signs a_speeds R231 x2 x3 ((a_speeds (Int32.toNatClampNeg (x3 - 1))) - 1))))) ∧ (x3 = 0 → p_X6_chooses_J272 a_costs a_from a_signs a_speeds R231 x2 x3 0))
def p_X6_chooses (f_places : Int32) (a_costs : Nat → Int32) (a_from : Nat → Int32) (a_next : Nat → Int32) (a_signs : Nat → Int32) (a_speeds : Nat → Int32) (a_told : Nat → Int32) (x1 : Int32) (Q : (Nat → Int32) → (Nat → Int32) → (Nat → Int32) → (Nat → Int32) → (Nat → Int32) → Prop) : Prop :=
  ∃ n2 : Nat, wl4 (p_X6_chooses_B2 f_places a_costs a_from x1 (fun x2_125 a_next_125 a_signs_125 a_told_125 => ∃ n127 : Nat, wl2 (p_X6_chooses_B127 f_places (fun x2_154 a_from_154 => ∃ n161 : Nat, wl2 (p_X6_chooses_B161 a_costs a_signs_125 (fun x2_227 a_from_227 => ∃ n231 : Nat, wl3 (p_X6_chooses_B231 f_places a_costs a_from_227 a_signs_125 (fun x2_330 x3_330 a_speeds_330 => Q a_from_227 a_next_125 a_signs_125 a_speeds_330 a_told_125)) n231 x1 0 a_speeds)) n161 (f_places - 1) a_from_154)) n127 0 a_from)) n2 0 a_next a_signs a_told

def p_X6_gapOf_J51 (a_told : Nat → Int32) (R16 : Int32 → (Nat → Int32) → Prop) (x4 : Int32) (s0 : Int32) (s1 : Int32) : Prop :=
  vp_in s1 9 ∧ (R16 (x4 + 1) (upd a_told (Int32.toNatClampNeg s1) s0))
def p_X6_gapOf_B16 (a_upTo : Nat → Int32) (x3 : Int32) (K16 : Int32 → (Nat → Int32) → Prop) (R16 : Int32 → (Nat → Int32) → Prop) (x4 : Int32) (a_told : Nat → Int32) : Prop :=
  (9 ≤ x4 → K16 x4 a_told) ∧ (¬ 9 ≤ x4 → (¬ x3 = 0 → vp_in ((9 * (x3 - 1)) + x4) 180 ∧ (p_X6_gapOf_J51 a_told R16 x4 (a_upTo (Int32.toNatClampNeg ((9 * (x3 - 1)) + x4))) x4)) ∧ (x3 = 0 → p_X6_gapOf_J51 a_told R16 x4 0 x4))
def p_X6_gapOf_J104 (R61 : Int32 → Int32 → Prop) (x2 : Int32) (x4 : Int32) : Prop :=
  R61 x2 (x4 + 1)
def p_X6_gapOf_J103 (R61 : Int32 → Int32 → Prop) (x4 : Int32) (s0 : Int32) : Prop :=
  p_X6_gapOf_J104 R61 s0 x4
def p_X6_gapOf_B61 (a_costs : Nat → Int32) (a_from : Nat → Int32) (a_signs : Nat → Int32) (a_told : Nat → Int32) (x3 : Int32) (K61 : Int32 → Int32 → Prop) (R61 : Int32 → Int32 → Prop) (x2 : Int32) (x4 : Int32) : Prop :=
  (12 ≤ x4 → K61 x2 x4) ∧ (¬ 12 ≤ x4 → vp_in x3 20 ∧ ((¬ x4 = (a_signs (Int32.toNatClampNeg x3)) → p_X6_withSign a_costs a_from a_told x3 x4 (fun r86 => (x2 ≤ r86 → p_X6_gapOf_J103 R61 x4 x2) ∧ (¬ x2 ≤ r86 → p_X6_gapOf_J103 R61 x4 r86))) ∧ (x4 = (a_signs (Int32.toNatClampNeg x3)) → p_X6_gapOf_J104 R61 x2 x4)))
def p_X6_gapOf_B5 (f_places : Int32) (a_costs : Nat → Int32) (a_from : Nat → Int32) (a_signs : Nat → Int32) (a_upTo : Nat → Int32) (K5 : Int32 → Int32 → (Nat → Int32) → Prop) (R5 : Int32 → Int32 → (Nat → Int32) → Prop) (x2 : Int32) (x3 : Int32) (a_told : Nat → Int32) : Prop :=
  (f_places ≤ x3 → K5 x2 x3 a_told) ∧ (¬ f_places ≤ x3 → ∃ n16 : Nat, wl2 (p_X6_gapOf_B16 a_upTo x3 (fun x4_58 a_told_58 => ∃ n61 : Nat, wl2 (p_X6_gapOf_B61 a_costs a_from a_signs a_told_58 x3 (fun x2_110 x4_110 => R5 x2_110 (x3 + 1) a_told_58)) n61 x2 0)) n16 0 a_told)
def p_X6_gapOf (f_places : Int32) (a_costs : Nat → Int32) (a_from : Nat → Int32) (a_signs : Nat → Int32) (a_told : Nat → Int32) (a_upTo : Nat → Int32) (x1 : Int32) (Q : Int32 → (Nat → Int32) → Prop) : Prop :=
  ∃ n5 : Nat, wl3 (p_X6_gapOf_B5 f_places a_costs a_from a_signs a_upTo (fun x2_116 x3_116 a_told_116 => Q (x2_116 - x1) a_told_116)) n5 100000000 0 a_told

def p_X6_read_B7 (f_thrown : Int32) (f_tickMany : Int32) (f_places : Int32) (f_readPlaces : Int32) (f_cost : Int32) (f_gap : Int32) (f_isRead : Int32) (f_isTurned : Int32) (a_costs : Nat → Int32) (a_from : Nat → Int32) (a_kept : Nat → Int32) (a_next : Nat → Int32) (a_signs : Nat → Int32) (a_speeds : Nat → Int32) (a_taught : Nat → Int32) (a_told : Nat → Int32) (a_upTo : Nat → Int32) (Q : Int32 → Int32 → Int32 → Int32 → Int32 → Int32 → Int32 → Int32 → Int32 → (Nat → Int32) → (Nat → Int32) → (Nat → Int32) → (Nat → Int32) → (Nat → Int32) → (Nat → Int32) → (Nat → Int32) → (Nat → Int32) → Prop) (K7 : Int32 → Prop) (R7 : Int32 → Prop) (x1 : Int32) : Prop :=
  (12 ≤ x1 → K7 x1) ∧ (¬ 12 ≤ x1 → vp_in x1 12 ∧ ((¬ (a_taught (Int32.toNatClampNeg x1)) = 0 → R7 (x1 + 1)) ∧ ((a_taught (Int32.toNatClampNeg x1)) = 0 → Q (-1) f_thrown f_tickMany f_places f_readPlaces f_cost f_gap f_isRead f_isTurned a_costs a_from a_kept a_next a_signs a_speeds a_told a_upTo)))
def p_X6_read_J47 (f_thrown : Int32) (f_tickMany : Int32) (f_places : Int32) (f_readPlaces : Int32) (f_cost : Int32) (f_gap : Int32) (f_isRead : Int32) (f_isTurned : Int32) (a_costs : Nat → Int32) (a_from : Nat → Int32) (a_kept : Nat → Int32) (a_next : Nat → Int32) (a_signs : Nat → Int32) (a_speeds : Nat → Int32) (a_told : Nat → Int32) (a_upTo : Nat → Int32) (Q : Int32 → Int32 → Int32 → Int32 → Int32 → Int32 → Int32 → Int32 → Int32 → (Nat → Int32) → (Nat → Int32) → (Nat → Int32) → (Nat → Int32) → (Nat → Int32) → (Nat → Int32) → (Nat → Int32) → (Nat → Int32) → Prop) : Prop :=
  Q (-2) f_thrown f_tickMany f_places f_readPlaces f_cost f_gap f_isRead f_isTurned a_costs a_from a_kept a_next a_signs a_speeds a_told a_upTo
def p_X6_read_B155 (a_costs : Nat → Int32) (K155 : Int32 → (Nat → Int32) → Prop) (R155 : Int32 → (Nat → Int32) → Prop) (x3 : Int32) (a_kept : Nat → Int32) : Prop :=
  (2160 ≤ x3 → K155 x3 a_kept) ∧ (¬ 2160 ≤ x3 → vp_in x3 2160 ∧ (vp_in x3 2160 ∧ (R155 (x3 + 1) (upd a_kept (Int32.toNatClampNeg x3) (a_costs (Int32.toNatClampNeg x3))))))
def p_X6_read_J123 (f_thrown : Int32) (f_places : Int32) (f_cost : Int32) (f_isTurned : Int32) (a_costs : Nat → Int32) (a_from : Nat → Int32) (a_kept : Nat → Int32) (a_next : Nat → Int32) (a_signs : Nat → Int32) (a_speeds : Nat → Int32) (a_told : Nat → Int32) (a_upTo : Nat → Int32) (Q : Int32 → Int32 → Int32 → Int32 → Int32 → Int32 → Int32 → Int32 → Int32 → (Nat → Int32) → (Nat → Int32) → (Nat → Int32) → (Nat → Int32) → (Nat → Int32) → (Nat → Int32) → (Nat → Int32) → (Nat → Int32) → Prop) : Prop :=
  p_X6_sums f_places a_costs a_from a_upTo (fun r124 a_from_124 a_upTo_124 => p_X6_chooses f_places a_costs a_from_124 a_next a_signs a_speeds a_told f_cost (fun a_from_133 a_next_133 a_signs_133 a_speeds_133 a_told_133 => p_X6_sums f_places a_costs a_from_133 a_upTo_124 (fun r137 a_from_137 a_upTo_137 => p_X6_gapOf f_places a_costs a_from_137 a_signs_133 a_told_133 a_upTo_137 f_cost (fun r147 a_told_147 => ∃ n155 : Nat, wl2 (p_X6_read_B155 a_costs (fun x3_180 a_kept_180 => (narrow .boolean (.int 1) = .int 1 ∧ fits .boolean (.int 1) = true) ∧ (Q f_cost f_thrown 0 f_places f_places f_cost r147 1 f_isTurned a_costs a_from_137 a_kept_180 a_next_133 a_signs_133 a_speeds_133 a_told_147 a_upTo_137))) n155 0 a_kept))))
def p_X6_read_J108 (f_thrown : Int32) (f_tickMany : Int32) (f_places : Int32) (f_isTurned : Int32) (a_costs : Nat → Int32) (a_from : Nat → Int32) (a_kept : Nat → Int32) (a_next : Nat → Int32) (a_signs : Nat → Int32) (a_speeds : Nat → Int32) (a_taught : Nat → Int32) (a_ticks : Nat → Int32) (a_told : Nat → Int32) (a_upTo : Nat → Int32) (Q : Int32 → Int32 → Int32 → Int32 → Int32 → Int32 → Int32 → Int32 → Int32 → (Nat → Int32) → (Nat → Int32) → (Nat → Int32) → (Nat → Int32) → (Nat → Int32) → (Nat → Int32) → (Nat → Int32) → (Nat → Int32) → Prop) (s0 : Int32) : Prop :=
  (¬ f_isTurned = 0 → p_X6_read_J123 f_thrown f_places s0 f_isTurned a_costs a_from a_kept a_next a_signs a_speeds a_told a_upTo Q) ∧ (f_isTurned = 0 → p_X6_fills f_tickMany f_places a_costs a_taught a_ticks 0 (fun a_costs_120 => p_X6_read_J123 f_thrown f_places s0 f_isTurned a_costs_120 a_from a_kept a_next a_signs a_speeds a_told a_upTo Q))
def p_X6_read_J92 (f_thrown : Int32) (f_tickMany : Int32) (f_places : Int32) (a_costs : Nat → Int32) (a_from : Nat → Int32) (a_kept : Nat → Int32) (a_next : Nat → Int32) (a_signs : Nat → Int32) (a_speeds : Nat → Int32) (a_taught : Nat → Int32) (a_ticks : Nat → Int32) (a_told : Nat → Int32) (a_upTo : Nat → Int32) (Q : Int32 → Int32 → Int32 → Int32 → Int32 → Int32 → Int32 → Int32 → Int32 → (Nat → Int32) → (Nat → Int32) → (Nat → Int32) → (Nat → Int32) → (Nat → Int32) → (Nat → Int32) → (Nat → Int32) → (Nat → Int32) → Prop) (x1 : Int32) (x2 : Int32) (s0 : Int32) : Prop :=
  (narrow .boolean (.int s0) = .int s0 ∧ fits .boolean (.int s0) = true) ∧ ((s0 = 0 → p_X6_read_J108 f_thrown f_tickMany f_places s0 a_costs a_from a_kept a_next a_signs a_speeds a_taught a_ticks a_told a_upTo Q x1) ∧ (¬ s0 = 0 → p_X6_read_J108 f_thrown f_tickMany f_places s0 a_costs a_from a_kept a_next a_signs a_speeds a_taught a_ticks a_told a_upTo Q x2))
def p_X6_read (f_thrown : Int32) (f_tickMany : Int32) (f_places : Int32) (f_readPlaces : Int32) (f_cost : Int32) (f_gap : Int32) (f_isRead : Int32) (f_isTurned : Int32) (a_costs : Nat → Int32) (a_from : Nat → Int32) (a_kept : Nat → Int32) (a_next : Nat → Int32) (a_signs : Nat → Int32) (a_speeds : Nat → Int32) (a_taught : Nat → Int32) (a_ticks : Nat → Int32) (a_told : Nat → Int32) (a_upTo : Nat → Int32) (Q : Int32 → Int32 → Int32 → Int32 → Int32 → Int32 → Int32 → Int32 → Int32 → (Nat → Int32) → (Nat → Int32) → (Nat → Int32) → (Nat → Int32) → (Nat → Int32) → (Nat → Int32) → (Nat → Int32) → (Nat → Int32) → Prop) : Prop :=
  ∃ n7 : Nat, wl1 (p_X6_read_B7 0 f_tickMany f_places f_readPlaces f_cost f_gap f_isRead f_isTurned a_costs a_from a_kept a_next a_signs a_speeds a_taught a_told a_upTo Q (fun x1_30 => (f_tickMany = 0 → p_X6_read_J47 0 f_tickMany f_places f_readPlaces f_cost f_gap f_isRead f_isTurned a_costs a_from a_kept a_next a_signs a_speeds a_told a_upTo Q) ∧ (¬ f_tickMany = 0 → ((jrem f_tickMany 6) ≤ 0 → p_X6_fills f_tickMany (f_tickMany / 6) a_costs a_taught a_ticks 0 (fun a_costs_63 => p_X6_sums (f_tickMany / 6) a_costs_63 a_from a_upTo (fun r67 a_from_67 a_upTo_67 => p_X6_fills f_tickMany (f_tickMany / 6) a_costs_63 a_taught a_ticks 1 (fun a_costs_73 => p_X6_sums (f_tickMany / 6) a_costs_73 a_from_67 a_upTo_67 (fun r77 a_from_77 a_upTo_77 => (r67 ≤ r77 → p_X6_read_J92 0 f_tickMany (f_tickMany / 6) a_costs_73 a_from_77 a_kept a_next a_signs a_speeds a_taught a_ticks a_told a_upTo_77 Q r67 r77 0) ∧ (¬ r67 ≤ r77 → p_X6_read_J92 0 f_tickMany (f_tickMany / 6) a_costs_73 a_from_77 a_kept a_next a_signs a_speeds a_taught a_ticks a_told a_upTo_77 Q r67 r77 1)))))) ∧ (¬ (jrem f_tickMany 6) ≤ 0 → p_X6_read_J47 0 f_tickMany f_places f_readPlaces f_cost f_gap f_isRead f_isTurned a_costs a_from a_kept a_next a_signs a_speeds a_told a_upTo Q)))) n7 0

def p_X6_digits_J45 (R5 : Int32 → Int32 → Prop) (x4 : Int32) (s0 : Int32) : Prop :=
  R5 s0 (x4 + 1)
def p_X6_digits_J44 (R5 : Int32 → Int32 → Prop) (x4 : Int32) : Prop :=
  p_X6_digits_J45 R5 x4 (-1)
def p_X6_digits_B5 (a_signs : Nat → Int32) (x1 : Int32) (x2 : Int32) (K5 : Int32 → Int32 → Prop) (R5 : Int32 → Int32 → Prop) (x3 : Int32) (x4 : Int32) : Prop :=
  ((x1 + x2) ≤ x4 → K5 x3 x4) ∧ (¬ (x1 + x2) ≤ x4 → vp_in x4 20 ∧ ((10 ≤ (a_signs (Int32.toNatClampNeg x4)) → p_X6_digits_J44 R5 x4) ∧ (¬ 10 ≤ (a_signs (Int32.toNatClampNeg x4)) → (x3 < 0 → p_X6_digits_J44 R5 x4) ∧ (¬ x3 < 0 → vp_in x4 20 ∧ (p_X6_digits_J45 R5 x4 ((10 * x3) + (a_signs (Int32.toNatClampNeg x4))))))))
def p_X6_digits (a_signs : Nat → Int32) (x1 : Int32) (x2 : Int32) (Q : Int32 → Prop) : Prop :=
  ∃ n5 : Nat, wl2 (p_X6_digits_B5 a_signs x1 x2 (fun x3_52 x4_52 => Q x3_52)) n5 0 x1

def p_X6_fits_J16 (Q : Int32 → Prop) : Prop :=
  (narrow .boolean (.int 0) = .int 0) ∧ Q 0
def p_X6_fits_J94 (Q : Int32 → Prop) : Prop :=
  (narrow .boolean (.int 0) = .int 0) ∧ Q 0
def p_X6_fits_J164 (Q : Int32 → Prop) (s0 : Int32) : Prop :=
  (narrow .boolean (.int s0) = .int s0) ∧ Q s0
def p_X6_fits (f_readPlaces : Int32) (f_isRead : Int32) (a_signs : Nat → Int32) (Q : Int32 → Prop) : Prop :=
  (f_isRead = 0 → p_X6_fits_J16 Q) ∧ (¬ f_isRead = 0 → (f_readPlaces = 18 → vp_in 0 20 ∧ ((¬ (a_signs (Int32.toNatClampNeg 0)) = 10 → p_X6_fits_J94 Q) ∧ ((a_signs (Int32.toNatClampNeg 0)) = 10 → vp_in 5 20 ∧ ((¬ (a_signs (Int32.toNatClampNeg 5)) = 11 → p_X6_fits_J94 Q) ∧ ((a_signs (Int32.toNatClampNeg 5)) = 11 → vp_in 12 20 ∧ ((¬ (a_signs (Int32.toNatClampNeg 12)) = 11 → p_X6_fits_J94 Q) ∧ ((a_signs (Int32.toNatClampNeg 12)) = 11 → vp_in 17 20 ∧ ((¬ (a_signs (Int32.toNatClampNeg 17)) = 10 → p_X6_fits_J94 Q) ∧ ((a_signs (Int32.toNatClampNeg 17)) = 10 → p_X6_digits a_signs 1 4 (fun r67 => (r67 < 0 → p_X6_fits_J94 Q) ∧ (¬ r67 < 0 → p_X6_digits a_signs 6 6 (fun r78 => (r78 < 0 → p_X6_fits_J94 Q) ∧ (¬ r78 < 0 → p_X6_digits a_signs 13 4 (fun r88 => (0 ≤ r88 → vp_in 6 20 ∧ (vp_in 7 20 ∧ (vp_in 8 20 ∧ (vp_in 9 20 ∧ (vp_in 10 20 ∧ (vp_in 11 20 ∧ ((¬ (jrem ((((((7 * (a_signs (Int32.toNatClampNeg 6))) + (3 * (a_signs (Int32.toNatClampNeg 7)))) + (a_signs (Int32.toNatClampNeg 8))) + (7 * (a_signs (Int32.toNatClampNeg 9)))) + (3 * (a_signs (Int32.toNatClampNeg 10)))) + (a_signs (Int32.toNatClampNeg 11))) 10) = 0 → p_X6_fits_J164 Q 0) ∧ ((jrem ((((((7 * (a_signs (Int32.toNatClampNeg 6))) + (3 * (a_signs (Int32.toNatClampNeg 7)))) + (a_signs (Int32.toNatClampNeg 8))) + (7 * (a_signs (Int32.toNatClampNeg 9)))) + (3 * (a_signs (Int32.toNatClampNeg 10)))) + (a_signs (Int32.toNatClampNeg 11))) 10) = 0 → p_X6_fits_J164 Q 1)))))))) ∧ (¬ 0 ≤ r88 → p_X6_fits_J94 Q))))))))))))))) ∧ (¬ f_readPlaces = 18 → p_X6_fits_J16 Q))

def p_X6_about_J105 (f_thrown : Int32) (Q : Int32 → Int32 → Prop) (s0 : Int32) : Prop :=
  Q s0 f_thrown
def p_X6_about_J20 (f_thrown : Int32) (f_readPlaces : Int32) (f_cost : Int32) (f_gap : Int32) (f_isRead : Int32) (f_isTurned : Int32) (a_signs : Nat → Int32) (Q : Int32 → Int32 → Prop) (x1 : Int32) (s0 : Int32) : Prop :=
  p_X6_bad f_thrown s0 1 (fun r21 f_thrown_21 => (r21 = 0 → (¬ f_isRead = 0 → (¬ x1 = 0 → (¬ x1 = 1 → (¬ x1 = 2 → (¬ x1 = 3 → p_X6_fits f_readPlaces f_isRead a_signs (fun r94 => (r94 = 0 → p_X6_about_J105 f_thrown_21 Q 0) ∧ (¬ r94 = 0 → p_X6_about_J105 f_thrown_21 Q 1))) ∧ (x1 = 3 → (f_isTurned = 0 → p_X6_about_J105 f_thrown_21 Q 0) ∧ (¬ f_isTurned = 0 → p_X6_about_J105 f_thrown_21 Q 1))) ∧ (x1 = 2 → p_X6_about_J105 f_thrown_21 Q f_gap)) ∧ (x1 = 1 → p_X6_about_J105 f_thrown_21 Q f_cost)) ∧ (x1 = 0 → p_X6_about_J105 f_thrown_21 Q f_readPlaces)) ∧ (f_isRead = 0 → Q (-1) f_thrown_21)) ∧ (¬ r21 = 0 → Q 0 f_thrown_21))
def p_X6_about_J15 (f_thrown : Int32) (f_readPlaces : Int32) (f_cost : Int32) (f_gap : Int32) (f_isRead : Int32) (f_isTurned : Int32) (a_signs : Nat → Int32) (Q : Int32 → Int32 → Prop) (x1 : Int32) : Prop :=
  p_X6_about_J20 f_thrown f_readPlaces f_cost f_gap f_isRead f_isTurned a_signs Q x1 1
def p_X6_about (f_thrown : Int32) (f_readPlaces : Int32) (f_cost : Int32) (f_gap : Int32) (f_isRead : Int32) (f_isTurned : Int32) (a_signs : Nat → Int32) (x1 : Int32) (Q : Int32 → Int32 → Prop) : Prop :=
  (x1 < 0 → p_X6_about_J15 0 f_readPlaces f_cost f_gap f_isRead f_isTurned a_signs Q x1) ∧ (¬ x1 < 0 → (x1 ≤ 4 → p_X6_about_J20 0 f_readPlaces f_cost f_gap f_isRead f_isTurned a_signs Q x1 0) ∧ (¬ x1 ≤ 4 → p_X6_about_J15 0 f_readPlaces f_cost f_gap f_isRead f_isTurned a_signs Q x1))

def p_X6_place_J48 (f_thrown : Int32) (Q : Int32 → Int32 → Prop) : Prop :=
  Q (-1) f_thrown
def p_X6_place_J71 (f_thrown : Int32) (Q : Int32 → Int32 → Prop) (s0 : Int32) : Prop :=
  Q s0 f_thrown
def p_X6_place_J20 (f_thrown : Int32) (f_readPlaces : Int32) (f_isRead : Int32) (a_signs : Nat → Int32) (a_speeds : Nat → Int32) (Q : Int32 → Int32 → Prop) (x1 : Int32) (x2 : Int32) (s0 : Int32) : Prop :=
  p_X6_bad f_thrown s0 1 (fun r21 f_thrown_21 => (r21 = 0 → (f_isRead = 0 → p_X6_place_J48 f_thrown_21 Q) ∧ (¬ f_isRead = 0 → (x1 < 0 → p_X6_place_J48 f_thrown_21 Q) ∧ (¬ x1 < 0 → (x1 < f_readPlaces → (¬ x2 = 0 → vp_in x1 20 ∧ (p_X6_place_J71 f_thrown_21 Q (4 + (a_speeds (Int32.toNatClampNeg x1))))) ∧ (x2 = 0 → vp_in x1 20 ∧ (p_X6_place_J71 f_thrown_21 Q (a_signs (Int32.toNatClampNeg x1))))) ∧ (¬ x1 < f_readPlaces → p_X6_place_J48 f_thrown_21 Q)))) ∧ (¬ r21 = 0 → Q 0 f_thrown_21))
def p_X6_place_J15 (f_thrown : Int32) (f_readPlaces : Int32) (f_isRead : Int32) (a_signs : Nat → Int32) (a_speeds : Nat → Int32) (Q : Int32 → Int32 → Prop) (x1 : Int32) (x2 : Int32) : Prop :=
  p_X6_place_J20 f_thrown f_readPlaces f_isRead a_signs a_speeds Q x1 x2 1
def p_X6_place (f_thrown : Int32) (f_readPlaces : Int32) (f_isRead : Int32) (a_signs : Nat → Int32) (a_speeds : Nat → Int32) (x1 : Int32) (x2 : Int32) (Q : Int32 → Int32 → Prop) : Prop :=
  (x2 < 0 → p_X6_place_J15 0 f_readPlaces f_isRead a_signs a_speeds Q x1 x2) ∧ (¬ x2 < 0 → (x2 ≤ 1 → p_X6_place_J20 0 f_readPlaces f_isRead a_signs a_speeds Q x1 x2 0) ∧ (¬ x2 ≤ 1 → p_X6_place_J15 0 f_readPlaces f_isRead a_signs a_speeds Q x1 x2))

def p_X6_fieldOf_J36 (Q : Int32 → Prop) (s0 : Int32) : Prop :=
  Q s0
def p_X6_fieldOf (a_signs : Nat → Int32) (x1 : Int32) (Q : Int32 → Prop) : Prop :=
  (¬ x1 = 0 → (¬ x1 = 1 → p_X6_digits a_signs 13 4 (fun r33 => p_X6_fieldOf_J36 Q r33)) ∧ (x1 = 1 → p_X6_digits a_signs 6 6 (fun r23 => p_X6_fieldOf_J36 Q r23))) ∧ (x1 = 0 → p_X6_digits a_signs 1 4 (fun r7 => p_X6_fieldOf_J36 Q r7))

def p_X6_field_J45 (f_thrown : Int32) (Q : Int32 → Int32 → Prop) (s0 : Int32) : Prop :=
  Q s0 f_thrown
def p_X6_field_J20 (f_thrown : Int32) (f_readPlaces : Int32) (f_isRead : Int32) (a_signs : Nat → Int32) (Q : Int32 → Int32 → Prop) (x1 : Int32) (s0 : Int32) : Prop :=
  p_X6_bad f_thrown s0 1 (fun r21 f_thrown_21 => (r21 = 0 → p_X6_fits f_readPlaces f_isRead a_signs (fun r30 => (r30 = 0 → p_X6_field_J45 f_thrown_21 Q (-1)) ∧ (¬ r30 = 0 → p_X6_fieldOf a_signs x1 (fun r38 => p_X6_field_J45 f_thrown_21 Q r38)))) ∧ (¬ r21 = 0 → Q 0 f_thrown_21))
def p_X6_field_J15 (f_thrown : Int32) (f_readPlaces : Int32) (f_isRead : Int32) (a_signs : Nat → Int32) (Q : Int32 → Int32 → Prop) (x1 : Int32) : Prop :=
  p_X6_field_J20 f_thrown f_readPlaces f_isRead a_signs Q x1 1
def p_X6_field (f_thrown : Int32) (f_readPlaces : Int32) (f_isRead : Int32) (a_signs : Nat → Int32) (x1 : Int32) (Q : Int32 → Int32 → Prop) : Prop :=
  (x1 < 0 → p_X6_field_J15 0 f_readPlaces f_isRead a_signs Q x1) ∧ (¬ x1 < 0 → (x1 ≤ 2 → p_X6_field_J20 0 f_readPlaces f_isRead a_signs Q x1 0) ∧ (¬ x1 ≤ 2 → p_X6_field_J15 0 f_readPlaces f_isRead a_signs Q x1))

def p_X6_finds_J18 (f_otherPlace : Int32) (f_otherSign : Int32) (a_signs : Nat → Int32) (Q : Int32 → Int32 → Int32 → (Nat → Int32) → Prop) : Prop :=
  Q 0 f_otherPlace f_otherSign a_signs
def p_X6_finds_J109 (f_otherPlace : Int32) (f_otherSign : Int32) (a_signs : Nat → Int32) (R39 : Int32 → Int32 → Int32 → Int32 → (Nat → Int32) → Prop) (x2 : Int32) (x5 : Int32) : Prop :=
  R39 x2 (x5 + 1) f_otherPlace f_otherSign a_signs
def p_X6_finds_B39 (f_readPlaces : Int32) (f_isRead : Int32) (x1 : Int32) (x3 : Int32) (x4 : Int32) (Q : Int32 → Int32 → Int32 → (Nat → Int32) → Prop) (K39 : Int32 → Int32 → Int32 → Int32 → (Nat → Int32) → Prop) (R39 : Int32 → Int32 → Int32 → Int32 → (Nat → Int32) → Prop) (x2 : Int32) (x5 : Int32) (f_otherPlace : Int32) (f_otherSign : Int32) (a_signs : Nat → Int32) : Prop :=
  (12 ≤ x5 → K39 x2 x5 f_otherPlace f_otherSign a_signs) ∧ (¬ 12 ≤ x5 → (¬ x5 = x4 → vp_in x3 20 ∧ (p_X6_fits f_readPlaces f_isRead (upd a_signs (Int32.toNatClampNeg x3) x5) (fun r65 => vp_in x3 20 ∧ ((¬ r65 = 0 → (¬ (x2 + 1) = (x1 + 1) → p_X6_finds_J109 x3 x5 (upd (upd a_signs (Int32.toNatClampNeg x3) x5) (Int32.toNatClampNeg x3) x4) R39 (x2 + 1) x5) ∧ ((x2 + 1) = (x1 + 1) → Q (x2 + 1) x3 x5 (upd (upd a_signs (Int32.toNatClampNeg x3) x5) (Int32.toNatClampNeg x3) x4))) ∧ (r65 = 0 → p_X6_finds_J109 f_otherPlace f_otherSign (upd (upd a_signs (Int32.toNatClampNeg x3) x5) (Int32.toNatClampNeg x3) x4) R39 x2 x5))))) ∧ (x5 = x4 → p_X6_finds_J109 f_otherPlace f_otherSign a_signs R39 x2 x5))
def p_X6_finds_B22 (f_readPlaces : Int32) (f_isRead : Int32) (x1 : Int32) (Q : Int32 → Int32 → Int32 → (Nat → Int32) → Prop) (K22 : Int32 → Int32 → Int32 → Int32 → (Nat → Int32) → Prop) (R22 : Int32 → Int32 → Int32 → Int32 → (Nat → Int32) → Prop) (x2 : Int32) (x3 : Int32) (f_otherPlace : Int32) (f_otherSign : Int32) (a_signs : Nat → Int32) : Prop :=
  (18 ≤ x3 → K22 x2 x3 f_otherPlace f_otherSign a_signs) ∧ (¬ 18 ≤ x3 → vp_in x3 20 ∧ (∃ n39 : Nat, wl5 (p_X6_finds_B39 f_readPlaces f_isRead x1 x3 (a_signs (Int32.toNatClampNeg x3)) Q (fun x2_115 x5_115 f_otherPlace_115 f_otherSign_115 a_signs_115 => R22 x2_115 (x3 + 1) f_otherPlace_115 f_otherSign_115 a_signs_115)) n39 x2 0 f_otherPlace f_otherSign a_signs))
def p_X6_finds (f_readPlaces : Int32) (f_isRead : Int32) (f_otherPlace : Int32) (f_otherSign : Int32) (a_signs : Nat → Int32) (x1 : Int32) (Q : Int32 → Int32 → Int32 → (Nat → Int32) → Prop) : Prop :=
  (f_isRead = 0 → p_X6_finds_J18 f_otherPlace f_otherSign a_signs Q) ∧ (¬ f_isRead = 0 → (f_readPlaces = 18 → ∃ n22 : Nat, wl5 (p_X6_finds_B22 f_readPlaces f_isRead x1 Q (fun x2_121 x3_121 f_otherPlace_121 f_otherSign_121 a_signs_121 => Q x2_121 f_otherPlace_121 f_otherSign_121 a_signs_121)) n22 0 0 f_otherPlace f_otherSign a_signs) ∧ (¬ f_readPlaces = 18 → p_X6_finds_J18 f_otherPlace f_otherSign a_signs Q))

def p_X6_others (f_thrown : Int32) (f_readPlaces : Int32) (f_isRead : Int32) (f_otherPlace : Int32) (f_otherSign : Int32) (a_signs : Nat → Int32) (Q : Int32 → Int32 → Int32 → Int32 → (Nat → Int32) → Prop) : Prop :=
  p_X6_finds f_readPlaces f_isRead f_otherPlace f_otherSign a_signs 1000 (fun r9 f_otherPlace_9 f_otherSign_9 a_signs_9 => Q r9 0 f_otherPlace_9 f_otherSign_9 a_signs_9)

def p_X6_costWith_B2 (K2 : Int32 → (Nat → Int32) → Prop) (R2 : Int32 → (Nat → Int32) → Prop) (x3 : Int32) (a_told : Nat → Int32) : Prop :=
  (9 ≤ x3 → K2 x3 a_told) ∧ (¬ 9 ≤ x3 → vp_in x3 9 ∧ (R2 (x3 + 1) (upd a_told (Int32.toNatClampNeg x3) 0)))
def p_X6_costWith_B49 (a_kept : Nat → Int32) (a_told : Nat → Int32) (x3 : Int32) (x4 : Int32) (K49 : Int32 → (Nat → Int32) → Prop) (R49 : Int32 → (Nat → Int32) → Prop) (x5 : Int32) (a_next : Nat → Int32) : Prop :=
  (9 ≤ x5 → K49 x5 a_next) ∧ (¬ 9 ≤ x5 → p_X6_near 9 a_told 0 x5 (fun r69 => p_X6_cell x3 x4 x5 (fun r81 => vp_in r81 2160 ∧ (vp_in x5 9 ∧ (R49 (x5 + 1) (upd a_next (Int32.toNatClampNeg x5) (r69 + (a_kept (Int32.toNatClampNeg r81)))))))))
def p_X6_costWith_B96 (a_next : Nat → Int32) (K96 : Int32 → (Nat → Int32) → Prop) (R96 : Int32 → (Nat → Int32) → Prop) (x5 : Int32) (a_told : Nat → Int32) : Prop :=
  (9 ≤ x5 → K96 x5 a_told) ∧ (¬ 9 ≤ x5 → vp_in x5 9 ∧ (vp_in x5 9 ∧ (R96 (x5 + 1) (upd a_told (Int32.toNatClampNeg x5) (a_next (Int32.toNatClampNeg x5))))))
def p_X6_costWith_J44 (a_kept : Nat → Int32) (a_next : Nat → Int32) (a_told : Nat → Int32) (R23 : Int32 → (Nat → Int32) → (Nat → Int32) → Prop) (x3 : Int32) (s0 : Int32) : Prop :=
  ∃ n49 : Nat, wl2 (p_X6_costWith_B49 a_kept a_told x3 s0 (fun x5_93 a_next_93 => ∃ n96 : Nat, wl2 (p_X6_costWith_B96 a_next_93 (fun x5_123 a_told_123 => R23 (x3 + 1) a_next_93 a_told_123)) n96 0 a_told)) n49 0 a_next
def p_X6_costWith_B23 (a_kept : Nat → Int32) (a_signs : Nat → Int32) (x1 : Int32) (x2 : Int32) (K23 : Int32 → (Nat → Int32) → (Nat → Int32) → Prop) (R23 : Int32 → (Nat → Int32) → (Nat → Int32) → Prop) (x3 : Int32) (a_next : Nat → Int32) (a_told : Nat → Int32) : Prop :=
  (18 ≤ x3 → K23 x3 a_next a_told) ∧ (¬ 18 ≤ x3 → (¬ x3 = x1 → vp_in x3 20 ∧ (p_X6_costWith_J44 a_kept a_next a_told R23 x3 (a_signs (Int32.toNatClampNeg x3)))) ∧ (x3 = x1 → p_X6_costWith_J44 a_kept a_next a_told R23 x3 x2))
def p_X6_costWith_J164 (R135 : Int32 → Int32 → Prop) (x4 : Int32) (s0 : Int32) : Prop :=
  R135 s0 (x4 + 1)
def p_X6_costWith_B135 (a_told : Nat → Int32) (K135 : Int32 → Int32 → Prop) (R135 : Int32 → Int32 → Prop) (x3 : Int32) (x4 : Int32) : Prop :=
  (9 ≤ x4 → K135 x3 x4) ∧ (¬ 9 ≤ x4 → vp_in x4 9 ∧ ((x3 ≤ (a_told (Int32.toNatClampNeg x4)) → p_X6_costWith_J164 R135 x4 x3) ∧ (¬ x3 ≤ (a_told (Int32.toNatClampNeg x4)) → vp_in x4 9 ∧ (p_X6_costWith_J164 R135 x4 (a_told (Int32.toNatClampNeg x4))))))
def p_X6_costWith (a_kept : Nat → Int32) (a_next : Nat → Int32) (a_signs : Nat → Int32) (a_told : Nat → Int32) (x1 : Int32) (x2 : Int32) (Q : Int32 → (Nat → Int32) → (Nat → Int32) → Prop) : Prop :=
  ∃ n2 : Nat, wl2 (p_X6_costWith_B2 (fun x3_21 a_told_21 => ∃ n23 : Nat, wl3 (p_X6_costWith_B23 a_kept a_signs x1 x2 (fun x3_129 a_next_129 a_told_129 => ∃ n135 : Nat, wl2 (p_X6_costWith_B135 a_told_129 (fun x3_171 x4_171 => Q x3_171 a_next_129 a_told_129)) n135 100000000 0)) n23 0 a_next a_told_21)) n2 0 a_told

def p_X6_other_J49 (f_thrown : Int32) (f_otherPlace : Int32) (f_otherSign : Int32) (a_next : Nat → Int32) (a_signs : Nat → Int32) (a_told : Nat → Int32) (Q : Int32 → Int32 → Int32 → Int32 → (Nat → Int32) → (Nat → Int32) → (Nat → Int32) → Prop) : Prop :=
  Q (-1) f_thrown f_otherPlace f_otherSign a_next a_signs a_told
def p_X6_other_J91 (f_thrown : Int32) (f_otherPlace : Int32) (f_otherSign : Int32) (a_next : Nat → Int32) (a_signs : Nat → Int32) (a_told : Nat → Int32) (Q : Int32 → Int32 → Int32 → Int32 → (Nat → Int32) → (Nat → Int32) → (Nat → Int32) → Prop) (s0 : Int32) : Prop :=
  Q s0 f_thrown f_otherPlace f_otherSign a_next a_signs a_told
def p_X6_other_J20 (f_thrown : Int32) (f_readPlaces : Int32) (f_cost : Int32) (f_isRead : Int32) (f_otherPlace : Int32) (f_otherSign : Int32) (a_kept : Nat → Int32) (a_next : Nat → Int32) (a_signs : Nat → Int32) (a_told : Nat → Int32) (Q : Int32 → Int32 → Int32 → Int32 → (Nat → Int32) → (Nat → Int32) → (Nat → Int32) → Prop) (x1 : Int32) (x2 : Int32) (s0 : Int32) : Prop :=
  p_X6_bad f_thrown s0 1 (fun r21 f_thrown_21 => (r21 = 0 → (x1 < 0 → p_X6_other_J49 f_thrown_21 f_otherPlace f_otherSign a_next a_signs a_told Q) ∧ (¬ x1 < 0 → (1000 < x1 → p_X6_other_J49 f_thrown_21 f_otherPlace f_otherSign a_next a_signs a_told Q) ∧ (¬ 1000 < x1 → p_X6_finds f_readPlaces f_isRead f_otherPlace f_otherSign a_signs x1 (fun r42 f_otherPlace_42 f_otherSign_42 a_signs_42 => (x1 < r42 → (¬ x2 = 0 → (¬ x2 = 1 → p_X6_costWith a_kept a_next a_signs_42 a_told f_otherPlace_42 f_otherSign_42 (fun r83 a_next_83 a_told_83 => p_X6_other_J91 f_thrown_21 f_otherPlace_42 f_otherSign_42 a_next_83 a_signs_42 a_told_83 Q (r83 - f_cost))) ∧ (x2 = 1 → p_X6_other_J91 f_thrown_21 f_otherPlace_42 f_otherSign_42 a_next a_signs_42 a_told Q f_otherSign_42)) ∧ (x2 = 0 → p_X6_other_J91 f_thrown_21 f_otherPlace_42 f_otherSign_42 a_next a_signs_42 a_told Q f_otherPlace_42)) ∧ (¬ x1 < r42 → p_X6_other_J49 f_thrown_21 f_otherPlace_42 f_otherSign_42 a_next a_signs_42 a_told Q))))) ∧ (¬ r21 = 0 → Q 0 f_thrown_21 f_otherPlace f_otherSign a_next a_signs a_told))
def p_X6_other_J15 (f_thrown : Int32) (f_readPlaces : Int32) (f_cost : Int32) (f_isRead : Int32) (f_otherPlace : Int32) (f_otherSign : Int32) (a_kept : Nat → Int32) (a_next : Nat → Int32) (a_signs : Nat → Int32) (a_told : Nat → Int32) (Q : Int32 → Int32 → Int32 → Int32 → (Nat → Int32) → (Nat → Int32) → (Nat → Int32) → Prop) (x1 : Int32) (x2 : Int32) : Prop :=
  p_X6_other_J20 f_thrown f_readPlaces f_cost f_isRead f_otherPlace f_otherSign a_kept a_next a_signs a_told Q x1 x2 1
def p_X6_other (f_thrown : Int32) (f_readPlaces : Int32) (f_cost : Int32) (f_isRead : Int32) (f_otherPlace : Int32) (f_otherSign : Int32) (a_kept : Nat → Int32) (a_next : Nat → Int32) (a_signs : Nat → Int32) (a_told : Nat → Int32) (x1 : Int32) (x2 : Int32) (Q : Int32 → Int32 → Int32 → Int32 → (Nat → Int32) → (Nat → Int32) → (Nat → Int32) → Prop) : Prop :=
  (x2 < 0 → p_X6_other_J15 0 f_readPlaces f_cost f_isRead f_otherPlace f_otherSign a_kept a_next a_signs a_told Q x1 x2) ∧ (¬ x2 < 0 → (x2 ≤ 2 → p_X6_other_J20 0 f_readPlaces f_cost f_isRead f_otherPlace f_otherSign a_kept a_next a_signs a_told Q x1 x2 0) ∧ (¬ x2 ≤ 2 → p_X6_other_J15 0 f_readPlaces f_cost f_isRead f_otherPlace f_otherSign a_kept a_next a_signs a_told Q x1 x2))

def p_X6_choose_J25 (f_thrown : Int32) (f_cost : Int32) (f_gap : Int32) (f_otherPlace : Int32) (f_otherSign : Int32) (a_next : Nat → Int32) (a_signs : Nat → Int32) (a_told : Nat → Int32) (Q : Int32 → Int32 → Int32 → Int32 → Int32 → Int32 → (Nat → Int32) → (Nat → Int32) → (Nat → Int32) → Prop) : Prop :=
  Q 0 f_thrown f_cost f_gap f_otherPlace f_otherSign a_next a_signs a_told
def p_X6_choose (f_thrown : Int32) (f_readPlaces : Int32) (f_cost : Int32) (f_gap : Int32) (f_isRead : Int32) (f_otherPlace : Int32) (f_otherSign : Int32) (a_kept : Nat → Int32) (a_next : Nat → Int32) (a_signs : Nat → Int32) (a_told : Nat → Int32) (x1 : Int32) (Q : Int32 → Int32 → Int32 → Int32 → Int32 → Int32 → (Nat → Int32) → (Nat → Int32) → (Nat → Int32) → Prop) : Prop :=
  (x1 < 0 → p_X6_choose_J25 0 f_cost f_gap f_otherPlace f_otherSign a_next a_signs a_told Q) ∧ (¬ x1 < 0 → (1000 < x1 → p_X6_choose_J25 0 f_cost f_gap f_otherPlace f_otherSign a_next a_signs a_told Q) ∧ (¬ 1000 < x1 → p_X6_finds f_readPlaces f_isRead f_otherPlace f_otherSign a_signs x1 (fun r18 f_otherPlace_18 f_otherSign_18 a_signs_18 => (x1 < r18 → p_X6_costWith a_kept a_next a_signs_18 a_told f_otherPlace_18 f_otherSign_18 (fun r37 a_next_37 a_told_37 => vp_in f_otherPlace_18 20 ∧ (Q 1 0 r37 0 f_otherPlace_18 f_otherSign_18 a_next_37 (upd a_signs_18 (Int32.toNatClampNeg f_otherPlace_18) f_otherSign_18) a_told_37))) ∧ (¬ x1 < r18 → p_X6_choose_J25 0 f_cost f_gap f_otherPlace_18 f_otherSign_18 a_next a_signs_18 a_told Q))))

def p_X6_batch_J50 (f_thrown : Int32) (f_batches : Int32) (a_toldSum : Nat → Int32) (Q : Int32 → Int32 → Int32 → (Nat → Int32) → Prop) : Prop :=
  Q 0 f_thrown f_batches a_toldSum
def p_X6_batch_J43 (f_thrown : Int32) (f_batches : Int32) (a_toldSum : Nat → Int32) (Q : Int32 → Int32 → Int32 → (Nat → Int32) → Prop) (x1 : Int32) (s0 : Int32) : Prop :=
  p_X6_bad f_thrown s0 2 (fun r44 f_thrown_44 => (r44 = 0 → vp_in f_batches 20 ∧ (Q ((f_batches + 1) - 1) f_thrown_44 (f_batches + 1) (upd a_toldSum (Int32.toNatClampNeg f_batches) x1))) ∧ (¬ r44 = 0 → p_X6_batch_J50 f_thrown_44 f_batches a_toldSum Q))
def p_X6_batch_J21 (f_thrown : Int32) (f_batches : Int32) (a_toldSum : Nat → Int32) (Q : Int32 → Int32 → Int32 → (Nat → Int32) → Prop) (x1 : Int32) (s0 : Int32) : Prop :=
  p_X6_bad f_thrown s0 1 (fun r22 f_thrown_22 => (¬ r22 = 0 → p_X6_batch_J50 f_thrown_22 f_batches a_toldSum Q) ∧ (r22 = 0 → (¬ f_batches = 20 → p_X6_batch_J43 f_thrown_22 f_batches a_toldSum Q x1 0) ∧ (f_batches = 20 → p_X6_batch_J43 f_thrown_22 f_batches a_toldSum Q x1 1)))
def p_X6_batch_J16 (f_thrown : Int32) (f_batches : Int32) (a_toldSum : Nat → Int32) (Q : Int32 → Int32 → Int32 → (Nat → Int32) → Prop) (x1 : Int32) : Prop :=
  p_X6_batch_J21 f_thrown f_batches a_toldSum Q x1 1
def p_X6_batch (f_thrown : Int32) (f_batches : Int32) (a_toldSum : Nat → Int32) (x1 : Int32) (Q : Int32 → Int32 → Int32 → (Nat → Int32) → Prop) : Prop :=
  (x1 < 0 → p_X6_batch_J16 0 f_batches a_toldSum Q x1) ∧ (¬ x1 < 0 → (x1 ≤ 1000000000 → p_X6_batch_J21 0 f_batches a_toldSum Q x1 0) ∧ (¬ x1 ≤ 1000000000 → p_X6_batch_J16 0 f_batches a_toldSum Q x1))

def p_X6_isBatch_J33 (f_thrown : Int32) (Q : Int32 → Int32 → Prop) (s0 : Int32) : Prop :=
  (narrow .boolean (.int s0) = .int s0) ∧ Q s0 f_thrown
def p_X6_isBatch_J18 (Q : Int32 → Int32 → Prop) (s0 : Int32) : Prop :=
  (¬ s0 = 0 → p_X6_isBatch_J33 s0 Q 0) ∧ (s0 = 0 → p_X6_isBatch_J33 s0 Q 1)
def p_X6_isBatch_J13 (Q : Int32 → Int32 → Prop) : Prop :=
  p_X6_isBatch_J18 Q 1
def p_X6_isBatch (f_thrown : Int32) (f_batches : Int32) (x1 : Int32) (Q : Int32 → Int32 → Prop) : Prop :=
  (x1 < 0 → p_X6_isBatch_J13 Q) ∧ (¬ x1 < 0 → (x1 < f_batches → p_X6_isBatch_J18 Q 0) ∧ (¬ x1 < f_batches → p_X6_isBatch_J13 Q))

def p_X6_isAmount_J19 (Q : Int32 → Prop) (s0 : Int32) : Prop :=
  (narrow .boolean (.int s0) = .int s0) ∧ Q s0
def p_X6_isAmount_J18 (Q : Int32 → Prop) : Prop :=
  p_X6_isAmount_J19 Q 0
def p_X6_isAmount (x0 : Int64) (Q : Int32 → Prop) : Prop :=
  ((lg_cmp x0 0) < 0 → p_X6_isAmount_J18 Q) ∧ (¬ (lg_cmp x0 0) < 0 → (0 < (lg_cmp x0 9999999) → p_X6_isAmount_J18 Q) ∧ (¬ 0 < (lg_cmp x0 9999999) → p_X6_isAmount_J19 Q 1))

def p_X6_twinOf_J63 (R11 : Int32 → Prop) (x1 : Int32) : Prop :=
  R11 (x1 + 1)
def p_X6_twinOf_B11 (f_papers : Int32) (a_paperAccount : Nat → Int32) (a_paperBank : Nat → Int32) (a_paperNumber : Nat → Int32) (a_signs : Nat → Int32) (Q : Int32 → Prop) (K11 : Int32 → Prop) (R11 : Int32 → Prop) (x1 : Int32) : Prop :=
  (f_papers ≤ x1 → K11 x1) ∧ (¬ f_papers ≤ x1 → vp_in x1 100 ∧ (p_X6_fieldOf a_signs 0 (fun r27 => (¬ (a_paperBank (Int32.toNatClampNeg x1)) = r27 → p_X6_twinOf_J63 R11 x1) ∧ ((a_paperBank (Int32.toNatClampNeg x1)) = r27 → vp_in x1 100 ∧ (p_X6_fieldOf a_signs 1 (fun r41 => (¬ (a_paperAccount (Int32.toNatClampNeg x1)) = r41 → p_X6_twinOf_J63 R11 x1) ∧ ((a_paperAccount (Int32.toNatClampNeg x1)) = r41 → vp_in x1 100 ∧ (p_X6_fieldOf a_signs 2 (fun r55 => (¬ (a_paperNumber (Int32.toNatClampNeg x1)) = r55 → p_X6_twinOf_J63 R11 x1) ∧ ((a_paperNumber (Int32.toNatClampNeg x1)) = r55 → Q x1))))))))))
def p_X6_twinOf (f_readPlaces : Int32) (f_isRead : Int32) (f_papers : Int32) (a_paperAccount : Nat → Int32) (a_paperBank : Nat → Int32) (a_paperNumber : Nat → Int32) (a_signs : Nat → Int32) (Q : Int32 → Prop) : Prop :=
  p_X6_fits f_readPlaces f_isRead a_signs (fun r1 => (¬ r1 = 0 → ∃ n11 : Nat, wl1 (p_X6_twinOf_B11 f_papers a_paperAccount a_paperBank a_paperNumber a_signs Q (fun x1_69 => Q (-1))) n11 0) ∧ (r1 = 0 → Q (-1)))

def p_X6_twin (f_thrown : Int32) (f_readPlaces : Int32) (f_isRead : Int32) (f_papers : Int32) (a_paperAccount : Nat → Int32) (a_paperBank : Nat → Int32) (a_paperNumber : Nat → Int32) (a_signs : Nat → Int32) (Q : Int32 → Int32 → Prop) : Prop :=
  p_X6_twinOf f_readPlaces f_isRead f_papers a_paperAccount a_paperBank a_paperNumber a_signs (fun r6 => Q r6 0)

def p_X6_paper_J29 (f_thrown : Int32) (f_isRead : Int32) (f_papers : Int32) (a_paperAccount : Nat → Int32) (a_paperAmount : Nat → Int32) (a_paperBank : Nat → Int32) (a_paperBatch : Nat → Int32) (a_paperNumber : Nat → Int32) (Q : Int32 → Int32 → Int32 → Int32 → (Nat → Int32) → (Nat → Int32) → (Nat → Int32) → (Nat → Int32) → (Nat → Int32) → Prop) : Prop :=
  Q 0 f_thrown f_isRead f_papers a_paperAccount a_paperAmount a_paperBank a_paperBatch a_paperNumber
def p_X6_paper_J22 (f_thrown : Int32) (f_readPlaces : Int32) (f_isRead : Int32) (f_papers : Int32) (a_paperAccount : Nat → Int32) (a_paperAmount : Nat → Int32) (a_paperBank : Nat → Int32) (a_paperBatch : Nat → Int32) (a_paperNumber : Nat → Int32) (a_signs : Nat → Int32) (Q : Int32 → Int32 → Int32 → Int32 → (Nat → Int32) → (Nat → Int32) → (Nat → Int32) → (Nat → Int32) → (Nat → Int32) → Prop) (x1 : Int32) (x2 : Int32) (s0 : Int32) : Prop :=
  p_X6_bad f_thrown s0 2 (fun r23 f_thrown_23 => (r23 = 0 → p_X6_fits f_readPlaces f_isRead a_signs (fun r32 => (¬ r32 = 0 → p_X6_twinOf f_readPlaces f_isRead f_papers a_paperAccount a_paperBank a_paperNumber a_signs (fun r41 => (r41 < 0 → (¬ f_papers = 100 → vp_in f_papers 100 ∧ (vp_in f_papers 100 ∧ (p_X6_fieldOf a_signs 0 (fun r92 => vp_in f_papers 100 ∧ (p_X6_fieldOf a_signs 1 (fun r106 => vp_in f_papers 100 ∧ (p_X6_fieldOf a_signs 2 (fun r120 => vp_in f_papers 100 ∧ ((narrow .boolean (.int 0) = .int 0 ∧ fits .boolean (.int 0) = true) ∧ (Q ((f_papers + 1) - 1) f_thrown_23 0 (f_papers + 1) (upd a_paperAccount (Int32.toNatClampNeg f_papers) r106) (upd a_paperAmount (Int32.toNatClampNeg f_papers) x2) (upd a_paperBank (Int32.toNatClampNeg f_papers) r92) (upd a_paperBatch (Int32.toNatClampNeg f_papers) x1) (upd a_paperNumber (Int32.toNatClampNeg f_papers) r120))))))))))) ∧ (f_papers = 100 → Q (-3) f_thrown_23 f_isRead f_papers a_paperAccount a_paperAmount a_paperBank a_paperBatch a_paperNumber)) ∧ (¬ r41 < 0 → Q (-2) f_thrown_23 f_isRead f_papers a_paperAccount a_paperAmount a_paperBank a_paperBatch a_paperNumber))) ∧ (r32 = 0 → Q (-1) f_thrown_23 f_isRead f_papers a_paperAccount a_paperAmount a_paperBank a_paperBatch a_paperNumber))) ∧ (¬ r23 = 0 → p_X6_paper_J29 f_thrown_23 f_isRead f_papers a_paperAccount a_paperAmount a_paperBank a_paperBatch a_paperNumber Q))
def p_X6_paper (f_thrown : Int32) (f_readPlaces : Int32) (f_isRead : Int32) (f_batches : Int32) (f_papers : Int32) (a_paperAccount : Nat → Int32) (a_paperAmount : Nat → Int32) (a_paperBank : Nat → Int32) (a_paperBatch : Nat → Int32) (a_paperNumber : Nat → Int32) (a_signs : Nat → Int32) (x1 : Int32) (x2 : Int32) (Q : Int32 → Int32 → Int32 → Int32 → (Nat → Int32) → (Nat → Int32) → (Nat → Int32) → (Nat → Int32) → (Nat → Int32) → Prop) : Prop :=
  p_X6_isBatch f_thrown f_batches x1 (fun r2 f_thrown_2 => (r2 = 0 → p_X6_paper_J29 f_thrown_2 f_isRead f_papers a_paperAccount a_paperAmount a_paperBank a_paperBatch a_paperNumber Q) ∧ (¬ r2 = 0 → p_X6_isAmount (Int32.toInt64 x2) (fun r11 => (¬ r11 = 0 → p_X6_paper_J22 f_thrown_2 f_readPlaces f_isRead f_papers a_paperAccount a_paperAmount a_paperBank a_paperBatch a_paperNumber a_signs Q x1 x2 0) ∧ (r11 = 0 → p_X6_paper_J22 f_thrown_2 f_readPlaces f_isRead f_papers a_paperAccount a_paperAmount a_paperBank a_paperBatch a_paperNumber a_signs Q x1 x2 1))))

def p_X6_amount_J51 (f_thrown : Int32) (a_paperAmount : Nat → Int32) (Q : Int32 → Int32 → (Nat → Int32) → Prop) : Prop :=
  Q 0 f_thrown a_paperAmount
def p_X6_amount_J44 (f_thrown : Int32) (a_paperAmount : Nat → Int32) (Q : Int32 → Int32 → (Nat → Int32) → Prop) (x1 : Int32) (x2 : Int32) (s0 : Int32) : Prop :=
  p_X6_bad f_thrown s0 2 (fun r45 f_thrown_45 => (r45 = 0 → vp_in x1 100 ∧ (vp_in x1 100 ∧ (Q (a_paperAmount (Int32.toNatClampNeg x1)) f_thrown_45 (upd a_paperAmount (Int32.toNatClampNeg x1) x2)))) ∧ (¬ r45 = 0 → p_X6_amount_J51 f_thrown_45 a_paperAmount Q))
def p_X6_amount_J23 (f_thrown : Int32) (a_paperAmount : Nat → Int32) (Q : Int32 → Int32 → (Nat → Int32) → Prop) (x1 : Int32) (x2 : Int32) (s0 : Int32) : Prop :=
  p_X6_bad f_thrown s0 1 (fun r24 f_thrown_24 => (¬ r24 = 0 → p_X6_amount_J51 f_thrown_24 a_paperAmount Q) ∧ (r24 = 0 → p_X6_isAmount (Int32.toInt64 x2) (fun r33 => (¬ r33 = 0 → p_X6_amount_J44 f_thrown_24 a_paperAmount Q x1 x2 0) ∧ (r33 = 0 → p_X6_amount_J44 f_thrown_24 a_paperAmount Q x1 x2 1))))
def p_X6_amount_J18 (f_thrown : Int32) (a_paperAmount : Nat → Int32) (Q : Int32 → Int32 → (Nat → Int32) → Prop) (x1 : Int32) (x2 : Int32) : Prop :=
  p_X6_amount_J23 f_thrown a_paperAmount Q x1 x2 1
def p_X6_amount (f_thrown : Int32) (f_papers : Int32) (a_paperAmount : Nat → Int32) (x1 : Int32) (x2 : Int32) (Q : Int32 → Int32 → (Nat → Int32) → Prop) : Prop :=
  (x1 < 0 → p_X6_amount_J18 0 a_paperAmount Q x1 x2) ∧ (¬ x1 < 0 → (x1 < f_papers → p_X6_amount_J23 0 a_paperAmount Q x1 x2 0) ∧ (¬ x1 < f_papers → p_X6_amount_J18 0 a_paperAmount Q x1 x2))

def p_X6_outOf_J45 (R12 : Int64 → Int32 → Prop) (x4 : Int32) (s0 : Int64) (s1 : Int64) : Prop :=
  R12 (s1 + s0) (x4 + 1)
def p_X6_outOf_B12 (f_papers : Int32) (a_paperAmount : Nat → Int32) (a_paperBatch : Nat → Int32) (x1 : Int32) (K12 : Int64 → Int32 → Prop) (R12 : Int64 → Int32 → Prop) (x2 : Int64) (x4 : Int32) : Prop :=
  (f_papers ≤ x4 → K12 x2 x4) ∧ (¬ f_papers ≤ x4 → vp_in x4 100 ∧ ((¬ (a_paperBatch (Int32.toNatClampNeg x4)) = x1 → p_X6_outOf_J45 R12 x4 0 x2) ∧ ((a_paperBatch (Int32.toNatClampNeg x4)) = x1 → vp_in x4 100 ∧ (p_X6_outOf_J45 R12 x4 (Int32.toInt64 (a_paperAmount (Int32.toNatClampNeg x4))) x2))))
def p_X6_outOf (f_papers : Int32) (a_paperAmount : Nat → Int32) (a_paperBatch : Nat → Int32) (a_toldSum : Nat → Int32) (x1 : Int32) (Q : Int64 → Prop) : Prop :=
  vp_in x1 20 ∧ (∃ n12 : Nat, wl2 (p_X6_outOf_B12 f_papers a_paperAmount a_paperBatch x1 (fun x2_53 x4_53 => Q x2_53)) n12 (Int32.toInt64 (jneg (a_toldSum (Int32.toNatClampNeg x1)))) 0)

def p_X6_out_J17 (f_thrown : Int32) (Q : Int64 → Int32 → Prop) (s0 : Int64) : Prop :=
  Q s0 f_thrown
def p_X6_out (f_thrown : Int32) (f_batches : Int32) (f_papers : Int32) (a_paperAmount : Nat → Int32) (a_paperBatch : Nat → Int32) (a_toldSum : Nat → Int32) (x1 : Int32) (Q : Int64 → Int32 → Prop) : Prop :=
  p_X6_isBatch f_thrown f_batches x1 (fun r2 f_thrown_2 => (r2 = 0 → p_X6_out_J17 f_thrown_2 Q 0) ∧ (¬ r2 = 0 → p_X6_outOf f_papers a_paperAmount a_paperBatch a_toldSum x1 (fun r10 => p_X6_out_J17 f_thrown_2 Q r10)))

def p_X6_isSlip_J50 (R14 : Int32 → Int32 → Int32 → Int32 → Int32 → Prop) (x3 : Int32) (x4 : Int32) (x5 : Int32) (x6 : Int32) (x7 : Int32) : Prop :=
  R14 x3 x4 (x5 / 10) (x6 / 10) (x7 + 1)
def p_X6_isSlip_J45 (R14 : Int32 → Int32 → Int32 → Int32 → Int32 → Prop) (x3 : Int32) (x5 : Int32) (x6 : Int32) (x7 : Int32) (s0 : Int32) : Prop :=
  p_X6_isSlip_J50 R14 (x3 + 1) s0 x5 x6 x7
def p_X6_isSlip_B14 (K14 : Int32 → Int32 → Int32 → Int32 → Int32 → Prop) (R14 : Int32 → Int32 → Int32 → Int32 → Int32 → Prop) (x3 : Int32) (x4 : Int32) (x5 : Int32) (x6 : Int32) (x7 : Int32) : Prop :=
  (7 ≤ x7 → K14 x3 x4 x5 x6 x7) ∧ (¬ 7 ≤ x7 → ((jrem x5 10) = (jrem x6 10) → p_X6_isSlip_J50 R14 x3 x4 x5 x6 x7) ∧ (¬ (jrem x5 10) = (jrem x6 10) → (¬ x3 = 0 → p_X6_isSlip_J45 R14 x3 x5 x6 x7 x4) ∧ (x3 = 0 → p_X6_isSlip_J45 R14 x3 x5 x6 x7 x7)))
def p_X6_isSlip_B98 (x4 : Int32) (K98 : Int32 → Int32 → Prop) (R98 : Int32 → Int32 → Prop) (x7 : Int32) (x8 : Int32) : Prop :=
  (x4 ≤ x8 → K98 x7 x8) ∧ (¬ x4 ≤ x8 → R98 (x7 * 10) (x8 + 1))
def p_X6_isSlip_J163 (Q : Int32 → Prop) (s0 : Int32) : Prop :=
  (narrow .boolean (.int s0) = .int s0) ∧ Q s0
def p_X6_isSlip_J162 (Q : Int32 → Prop) : Prop :=
  p_X6_isSlip_J163 Q 0
def p_X6_isSlip_J84 (Q : Int32 → Prop) (s0 : Int32) : Prop :=
  (narrow .boolean (.int s0) = .int s0) ∧ Q s0
def p_X6_isSlip (x0 : Int32) (x1 : Int32) (x2 : Int32) (Q : Int32 → Prop) : Prop :=
  ∃ n14 : Nat, wl5 (p_X6_isSlip_B14 (fun x3_70 x4_70 x5_70 x6_70 x7_70 => (¬ x0 = 0 → (x3_70 = 2 → ∃ n98 : Nat, wl2 (p_X6_isSlip_B98 x4_70 (fun x7_118 x8_118 => (¬ x7_118 = 0) ∧ ((¬ x7_118 = 0) ∧ ((¬ (jrem (x1 / x7_118) 10) = (jrem ((x2 / x7_118) / 10) 10) → p_X6_isSlip_J162 Q) ∧ ((jrem (x1 / x7_118) 10) = (jrem ((x2 / x7_118) / 10) 10) → (¬ x7_118 = 0) ∧ ((¬ x7_118 = 0) ∧ ((¬ (jrem ((x1 / x7_118) / 10) 10) = (jrem (x2 / x7_118) 10) → p_X6_isSlip_J162 Q) ∧ ((jrem ((x1 / x7_118) / 10) 10) = (jrem (x2 / x7_118) 10) → p_X6_isSlip_J163 Q 1)))))))) n98 1 0) ∧ (¬ x3_70 = 2 → (narrow .boolean (.int 0) = .int 0) ∧ Q 0)) ∧ (x0 = 0 → (¬ x3_70 = 1 → p_X6_isSlip_J84 Q 0) ∧ (x3_70 = 1 → p_X6_isSlip_J84 Q 1)))) n14 0 0 x1 x2 0

def p_X6_looks_J169 (f_slipKind : Int32) (f_slipPaper : Int32) (f_slipAmount : Int32) (R46 : Int32 → Int32 → Int32 → Int32 → Int32 → Prop) (x5 : Int32) (x7 : Int32) : Prop :=
  R46 x5 (x7 + 1) f_slipKind f_slipPaper f_slipAmount
def p_X6_looks_J152 (f_slipKind : Int32) (f_slipPaper : Int32) (Q : Int32 → Int32 → Int32 → Int32 → Prop) (R46 : Int32 → Int32 → Int32 → Int32 → Int32 → Prop) (x2 : Int32) (x5 : Int32) (x7 : Int32) (s0 : Int32) : Prop :=
  (¬ (x5 + 1) = (x2 + 1) → p_X6_looks_J169 f_slipKind f_slipPaper s0 R46 (x5 + 1) x7) ∧ ((x5 + 1) = (x2 + 1) → Q (x5 + 1) f_slipKind f_slipPaper s0)
def p_X6_looks_J116 (f_slipKind : Int32) (f_slipPaper : Int32) (f_slipAmount : Int32) (Q : Int32 → Int32 → Int32 → Int32 → Prop) (R46 : Int32 → Int32 → Int32 → Int32 → Int32 → Prop) (x2 : Int32) (x5 : Int32) (x6 : Int32) (x7 : Int32) (x8 : Int64) (s0 : Int32) : Prop :=
  (¬ s0 = 0 → (¬ x7 = 2 → p_X6_looks_J152 x7 x6 Q R46 x2 x5 x7 (Int64.toInt32 x8)) ∧ (x7 = 2 → p_X6_looks_J152 x7 x6 Q R46 x2 x5 x7 0)) ∧ (s0 = 0 → p_X6_looks_J169 f_slipKind f_slipPaper f_slipAmount R46 x5 x7)
def p_X6_looks_J115 (f_slipKind : Int32) (f_slipPaper : Int32) (f_slipAmount : Int32) (Q : Int32 → Int32 → Int32 → Int32 → Prop) (R46 : Int32 → Int32 → Int32 → Int32 → Int32 → Prop) (x2 : Int32) (x5 : Int32) (x6 : Int32) (x7 : Int32) (x8 : Int64) : Prop :=
  p_X6_looks_J116 f_slipKind f_slipPaper f_slipAmount Q R46 x2 x5 x6 x7 x8 0
def p_X6_looks_B46 (a_paperAmount : Nat → Int32) (x2 : Int32) (x3 : Int64) (x6 : Int32) (Q : Int32 → Int32 → Int32 → Int32 → Prop) (K46 : Int32 → Int32 → Int32 → Int32 → Int32 → Prop) (R46 : Int32 → Int32 → Int32 → Int32 → Int32 → Prop) (x5 : Int32) (x7 : Int32) (f_slipKind : Int32) (f_slipPaper : Int32) (f_slipAmount : Int32) : Prop :=
  (3 ≤ x7 → K46 x5 x7 f_slipKind f_slipPaper f_slipAmount) ∧ (¬ 3 ≤ x7 → vp_in x6 100 ∧ ((¬ x7 = 2 → p_X6_isAmount ((Int32.toInt64 (a_paperAmount (Int32.toNatClampNeg x6))) - x3) (fun r87 => (r87 = 0 → p_X6_looks_J115 f_slipKind f_slipPaper f_slipAmount Q R46 x2 x5 x6 x7 ((Int32.toInt64 (a_paperAmount (Int32.toNatClampNeg x6))) - x3)) ∧ (¬ r87 = 0 → vp_in x6 100 ∧ (p_X6_isSlip x7 (a_paperAmount (Int32.toNatClampNeg x6)) (Int64.toInt32 ((Int32.toInt64 (a_paperAmount (Int32.toNatClampNeg x6))) - x3)) (fun r105 => (r105 = 0 → p_X6_looks_J115 f_slipKind f_slipPaper f_slipAmount Q R46 x2 x5 x6 x7 ((Int32.toInt64 (a_paperAmount (Int32.toNatClampNeg x6))) - x3)) ∧ (¬ r105 = 0 → p_X6_looks_J116 f_slipKind f_slipPaper f_slipAmount Q R46 x2 x5 x6 x7 ((Int32.toInt64 (a_paperAmount (Int32.toNatClampNeg x6))) - x3) 1)))))) ∧ (x7 = 2 → (¬ (lg_cmp ((Int32.toInt64 (a_paperAmount (Int32.toNatClampNeg x6))) - x3) 0) = 0 → p_X6_looks_J116 f_slipKind f_slipPaper f_slipAmount Q R46 x2 x5 x6 x7 ((Int32.toInt64 (a_paperAmount (Int32.toNatClampNeg x6))) - x3) 0) ∧ ((lg_cmp ((Int32.toInt64 (a_paperAmount (Int32.toNatClampNeg x6))) - x3) 0) = 0 → p_X6_looks_J116 f_slipKind f_slipPaper f_slipAmount Q R46 x2 x5 x6 x7 ((Int32.toInt64 (a_paperAmount (Int32.toNatClampNeg x6))) - x3) 1))))
def p_X6_looks_J175 (f_slipKind : Int32) (f_slipPaper : Int32) (f_slipAmount : Int32) (R20 : Int32 → Int32 → Int32 → Int32 → Int32 → Prop) (x5 : Int32) (x6 : Int32) : Prop :=
  R20 x5 (x6 + 1) f_slipKind f_slipPaper f_slipAmount
def p_X6_looks_B20 (f_papers : Int32) (a_paperAmount : Nat → Int32) (a_paperBatch : Nat → Int32) (x1 : Int32) (x2 : Int32) (x3 : Int64) (Q : Int32 → Int32 → Int32 → Int32 → Prop) (K20 : Int32 → Int32 → Int32 → Int32 → Int32 → Prop) (R20 : Int32 → Int32 → Int32 → Int32 → Int32 → Prop) (x5 : Int32) (x6 : Int32) (f_slipKind : Int32) (f_slipPaper : Int32) (f_slipAmount : Int32) : Prop :=
  (f_papers ≤ x6 → K20 x5 x6 f_slipKind f_slipPaper f_slipAmount) ∧ (¬ f_papers ≤ x6 → vp_in x6 100 ∧ (((a_paperBatch (Int32.toNatClampNeg x6)) = x1 → ∃ n46 : Nat, wl5 (p_X6_looks_B46 a_paperAmount x2 x3 x6 Q (fun x5_175 x7_175 f_slipKind_175 f_slipPaper_175 f_slipAmount_175 => p_X6_looks_J175 f_slipKind_175 f_slipPaper_175 f_slipAmount_175 R20 x5_175 x6)) n46 x5 0 f_slipKind f_slipPaper f_slipAmount) ∧ (¬ (a_paperBatch (Int32.toNatClampNeg x6)) = x1 → p_X6_looks_J175 f_slipKind f_slipPaper f_slipAmount R20 x5 x6)))
def p_X6_looks_J195 (f_slipKind : Int32) (f_slipPaper : Int32) (f_slipAmount : Int32) (Q : Int32 → Int32 → Int32 → Int32 → Prop) (x5 : Int32) : Prop :=
  Q x5 f_slipKind f_slipPaper f_slipAmount
def p_X6_looks (f_papers : Int32) (f_slipKind : Int32) (f_slipPaper : Int32) (f_slipAmount : Int32) (a_paperAmount : Nat → Int32) (a_paperBatch : Nat → Int32) (a_toldSum : Nat → Int32) (x1 : Int32) (x2 : Int32) (Q : Int32 → Int32 → Int32 → Int32 → Prop) : Prop :=
  p_X6_outOf f_papers a_paperAmount a_paperBatch a_toldSum x1 (fun r2 => (¬ (lg_cmp r2 0) = 0 → ∃ n20 : Nat, wl5 (p_X6_looks_B20 f_papers a_paperAmount a_paperBatch x1 x2 r2 Q (fun x5_181 x6_181 f_slipKind_181 f_slipPaper_181 f_slipAmount_181 => (0 < (lg_cmp r2 0) → p_X6_looks_J195 f_slipKind_181 f_slipPaper_181 f_slipAmount_181 Q x5_181) ∧ (¬ 0 < (lg_cmp r2 0) → p_X6_isAmount (jlneg r2) (fun r189 => (¬ r189 = 0 → Q (x5_181 + 1) 3 (-1) (Int64.toInt32 (jlneg r2))) ∧ (r189 = 0 → p_X6_looks_J195 f_slipKind_181 f_slipPaper_181 f_slipAmount_181 Q x5_181))))) n20 0 0 f_slipKind f_slipPaper f_slipAmount) ∧ ((lg_cmp r2 0) = 0 → Q 0 f_slipKind f_slipPaper f_slipAmount))

def p_X6_slips_J19 (f_thrown : Int32) (f_slipKind : Int32) (f_slipPaper : Int32) (f_slipAmount : Int32) (Q : Int32 → Int32 → Int32 → Int32 → Int32 → Prop) (s0 : Int32) : Prop :=
  Q s0 f_thrown f_slipKind f_slipPaper f_slipAmount
def p_X6_slips (f_thrown : Int32) (f_batches : Int32) (f_papers : Int32) (f_slipKind : Int32) (f_slipPaper : Int32) (f_slipAmount : Int32) (a_paperAmount : Nat → Int32) (a_paperBatch : Nat → Int32) (a_toldSum : Nat → Int32) (x1 : Int32) (Q : Int32 → Int32 → Int32 → Int32 → Int32 → Prop) : Prop :=
  p_X6_isBatch f_thrown f_batches x1 (fun r2 f_thrown_2 => (r2 = 0 → p_X6_slips_J19 f_thrown_2 f_slipKind f_slipPaper f_slipAmount Q 0) ∧ (¬ r2 = 0 → p_X6_looks f_papers f_slipKind f_slipPaper f_slipAmount a_paperAmount a_paperBatch a_toldSum x1 100000 (fun r12 f_slipKind_12 f_slipPaper_12 f_slipAmount_12 => p_X6_slips_J19 f_thrown_2 f_slipKind_12 f_slipPaper_12 f_slipAmount_12 Q r12)))

def p_X6_slip_J30 (f_thrown : Int32) (f_slipKind : Int32) (f_slipPaper : Int32) (f_slipAmount : Int32) (Q : Int32 → Int32 → Int32 → Int32 → Int32 → Prop) : Prop :=
  Q 0 f_thrown f_slipKind f_slipPaper f_slipAmount
def p_X6_slip_J52 (f_thrown : Int32) (f_slipKind : Int32) (f_slipPaper : Int32) (f_slipAmount : Int32) (Q : Int32 → Int32 → Int32 → Int32 → Int32 → Prop) : Prop :=
  Q (-1) f_thrown f_slipKind f_slipPaper f_slipAmount
def p_X6_slip_J81 (f_thrown : Int32) (f_slipKind : Int32) (f_slipPaper : Int32) (f_slipAmount : Int32) (Q : Int32 → Int32 → Int32 → Int32 → Int32 → Prop) (s0 : Int32) : Prop :=
  Q s0 f_thrown f_slipKind f_slipPaper f_slipAmount
def p_X6_slip_J23 (f_thrown : Int32) (f_papers : Int32) (f_slipKind : Int32) (f_slipPaper : Int32) (f_slipAmount : Int32) (a_paperAmount : Nat → Int32) (a_paperBatch : Nat → Int32) (a_toldSum : Nat → Int32) (Q : Int32 → Int32 → Int32 → Int32 → Int32 → Prop) (x1 : Int32) (x2 : Int32) (x3 : Int32) (s0 : Int32) : Prop :=
  p_X6_bad f_thrown s0 2 (fun r24 f_thrown_24 => (r24 = 0 → (x2 < 0 → p_X6_slip_J52 f_thrown_24 f_slipKind f_slipPaper f_slipAmount Q) ∧ (¬ x2 < 0 → (100000 < x2 → p_X6_slip_J52 f_thrown_24 f_slipKind f_slipPaper f_slipAmount Q) ∧ (¬ 100000 < x2 → p_X6_looks f_papers f_slipKind f_slipPaper f_slipAmount a_paperAmount a_paperBatch a_toldSum x1 x2 (fun r45 f_slipKind_45 f_slipPaper_45 f_slipAmount_45 => (x2 < r45 → (¬ x3 = 0 → (¬ x3 = 1 → p_X6_slip_J81 f_thrown_24 f_slipKind_45 f_slipPaper_45 f_slipAmount_45 Q f_slipAmount_45) ∧ (x3 = 1 → p_X6_slip_J81 f_thrown_24 f_slipKind_45 f_slipPaper_45 f_slipAmount_45 Q f_slipPaper_45)) ∧ (x3 = 0 → p_X6_slip_J81 f_thrown_24 f_slipKind_45 f_slipPaper_45 f_slipAmount_45 Q f_slipKind_45)) ∧ (¬ x2 < r45 → p_X6_slip_J52 f_thrown_24 f_slipKind_45 f_slipPaper_45 f_slipAmount_45 Q))))) ∧ (¬ r24 = 0 → p_X6_slip_J30 f_thrown_24 f_slipKind f_slipPaper f_slipAmount Q))
def p_X6_slip_J18 (f_thrown : Int32) (f_papers : Int32) (f_slipKind : Int32) (f_slipPaper : Int32) (f_slipAmount : Int32) (a_paperAmount : Nat → Int32) (a_paperBatch : Nat → Int32) (a_toldSum : Nat → Int32) (Q : Int32 → Int32 → Int32 → Int32 → Int32 → Prop) (x1 : Int32) (x2 : Int32) (x3 : Int32) : Prop :=
  p_X6_slip_J23 f_thrown f_papers f_slipKind f_slipPaper f_slipAmount a_paperAmount a_paperBatch a_toldSum Q x1 x2 x3 1
def p_X6_slip (f_thrown : Int32) (f_batches : Int32) (f_papers : Int32) (f_slipKind : Int32) (f_slipPaper : Int32) (f_slipAmount : Int32) (a_paperAmount : Nat → Int32) (a_paperBatch : Nat → Int32) (a_toldSum : Nat → Int32) (x1 : Int32) (x2 : Int32) (x3 : Int32) (Q : Int32 → Int32 → Int32 → Int32 → Int32 → Prop) : Prop :=
  p_X6_isBatch f_thrown f_batches x1 (fun r2 f_thrown_2 => (r2 = 0 → p_X6_slip_J30 f_thrown_2 f_slipKind f_slipPaper f_slipAmount Q) ∧ (¬ r2 = 0 → (x3 < 0 → p_X6_slip_J18 f_thrown_2 f_papers f_slipKind f_slipPaper f_slipAmount a_paperAmount a_paperBatch a_toldSum Q x1 x2 x3) ∧ (¬ x3 < 0 → (x3 ≤ 2 → p_X6_slip_J23 f_thrown_2 f_papers f_slipKind f_slipPaper f_slipAmount a_paperAmount a_paperBatch a_toldSum Q x1 x2 x3 0) ∧ (¬ x3 ≤ 2 → p_X6_slip_J18 f_thrown_2 f_papers f_slipKind f_slipPaper f_slipAmount a_paperAmount a_paperBatch a_toldSum Q x1 x2 x3))))

def p_X6_count_J61 (R40 : Int32 → Int32 → Prop) (x3 : Int32) (s0 : Int32) (s1 : Int32) : Prop :=
  R40 (s1 + s0) (x3 + 1)
def p_X6_count_B40 (a_taught : Nat → Int32) (K40 : Int32 → Int32 → Prop) (R40 : Int32 → Int32 → Prop) (x2 : Int32) (x3 : Int32) : Prop :=
  (12 ≤ x3 → K40 x2 x3) ∧ (¬ 12 ≤ x3 → vp_in x3 12 ∧ (((a_taught (Int32.toNatClampNeg x3)) ≤ 0 → p_X6_count_J61 R40 x3 0 x2) ∧ (¬ (a_taught (Int32.toNatClampNeg x3)) ≤ 0 → p_X6_count_J61 R40 x3 1 x2)))
def p_X6_count (f_thrown : Int32) (f_tickMany : Int32) (f_batches : Int32) (f_papers : Int32) (a_taught : Nat → Int32) (x1 : Int32) (Q : Int32 → Int32 → Prop) : Prop :=
  (x1 = 0 → ∃ n40 : Nat, wl2 (p_X6_count_B40 a_taught (fun x2_69 x3_69 => Q x2_69 0)) n40 0 0) ∧ (x1 = 1 → Q f_tickMany 0) ∧ (x1 = 2 → Q f_batches 0) ∧ (x1 = 3 → Q f_papers 0) ∧ (¬ x1 = 0 → ¬ x1 = 1 → ¬ x1 = 2 → ¬ x1 = 3 → Q (-1) 0)

def p_X5_measure (f_tickCount : Int32) (f_head_places : Int32) (a_ticks : Nat → Int32) (a_alphabet_widths : Nat → Int32) (a_head_behind : Nat → Int32) (a_head_costs : Nat → Int32) (a_head_here : Nat → Int32) (a_head_joined : Nat → Int32) (a_head_laid : Nat → Int32) (x1 : Int32) (Q : Int32 → Int32 → (Nat → Int32) → (Nat → Int32) → (Nat → Int32) → (Nat → Int32) → (Nat → Int32) → Prop) : Prop :=
  p_X1_lay f_head_places a_head_laid a_ticks f_tickCount x1 (fun f_head_places_13 a_head_laid_13 => p_X1_weigh f_head_places_13 a_head_costs a_head_laid_13 a_alphabet_widths (fun a_head_costs_27 => p_X1_allowAnySigns f_head_places_13 a_head_behind a_head_costs_27 a_head_here a_head_joined (fun a_head_behind_34 a_head_here_34 a_head_joined_34 => p_X1_leastCost a_head_behind_34 a_head_here_34 (fun r41 => Q r41 f_head_places_13 a_head_behind_34 a_head_costs_27 a_head_here_34 a_head_joined_34 a_head_laid_13))))

def p_X5_layTheCheaperWay (f_tickCount : Int32) (f_head_places : Int32) (a_ticks : Nat → Int32) (a_alphabet_widths : Nat → Int32) (a_head_behind : Nat → Int32) (a_head_costs : Nat → Int32) (a_head_here : Nat → Int32) (a_head_joined : Nat → Int32) (a_head_laid : Nat → Int32) (Q : Int32 → Int32 → (Nat → Int32) → (Nat → Int32) → (Nat → Int32) → (Nat → Int32) → (Nat → Int32) → Prop) : Prop :=
  p_X5_measure f_tickCount f_head_places a_ticks a_alphabet_widths a_head_behind a_head_costs a_head_here a_head_joined a_head_laid 1 (fun r2 f_head_places_2 a_head_behind_2 a_head_costs_2 a_head_here_2 a_head_joined_2 a_head_laid_2 => p_X5_measure f_tickCount f_head_places_2 a_ticks a_alphabet_widths a_head_behind_2 a_head_costs_2 a_head_here_2 a_head_joined_2 a_head_laid_2 0 (fun r8 f_head_places_8 a_head_behind_8 a_head_costs_8 a_head_here_8 a_head_joined_8 a_head_laid_8 => (r2 < r8 → p_X5_measure f_tickCount f_head_places_8 a_ticks a_alphabet_widths a_head_behind_8 a_head_costs_8 a_head_here_8 a_head_joined_8 a_head_laid_8 1 (fun r21 f_head_places_21 a_head_behind_21 a_head_costs_21 a_head_here_21 a_head_joined_21 a_head_laid_21 => (narrow .boolean (.int 1) = .int 1) ∧ Q 1 f_head_places_21 a_head_behind_21 a_head_costs_21 a_head_here_21 a_head_joined_21 a_head_laid_21)) ∧ (¬ r2 < r8 → (narrow .boolean (.int 0) = .int 0) ∧ Q 0 f_head_places_8 a_head_behind_8 a_head_costs_8 a_head_here_8 a_head_joined_8 a_head_laid_8)))

def p_X5_read_J29 (f_tickCount : Int32) (f_head_places : Int32) (f_reading_places : Int32) (f_reading_cost : Int32) (f_reading_gap : Int32) (f_reading_turned : Int32) (f_reading_strangers : Int32) (f_reading_checkSum : Int32) (a_head_before : Nat → Int32) (a_head_behind : Nat → Int32) (a_head_costs : Nat → Int32) (a_head_here : Nat → Int32) (a_head_joined : Nat → Int32) (a_head_laid : Nat → Int32) (a_reading_signs : Nat → Int32) (a_reading_speeds : Nat → Int32) (Q : Int32 → Int32 → Int32 → Int32 → Int32 → Int32 → Int32 → Int32 → Int32 → (Nat → Int32) → (Nat → Int32) → (Nat → Int32) → (Nat → Int32) → (Nat → Int32) → (Nat → Int32) → (Nat → Int32) → (Nat → Int32) → Prop) : Prop :=
  Q (-2) f_tickCount f_head_places f_reading_places f_reading_cost f_reading_gap f_reading_turned f_reading_strangers f_reading_checkSum a_head_before a_head_behind a_head_costs a_head_here a_head_joined a_head_laid a_reading_signs a_reading_speeds
def p_X5_read (f_tickCount : Int32) (f_alphabet_taught : Int32) (f_head_places : Int32) (f_reading_places : Int32) (f_reading_cost : Int32) (f_reading_gap : Int32) (f_reading_turned : Int32) (f_reading_strangers : Int32) (f_reading_checkSum : Int32) (a_ticks : Nat → Int32) (a_alphabet_widths : Nat → Int32) (a_head_before : Nat → Int32) (a_head_behind : Nat → Int32) (a_head_costs : Nat → Int32) (a_head_here : Nat → Int32) (a_head_joined : Nat → Int32) (a_head_laid : Nat → Int32) (a_reading_signs : Nat → Int32) (a_reading_speeds : Nat → Int32) (Q : Int32 → Int32 → Int32 → Int32 → Int32 → Int32 → Int32 → Int32 → Int32 → (Nat → Int32) → (Nat → Int32) → (Nat → Int32) → (Nat → Int32) → (Nat → Int32) → (Nat → Int32) → (Nat → Int32) → (Nat → Int32) → Prop) : Prop :=
  p_X0_isComplete f_alphabet_taught (fun r4 => (¬ r4 = 0 → (f_tickCount = 0 → p_X5_read_J29 f_tickCount f_head_places f_reading_places f_reading_cost f_reading_gap f_reading_turned f_reading_strangers f_reading_checkSum a_head_before a_head_behind a_head_costs a_head_here a_head_joined a_head_laid a_reading_signs a_reading_speeds Q) ∧ (¬ f_tickCount = 0 → ((jrem f_tickCount 6) = 0 → p_X5_layTheCheaperWay f_tickCount f_head_places a_ticks a_alphabet_widths a_head_behind a_head_costs a_head_here a_head_joined a_head_laid (fun r33 f_head_places_33 a_head_behind_33 a_head_costs_33 a_head_here_33 a_head_joined_33 a_head_laid_33 => p_X1_leastCost a_head_behind_33 a_head_here_33 (fun r52 => p_X3_begin f_reading_places f_reading_cost f_reading_turned (f_tickCount / 6) r52 r33 (fun f_reading_places_56 f_reading_cost_56 f_reading_turned_56 => p_X1_pickSigns f_head_places_33 a_head_before a_head_behind_33 a_head_costs_33 a_head_joined_33 a_reading_signs f_reading_cost_56 (fun a_head_before_77 a_head_joined_77 a_reading_signs_77 => p_X1_leastCostBeside f_head_places_33 a_head_before_77 a_head_behind_33 a_head_costs_33 a_head_here_33 a_head_joined_77 a_reading_signs_77 (fun r95 a_head_before_95 a_head_joined_95 => p_X1_pickSpeeds f_head_places_33 a_head_behind_33 a_head_costs_33 a_head_here_33 a_head_joined_95 a_reading_signs_77 a_reading_speeds f_reading_cost_56 (fun a_head_behind_134 a_head_here_134 a_head_joined_134 a_reading_speeds_134 => p_X3_checkLine f_reading_places_56 f_reading_strangers f_reading_checkSum a_reading_signs_77 (fun f_reading_strangers_141 f_reading_checkSum_141 => Q f_reading_cost_56 0 f_head_places_33 f_reading_places_56 f_reading_cost_56 (r95 - f_reading_cost_56) f_reading_turned_56 f_reading_strangers_141 f_reading_checkSum_141 a_head_before_95 a_head_behind_134 a_head_costs_33 a_head_here_134 a_head_joined_134 a_head_laid_33 a_reading_signs_77 a_reading_speeds_134)))))))) ∧ (¬ (jrem f_tickCount 6) = 0 → p_X5_read_J29 f_tickCount f_head_places f_reading_places f_reading_cost f_reading_gap f_reading_turned f_reading_strangers f_reading_checkSum a_head_before a_head_behind a_head_costs a_head_here a_head_joined a_head_laid a_reading_signs a_reading_speeds Q))) ∧ (r4 = 0 → Q (-1) f_tickCount f_head_places f_reading_places f_reading_cost f_reading_gap f_reading_turned f_reading_strangers f_reading_checkSum a_head_before a_head_behind a_head_costs a_head_here a_head_joined a_head_laid a_reading_signs a_reading_speeds))

def p_X5_others (f_reading_places : Int32) (f_reading_strangers : Int32) (f_reading_checkSum : Int32) (a_reading_signs : Nat → Int32) (Q : Int32 → Prop) : Prop :=
  p_X3_countOthers f_reading_places f_reading_strangers f_reading_checkSum a_reading_signs (fun r4 => Q r4)

def p_X5_choose (f_head_places : Int32) (f_reading_places : Int32) (f_reading_cost : Int32) (f_reading_gap : Int32) (f_reading_strangers : Int32) (f_reading_checkSum : Int32) (a_head_behind : Nat → Int32) (a_head_costs : Nat → Int32) (a_head_here : Nat → Int32) (a_head_joined : Nat → Int32) (a_reading_signs : Nat → Int32) (x1 : Int32) (Q : Int32 → Int32 → Int32 → Int32 → Int32 → (Nat → Int32) → (Nat → Int32) → (Nat → Int32) → (Nat → Int32) → Prop) : Prop :=
  p_X3_findOther f_reading_places f_reading_strangers f_reading_checkSum a_reading_signs x1 (fun r5 => (¬ r5 = (-1) → p_X1_leastCostWith f_head_places a_head_behind a_head_costs a_head_here a_head_joined a_reading_signs (r5 / 12) (jrem r5 12) (fun r48 a_head_behind_48 a_head_here_48 a_head_joined_48 => p_X3_become f_reading_places f_reading_cost f_reading_gap f_reading_strangers f_reading_checkSum a_reading_signs (r5 / 12) (jrem r5 12) r48 (fun f_reading_cost_51 f_reading_gap_51 f_reading_strangers_51 f_reading_checkSum_51 a_reading_signs_51 => Q 1 f_reading_cost_51 f_reading_gap_51 f_reading_strangers_51 f_reading_checkSum_51 a_head_behind_48 a_head_here_48 a_head_joined_48 a_reading_signs_51))) ∧ (r5 = (-1) → Q 0 f_reading_cost f_reading_gap f_reading_strangers f_reading_checkSum a_head_behind a_head_here a_head_joined a_reading_signs))

def p_X5_twin_J25 (Q : Int32 → Prop) (s0 : Int32) : Prop :=
  Q s0
def p_X5_twin (f_ledger_papers : Int32) (f_reading_places : Int32) (f_reading_strangers : Int32) (f_reading_checkSum : Int32) (a_ledger_accounts : Nat → Int32) (a_ledger_banks : Nat → Int32) (a_ledger_numbers : Nat → Int32) (a_reading_signs : Nat → Int32) (Q : Int32 → Prop) : Prop :=
  p_X3_fits f_reading_places f_reading_strangers f_reading_checkSum (fun r4 => (r4 = 0 → p_X5_twin_J25 Q (-1)) ∧ (¬ r4 = 0 → p_X2_findTwin f_ledger_papers a_ledger_accounts a_ledger_banks a_ledger_numbers a_reading_signs (fun r18 => p_X5_twin_J25 Q r18)))

def p_X5_count (f_tickCount : Int32) (f_alphabet_taught : Int32) (f_ledger_batches : Int32) (f_ledger_papers : Int32) (x1 : Int32) (Q : Int32 → Prop) : Prop :=
  (x1 = 0 → Q f_alphabet_taught) ∧ (x1 = 1 → Q f_tickCount) ∧ (x1 = 2 → Q f_ledger_batches) ∧ (x1 = 3 → Q f_ledger_papers) ∧ (¬ x1 = 0 → ¬ x1 = 1 → ¬ x1 = 2 → ¬ x1 = 3 → Q (-1))
