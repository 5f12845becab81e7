theorem my_tout3 {x : Int32} (h0 : ¬ x = 0) (h1 : ¬ x = 1) (h2 : ¬ x = 2) : x.toInt < 0 ∨ 2 < x.toInt := by
  have k0 : ¬ x.toInt = 0 := fun e => h0 (Int32.toInt_inj.mp (by rw [e]; rfl))
  have k1 : ¬ x.toInt = 1 := fun e => h1 (Int32.toInt_inj.mp (by rw [e]; rfl))
  have k2 : ¬ x.toInt = 2 := fun e => h2 (Int32.toInt_inj.mp (by rw [e]; rfl))
  omega
theorem my_tout4 {x : Int32} (h0 : ¬ x = 0) (h1 : ¬ x = 1) (h2 : ¬ x = 2) (h3 : ¬ x = 3) : x.toInt < 0 ∨ 3 < x.toInt := by
  have k0 : ¬ x.toInt = 0 := fun e => h0 (Int32.toInt_inj.mp (by rw [e]; rfl))
  have k1 : ¬ x.toInt = 1 := fun e => h1 (Int32.toInt_inj.mp (by rw [e]; rfl))
  have k2 : ¬ x.toInt = 2 := fun e => h2 (Int32.toInt_inj.mp (by rw [e]; rfl))
  have k3 : ¬ x.toInt = 3 := fun e => h3 (Int32.toInt_inj.mp (by rw [e]; rfl))
  omega
theorem my_tout5 {x : Int32} (h0 : ¬ x = 0) (h1 : ¬ x = 1) (h2 : ¬ x = 2) (h3 : ¬ x = 3) (h4 : ¬ x = 4) : x.toInt < 0 ∨ 4 < x.toInt := by
  have k0 : ¬ x.toInt = 0 := fun e => h0 (Int32.toInt_inj.mp (by rw [e]; rfl))
  have k1 : ¬ x.toInt = 1 := fun e => h1 (Int32.toInt_inj.mp (by rw [e]; rfl))
  have k2 : ¬ x.toInt = 2 := fun e => h2 (Int32.toInt_inj.mp (by rw [e]; rfl))
  have k3 : ¬ x.toInt = 3 := fun e => h3 (Int32.toInt_inj.mp (by rw [e]; rfl))
  have k4 : ¬ x.toInt = 4 := fun e => h4 (Int32.toInt_inj.mp (by rw [e]; rfl))
  omega
theorem my_tout17 {x : Int32} (h0 : ¬ x = 0) (h1 : ¬ x = 1) (h2 : ¬ x = 2) (h3 : ¬ x = 3) (h4 : ¬ x = 4) (h5 : ¬ x = 5) (h6 : ¬ x = 6) (h7 : ¬ x = 7) (h8 : ¬ x = 8) (h9 : ¬ x = 9) (h10 : ¬ x = 10) (h11 : ¬ x = 11) (h12 : ¬ x = 12) (h13 : ¬ x = 13) (h14 : ¬ x = 14) (h15 : ¬ x = 15) (h16 : ¬ x = 16) : x.toInt < 0 ∨ 16 < x.toInt := by
  have k0 : ¬ x.toInt = 0 := fun e => h0 (Int32.toInt_inj.mp (by rw [e]; rfl))
  have k1 : ¬ x.toInt = 1 := fun e => h1 (Int32.toInt_inj.mp (by rw [e]; rfl))
  have k2 : ¬ x.toInt = 2 := fun e => h2 (Int32.toInt_inj.mp (by rw [e]; rfl))
  have k3 : ¬ x.toInt = 3 := fun e => h3 (Int32.toInt_inj.mp (by rw [e]; rfl))
  have k4 : ¬ x.toInt = 4 := fun e => h4 (Int32.toInt_inj.mp (by rw [e]; rfl))
  have k5 : ¬ x.toInt = 5 := fun e => h5 (Int32.toInt_inj.mp (by rw [e]; rfl))
  have k6 : ¬ x.toInt = 6 := fun e => h6 (Int32.toInt_inj.mp (by rw [e]; rfl))
  have k7 : ¬ x.toInt = 7 := fun e => h7 (Int32.toInt_inj.mp (by rw [e]; rfl))
  have k8 : ¬ x.toInt = 8 := fun e => h8 (Int32.toInt_inj.mp (by rw [e]; rfl))
  have k9 : ¬ x.toInt = 9 := fun e => h9 (Int32.toInt_inj.mp (by rw [e]; rfl))
  have k10 : ¬ x.toInt = 10 := fun e => h10 (Int32.toInt_inj.mp (by rw [e]; rfl))
  have k11 : ¬ x.toInt = 11 := fun e => h11 (Int32.toInt_inj.mp (by rw [e]; rfl))
  have k12 : ¬ x.toInt = 12 := fun e => h12 (Int32.toInt_inj.mp (by rw [e]; rfl))
  have k13 : ¬ x.toInt = 13 := fun e => h13 (Int32.toInt_inj.mp (by rw [e]; rfl))
  have k14 : ¬ x.toInt = 14 := fun e => h14 (Int32.toInt_inj.mp (by rw [e]; rfl))
  have k15 : ¬ x.toInt = 15 := fun e => h15 (Int32.toInt_inj.mp (by rw [e]; rfl))
  have k16 : ¬ x.toInt = 16 := fun e => h16 (Int32.toInt_inj.mp (by rw [e]; rfl))
  omega
