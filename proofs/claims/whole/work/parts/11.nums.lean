theorem n_tm {x y : Int} (hy : 0 < y) : x.tmod y = if 0 ≤ x ∨ x % y = 0 then x % y else x % y - y := by
  rw [Int.tmod_eq_emod]
  by_cases h : 0 ≤ x
  · simp [h]
  · by_cases h2 : x % y = 0
    · have : y ∣ x := Int.dvd_of_emod_eq_zero h2
      simp [h2, this]
    · have : ¬ y ∣ x := fun q => h2 (Int.emod_eq_zero_of_dvd q)
      rw [if_neg (by simp [h, this]), if_neg (by simp [h, h2])]
      omega
theorem n_td {x y : Int} (hy : 0 < y) : x.tdiv y = if 0 ≤ x ∨ x % y = 0 then x / y else x / y + 1 := by
  rw [Int.tdiv_eq_ediv]
  by_cases h : 0 ≤ x
  · simp [h]
  · by_cases h2 : x % y = 0
    · have : y ∣ x := Int.dvd_of_emod_eq_zero h2
      simp [h2, this]
    · have : ¬ y ∣ x := fun q => h2 (Int.emod_eq_zero_of_dvd q)
      rw [if_neg (by simp [h, this]), if_neg (by simp [h, h2]), Int.sign_eq_one_of_pos hy]
theorem n_xs {x y : Int} (h1 : InI x) (h2 : InI y) (hy : 0 < y) : ((iI x ^^^ iI y).toInt < 0) ↔ x < 0 := by
  have e1 : (iI x).toBitVec.msb = decide (x < 0) := by
    rw [BitVec.msb_eq_toInt]
    show decide ((iI x).toInt < 0) = _
    rw [iI_t h1]
  have e2 : (iI y).toBitVec.msb = false := by
    rw [BitVec.msb_eq_toInt]
    show decide ((iI y).toInt < 0) = _
    rw [iI_t h2]
    simp; omega
  have e3 : (iI x ^^^ iI y).toBitVec.msb = decide ((iI x ^^^ iI y).toInt < 0) := BitVec.msb_eq_toInt
  rw [Int32.toBitVec_xor, BitVec.msb_xor, e1, e2] at e3
  simpa using e3.symm
