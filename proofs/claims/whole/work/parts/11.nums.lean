theorem n_tm {x y : Int} (hy : 0 < y) : x.tmod y = if 0 ≤ x ∨ x % y = 0 then x % y else x % y - y := by
  rw [Int.tmod_eq_emod]
  by_cases h : 0 ≤ x
  · simp [h]
  · by_cases h2 : x % y = 0
    · have : y ∣ x := Int.dvd_of_emod_eq_zero h2
      simp [h2, this]
    · have : ¬ y ∣ x := fun q => h2 (Int.emod_eq_zero_of_dvd q)
      rw [if_neg (by simp [h, this]), if_neg (by simp [h, h2])]
      omega
theorem n_td {x y : Int} (hy : 0 < y) : x.tdiv y = if 0 ≤ x ∨ x % y = 0 then x / y else x / y + 1 := by
  rw [Int.tdiv_eq_ediv]
  by_cases h : 0 ≤ x
  · simp [h]
  · by_cases h2 : x % y = 0
    · have : y ∣ x := Int.dvd_of_emod_eq_zero h2
      simp [h2, this]
    · have : ¬ y ∣ x := fun q => h2 (Int.emod_eq_zero_of_dvd q)
      rw [if_neg (by simp [h, this]), if_neg (by simp [h, h2]), Int.sign_eq_one_of_pos hy]
theorem n_xs {x y : Int} (h1 : InI x) (h2 : InI y) (hy : 0 < y) : ((iI x ^^^ iI y).toInt < 0) ↔ x < 0 := by
  have e1 : (iI x).toBitVec.msb = decide (x < 0) := by
    rw [BitVec.msb_eq_toInt]
    show decide ((iI x).toInt < 0) = _
    rw [iI_t h1]
  have e2 : (iI y).toBitVec.msb = false := by
    rw [BitVec.msb_eq_toInt]
    show decide ((iI y).toInt < 0) = _
    rw [iI_t h2]
    simp; omega
  have e3 : (iI x ^^^ iI y).toBitVec.msb = decide ((iI x ^^^ iI y).toInt < 0) := BitVec.msb_eq_toInt
  rw [Int32.toBitVec_xor, BitVec.msb_xor, e1, e2] at e3
  simpa using e3.symm
theorem n_mul {m y : Int} (h1 : -50 ≤ m) (h2 : m ≤ 50) (h3 : -3000 ≤ y) (h4 : y ≤ 3000) : -150000 ≤ m * y ∧ m * y ≤ 150000 := by
  have e1 : 0 ≤ (50 - m) * (3000 + y) := Int.mul_nonneg (by omega) (by omega)
  have e2 : 0 ≤ (50 + m) * (3000 - y) := Int.mul_nonneg (by omega) (by omega)
  have e3 : 0 ≤ (50 - m) * (3000 - y) := Int.mul_nonneg (by omega) (by omega)
  have e4 : 0 ≤ (50 + m) * (3000 + y) := Int.mul_nonneg (by omega) (by omega)
  simp only [Int.sub_mul, Int.add_mul, Int.mul_sub, Int.mul_add] at e1 e2 e3 e4
  omega
theorem n_abs (x : Int) : (0 ≤ x ∧ zabs x = x) ∨ (x < 0 ∧ zabs x = -x) := by unfold zabs; split <;> omega
theorem n_abs0 (x : Int) : 0 ≤ zabs x := by rcases n_abs x with h | h <;> omega
theorem n_absb {x b : Int} (h1 : -b ≤ x) (h2 : x ≤ b) : 0 ≤ zabs x ∧ zabs x ≤ b := by rcases n_abs x with h | h <;> omega
theorem n_sLess {least kind x y more : Int} (h : 0 ≤ least ∧ least ≤ 1048576) (h1 : 0 ≤ x) (h2 : 0 ≤ y) (h3 : 0 ≤ more) (h4 : 0 ≤ kind) : 0 ≤ sLess least kind x y more ∧ sLess least kind x y more ≤ 1048576 := by
  unfold sLess; split <;> (try split) <;> omega
theorem n_sRank (d w v : Int) : 0 ≤ sRank d w v ∧ sRank d w v ≤ 1048576 := by
  unfold sRank
  refine n_sLess (n_sLess (n_sLess (n_sLess (n_sLess (by omega) ?_ ?_ ?_ ?_) ?_ ?_ ?_ ?_) ?_ ?_ ?_ ?_) ?_ ?_ ?_ ?_) ?_ ?_ ?_ ?_ <;> first | exact n_abs0 _ | omega
theorem n_way (f t : Int) : -10800 ≤ sWay f t ∧ sWay f t ≤ 10799 := by unfold sWay; omega
theorem n_sky (a : pw_H) (s y : Int) : 0 ≤ sSky a s y ∧ sSky a s y ≤ 21599 := by unfold sSky; omega
