theorem b_and (a b : Nat) : iI a &&& iI b = iI ((a &&& b : Nat) : Int) := by
  rw [← iI_nat, ← iI_nat, ← iI_nat]
  apply Int32.toBitVec_inj.mp
  exact (BitVec.ofNat_and (x := a) (y := b)).symm
theorem b_or (a b : Nat) : iI a ||| iI b = iI ((a ||| b : Nat) : Int) := by
  rw [← iI_nat, ← iI_nat, ← iI_nat]
  apply Int32.toBitVec_inj.mp
  exact (BitVec.ofNat_or (x := a) (y := b)).symm
theorem b_xor (a b : Nat) : iI a ^^^ iI b = iI ((a ^^^ b : Nat) : Int) := by
  rw [← iI_nat, ← iI_nat, ← iI_nat]
  apply Int32.toBitVec_inj.mp
  exact (BitVec.ofNat_xor (x := a) (y := b)).symm
theorem b_shl8 : ∀ s : Nat, s < 9 → iI 1 <<< (iI s &&& 31) = iI ((2 ^ s : Nat) : Int) := by decide +kernel
theorem b_not8 : ∀ Z : Nat, Z < 256 → iI Z ^^^ iI (-1) = iI (-1 - (Z : Int)) := by decide +kernel
theorem l_i2l {z : Int} (h : InI z) : (iI z).toInt64 = lI z := by
  apply Int64.toInt_inj.mp
  rw [Int32.toInt_toInt64, iI_t h, lI_t ⟨by omega, by omega⟩]
theorem l_l2i (z : Int) : (lI z).toInt32 = iI z := Int64.toInt32_ofInt
theorem l_nat (n : Nat) : Int64.ofNat n = lI (n : Int) := (Int64.ofInt_eq_ofNat (n := n)).symm
theorem l_cnt : ∀ k : Nat, k < 64 → ((iI (k : Int)).toInt64 &&& 63) = lI (k : Int) := by decide +kernel
theorem l_sm : ∀ k : Nat, k < 64 → ((lI (k : Int)).toBitVec.smod 64) = BitVec.ofNat 64 k := by decide +kernel
theorem l_shl (n : Nat) {k : Nat} (hk : k < 64) : lI (n : Int) <<< ((iI (k : Int)).toInt64 &&& 63) = lI ((n * 2 ^ k : Nat) : Int) := by
  rw [l_cnt k hk]
  apply Int64.toBitVec_inj.mp
  rw [Int64.toBitVec_shiftLeft, l_sm k hk, ← l_nat, ← l_nat]
  apply BitVec.eq_of_toNat_eq
  show (BitVec.ofNat 64 n <<< BitVec.ofNat 64 k).toNat = (BitVec.ofNat 64 (n * 2 ^ k)).toNat
  rw [BitVec.shiftLeft_eq', BitVec.toNat_shiftLeft, BitVec.toNat_ofNat, BitVec.toNat_ofNat, BitVec.toNat_ofNat, Nat.mod_eq_of_lt (show k < 2 ^ 64 by omega), Nat.shiftLeft_eq, Nat.mul_mod, Nat.mod_mod, ← Nat.mul_mod]
theorem l_shr {x : Int} (hx : InL x) (h0 : 0 ≤ x) {k : Nat} (hk : k < 64) : lI x >>> ((iI (k : Int)).toInt64 &&& 63) = lI (x / 2 ^ k) := by
  rw [l_cnt k hk]
  have hp : 0 < (2 : Int) ^ k := Int.pow_pos (by decide)
  have h1 : 0 ≤ x / 2 ^ k := Int.ediv_nonneg h0 (Int.le_of_lt hp)
  have h2 : x / 2 ^ k ≤ x := Int.ediv_le_self _ h0
  apply Int64.toInt_inj.mp
  have e : (lI x >>> lI (k : Int)).toInt = (lI x).toInt >>> k := by
    have hs : ((lI (k : Int)).toBitVec.smod 64).toNat = k := by rw [l_sm k hk, BitVec.toNat_ofNat, Nat.mod_eq_of_lt (by omega)]
    conv => rhs; rw [← hs]
    exact BitVec.toInt_sshiftRight ..
  rw [e, Int.shiftRight_eq_div_pow, lI_t hx, lI_t ⟨by omega, by omega⟩, Int.natCast_pow]
  rfl
theorem b_and15 (x : Int) : iI x &&& iI 15 = iI (x % 16) := by
  have h := b_and (x % 4294967296).toNat 15
  have e : iI (((x % 4294967296).toNat : Nat) : Int) = iI x := by
    rw [Int.toNat_of_nonneg (by omega)]
    unfold iI
    apply Int32.toInt_inj.mp
    rw [Int32.toInt_ofInt, Int32.toInt_ofInt]
    exact Int.emod_bmod x 4294967296
  rw [e] at h
  rw [show iI 15 = iI ((15 : Nat) : Int) from rfl, h]
  have e2 : (x % 4294967296).toNat &&& 15 = (x % 4294967296).toNat % 16 := Nat.and_two_pow_sub_one_eq_mod _ 4
  rw [e2]
  congr 1
  omega
