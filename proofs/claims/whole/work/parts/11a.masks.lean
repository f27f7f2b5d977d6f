set_option maxRecDepth 100000 in
theorem b_mask8 : ∀ Z : Nat, Z < 256 → ∀ T : Nat, T < 256 → iI T &&& iI (-1 - (Z : Int)) = iI ((T &&& (255 ^^^ Z) : Nat) : Int) := by decide +kernel
set_option maxRecDepth 100000 in
theorem b_sub8 : ∀ Z : Nat, Z < 256 → ∀ T : Nat, T < 256 → (T &&& (255 ^^^ Z) = 0 ↔ T &&& Z = T) := by decide +kernel
