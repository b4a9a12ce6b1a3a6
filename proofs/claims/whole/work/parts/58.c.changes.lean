theorem ckc_4 : ∀ a : Nat, a < 25 → ∀ b : Nat, b < 25 → ckc 4 (25 * a + b) = true := by decide +kernel
theorem cs_4 : cs 4 25 25 0 ≤ 120 := by decide +kernel
