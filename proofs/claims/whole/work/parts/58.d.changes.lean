theorem ckc_5 : ∀ a : Nat, a < 25 → ∀ b : Nat, b < 125 → ckc 5 (125 * a + b) = true := by decide +kernel
theorem cs_5 : cs 5 125 25 0 ≤ 120 := by decide +kernel
theorem ckc_all {B c : Nat} (hB : B ≤ 5) (hc : c < 5 ^ B) : ckc B c = true := by
  rcases (show B = 0 ∨ B = 1 ∨ B = 2 ∨ B = 3 ∨ B = 4 ∨ B = 5 by omega) with rfl | rfl | rfl | rfl | rfl | rfl
  · exact ckc_0 c hc
  · exact ckc_1 c hc
  · exact ckc_2 c hc
  · exact ckc_3 c hc
  · have q := ckc_4 (c / 25) (by have : c < 625 := hc; omega) (c % 25) (by omega)
    rw [Nat.div_add_mod] at q; exact q
  · have q := ckc_5 (c / 125) (by have : c < 3125 := hc; omega) (c % 125) (by omega)
    rw [Nat.div_add_mod] at q; exact q
theorem cv_all {B : Nat} (hB : B ≤ 5) : cv B (5 ^ B) 0 ≤ 120 := by
  rcases (show B = 0 ∨ B = 1 ∨ B = 2 ∨ B = 3 ∨ B = 4 ∨ B = 5 by omega) with rfl | rfl | rfl | rfl | rfl | rfl
  · have q := cs_0; rw [← cv_cs] at q; exact q
  · have q := cs_1; rw [← cv_cs] at q; exact q
  · have q := cs_2; rw [← cv_cs] at q; exact q
  · have q := cs_3; rw [← cv_cs] at q; exact q
  · have q := cs_4; rw [← cv_cs] at q; exact q
  · have q := cs_5; rw [← cv_cs] at q; exact q
