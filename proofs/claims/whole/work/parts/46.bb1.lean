/-! counts of bits 1 -/
theorem bcf1 : ∀ a, a < 256 → (a / 2 &&& 85) = (a / 2 &&& 1431655765) ∧ (a &&& 11184810) = 2 * (a / 2 &&& 1431655765) ∧ bc1 a < 256 ∧ (a / 2 &&& 1431655765) ≤ a := by decide +kernel
theorem bcf2 : ∀ a, a < 256 → (a &&& 51) = (a &&& 858993459) ∧ (a / 4 &&& 51) = (a / 4 &&& 858993459) ∧ (a &&& 3355443) = (a &&& 858993459) ∧ (a &&& 13421772) = 4 * (a / 4 &&& 858993459) := by decide +kernel
theorem bcf3 : ∀ a, a < 256 → bc2 a ≤ 68 ∧ bc2 a % 16 ≤ 4 := by decide +kernel
theorem bcf4 : ∀ a, a < 69 → ∀ l, l < 5 → a % 16 ≤ 4 → ((16 * l + a + a / 16) &&& 15) = ((a + a / 16) &&& 252645135) ∧ ((a + a / 16) &&& 986895) = ((a + a / 16) &&& 252645135) := by decide +kernel
def pc8 (x : Nat) : Nat := x % 2 + x / 2 % 2 + x / 4 % 2 + x / 8 % 2 + x / 16 % 2 + x / 32 % 2 + x / 64 % 2 + x / 128 % 2
theorem bcf5 : ∀ a, a < 256 → bc3 a = pc8 a ∧ bc3 a ≤ 8 := by decide +kernel
theorem bcf6 : ∀ a, a < 17 → (a &&& 63) = a := by decide +kernel

