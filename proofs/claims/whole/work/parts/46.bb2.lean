/-! counts of bits 2 -/
theorem bcs1 {a b : Nat} (ha : a < 256) (hb : b < 256) : bc1 (256 * b + a) = 256 * bc1 b + bc1 a := by
  have e := and_sp (i := 7) (a := b) (b := a / 2) (a' := 11184810) (b' := 85) (by omega) (by decide)
  rw [show 2 ^ 7 * b + a / 2 = (256 * b + a) / 2 by omega, show 2 ^ 7 * 11184810 + 85 = 1431655765 from rfl] at e
  have fa := bcf1 a ha
  have fb := bcf1 b hb
  unfold bc1
  rw [e, fb.2.1, fa.1]
  omega

