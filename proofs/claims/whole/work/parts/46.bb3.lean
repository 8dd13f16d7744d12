/-! counts of bits 3 -/
theorem bcs2 {a b : Nat} (ha : a < 256) (hb : b < 256) : bc2 (256 * b + a) = 256 * bc2 b + bc2 a := by
  have ga := (bcf1 a ha).2.2.1
  have gb := (bcf1 b hb).2.2.1
  have e1 := and_sp (i := 8) (a := bc1 b) (b := bc1 a) (a' := 3355443) (b' := 51) (by omega) (by decide)
  have e2 := and_sp (i := 6) (a := bc1 b) (b := bc1 a / 4) (a' := 13421772) (b' := 51) (by omega) (by decide)
  rw [show 2 ^ 8 * bc1 b + bc1 a = 256 * bc1 b + bc1 a from rfl, show 2 ^ 8 * 3355443 + 51 = 858993459 from rfl] at e1
  rw [show 2 ^ 6 * bc1 b + bc1 a / 4 = (256 * bc1 b + bc1 a) / 4 by omega, show 2 ^ 6 * 13421772 + 51 = 858993459 from rfl] at e2
  have fa := bcf2 _ ga
  have fb := bcf2 _ gb
  unfold bc2
  rw [bcs1 ha hb, e1, e2, fb.2.2.1, fa.1, fb.2.2.2, fa.2.1]
  omega

