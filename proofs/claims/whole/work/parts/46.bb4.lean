/-! counts of bits 4 -/
theorem bcs3 {a b : Nat} (ha : a < 256) (hb : b < 256) : bc3 (256 * b + a) = 256 * bc3 b + bc3 a := by
  have ga := bcf3 a ha
  have gb := bcf3 b hb
  unfold bc3
  rw [bcs2 ha hb]
  generalize hA : bc2 a = A at *
  generalize hB : bc2 b = B at *
  have e := and_sp (i := 8) (a := B + B / 16) (b := 16 * (B % 16) + A + A / 16) (a' := 986895) (b' := 15) (by omega) (by decide)
  rw [show 2 ^ 8 * (B + B / 16) + (16 * (B % 16) + A + A / 16) = 256 * B + A + (256 * B + A) / 16 by omega, show 2 ^ 8 * 986895 + 15 = 252645135 from rfl] at e
  have fa := bcf4 A (by omega) (B % 16) (by omega) ga.2
  have fb := bcf4 B (by omega) 0 (by omega) gb.2
  rw [e, fa.1, fb.2]

