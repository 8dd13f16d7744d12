/-! counts of bits 5 -/
theorem bc_pcs {x : Nat} (hx : x < 65536) : bc5 x &&& 63 = pcs x := by
  have e := bcs3 (a := x % 256) (b := x / 256) (by omega) (by omega)
  rw [show 256 * (x / 256) + x % 256 = x by omega] at e
  have fa := bcf5 (x % 256) (by omega)
  have fb := bcf5 (x / 256) (by omega)
  generalize hA : bc3 (x % 256) = A at *
  generalize hB : bc3 (x / 256) = B at *
  have e5 : bc5 x = 256 * B + (A + B) := by unfold bc5 bc4; rw [e]; omega
  have e6 := and_sp (i := 8) (a := B) (b := A + B) (a' := 0) (b' := 63) (by omega) (by decide)
  rw [Nat.and_zero, show 2 ^ 8 * 0 + 63 = 63 from rfl, show 2 ^ 8 * 0 = 0 from rfl, Nat.zero_add, show 2 ^ 8 * B + (A + B) = 256 * B + (A + B) from rfl, bcf6 (A + B) (by omega)] at e6
  rw [e5, e6, fa.1, fb.1]
  unfold pcs pc8
  have t0 : x % 256 % 2 = x % 2 := by omega
  have t1 : x % 256 / 2 % 2 = x / 2 % 2 := by omega
  have t2 : x % 256 / 4 % 2 = x / 4 % 2 := by omega
  have t3 : x % 256 / 8 % 2 = x / 8 % 2 := by omega
  have t4 : x % 256 / 16 % 2 = x / 16 % 2 := by omega
  have t5 : x % 256 / 32 % 2 = x / 32 % 2 := by omega
  have t6 : x % 256 / 64 % 2 = x / 64 % 2 := by omega
  have t7 : x % 256 / 128 % 2 = x / 128 % 2 := by omega
  have s1 : x / 256 / 2 = x / 512 := by omega
  have s2 : x / 256 / 4 = x / 1024 := by omega
  have s3 : x / 256 / 8 = x / 2048 := by omega
  have s4 : x / 256 / 16 = x / 4096 := by omega
  have s5 : x / 256 / 32 = x / 8192 := by omega
  have s6 : x / 256 / 64 = x / 16384 := by omega
  have s7 : x / 256 / 128 = x / 32768 := by omega
  rw [t0, t1, t2, t3, t4, t5, t6, t7, s1, s2, s3, s4, s5, s6, s7]
  simp only [Nat.add_assoc]

