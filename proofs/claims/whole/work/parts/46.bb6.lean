/-! counts of bits 6 -/
theorem tbn (x i : Nat) : (if x.testBit i then 1 else 0) = x / 2 ^ i % 2 := by
  rw [Nat.testBit_eq_decide_div_mod_eq]
  have : x / 2 ^ i % 2 < 2 := Nat.mod_lt _ (by omega)
  by_cases q : x / 2 ^ i % 2 = 1
  · simp [q]
  · have q0 : x / 2 ^ i % 2 = 0 := by omega
    simp [q0]
theorem pcN_s (x k : Nat) : pcN x (k + 1) = pcN x k + x / 2 ^ k % 2 := by
  rw [← tbn]; rfl
theorem pcs_pc (x : Nat) : pcs x = pcN x 16 := by
  rw [pcN_s, pcN_s, pcN_s, pcN_s, pcN_s, pcN_s, pcN_s, pcN_s, pcN_s, pcN_s, pcN_s, pcN_s, pcN_s, pcN_s, pcN_s, pcN_s]
  unfold pcs
  rw [show pcN x 0 = 0 from rfl, Nat.zero_add, Nat.pow_zero, Nat.div_one]
theorem bc_pc {x : Nat} (hx : x < 65536) : bc5 x &&& 63 = pcN x 16 := (bc_pcs hx).trans (pcs_pc x)

