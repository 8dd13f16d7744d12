/-! bits of plain ints: sets as natural numbers -/
theorem oi_nat (n : Nat) : Int32.ofInt (n : Int) = nI n := Int32.ofInt_eq_ofNat
theorem ti_nat {n : Nat} (h : n < 2147483648) : (nI n).toInt = (n : Int) := nI_toInt h
theorem nI_bv (n : Nat) : (nI n).toBitVec = BitVec.ofNat 32 n := rfl
theorem nI_andN (a b : Nat) : nI a &&& nI b = nI (a &&& b) := by
  apply Int32.toBitVec_inj.mp
  rw [Int32.toBitVec_and, nI_bv, nI_bv, nI_bv]
  apply BitVec.eq_of_getLsbD_eq
  intro i hi
  simp [hi, Nat.testBit_and]
theorem nI_orN (a b : Nat) : nI a ||| nI b = nI (a ||| b) := by
  apply Int32.toBitVec_inj.mp
  rw [Int32.toBitVec_or, nI_bv, nI_bv, nI_bv]
  apply BitVec.eq_of_getLsbD_eq
  intro i hi
  simp [hi, Nat.testBit_or]
theorem nI_xorN (a b : Nat) : nI a ^^^ nI b = nI (a ^^^ b) := by
  apply Int32.toBitVec_inj.mp
  rw [Int32.toBitVec_xor, nI_bv, nI_bv, nI_bv]
  apply BitVec.eq_of_getLsbD_eq
  intro i hi
  simp [hi, Nat.testBit_xor]
theorem and_lt31 {a : Nat} (b : Nat) (h : a < 2147483648) : a &&& b < 2147483648 := Nat.lt_of_le_of_lt Nat.and_le_left h
theorem or_lt31 {a b : Nat} (h : a < 2147483648) (h2 : b < 2147483648) : a ||| b < 2147483648 := Nat.or_lt_two_pow (n := 31) h h2
theorem xor_lt31 {a b : Nat} (h : a < 2147483648) (h2 : b < 2147483648) : a ^^^ b < 2147483648 := Nat.xor_lt_two_pow (n := 31) h h2
theorem iand_n {a b : Nat} (h : a < 2147483648) : iand a b = ((a &&& b : Nat) : Int) := by
  unfold iand
  rw [oi_nat, oi_nat, nI_andN, ti_nat (and_lt31 b h)]
theorem iand_nr {a b : Nat} (h : b < 2147483648) : iand a b = ((a &&& b : Nat) : Int) := by
  unfold iand
  rw [oi_nat, oi_nat, nI_andN, ti_nat (Nat.lt_of_le_of_lt Nat.and_le_right h)]
theorem ior_n {a b : Nat} (h : a < 2147483648) (h2 : b < 2147483648) : ior a b = ((a ||| b : Nat) : Int) := by
  unfold ior
  rw [oi_nat, oi_nat, nI_orN, ti_nat (or_lt31 h h2)]
theorem ixor_n {a b : Nat} (h : a < 2147483648) (h2 : b < 2147483648) : ixor a b = ((a ^^^ b : Nat) : Int) := by
  unfold ixor
  rw [oi_nat, oi_nat, nI_xorN, ti_nat (xor_lt31 h h2)]
theorem sh31 : ∀ k, k < 32 → (nI k &&& 31).toBitVec.smod 32 = BitVec.ofNat 32 k := by decide +kernel
theorem ishl_n {a k : Nat} (hk : k < 32) (h : a * 2 ^ k < 2147483648) : ishl a k = ((a * 2 ^ k : Nat) : Int) := by
  unfold ishl
  rw [oi_nat, oi_nat, pk_shlN (nI k &&& 31) k (by rw [sh31 k hk, BitVec.toNat_ofNat]; exact Nat.mod_eq_of_lt (by omega)) (by omega), ti_nat h]
theorem ishr_n {a k : Nat} (h : a < 2147483648) (hk : k < 32) : ishr a k = ((a / 2 ^ k : Nat) : Int) := by
  unfold ishr
  rw [oi_nat, oi_nat, pk_shrN h (nI k &&& 31) k (by rw [sh31 k hk, BitVec.toNat_ofNat]; exact Nat.mod_eq_of_lt (by omega)), ti_nat (Nat.lt_of_le_of_lt (Nat.div_le_self _ _) h)]
theorem iand_1 (x : Int) : 0 ≤ iand x 1 ∧ iand x 1 ≤ 1 := by
  unfold iand
  have h := pk_andIn (Int32.ofInt x) (m := 1) 1 (by decide) (by decide)
  rw [vp_in_iff] at h
  rw [show Int32.ofInt 1 = 1 from rfl]
  have h1 := h.1
  have h2 := h.2
  omega
/-- the bit k of a set -/
theorem bit_n {a k : Nat} (h : a < 2147483648) (hk : k < 32) : iand (ishr a k) 1 = if a.testBit k then 1 else 0 := by
  rw [ishr_n h hk, show (1 : Int) = ((1 : Nat) : Int) from rfl, iand_n (Nat.lt_of_le_of_lt (Nat.div_le_self _ _) h)]
  have e : a / 2 ^ k &&& 1 = a / 2 ^ k % 2 := Nat.and_one_is_mod _
  rw [e]
  have t : a.testBit k = decide (a / 2 ^ k % 2 = 1) := by rw [Nat.testBit_eq_decide_div_mod_eq]
  rw [t]
  have : a / 2 ^ k % 2 < 2 := Nat.mod_lt _ (by omega)
  by_cases q : a / 2 ^ k % 2 = 1
  · rw [q]; simp
  · have q0 : a / 2 ^ k % 2 = 0 := by omega
    rw [q0]; simp
theorem ixor_m1 {b : Nat} (h : b < 2147483648) : ixor b (-1) = -(b : Int) - 1 := by
  unfold ixor
  rw [oi_nat]
  have e : nI b ^^^ Int32.ofInt (-1) = Int32.ofInt (-(b : Int) - 1) := by
    apply Int32.toBitVec_inj.mp
    rw [Int32.toBitVec_xor, nI_bv, Int32.toBitVec_ofInt, Int32.toBitVec_ofInt]
    have h1 : BitVec.ofInt 32 (-1) = BitVec.allOnes 32 := by decide
    rw [h1, BitVec.xor_allOnes]
    apply BitVec.eq_of_toInt_eq
    rw [BitVec.toInt_not, BitVec.toInt_ofInt]
    have : (BitVec.ofNat 32 b).toNat = b := by rw [BitVec.toNat_ofNat]; exact Nat.mod_eq_of_lt (by omega)
    rw [this]
    exact oi_bmod (by omega)
  rw [e, oi_to ⟨by omega, by omega⟩]
def nandn (a b : Nat) : Nat := a &&& (b ^^^ 2147483647)
theorem nandn_tb {a b : Nat} (ha : a < 2147483648) (i : Nat) : (nandn a b).testBit i = (a.testBit i && !b.testBit i) := by
  unfold nandn
  rw [Nat.testBit_and, Nat.testBit_xor]
  by_cases hi : i < 31
  · have : (2147483647 : Nat).testBit i = true := by
      rw [show (2147483647 : Nat) = 2 ^ 31 - 1 from rfl, Nat.testBit_two_pow_sub_one]
      simp [hi]
    rw [this]; simp
  · have : a.testBit i = false := Nat.testBit_lt_two_pow (Nat.lt_of_lt_of_le ha (Nat.pow_le_pow_right (by omega : 0 < 2) (by omega : 31 ≤ i)))
    rw [this]; simp
theorem iandn_n {a b : Nat} (ha : a < 2147483648) (hb : b < 2147483648) : iand a (ixor b (-1)) = ((nandn a b : Nat) : Int) := by
  rw [ixor_m1 hb]
  unfold iand
  have e : nI a &&& Int32.ofInt (-(b : Int) - 1) = nI (nandn a b) := by
    apply Int32.toBitVec_inj.mp
    rw [Int32.toBitVec_and, nI_bv, nI_bv, Int32.toBitVec_ofInt]
    apply BitVec.eq_of_getLsbD_eq
    intro i hi
    have h2 : BitVec.ofInt 32 (-(b : Int) - 1) = ~~~ BitVec.ofNat 32 b := by
      apply BitVec.eq_of_toInt_eq
      rw [BitVec.toInt_not, BitVec.toInt_ofInt]
      have : (BitVec.ofNat 32 b).toNat = b := by rw [BitVec.toNat_ofNat]; exact Nat.mod_eq_of_lt (by omega)
      rw [this]
      exact oi_bmod (by omega)
    rw [h2, BitVec.getLsbD_and, BitVec.getLsbD_not, BitVec.getLsbD_ofNat, BitVec.getLsbD_ofNat, BitVec.getLsbD_ofNat, nandn_tb ha]
    simp [hi]
  rw [oi_nat, e]
  exact ti_nat (Nat.lt_of_le_of_lt Nat.and_le_left ha)
theorem nandn_le (a b : Nat) : nandn a b ≤ a := Nat.and_le_left
theorem nandn_0 {a b : Nat} (ha : a < 2147483648) : nandn a b = 0 ↔ ∀ i, a.testBit i = true → b.testBit i = true := by
  constructor
  · intro h i hi
    have := nandn_tb (b := b) ha i
    rw [h, hi] at this
    simpa using this
  · intro h
    apply Nat.eq_of_testBit_eq
    intro i
    rw [nandn_tb ha, Nat.zero_testBit]
    cases e : a.testBit i
    · rfl
    · rw [h i e]; rfl
/-! cells: updates -/
theorem wI_self (h : JH) (a : Nat) : wI h a (hI h a) = h := by
  unfold wI
  have : (fun b => if b = a then hI h a else h.2.1 b) = h.2.1 := by
    funext b
    by_cases e : b = a
    · rw [if_pos e, e]; rfl
    · rw [if_neg e]
  rw [this]
theorem sI_wI (h : JH) (a : Nat) (f : Nat → Int) (k : Nat) (v : Int) : sI (wI h a f) a k v = wI h a (fun j => if j = k then v else f j) := by
  unfold sI wI
  have : (fun b j => if b = a ∧ j = k then v else (if b = a then f else h.2.1 b) j) = (fun b => if b = a then (fun j => if j = k then v else f j) else h.2.1 b) := by
    funext b j
    by_cases e : b = a
    · by_cases e2 : j = k <;> simp [e, e2]
    · simp [e]
  rw [this]
theorem sI_eq_wI (h : JH) (a k : Nat) (v : Int) : sI h a k v = wI h a (fun j => if j = k then v else hI h a j) := by
  conv => lhs; rw [← wI_self h a]
  rw [sI_wI]
theorem wI_wI (h : JH) (a : Nat) (f g : Nat → Int) : wI (wI h a f) a g = wI h a g := by
  unfold wI
  have : (fun b => if b = a then g else (if b = a then f else h.2.1 b)) = (fun b => if b = a then g else h.2.1 b) := by
    funext b
    by_cases e : b = a <;> simp [e]
  rw [this]
theorem wI_comm (h : JH) {a b : Nat} (hne : a ≠ b) (f g : Nat → Int) : wI (wI h a f) b g = wI (wI h b g) a f := by
  unfold wI
  have : (fun x => if x = b then g else (if x = a then f else h.2.1 x)) = (fun x => if x = a then f else (if x = b then g else h.2.1 x)) := by
    funext x
    by_cases e : x = b
    · subst e
      rw [if_pos rfl, if_neg (fun q => hne q.symm), if_pos rfl]
    · simp [e]
  rw [this]
theorem wI_at (h : JH) (a : Nat) (f : Nat → Int) : hI (wI h a f) a = f := by rw [wI_I, if_pos rfl]
theorem wI_ne (h : JH) {a b : Nat} (f : Nat → Int) (hne : b ≠ a) : hI (wI h a f) b = hI h b := by rw [wI_I, if_neg hne]
