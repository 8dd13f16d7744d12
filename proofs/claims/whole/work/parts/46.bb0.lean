/-! counts of bits -/
def bc1 (x : Nat) : Nat := x - (x / 2 &&& 1431655765)
def bc2 (x : Nat) : Nat := (bc1 x &&& 858993459) + (bc1 x / 4 &&& 858993459)
def bc3 (x : Nat) : Nat := (bc2 x + bc2 x / 16) &&& 252645135
def bc4 (x : Nat) : Nat := bc3 x + bc3 x / 256
def bc5 (x : Nat) : Nat := bc4 x + bc4 x / 65536
def pcs (x : Nat) : Nat := x % 2 + x / 2 % 2 + x / 4 % 2 + x / 8 % 2 + x / 16 % 2 + x / 32 % 2 + x / 64 % 2 + x / 128 % 2 + x / 256 % 2 + x / 512 % 2 + x / 1024 % 2 + x / 2048 % 2 + x / 4096 % 2 + x / 8192 % 2 + x / 16384 % 2 + x / 32768 % 2
theorem and_sp {i a b a' b' : Nat} (h : b < 2 ^ i) (h' : b' < 2 ^ i) : (2 ^ i * a + b) &&& (2 ^ i * a' + b') = 2 ^ i * (a &&& a') + (b &&& b') := by
  apply Nat.eq_of_testBit_eq
  intro j
  have hb : b &&& b' < 2 ^ i := Nat.lt_of_le_of_lt Nat.and_le_left h
  rw [Nat.testBit_and, Nat.testBit_two_pow_mul_add _ h, Nat.testBit_two_pow_mul_add _ h', Nat.testBit_two_pow_mul_add _ hb]
  split <;> rw [Nat.testBit_and]

