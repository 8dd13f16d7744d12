/-! sure: the reference, both -/
def ST (g : SG) (h : JH) (a b : Nat) : Prop := a ≠ b → 0 < (g a).1 → 0 < (g b).1 → (g a).1 ≤ (g b).1 → (g b).2 % 2 ^ (g a).1 = (g a).2 → hI h 148 (2 ^ ((g b).1 - (g a).1) + (g b).2 / 2 ^ (g a).1) = 1
def SU (g : SG) (h : JH) (n row b : Nat) : Prop := 0 < (g b).1 → (n ≤ (g b).1 → (g b).2 % 2 ^ n = row → hI h 148 (2 ^ ((g b).1 - n) + (g b).2 / 2 ^ n) = 1) ∧ ((g b).1 ≤ n → row % 2 ^ (g b).1 = (g b).2 → hI h 148 (2 ^ (n - (g b).1) + row / 2 ^ (g b).1) = 1)
theorem ST.gr {g : SG} {h h' : JH} {a b : Nat} (x : ST g h a b) (r : Gw h h') : ST g h' a b := fun z1 z2 z3 z4 z5 => r.1 _ (x z1 z2 z3 z4 z5)
theorem SU.gr {g : SG} {h h' : JH} {n row b : Nat} (x : SU g h n row b) (r : Gw h h') : SU g h' n row b := fun z1 => ⟨fun z2 z3 => r.1 _ ((x z1).1 z2 z3), fun z2 z3 => r.1 _ ((x z1).2 z2 z3)⟩
def E1 (g : SG) (h : JH) (i j : Nat) : Prop := ∀ a b, a < 8 → b < 8 → a < i ∨ (a = i ∧ b < j) → ST g h a b
def E2 (g : SG) (h : JH) (i : Nat) : Prop := ∀ j, j < i → (j : Int) < hI h 117 45 → ∀ n row, row < 2 ^ n → hI h 149 j = ((2 ^ n + row : Nat) : Int) → ∀ b, b < 8 → SU g h n row b
theorem E1.gr {g : SG} {h h' : JH} {i j : Nat} (x : E1 g h i j) (r : Gw h h') : E1 g h' i j := fun a b h1 h2 h3 => (x a b h1 h2 h3).gr r
theorem E2.gr {g : SG} {h h' : JH} {i : Nat} (x : E2 g h i) (r : Gw h h') (hi : (i : Int) ≤ hI h 117 45) : E2 g h' i := fun j h1 _ n row h3 h4 b hb => by
  rw [r.2.1 j (by omega)] at h4
  exact (x j h1 (by omega) n row h3 h4 b hb).gr r
theorem div_lt2 {a n m : Nat} (h : a < 2 ^ m) (hn : n ≤ m) : a / 2 ^ n < 2 ^ (m - n) := by
  apply Nat.div_lt_of_lt_mul
  rw [← Nat.pow_add, show n + (m - n) = m by omega]
  exact h
theorem sure_w {g : SG} {h : JH} (o : gOk g) (q : MS g h) (x1 : E1 g h 8 0) {i : Nat} (x2 : E2 g h i) (hi : hI h 117 45 ≤ i) (hz : hI h 148 1 = 0) : ¬ emp g := by
  intro e
  have t := (rc0 o).mpr e (fun n row => row < 2 ^ n ∧ n ≤ 8 ∧ hI h 148 (2 ^ n + row) = 1) ⟨fun a b h1 h2 h3 h4 h5 h6 h7 => ?_, fun n row b s h1 h2 h3 h4 => ?_, fun n row b s h1 h2 h3 h4 => ?_⟩
  · have t : hI h 148 1 = 1 := t.2.2
    omega
  · have ob := o b h2
    exact ⟨div_lt2 ob.2 h6, by omega, x1 a b h1 h2 (by omega) h3 h4 h5 h6 h7⟩
  · have ob := o b h1
    obtain ⟨j, j1, j2⟩ := q.2.2.2.1 (2 ^ n + row) (cd_lt s.1 s.2.1) s.2.2
    exact ⟨div_lt2 ob.2 h3, by omega, (x2 j (by omega) j1 n row s.1 j2 b h1 h2).1 h3 h4⟩
  · obtain ⟨j, j1, j2⟩ := q.2.2.2.1 (2 ^ n + row) (cd_lt s.1 s.2.1) s.2.2
    exact ⟨div_lt2 s.1 h3, by omega, (x2 j (by omega) j1 n row s.1 j2 b h1 h2).2 h3 h4⟩
theorem sure_1 {g : SG} {h : JH} (o : gOk g) (q : MS g h) (hz : hI h 148 1 = 1) : emp g := by
  obtain ⟨n, row, h1, h2, h3, h4⟩ := q.2.2.2.2 1 (by decide) hz
  have p : 0 < 2 ^ n := Nat.two_pow_pos n
  have r0 : row = 0 := by omega
  have n0 : n = 0 := by
    cases n with
    | zero => rfl
    | succ n =>
      have : 0 < 2 ^ n := Nat.two_pow_pos n
      rw [Nat.pow_succ] at h3
      omega
  subst r0; subst n0
  exact (rc0 o).mp h4

