/-! sure: what can be left over, plainly -/
def ClC (g : SG) (S : Nat → Nat → Prop) : Prop := (∀ a b, a < 8 → b < 8 → a ≠ b → 0 < (g a).1 → 0 < (g b).1 → (g a).1 ≤ (g b).1 → (g b).2 % 2 ^ (g a).1 = (g a).2 → S ((g b).1 - (g a).1) ((g b).2 / 2 ^ (g a).1)) ∧ (∀ n row b, S n row → b < 8 → 0 < (g b).1 → n ≤ (g b).1 → (g b).2 % 2 ^ n = row → S ((g b).1 - n) ((g b).2 / 2 ^ n)) ∧ (∀ n row b, S n row → b < 8 → 0 < (g b).1 → (g b).1 ≤ n → row % 2 ^ (g b).1 = (g b).2 → S (n - (g b).1) (row / 2 ^ (g b).1))
def RC (g : SG) (n row : Nat) : Prop := ∀ S, ClC g S → S n row
def ClS (g : SG) (S : Nat → Nat → Prop) : Prop := (∀ a b, a < b → b < 8 → 0 < (g a).1 → 0 < (g b).1 → agP g a 0 b → ((g b).1 < (g a).1 → S a (g b).1) ∧ ((g a).1 < (g b).1 → S b (g a).1)) ∧ (∀ k f b, S k f → b < 8 → 0 < (g b).1 → agP g k f b → ((g b).1 < (g k).1 - f → S k (f + (g b).1)) ∧ ((g k).1 - f < (g b).1 → S b ((g k).1 - f)))
def RS (g : SG) (k f : Nat) : Prop := ∀ S, ClS g S → S k f
def emp (g : SG) : Prop := (∃ a b, a < b ∧ b < 8 ∧ 0 < (g a).1 ∧ 0 < (g b).1 ∧ agP g a 0 b ∧ (g a).1 = (g b).1) ∨ ∃ k f b, RS g k f ∧ b < 8 ∧ 0 < (g b).1 ∧ agP g k f b ∧ (g k).1 - f = (g b).1
theorem RC_cl (g : SG) : ClC g (RC g) := ⟨fun a b h1 h2 h3 h4 h5 h6 h7 S c => c.1 a b h1 h2 h3 h4 h5 h6 h7, fun n row b s h1 h2 h3 h4 S c => c.2.1 n row b (s S c) h1 h2 h3 h4, fun n row b s h1 h2 h3 h4 S c => c.2.2 n row b (s S c) h1 h2 h3 h4⟩
theorem RS_cl (g : SG) : ClS g (RS g) := ⟨fun a b h1 h2 h3 h4 h5 => ⟨fun z S c => (c.1 a b h1 h2 h3 h4 h5).1 z, fun z S c => (c.1 a b h1 h2 h3 h4 h5).2 z⟩, fun k f b s h1 h2 h3 => ⟨fun z S c => (c.2 k f b (s S c) h1 h2 h3).1 z, fun z S c => (c.2 k f b (s S c) h1 h2 h3).2 z⟩⟩
theorem ag_sym {g : SG} {a b : Nat} (h : agP g a 0 b) : agP g b 0 a := fun i z1 z2 => by
  have := h i (by omega) (by omega)
  rw [Nat.zero_add] at this ⊢
  exact this.symm
theorem rsR_lt {g : SG} (o : gOk g) {k f : Nat} (hk : k < 8) (hf : f ≤ (g k).1) : (g k).2 / 2 ^ f < 2 ^ ((g k).1 - f) := by
  apply Nat.div_lt_of_lt_mul
  rw [← Nat.pow_add, show f + ((g k).1 - f) = (g k).1 by omega]
  exact (o k hk).2
/-- what is left is a beginning of the sign -/
theorem ag_1 {g : SG} (o : gOk g) {k f b : Nat} (hk : k < 8) (hf : f ≤ (g k).1) (h : (g k).1 - f ≤ (g b).1) : (g b).2 % 2 ^ ((g k).1 - f) = (g k).2 / 2 ^ f ↔ agP g k f b := by
  rw [mod_tb (rsR_lt o hk hf)]
  constructor
  · intro z i z1 z2
    have := z i (by omega)
    rw [Nat.testBit_div_two_pow] at this
    rw [this, Nat.add_comm]
  · intro z i hi
    rw [Nat.testBit_div_two_pow]
    have := z i (by omega) (by omega)
    rw [← this, Nat.add_comm]
/-- the sign is a beginning of what is left -/
theorem ag_2 {g : SG} (o : gOk g) {k f b : Nat} (hb : b < 8) (h : (g b).1 ≤ (g k).1 - f) : (g k).2 / 2 ^ f % 2 ^ (g b).1 = (g b).2 ↔ agP g k f b := by
  rw [mod_tb (o b hb).2]
  constructor
  · intro z i z1 z2
    have := z i z2
    rw [Nat.testBit_div_two_pow] at this
    rw [← this, Nat.add_comm]
  · intro z i hi
    rw [Nat.testBit_div_two_pow]
    have := z i (by omega) hi
    rw [← this, Nat.add_comm]
theorem RS_ok {g : SG} (o : gOk g) {k f : Nat} (h : RS g k f) : k < 8 ∧ f < (g k).1 ∧ RC g ((g k).1 - f) ((g k).2 / 2 ^ f) := by
  refine h (fun k f => k < 8 ∧ f < (g k).1 ∧ RC g ((g k).1 - f) ((g k).2 / 2 ^ f)) ⟨fun a b h1 h2 h3 h4 h5 => ⟨fun z => ⟨by omega, z, ?_⟩, fun z => ⟨h2, z, ?_⟩⟩, fun k f b s h1 h2 h3 => ⟨fun z => ⟨s.1, by omega, ?_⟩, fun z => ⟨h1, z, ?_⟩⟩⟩
  · have q := (ag_1 o (k := b) (f := 0) (b := a) h2 (by omega) (by omega)).mpr (ag_sym h5)
    rw [Nat.sub_zero, Nat.pow_zero, Nat.div_one] at q
    exact (RC_cl g).1 b a h2 (by omega) (by omega) h4 h3 (by omega) q
  · have q := (ag_1 o (k := a) (f := 0) (b := b) (by omega) (by omega) (by omega)).mpr h5
    rw [Nat.sub_zero, Nat.pow_zero, Nat.div_one] at q
    exact (RC_cl g).1 a b (by omega) h2 (by omega) h3 h4 (by omega) q
  · have q := (ag_2 o (k := k) (f := f) h1 (by omega)).mpr h3
    have t := (RC_cl g).2.2 _ _ b s.2.2 h1 h2 (by omega) q
    rw [Nat.div_div_eq_div_mul, ← Nat.pow_add, Nat.sub_sub] at t
    exact t
  · have q := (ag_1 o s.1 (by omega) (by omega)).mpr h3
    exact (RC_cl g).2.1 _ _ b s.2.2 h1 h2 (by omega) q
theorem emp_rc {g : SG} (o : gOk g) (h : emp g) : RC g 0 0 := by
  rcases h with ⟨a, b, h1, h2, h3, h4, h5, h6⟩ | ⟨k, f, b, s, h1, h2, h3, h4⟩
  · have q := (ag_1 o (k := a) (f := 0) (b := b) (by omega) (by omega) (by omega)).mpr h5
    rw [Nat.sub_zero, Nat.pow_zero, Nat.div_one] at q
    have t := (RC_cl g).1 a b (by omega) h2 (by omega) h3 h4 (by omega) q
    rw [h6, Nat.sub_self, Nat.div_eq_of_lt (o b h2).2] at t
    exact t
  · have s := RS_ok o s
    have q := (ag_1 o s.1 (by omega) (by omega)).mpr h3
    have t := (RC_cl g).2.1 _ _ b s.2.2 h1 h2 (by omega) q
    rw [h4, Nat.sub_self, Nat.div_eq_of_lt (o b h1).2] at t
    exact t
theorem rc_emp {g : SG} (o : gOk g) {n row : Nat} (h : RC g n row) : emp g ∨ ∃ k f, RS g k f ∧ n = (g k).1 - f ∧ row = (g k).2 / 2 ^ f := by
  refine h (fun n row => emp g ∨ ∃ k f, RS g k f ∧ n = (g k).1 - f ∧ row = (g k).2 / 2 ^ f) ⟨fun a b h1 h2 h3 h4 h5 h6 h7 => ?_, fun n row b s h1 h2 h3 h4 => ?_, fun n row b s h1 h2 h3 h4 => ?_⟩
  · have ag : agP g a 0 b := (ag_1 o (k := a) (f := 0) h1 (by omega) (by omega)).mp (by rw [Nat.sub_zero, Nat.pow_zero, Nat.div_one]; exact h7)
    rcases Nat.lt_or_gt_of_ne h3 with z | z
    · by_cases e : (g a).1 = (g b).1
      · exact Or.inl (Or.inl ⟨a, b, z, h2, h4, h5, ag, e⟩)
      · exact Or.inr ⟨b, (g a).1, ((RS_cl g).1 a b z h2 h4 h5 ag).2 (by omega), rfl, rfl⟩
    · by_cases e : (g a).1 = (g b).1
      · exact Or.inl (Or.inl ⟨b, a, z, h1, h5, h4, ag_sym ag, e.symm⟩)
      · exact Or.inr ⟨b, (g a).1, ((RS_cl g).1 b a z h1 h5 h4 (ag_sym ag)).1 (by omega), rfl, rfl⟩
  · rcases s with s | ⟨k, f, s, e1, e2⟩
    · exact Or.inl s
    · have q := RS_ok o s
      subst e1
      have ag : agP g k f b := (ag_1 o q.1 (by omega) h3).mp (by rw [h4, e2])
      by_cases e : (g k).1 - f = (g b).1
      · exact Or.inl (Or.inr ⟨k, f, b, s, h1, h2, ag, e⟩)
      · exact Or.inr ⟨b, (g k).1 - f, ((RS_cl g).2 k f b s h1 h2 ag).2 (by omega), rfl, rfl⟩
  · rcases s with s | ⟨k, f, s, e1, e2⟩
    · exact Or.inl s
    · have q := RS_ok o s
      subst e1
      have ag : agP g k f b := (ag_2 o h1 h3).mp (by rw [← e2]; exact h4)
      by_cases e : (g k).1 - f = (g b).1
      · exact Or.inl (Or.inr ⟨k, f, b, s, h1, h2, ag, e⟩)
      · refine Or.inr ⟨k, f + (g b).1, ((RS_cl g).2 k f b s h1 h2 ag).1 (by omega), by omega, ?_⟩
        rw [e2, Nat.div_div_eq_div_mul, ← Nat.pow_add]
theorem rc0 {g : SG} (o : gOk g) : RC g 0 0 ↔ emp g := by
  constructor
  · intro h
    rcases rc_emp o h with e | ⟨k, f, s, e1, _⟩
    · exact e
    · have := RS_ok o s
      omega
  · exact emp_rc o
/-- how many of the first n are marked -/
def cnM (F : Nat → Int) : Nat → Int
  | 0 => 0
  | n + 1 => cnM F n + (if F n = 0 then 0 else 1)
theorem cnM_b (F : Nat → Int) : ∀ n, 0 ≤ cnM F n ∧ cnM F n ≤ n
  | 0 => ⟨Int.le_refl _, Int.le_refl _⟩
  | n + 1 => by
    have := cnM_b F n
    show 0 ≤ cnM F n + (if F n = 0 then 0 else 1) ∧ cnM F n + (if F n = 0 then 0 else 1) ≤ ((n + 1 : Nat) : Int)
    split <;> omega
theorem cnM_z {F : Nat → Int} : ∀ n, (∀ x, x < n → F x = 0) → cnM F n = 0
  | 0, _ => rfl
  | n + 1, h => by
    show cnM F n + (if F n = 0 then 0 else 1) = 0
    rw [cnM_z n (fun x hx => h x (by omega)), if_pos (h n (by omega))]
    rfl
/-- one more is marked -/
theorem cnM_s {F G : Nat → Int} {x : Nat} (hF : F x = 0) (hG : G x ≠ 0) (e : ∀ y, y ≠ x → G y = F y) : ∀ n, cnM G n = cnM F n + (if x < n then 1 else 0)
  | 0 => by rw [if_neg (by omega)]; rfl
  | n + 1 => by
    have ih := cnM_s hF hG e n
    show cnM G n + (if G n = 0 then 0 else 1) = cnM F n + (if F n = 0 then 0 else 1) + _
    rw [ih]
    by_cases z : n = x
    · subst z
      rw [if_neg hG, if_pos hF, if_neg (Nat.lt_irrefl _), if_pos (Nat.lt_succ_self _)]
    · rw [e n z]
      by_cases z2 : x < n
      · rw [if_pos z2, if_pos (show x < n + 1 by omega)]; omega
      · rw [if_neg z2, if_neg (show ¬ x < n + 1 by omega)]; omega
theorem cnM_lt {F : Nat → Int} {x n : Nat} (hx : x < n) (hF : F x = 0) : cnM F n < n := by
  have h := cnM_s (F := F) (G := fun y => if y = x then 1 else F y) hF (by rw [if_pos rfl]; decide) (fun y hy => if_neg hy) n
  rw [if_pos hx] at h
  have := (cnM_b (fun y => if y = x then 1 else F y) n).2
  omega

