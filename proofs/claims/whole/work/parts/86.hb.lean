/-! hands: words of digits; changes digit by digit are changes of all digits -/
def fup (f : Nat → Nat) (i a : Nat) : Nat → Nat := fun j => if j = i then a else f j
theorem fup_s (f : Nat → Nat) (i a : Nat) : fup f i a i = a := if_pos rfl
theorem fup_o (f : Nat → Nat) {i a j : Nat} (h : j ≠ i) : fup f i a j = f j := if_neg h
def enc (B : Nat) (f : Nat → Nat) : Nat → Nat
  | 0 => 0
  | n + 1 => enc B f n + f n * B ^ n
def Dg (B n : Nat) (f : Nat → Nat) : Prop := ∀ i, i < n → f i < B
theorem enc_lt {B : Nat} {f : Nat → Nat} : ∀ {n : Nat}, Dg B n f → enc B f n < B ^ n
  | 0, _ => by show 0 < 1; decide
  | n + 1, g => by
    have ih := enc_lt (B := B) (f := f) (n := n) (fun i hi => g i (by omega))
    have h1 : f n + 1 ≤ B := g n (by omega)
    have h2 := Nat.mul_le_mul_right (B ^ n) h1
    show enc B f n + f n * B ^ n < B ^ (n + 1)
    rw [Nat.pow_succ, Nat.mul_comm (B ^ n) B]
    rw [Nat.add_mul, Nat.one_mul] at h2
    omega
theorem enc_cg {B : Nat} {f g : Nat → Nat} : ∀ {n : Nat}, (∀ i, i < n → f i = g i) → enc B f n = enc B g n
  | 0, _ => rfl
  | n + 1, e => by
    show enc B f n + f n * B ^ n = enc B g n + g n * B ^ n
    rw [enc_cg (fun i hi => e i (by omega)), e n (by omega)]
def dgF (B s : Nat) : Nat → Nat := fun i => s / B ^ i % B
theorem dgF_dg {B s n : Nat} (hB : 0 < B) : Dg B n (dgF B s) := fun _ _ => Nat.mod_lt _ hB
theorem enc_mod (B s : Nat) : ∀ n, enc B (dgF B s) n = s % B ^ n
  | 0 => by show 0 = s % 1; omega
  | n + 1 => by
    show enc B (dgF B s) n + s / B ^ n % B * B ^ n = s % B ^ (n + 1)
    rw [enc_mod B s n, Nat.mod_pow_succ, Nat.mul_comm]
theorem enc_of {B s n : Nat} (hs : s < B ^ n) : enc B (dgF B s) n = s := by rw [enc_mod, Nat.mod_eq_of_lt hs]
theorem enc_sp {B : Nat} {f : Nat → Nat} {i : Nat} : ∀ {n : Nat}, i < n → ∃ r, enc B f n = enc B f i + B ^ i * (f i + B * r)
  | 0, h => absurd h (by omega)
  | n + 1, h => by
    by_cases e : i = n
    · subst e
      exact ⟨0, by show enc B f i + f i * B ^ i = _; rw [Nat.mul_zero, Nat.add_zero, Nat.mul_comm]⟩
    · obtain ⟨r, hr⟩ := enc_sp (B := B) (f := f) (i := i) (n := n) (by omega)
      refine ⟨r + f n * B ^ (n - i - 1), ?_⟩
      have hp : B ^ n = B ^ i * (B * B ^ (n - i - 1)) := by
        rw [Nat.mul_comm B, ← Nat.pow_succ, ← Nat.pow_add, show i + (n - i - 1 + 1) = n by omega]
      show enc B f n + f n * B ^ n = _
      rw [hr, hp, Nat.add_assoc, Nat.mul_left_comm (f n), ← Nat.mul_add, Nat.add_assoc, Nat.mul_left_comm (f n), ← Nat.mul_add]
theorem enc_dg {B : Nat} {f : Nat → Nat} {n i : Nat} (g : Dg B n f) (hi : i < n) : enc B f n / B ^ i % B = f i := by
  obtain ⟨r, hr⟩ := enc_sp (B := B) (f := f) hi
  have hB : 0 < B := Nat.lt_of_le_of_lt (Nat.zero_le _) (g i hi)
  have hl : enc B f i < B ^ i := enc_lt (fun j hj => g j (by omega))
  rw [hr, Nat.add_mul_div_left _ _ (Nat.pow_pos hB), Nat.div_eq_of_lt hl, Nat.zero_add, Nat.add_mul_mod_self_left, Nat.mod_eq_of_lt (g i hi)]
theorem enc_up {B : Nat} {f : Nat → Nat} {i a : Nat} : ∀ {n : Nat}, i < n → enc B (fup f i a) n + f i * B ^ i = enc B f n + a * B ^ i
  | 0, h => absurd h (by omega)
  | n + 1, h => by
    show enc B (fup f i a) n + fup f i a n * B ^ n + f i * B ^ i = enc B f n + f n * B ^ n + a * B ^ i
    by_cases e : i = n
    · subst e
      rw [fup_s, enc_cg (B := B) (f := fup f i a) (g := f) (fun j hj => fup_o f (by omega))]
      omega
    · have ih := enc_up (B := B) (f := f) (i := i) (a := a) (n := n) (by omega)
      rw [fup_o f (show n ≠ i by omega)]
      omega
theorem fup_dg {B n i a : Nat} {f : Nat → Nat} (g : Dg B n f) (ha : a < B) : Dg B n (fup f i a) := fun j hj => by
  by_cases e : j = i
  · subst e; rw [fup_s]; exact ha
  · rw [fup_o f e]; exact g j hj
/-- the sum of the changes of the first digits -/
def smC (g f : Nat → Nat) : Nat → Int
  | 0 => 0
  | k + 1 => smC g f k + chg (g k) (f k)
theorem smC_cg {g f g' f' : Nat → Nat} : ∀ {k : Nat}, (∀ i, i < k → chg (g i) (f i) = chg (g' i) (f' i)) → smC g f k = smC g' f' k
  | 0, _ => rfl
  | k + 1, e => by
    show smC g f k + chg (g k) (f k) = smC g' f' k + chg (g' k) (f' k)
    rw [smC_cg (fun i hi => e i (by omega)), e k (by omega)]
theorem smC_le {g f g' f' : Nat → Nat} : ∀ {k : Nat}, (∀ i, i < k → chg (g i) (f i) ≤ chg (g' i) (f' i)) → smC g f k ≤ smC g' f' k
  | 0, _ => Int.le_refl _
  | k + 1, e => by
    have h1 := smC_le (k := k) (g := g) (f := f) (g' := g') (f' := f') (fun i hi => e i (by omega))
    have h2 := e k (by omega)
    show smC g f k + chg (g k) (f k) ≤ smC g' f' k + chg (g' k) (f' k)
    omega
theorem chg_b (a b : Int) : 0 ≤ chg a b ∧ chg a b ≤ 2 := by unfold chg; (repeat' split) <;> omega
theorem chg_s (a : Int) : chg a a = 0 := by unfold chg; rw [if_pos rfl]
theorem smC_b (g f : Nat → Nat) : ∀ k : Nat, 0 ≤ smC g f k
  | 0 => Int.le_refl _
  | k + 1 => by
    have h1 := smC_b g f k
    have h2 := chg_b (g k) (f k)
    show 0 ≤ smC g f k + chg (g k) (f k)
    omega
theorem smC_s (f : Nat → Nat) : ∀ k : Nat, smC f f k = 0
  | 0 => rfl
  | k + 1 => by
    show smC f f k + chg (f k) (f k) = 0
    rw [smC_s f k, chg_s]; rfl
def ChP (B n k : Nat) (C D : Nat → Int) : Prop := (∀ f g, Dg B n f → Dg B n g → (∀ i, k ≤ i → i < n → f i = g i) → D (enc B f n) ≤ C (enc B g n) + smC g f k) ∧ (∀ f, Dg B n f → ∃ g, Dg B n g ∧ (∀ i, k ≤ i → i < n → f i = g i) ∧ D (enc B f n) = C (enc B g n) + smC g f k)
def StP (B n i : Nat) (D E : Nat → Int) : Prop := ∀ f, Dg B n f → (∀ a, a < B → E (enc B f n) ≤ D (enc B (fup f i a) n) + chg a (f i)) ∧ ∃ a, a < B ∧ E (enc B f n) = D (enc B (fup f i a) n) + chg a (f i)
theorem ChP.z {B n : Nat} {C D : Nat → Int} (e : ∀ s, s < B ^ n → D s = C s) : ChP B n 0 C D := by
  refine ⟨fun f g df dg a => ?_, fun f df => ⟨f, df, fun _ _ _ => rfl, ?_⟩⟩
  · rw [e _ (enc_lt df), enc_cg (B := B) (f := f) (g := g) (fun i hi => a i (by omega) hi), show smC g f 0 = 0 from rfl]
    omega
  · rw [e _ (enc_lt df), show smC f f 0 = 0 from rfl]
    omega
theorem ChP.s {B n k : Nat} {C D E : Nat → Int} (c : ChP B n k C D) (hk : k < n) (s : StP B n k D E) : ChP B n (k + 1) C E := by
  refine ⟨fun f g df dg a => ?_, fun f df => ?_⟩
  · have h1 := (s f df).1 (g k) (dg k hk)
    have h2 := c.1 (fup f k (g k)) g (fup_dg df (dg k hk)) dg (fun i h3 h4 => by
      by_cases e : i = k
      · subst e; rw [fup_s]
      · rw [fup_o f e]; exact a i (by omega) h4)
    rw [smC_cg (k := k) (g := g) (f := fup f k (g k)) (g' := g) (f' := f) (fun i hi => by rw [fup_o f (show i ≠ k by omega)])] at h2
    show E (enc B f n) ≤ C (enc B g n) + (smC g f k + chg (g k) (f k))
    omega
  · obtain ⟨a, ha, h1⟩ := (s f df).2
    obtain ⟨g, dg, ag, h2⟩ := c.2 (fup f k a) (fup_dg df ha)
    have e1 := ag k (by omega) hk
    rw [fup_s] at e1
    refine ⟨g, dg, fun i h3 h4 => ?_, ?_⟩
    · have := ag i (by omega) h4
      rw [fup_o f (show i ≠ k by omega)] at this
      exact this
    · rw [smC_cg (k := k) (g := g) (f := fup f k a) (g' := g) (f' := f) (fun i hi => by rw [fup_o f (show i ≠ k by omega)])] at h2
      show E (enc B f n) = C (enc B g n) + (smC g f k + chg (g k) (f k))
      rw [← e1]
      omega
theorem ChP.cg {B n k : Nat} {C C' D D' : Nat → Int} (c : ChP B n k C D) (e1 : ∀ s, s < B ^ n → C' s = C s) (e2 : ∀ s, s < B ^ n → D' s = D s) : ChP B n k C' D' := by
  refine ⟨fun f g df dg a => ?_, fun f df => ?_⟩
  · rw [e1 _ (enc_lt dg), e2 _ (enc_lt df)]; exact c.1 f g df dg a
  · obtain ⟨g, dg, ag, h2⟩ := c.2 f df
    exact ⟨g, dg, ag, by rw [e1 _ (enc_lt dg), e2 _ (enc_lt df)]; exact h2⟩
/-! counting -/
def cnB (b : Nat → Bool) : Nat → Nat
  | 0 => 0
  | k + 1 => cnB b k + (if b k then 1 else 0)
theorem pcN_cn (a : Nat) : ∀ k, pcN a k = cnB a.testBit k
  | 0 => rfl
  | k + 1 => by
    show pcN a k + (if a.testBit k then 1 else 0) = cnB a.testBit k + (if a.testBit k then 1 else 0)
    rw [pcN_cn a k]
theorem cn_0 {b : Nat → Bool} : ∀ {m : Nat}, cnB b m = 0 → ∀ i, i < m → b i = true → False
  | 0, _ => fun i hi _ => by omega
  | m + 1, h => fun i hi hb => by
    have e : cnB b m + (if b m then 1 else 0) = 0 := h
    by_cases z : i = m
    · subst z; rw [if_pos hb] at e; omega
    · exact cn_0 (b := b) (m := m) (by omega) i (by omega) hb
theorem cn_1 {b : Nat → Bool} : ∀ {m : Nat}, cnB b m ≤ 1 → ∀ i j, i < m → j < m → b i = true → b j = true → i = j
  | 0, _ => fun i j hi _ _ _ => by omega
  | m + 1, h => fun i j hi hj bi bj => by
    have e : cnB b m + (if b m then 1 else 0) ≤ 1 := h
    by_cases z : b m = true
    · rw [if_pos z] at e
      have e0 : cnB b m = 0 := by omega
      by_cases zi : i = m
      · by_cases zj : j = m
        · omega
        · exact (cn_0 e0 j (by omega) bj).elim
      · exact (cn_0 e0 i (by omega) bi).elim
    · rw [if_neg z] at e
      have zi : i ≠ m := fun t => z (t ▸ bi)
      have zj : j ≠ m := fun t => z (t ▸ bj)
      exact cn_1 (b := b) (m := m) (by omega) i j (by omega) (by omega) bi bj
theorem cn_2 {b : Nat → Bool} : ∀ {m : Nat}, cnB b m ≤ 2 → ∀ i j k, i < m → j < m → k < m → b i = true → b j = true → b k = true → i = j ∨ i = k ∨ j = k
  | 0, _ => fun i j k hi _ _ _ _ _ => by omega
  | m + 1, h => fun i j k hi hj hk bi bj bk => by
    have e : cnB b m + (if b m then 1 else 0) ≤ 2 := h
    by_cases z : b m = true
    · rw [if_pos z] at e
      have e0 : cnB b m ≤ 1 := by omega
      by_cases zi : i = m
      · by_cases zj : j = m
        · omega
        · by_cases zk : k = m
          · omega
          · exact Or.inr (Or.inr (cn_1 e0 j k (by omega) (by omega) bj bk))
      · by_cases zj : j = m
        · by_cases zk : k = m
          · omega
          · exact Or.inr (Or.inl (cn_1 e0 i k (by omega) (by omega) bi bk))
        · exact Or.inl (cn_1 e0 i j (by omega) (by omega) bi bj)
    · rw [if_neg z] at e
      have zi : i ≠ m := fun t => z (t ▸ bi)
      have zj : j ≠ m := fun t => z (t ▸ bj)
      have zk : k ≠ m := fun t => z (t ▸ bk)
      exact cn_2 (b := b) (m := m) (by omega) i j k (by omega) (by omega) (by omega) bi bj bk
theorem cn_g1 {b : Nat → Bool} : ∀ {m : Nat}, 1 ≤ cnB b m → ∃ i, i < m ∧ b i = true
  | 0, h => absurd h (by show ¬ 1 ≤ 0; omega)
  | m + 1, h => by
    have e : 1 ≤ cnB b m + (if b m then 1 else 0) := h
    by_cases z : b m = true
    · exact ⟨m, by omega, z⟩
    · rw [if_neg z] at e
      obtain ⟨i, hi, bi⟩ := cn_g1 (b := b) (m := m) (by omega)
      exact ⟨i, by omega, bi⟩
theorem cn_g2 {b : Nat → Bool} : ∀ {m : Nat}, 2 ≤ cnB b m → ∃ i j, i < j ∧ j < m ∧ b i = true ∧ b j = true
  | 0, h => absurd h (by show ¬ 2 ≤ 0; omega)
  | m + 1, h => by
    have e : 2 ≤ cnB b m + (if b m then 1 else 0) := h
    by_cases z : b m = true
    · rw [if_pos z] at e
      obtain ⟨i, hi, bi⟩ := cn_g1 (b := b) (m := m) (by omega)
      exact ⟨i, m, hi, by omega, bi, z⟩
    · rw [if_neg z] at e
      obtain ⟨i, j, hi, hj, bi, bj⟩ := cn_g2 (b := b) (m := m) (by omega)
      exact ⟨i, j, hi, by omega, bi, bj⟩
theorem cn_g3 {b : Nat → Bool} : ∀ {m : Nat}, 3 ≤ cnB b m → ∃ i j k, i < j ∧ j < k ∧ k < m ∧ b i = true ∧ b j = true ∧ b k = true
  | 0, h => absurd h (by show ¬ 3 ≤ 0; omega)
  | m + 1, h => by
    have e : 3 ≤ cnB b m + (if b m then 1 else 0) := h
    by_cases z : b m = true
    · rw [if_pos z] at e
      obtain ⟨i, j, hi, hj, bi, bj⟩ := cn_g2 (b := b) (m := m) (by omega)
      exact ⟨i, j, m, hi, hj, by omega, bi, bj, z⟩
    · rw [if_neg z] at e
      obtain ⟨i, j, k, hi, hj, hk, bi, bj, bk⟩ := cn_g3 (b := b) (m := m) (by omega)
      exact ⟨i, j, k, hi, hj, by omega, bi, bj, bk⟩

