/-! trunk: reaching summed over edges; the least from each set on; the first least order -/
def poF (l : List Nat) (S : Nat) : Nat → Nat × Nat
  | 0 => (0, 1)
  | k + 1 => ((poF l S k).1 + (if (poF l S k).2 = bt S (l.getD k 0) then 0 else 1), bt S (l.getD k 0))
theorem poF_b (l : List Nat) (S : Nat) : ∀ k, (poF l S k).1 ≤ k ∧ (poF l S k).2 ≤ 1
  | 0 => by show 0 ≤ 0 ∧ 1 ≤ 1; omega
  | k + 1 => by
    have := poF_b l S k
    refine ⟨?_, bt_b _ _⟩
    show (poF l S k).1 + (if (poF l S k).2 = bt S (l.getD k 0) then 0 else 1) ≤ k + 1
    split <;> omega
def poW (l : List Nat) (S : Nat) : Nat := (poF l S l.length).1
def pfx (g : Nat → Nat) : Nat → Nat
  | 0 => 0
  | i + 1 => pfx g i ||| 2 ^ g i
theorem pfx_tb (g : Nat → Nat) (k : Nat) : ∀ i, (pfx g i).testBit k = true ↔ ∃ j, j < i ∧ g j = k
  | 0 => by show (0 : Nat).testBit k = true ↔ _; simp
  | i + 1 => by
    show (pfx g i ||| 2 ^ g i).testBit k = true ↔ _
    rw [Nat.testBit_or, Bool.or_eq_true, pfx_tb g k i, Nat.testBit_two_pow]
    constructor
    · rintro (⟨j, h1, h2⟩ | h)
      · exact ⟨j, by omega, h2⟩
      · exact ⟨i, by omega, of_decide_eq_true h⟩
    · rintro ⟨j, h1, h2⟩
      by_cases z : j = i
      · subst z; exact Or.inr (decide_eq_true h2)
      · exact Or.inl ⟨j, by omega, h2⟩
theorem pfx_cg {f g : Nat → Nat} : ∀ {i : Nat}, (∀ j, j < i → f j = g j) → pfx f i = pfx g i
  | 0, _ => rfl
  | i + 1, e => by
    show pfx f i ||| 2 ^ f i = pfx g i ||| 2 ^ g i
    rw [pfx_cg (fun j hj => e j (by omega)), e i (by omega)]
def sJ0 (u : Nat → Nat) : Nat → Nat
  | 0 => 0
  | n + 1 => sJ0 u n + u n
theorem sJ0_cg {u v : Nat → Nat} : ∀ {n : Nat}, (∀ j, j < n → u j = v j) → sJ0 u n = sJ0 v n
  | 0, _ => rfl
  | n + 1, e => by
    show sJ0 u n + u n = sJ0 v n + v n
    rw [sJ0_cg (fun j hj => e j (by omega)), e n (by omega)]
theorem sJ0_add (u v : Nat → Nat) : ∀ n, sJ0 (fun j => u j + v j) n = sJ0 u n + sJ0 v n
  | 0 => rfl
  | n + 1 => by
    show sJ0 (fun j => u j + v j) n + (u n + v n) = (sJ0 u n + u n) + (sJ0 v n + v n)
    rw [sJ0_add u v n]
    omega
def dst (a b : Nat) : Nat := if a ≤ b then b - a else a - b
theorem sJ0_abs (a b : Nat) : ∀ n, sJ0 (fun j => if (if a ≤ j then 1 else 0) = (if b ≤ j then 1 else 0) then 0 else 1) n = dst (if a ≤ n then a else n) (if b ≤ n then b else n)
  | 0 => by
    show 0 = dst _ _
    unfold dst
    (repeat' split) <;> omega
  | n + 1 => by
    show sJ0 (fun j => if (if a ≤ j then 1 else 0) = (if b ≤ j then 1 else 0) then 0 else 1) n + (if (if a ≤ n then 1 else 0) = (if b ≤ n then 1 else 0) then 0 else 1) = _
    rw [sJ0_abs a b n]
    unfold dst
    (repeat' split) <;> omega
theorem plF_v {p0 : Nat → Int} {f : Nat → Nat} : ∀ {n i : Nat}, (∀ i j, i < n → j < n → f i = f j → i = j) → i < n → plF p0 f n (f i) = (i : Int)
  | 0, i, _, h => absurd h (by omega)
  | n + 1, i, inj, h => by
    show (if f i = f n then (n : Int) else plF p0 f n (f i)) = i
    by_cases z : i = n
    · subst z; rw [if_pos rfl]
    · rw [if_neg (fun q => z (inj i n h (by omega) q))]
      exact plF_v (fun a b ha hb => inj a b (by omega) (by omega)) (by omega)
theorem rc_po {l : List Nat} {N n : Nat} {f : Nat → Nat} (o : IsO N n f) (hl : ∀ x ∈ l, N.testBit x = true) : ∀ k, k ≤ l.length → ∃ a : Nat, (rcF (plF (fun _ => 0) f n) l k).2 = (a : Int) ∧ a ≤ n ∧ (∀ j, j < n → (poF l (pfx f (j + 1)) k).2 = if a ≤ j then 1 else 0) ∧ (rcF (plF (fun _ => 0) f n) l k).1 = ((sJ0 (fun j => (poF l (pfx f (j + 1)) k).1) n : Nat) : Int)
  | 0, _ => by
    have e : ∀ n, sJ0 (fun j => (poF l (pfx f (j + 1)) 0).1) n = 0 := fun n => by
      induction n with
      | zero => rfl
      | succ n ih => show sJ0 (fun j => (poF l (pfx f (j + 1)) 0).1) n + 0 = 0; rw [ih]
    exact ⟨0, rfl, Nat.zero_le _, fun j _ => by rw [if_pos (Nat.zero_le _)]; rfl, by rw [e]; rfl⟩
  | k + 1, hk => by
    obtain ⟨a, a1, a2, a3, a4⟩ := rc_po o hl k (by omega)
    have hm := List.mem_of_getElem? (getD_some (show k < l.length by omega))
    obtain ⟨i, hi, ei⟩ := o.2.2 _ (hl _ hm)
    have ep : plF (fun _ => 0) f n (l.getD k 0) = (i : Int) := by rw [← ei]; exact plF_v o.2.1 hi
    have eb : ∀ j, j < n → bt (pfx f (j + 1)) (l.getD k 0) = if i ≤ j then 1 else 0 := fun j hj => by
      unfold bt
      by_cases z : i ≤ j
      · rw [if_pos z, if_pos ((pfx_tb f _ _).mpr ⟨i, by omega, ei⟩)]
      · rw [if_neg z, if_neg (fun q => by
          obtain ⟨j', h1, h2⟩ := (pfx_tb f _ _).mp q
          have := o.2.1 j' i (by omega) hi (h2.trans ei.symm)
          omega)]
    refine ⟨i, ep, by omega, fun j hj => eb j hj, ?_⟩
    show (rcF (plF (fun _ => 0) f n) l k).1 + (if plF (fun _ => 0) f n (l.getD k 0) - (rcF (plF (fun _ => 0) f n) l k).2 < 0 then -(plF (fun _ => 0) f n (l.getD k 0) - (rcF (plF (fun _ => 0) f n) l k).2) else plF (fun _ => 0) f n (l.getD k 0) - (rcF (plF (fun _ => 0) f n) l k).2) = ((sJ0 (fun j => (poF l (pfx f (j + 1)) k).1 + (if (poF l (pfx f (j + 1)) k).2 = bt (pfx f (j + 1)) (l.getD k 0) then 0 else 1)) n : Nat) : Int)
    rw [sJ0_add, ep, a1, a4, sJ0_cg (u := fun j => if (poF l (pfx f (j + 1)) k).2 = bt (pfx f (j + 1)) (l.getD k 0) then 0 else 1) (v := fun j => if (if a ≤ j then 1 else 0) = (if i ≤ j then 1 else 0) then 0 else 1) (fun j hj => by rw [a3 j hj, eb j hj]), sJ0_abs, if_pos a2, if_pos (show i ≤ n by omega)]
    unfold dst
    (repeat' split) <;> omega
def edF (l : List Nat) (f : Nat → Nat) : Nat → Nat := fun j => poW l (pfx f (j + 1))
theorem cst_ed {l : List Nat} {N n : Nat} {f : Nat → Nat} (o : IsO N n f) (hl : ∀ x ∈ l, N.testBit x = true) : cst l n f = ((sJ0 (edF l f) n : Nat) : Int) := by
  obtain ⟨a, _, _, _, a4⟩ := rc_po o hl l.length (Nat.le_refl _)
  exact a4
def av (N S k : Nat) : Prop := N.testBit k = true ∧ S.testBit k = false
def LFp (W : Nat → Int) (N S : Nat) (v : Int) : Prop := (∀ k, av N S k → v ≤ W (S ||| 2 ^ k)) ∧ ((∃ k, av N S k ∧ v = W (S ||| 2 ^ k)) ∨ ((∀ k, ¬ av N S k) ∧ v = 0))
theorem LFp.u {W : Nat → Int} {N S : Nat} {v v' : Int} (a : LFp W N S v) (b : LFp W N S v') : v = v' := by
  rcases a.2 with ⟨k, h1, h2⟩ | ⟨h1, h2⟩
  · rcases b.2 with ⟨j, g1, g2⟩ | ⟨g1, g2⟩
    · have := a.1 j g1
      have := b.1 k h1
      omega
    · exact absurd h1 (g1 k)
  · rcases b.2 with ⟨j, g1, g2⟩ | ⟨g1, g2⟩
    · exact absurd g1 (h1 j)
    · omega
def sub (T N : Nat) : Prop := ∀ k, T.testBit k = true → N.testBit k = true
def DPp (W : Nat → Int) (l : List Nat) (N T : Nat) : Prop := ∃ v, LFp W N T v ∧ W T = (poW l T : Nat) + v
theorem pfx_sub {N n : Nat} {f : Nat → Nat} (o : ∀ i, i < n → N.testBit (f i) = true) {j : Nat} (hj : j ≤ n) : sub (pfx f j) N := fun k hk => by
  obtain ⟨i, h1, h2⟩ := (pfx_tb f k j).mp hk
  rw [← h2]; exact o i (by omega)
theorem pfx_pos (f : Nat → Nat) (j : Nat) : 0 < pfx f (j + 1) := by
  have h := (pfx_tb f (f j) (j + 1)).mpr ⟨j, by omega, rfl⟩
  rcases Nat.eq_zero_or_pos (pfx f (j + 1)) with z | z
  · rw [z] at h; simp at h
  · exact z
theorem IsO.av {N n j : Nat} {f : Nat → Nat} (o : IsO N n f) (hj : j < n) : av N (pfx f j) (f j) := by
  refine ⟨(o.1 j hj).2, ?_⟩
  cases h : (pfx f j).testBit (f j)
  · rfl
  · obtain ⟨i, h1, h2⟩ := (pfx_tb f _ j).mp h
    have := o.2.1 i j (by omega) hj h2
    omega
/-- each order costs at least what the table says -/
theorem tl_ge {W : Nat → Int} {l : List Nat} {N n : Nat} {f : Nat → Nat} (dp : ∀ T, 0 < T → sub T N → DPp W l N T) (o : IsO N n f) : ∀ (m j : Nat), j + m = n → ∀ v, LFp W N (pfx f j) v → v + ((sJ0 (edF l f) j : Nat) : Int) ≤ ((sJ0 (edF l f) n : Nat) : Int)
  | 0, j, e, v, h => by
    have ej : j = n := by omega
    subst ej
    rcases h.2 with ⟨k, h1, h2⟩ | ⟨h1, h2⟩
    · obtain ⟨i, hi, ei⟩ := o.2.2 k h1.1
      have := (pfx_tb f k j).mpr ⟨i, hi, ei⟩
      rw [h1.2] at this
      exact absurd this (by decide)
    · omega
  | m + 1, j, e, v, h => by
    have h1 := h.1 (f j) (o.av (by omega))
    obtain ⟨v', h2, h3⟩ := dp (pfx f (j + 1)) (pfx_pos f j) (pfx_sub (fun i hi => (o.1 i hi).2) (show j + 1 ≤ n by omega))
    have h4 := tl_ge dp o m (j + 1) (by omega) v' h2
    have e1 : sJ0 (edF l f) (j + 1) = sJ0 (edF l f) j + poW l (pfx f (j + 1)) := rfl
    have e2 : pfx f j ||| 2 ^ f j = pfx f (j + 1) := rfl
    rw [e2] at h1
    omega
def GdP (W : Nat → Int) (N n : Nat) (g : Nat → Nat) : Prop := ∀ i, i < n → g i < 8 ∧ av N (pfx g i) (g i) ∧ LFp W N (pfx g i) (W (pfx g (i + 1))) ∧ ∀ k, k < g i → av N (pfx g i) k → W (pfx g i ||| 2 ^ k) ≠ W (pfx g (i + 1))
theorem pcN_ad {S k : Nat} (h : S.testBit k = false) : ∀ m, pcN (S ||| 2 ^ k) m = pcN S m + (if k < m then 1 else 0)
  | 0 => rfl
  | m + 1 => by
    have ih := pcN_ad h m
    show pcN (S ||| 2 ^ k) m + (if (S ||| 2 ^ k).testBit m then 1 else 0) = pcN S m + (if S.testBit m then 1 else 0) + (if k < m + 1 then 1 else 0)
    rw [ih, Nat.testBit_or, Nat.testBit_two_pow]
    by_cases z : k = m
    · subst z
      rw [h, if_neg (show ¬ k < k by omega), if_pos (show k < k + 1 by omega)]
      simp
    · rw [decide_eq_false z, Bool.or_false]
      by_cases z2 : k < m
      · rw [if_pos z2, if_pos (show k < m + 1 by omega)]; omega
      · rw [if_neg z2, if_neg (show ¬ k < m + 1 by omega)]; omega
theorem pcN_sb {S N : Nat} (h : sub S N) : ∀ m, pcN S m ≤ pcN N m ∧ (pcN S m = pcN N m → ∀ k, k < m → N.testBit k = true → S.testBit k = true)
  | 0 => ⟨Nat.le_refl _, fun _ k hk => by omega⟩
  | m + 1 => by
    have ih := pcN_sb h m
    have e1 : pcN S (m + 1) = pcN S m + (if S.testBit m then 1 else 0) := rfl
    have e2 : pcN N (m + 1) = pcN N m + (if N.testBit m then 1 else 0) := rfl
    have hm := h m
    rw [e1, e2]
    cases hS : S.testBit m
    · cases hN : N.testBit m
      · refine ⟨by simpa using ih.1, fun e k hk hb => ?_⟩
        by_cases z : k = m
        · subst z; rw [hN] at hb; exact absurd hb (by decide)
        · exact ih.2 (by simpa using e) k (by omega) hb
      · refine ⟨by simp; omega, fun e => ?_⟩
        exfalso
        simp at e
        omega
    · rw [hm hS]
      refine ⟨by simpa using ih.1, fun e k hk hb => ?_⟩
      by_cases z : k = m
      · subst z; exact hS
      · exact ih.2 (by simpa using e) k (by omega) hb
theorem gd_pc {W : Nat → Int} {N n : Nat} {g : Nat → Nat} (G : GdP W N n g) : ∀ i, i ≤ n → pcN (pfx g i) 8 = i
  | 0, _ => pcN_0 8
  | i + 1, h => by
    have q := G i (by omega)
    show pcN (pfx g i ||| 2 ^ g i) 8 = i + 1
    rw [pcN_ad q.2.1.2, gd_pc G i (by omega), if_pos q.1]
theorem gd_o {W : Nat → Int} {N n : Nat} {g : Nat → Nat} (hN : N < 256) (en : n = pcN N 8) (G : GdP W N n g) : IsO N n g := by
  refine ⟨fun i hi => ⟨(G i hi).1, (G i hi).2.1.1⟩, ?_, fun k hk => ?_⟩
  · have k : ∀ i j, i < j → j < n → g i ≠ g j := fun i j hij hj e => by
      have q := (G j hj).2.1.2
      rw [(pfx_tb g (g j) j).mpr ⟨i, hij, e⟩] at q
      exact absurd q (by decide)
    intro i j hi hj e
    rcases Nat.lt_trichotomy i j with z | z | z
    · exact absurd e (k i j z hj)
    · exact z
    · exact absurd e.symm (k j i z hi)
  · have k8 : k < 8 := by
      by_cases z : k < 8
      · exact z
      · rw [Nat.testBit_lt_two_pow (Nat.lt_of_lt_of_le hN (show 2 ^ 8 ≤ 2 ^ k from Nat.pow_le_pow_right (by decide) (by omega)))] at hk
        exact absurd hk (by decide)
    have s : sub (pfx g n) N := pfx_sub (fun i hi => (G i hi).2.1.1) (Nat.le_refl _)
    have := (pcN_sb s 8).2 (by rw [gd_pc G n (Nat.le_refl _), en]) k k8 hk
    exact (pfx_tb g k n).mp this
theorem tl_eq {W : Nat → Int} {l : List Nat} {N n : Nat} {g : Nat → Nat} (dp : ∀ T, 0 < T → sub T N → DPp W l N T) (G : GdP W N n g) (o : IsO N n g) : ∀ (m j : Nat), j + m = n → ∀ v, LFp W N (pfx g j) v → v + ((sJ0 (edF l g) j : Nat) : Int) = ((sJ0 (edF l g) n : Nat) : Int)
  | 0, j, e, v, h => by
    have ej : j = n := by omega
    subst ej
    rcases h.2 with ⟨k, h1, h2⟩ | ⟨h1, h2⟩
    · obtain ⟨i, hi, ei⟩ := o.2.2 k h1.1
      have := (pfx_tb g k j).mpr ⟨i, hi, ei⟩
      rw [h1.2] at this
      exact absurd this (by decide)
    · omega
  | m + 1, j, e, v, h => by
    have h1 := h.u (G j (by omega)).2.2.1
    obtain ⟨v', h2, h3⟩ := dp (pfx g (j + 1)) (pfx_pos g j) (pfx_sub (fun i hi => (o.1 i hi).2) (show j + 1 ≤ n by omega))
    have h4 := tl_eq dp G o m (j + 1) (by omega) v' h2
    have e1 : sJ0 (edF l g) (j + 1) = sJ0 (edF l g) j + poW l (pfx g (j + 1)) := rfl
    omega
theorem trunk_eq {W : Nat → Int} {l : List Nat} {N n : Nat} {g g' : Nat → Nat} {v best : Int} (hN : N < 256) (en : n = pcN N 8) (hl : ∀ x ∈ l, N.testBit x = true) (dp : ∀ T, 0 < T → sub T N → DPp W l N T) (G : GdP W N n g) (hv : LFp W N 0 v) (o' : IsO N n g') (b1 : best = cst l n g') (b2 : ∀ f, IsO N n f → best ≤ cst l n f) (b3 : ∀ f, IsO N n f → lx n f g' → best < cst l n f) : v = best ∧ eqn n g g' := by
  have o := gd_o hN en G
  have c1 : v = cst l n g := by
    have := tl_eq dp G o n 0 (by omega) v hv
    rw [cst_ed o hl, ← this]
    show v = v + ((0 : Nat) : Int)
    omega
  have c2 : ∀ f, IsO N n f → v ≤ cst l n f := fun f of => by
    have := tl_ge dp of n 0 (by omega) v hv
    rw [cst_ed of hl]
    have e : ((sJ0 (edF l f) 0 : Nat) : Int) = 0 := rfl
    omega
  have c3 : ∀ f, IsO N n f → lx n f g → v < cst l n f := fun f of ⟨d, h1, h2, h3⟩ => by
    have ep : ∀ i, i ≤ d → pfx f i = pfx g i := fun i hi => pfx_cg (fun j hj => h2 j (by omega))
    have q := G d h1
    have a1 := of.av h1
    rw [ep d (Nat.le_refl _)] at a1
    have n1 := q.2.2.2 (f d) h3 a1
    have n2 := q.2.2.1.1 (f d) a1
    have ef : pfx f (d + 1) = pfx g d ||| 2 ^ f d := by rw [← ep d (Nat.le_refl _)]; rfl
    rw [← ef] at n1 n2
    obtain ⟨v', k2, k3⟩ := dp (pfx f (d + 1)) (pfx_pos f d) (pfx_sub (fun i hi => (of.1 i hi).2) (show d + 1 ≤ n by omega))
    have k4 := tl_ge dp of (n - d - 1) (d + 1) (by omega) v' k2
    have e1 : sJ0 (edF l f) (d + 1) = sJ0 (edF l f) d + poW l (pfx f (d + 1)) := rfl
    have e2 : sJ0 (edF l f) d = sJ0 (edF l g) d := sJ0_cg (fun j hj => by show poW l (pfx f (j + 1)) = poW l (pfx g (j + 1)); rw [ep (j + 1) (by omega)])
    have k5 := tl_eq dp G o (n - d) d (by omega) _ q.2.2.1
    rw [c1, cst_ed o hl, cst_ed of hl]
    omega
  have d1 := b2 g o
  have d2 := c2 g' o'
  have ev : v = best := by omega
  refine ⟨ev, ?_⟩
  rcases lx_tri g g' n with e | e | e
  · exact e
  · have := b3 g o e; omega
  · have := c3 g' o' e; omega

