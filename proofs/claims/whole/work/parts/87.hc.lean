/-! hands: left and right told apart or not, the least costs are the same -/
def pj (a : Nat) : Nat := if a < 2 then a else 2
def pjF (f : Nat → Nat) : Nat → Nat := fun i => pj (f i)
theorem pj_b (a : Nat) : pj a < 3 := by unfold pj; split <;> omega
theorem pj_0 (a : Nat) : (0 < pj a ↔ 0 < a) ∧ (1 < pj a ↔ 1 < a) ∧ (pj a = 2 ↔ 2 ≤ a) := by unfold pj; split <;> omega
theorem chg_pj {a b : Nat} : chg (pj a) (pj b) ≤ chg a b := by
  unfold chg pj
  (repeat' split) <;> omega
theorem chg_al : ∀ t, t < 4 → ∀ u, u < 4 → (2 ≤ t → pj u = 2 → u = t) → chg (u : Nat) (t : Nat) = chg (pj u : Nat) (pj t : Nat) := by decide +kernel
def Fine (n : Nat) (f : Nat → Nat) : Prop := ∀ i j, i < n → j < n → 2 ≤ f i → f j = f i → i = j
def Tw2 (n : Nat) (p : Nat → Nat) : Prop := ∀ i j k, i < n → j < n → k < n → p i = 2 → p j = 2 → p k = 2 → i = j ∨ i = k ∨ j = k
def Dem (S H : Nat) (cs : Nat → Nat) (n : Nat) (f : Nat → Nat) : Prop := ∀ i, i < n → (S.testBit (cs i) = true → 0 < f i) ∧ (H.testBit (cs i) = true → 1 < f i)
theorem fine_tw {n : Nat} {f : Nat → Nat} (d : Dg 4 n f) (q : Fine n f) : Tw2 n (pjF f) := fun i j k hi hj hk ei ej ek => by
  have a1 := (pj_0 (f i)).2.2.mp ei
  have a2 := (pj_0 (f j)).2.2.mp ej
  have a3 := (pj_0 (f k)).2.2.mp ek
  have b1 := d i hi
  have b2 := d j hj
  have b3 := d k hk
  by_cases z1 : f j = f i
  · exact Or.inl (q i j hi hj a1 z1)
  · by_cases z2 : f k = f i
    · exact Or.inr (Or.inl (q i k hi hk a1 z2))
    · exact Or.inr (Or.inr (q j k hj hk a2 (by omega)))
theorem dem_pj {S H n : Nat} {cs f : Nat → Nat} : Dem S H cs n (pjF f) ↔ Dem S H cs n f := by
  constructor
  · intro d i hi
    exact ⟨fun z => (pj_0 (f i)).1.mp ((d i hi).1 z), fun z => (pj_0 (f i)).2.1.mp ((d i hi).2 z)⟩
  · intro d i hi
    exact ⟨fun z => (pj_0 (f i)).1.mpr ((d i hi).1 z), fun z => (pj_0 (f i)).2.1.mpr ((d i hi).2 z)⟩
/-- hides held before and after keep their hand, another takes what is free -/
theorem hand_ch {n : Nat} {p t : Nat → Nat} (dp : Dg 3 n p) (t2 : Tw2 n p) (dt : Dg 4 n t) (ft : Fine n t) : ∃ u, Dg 4 n u ∧ Fine n u ∧ ∀ i, i < n → pj (u i) = p i ∧ (2 ≤ t i → p i = 2 → u i = t i) := by
  have pl : ∀ q, q < 2 → pj q = q := fun q hq => if_pos hq
  by_cases e1 : ∃ a, a < n ∧ p a = 2
  · obtain ⟨a, ha, pa⟩ := e1
    have ta := dt a ha
    by_cases e2 : ∃ b, b < n ∧ b ≠ a ∧ p b = 2
    · obtain ⟨b, hb, hba, pb⟩ := e2
      have tb := dt b hb
      have h3 : ∀ i, i < n → i ≠ a → i ≠ b → p i < 2 := fun i hi z1 z2 => by
        have q1 := dp i hi
        have q : p i ≠ 2 := fun z => by have := t2 i a b hi ha hb z pa pb; omega
        omega
      have hx : ∃ x y : Nat, ((x = 2 ∧ y = 3) ∨ (x = 3 ∧ y = 2)) ∧ (2 ≤ t a → x = t a) ∧ (2 ≤ t b → y = t b) := by
        have q : 2 ≤ t a → t b ≠ t a := fun z z2 => hba (ft a b ha hb z z2).symm
        by_cases z : 2 ≤ t a
        · refine ⟨t a, 5 - t a, by omega, fun _ => rfl, fun z2 => ?_⟩
          have := q z
          omega
        · by_cases z2 : 2 ≤ t b
          · exact ⟨5 - t b, t b, by omega, fun q => absurd q z, fun _ => rfl⟩
          · exact ⟨2, 3, by omega, fun q => absurd q z, fun q => absurd q z2⟩
      obtain ⟨x, y, hxy, h1, h2⟩ := hx
      obtain ⟨u, ua, ub, uo⟩ : ∃ u : Nat → Nat, u a = x ∧ u b = y ∧ ∀ i, i ≠ a → i ≠ b → u i = p i := ⟨fun i => if i = a then x else if i = b then y else p i, if_pos rfl, by show (if b = a then x else if b = b then y else p b) = y; rw [if_neg hba, if_pos rfl], fun i z1 z2 => by show (if i = a then x else if i = b then y else p i) = p i; rw [if_neg z1, if_neg z2]⟩
      refine ⟨u, fun i hi => ?_, fun i j hi hj z e => ?_, fun i hi => ?_⟩
      · by_cases z1 : i = a
        · subst z1; omega
        · by_cases z2 : i = b
          · subst z2; omega
          · rw [uo i z1 z2]; have := h3 i hi z1 z2; omega
      · by_cases z1 : i = a
        · by_cases y1 : j = a
          · omega
          · by_cases y2 : j = b
            · subst z1; subst y2; omega
            · have := h3 j hj y1 y2
              have := uo j y1 y2
              omega
        · by_cases z2 : i = b
          · by_cases y1 : j = a
            · subst z2; subst y1; omega
            · by_cases y2 : j = b
              · omega
              · have := h3 j hj y1 y2
                have := uo j y1 y2
                omega
          · have := h3 i hi z1 z2
            have := uo i z1 z2
            omega
      · by_cases z1 : i = a
        · subst z1
          exact ⟨by rw [pa]; exact (pj_0 _).2.2.mpr (by omega), fun z _ => by rw [ua]; exact h1 z⟩
        · by_cases z2 : i = b
          · subst z2
            exact ⟨by rw [pb]; exact (pj_0 _).2.2.mpr (by omega), fun z _ => by rw [ub]; exact h2 z⟩
          · have q1 := h3 i hi z1 z2
            rw [uo i z1 z2]
            exact ⟨pl _ q1, fun _ z => by omega⟩
    · have h3 : ∀ i, i < n → i ≠ a → p i < 2 := fun i hi z1 => by
        have q1 := dp i hi
        have q : p i ≠ 2 := fun z => e2 ⟨i, hi, z1, z⟩
        omega
      obtain ⟨x, hx, h1⟩ : ∃ x : Nat, (x = 2 ∨ x = 3) ∧ (2 ≤ t a → x = t a) := by
        by_cases z : 2 ≤ t a
        · exact ⟨t a, by omega, fun _ => rfl⟩
        · exact ⟨2, by omega, fun q => absurd q z⟩
      obtain ⟨u, ua, uo⟩ : ∃ u : Nat → Nat, u a = x ∧ ∀ i, i ≠ a → u i = p i := ⟨fun i => if i = a then x else p i, if_pos rfl, fun i z1 => if_neg z1⟩
      refine ⟨u, fun i hi => ?_, fun i j hi hj z e => ?_, fun i hi => ?_⟩
      · by_cases z1 : i = a
        · subst z1; omega
        · rw [uo i z1]; have := h3 i hi z1; omega
      · by_cases z1 : i = a
        · by_cases y1 : j = a
          · omega
          · have := h3 j hj y1
            have := uo j y1
            subst z1
            omega
        · have := h3 i hi z1
          have := uo i z1
          omega
      · by_cases z1 : i = a
        · subst z1
          exact ⟨by rw [pa]; exact (pj_0 _).2.2.mpr (by omega), fun z _ => by rw [ua]; exact h1 z⟩
        · have q1 := h3 i hi z1
          rw [uo i z1]
          exact ⟨pl _ q1, fun _ z => by omega⟩
  · have h3 : ∀ i, i < n → p i < 2 := fun i hi => by
      have q1 := dp i hi
      have q : p i ≠ 2 := fun z => e1 ⟨i, hi, z⟩
      omega
    refine ⟨p, fun i hi => by have := h3 i hi; omega, fun i j hi hj z e => by have := h3 i hi; omega, fun i hi => ?_⟩
    have q1 := h3 i hi
    exact ⟨pl _ q1, fun _ z => by omega⟩
def JK4 (n : Nat) (C4 C3 : Nat → Int) : Prop := (∀ f, Dg 4 n f → C3 (enc 3 (pjF f) n) ≤ C4 (enc 4 f n)) ∧ (∀ f, Dg 4 n f → Fine n f → C4 (enc 4 f n) ≤ C3 (enc 3 (pjF f) n)) ∧ (∀ f, Dg 4 n f → C4 (enc 4 f n) ≤ 1000000) ∧ (∀ p, Dg 3 n p → C3 (enc 3 p n) ≤ 1000000)
def JJ (n : Nat) (C4 C3 : Nat → Int) : Prop := JK4 n C4 C3 ∧ (∀ p, Dg 3 n p → ¬ Tw2 n p → 1000000 ≤ C3 (enc 3 p n))
theorem pjF_dg {n : Nat} {f : Nat → Nat} : Dg 3 n (pjF f) := fun i _ => pj_b (f i)
theorem JJ.ch {n : Nat} {C4 C3 D4 D3 : Nat → Int} (j : JJ n C4 C3) (c4 : ChP 4 n n C4 D4) (c3 : ChP 3 n n C3 D3) : JK4 n D4 D3 := by
  have nv : ∀ {f g : Nat → Nat} (i : Nat), n ≤ i → i < n → f i = g i := fun i h1 h2 => absurd h2 (by omega)
  have b4 : ∀ f, Dg 4 n f → D4 (enc 4 f n) ≤ 1000000 := fun f df => by
    have h1 := c4.1 f f df df (fun _ _ _ => rfl)
    rw [smC_s] at h1
    have h2 := j.1.2.2.1 f df
    omega
  refine ⟨fun f df => ?_, fun f df ff => ?_, b4, fun f df => ?_⟩
  · obtain ⟨g, dg, _, h1⟩ := c4.2 f df
    have h2 := c3.1 (pjF f) (pjF g) pjF_dg pjF_dg nv
    have h3 := j.1.1 g dg
    have h4 : smC (pjF g) (pjF f) n ≤ smC g f n := smC_le (fun i _ => chg_pj)
    omega
  · obtain ⟨p, dp, _, h1⟩ := c3.2 (pjF f) pjF_dg
    by_cases t2 : Tw2 n p
    · obtain ⟨u, du, fu, hu⟩ := hand_ch dp t2 df ff
      have h2 := c4.1 f u df du nv
      have h3 := j.1.2.1 u du fu
      rw [enc_cg (B := 3) (f := pjF u) (g := p) (fun i hi => (hu i hi).1)] at h3
      have h4 : smC u f n = smC p (pjF f) n := smC_cg (fun i hi => by
        rw [chg_al (f i) (df i hi) (u i) (du i hi) (fun z z2 => (hu i hi).2 z ((hu i hi).1.symm.trans z2)), (hu i hi).1]
        rfl)
      omega
    · have h2 := j.2 p dp t2
      have h3 := smC_b p (pjF f) n
      have h4 := b4 f df
      omega
  · have h1 := c3.1 f f df df (fun _ _ _ => rfl)
    rw [smC_s] at h1
    have h2 := j.1.2.2.2 f df
    omega
def FitP (B n : Nat) (ok : (Nat → Nat) → Prop) (D E : Nat → Int) : Prop := ∀ f, Dg B n f → (ok f → E (enc B f n) = D (enc B f n)) ∧ (¬ ok f → E (enc B f n) = 1000000)
theorem JK4.fit {n S H : Nat} {cs : Nat → Nat} {D4 D3 E4 E3 : Nat → Int} (j : JK4 n D4 D3) (f4 : FitP 4 n (fun f => Fine n f ∧ Dem S H cs n f) D4 E4) (f3 : FitP 3 n (fun p => Tw2 n p ∧ Dem S H cs n p) D3 E3) : JJ n E4 E3 := by
  have b3 : ∀ p, Dg 3 n p → E3 (enc 3 p n) ≤ 1000000 := fun p dp => by
    by_cases z : Tw2 n p ∧ Dem S H cs n p
    · rw [(f3 p dp).1 z]; exact j.2.2.2 p dp
    · rw [(f3 p dp).2 z]; omega
  refine ⟨⟨fun f df => ?_, fun f df ff => ?_, fun f df => ?_, b3⟩, fun p dp t2 => ?_⟩
  · by_cases z : Fine n f ∧ Dem S H cs n f
    · rw [(f4 f df).1 z, (f3 (pjF f) pjF_dg).1 ⟨fine_tw df z.1, dem_pj.mpr z.2⟩]
      exact j.1 f df
    · rw [(f4 f df).2 z]
      exact b3 _ pjF_dg
  · by_cases z : Dem S H cs n f
    · rw [(f4 f df).1 ⟨ff, z⟩, (f3 (pjF f) pjF_dg).1 ⟨fine_tw df ff, dem_pj.mpr z⟩]
      exact j.2.1 f df ff
    · rw [(f4 f df).2 (fun t => z t.2), (f3 (pjF f) pjF_dg).2 (fun t => z (dem_pj.mp t.2))]
      omega
  · by_cases z : Fine n f ∧ Dem S H cs n f
    · rw [(f4 f df).1 z]; exact j.2.2.1 f df
    · rw [(f4 f df).2 z]; omega
  · rw [(f3 p dp).2 (fun t => t2 t.1)]; omega
theorem enc_z {B : Nat} {f : Nat → Nat} (hB : 0 < B) : ∀ {n : Nat}, enc B f n = 0 ↔ ∀ i, i < n → f i = 0
  | 0 => ⟨fun _ i hi => by omega, fun _ => rfl⟩
  | n + 1 => by
    have ih := enc_z (f := f) hB (n := n)
    have hp : 0 < B ^ n := Nat.pow_pos hB
    constructor
    · intro h i hi
      have h1 : enc B f n + f n * B ^ n = 0 := h
      have h2 : f n * B ^ n = 0 := by omega
      by_cases e : i = n
      · subst e
        rcases Nat.mul_eq_zero.mp h2 with z | z
        · exact z
        · omega
      · exact ih.mp (by omega) i (by omega)
    · intro h
      show enc B f n + f n * B ^ n = 0
      rw [ih.mpr (fun i hi => h i (by omega)), h n (by omega), Nat.zero_mul]
def R0P (B n : Nat) (C : Nat → Int) : Prop := ∀ f, Dg B n f → C (enc B f n) = if enc B f n = 0 then 0 else 1000000
def R3P (y : SY) (cs : Nat → Nat) (n : Nat) : Nat → (Nat → Int) → Prop
  | 0, C => R0P 3 n C
  | s + 1, C => ∃ C0 D0, R3P y cs n s C0 ∧ ChP 3 n n C0 D0 ∧ FitP 3 n (fun p => Tw2 n p ∧ Dem (ySh y s) (yHd y s) cs n p) D0 C
def R4P (y : SY) (cs : Nat → Nat) (n : Nat) : Nat → (Nat → Int) → Prop
  | 0, C => R0P 4 n C
  | s + 1, C => ∃ C0 D0, R4P y cs n s C0 ∧ ChP 4 n n C0 D0 ∧ FitP 4 n (fun p => Fine n p ∧ Dem (ySh y s) (yHd y s) cs n p) D0 C
theorem JJ_0 {n : Nat} {C4 C3 : Nat → Int} (r4 : R0P 4 n C4) (r3 : R0P 3 n C3) : JJ n C4 C3 := by
  have e : ∀ f, enc 3 (pjF f) n = 0 ↔ enc 4 f n = 0 := fun f => by
    rw [enc_z (by decide), enc_z (by decide)]
    constructor
    · intro z i hi
      have q := (pj_0 (f i)).1
      have q2 : pj (f i) = 0 := z i hi
      omega
    · intro z i hi
      show pj (f i) = 0
      rw [z i hi]; rfl
  have e2 : ∀ f, Dg 4 n f → C4 (enc 4 f n) = C3 (enc 3 (pjF f) n) := fun f df => by
    rw [r4 f df, r3 (pjF f) pjF_dg]
    by_cases z : enc 4 f n = 0
    · rw [if_pos z, if_pos ((e f).mpr z)]
    · rw [if_neg z, if_neg (fun t => z ((e f).mp t))]
  refine ⟨⟨fun f df => by rw [e2 f df]; omega, fun f df _ => by rw [e2 f df]; omega, fun f df => by rw [r4 f df]; split <;> omega, fun f df => by rw [r3 f df]; split <;> omega⟩, fun p dp t2 => ?_⟩
  rw [r3 p dp, if_neg]
  · omega
  · intro z
    rw [enc_z (by decide)] at z
    exact t2 (fun i j k hi _ _ e _ _ => by rw [z i hi] at e; omega)
theorem JJ_all {y : SY} {cs : Nat → Nat} {n : Nat} : ∀ {s : Nat} {C4 C3 : Nat → Int}, R4P y cs n s C4 → R3P y cs n s C3 → JJ n C4 C3
  | 0, _, _, r4, r3 => JJ_0 r4 r3
  | _ + 1, _, _, ⟨_, _, r4, c4, f4⟩, ⟨_, _, r3, c3, f3⟩ => ((JJ_all r4 r3).ch c4 c3).fit f4 f3
theorem hands_eq {y : SY} {cs : Nat → Nat} {n s : Nat} {C4 C3 D4 D3 : Nat → Int} (r4 : R4P y cs n s C4) (r3 : R3P y cs n s C3) (c4 : ChP 4 n n C4 D4) (c3 : ChP 3 n n C3 D3) : D3 0 = D4 0 := by
  have k := (JJ_all r4 r3).ch c4 c3
  have d0 : Dg 4 n (fun _ => 0) := fun _ _ => by show 0 < 4; decide
  have e4 : enc 4 (fun _ => 0) n = 0 := (enc_z (by decide)).mpr (fun _ _ => rfl)
  have e3 : enc 3 (pjF (fun _ => 0)) n = 0 := (enc_z (by decide)).mpr (fun _ _ => rfl)
  have h1 := k.1 _ d0
  have h2 := k.2.1 _ d0 (fun i j _ _ z _ => absurd z (by show ¬ 2 ≤ 0; decide))
  rw [e4, e3] at h1 h2
  omega

