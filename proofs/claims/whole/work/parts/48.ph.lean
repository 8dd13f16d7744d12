/-! both sides answer alike: hides and the lamp -/
theorem rh1 {k : Nat} (hk : k < 8) (x : Nat) : rgHd (5 + k) x := by unfold rgHd; omega
theorem rh2 (k : Nat) : rgHd 124 k := by unfold rgHd; omega
theorem rh3 (k : Nat) : rgHd 125 k := by unfold rgHd; omega
theorem rh4 (k : Nat) : rgHd 126 k := by unfold rgHd; omega
theorem hd_tl : ∀ a k, rgTl a k → ¬ rgHd a k := by intro a k z; simp only [rgTl, rgHd] at z ⊢; omega
def uPut (u : HD) (k a b c : Nat) : HD := fun j => if j = k then (a, b, c) else u j
theorem uPut_s (u : HD) (k a b c : Nat) : uPut u k a b c k = (a, b, c) := if_pos rfl
theorem uPut_o (u : HD) {k a b c j : Nat} (h : j ≠ k) : uPut u k a b c j = u j := if_neg h
theorem uPut_ok {u : HD} (o : uOk u) {k a b c : Nat} (ha : a ≤ 60) (hb : b ≤ 60) (hc : c < 65536) : uOk (uPut u k a b c) := fun j hj => by
  unfold uW uH uO
  by_cases e : j = k
  · subst e; rw [uPut_s]; exact ⟨ha, hb, hc⟩
  · rw [uPut_o u e]; exact o j hj
theorem pr_hide {d : Nat} {h : JH} {k a b c : Int} (I : Inv h) : Two (d + 4) jX11_hide jX12_hide [vi k, vi a, vi b, vi c] h := by
  have w := I.1
  obtain ⟨u, o, m, x⟩ := I.2.2.2.1
  refine c_X11_hide w (fun q => ?_) (fun q => ?_)
  · exact c_X12_hide w (fun _ => ⟨rfl, I⟩) (fun z => by exfalso; omega)
  · have hk : k.toNat < 8 := by omega
    refine c_X12_hide (h := mhH h k.toNat a b c) w (fun z => by exfalso; omega) (fun _ => ⟨?_, ?_⟩)
    · have := bitsF_n (a := c.toNat) (by omega) 16 (by omega)
      rw [show ((c.toNat : Nat) : Int) = c by omega] at this
      exact this.symm
    · have f : Fq rgHd h (hideH (mhH h k.toNat a b c) k a b c) := ((((((Fq.rf.sI _ (rh1 hk _)).sI _ (rh1 hk _)).sI _ (rh1 hk _)).sI _ (rh1 hk _)).sI _ (rh2 _)).sI _ (rh3 _)).sI _ (rh4 _)
      refine inv_hd I (f.up (fun _ _ z => Or.inl z)) ⟨uPut u k.toNat a.toNat b.toNat c.toNat, uPut_ok o (by omega) (by omega) (by omega), fun j hj => ?_, fun j hj => ?_⟩ (I.2.2.2.2.2.2.2.2.1.fr f hd_tl)
      · have mj := m j hj
        unfold uW uH uO at mj ⊢
        unfold hideH mhH
        by_cases e : j = k.toNat
        · subst e
          rw [uPut_s, sI_o _ (by decide), sI_o _ (by decide), sI_s, sI_o _ (by decide), sI_s, sI_s]
          exact ⟨by show a = (a.toNat : Int); omega, by show b = (b.toNat : Int); omega, by show c = (c.toNat : Int); omega⟩
        · rw [uPut_o u e, sI_o _ (by decide), sI_o _ (by decide), sI_k _ e, sI_o _ (by omega), sI_o _ (by omega), sI_o _ (by omega), sI_o _ (by omega), sI_o _ (by decide), sI_k _ e, sI_o _ (by decide), sI_o _ (by omega), sI_o _ (by omega), sI_o _ (by omega), sI_o _ (by omega), sI_k _ e, sI_o _ (by decide), sI_o _ (by decide), sI_o _ (by omega), sI_o _ (by omega), sI_o _ (by omega), sI_o _ (by omega)]
          exact mj
      · have xj := x j hj
        have es : ∀ x, hI (hideH (mhH h k.toNat a b c) k a b c) (5 + j) x = hI (mhH h k.toNat a b c) (5 + j) x := fun x => by
          unfold hideH
          rw [sI_o _ (by omega), sI_o _ (by omega), sI_o _ (by omega)]
        rw [es, es, es, es]
        unfold uW uH uO at xj ⊢
        unfold mhH
        by_cases e : j = k.toNat
        · subst e
          rw [uPut_s, sI_k _ (by decide), sI_k _ (by decide), sI_k _ (by decide), sI_s, sI_k _ (by decide), sI_k _ (by decide), sI_s, sI_k _ (by decide), sI_s, sI_s]
          refine ⟨(if_neg (show ¬ c.toNat = 0 by omega)).symm, fun _ => ⟨?_, ?_, ?_⟩⟩
          · show a = (a.toNat : Int); omega
          · show b = (b.toNat : Int); omega
          · show c = (c.toNat : Int); omega
        · rw [uPut_o u e, sI_o _ (by omega), sI_o _ (by omega), sI_o _ (by omega), sI_o _ (by omega), sI_o _ (by omega), sI_o _ (by omega), sI_o _ (by omega), sI_o _ (by omega), sI_o _ (by omega), sI_o _ (by omega), sI_o _ (by omega), sI_o _ (by omega), sI_o _ (by omega), sI_o _ (by omega), sI_o _ (by omega), sI_o _ (by omega)]
          exact xj
theorem pr_drop {d : Nat} {h : JH} {k : Int} (I : Inv h) : Two (d + 4) jX11_drop jX12_drop [vi k] h := by
  have w := I.1
  obtain ⟨u, o, m, x⟩ := I.2.2.2.1
  have mk : 0 ≤ k ∧ k ≤ 7 → hI h 126 k.toNat = (uO u k.toNat : Nat) := fun q => (m k.toNat (by omega)).2.2
  refine c_X11_drop w x (fun q => ?_) (fun q q2 => ?_) (fun q q2 => ?_)
  · exact c_X12_drop w (fun _ => ⟨rfl, I⟩) (fun _ _ => by exfalso; omega) (fun _ _ => by exfalso; omega)
  · have m2 := mk q
    exact c_X12_drop (h := fnH h 1) w (fun _ => by exfalso; omega) (fun _ _ => ⟨rfl, inv_find I (by decide)⟩) (fun _ (z : hI h 126 k.toNat ≠ 0) => by exfalso; omega)
  · have m2 := mk q
    have hk : k.toNat < 8 := by omega
    have e0 : hI (sI h (5 + k.toNat) 0 0) 126 k.toNat = hI h 126 k.toNat := by rw [sI_o _ (by omega)]
    refine c_X12_drop (h := sI h (5 + k.toNat) 0 0) w (fun _ => by exfalso; omega) (fun _ z => by rw [e0] at z; exfalso; omega) (fun _ _ => ⟨rfl, ?_⟩)
    have f : Fq rgHd h (sI (sI h (5 + k.toNat) 0 0) 126 k.toNat 0) := (Fq.rf.sI _ (rh1 hk _)).sI _ (rh4 _)
    refine inv_hd I (f.up (fun _ _ z => Or.inl z)) ⟨uSet u k.toNat 0, uSet_ok o (by omega), ?_, fun j hj => ?_⟩ (I.2.2.2.2.2.2.2.2.1.fr f hd_tl)
    · have m3 : HM (sI h (5 + k.toNat) 0 0) u := fun j hj => ⟨(sI_o _ (by omega)).trans (m j hj).1, (sI_o _ (by omega)).trans (m j hj).2.1, (sI_o _ (by omega)).trans (m j hj).2.2⟩
      exact uSet_hm m3
    · have xj := x j hj
      have es : ∀ x, hI (sI (sI h (5 + k.toNat) 0 0) 126 k.toNat 0) (5 + j) x = hI (sI h (5 + k.toNat) 0 0) (5 + j) x := fun x => by rw [sI_o _ (by omega)]
      rw [es, es, es, es]
      unfold uW uH uO at xj ⊢
      by_cases e : j = k.toNat
      · subst e
        have e1 : uSet u k.toNat 0 k.toNat = (uW u k.toNat, uH u k.toNat, 0) := if_pos rfl
        rw [e1, sI_s]
        exact ⟨(if_pos rfl).symm, fun z => absurd rfl z⟩
      · have e1 : uSet u k.toNat 0 j = u j := if_neg e
        rw [e1, sI_o _ (by omega), sI_o _ (by omega), sI_o _ (by omega), sI_o _ (by omega)]
        exact xj
theorem pr_lamp {d : Nat} {h : JH} {a b : Int} (I : Inv h) : Two (d + 4) jX11_lamp jX12_lamp [vi a, vi b] h := by
  have w := I.1
  refine c_X11_lamp w (fun q => ?_) (fun q => ?_)
  · exact c_X12_lamp w (fun _ => ⟨rfl, I⟩) (fun _ => by exfalso; omega)
  · refine c_X12_lamp (h := sI (sI h 3 1 a) 3 2 b) w (fun _ => by exfalso; omega) (fun _ => ⟨rfl, ?_⟩)
    have f : Fq rgLm h (sI (sI (sI (sI h 3 1 a) 3 2 b) 117 13 a) 117 14 b) := (((Fq.rf.sI _ (by unfold rgLm; omega)).sI _ (by unfold rgLm; omega)).sI _ (by unfold rgLm; omega)).sI _ (by unfold rgLm; omega)
    refine inv_lm I (f.up (fun _ _ z => Or.inl z)) ⟨rfl, rfl, ?_, ?_⟩ (I.2.2.2.2.2.2.2.2.1.fr f (by intro a k z; simp only [rgTl, rgLm] at z ⊢; omega))
    · show 2 ≤ a ∧ a ≤ 60; omega
    · show 0 ≤ b ∧ b ≤ 9; omega
theorem aboutF_u {h : JH} {u : HD} {k what : Int} (m : HM h u) (hk : 0 ≤ k ∧ k ≤ 7) : aboutF h k what = tlU u k.toNat what := by
  have mk := m k.toNat (by omega)
  unfold aboutF tlU
  rw [mk.1, mk.2.1, mk.2.2]
  rfl
theorem pr_about {d : Nat} {h : JH} {k what : Int} (I : Inv h) : Two (d + 4) jX11_about jX12_about [vi k, vi what] h := by
  have w := I.1
  obtain ⟨u, o, m, x⟩ := I.2.2.2.1
  have mk : 0 ≤ k ∧ k ≤ 7 → hI h 126 k.toNat = (uO u k.toNat : Nat) := fun q => (m k.toNat (by omega)).2.2
  have ho : ∀ k, k < 8 → 0 ≤ hI h 126 k ∧ hI h 126 k ≤ 65535 := fun k hk => by rw [(m k hk).2.2]; have := (o k hk).2.2; omega
  refine c_X11_about w x o (fun q => ?_) (fun q q1 q2 => ?_) (fun q q1 q2 => ?_)
  · exact c_X12_about w ho (fun _ => ⟨rfl, I⟩) (fun _ _ _ => by exfalso; omega) (fun _ _ _ => by exfalso; omega)
  · have m2 := mk q
    exact c_X12_about (h := fnH h 1) w ho (fun _ => by exfalso; omega) (fun _ _ _ => ⟨rfl, inv_find I (by decide)⟩) (fun _ _ (z : hI h 126 k.toNat ≠ 0) => by exfalso; omega)
  · have m2 := mk q
    refine c_X12_about (h := sI h 0 11 (tlU u k.toNat what)) w ho (fun _ => by exfalso; omega) (fun _ _ (z : hI h 126 k.toNat = 0) => by exfalso; omega) (fun _ _ _ => ⟨rfl, ?_⟩)
    rw [aboutF_u (u := u) (h := sI h 0 11 (tlU u k.toNat what)) m q]
    exact inv_ask I _
theorem iTl_fr {h : JH} (t : iTl h) (up low : Int) : iTl (shH (tfH h up low) up low) := ⟨t.1, t.2.1, t.2.2.1, rfl, rfl⟩
theorem inv_fr {h : JH} (I : Inv h) (up low : Int) : Inv (shH (tfH h up low) up low) := inv_tl I ((((Fq.rf.sJ _ (Or.inl (by unfold rgTl; omega))).sJ _ (Or.inl (by unfold rgTl; omega))).sJ _ (Or.inl (by unfold rgTl; omega))).sJ _ (Or.inl (by unfold rgTl; omega))) (iTl_fr I.2.2.2.2.2.2.2.2.1 up low)
theorem pr_shadow {d : Nat} {h : JH} {k z x what : Int} (I : Inv h) : Two (d + 4) jX11_shadow jX12_shadow [vi k, vi z, vi x, vi what] h := by
  have w := I.1
  obtain ⟨u, o, m, hx⟩ := I.2.2.2.1
  obtain ⟨l1, l2, l3, l4⟩ := I.2.2.2.2.1
  have mk : 0 ≤ k ∧ k ≤ 7 → hI h 126 k.toNat = (uO u k.toNat : Nat) := fun q => (m k.toNat (by omega)).2.2
  have hw : ∀ k, k < 8 → (0 ≤ hI h 124 k ∧ hI h 124 k ≤ 60) ∧ (0 ≤ hI h 125 k ∧ hI h 125 k ≤ 60) := fun k hk => by rw [(m k hk).1, (m k hk).2.1]; have := o k hk; omega
  refine c_X11_shadow w hx o (by omega) (by omega) (fun q => ?_) (fun q q1 q2 q3 => ?_) (fun q q1 q2 q3 => ?_)
  · exact c_X12_shadow w l3 l4 hw (fun _ => ⟨rfl, I⟩) (fun _ _ _ _ => by exfalso; omega) (fun _ _ _ _ => by exfalso; omega)
  · have m2 := mk q
    exact c_X12_shadow (h := fnH h 1) w l3 l4 hw (fun t => by have t : ¬ (0 ≤ k ∧ k ≤ 7) ∨ ¬ ((0 ≤ z ∧ z < hI h 117 13) ∧ (-99 ≤ x ∧ x ≤ 99)) ∨ ¬ (0 ≤ what ∧ what ≤ 3) := t; exfalso; omega) (fun _ _ _ _ => ⟨rfl, inv_find I (by decide)⟩) (fun _ _ _ (z : hI h 126 k.toNat ≠ 0) => by exfalso; omega)
  · have m2 := mk q
    have eu : shUp h k z x what = shU u (hI h 3 1) (hI h 3 2) k.toNat z x what := by
      unfold shUp shU
      rw [(m k.toNat (by omega)).1, (m k.toNat (by omega)).2.1, l1, l2]
    rw [← eu, l1]
    refine c_X12_shadow (h := tfH h (shUp h k z x what) (hI h 117 13 - z)) w l3 l4 hw (fun t => by have t : ¬ (0 ≤ k ∧ k ≤ 7) ∨ ¬ ((0 ≤ z ∧ z < hI h 117 13) ∧ (-99 ≤ x ∧ x ≤ 99)) ∨ ¬ (0 ≤ what ∧ what ≤ 3) := t; exfalso; omega) (fun _ _ _ (t : hI h 126 k.toNat = 0) => by exfalso; omega) (fun _ _ _ _ => ⟨rfl, ?_⟩)
    exact inv_fr I _ _
theorem pr_covers {d : Nat} {h : JH} {k z x o v y : Int} (I : Inv h) : Two (d + 4) jX11_covers jX12_covers [vi k, vi z, vi x, vi o, vi v, vi y] h := by
  have w := I.1
  obtain ⟨u, ok, m, hx⟩ := I.2.2.2.1
  obtain ⟨l1, l2, l3, l4⟩ := I.2.2.2.2.1
  have mk : 0 ≤ k ∧ k ≤ 7 → hI h 126 k.toNat = (uO u k.toNat : Nat) := fun q => (m k.toNat (by omega)).2.2
  have mo : 0 ≤ o ∧ o ≤ 7 → hI h 126 o.toNat = (uO u o.toNat : Nat) := fun q => (m o.toNat (by omega)).2.2
  have hw : ∀ k, k < 8 → (0 ≤ hI h 124 k ∧ hI h 124 k ≤ 60) ∧ (0 ≤ hI h 125 k ∧ hI h 125 k ≤ 60) := fun k hk => by rw [(m k hk).1, (m k hk).2.1]; have := ok k hk; omega
  refine c_X11_covers w hx ok (by omega) (fun q => ?_) (fun q q1 => ?_) (fun q q1 q2 => ?_)
  · exact c_X12_covers w l3 hw (fun _ => ⟨rfl, I⟩) (fun _ _ => by exfalso; omega) (fun _ _ _ => by exfalso; omega)
  · have m2 := mk q.1
    have m3 := mo q.2.1
    exact c_X12_covers (h := fnH h 1) w l3 hw (fun t => by have t : ¬ ((0 ≤ k ∧ k ≤ 7) ∧ (0 ≤ o ∧ o ≤ 7) ∧ ((0 ≤ z ∧ z < hI h 117 13) ∧ (-99 ≤ x ∧ x ≤ 99)) ∧ ((0 ≤ v ∧ v < hI h 117 13) ∧ (-99 ≤ y ∧ y ≤ 99))) := t; exfalso; omega) (fun _ _ => ⟨rfl, inv_find I (by decide)⟩) (fun _ (t1 : hI h 126 k.toNat ≠ 0) (t2 : hI h 126 o.toNat ≠ 0) => by exfalso; omega)
  · have m2 := mk q.1
    have m3 := mo q.2.1
    refine c_X12_covers w l3 hw (fun t => by exfalso; omega) (fun _ _ => by exfalso; omega) (fun _ _ _ => ⟨?_, I⟩)
    unfold cvU covF
    rw [(m k.toNat (by omega)).1, (m o.toNat (by omega)).1, l1]
theorem low1 {up low : Int} (hl : 0 < low ∧ low < 16384) (hu : 0 ≤ up ∧ up < 1000000) : (w64 (low.tdiv (Nat.gcd low.natAbs up.natAbs)) = 1) ↔ up.tmod low = 0 := by
  obtain ⟨a, rfl⟩ := Int.eq_ofNat_of_zero_le (show 0 ≤ low by omega)
  obtain ⟨b, rfl⟩ := Int.eq_ofNat_of_zero_le hu.1
  rw [Int.natAbs_natCast, Int.natAbs_natCast, tmod_n, tdiv_n]
  have hg : 0 < Nat.gcd a b := Nat.gcd_pos_of_pos_left _ (by omega)
  have hd : Nat.gcd a b ∣ a := Nat.gcd_dvd_left a b
  have hdm := Nat.div_mul_cancel hd
  have hle : a / Nat.gcd a b ≤ a := Nat.div_le_self _ _
  have hself : Nat.gcd a b = a → a / Nat.gcd a b = 1 := fun z => by rw [z]; exact Nat.div_self (by omega)
  generalize a / Nat.gcd a b = cc at *
  rw [w64_id ⟨by omega, by omega⟩]
  constructor
  · intro h1
    have h2 : cc = 1 := by omega
    rw [h2, Nat.one_mul] at hdm
    have h4 : a ∣ b := by
      have := Nat.gcd_dvd_right a b
      rw [hdm] at this
      exact this
    have := Nat.mod_eq_zero_of_dvd h4
    omega
  · intro h1
    have h2 : b % a = 0 := by omega
    have h3 : Nat.gcd a b = a := Nat.gcd_eq_left (Nat.dvd_of_mod_eq_zero h2)
    have := hself h3
    omega
theorem pr_place {d : Nat} {h : JH} {k s : Int} (I : Inv h) : Two (d + 4) jX11_place jX12_place [vi k, vi s] h := by
  have w := I.1
  obtain ⟨u, ok, m, hx⟩ := I.2.2.2.1
  obtain ⟨l1, l2, l3, l4⟩ := I.2.2.2.2.1
  have mk : 0 ≤ k ∧ k ≤ 7 → hI h 126 k.toNat = (uO u k.toNat : Nat) ∧ hI h 124 k.toNat = (uW u k.toNat : Nat) := fun q => ⟨(m k.toNat (by omega)).2.2, (m k.toNat (by omega)).1⟩
  have hw : ∀ k, k < 8 → (0 ≤ hI h 124 k ∧ hI h 124 k ≤ 60) ∧ (0 ≤ hI h 125 k ∧ hI h 125 k ≤ 60) := fun k hk => by rw [(m k hk).1, (m k hk).2.1]; have := ok k hk; omega
  refine c_X11_place w hx ok (by omega) (fun q => ?_) (fun q q1 => ?_) (fun q q1 q2 => ?_) (fun q q1 q2 => ?_)
  · exact c_X12_place w l3 hw (fun _ => ⟨rfl, I⟩) (fun _ _ => by exfalso; omega) (fun _ _ _ => by exfalso; omega) (fun _ _ _ => by exfalso; omega)
  · have m2 := mk q.1
    exact c_X12_place (h := fnH h 1) w l3 hw (fun t => by exfalso; omega) (fun _ _ => ⟨rfl, inv_find I (by decide)⟩) (fun _ (t1 : hI h 126 k.toNat ≠ 0) _ => by exfalso; omega) (fun _ (t1 : hI h 126 k.toNat ≠ 0) _ => by exfalso; omega)
  · have m2 := mk q.1
    exact c_X12_place w l3 hw (fun t => by exfalso; omega) (fun _ _ => by exfalso; omega) (fun _ _ _ => ⟨rfl, I⟩) (fun _ _ _ => by exfalso; omega)
  · have m2 := mk q.1
    have p1 := mul_b (B := 9999) (show 0 ≤ hI h 117 13 by omega) l3.2 (show 0 ≤ s - uW u k.toNat by omega) (show s - uW u k.toNat ≤ 9999 by omega)
    rw [l1]
    refine c_X12_place (h := tfH h (hI h 117 13 * (s - uW u k.toNat)) s) w l3 hw (fun t => by exfalso; omega) (fun _ (t : hI h 126 k.toNat = 0) => by exfalso; omega) (fun _ _ (t : s < hI h 124 k.toNat) => by exfalso; omega) (fun _ _ _ => ?_)
    have e1 : hI (tfH h (hI h 117 13 * (s - uW u k.toNat)) s) 124 k.toNat = (uW u k.toNat : Nat) := m2.2
    have e2 : hI (tfH h (hI h 117 13 * (s - uW u k.toNat)) s) 117 13 = hI h 117 13 := rfl
    rw [e1, e2]
    refine ⟨?_, inv_fr I _ _⟩
    have e3 := low1 (up := hI h 117 13 * (s - uW u k.toNat)) (low := s) (by omega) (by omega)
    have e4 : hJ (tfH h (hI h 117 13 * (s - uW u k.toNat)) s) 0 13 = w64 (s.tdiv (Nat.gcd s.natAbs (hI h 117 13 * (s - uW u k.toNat)).natAbs)) := rfl
    rw [e4]
    by_cases t : (hI h 117 13 * (s - uW u k.toNat)).tmod s = 0
    · rw [if_pos (e3.mpr t), if_pos t]
    · rw [if_neg (fun z => t (e3.mp z)), if_neg t]

