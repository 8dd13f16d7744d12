/-! the made heap keeps the invariant -/
theorem I0_p {a : Nat} (h : 97 ≤ a ∧ a ≤ 115 ∧ a % 2 = 1) : I0 a 1 = -1 := by
  unfold I0
  rw [if_neg (by omega), if_neg (by omega), if_pos (by omega)]
theorem I0_k {k : Nat} (h : k < 729) : I0 42 k = ((helN k 6 * 64 ||| outN k 6 : Nat) : Int) := by
  unfold I0
  rw [if_neg (by decide), if_pos ⟨rfl, h⟩]
theorem I0_g : I0 3 1 = 30 ∧ I0 3 2 = 2 := by decide +kernel
theorem made_R {h : JH} (r : RF (FM 49) h) : ∀ a k, hR h a k = R0 a k := fun a k => by
  by_cases q : FM 49 a k
  · exact (r a k).1 q
  · rw [(r a k).2 q]
    symm
    exact R0_n (by unfold Fz; unfold FM FS FG at q; omega)
theorem made_I {h : JH} (g : GJ (fM4 4) h) : ∀ a k, ¬ Irr a k → hI h a k = I0 a k := fun a k w => by
  by_cases q : fM4 4 a k
  · exact (g a k w).1 q
  · rw [(g a k w).2 q]
    symm
    unfold fM4 at q
    by_cases e : a = 122
    · rw [e]; exact I0_s.2.2.2 (by omega)
    · exact I0_z (by omega)
theorem irr_n {a k : Nat} (h : (a < 16 ∨ 40 < a) ∧ (a < 56 ∨ 95 < a) ∧ a ≠ 3) : ¬ Irr a k := by
  unfold Irr
  omega
theorem irr_3 {k : Nat} (h : k ≠ 3) : ¬ Irr 3 k := by
  unfold Irr
  omega
theorem inv_made {h : JH} (I : IMt 151 49 (fM4 4) 1 h) : Inv h := by
  obtain ⟨t, r, g, j1, j2, j3, j4⟩ := I
  have hr := made_R r
  have hi := made_I g
  have z : ∀ a k, ((a < 16 ∨ 40 < a) ∧ (a < 56 ∨ 95 < a) ∧ a ≠ 3) → (a ≠ 42 ∧ ¬ (97 ≤ a ∧ a ≤ 115) ∧ a ≠ 117 ∧ a ≠ 119 ∧ a ≠ 122) → hI h a k = 0 := fun a k h1 h2 => (hi a k (irr_n h1)).trans (I0_z ⟨h1.2.2, h2⟩)
  have zm : ∀ k, k ≠ 13 ∧ k ≠ 14 → hI h 117 k = 0 := fun k hk => (hi 117 k (irr_n (by decide))).trans (I0_m hk)
  have w : WF h := by
    refine ⟨?_, fun a k _ => hr a k, Or.inl ⟨(hr 13 0).trans r0_8.1, (hr 13 2).trans r0_8.2⟩⟩
    rw [t.2, List.take_of_length_le (by rw [S0_len]; exact Nat.le_refl _)]
  have c1 : iRw h := fun q hq => by
    have e1 : hI h 119 q = -9 := (hi 119 q (irr_n (by decide))).trans (I0_s.1 hq)
    have e2 : hI h (97 + 2 * q) 1 = -1 := (hi _ 1 (irr_n (by omega))).trans (I0_p (by omega))
    refine ⟨Or.inl ⟨e1, e2⟩, fun i hh => ?_⟩
    rw [e1] at hh
    omega
  have c2 : iTx h := fun q hq => by
    have e1 : hI h 122 q = -9 := (hi 122 q (irr_n (by decide))).trans (I0_s.2.2.1 hq)
    have e2 : hI h (109 + 2 * q) 1 = -1 := (hi _ 1 (irr_n (by omega))).trans (I0_p (by omega))
    refine ⟨Or.inl ⟨e1, e2⟩, fun i hh => ?_⟩
    rw [e1] at hh
    omega
  have c3 : iHd h := by
    refine ⟨fun _ => (0, 0, 0), fun k _ => ⟨Nat.zero_le _, Nat.zero_le _, (by decide : (0 : Nat) < 65536)⟩, fun k hk => ?_, fun k hk => ?_⟩
    · exact ⟨z 124 k (by decide) (by decide), z 125 k (by decide) (by decide), z 126 k (by decide) (by decide)⟩
    · refine ⟨?_, fun q => absurd rfl q⟩
      rw [z (5 + k) 0 (by omega) (by omega)]
      rfl
  have c4 : iLm h := by
    have e1 : hI h 3 1 = 30 := (hi 3 1 (irr_3 (by decide))).trans I0_g.1
    have e2 : hI h 3 2 = 2 := (hi 3 2 (irr_3 (by decide))).trans I0_g.2
    have e3 : hI h 117 13 = 30 := (hi 117 13 (irr_n (by decide))).trans I0_l.1
    have e4 : hI h 117 14 = 2 := (hi 117 14 (irr_n (by decide))).trans I0_l.2
    unfold iLm
    rw [e1, e2, e3, e4]
    exact ⟨rfl, rfl, by decide, by decide⟩
  have c5 : iSy h := by
    refine ⟨(0, fun _ => (0, 0, 0, 0, 0, 0, 0, 0)), 0, ⟨⟨Nat.zero_le _, fun s hs => absurd hs (Nat.not_lt_zero s)⟩, Nat.zero_le _⟩, ⟨zm 15 (by decide), fun s hs => absurd hs (Nat.not_lt_zero s)⟩, Nat.zero_le _, (hr 13 0).trans r0_8.1, (hr 13 2).trans r0_8.2, z 13 1 (by decide) (by decide), fun s hs => absurd hs (Nat.not_lt_zero s)⟩
  have c6 : iSg h := by
    refine ⟨fun _ => (0, 0), fun i _ => ⟨Nat.zero_le _, (by decide : (0 : Nat) < 2 ^ 0)⟩, fun i hh => ⟨z 146 i (by decide) (by decide), fun q => absurd q (Nat.not_lt_zero 0)⟩, fun k hk => ⟨z 49 k (by decide) (by decide), fun i q => absurd q (Nat.not_lt_zero i)⟩⟩
  have c7 : iMo h := by
    refine ⟨(0, fun _ _ => 0), ⟨Nat.zero_le _, fun q hq => absurd hq (Nat.not_lt_zero q)⟩, ⟨zm 47 (by decide), fun q hq => absurd hq (Nat.not_lt_zero q)⟩, ⟨z 54 1 (by decide) (by decide), fun q hq => absurd hq (Nat.not_lt_zero q)⟩⟩
  have c8 : iTl h := by
    refine ⟨(z 0 10 (by decide) (by decide)).trans (zm 0 (by decide)).symm, fun q _ => (z 96 q (by decide) (by decide)).trans (z 118 q (by decide) (by decide)).symm, (z 0 11 (by decide) (by decide)).trans (zm 2 (by decide)).symm, j1.trans j3.symm, j2.trans j4.symm⟩
  have c9 : iMk h := fun q hq => (hi 42 q (irr_n (by decide))).trans (I0_k hq)
  exact ⟨w, c1, c2, c3, c4, c5, c6, c7, c8, c9⟩
/-- before the reference's constructor -/
theorem im_start {h : JH} (t : Tk 117 h) (r : RF (FS 6 4) h) (g : GI 117 h) (j1 : hJ h 0 12 = 0) (j2 : hJ h 0 13 = 1) : IMt 118 0 fM0 0 (nw h 12 50) := by
  have e : ∀ a k, hJ (nw h 12 50) a k = if a = 117 then 0 else hJ h a k := fun a k => by
    have e : hJ (nw h 12 50) a k = if a = h.1.length then 0 else hJ h a k := rfl
    rw [e, t.len]
  refine ⟨Tk_nw t (by decide) (by decide +kernel), ?_, ?_, ?_, ?_, ?_, ?_⟩
  · exact (RF_nw (k := 12) (n := 50) r t (fun k => by unfold FS FG; omega)).up (fun x y => by unfold FM; exact ⟨fun q => q.elim id (fun q => absurd q.2 (Nat.not_lt_zero _)), Or.inl⟩)
  · intro a k w
    have e2 := GI_nw (k := 12) (n := 50) g t (Nat.le_refl _) a k w
    rw [e2]
    unfold fM0
    exact ⟨fun q => if_pos q, fun q => if_neg q⟩
  · rw [e, if_neg (by decide)]; exact j1
  · rw [e, if_neg (by decide)]; exact j2
  · rw [e, if_pos rfl]
  · rw [e, if_pos rfl]

