/-! sure: the reference's search -/
def ScW (a k : Nat) : Prop := a = 149 ∨ a = 148 ∨ (a = 117 ∧ k = 45)
/-- what is left, as one number -/
def RCc (g : SG) (x : Nat) : Prop := ∃ n row, row < 2 ^ n ∧ n ≤ 8 ∧ x = 2 ^ n + row ∧ RC g n row
def MS (g : SG) (h : JH) : Prop := (∀ x, x < 512 → hI h 148 x = 0 ∨ hI h 148 x = 1) ∧ hI h 117 45 = cnM (hI h 148) 512 ∧ (∀ i : Nat, (i : Int) < hI h 117 45 → 0 ≤ hI h 149 i ∧ hI h 149 i < 512 ∧ hI h 148 (hI h 149 i).toNat = 1) ∧ (∀ x, x < 512 → hI h 148 x = 1 → ∃ i : Nat, (i : Int) < hI h 117 45 ∧ hI h 149 i = (x : Int)) ∧ (∀ x, x < 512 → hI h 148 x = 1 → RCc g x)
def Gw (h h' : JH) : Prop := (∀ y, hI h 148 y = 1 → hI h' 148 y = 1) ∧ (∀ i : Nat, (i : Int) < hI h 117 45 → hI h' 149 i = hI h 149 i) ∧ hI h 117 45 ≤ hI h' 117 45
theorem Gw.rf {h : JH} : Gw h h := ⟨fun _ z => z, fun _ _ => rfl, Int.le_refl _⟩
theorem Gw.tr {h h' h2 : JH} (a : Gw h h') (b : Gw h' h2) : Gw h h2 := ⟨fun y z => b.1 y (a.1 y z), fun i z => (b.2.1 i (by have := a.2.2; omega)).trans (a.2.1 i z), by have := a.2.2; have := b.2.2; omega⟩
theorem orp {n row : Nat} (h : row < 2 ^ n) : 2 ^ n ||| row = 2 ^ n + row := by
  have := Nat.two_pow_add_eq_or_of_lt h 1
  rw [Nat.mul_one] at this
  exact this.symm
theorem cd_lt {n row : Nat} (h : row < 2 ^ n) (hn : n ≤ 8) : 2 ^ n + row < 512 := by
  have : 2 ^ n ≤ 2 ^ 8 := Nat.pow_le_pow_right (by decide) hn
  have e : (2 : Nat) ^ 8 = 256 := rfl
  omega
theorem c_X12_leaves {d : Nat} {h : JH} {P : JH → Prop} {g : SG} {n row : Nat} (w : WF h) (q : MS g h) (hn : n ≤ 8) (hr : row < 2 ^ n) (s : RC g n row) (hP : ∀ h', Fr ScW h h' → MS g h' → Gw h h' → hI h' 148 (2 ^ n + row) = 1 → P h') : JRv d jX12_leaves [vr 117, vi n, vi row] h P := by
  have hx := cd_lt hr hn
  have p2 : 2 ^ n < 2147483648 := by omega
  have s : RCc g (2 ^ n + row) := ⟨n, row, hr, hn, rfl, s⟩
  have ex : ior (ishl 1 n) row = ((2 ^ n + row : Nat) : Int) := by rw [sh2 (by omega), ior_n (by omega) (by omega), orp hr]
  generalize 2 ^ n + row = x at *
  have q1 : hI h 148 ((x : Int)).toNat = 0 ∨ hI h 148 ((x : Int)).toNat = 1 := q.1 x hx
  have cl : hI h 148 ((x : Int)).toNat = 0 → hI h 117 45 < 512 := fun z => by rw [q.2.1]; exact cnM_lt hx z
  have cb := cnM_b (hI h 148) 512
  rw [← q.2.1] at cb
  obtain ⟨m, em⟩ : ∃ m : Nat, hI h 117 45 = (m : Int) := ⟨(hI h 117 45).toNat, by omega⟩
  have hE : hI h 148 x = 0 → m < 512 → P (sI (sI (sI h 148 x 1) 149 m (x : Int)) 117 45 ((m : Int) + 1)) := by
    intro z hm
    have f : Fr ScW h (sI (sI (sI h 148 x 1) 149 m (x : Int)) 117 45 ((m : Int) + 1)) := ((Fr.rf.sI _ (Or.inr (Or.inl rfl))).sI _ (Or.inl rfl)).sI _ (Or.inr (Or.inr ⟨rfl, rfl⟩))
    have eQ : ∀ y, hI (sI (sI (sI h 148 x 1) 149 m (x : Int)) 117 45 ((m : Int) + 1)) 148 y = if y = x then 1 else hI h 148 y := fun y => by
      rw [sI_o _ (by decide), sI_o _ (by decide)]
      by_cases e : y = x
      · rw [if_pos e, e, sI_s]
      · rw [if_neg e, sI_k _ e]
    have eU : ∀ i, hI (sI (sI (sI h 148 x 1) 149 m (x : Int)) 117 45 ((m : Int) + 1)) 149 i = if i = m then (x : Int) else hI h 149 i := fun i => by
      rw [sI_o _ (by decide)]
      by_cases e : i = m
      · rw [if_pos e, e, sI_s]
      · rw [if_neg e, sI_k _ e, sI_o _ (by decide)]
    have eS : hI (sI (sI (sI h 148 x 1) 149 m (x : Int)) 117 45 ((m : Int) + 1)) 117 45 = (m : Int) + 1 := by rw [sI_s]
    generalize sI (sI (sI h 148 x 1) 149 m (x : Int)) 117 45 ((m : Int) + 1) = h2 at *
    refine hP _ f ⟨fun y hy => ?_, ?_, fun i hi => ?_, fun y hy e => ?_, fun y hy e => ?_⟩ ⟨fun y e => ?_, fun i hi => ?_, by omega⟩ ?_
    · rw [eQ]; split
      · exact Or.inr rfl
      · exact q.1 y hy
    · have := cnM_s (F := hI h 148) (G := hI h2 148) z (by rw [eQ, if_pos rfl]; decide) (fun y hy => by rw [eQ, if_neg hy]) 512
      rw [eS, this, if_pos hx, ← q.2.1, em]
    · rw [eU]
      by_cases e : i = m
      · rw [if_pos e]; exact ⟨by omega, by omega, by rw [show ((x : Int)).toNat = x from rfl, eQ, if_pos rfl]⟩
      · rw [if_neg e]
        have t := q.2.2.1 i (by omega)
        refine ⟨t.1, t.2.1, ?_⟩
        rw [eQ]; split
        · rfl
        · exact t.2.2
    · rw [eQ] at e
      by_cases z2 : y = x
      · exact ⟨m, by omega, by rw [eU, if_pos rfl, z2]⟩
      · rw [if_neg z2] at e
        obtain ⟨i, h1, h2'⟩ := q.2.2.2.1 y hy e
        exact ⟨i, by omega, by rw [eU, if_neg (by omega)]; exact h2'⟩
    · rw [eQ] at e
      by_cases z2 : y = x
      · rw [z2]; exact s
      · rw [if_neg z2] at e; exact q.2.2.2.2 y hy e
    · rw [eQ]; split
      · rfl
      · exact e
    · rw [eU, if_neg (by omega)]
    · rw [eQ, if_pos rfl]
  refine JRet.of rfl (Nat.le_of_ble_eq_true rfl) ?_
  refine st_iconst (q := 1) dX12_leaves_0 ⟨by decide, by decide⟩ rfl ?_
  refine st_iload_n (q := 2) dX12_leaves_1 rfl rfl ?_
  refine st_ishl (q := 3) dX12_leaves_2 rfl ?_
  refine st_iload_n (q := 4) dX12_leaves_3 rfl rfl ?_
  refine st_ior (q := 5) dX12_leaves_4 rfl ?_
  refine j_top (x : Int) ex ?_
  refine st_istore_n (q := 6) (i := 3) dX12_leaves_5 rfl (by decide) rfl ?_
  refine st_aload_n (q := 7) dX12_leaves_6 rfl rfl ?_
  refine st_getR (q := 10) 12 43 dX12_leaves_7 fl_X12_111 (by decide) (by decide) rfl rfl (wfk w rfl) (wfR w rfl) ?_
  refine st_iload_n (q := 11) dX12_leaves_10 rfl rfl ?_
  refine st_baload (q := 12) dX12_leaves_11 rfl (wfk w rfl) (wfb w (n := 512) rfl ⟨by omega, by omega⟩) ?_
  refine st_if_ne (q := 15) (tgt := 42) dX12_leaves_12 (by decide) rfl (fun c12 => ?_) (fun c12 => ?_)
  · refine rt_v dX12_leaves_42 rfl ?_
    first | exact hE (by have : hI h 148 ((x : Int)).toNat = 0 := (by omega); exact this) (by omega) | exact hP _ Fr.rf q Gw.rf (by have : hI h 148 ((x : Int)).toNat = 1 := (by omega); exact this)
  · refine st_aload_n (q := 16) dX12_leaves_15 rfl rfl ?_
    refine st_getR (q := 19) 12 43 dX12_leaves_16 fl_X12_111 (by decide) (by decide) rfl rfl (wfk w rfl) (wfR w rfl) ?_
    refine st_iload_n (q := 20) dX12_leaves_19 rfl rfl ?_
    refine st_iconst (q := 21) dX12_leaves_20 ⟨by decide, by decide⟩ rfl ?_
    refine st_bastore (q := 22) dX12_leaves_21 rfl (wfk w rfl) (wfb w (n := 512) rfl ⟨by omega, by omega⟩) (Or.inr rfl) ?_
    refine st_aload_n (q := 23) dX12_leaves_22 rfl rfl ?_
    refine st_getR (q := 26) 12 44 dX12_leaves_23 fl_X12_115 (by decide) (by decide) rfl rfl (wfk w rfl) (wfR w rfl) ?_
    refine st_aload_n (q := 27) dX12_leaves_26 rfl rfl ?_
    refine st_getI (q := 30) 12 45 dX12_leaves_27 fl_X12_286 (by decide) (by decide) rfl rfl (wfk w rfl) ?_
    refine j_top (m : Int) (by rw [sI_o _ (by decide)]; exact em) ?_
    refine st_iload_n (q := 31) dX12_leaves_30 rfl rfl ?_
    refine st_iastore (q := 32) dX12_leaves_31 rfl (wfk w rfl) (wfb w (n := 512) rfl ⟨by omega, by omega⟩) ?_
    refine st_aload_n (q := 33) dX12_leaves_32 rfl rfl ?_
    refine st_dup (q := 34) dX12_leaves_33 rfl rfl ?_
    refine st_getI (q := 37) 12 45 dX12_leaves_34 fl_X12_286 (by decide) (by decide) rfl rfl (wfk w rfl) ?_
    refine j_top (m : Int) (by rw [sI_o _ (by decide), sI_o _ (by decide)]; exact em) ?_
    refine st_iconst (q := 38) dX12_leaves_37 ⟨by decide, by decide⟩ rfl ?_
    first | refine n_iadd (q := 39) dX12_leaves_38 rfl ⟨by omega, by omega⟩ ?_ | refine st_iadd (q := 39) dX12_leaves_38 rfl ?_
    refine st_putI (q := 42) 12 45 dX12_leaves_39 fl_X12_286 (by decide) (by decide) (Or.inl rfl) rfl (Or.inl rfl) (wfk w rfl) ?_
    refine rt_v dX12_leaves_42 rfl ?_
    first | exact hE (by have : hI h 148 ((x : Int)).toNat = 0 := (by omega); exact this) (by omega) | exact hP _ Fr.rf q Gw.rf (by have : hI h 148 ((x : Int)).toNat = 1 := (by omega); exact this)

