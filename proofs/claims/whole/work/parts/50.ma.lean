/-! cells that do not matter, from both sides -/
/-- how far x is from the nearest of the first j hides other than k (17: there is none) -/
def fnF (u : HD) (k x : Nat) : Nat → Nat
  | 0 => 17
  | j + 1 => if j = k ∨ uO u j = 0 then fnF u k x j else if fnF u k x j ≤ apN x (uO u j) then fnF u k x j else apN x (uO u j)
theorem fnF_le (u : HD) (k x : Nat) : ∀ j, fnF u k x j ≤ 17
  | 0 => Nat.le_refl _
  | j + 1 => by
    have := fnF_le u k x j
    unfold fnF
    (repeat' split) <;> omega
theorem fnF_iff (u : HD) (k x n : Nat) : ∀ j, n ≤ fnF u k x j ↔ n ≤ 17 ∧ ∀ i, i < j → i = k ∨ uO u i = 0 ∨ n ≤ apN x (uO u i)
  | 0 => ⟨fun h => ⟨h, fun i hi => absurd hi (Nat.not_lt_zero i)⟩, fun h => h.1⟩
  | j + 1 => by
    have ih := fnF_iff u k x n j
    unfold fnF
    constructor
    · intro h
      split at h
      · rename_i c
        refine ⟨(ih.mp h).1, fun i hi => ?_⟩
        by_cases e : i = j
        · subst e; omega
        · exact (ih.mp h).2 i (by omega)
      · rename_i c
        have h2 : n ≤ fnF u k x j := by split at h <;> omega
        refine ⟨(ih.mp h2).1, fun i hi => ?_⟩
        by_cases e : i = j
        · subst e; right; right; split at h <;> omega
        · exact (ih.mp h2).2 i (by omega)
    · intro h
      have h2 : n ≤ fnF u k x j := ih.mpr ⟨h.1, fun i hi => h.2 i (by omega)⟩
      have h3 := h.2 j (by omega)
      split
      · exact h2
      · split <;> omega
theorem lp_X7_fromNearest {d : Nat} {h : JH} {P : Int → JH → Prop} {u : HD} {k x : Nat} (w : WF h) (hx : HX h u) (o : uOk u) (hxx : x < 65536) (hP : P (fnF u k x 8 : Nat) h) (j : Nat) (hj : j ≤ 8) : JAt k0 (d + 2) jX7_fromNearest 6 [vr 3, vi k, vi x, vi (fnF u k x j : Nat), vi j] [] h (jqi P) := by
  have xj0 : j < 8 → (hI h (5 + ((j : Int)).toNat) 0 = 0 ↔ uO u j = 0) := fun z => by rw [show ((j : Int)).toNat = j from rfl, (hx j z).1]; split <;> simp_all
  have e0 : fnF u k x (j + 1) = if j = k ∨ uO u j = 0 then fnF u k x j else if fnF u k x j ≤ apN x (uO u j) then fnF u k x j else apN x (uO u j) := rfl
  refine st_iload (q := 8) dX7_fromNearest_6 rfl rfl ?_
  refine st_aload_n (q := 9) dX7_fromNearest_8 rfl rfl ?_
  refine st_getR (q := 12) 7 0 dX7_fromNearest_9 fl_X7_11 (by decide) (by decide) rfl rfl (wfk w rfl) (wfR w rfl) ?_
  refine st_arraylength (q := 13) (t := 3) dX7_fromNearest_12 rfl (by decide) (wfk w rfl) ?_
  rw [wfl w (n := 8) rfl]
  refine st_icmp_ge (q := 16) (tgt := 60) dX7_fromNearest_13 (by decide) rfl (fun c13 => ?_) (fun c13 => ?_)
  · refine st_iload_n (q := 61) dX7_fromNearest_60 rfl rfl ?_
    refine rt_i dX7_fromNearest_61 rfl ?_
    exact pq hP (by rw [show j = 8 by omega]) rfl
  · refine st_iload (q := 18) dX7_fromNearest_16 rfl rfl ?_
    refine st_iload_n (q := 19) dX7_fromNearest_18 rfl rfl ?_
    refine st_icmp_eq (q := 22) (tgt := 54) dX7_fromNearest_19 (by decide) rfl (fun c19 => ?_) (fun c19 => ?_)
    · first | refine n_iinc (q := 57) dX7_fromNearest_54 rfl (by decide) rfl ⟨by omega, by omega⟩ ?_ | refine st_iinc (q := 57) dX7_fromNearest_54 rfl (by decide) rfl ?_
      refine st_goto (q := 6) dX7_fromNearest_57 (by decide) ?_
      have t := lp_X7_fromNearest (d := d) (k := k) w hx o hxx hP (j + 1) (by omega)
      first | (rw [if_neg (by omega)] at e0; have e1 : ((fnF u k x (j + 1) : Nat) : Int) = if (fnF u k x j : Int) ≤ (apN x (uO u j) : Int) then (fnF u k x j : Int) else (apN x (uO u j) : Int) := (by rw [e0]; (repeat' split) <;> omega); rw [e1] at t; exact t) | (rw [if_pos (by first | exact Or.inl (by omega) | exact Or.inr ((xj0 (by omega)).mp c32))] at e0; rw [e0] at t; exact t)
    · refine st_aload_n (q := 23) dX7_fromNearest_22 rfl rfl ?_
      refine st_getR (q := 26) 7 0 dX7_fromNearest_23 fl_X7_11 (by decide) (by decide) rfl rfl (wfk w rfl) (wfR w rfl) ?_
      refine st_iload (q := 28) dX7_fromNearest_26 rfl rfl ?_
      refine st_aaload (q := 29) (t := 3) dX7_fromNearest_28 rfl ⟨by decide, by decide⟩ (wfk w rfl) (wfb w (n := 8) rfl ⟨by omega, by omega⟩) (xhide w (by omega)) ?_
      refine st_getI (q := 32) 2 0 dX7_fromNearest_29 fl_X7_28 (by decide) (by decide) rfl rfl (xhk w (by omega)) ?_
      refine st_if_eq (q := 35) (tgt := 54) dX7_fromNearest_32 (by decide) rfl (fun c32 => ?_) (fun c32 => ?_)
      · first | refine n_iinc (q := 57) dX7_fromNearest_54 rfl (by decide) rfl ⟨by omega, by omega⟩ ?_ | refine st_iinc (q := 57) dX7_fromNearest_54 rfl (by decide) rfl ?_
        refine st_goto (q := 6) dX7_fromNearest_57 (by decide) ?_
        have t := lp_X7_fromNearest (d := d) (k := k) w hx o hxx hP (j + 1) (by omega)
        first | (rw [if_neg (by omega)] at e0; have e1 : ((fnF u k x (j + 1) : Nat) : Int) = if (fnF u k x j : Int) ≤ (apN x (uO u j) : Int) then (fnF u k x j : Int) else (apN x (uO u j) : Int) := (by rw [e0]; (repeat' split) <;> omega); rw [e1] at t; exact t) | (rw [if_pos (by first | exact Or.inl (by omega) | exact Or.inr ((xj0 (by omega)).mp c32))] at e0; rw [e0] at t; exact t)
      · refine st_iload_n (q := 36) dX7_fromNearest_35 rfl rfl ?_
        refine st_iload_n (q := 37) dX7_fromNearest_36 rfl rfl ?_
        refine st_aload_n (q := 38) dX7_fromNearest_37 rfl rfl ?_
        refine st_getR (q := 41) 7 0 dX7_fromNearest_38 fl_X7_11 (by decide) (by decide) rfl rfl (wfk w rfl) (wfR w rfl) ?_
        refine st_iload (q := 43) dX7_fromNearest_41 rfl rfl ?_
        refine st_aaload (q := 44) (t := 3) dX7_fromNearest_43 rfl ⟨by decide, by decide⟩ (wfk w rfl) (wfb w (n := 8) rfl ⟨by omega, by omega⟩) (xhide w (by omega)) ?_
        refine st_getI (q := 47) 2 3 dX7_fromNearest_44 fl_X7_42 (by decide) (by decide) rfl rfl (xhk w (by omega)) ?_
        have hj8 : j < 8 := by omega
        have nj : uO u j ≠ 0 := fun z => c32 ((xj0 hj8).mpr z)
        refine j_top _ ((hx j hj8).2 nj).2.2 ?_
        refine iS2i (q := 50) dX7_fromNearest_47 rfl ml_X7_45 ms_X2_between (Nat.le_of_ble_eq_true rfl) ?_
        refine c_X2_between hxx (o j hj8).2.2 ?_
        refine st_mmin (q := 53) dX7_fromNearest_50 rfl ml_X7_49 (Nat.le_of_ble_eq_true rfl) ?_
        refine st_istore_n (q := 54) (i := 3) dX7_fromNearest_53 rfl (by decide) rfl ?_
        first | refine n_iinc (q := 57) dX7_fromNearest_54 rfl (by decide) rfl ⟨by omega, by omega⟩ ?_ | refine st_iinc (q := 57) dX7_fromNearest_54 rfl (by decide) rfl ?_
        refine st_goto (q := 6) dX7_fromNearest_57 (by decide) ?_
        have t := lp_X7_fromNearest (d := d) (k := k) w hx o hxx hP (j + 1) (by omega)
        first | (rw [if_neg (by omega)] at e0; have e1 : ((fnF u k x (j + 1) : Nat) : Int) = if (fnF u k x j : Int) ≤ (apN x (uO u j) : Int) then (fnF u k x j : Int) else (apN x (uO u j) : Int) := (by rw [e0]; (repeat' split) <;> omega); rw [e1] at t; exact t) | (rw [if_pos (by first | exact Or.inl (by omega) | exact Or.inr ((xj0 (by omega)).mp c32))] at e0; rw [e0] at t; exact t)
termination_by 8 - j
theorem c_X7_fromNearest {d : Nat} {h : JH} {P : Int → JH → Prop} {u : HD} {k x : Nat} (w : WF h) (hx : HX h u) (o : uOk u) (hxx : x < 65536) (hP : P (fnF u k x 8 : Nat) h) : JRi (d + 2) jX7_fromNearest [vr 3, vi k, vi x] h P := by
  refine JRet.of rfl (Nat.le_of_ble_eq_true rfl) ?_
  refine st_bipush (q := 2) dX7_fromNearest_0 ⟨by decide, by decide⟩ rfl ?_
  refine st_istore_n (q := 3) (i := 3) dX7_fromNearest_2 rfl (by decide) rfl ?_
  refine st_iconst (q := 4) dX7_fromNearest_3 ⟨by decide, by decide⟩ rfl ?_
  refine st_istore (q := 6) dX7_fromNearest_4 (by decide) rfl ?_
  exact lp_X7_fromNearest w hx o hxx hP 0 (by omega)
theorem c_X7_fromNearestI {d : Nat} {h : JH} {P : Int → JH → Prop} {u : HD} {k : Int} {x : Nat} (hk : 0 ≤ k) (w : WF h) (hx : HX h u) (o : uOk u) (hxx : x < 65536) (hP : P (fnF u k.toNat x 8 : Nat) h) : JRi (d + 2) jX7_fromNearest [vr 3, vi k, vi x] h P := by
  have := c_X7_fromNearest (d := d) (P := P) (k := k.toNat) w hx o hxx hP
  rw [Int.toNat_of_nonneg hk] at this
  exact this
theorem plS_iff (u : HD) (k n : Nat) : ∀ j, plS u k n j = true ↔ ∀ i, i < j → i = k ∨ uO u i = 0 ∨ n < apN (uO u k) (uO u i)
  | 0 => ⟨fun _ i hi => absurd hi (Nat.not_lt_zero i), fun _ => rfl⟩
  | j + 1 => by
    show (plS u k n j && plB u k n j) = true ↔ _
    rw [Bool.and_eq_true, plS_iff u k n j]
    unfold plB
    simp only [Bool.or_eq_true, decide_eq_true_eq]
    constructor
    · intro h i hi
      by_cases e : i = j
      · subst e; omega
      · exact h.1 i (by omega)
    · intro h
      exact ⟨fun i hi => h i (by omega), by have := h j (by omega); omega⟩
theorem plS_fn {u : HD} {k n : Nat} (hn : n ≤ 16) : plS u k n 8 = true ↔ n < fnF u k (uO u k) 8 := by
  rw [plS_iff, show n < fnF u k (uO u k) 8 ↔ n + 1 ≤ fnF u k (uO u k) 8 from Iff.rfl, fnF_iff]
  exact ⟨fun h => ⟨by omega, fun i hi => h i hi⟩, fun h => h.2⟩
theorem c_X7_standsOut {d : Nat} {h : JH} {P : Int → JH → Prop} {u : HD} {k : Int} {n : Nat} (w : WF h) (x : HX h u) (o : uOk u) (hk : 0 ≤ k ∧ k ≤ 7) (hu : uO u k.toNat ≠ 0) (hn : n ≤ 16) (hP : P (if plS u k.toNat n 8 then 1 else 0) h) : JRi (d + 3) jX7_standsOut [vr 3, vi k, vi n] h P := by
  have e := plS_fn (u := u) (k := k.toNat) hn
  have xk := ((x k.toNat (by omega)).2 hu).2.2
  have ek : k = (k.toNat : Int) := by omega
  refine JRet.of rfl (Nat.le_of_ble_eq_true rfl) ?_
  refine st_aload_n (q := 1) dX7_standsOut_0 rfl rfl ?_
  refine st_iload_n (q := 2) dX7_standsOut_1 rfl rfl ?_
  refine iV1i (q := 5) dX7_standsOut_2 rfl ml_X7_54 mv_X7_hasHide (Nat.le_of_ble_eq_true rfl) (wfk w rfl) ?_
  refine c_X7_hasHide w x ?_
  refine st_if_eq (q := 8) (tgt := 30) dX7_standsOut_5 (by decide) rfl (fun c5 => ?_) (fun c5 => ?_)
  · refine st_iconst (q := 31) dX7_standsOut_30 ⟨by decide, by decide⟩ rfl ?_
    refine rt_z dX7_standsOut_31 rfl (by (repeat' split) <;> omega) ?_
    first | (exfalso; omega) | (have t : plS u k.toNat n 8 = true := e.mpr (by omega); rw [t] at hP; exact hP) | (have t : plS u k.toNat n 8 = false := (by cases z : plS u k.toNat n 8; rfl; exact absurd (e.mp z) (by omega)); rw [t] at hP; exact hP)
  · refine st_aload_n (q := 9) dX7_standsOut_8 rfl rfl ?_
    refine st_iload_n (q := 10) dX7_standsOut_9 rfl rfl ?_
    refine st_aload_n (q := 11) dX7_standsOut_10 rfl rfl ?_
    refine st_getR (q := 14) 7 0 dX7_standsOut_11 fl_X7_11 (by decide) (by decide) rfl rfl (wfk w rfl) (wfR w rfl) ?_
    refine st_iload_n (q := 15) dX7_standsOut_14 rfl rfl ?_
    refine st_aaload (q := 16) (t := 3) dX7_standsOut_15 rfl ⟨by decide, by decide⟩ (wfk w rfl) (wfb w (n := 8) rfl ⟨by omega, by omega⟩) (xhide w (by omega)) ?_
    refine st_getI (q := 19) 2 3 dX7_standsOut_16 fl_X7_42 (by decide) (by decide) rfl rfl (xhk w (by omega)) ?_
    refine j_top _ xk ?_
    refine iV2i (q := 22) dX7_standsOut_19 rfl ml_X7_58 mv_X7_fromNearest (Nat.le_of_ble_eq_true rfl) (wfk w rfl) ?_
    refine c_X7_fromNearestI hk.1 w x o (o k.toNat (by omega)).2.2 ?_
    refine st_iload_n (q := 23) dX7_standsOut_22 rfl rfl ?_
    refine st_icmp_le (q := 26) (tgt := 30) dX7_standsOut_23 (by decide) rfl (fun c23 => ?_) (fun c23 => ?_)
    · refine st_iconst (q := 31) dX7_standsOut_30 ⟨by decide, by decide⟩ rfl ?_
      refine rt_z dX7_standsOut_31 rfl (by (repeat' split) <;> omega) ?_
      first | (exfalso; omega) | (have t : plS u k.toNat n 8 = true := e.mpr (by omega); rw [t] at hP; exact hP) | (have t : plS u k.toNat n 8 = false := (by cases z : plS u k.toNat n 8; rfl; exact absurd (e.mp z) (by omega)); rw [t] at hP; exact hP)
    · refine st_iconst (q := 27) dX7_standsOut_26 ⟨by decide, by decide⟩ rfl ?_
      refine st_goto (q := 31) dX7_standsOut_27 (by decide) ?_
      refine rt_z dX7_standsOut_31 rfl (by (repeat' split) <;> omega) ?_
      first | (exfalso; omega) | (have t : plS u k.toNat n 8 = true := e.mpr (by omega); rw [t] at hP; exact hP) | (have t : plS u k.toNat n 8 = false := (by cases z : plS u k.toNat n 8; rfl; exact absurd (e.mp z) (by omega)); rw [t] at hP; exact hP)
/-- a hide's outline is another one: nothing comes nearer than before just when it comes not nearer itself -/
theorem ls_set {u : HD} (o : uOk u) {k x : Nat} (hk : k < 8) (hu : uO u k ≠ 0) (hx : x ≠ 0) (hxx : x < 65536) : lsV u ≤ lsV (uSet u k x) ↔ lsV u ≤ fnF u k x 8 := by
  have A := lsV_LB u
  have B := lsV_LB (uSet u k x)
  have es : ∀ j, uO (uSet u k x) j = if j = k then x else uO u j := fun j => by
    unfold uO uSet
    by_cases e : j = k
    · rw [if_pos e, if_pos e]
    · rw [if_neg e, if_neg e]
  have et : ∀ j, uO (uSet u k x) j ≠ 0 ↔ uO u j ≠ 0 := fun j => by
    rw [es]
    by_cases e : j = k
    · rw [if_pos e, e]; exact ⟨fun _ => hu, fun _ => hx⟩
    · rw [if_neg e]
  have fle := fnF_le u k x 8
  have vle : lsV u ≤ 16 := by
    rcases A.2 with t | ⟨i, j, t, e⟩
    · omega
    · have := apN_le (uO u i) (uO u j); omega
  constructor
  · intro h
    by_cases v0 : lsV u < 0
    · omega
    · have : (lsV u).toNat ≤ fnF u k x 8 := (fnF_iff u k x (lsV u).toNat 8).mpr ⟨by omega, fun i hi => ?_⟩
      · omega
      · by_cases e1 : i = k
        · exact Or.inl e1
        · by_cases e2 : uO u i = 0
          · exact Or.inr (Or.inl e2)
          · right; right
            rcases Nat.lt_or_ge i k with q | q
            · have b := B.1 i k ⟨q, hk, (et i).mpr e2, (et k).mpr hu⟩
              rw [es, es, if_neg e1, if_pos rfl, apN_sy (o i hi).2.2 hxx] at b
              omega
            · have b := B.1 k i ⟨by omega, hi, (et k).mpr hu, (et i).mpr e2⟩
              rw [es, es, if_neg e1, if_pos rfl] at b
              omega
  · intro h
    rcases B.2 with t | ⟨i, j, t, e⟩
    · rcases A.2 with t2 | ⟨i, j, t2, e⟩
      · omega
      · have b := (B.1 i j ⟨t2.1, t2.2.1, (et i).mpr t2.2.2.1, (et j).mpr t2.2.2.2⟩).1
        omega
    · obtain ⟨t1, t2, t3, t4⟩ := t
      have t3' := (et i).mp t3
      have t4' := (et j).mp t4
      by_cases v0 : lsV u < 0
      · have a := (A.1 i j ⟨t1, t2, t3', t4'⟩).1
        omega
      · have f := ((fnF_iff u k x (lsV u).toNat 8).mp (by omega)).2
        rw [es, es] at e
        by_cases e1 : i = k
        · have := f j (by omega)
          rw [if_pos e1, if_neg (by omega)] at e
          have : (lsV u).toNat ≤ apN x (uO u j) := by
            rcases this with z | z | z
            · omega
            · exact absurd z t4'
            · exact z
          omega
        · by_cases e2 : j = k
          · have := f i (by omega)
            rw [if_neg e1, if_pos e2, apN_sy (o i (by omega)).2.2 hxx] at e
            have : (lsV u).toNat ≤ apN x (uO u i) := by
              rcases this with z | z | z
              · omega
              · exact absurd z t3'
              · exact z
            omega
          · rw [if_neg e1, if_neg e2] at e
            have a := (A.1 i j ⟨t1, t2, t3', t4'⟩).2
            omega
theorem nandn_ne {a c : Nat} (ha : a < 65536) : nandn a (2 ^ c) ≠ a ↔ a.testBit c = true := by
  constructor
  · intro h
    cases hb : a.testBit c
    · exfalso
      apply h
      apply Nat.eq_of_testBit_eq
      intro i
      rw [nandn_tb (by omega), Nat.testBit_two_pow]
      by_cases e : c = i
      · subst e; rw [hb]; rfl
      · simp [e]
    · rfl
  · intro h e
    have := nandn_tb (a := a) (b := 2 ^ c) (by omega) c
    rw [e, h, Nat.testBit_two_pow_self] at this
    simp at this
theorem nandn_z {a c : Nat} (ha : a < 65536) (h : a.testBit c = true) : nandn a (2 ^ c) = 0 ↔ a = 2 ^ c := by
  constructor
  · intro e
    apply Nat.eq_of_testBit_eq
    intro i
    have := nandn_tb (a := a) (b := 2 ^ c) (by omega) i
    rw [e, Nat.zero_testBit, Nat.testBit_two_pow] at this
    rw [Nat.testBit_two_pow]
    by_cases z : c = i
    · subst z; rw [h]; simp
    · simp [z] at this ⊢; exact this
  · intro e
    apply Nat.eq_of_testBit_eq
    intro i
    rw [nandn_tb (by omega), e, Nat.zero_testBit, Nat.testBit_two_pow]
    by_cases z : c = i <;> simp [z]
theorem lp_X7_idleCells {d : Nat} {h : JH} {P : Int → JH → Prop} {u : HD} {k : Nat} (w : WF h) (x : HX h u) (o : uOk u) (hk : k < 8) (hu : uO u k ≠ 0) (hP : P (maF u k 16 : Nat) h) (c : Nat) (hc : c ≤ 16) : ∀ j5 j6 j7, JAt k0 (d + 3) jX7_idleCells 20 [vr 3, vi k, vi (lsV u), vi (maF u k c : Nat), vi c, j5, j6, j7] [] h (jqi P) := by
  intro j5 j6 j7
  have ok := (o k hk).2.2
  have xk : hI h (5 + ((k : Int)).toNat) 3 = (uO u k : Nat) := ((x k hk).2 hu).2.2
  have b1 := maF_lt u k c hc
  have e0 : maF u k (c + 1) = maF u k c ||| (if (uO u k).testBit c = true ∧ uO u k ≠ 2 ^ c ∧ lsV u ≤ lsV (uSet u k (nandn (uO u k) (2 ^ c))) then 2 ^ c else 0) := rfl
  have p1 : c < 16 → 2 ^ c < 65536 := fun z => Nat.pow_lt_pow_right (by omega) z
  have nl := nandn_le (uO u k) (2 ^ c)
  have n1 := nandn_ne (a := uO u k) (c := c) ok
  have n2 := nandn_z (a := uO u k) (c := c) ok
  have n3 : nandn (uO u k) (2 ^ c) ≠ 0 → (lsV u ≤ lsV (uSet u k (nandn (uO u k) (2 ^ c))) ↔ lsV u ≤ fnF u k (nandn (uO u k) (2 ^ c)) 8) := fun z => ls_set o hk hu z (by omega)
  generalize hN : nandn (uO u k) (2 ^ c) = N at *
  refine st_iload (q := 22) dX7_idleCells_20 rfl rfl ?_
  refine st_bipush (q := 24) dX7_idleCells_22 ⟨by decide, by decide⟩ rfl ?_
  refine st_icmp_ge (q := 27) (tgt := 102) dX7_idleCells_24 (by decide) rfl (fun c24 => ?_) (fun c24 => ?_)
  · refine st_iload_n (q := 103) dX7_idleCells_102 rfl rfl ?_
    refine rt_i dX7_idleCells_103 rfl ?_
    exact pq hP (by rw [show c = 16 by omega]) rfl
  · refine st_iconst (q := 28) dX7_idleCells_27 ⟨by decide, by decide⟩ rfl ?_
    refine st_iload (q := 30) dX7_idleCells_28 rfl rfl ?_
    refine st_ishl (q := 31) dX7_idleCells_30 rfl ?_
    refine j_top ((2 ^ c : Nat) : Int) (by have := ishl_n (a := 1) (k := c) (by omega) (by rw [Nat.one_mul]; have := p1 (by omega); omega); rw [Nat.one_mul] at this; exact this) ?_
    refine st_istore (q := 33) dX7_idleCells_31 (by decide) rfl ?_
    refine st_aload_n (q := 34) dX7_idleCells_33 rfl rfl ?_
    refine st_getR (q := 37) 7 0 dX7_idleCells_34 fl_X7_11 (by decide) (by decide) rfl rfl (wfk w rfl) (wfR w rfl) ?_
    refine st_iload_n (q := 38) dX7_idleCells_37 rfl rfl ?_
    refine st_aaload (q := 39) (t := 3) dX7_idleCells_38 rfl ⟨by decide, by decide⟩ (wfk w rfl) (wfb w (n := 8) rfl ⟨by omega, by omega⟩) (xhide w (by omega)) ?_
    refine st_getI (q := 42) 2 3 dX7_idleCells_39 fl_X7_42 (by decide) (by decide) rfl rfl (xhk w (by omega)) ?_
    refine j_top _ xk ?_
    refine st_iload (q := 44) dX7_idleCells_42 rfl rfl ?_
    refine st_iconst (q := 45) dX7_idleCells_44 ⟨by decide, by decide⟩ rfl ?_
    refine st_ixor (q := 46) dX7_idleCells_45 rfl ?_
    refine st_iand (q := 47) dX7_idleCells_46 rfl ?_
    refine j_top ((N : Nat) : Int) (by rw [← hN]; exact iandn_n (by omega) (by have := p1 (by omega); omega)) ?_
    refine st_istore (q := 49) dX7_idleCells_47 (by decide) rfl ?_
    refine st_iload (q := 51) dX7_idleCells_49 rfl rfl ?_
    refine st_aload_n (q := 52) dX7_idleCells_51 rfl rfl ?_
    refine st_getR (q := 55) 7 0 dX7_idleCells_52 fl_X7_11 (by decide) (by decide) rfl rfl (wfk w rfl) (wfR w rfl) ?_
    refine st_iload_n (q := 56) dX7_idleCells_55 rfl rfl ?_
    refine st_aaload (q := 57) (t := 3) dX7_idleCells_56 rfl ⟨by decide, by decide⟩ (wfk w rfl) (wfb w (n := 8) rfl ⟨by omega, by omega⟩) (xhide w (by omega)) ?_
    refine st_getI (q := 60) 2 3 dX7_idleCells_57 fl_X7_42 (by decide) (by decide) rfl rfl (xhk w (by omega)) ?_
    refine j_top _ xk ?_
    refine st_icmp_eq (q := 63) (tgt := 67) dX7_idleCells_60 (by decide) rfl (fun c60 => ?_) (fun c60 => ?_)
    · refine st_iconst (q := 68) dX7_idleCells_67 ⟨by decide, by decide⟩ rfl ?_
      refine st_istore (q := 70) dX7_idleCells_68 (by decide) rfl ?_
      refine st_iload (q := 72) dX7_idleCells_70 rfl rfl ?_
      refine st_if_eq (q := 75) (tgt := 96) dX7_idleCells_72 (by decide) rfl (fun _ => ?_) (fun z => absurd z (by decide))
      first | refine n_iinc (q := 99) dX7_idleCells_96 rfl (by decide) rfl ⟨by omega, by omega⟩ ?_ | refine st_iinc (q := 99) dX7_idleCells_96 rfl (by decide) rfl ?_
      refine st_goto (q := 20) dX7_idleCells_99 (by decide) ?_
      have t := lp_X7_idleCells (d := d) w x o hk hu hP (c + 1) (by omega)
      first | (rw [if_pos ⟨n1.mp (by omega), fun z => absurd ((n2 (n1.mp (by omega))).mpr z) (by omega), (n3 (by omega)).mpr (by omega)⟩] at e0; rw [e0] at t; exact t _ _ _) | (rw [if_neg (fun z => by have z1 := n1.mpr z.1; have z2 := z.2.1; have z3 := z.2.2; have y2 := n2 z.1; have y3 := n3 (fun q => z2 (y2.mp q)); omega), Nat.or_zero] at e0; rw [e0] at t; exact t _ _ _)
    · refine st_iconst (q := 64) dX7_idleCells_63 ⟨by decide, by decide⟩ rfl ?_
      refine st_goto (q := 68) dX7_idleCells_64 (by decide) ?_
      refine st_istore (q := 70) dX7_idleCells_68 (by decide) rfl ?_
      refine st_iload (q := 72) dX7_idleCells_70 rfl rfl ?_
      refine st_if_eq (q := 75) (tgt := 96) dX7_idleCells_72 (by decide) rfl (fun z => absurd z (by decide)) (fun _ => ?_)
      refine st_iload (q := 77) dX7_idleCells_75 rfl rfl ?_
      refine st_if_eq (q := 80) (tgt := 96) dX7_idleCells_77 (by decide) rfl (fun c77 => ?_) (fun c77 => ?_)
      · first | refine n_iinc (q := 99) dX7_idleCells_96 rfl (by decide) rfl ⟨by omega, by omega⟩ ?_ | refine st_iinc (q := 99) dX7_idleCells_96 rfl (by decide) rfl ?_
        refine st_goto (q := 20) dX7_idleCells_99 (by decide) ?_
        have t := lp_X7_idleCells (d := d) w x o hk hu hP (c + 1) (by omega)
        first | (rw [if_pos ⟨n1.mp (by omega), fun z => absurd ((n2 (n1.mp (by omega))).mpr z) (by omega), (n3 (by omega)).mpr (by omega)⟩] at e0; rw [e0] at t; exact t _ _ _) | (rw [if_neg (fun z => by have z1 := n1.mpr z.1; have z2 := z.2.1; have z3 := z.2.2; have y2 := n2 z.1; have y3 := n3 (fun q => z2 (y2.mp q)); omega), Nat.or_zero] at e0; rw [e0] at t; exact t _ _ _)
      · refine st_aload_n (q := 81) dX7_idleCells_80 rfl rfl ?_
        refine st_iload_n (q := 82) dX7_idleCells_81 rfl rfl ?_
        refine st_iload (q := 84) dX7_idleCells_82 rfl rfl ?_
        refine iV2i (q := 87) dX7_idleCells_84 rfl ml_X7_58 mv_X7_fromNearest (Nat.le_of_ble_eq_true rfl) (wfk w rfl) ?_
        refine c_X7_fromNearest w x o (by omega) ?_
        refine st_iload_n (q := 88) dX7_idleCells_87 rfl rfl ?_
        refine st_icmp_lt (q := 91) (tgt := 96) dX7_idleCells_88 (by decide) rfl (fun c88 => ?_) (fun c88 => ?_)
        · first | refine n_iinc (q := 99) dX7_idleCells_96 rfl (by decide) rfl ⟨by omega, by omega⟩ ?_ | refine st_iinc (q := 99) dX7_idleCells_96 rfl (by decide) rfl ?_
          refine st_goto (q := 20) dX7_idleCells_99 (by decide) ?_
          have t := lp_X7_idleCells (d := d) w x o hk hu hP (c + 1) (by omega)
          first | (rw [if_pos ⟨n1.mp (by omega), fun z => absurd ((n2 (n1.mp (by omega))).mpr z) (by omega), (n3 (by omega)).mpr (by omega)⟩] at e0; rw [e0] at t; exact t _ _ _) | (rw [if_neg (fun z => by have z1 := n1.mpr z.1; have z2 := z.2.1; have z3 := z.2.2; have y2 := n2 z.1; have y3 := n3 (fun q => z2 (y2.mp q)); omega), Nat.or_zero] at e0; rw [e0] at t; exact t _ _ _)
        · refine st_iload_n (q := 92) dX7_idleCells_91 rfl rfl ?_
          refine st_iload (q := 94) dX7_idleCells_92 rfl rfl ?_
          refine st_ior (q := 95) dX7_idleCells_94 rfl ?_
          rw [ior_n (by omega) (by have := p1 (by omega); omega)]
          refine st_istore_n (q := 96) (i := 3) dX7_idleCells_95 rfl (by decide) rfl ?_
          first | refine n_iinc (q := 99) dX7_idleCells_96 rfl (by decide) rfl ⟨by omega, by omega⟩ ?_ | refine st_iinc (q := 99) dX7_idleCells_96 rfl (by decide) rfl ?_
          refine st_goto (q := 20) dX7_idleCells_99 (by decide) ?_
          have t := lp_X7_idleCells (d := d) w x o hk hu hP (c + 1) (by omega)
          first | (rw [if_pos ⟨n1.mp (by omega), fun z => absurd ((n2 (n1.mp (by omega))).mpr z) (by omega), (n3 (by omega)).mpr (by omega)⟩] at e0; rw [e0] at t; exact t _ _ _) | (rw [if_neg (fun z => by have z1 := n1.mpr z.1; have z2 := z.2.1; have z3 := z.2.2; have y2 := n2 z.1; have y3 := n3 (fun q => z2 (y2.mp q)); omega), Nat.or_zero] at e0; rw [e0] at t; exact t _ _ _)
termination_by 16 - c
theorem c_X7_idleCells {d : Nat} {h : JH} {P : Int → JH → Prop} {u : HD} {k : Int} (w : WF h) (x : HX h u) (o : uOk u) (hk : 0 ≤ k ∧ k ≤ 7) (hu : uO u k.toNat ≠ 0) (hP : ∀ h', Fr ScN h h' → P (maF u k.toNat 16 : Nat) h') : JRi (d + 3) jX7_idleCells [vr 3, vi k] h P := by
  have ek : k = (k.toNat : Int) := by omega
  refine JRet.of rfl (Nat.le_of_ble_eq_true rfl) ?_
  refine st_aload_n (q := 1) dX7_idleCells_0 rfl rfl ?_
  refine st_iload_n (q := 2) dX7_idleCells_1 rfl rfl ?_
  refine iV1i (q := 5) dX7_idleCells_2 rfl ml_X7_54 mv_X7_hasHide (Nat.le_of_ble_eq_true rfl) (wfk w rfl) ?_
  refine c_X7_hasHide w x ?_
  refine st_if_ne (q := 8) (tgt := 10) dX7_idleCells_5 (by decide) rfl (fun c5 => ?_) (fun c5 => ?_)
  · refine st_aload_n (q := 11) dX7_idleCells_10 rfl rfl ?_
    refine iV0i (q := 14) dX7_idleCells_11 rfl ml_X7_61 mv_X7_findNearest (Nat.le_of_ble_eq_true rfl) (wfk w rfl) ?_
    refine c_X7_findNearest w x o (fun h' f e3 => ?_)
    refine st_istore_n (q := 15) (i := 2) dX7_idleCells_14 rfl (by decide) rfl ?_
    refine st_iconst (q := 16) dX7_idleCells_15 ⟨by decide, by decide⟩ rfl ?_
    refine st_istore_n (q := 17) (i := 3) dX7_idleCells_16 rfl (by decide) rfl ?_
    refine st_iconst (q := 18) dX7_idleCells_17 ⟨by decide, by decide⟩ rfl ?_
    refine st_istore (q := 20) dX7_idleCells_18 (by decide) rfl ?_
    have := lp_X7_idleCells (d := d) (f.wf w) (x.fr f scN_d) o (show k.toNat < 8 by omega) hu (hP _ f) 0 (by omega) vn vn vn
    rw [← ek] at this
    exact this
  · refine st_iconst (q := 9) dX7_idleCells_8 ⟨by decide, by decide⟩ rfl ?_
    refine rt_i dX7_idleCells_9 rfl ?_
    exfalso; omega
theorem pr_matters {d : Nat} {h : JH} {k : Int} (I : Inv h) : Two (d + 5) jX11_matters jX12_matters [vi k] h := by
  have w := I.1
  obtain ⟨u, ok, m, x⟩ := I.2.2.2.1
  have hX : (¬ (0 ≤ k ∧ k ≤ 7) → JRi (d + 5) jX12_matters [vr 117, vi k] h (fun v' h2 => -1 = v' ∧ Inv h2)) → (0 ≤ k ∧ k ≤ 7 → uO u k.toNat = 0 → JRi (d + 5) jX12_matters [vr 117, vi k] (fnH h 1) (fun v' h2 => -3 = v' ∧ Inv h2)) → (0 ≤ k ∧ k ≤ 7 → uO u k.toNat ≠ 0 → ∀ h', Fr ScN h h' → JRi (d + 5) jX12_matters [vr 117, vi k] h' (fun v' h2 => ((maF u k.toNat 16 : Nat) : Int) = v' ∧ Inv h2)) → Two (d + 5) jX11_matters jX12_matters [vi k] h := by
    intro g1 g2 g3
    refine JRet.of rfl (Nat.le_of_ble_eq_true rfl) ?_
    refine st_aload_n (q := 1) dX11_matters_0 rfl rfl ?_
    refine st_iload_n (q := 2) dX11_matters_1 rfl rfl ?_
    refine iV1i (q := 5) dX11_matters_2 rfl ml_X11_162 mv_X11_refusesHide (Nat.le_of_ble_eq_true rfl) (wfk w rfl) ?_
    refine c_X11_refusesHide w x (fun a1 => ?_) (fun a1 a2 => ?_) (fun a1 a2 => ?_)
    · refine st_istore_n (q := 6) (i := 2) dX11_matters_5 rfl (by decide) rfl ?_
      refine st_iload_n (q := 7) dX11_matters_6 rfl rfl ?_
      refine st_if_eq (q := 10) (tgt := 14) dX11_matters_7 (by decide) rfl (fun z => absurd z (by decide)) (fun _ => ?_)
      refine st_iload_n (q := 11) dX11_matters_10 rfl rfl ?_
      refine st_goto (q := 22) dX11_matters_11 (by decide) ?_
      refine rt_i dX11_matters_22 rfl ?_
      first | exact g1 (by omega) | exact g2 (by omega) (by omega) | exact g3 (by omega) a2 _ f
    · refine st_istore_n (q := 6) (i := 2) dX11_matters_5 rfl (by decide) rfl ?_
      refine st_iload_n (q := 7) dX11_matters_6 rfl rfl ?_
      refine st_if_eq (q := 10) (tgt := 14) dX11_matters_7 (by decide) rfl (fun z => absurd z (by decide)) (fun _ => ?_)
      refine st_iload_n (q := 11) dX11_matters_10 rfl rfl ?_
      refine st_goto (q := 22) dX11_matters_11 (by decide) ?_
      refine rt_i dX11_matters_22 rfl ?_
      first | exact g1 (by omega) | exact g2 (by omega) (by omega) | exact g3 (by omega) a2 _ f
    · refine st_istore_n (q := 6) (i := 2) dX11_matters_5 rfl (by decide) rfl ?_
      refine st_iload_n (q := 7) dX11_matters_6 rfl rfl ?_
      refine st_if_eq (q := 10) (tgt := 14) dX11_matters_7 (by decide) rfl (fun _ => ?_) (fun z => absurd z (by decide))
      refine st_aload_n (q := 15) dX11_matters_14 rfl rfl ?_
      refine st_getR (q := 18) 11 2 dX11_matters_15 fl_X11_21 (by decide) (by decide) rfl rfl (wfk w rfl) (wfR w rfl) ?_
      refine st_iload_n (q := 19) dX11_matters_18 rfl rfl ?_
      refine iV1i (q := 22) dX11_matters_19 rfl ml_X11_320 mv_X7_idleCells (Nat.le_of_ble_eq_true rfl) (wfk w rfl) ?_
      refine c_X7_idleCells w x ok (by omega) a2 (fun h' f => ?_)
      refine rt_i dX11_matters_22 rfl ?_
      first | exact g1 (by omega) | exact g2 (by omega) (by omega) | exact g3 (by omega) a2 _ f
  refine hX (fun q => ?_) (fun q q2 => ?_) (fun q q2 h1 f1 => ?_)
  · exact c_X12_matters w m ok (fun _ => ⟨rfl, I⟩) (fun _ _ => by exfalso; omega) (fun _ _ => by exfalso; omega)
  · exact c_X12_matters (h := fnH h 1) w m ok (fun _ => by exfalso; omega) (fun _ _ => ⟨rfl, inv_find I (by decide)⟩) (fun _ _ => by exfalso; omega)
  · have F1 : Fq rgS h h1 := Fq.rf.fr f1 scN_S
    have m1 : HM h1 u := fun k hk => ⟨(f1.2.2 _ _ (by unfold ScN; omega)).trans (m k hk).1, (f1.2.2 _ _ (by unfold ScN; omega)).trans (m k hk).2.1, (f1.2.2 _ _ (by unfold ScN; omega)).trans (m k hk).2.2⟩
    exact c_X12_matters (F1.wf w) m1 ok (fun _ => by exfalso; omega) (fun _ _ => by exfalso; omega) (fun _ _ h2 f2 => ⟨rfl, inv_s I (F1.fr f2 scM_S)⟩)

