/-! trunk: the class -/
theorem xor01 : ∀ a, a < 2 → ∀ b, b < 2 → a ^^^ b = if a = b then 0 else 1 := by decide
theorem bn_bt {x k : Nat} (hx : x < 65536) (hk : k < 8) : iand (ishr (x : Nat) (k : Nat)) 1 = ((bt x k : Nat) : Int) := by
  rw [bit_n (by omega) (by omega)]
  unfold bt
  cases x.testBit k <;> rfl
theorem lp_X10_passedOver {d : Nat} {h : JH} {P : Int → JH → Prop} {l : List Nat} {S : Nat} (w : WF h) (t : TX h l) (hl : l.length ≤ 96) (hx : ∀ x ∈ l, x < 8) (hS : S < 256) (hP : P (poW l S : Nat) h) (k : Nat) (hk : k ≤ l.length) : ∀ j, JAt k0 (d + 1) jX10_passedOver 7 [vr 44, vi S, vi ((poF l S k).1 : Nat), vi ((poF l S k).2 : Nat), vi k, j] [] h (jqi P) := by
  intro j
  have t1 := t.1
  have b1 := poF_b l S k
  have b2 := bt_b S (l.getD k 0)
  have q : k < l.length → hI h 45 ((k : Int)).toNat = (l.getD k 0 : Nat) ∧ l.getD k 0 < 8 := fun z => by
    have e := getD_some z
    exact ⟨t.2 k _ e, hx _ (List.mem_of_getElem? e)⟩
  have e1 : (poF l S (k + 1)).1 = (poF l S k).1 + (if (poF l S k).2 = bt S (l.getD k 0) then 0 else 1) := rfl
  have xr := xor01 _ (show (poF l S k).2 < 2 by omega) _ (show bt S (l.getD k 0) < 2 by omega)
  have xb : (poF l S k).2 ^^^ bt S (l.getD k 0) ≤ 1 := by rw [xr]; split <;> omega
  refine st_iload (q := 9) dX10_passedOver_7 rfl rfl ?_
  refine st_aload_n (q := 10) dX10_passedOver_9 rfl rfl ?_
  refine st_getI (q := 13) 10 1 dX10_passedOver_10 fl_X10_15 (by decide) (by decide) rfl rfl (wfk w rfl) ?_
  refine j_top ((l.length : Nat) : Int) t1 ?_
  refine st_icmp_ge (q := 16) (tgt := 45) dX10_passedOver_13 (by decide) rfl (fun c13 => ?_) (fun c13 => ?_)
  · refine st_iload_n (q := 46) dX10_passedOver_45 rfl rfl ?_
    refine rt_i dX10_passedOver_46 rfl ?_
    exact pq hP (by rw [show k = l.length by omega]; rfl) rfl
  · refine st_iload_n (q := 17) dX10_passedOver_16 rfl rfl ?_
    refine st_aload_n (q := 18) dX10_passedOver_17 rfl rfl ?_
    refine st_getR (q := 21) 10 0 dX10_passedOver_18 fl_X10_9 (by decide) (by decide) rfl rfl (wfk w rfl) (wfR w rfl) ?_
    refine st_iload (q := 23) dX10_passedOver_21 rfl rfl ?_
    refine st_iaload (q := 24) dX10_passedOver_23 rfl (wfk w rfl) (wfb w (n := 96) rfl ⟨by omega, by omega⟩) ?_
    have q2 := q (by omega)
    refine j_top _ q2.1 ?_
    refine st_ishr (q := 25) dX10_passedOver_24 rfl ?_
    refine st_iconst (q := 26) dX10_passedOver_25 ⟨by decide, by decide⟩ rfl ?_
    refine st_iand (q := 27) dX10_passedOver_26 rfl ?_
    refine j_top ((bt S (l.getD k 0) : Nat) : Int) (bn_bt (by omega) q2.2) ?_
    refine st_istore (q := 29) dX10_passedOver_27 (by decide) rfl ?_
    refine st_iload_n (q := 30) dX10_passedOver_29 rfl rfl ?_
    refine st_iload_n (q := 31) dX10_passedOver_30 rfl rfl ?_
    refine st_iload (q := 33) dX10_passedOver_31 rfl rfl ?_
    refine st_ixor (q := 34) dX10_passedOver_33 rfl ?_
    refine j_top (((poF l S k).2 ^^^ bt S (l.getD k 0) : Nat) : Int) (ixor_n (by omega) (by omega)) ?_
    first | refine n_iadd (q := 35) dX10_passedOver_34 rfl ⟨by omega, by omega⟩ ?_ | refine st_iadd (q := 35) dX10_passedOver_34 rfl ?_
    refine j_top ((poF l S (k + 1)).1 : Nat) (by rw [e1, ← xr]; omega) ?_
    refine st_istore_n (q := 36) (i := 2) dX10_passedOver_35 rfl (by decide) rfl ?_
    refine st_iload (q := 38) dX10_passedOver_36 rfl rfl ?_
    refine st_istore_n (q := 39) (i := 3) dX10_passedOver_38 rfl (by decide) rfl ?_
    first | refine n_iinc (q := 42) dX10_passedOver_39 rfl (by decide) rfl ⟨by omega, by omega⟩ ?_ | refine st_iinc (q := 42) dX10_passedOver_39 rfl (by decide) rfl ?_
    refine st_goto (q := 7) dX10_passedOver_42 (by decide) ?_
    exact lp_X10_passedOver w t hl hx hS hP (k + 1) (by omega) _
termination_by l.length - k
theorem c_X10_passedOver {d : Nat} {h : JH} {P : Int → JH → Prop} {l : List Nat} {S : Nat} (w : WF h) (t : TX h l) (hl : l.length ≤ 96) (hx : ∀ x ∈ l, x < 8) (hS : S < 256) (hP : P (poW l S : Nat) h) : JRi (d + 1) jX10_passedOver [vr 44, vi S] h P := by
  refine JRet.of rfl (Nat.le_of_ble_eq_true rfl) ?_
  refine st_iconst (q := 1) dX10_passedOver_0 ⟨by decide, by decide⟩ rfl ?_
  refine st_istore_n (q := 2) (i := 2) dX10_passedOver_1 rfl (by decide) rfl ?_
  refine st_iconst (q := 3) dX10_passedOver_2 ⟨by decide, by decide⟩ rfl ?_
  refine st_istore_n (q := 4) (i := 3) dX10_passedOver_3 rfl (by decide) rfl ?_
  refine st_iconst (q := 5) dX10_passedOver_4 ⟨by decide, by decide⟩ rfl ?_
  refine st_istore (q := 7) dX10_passedOver_5 (by decide) rfl ?_
  exact lp_X10_passedOver w t hl hx hS hP 0 (by omega) _
theorem c_X10_isReached {d : Nat} {h : JH} {P : Int → JH → Prop} {x : Int} (hx : 0 ≤ x ∧ x < 256) (hP : P 1 h) : JRi d jX10_isReached [vi x] h P := by
  refine JRet.of rfl (Nat.le_of_ble_eq_true rfl) ?_
  refine st_iload_n (q := 1) dX10_isReached_0 rfl rfl ?_
  refine st_if_lt (q := 4) (tgt := 15) dX10_isReached_1 (by decide) rfl (fun c1 => ?_) (fun c1 => ?_)
  · refine st_iconst (q := 16) dX10_isReached_15 ⟨by decide, by decide⟩ rfl ?_
    refine rt_z dX10_isReached_16 rfl (by (repeat' split) <;> omega) ?_
    first | exact hP | (exfalso; omega)
  · refine st_iload_n (q := 5) dX10_isReached_4 rfl rfl ?_
    refine st_sipush (q := 8) dX10_isReached_5 ⟨by decide, by decide⟩ rfl ?_
    refine st_icmp_ge (q := 11) (tgt := 15) dX10_isReached_8 (by decide) rfl (fun c8 => ?_) (fun c8 => ?_)
    · refine st_iconst (q := 16) dX10_isReached_15 ⟨by decide, by decide⟩ rfl ?_
      refine rt_z dX10_isReached_16 rfl (by (repeat' split) <;> omega) ?_
      first | exact hP | (exfalso; omega)
    · refine st_iconst (q := 12) dX10_isReached_11 ⟨by decide, by decide⟩ rfl ?_
      refine st_goto (q := 16) dX10_isReached_12 (by decide) ?_
      refine rt_z dX10_isReached_16 rfl (by (repeat' split) <;> omega) ?_
      first | exact hP | (exfalso; omega)
theorem p2k {k : Nat} (hk : k < 8) : ishl 1 (k : Nat) = ((2 ^ k : Nat) : Int) := by
  have := p31 (show k < 31 by omega)
  rw [show (1 : Int) = ((1 : Nat) : Int) from rfl, ishl_n (by omega) (by omega), Nat.one_mul]
theorem av_lt {N S k : Nat} (hN : N < 256) (a : av N S k) : k < 8 := by
  by_cases z : k < 8
  · exact z
  · have := a.1
    rw [Nat.testBit_lt_two_pow (Nat.lt_of_lt_of_le hN (show 2 ^ 8 ≤ 2 ^ k from Nat.pow_le_pow_right (by decide) (by omega)))] at this
    exact absurd this (by decide)
theorem av_n {N S k : Nat} (hN : N < 256) : (nandn N S).testBit k = true ↔ av N S k := by
  rw [nandn_tb (by omega), Bool.and_eq_true]
  unfold av
  cases S.testBit k <;> simp
theorem or_lt8 {S k : Nat} (hS : S < 256) (hk : k < 8) : S ||| 2 ^ k < 256 := Nat.or_lt_two_pow (n := 8) hS (p8 hk)
/-- the least over the hides ahead of k -/
def lfS (W : Nat → Int) (N S k : Nat) (v : Int) : Prop := (v = -9 ∧ ∀ j, j < k → ¬ av N S j) ∨ (0 ≤ v ∧ v ≤ 100000 ∧ (∀ j, j < k → av N S j → v ≤ W (S ||| 2 ^ j)) ∧ ∃ j, j < k ∧ av N S j ∧ v = W (S ||| 2 ^ j))
theorem lp_X10_leastFrom {d : Nat} {h : JH} {P : Int → JH → Prop} {N S : Nat} (w : WF h) (hN : N < 256) (hS : S < 256) (hb : ∀ k, av N S k → 0 ≤ hI h 47 (S ||| 2 ^ k) ∧ hI h 47 (S ||| 2 ^ k) ≤ 100000) (hP : ∀ v, LFp (hI h 47) N S v → 0 ≤ v → v ≤ 100000 → P v h) (k : Nat) (hk : k ≤ 8) : ∀ (v : Int) (j : JV), lfS (hI h 47) N S k v → JAt k0 (d + 1) jX10_leastFrom 6 [vr 44, vi S, vi N, vi v, vi k, j] [] h (jqi P) := by
  intro v j lf
  have nl := nandn_le N S
  have pk : k < 8 → 2 ^ k < 256 := fun z => p8 z
  have ol : k < 8 → S ||| 2 ^ k < 256 := fun z => or_lt8 hS z
  have vb : v = -9 ∨ (0 ≤ v ∧ v ≤ 100000) := lf.elim (fun z => Or.inl z.1) (fun z => Or.inr ⟨z.1, z.2.1⟩)
  have s0 : ¬ av N S k → lfS (hI h 47) N S (k + 1) v := fun na => by
    rcases lf with ⟨z1, z2⟩ | ⟨z0, z1, z2, j0, z3, z4, z5⟩
    · exact Or.inl ⟨z1, fun j hj => by by_cases e : j = k; (rw [e]; exact na); exact z2 j (by omega)⟩
    · exact Or.inr ⟨z0, z1, fun j hj a => by (by_cases e : j = k; (rw [e] at a; exact absurd a na); exact z2 j (by omega) a), j0, by omega, z4, z5⟩
  have s1 : av N S k → v ≠ -9 → v ≤ hI h 47 (S ||| 2 ^ k) → lfS (hI h 47) N S (k + 1) v := fun a h1 h2 => by
    rcases lf with ⟨z1, z2⟩ | ⟨z0, z1, z2, j0, z3, z4, z5⟩
    · exact absurd z1 h1
    · exact Or.inr ⟨z0, z1, fun j hj a => by (by_cases e : j = k; (rw [e]; exact h2); exact z2 j (by omega) a), j0, by omega, z4, z5⟩
  have s2 : av N S k → (v = -9 ∨ hI h 47 (S ||| 2 ^ k) < v) → lfS (hI h 47) N S (k + 1) (hI h 47 (S ||| 2 ^ k)) := fun a h2 => by
    have hbk := hb k a
    refine Or.inr ⟨hbk.1, hbk.2, fun j hj aj => ?_, k, by omega, a, rfl⟩
    by_cases e : j = k
    · rw [e]; exact Int.le_refl _
    · rcases lf with ⟨z1, z2⟩ | ⟨z0, z1, z2, j0, z3, z4, z5⟩
      · exact absurd aj (z2 j (by omega))
      · have := z2 j (by omega) aj; omega
  have fin : k = 8 → ∀ u, (u = if v = -9 then 0 else v) → P u h := fun e u eu => by
    subst e
    rcases lf with ⟨z1, z2⟩ | ⟨z0, z1, z2, j0, z3, z4, z5⟩
    · rw [if_pos z1] at eu
      rw [eu]
      exact hP 0 ⟨fun k a => absurd a (z2 k (av_lt hN a)), Or.inr ⟨fun k a => z2 k (av_lt hN a) a, rfl⟩⟩ (by decide) (by decide)
    · rw [if_neg (by omega)] at eu
      rw [eu]
      exact hP v ⟨fun k a => z2 k (av_lt hN a) a, Or.inl ⟨j0, z4, z5⟩⟩ z0 z1
  have atz9 : k < 8 → hI h 47 (((S ||| 2 ^ k : Nat) : Int)).toNat = hI h 47 (S ||| 2 ^ k) := fun _ => rfl
  refine st_iload (q := 8) dX10_leastFrom_6 rfl rfl ?_
  refine st_bipush (q := 10) dX10_leastFrom_8 ⟨by decide, by decide⟩ rfl ?_
  refine st_icmp_ge (q := 13) (tgt := 73) dX10_leastFrom_10 (by decide) rfl (fun c10 => ?_) (fun c10 => ?_)
  · refine st_iload_n (q := 74) dX10_leastFrom_73 rfl rfl ?_
    refine st_bipush (q := 76) dX10_leastFrom_74 ⟨by decide, by decide⟩ rfl ?_
    refine st_icmp_ne (q := 79) (tgt := 83) dX10_leastFrom_76 (by decide) rfl (fun c76 => ?_) (fun c76 => ?_)
    · refine st_iload_n (q := 84) dX10_leastFrom_83 rfl rfl ?_
      refine rt_i dX10_leastFrom_84 rfl ?_
      exact fin (by omega) _ (by (repeat' split) <;> omega)
    · refine st_iconst (q := 80) dX10_leastFrom_79 ⟨by decide, by decide⟩ rfl ?_
      refine st_goto (q := 84) dX10_leastFrom_80 (by decide) ?_
      refine rt_i dX10_leastFrom_84 rfl ?_
      exact fin (by omega) _ (by (repeat' split) <;> omega)
  · have k8 : k < 8 := (by omega)
    have pk := pk k8
    have ol := ol k8
    refine st_iload_n (q := 14) dX10_leastFrom_13 rfl rfl ?_
    refine st_iconst (q := 15) dX10_leastFrom_14 ⟨by decide, by decide⟩ rfl ?_
    refine st_iload (q := 17) dX10_leastFrom_15 rfl rfl ?_
    refine st_ishl (q := 18) dX10_leastFrom_17 rfl ?_
    refine j_top ((2 ^ k : Nat) : Int) (p2k k8) ?_
    refine st_ior (q := 19) dX10_leastFrom_18 rfl ?_
    refine j_top ((S ||| 2 ^ k : Nat) : Int) (ior_n (by omega) (by omega)) ?_
    refine st_istore (q := 21) dX10_leastFrom_19 (by decide) rfl ?_
    refine st_iload_n (q := 22) dX10_leastFrom_21 rfl rfl ?_
    refine st_iload_n (q := 23) dX10_leastFrom_22 rfl rfl ?_
    refine st_iconst (q := 24) dX10_leastFrom_23 ⟨by decide, by decide⟩ rfl ?_
    refine st_ixor (q := 25) dX10_leastFrom_24 rfl ?_
    refine st_iand (q := 26) dX10_leastFrom_25 rfl ?_
    refine j_top ((nandn N S : Nat) : Int) (iandn_n (by omega) (by omega)) ?_
    refine st_iconst (q := 27) dX10_leastFrom_26 ⟨by decide, by decide⟩ rfl ?_
    refine st_iload (q := 29) dX10_leastFrom_27 rfl rfl ?_
    refine st_ishl (q := 30) dX10_leastFrom_29 rfl ?_
    refine j_top ((2 ^ k : Nat) : Int) (p2k k8) ?_
    refine st_iand (q := 31) dX10_leastFrom_30 rfl ?_
    refine j_top ((nandn N S &&& 2 ^ k : Nat) : Int) (iand_n (by omega)) ?_
    rw [and_p2]
    refine st_if_eq (q := 34) (tgt := 67) dX10_leastFrom_31 (by decide) rfl (fun c31 => ?_) (fun c31 => ?_)
    · first | refine n_iinc (q := 70) dX10_leastFrom_67 rfl (by decide) rfl ⟨by omega, by omega⟩ ?_ | refine st_iinc (q := 70) dX10_leastFrom_67 rfl (by decide) rfl ?_
      refine st_goto (q := 6) dX10_leastFrom_70 (by decide) ?_
      first | exact lp_X10_leastFrom w hN hS hb hP (k + 1) (by omega) _ _ (s2 (by assumption) (Or.inl (by omega))) | exact lp_X10_leastFrom w hN hS hb hP (k + 1) (by omega) _ _ (s2 (by assumption) (Or.inr (by omega))) | exact lp_X10_leastFrom w hN hS hb hP (k + 1) (by omega) _ _ (s1 (by assumption) (by omega) (by omega)) | exact lp_X10_leastFrom w hN hS hb hP (k + 1) (by omega) _ _ (s0 (fun a => by rw [if_pos ((av_n hN).mpr a)] at c31; have := Nat.two_pow_pos k; omega)) | (exfalso; omega)
    · have akz9 : av N S k := (av_n hN).mp (by cases z : (nandn N S).testBit k; (rw [z] at c31; exact absurd rfl c31); rfl)
      have hbk := hb k akz9
      refine st_iload (q := 36) dX10_leastFrom_34 rfl rfl ?_
      refine iS1i (q := 39) dX10_leastFrom_36 rfl ml_X10_78 ms_X10_isReached (Nat.le_of_ble_eq_true rfl) ?_
      refine c_X10_isReached (by omega) ?_
      refine st_if_eq (q := 42) (tgt := 67) dX10_leastFrom_39 (by decide) rfl (fun z => absurd z (by decide)) (fun _ => ?_)
      refine st_iload_n (q := 43) dX10_leastFrom_42 rfl rfl ?_
      refine st_bipush (q := 45) dX10_leastFrom_43 ⟨by decide, by decide⟩ rfl ?_
      refine st_icmp_eq (q := 48) (tgt := 59) dX10_leastFrom_45 (by decide) rfl (fun c45 => ?_) (fun c45 => ?_)
      · refine st_aload_n (q := 60) dX10_leastFrom_59 rfl rfl ?_
        refine st_getR (q := 63) 10 3 dX10_leastFrom_60 fl_X10_22 (by decide) (by decide) rfl rfl (wfk w rfl) (wfR w rfl) ?_
        refine st_iload (q := 65) dX10_leastFrom_63 rfl rfl ?_
        refine st_iaload (q := 66) dX10_leastFrom_65 rfl (wfk w rfl) (wfb w (n := 256) rfl ⟨by omega, by omega⟩) ?_
        refine j_top (hI h 47 (S ||| 2 ^ k)) rfl ?_
        refine st_istore_n (q := 67) (i := 3) dX10_leastFrom_66 rfl (by decide) rfl ?_
        first | refine n_iinc (q := 70) dX10_leastFrom_67 rfl (by decide) rfl ⟨by omega, by omega⟩ ?_ | refine st_iinc (q := 70) dX10_leastFrom_67 rfl (by decide) rfl ?_
        refine st_goto (q := 6) dX10_leastFrom_70 (by decide) ?_
        first | exact lp_X10_leastFrom w hN hS hb hP (k + 1) (by omega) _ _ (s2 (by assumption) (Or.inl (by omega))) | exact lp_X10_leastFrom w hN hS hb hP (k + 1) (by omega) _ _ (s2 (by assumption) (Or.inr (by omega))) | exact lp_X10_leastFrom w hN hS hb hP (k + 1) (by omega) _ _ (s1 (by assumption) (by omega) (by omega)) | exact lp_X10_leastFrom w hN hS hb hP (k + 1) (by omega) _ _ (s0 (fun a => by rw [if_pos ((av_n hN).mpr a)] at c31; have := Nat.two_pow_pos k; omega)) | (exfalso; omega)
      · refine st_aload_n (q := 49) dX10_leastFrom_48 rfl rfl ?_
        refine st_getR (q := 52) 10 3 dX10_leastFrom_49 fl_X10_22 (by decide) (by decide) rfl rfl (wfk w rfl) (wfR w rfl) ?_
        refine st_iload (q := 54) dX10_leastFrom_52 rfl rfl ?_
        refine st_iaload (q := 55) dX10_leastFrom_54 rfl (wfk w rfl) (wfb w (n := 256) rfl ⟨by omega, by omega⟩) ?_
        refine j_top (hI h 47 (S ||| 2 ^ k)) rfl ?_
        refine st_iload_n (q := 56) dX10_leastFrom_55 rfl rfl ?_
        refine st_icmp_ge (q := 59) (tgt := 67) dX10_leastFrom_56 (by decide) rfl (fun c56 => ?_) (fun c56 => ?_)
        · first | refine n_iinc (q := 70) dX10_leastFrom_67 rfl (by decide) rfl ⟨by omega, by omega⟩ ?_ | refine st_iinc (q := 70) dX10_leastFrom_67 rfl (by decide) rfl ?_
          refine st_goto (q := 6) dX10_leastFrom_70 (by decide) ?_
          first | exact lp_X10_leastFrom w hN hS hb hP (k + 1) (by omega) _ _ (s2 (by assumption) (Or.inl (by omega))) | exact lp_X10_leastFrom w hN hS hb hP (k + 1) (by omega) _ _ (s2 (by assumption) (Or.inr (by omega))) | exact lp_X10_leastFrom w hN hS hb hP (k + 1) (by omega) _ _ (s1 (by assumption) (by omega) (by omega)) | exact lp_X10_leastFrom w hN hS hb hP (k + 1) (by omega) _ _ (s0 (fun a => by rw [if_pos ((av_n hN).mpr a)] at c31; have := Nat.two_pow_pos k; omega)) | (exfalso; omega)
        · refine st_aload_n (q := 60) dX10_leastFrom_59 rfl rfl ?_
          refine st_getR (q := 63) 10 3 dX10_leastFrom_60 fl_X10_22 (by decide) (by decide) rfl rfl (wfk w rfl) (wfR w rfl) ?_
          refine st_iload (q := 65) dX10_leastFrom_63 rfl rfl ?_
          refine st_iaload (q := 66) dX10_leastFrom_65 rfl (wfk w rfl) (wfb w (n := 256) rfl ⟨by omega, by omega⟩) ?_
          refine j_top (hI h 47 (S ||| 2 ^ k)) rfl ?_
          refine st_istore_n (q := 67) (i := 3) dX10_leastFrom_66 rfl (by decide) rfl ?_
          first | refine n_iinc (q := 70) dX10_leastFrom_67 rfl (by decide) rfl ⟨by omega, by omega⟩ ?_ | refine st_iinc (q := 70) dX10_leastFrom_67 rfl (by decide) rfl ?_
          refine st_goto (q := 6) dX10_leastFrom_70 (by decide) ?_
          first | exact lp_X10_leastFrom w hN hS hb hP (k + 1) (by omega) _ _ (s2 (by assumption) (Or.inl (by omega))) | exact lp_X10_leastFrom w hN hS hb hP (k + 1) (by omega) _ _ (s2 (by assumption) (Or.inr (by omega))) | exact lp_X10_leastFrom w hN hS hb hP (k + 1) (by omega) _ _ (s1 (by assumption) (by omega) (by omega)) | exact lp_X10_leastFrom w hN hS hb hP (k + 1) (by omega) _ _ (s0 (fun a => by rw [if_pos ((av_n hN).mpr a)] at c31; have := Nat.two_pow_pos k; omega)) | (exfalso; omega)
termination_by 8 - k
theorem c_X10_leastFrom {d : Nat} {h : JH} {P : Int → JH → Prop} {N S : Nat} (w : WF h) (hN : N < 256) (hS : S < 256) (hb : ∀ k, av N S k → 0 ≤ hI h 47 (S ||| 2 ^ k) ∧ hI h 47 (S ||| 2 ^ k) ≤ 100000) (hP : ∀ v, LFp (hI h 47) N S v → 0 ≤ v → v ≤ 100000 → P v h) : JRi (d + 1) jX10_leastFrom [vr 44, vi S, vi N] h P := by
  refine JRet.of rfl (Nat.le_of_ble_eq_true rfl) ?_
  refine st_bipush (q := 2) dX10_leastFrom_0 ⟨by decide, by decide⟩ rfl ?_
  refine st_istore_n (q := 3) (i := 3) dX10_leastFrom_2 rfl (by decide) rfl ?_
  refine st_iconst (q := 4) dX10_leastFrom_3 ⟨by decide, by decide⟩ rfl ?_
  refine st_istore (q := 6) dX10_leastFrom_4 (by decide) rfl ?_
  exact lp_X10_leastFrom w hN hS hb hP 0 (by omega) _ _ (Or.inl ⟨rfl, fun j hj => absurd hj (by omega)⟩)
theorem lp_X10_firstLeast {d : Nat} {h : JH} {P : Int → JH → Prop} {N S : Nat} {v : Int} (w : WF h) (hN : N < 256) (hS : S < 256) (ex : ∃ k, av N S k ∧ v = hI h 47 (S ||| 2 ^ k)) (hP : ∀ k : Nat, k < 8 → av N S k → v = hI h 47 (S ||| 2 ^ k) → (∀ j, j < k → av N S j → hI h 47 (S ||| 2 ^ j) ≠ v) → P k h) (k : Nat) (hk : k ≤ 8) (no : ∀ j, j < k → av N S j → hI h 47 (S ||| 2 ^ j) ≠ v) : ∀ (j : JV), JAt k0 (d + 1) jX10_firstLeast 3 [vr 44, vi S, vi N, vi v, vi k, j] [] h (jqi P) := by
  intro j
  have nl := nandn_le N S
  have pk : k < 8 → 2 ^ k < 256 := fun z => p8 z
  have ol : k < 8 → S ||| 2 ^ k < 256 := fun z => or_lt8 hS z
  have n8 : k = 8 → False := fun e => by
    obtain ⟨k0, a, b⟩ := ex
    exact no k0 (by rw [e]; exact av_lt hN a) a b.symm
  refine st_iload (q := 5) dX10_firstLeast_3 rfl rfl ?_
  refine st_bipush (q := 7) dX10_firstLeast_5 ⟨by decide, by decide⟩ rfl ?_
  refine st_icmp_ge (q := 10) (tgt := 59) dX10_firstLeast_7 (by decide) rfl (fun c7 => ?_) (fun c7 => ?_)
  · refine st_iconst (q := 60) dX10_firstLeast_59 ⟨by decide, by decide⟩ rfl ?_
    refine rt_i dX10_firstLeast_60 rfl ?_
    exact (n8 (by omega)).elim
  · have k8 : k < 8 := (by omega)
    have pk := pk k8
    have ol := ol k8
    refine st_iload_n (q := 11) dX10_firstLeast_10 rfl rfl ?_
    refine st_iconst (q := 12) dX10_firstLeast_11 ⟨by decide, by decide⟩ rfl ?_
    refine st_iload (q := 14) dX10_firstLeast_12 rfl rfl ?_
    refine st_ishl (q := 15) dX10_firstLeast_14 rfl ?_
    refine j_top ((2 ^ k : Nat) : Int) (p2k k8) ?_
    refine st_ior (q := 16) dX10_firstLeast_15 rfl ?_
    refine j_top ((S ||| 2 ^ k : Nat) : Int) (ior_n (by omega) (by omega)) ?_
    refine st_istore (q := 18) dX10_firstLeast_16 (by decide) rfl ?_
    refine st_iload_n (q := 19) dX10_firstLeast_18 rfl rfl ?_
    refine st_iload_n (q := 20) dX10_firstLeast_19 rfl rfl ?_
    refine st_iconst (q := 21) dX10_firstLeast_20 ⟨by decide, by decide⟩ rfl ?_
    refine st_ixor (q := 22) dX10_firstLeast_21 rfl ?_
    refine st_iand (q := 23) dX10_firstLeast_22 rfl ?_
    refine j_top ((nandn N S : Nat) : Int) (iandn_n (by omega) (by omega)) ?_
    refine st_iconst (q := 24) dX10_firstLeast_23 ⟨by decide, by decide⟩ rfl ?_
    refine st_iload (q := 26) dX10_firstLeast_24 rfl rfl ?_
    refine st_ishl (q := 27) dX10_firstLeast_26 rfl ?_
    refine j_top ((2 ^ k : Nat) : Int) (p2k k8) ?_
    refine st_iand (q := 28) dX10_firstLeast_27 rfl ?_
    refine j_top ((nandn N S &&& 2 ^ k : Nat) : Int) (iand_n (by omega)) ?_
    rw [and_p2]
    refine st_if_eq (q := 31) (tgt := 53) dX10_firstLeast_28 (by decide) rfl (fun c28 => ?_) (fun c28 => ?_)
    · first | refine n_iinc (q := 56) dX10_firstLeast_53 rfl (by decide) rfl ⟨by omega, by omega⟩ ?_ | refine st_iinc (q := 56) dX10_firstLeast_53 rfl (by decide) rfl ?_
      refine st_goto (q := 3) dX10_firstLeast_56 (by decide) ?_
      first | exact lp_X10_firstLeast w hN hS ex hP (k + 1) (by omega) (fun j hj a => by by_cases e : j = k; (rw [e]; assumption); exact no j (by omega) a) _ | exact lp_X10_firstLeast w hN hS ex hP (k + 1) (by omega) (fun j hj a => by by_cases e : j = k; (rw [e] at a; rw [if_pos ((av_n hN).mpr a)] at c28; exfalso; have := Nat.two_pow_pos k; omega); exact no j (by omega) a) _ | (exfalso; omega)
    · have akz9 : av N S k := (av_n hN).mp (by cases z : (nandn N S).testBit k; (rw [z] at c28; exact absurd rfl c28); rfl)
      refine st_iload (q := 33) dX10_firstLeast_31 rfl rfl ?_
      refine iS1i (q := 36) dX10_firstLeast_33 rfl ml_X10_78 ms_X10_isReached (Nat.le_of_ble_eq_true rfl) ?_
      refine c_X10_isReached (by omega) ?_
      refine st_if_eq (q := 39) (tgt := 53) dX10_firstLeast_36 (by decide) rfl (fun z => absurd z (by decide)) (fun _ => ?_)
      refine st_aload_n (q := 40) dX10_firstLeast_39 rfl rfl ?_
      refine st_getR (q := 43) 10 3 dX10_firstLeast_40 fl_X10_22 (by decide) (by decide) rfl rfl (wfk w rfl) (wfR w rfl) ?_
      refine st_iload (q := 45) dX10_firstLeast_43 rfl rfl ?_
      refine st_iaload (q := 46) dX10_firstLeast_45 rfl (wfk w rfl) (wfb w (n := 256) rfl ⟨by omega, by omega⟩) ?_
      refine j_top (hI h 47 (S ||| 2 ^ k)) rfl ?_
      refine st_iload_n (q := 47) dX10_firstLeast_46 rfl rfl ?_
      refine st_icmp_ne (q := 50) (tgt := 53) dX10_firstLeast_47 (by decide) rfl (fun c47 => ?_) (fun c47 => ?_)
      · first | refine n_iinc (q := 56) dX10_firstLeast_53 rfl (by decide) rfl ⟨by omega, by omega⟩ ?_ | refine st_iinc (q := 56) dX10_firstLeast_53 rfl (by decide) rfl ?_
        refine st_goto (q := 3) dX10_firstLeast_56 (by decide) ?_
        first | exact lp_X10_firstLeast w hN hS ex hP (k + 1) (by omega) (fun j hj a => by by_cases e : j = k; (rw [e]; assumption); exact no j (by omega) a) _ | exact lp_X10_firstLeast w hN hS ex hP (k + 1) (by omega) (fun j hj a => by by_cases e : j = k; (rw [e] at a; rw [if_pos ((av_n hN).mpr a)] at c28; exfalso; have := Nat.two_pow_pos k; omega); exact no j (by omega) a) _ | (exfalso; omega)
      · refine st_iload (q := 52) dX10_firstLeast_50 rfl rfl ?_
        refine rt_i dX10_firstLeast_52 rfl ?_
        exact hP k k8 akz9 (by omega) no
termination_by 8 - k
theorem c_X10_firstLeast {d : Nat} {h : JH} {P : Int → JH → Prop} {N S : Nat} {v : Int} (w : WF h) (hN : N < 256) (hS : S < 256) (ex : ∃ k, av N S k ∧ v = hI h 47 (S ||| 2 ^ k)) (hP : ∀ k : Nat, k < 8 → av N S k → v = hI h 47 (S ||| 2 ^ k) → (∀ j, j < k → av N S j → hI h 47 (S ||| 2 ^ j) ≠ v) → P k h) : JRi (d + 1) jX10_firstLeast [vr 44, vi S, vi N, vi v] h P := by
  refine JRet.of rfl (Nat.le_of_ble_eq_true rfl) ?_
  refine st_iconst (q := 1) dX10_firstLeast_0 ⟨by decide, by decide⟩ rfl ?_
  refine st_istore (q := 3) dX10_firstLeast_1 (by decide) rfl ?_
  exact lp_X10_firstLeast w hN hS ex hP 0 (by omega) (fun j hj => absurd hj (by omega)) _

