/-! the model: small methods -/
def mtH (h : JH) (w : Int) : JH := sI (sI h 117 0 w) 118 w.toNat (w32 (hI h 118 w.toNat + 1))
theorem c_X12_in {d : Nat} {h : JH} {P : Int → JH → Prop} {v lo hi : Int} (hP : P (if lo ≤ v ∧ v ≤ hi then 1 else 0) h) : JRi d jX12_in [vi v, vi lo, vi hi] h P := by
  refine JRet.of rfl (Nat.le_of_ble_eq_true rfl) ?_
  refine st_iload_n (q := 1) dX12_in_0 rfl rfl ?_
  refine st_iload_n (q := 2) dX12_in_1 rfl rfl ?_
  apply j_mg 15
  · intro K1 K2
    refine st_icmp_lt (q := 5) (tgt := 14) dX12_in_2 (by decide) rfl (fun c2 => ?_) (fun c2 => ?_)
    · refine st_iconst (q := 15) dX12_in_14 ⟨by decide, by decide⟩ rfl ?_
      exact K1 c2
    · refine st_iload_n (q := 6) dX12_in_5 rfl rfl ?_
      refine st_iload_n (q := 7) dX12_in_6 rfl rfl ?_
      apply j_mg 15
      · intro K3 K4
        refine st_icmp_gt (q := 10) (tgt := 14) dX12_in_7 (by decide) rfl (fun c7 => ?_) (fun c7 => ?_)
        · refine st_iconst (q := 15) dX12_in_14 ⟨by decide, by decide⟩ rfl ?_
          exact K3 c7
        · refine st_iconst (q := 11) dX12_in_10 ⟨by decide, by decide⟩ rfl ?_
          refine st_goto (q := 15) dX12_in_11 (by decide) ?_
          exact K4 c7
      · simp only [jif_if]
        exact K2 c2
  · simp only [jif_if]
    refine rt_z dX12_in_15 rfl (by (repeat' split) <;> omega) ?_
    exact pq hP (by (repeat' split) <;> omega) rfl
theorem c_X12_meets {d : Nat} {h : JH} {P : Int → JH → Prop} {v : Int} (w : WF h) (hv : 0 ≤ v ∧ v < 6) (hP : P (-3) (mtH h v)) : JRi d jX12_meets [vr 117, vi v] h P := by
  refine JRet.of rfl (Nat.le_of_ble_eq_true rfl) ?_
  refine st_aload_n (q := 1) dX12_meets_0 rfl rfl ?_
  refine st_iload_n (q := 2) dX12_meets_1 rfl rfl ?_
  refine st_putI (q := 5) 12 0 dX12_meets_2 fl_X12_121 (by decide) (by decide) (Or.inl rfl) rfl (Or.inl rfl) (wfk w rfl) ?_
  refine st_aload_n (q := 6) dX12_meets_5 rfl rfl ?_
  refine st_getR (q := 9) 12 1 dX12_meets_6 fl_X12_7 (by decide) (by decide) rfl rfl (wfk w rfl) (wfR w rfl) ?_
  refine st_iload_n (q := 10) dX12_meets_9 rfl rfl ?_
  refine st_dup2 (q := 11) dX12_meets_10 rfl rfl rfl ?_
  refine st_iaload (q := 12) dX12_meets_11 rfl (wfk w rfl) (wfb w (n := 6) rfl ⟨by omega, by omega⟩) ?_
  refine st_iconst (q := 13) dX12_meets_12 ⟨by decide, by decide⟩ rfl ?_
  first | refine n_iadd (q := 14) dX12_meets_13 rfl ⟨by omega, by omega⟩ ?_ | refine st_iadd (q := 14) dX12_meets_13 rfl ?_
  refine st_iastore (q := 15) dX12_meets_14 rfl (wfk w rfl) (wfb w (n := 6) rfl ⟨by omega, by omega⟩) ?_
  refine st_bipush (q := 17) dX12_meets_15 ⟨by decide, by decide⟩ rfl ?_
  refine rt_i dX12_meets_17 rfl ?_
  exact pq hP rfl (by simp [mtH, sI_I])
theorem c_X12_ask {d : Nat} {h : JH} {P : Int → JH → Prop} {v r : Int} (w : WF h) (hP : P r (sI h 117 2 v)) : JRi d jX12_ask [vr 117, vi v, vi r] h P := by
  refine JRet.of rfl (Nat.le_of_ble_eq_true rfl) ?_
  refine st_aload_n (q := 1) dX12_ask_0 rfl rfl ?_
  refine st_iload_n (q := 2) dX12_ask_1 rfl rfl ?_
  refine st_putI (q := 5) 12 2 dX12_ask_2 fl_X12_124 (by decide) (by decide) (Or.inl rfl) rfl (Or.inl rfl) (wfk w rfl) ?_
  refine st_iload_n (q := 6) dX12_ask_5 rfl rfl ?_
  refine rt_i dX12_ask_6 rfl ?_
  exact hP
theorem c_X12_has {d : Nat} {h : JH} {P : Int → JH → Prop} {s k : Int} (hP : P (if iand (ishr s k) 1 = 1 then 1 else 0) h) : JRi d jX12_has [vi s, vi k] h P := by
  refine JRet.of rfl (Nat.le_of_ble_eq_true rfl) ?_
  refine st_iload_n (q := 1) dX12_has_0 rfl rfl ?_
  refine st_iload_n (q := 2) dX12_has_1 rfl rfl ?_
  refine st_ishr (q := 3) dX12_has_2 rfl ?_
  refine st_iconst (q := 4) dX12_has_3 ⟨by decide, by decide⟩ rfl ?_
  refine st_iand (q := 5) dX12_has_4 rfl ?_
  refine st_iconst (q := 6) dX12_has_5 ⟨by decide, by decide⟩ rfl ?_
  apply j_mg 14
  · intro K1 K2
    refine st_icmp_ne (q := 9) (tgt := 13) dX12_has_6 (by decide) rfl (fun c6 => ?_) (fun c6 => ?_)
    · refine st_iconst (q := 14) dX12_has_13 ⟨by decide, by decide⟩ rfl ?_
      exact K2 c6
    · refine st_iconst (q := 10) dX12_has_9 ⟨by decide, by decide⟩ rfl ?_
      refine st_goto (q := 14) dX12_has_10 (by decide) ?_
      exact K1 c6
  · simp only [jif_if]
    refine rt_z dX12_has_14 rfl (by (repeat' split) <;> omega) ?_
    exact pq hP (by (repeat' split) <;> omega) rfl
def bitsF (s : Int) : Nat → Int
  | 0 => 0
  | k + 1 => bitsF s k + iand (ishr s k) 1
theorem bitsF_b (s : Int) : ∀ k, 0 ≤ bitsF s k ∧ bitsF s k ≤ k
  | 0 => ⟨Int.le_refl _, Int.le_refl _⟩
  | k + 1 => by
    have h1 := bitsF_b s k
    have h2 := iand_1 (ishr s k)
    have e : bitsF s (k + 1) = bitsF s k + iand (ishr s k) 1 := rfl
    omega
theorem lp_X12_bits {d : Nat} {h : JH} {P : Int → JH → Prop} {s : Int} (hP : P (bitsF s 16) h) (k : Nat) (hk : k ≤ 16) : JAt k0 d jX12_bits 4 [vi s, vi (bitsF s k), vi k] [] h (jqi P) := by
  have b1 := bitsF_b s k
  have b2 := iand_1 (ishr s k)
  refine st_iload_n (q := 5) dX12_bits_4 rfl rfl ?_
  refine st_bipush (q := 7) dX12_bits_5 ⟨by decide, by decide⟩ rfl ?_
  refine st_icmp_ge (q := 10) (tgt := 24) dX12_bits_7 (by decide) rfl (fun c7 => ?_) (fun c7 => ?_)
  · refine st_iload_n (q := 25) dX12_bits_24 rfl rfl ?_
    refine rt_i dX12_bits_25 rfl ?_
    exact pq hP (by rw [show k = 16 by omega]) rfl
  · refine st_iload_n (q := 11) dX12_bits_10 rfl rfl ?_
    refine st_iload_n (q := 12) dX12_bits_11 rfl rfl ?_
    refine st_iload_n (q := 13) dX12_bits_12 rfl rfl ?_
    refine st_ishr (q := 14) dX12_bits_13 rfl ?_
    refine st_iconst (q := 15) dX12_bits_14 ⟨by decide, by decide⟩ rfl ?_
    refine st_iand (q := 16) dX12_bits_15 rfl ?_
    first | refine n_iadd (q := 17) dX12_bits_16 rfl ⟨by omega, by omega⟩ ?_ | refine st_iadd (q := 17) dX12_bits_16 rfl ?_
    refine st_istore_n (q := 18) (i := 1) dX12_bits_17 rfl (by decide) rfl ?_
    first | refine n_iinc (q := 21) dX12_bits_18 rfl (by decide) rfl ⟨by omega, by omega⟩ ?_ | refine st_iinc (q := 21) dX12_bits_18 rfl (by decide) rfl ?_
    refine st_goto (q := 4) dX12_bits_21 (by decide) ?_
    exact lp_X12_bits hP (k + 1) (by omega)
termination_by 16 - k
theorem c_X12_bits {d : Nat} {h : JH} {P : Int → JH → Prop} {s : Int} (hP : P (bitsF s 16) h) : JRi d jX12_bits [vi s] h P := by
  refine JRet.of rfl (Nat.le_of_ble_eq_true rfl) ?_
  refine st_iconst (q := 1) dX12_bits_0 ⟨by decide, by decide⟩ rfl ?_
  refine st_istore_n (q := 2) (i := 1) dX12_bits_1 rfl (by decide) rfl ?_
  refine st_iconst (q := 3) dX12_bits_2 ⟨by decide, by decide⟩ rfl ?_
  refine st_istore_n (q := 4) (i := 2) dX12_bits_3 rfl (by decide) rfl ?_
  exact lp_X12_bits hP 0 (by omega)
theorem c_X12_abs {d : Nat} {h : JH} {P : Int → JH → Prop} {v : Int} (hv : -2147483648 < v ∧ v < 2147483648) (hP : P (if v < 0 then -v else v) h) : JRi d jX12_abs [vi v] h P := by
  refine JRet.of rfl (Nat.le_of_ble_eq_true rfl) ?_
  refine st_iload_n (q := 1) dX12_abs_0 rfl rfl ?_
  apply j_mg 10
  · intro K1 K2
    refine st_if_ge (q := 4) (tgt := 9) dX12_abs_1 (by decide) rfl (fun c1 => ?_) (fun c1 => ?_)
    · refine st_iload_n (q := 10) dX12_abs_9 rfl rfl ?_
      exact K1 c1
    · refine st_iload_n (q := 5) dX12_abs_4 rfl rfl ?_
      refine st_ineg (q := 6) dX12_abs_5 rfl ?_
      refine st_goto (q := 10) dX12_abs_6 (by decide) ?_
      exact K2 c1
  · simp only [jif_if]
    refine rt_i dX12_abs_10 rfl ?_
    refine pq hP ?_ rfl
    rw [w32_id ⟨by omega, by omega⟩]
    (repeat' split) <;> omega
theorem lp_X12_share {d : Nat} {h : JH} {P : Int → JH → Prop} {up low ans : Int} {g : Nat} (w : WF h) (hg : 0 < g) (hP : P ans (sJ (sJ h 117 3 (w64 (up.tdiv g))) 117 4 (w64 (low.tdiv g)))) (b : Nat) : ∀ (a : Nat) (j : JV), Nat.gcd b a = g → JAt k0 d jX12_share 17 [vr 117, vl up, vn, vl low, vn, vi ans, vl a, vn, vl b, vn, j, vn] [] h (jqi P) := by
  intro a j he
  have hb0 : b = 0 → a = g := fun z => by rw [← he, z, Nat.gcd_zero_left]
  refine st_lload (q := 19) dX12_share_17 rfl rfl ?_
  refine st_lconst (q := 20) (x := 0) dX12_share_19 ⟨by decide, by decide, by decide⟩ rfl ?_
  refine st_lif_eq (p2 := 21) (q := 24) (tgt := 42) dX12_share_20 rfl dX12_share_21 (by decide) rfl (fun c21 => ?_) (fun c21 => ?_)
  · refine st_aload_n (q := 43) dX12_share_42 rfl rfl ?_
    refine st_lload_n (q := 44) dX12_share_43 rfl rfl ?_
    refine st_lload (q := 46) dX12_share_44 rfl rfl ?_
    refine st_ldiv (q := 47) dX12_share_46 (by omega) rfl ?_
    refine st_putJ (q := 50) 12 3 dX12_share_47 fl_X12_127 (by decide) (by decide) (Or.inl rfl) rfl rfl (wfk w rfl) ?_
    refine st_aload_n (q := 51) dX12_share_50 rfl rfl ?_
    refine st_lload_n (q := 52) dX12_share_51 rfl rfl ?_
    refine st_lload (q := 54) dX12_share_52 rfl rfl ?_
    refine st_ldiv (q := 55) dX12_share_54 (by omega) rfl ?_
    refine st_putJ (q := 58) 12 4 dX12_share_55 fl_X12_13 (by decide) (by decide) (Or.inl rfl) rfl rfl (wfk w rfl) ?_
    refine st_iload (q := 60) dX12_share_58 rfl rfl ?_
    refine rt_i dX12_share_60 rfl ?_
    exact pq hP rfl (by rw [hb0 (by omega)])
  · refine st_lload (q := 26) dX12_share_24 rfl rfl ?_
    refine st_lload (q := 28) dX12_share_26 rfl rfl ?_
    refine st_lrem (q := 29) dX12_share_28 (by omega) rfl ?_
    refine st_lstore (q := 31) dX12_share_29 (by decide) rfl ?_
    refine st_lload (q := 33) dX12_share_31 rfl rfl ?_
    refine st_lstore (q := 35) dX12_share_33 (by decide) rfl ?_
    refine st_lload (q := 37) dX12_share_35 rfl rfl ?_
    refine st_lstore (q := 39) dX12_share_37 (by decide) rfl ?_
    refine st_goto (q := 17) dX12_share_39 (by decide) ?_
    have e1 : (a : Int).tmod b = ((a % b : Nat) : Int) := rfl
    rw [e1]
    exact lp_X12_share w hg hP (a % b) b _ (by rw [← Nat.gcd_rec]; exact he)
termination_by b
decreasing_by exact Nat.mod_lt _ (by omega)
theorem c_X12_share {d : Nat} {h : JH} {P : Int → JH → Prop} {up low ans : Int} (w : WF h) (hu : -1000000 < up ∧ up < 1000000) (hl : 0 < low ∧ low < 1000000) (hP : P ans (sJ (sJ h 117 3 (w64 (up.tdiv (Nat.gcd low.natAbs up.natAbs)))) 117 4 (w64 (low.tdiv (Nat.gcd low.natAbs up.natAbs))))) : JRi d jX12_share [vr 117, vl up, vl low, vi ans] h P := by
  have hg : 0 < Nat.gcd low.natAbs up.natAbs := Nat.gcd_pos_of_pos_left _ (by omega)
  have e2 : low = (low.natAbs : Int) := by omega
  refine JRet.of rfl (Nat.le_of_ble_eq_true rfl) ?_
  refine st_lload_n (q := 1) dX12_share_0 rfl rfl ?_
  refine st_lconst (q := 2) (x := 0) dX12_share_1 ⟨by decide, by decide, by decide⟩ rfl ?_
  refine st_lif_ge (p2 := 3) (q := 6) (tgt := 11) dX12_share_2 rfl dX12_share_3 (by decide) rfl (fun c3 => ?_) (fun c3 => ?_)
  · refine st_lload_n (q := 12) dX12_share_11 rfl rfl ?_
    refine st_lstore (q := 14) dX12_share_12 (by decide) rfl ?_
    refine st_lload_n (q := 15) dX12_share_14 rfl rfl ?_
    refine st_lstore (q := 17) dX12_share_15 (by decide) rfl ?_
    first | (have e1 : up = (up.natAbs : Int) := by omega) | (have e1 : w64 (-up) = (up.natAbs : Int) := by (unfold w64; omega))
    have := lp_X12_share (d := d) w hg hP low.natAbs up.natAbs vn rfl
    rw [← e1, ← e2] at this
    exact this
  · refine st_lload_n (q := 7) dX12_share_6 rfl rfl ?_
    refine st_lneg (q := 8) dX12_share_7 rfl ?_
    refine st_goto (q := 12) dX12_share_8 (by decide) ?_
    refine st_lstore (q := 14) dX12_share_12 (by decide) rfl ?_
    refine st_lload_n (q := 15) dX12_share_14 rfl rfl ?_
    refine st_lstore (q := 17) dX12_share_15 (by decide) rfl ?_
    first | (have e1 : up = (up.natAbs : Int) := by omega) | (have e1 : w64 (-up) = (up.natAbs : Int) := by (unfold w64; omega))
    have := lp_X12_share (d := d) w hg hP low.natAbs up.natAbs vn rfl
    rw [← e1, ← e2] at this
    exact this
theorem c_X12_isRow {d : Nat} {h : JH} {P : Int → JH → Prop} {v : Int} (hP : P (if 0 ≤ v ∧ v ≤ 5 then 1 else 0) h) : JRi (d + 1) jX12_isRow [vi v] h P := by
  refine JRet.of rfl (Nat.le_of_ble_eq_true rfl) ?_
  refine st_iload_n (q := 1) dX12_isRow_0 rfl rfl ?_
  refine st_iconst (q := 2) dX12_isRow_1 ⟨by decide, by decide⟩ rfl ?_
  refine st_iconst (q := 3) dX12_isRow_2 ⟨by decide, by decide⟩ rfl ?_
  refine iS3i (q := 6) dX12_isRow_3 rfl ml_X12_130 ms_X12_in (Nat.le_of_ble_eq_true rfl) ?_
  refine c_X12_in ?_
  refine rt_z dX12_isRow_6 rfl (by (repeat' split) <;> omega) ?_
  exact hP
theorem c_X12_isText {d : Nat} {h : JH} {P : Int → JH → Prop} {v : Int} (hP : P (if 0 ≤ v ∧ v ≤ 3 then 1 else 0) h) : JRi (d + 1) jX12_isText [vi v] h P := by
  refine JRet.of rfl (Nat.le_of_ble_eq_true rfl) ?_
  refine st_iload_n (q := 1) dX12_isText_0 rfl rfl ?_
  refine st_iconst (q := 2) dX12_isText_1 ⟨by decide, by decide⟩ rfl ?_
  refine st_iconst (q := 3) dX12_isText_2 ⟨by decide, by decide⟩ rfl ?_
  refine iS3i (q := 6) dX12_isText_3 rfl ml_X12_130 ms_X12_in (Nat.le_of_ble_eq_true rfl) ?_
  refine c_X12_in ?_
  refine rt_z dX12_isText_6 rfl (by (repeat' split) <;> omega) ?_
  exact hP
theorem c_X12_isHide {d : Nat} {h : JH} {P : Int → JH → Prop} {v : Int} (hP : P (if 0 ≤ v ∧ v ≤ 7 then 1 else 0) h) : JRi (d + 1) jX12_isHide [vi v] h P := by
  refine JRet.of rfl (Nat.le_of_ble_eq_true rfl) ?_
  refine st_iload_n (q := 1) dX12_isHide_0 rfl rfl ?_
  refine st_iconst (q := 2) dX12_isHide_1 ⟨by decide, by decide⟩ rfl ?_
  refine st_bipush (q := 4) dX12_isHide_2 ⟨by decide, by decide⟩ rfl ?_
  refine iS3i (q := 7) dX12_isHide_4 rfl ml_X12_130 ms_X12_in (Nat.le_of_ble_eq_true rfl) ?_
  refine c_X12_in ?_
  refine rt_z dX12_isHide_7 rfl (by (repeat' split) <;> omega) ?_
  exact hP
theorem c_X12_isThere {d : Nat} {h : JH} {P : Int → JH → Prop} {k : Int} (w : WF h) (hk : 0 ≤ k ∧ k ≤ 7) (hP : P (if hI h 126 k.toNat = 0 then 0 else 1) h) : JRi d jX12_isThere [vr 117, vi k] h P := by
  refine JRet.of rfl (Nat.le_of_ble_eq_true rfl) ?_
  refine st_aload_n (q := 1) dX12_isThere_0 rfl rfl ?_
  refine st_getR (q := 4) 12 12 dX12_isThere_1 fl_X12_38 (by decide) (by decide) rfl rfl (wfk w rfl) (wfR w rfl) ?_
  refine st_iload_n (q := 5) dX12_isThere_4 rfl rfl ?_
  refine st_iaload (q := 6) dX12_isThere_5 rfl (wfk w rfl) (wfb w (n := 8) rfl ⟨by omega, by omega⟩) ?_
  apply j_mg 14
  · intro K1 K2
    refine st_if_eq (q := 9) (tgt := 13) dX12_isThere_6 (by decide) rfl (fun c6 => ?_) (fun c6 => ?_)
    · refine st_iconst (q := 14) dX12_isThere_13 ⟨by decide, by decide⟩ rfl ?_
      exact K1 c6
    · refine st_iconst (q := 10) dX12_isThere_9 ⟨by decide, by decide⟩ rfl ?_
      refine st_goto (q := 14) dX12_isThere_10 (by decide) ?_
      exact K2 c6
  · simp only [jif_if]
    refine rt_z dX12_isThere_14 rfl (by (repeat' split) <;> omega) ?_
    exact hP
theorem c_X12_askedRow {d : Nat} {h : JH} {P : Int → JH → Prop} {r : Int} (w : WF h) (h1 : ¬ (0 ≤ r ∧ r ≤ 5) → P (-1) h) (h2 : 0 ≤ r ∧ r ≤ 5 → hI h 119 r.toNat < 0 → P (-3) (mtH h 1)) (h3 : 0 ≤ r ∧ r ≤ 5 → 0 ≤ hI h 119 r.toNat → P 0 h) : JRi (d + 2) jX12_askedRow [vr 117, vi r] h P := by
  refine JRet.of rfl (Nat.le_of_ble_eq_true rfl) ?_
  refine st_iload_n (q := 1) dX12_askedRow_0 rfl rfl ?_
  refine iS1i (q := 4) dX12_askedRow_1 rfl ml_X12_134 ms_X12_isRow (Nat.le_of_ble_eq_true rfl) ?_
  refine c_X12_isRow ?_
  refine st_if_ne (q := 7) (tgt := 11) dX12_askedRow_4 (by decide) rfl (fun c4 => ?_) (fun c4 => ?_)
  · refine st_aload_n (q := 12) dX12_askedRow_11 rfl rfl ?_
    refine st_getR (q := 15) 12 5 dX12_askedRow_12 fl_X12_17 (by decide) (by decide) rfl rfl (wfk w rfl) (wfR w rfl) ?_
    refine st_iload_n (q := 16) dX12_askedRow_15 rfl rfl ?_
    refine st_iaload (q := 17) dX12_askedRow_16 rfl (wfk w rfl) (wfb w (n := 6) rfl ⟨by omega, by omega⟩) ?_
    refine st_if_ge (q := 20) (tgt := 28) dX12_askedRow_17 (by decide) rfl (fun c17 => ?_) (fun c17 => ?_)
    · refine st_iconst (q := 29) dX12_askedRow_28 ⟨by decide, by decide⟩ rfl ?_
      refine rt_i dX12_askedRow_29 rfl ?_
      first | exact h1 (by omega) | exact h2 (by omega) (by omega) | exact h3 (by omega) (by omega)
    · refine st_aload_n (q := 21) dX12_askedRow_20 rfl rfl ?_
      refine st_iconst (q := 22) dX12_askedRow_21 ⟨by decide, by decide⟩ rfl ?_
      refine iV1i (q := 25) dX12_askedRow_22 rfl ml_X12_138 mv_X12_meets (Nat.le_of_ble_eq_true rfl) (wfk w rfl) ?_
      refine c_X12_meets w (by decide) ?_
      refine st_goto (q := 29) dX12_askedRow_25 (by decide) ?_
      refine rt_i dX12_askedRow_29 rfl ?_
      first | exact h1 (by omega) | exact h2 (by omega) (by omega) | exact h3 (by omega) (by omega)
  · refine st_iconst (q := 8) dX12_askedRow_7 ⟨by decide, by decide⟩ rfl ?_
    refine st_goto (q := 29) dX12_askedRow_8 (by decide) ?_
    refine rt_i dX12_askedRow_29 rfl ?_
    first | exact h1 (by omega) | exact h2 (by omega) (by omega) | exact h3 (by omega) (by omega)
theorem c_X12_askedText {d : Nat} {h : JH} {P : Int → JH → Prop} {r : Int} (w : WF h) (h1 : ¬ (0 ≤ r ∧ r ≤ 3) → P (-1) h) (h2 : 0 ≤ r ∧ r ≤ 3 → hI h 122 r.toNat < 0 → P (-3) (mtH h 1)) (h3 : 0 ≤ r ∧ r ≤ 3 → 0 ≤ hI h 122 r.toNat → P 0 h) : JRi (d + 2) jX12_askedText [vr 117, vi r] h P := by
  refine JRet.of rfl (Nat.le_of_ble_eq_true rfl) ?_
  refine st_iload_n (q := 1) dX12_askedText_0 rfl rfl ?_
  refine iS1i (q := 4) dX12_askedText_1 rfl ml_X12_142 ms_X12_isText (Nat.le_of_ble_eq_true rfl) ?_
  refine c_X12_isText ?_
  refine st_if_ne (q := 7) (tgt := 11) dX12_askedText_4 (by decide) rfl (fun c4 => ?_) (fun c4 => ?_)
  · refine st_aload_n (q := 12) dX12_askedText_11 rfl rfl ?_
    refine st_getR (q := 15) 12 8 dX12_askedText_12 fl_X12_26 (by decide) (by decide) rfl rfl (wfk w rfl) (wfR w rfl) ?_
    refine st_iload_n (q := 16) dX12_askedText_15 rfl rfl ?_
    refine st_iaload (q := 17) dX12_askedText_16 rfl (wfk w rfl) (wfb w (n := 4) rfl ⟨by omega, by omega⟩) ?_
    refine st_if_ge (q := 20) (tgt := 28) dX12_askedText_17 (by decide) rfl (fun c17 => ?_) (fun c17 => ?_)
    · refine st_iconst (q := 29) dX12_askedText_28 ⟨by decide, by decide⟩ rfl ?_
      refine rt_i dX12_askedText_29 rfl ?_
      first | exact h1 (by omega) | exact h2 (by omega) (by omega) | exact h3 (by omega) (by omega)
    · refine st_aload_n (q := 21) dX12_askedText_20 rfl rfl ?_
      refine st_iconst (q := 22) dX12_askedText_21 ⟨by decide, by decide⟩ rfl ?_
      refine iV1i (q := 25) dX12_askedText_22 rfl ml_X12_138 mv_X12_meets (Nat.le_of_ble_eq_true rfl) (wfk w rfl) ?_
      refine c_X12_meets w (by decide) ?_
      refine st_goto (q := 29) dX12_askedText_25 (by decide) ?_
      refine rt_i dX12_askedText_29 rfl ?_
      first | exact h1 (by omega) | exact h2 (by omega) (by omega) | exact h3 (by omega) (by omega)
  · refine st_iconst (q := 8) dX12_askedText_7 ⟨by decide, by decide⟩ rfl ?_
    refine st_goto (q := 29) dX12_askedText_8 (by decide) ?_
    refine rt_i dX12_askedText_29 rfl ?_
    first | exact h1 (by omega) | exact h2 (by omega) (by omega) | exact h3 (by omega) (by omega)
theorem c_X12_askedHide {d : Nat} {h : JH} {P : Int → JH → Prop} {r : Int} (w : WF h) (h1 : ¬ (0 ≤ r ∧ r ≤ 7) → P (-1) h) (h2 : 0 ≤ r ∧ r ≤ 7 → hI h 126 r.toNat = 0 → P (-3) (mtH h 1)) (h3 : 0 ≤ r ∧ r ≤ 7 → hI h 126 r.toNat ≠ 0 → P 0 h) : JRi (d + 2) jX12_askedHide [vr 117, vi r] h P := by
  refine JRet.of rfl (Nat.le_of_ble_eq_true rfl) ?_
  refine st_iload_n (q := 1) dX12_askedHide_0 rfl rfl ?_
  refine iS1i (q := 4) dX12_askedHide_1 rfl ml_X12_161 ms_X12_isHide (Nat.le_of_ble_eq_true rfl) ?_
  refine c_X12_isHide ?_
  refine st_if_ne (q := 7) (tgt := 11) dX12_askedHide_4 (by decide) rfl (fun c4 => ?_) (fun c4 => ?_)
  · refine st_aload_n (q := 12) dX12_askedHide_11 rfl rfl ?_
    refine st_iload_n (q := 13) dX12_askedHide_12 rfl rfl ?_
    refine iV1i (q := 16) dX12_askedHide_13 rfl ml_X12_164 mv_X12_isThere (Nat.le_of_ble_eq_true rfl) (wfk w rfl) ?_
    refine c_X12_isThere w (by omega) ?_
    refine st_if_ne (q := 19) (tgt := 27) dX12_askedHide_16 (by decide) rfl (fun c16 => ?_) (fun c16 => ?_)
    · refine st_iconst (q := 28) dX12_askedHide_27 ⟨by decide, by decide⟩ rfl ?_
      refine rt_i dX12_askedHide_28 rfl ?_
      first | exact h1 (by omega) | exact h2 (by omega) (by omega) | exact h3 (by omega) (by omega)
    · refine st_aload_n (q := 20) dX12_askedHide_19 rfl rfl ?_
      refine st_iconst (q := 21) dX12_askedHide_20 ⟨by decide, by decide⟩ rfl ?_
      refine iV1i (q := 24) dX12_askedHide_21 rfl ml_X12_138 mv_X12_meets (Nat.le_of_ble_eq_true rfl) (wfk w rfl) ?_
      refine c_X12_meets w (by decide) ?_
      refine st_goto (q := 28) dX12_askedHide_24 (by decide) ?_
      refine rt_i dX12_askedHide_28 rfl ?_
      first | exact h1 (by omega) | exact h2 (by omega) (by omega) | exact h3 (by omega) (by omega)
  · refine st_iconst (q := 8) dX12_askedHide_7 ⟨by decide, by decide⟩ rfl ?_
    refine st_goto (q := 28) dX12_askedHide_8 (by decide) ?_
    refine rt_i dX12_askedHide_28 rfl ?_
    first | exact h1 (by omega) | exact h2 (by omega) (by omega) | exact h3 (by omega) (by omega)
theorem c_X12_rowAt {d : Nat} {h : JH} {P : Int → JH → Prop} {r i : Int} (w : WF h) (hr : 0 ≤ r ∧ r ≤ 5) (hi : 0 ≤ i ∧ i < 40) (hP : P (hI h 120 (40 * r + i).toNat) h) : JRi d jX12_rowAt [vr 117, vi r, vi i] h P := by
  refine JRet.of rfl (Nat.le_of_ble_eq_true rfl) ?_
  refine st_aload_n (q := 1) dX12_rowAt_0 rfl rfl ?_
  refine st_getR (q := 4) 12 6 dX12_rowAt_1 fl_X12_20 (by decide) (by decide) rfl rfl (wfk w rfl) (wfR w rfl) ?_
  refine st_bipush (q := 6) dX12_rowAt_4 ⟨by decide, by decide⟩ rfl ?_
  refine st_iload_n (q := 7) dX12_rowAt_6 rfl rfl ?_
  first | refine n_imul (q := 8) dX12_rowAt_7 rfl ⟨by omega, by omega⟩ ?_ | refine st_imul (q := 8) dX12_rowAt_7 rfl ?_
  refine st_iload_n (q := 9) dX12_rowAt_8 rfl rfl ?_
  first | refine n_iadd (q := 10) dX12_rowAt_9 rfl ⟨by omega, by omega⟩ ?_ | refine st_iadd (q := 10) dX12_rowAt_9 rfl ?_
  refine st_iaload (q := 11) dX12_rowAt_10 rfl (wfk w rfl) (wfb w (n := 240) rfl ⟨by omega, by omega⟩) ?_
  refine rt_i dX12_rowAt_11 rfl ?_
  exact hP
/-- a stretch of an array is filled -/
def fillF (f : Nat → Int) (lo n : Nat) (v : Int) : Nat → Int := fun j => if lo ≤ j ∧ j < lo + n then v else f j
theorem fillF_0 (f : Nat → Int) (lo : Nat) (v : Int) : fillF f lo 0 v = f := by funext j; unfold fillF; rw [if_neg (by omega)]
theorem fillF_s (f : Nat → Int) (lo n : Nat) (v : Int) : (fun j => if j = lo + n then v else fillF f lo n v j) = fillF f lo (n + 1) v := by
  funext j
  unfold fillF
  by_cases e : j = lo + n
  · rw [if_pos e, if_pos (by omega)]
  · rw [if_neg e]
    by_cases z : lo ≤ j ∧ j < lo + n
    · rw [if_pos z, if_pos (by omega)]
    · rw [if_neg z, if_neg (by omega)]
theorem lp_X12_row {d : Nat} {h : JH} {P : Int → JH → Prop} {n : Int} {r : Nat} {f : Nat → Int} (w : WF h) (hr : r < 6) (hP : P n (wI h 120 (fillF f (40 * r) 40 0))) (k : Nat) (hk : k ≤ 40) : JAt k0 d jX12_row 34 [vr 117, vi r, vi n, vi k] [] (wI h 120 (fillF f (40 * r) k 0)) (jqi P) := by
  refine st_iload_n (q := 35) dX12_row_34 rfl rfl ?_
  refine st_bipush (q := 37) dX12_row_35 ⟨by decide, by decide⟩ rfl ?_
  refine st_icmp_ge (q := 40) (tgt := 58) dX12_row_37 (by decide) rfl (fun c37 => ?_) (fun c37 => ?_)
  · refine st_iload_n (q := 59) dX12_row_58 rfl rfl ?_
    refine rt_i dX12_row_59 rfl ?_
    exact pq hP rfl (by rw [show k = 40 by omega])
  · refine st_aload_n (q := 41) dX12_row_40 rfl rfl ?_
    refine st_getR (q := 44) 12 6 dX12_row_41 fl_X12_20 (by decide) (by decide) rfl rfl (wfk w rfl) (wfR w rfl) ?_
    refine st_bipush (q := 46) dX12_row_44 ⟨by decide, by decide⟩ rfl ?_
    refine st_iload_n (q := 47) dX12_row_46 rfl rfl ?_
    first | refine n_imul (q := 48) dX12_row_47 rfl ⟨by omega, by omega⟩ ?_ | refine st_imul (q := 48) dX12_row_47 rfl ?_
    refine st_iload_n (q := 49) dX12_row_48 rfl rfl ?_
    first | refine n_iadd (q := 50) dX12_row_49 rfl ⟨by omega, by omega⟩ ?_ | refine st_iadd (q := 50) dX12_row_49 rfl ?_
    refine st_iconst (q := 51) dX12_row_50 ⟨by decide, by decide⟩ rfl ?_
    refine st_iastore (q := 52) dX12_row_51 rfl (wfk w rfl) (wfb w (n := 240) rfl ⟨by omega, by omega⟩) ?_
    first | refine n_iinc (q := 55) dX12_row_52 rfl (by decide) rfl ⟨by omega, by omega⟩ ?_ | refine st_iinc (q := 55) dX12_row_52 rfl (by decide) rfl ?_
    refine st_goto (q := 34) dX12_row_55 (by decide) ?_
    rw [sI_wI, show (40 * (r : Int) + k).toNat = 40 * r + k by omega, fillF_s]
    exact lp_X12_row w hr hP (k + 1) (by omega)
termination_by 40 - k
def rowH (h : JH) (r n : Int) : JH := wI (sI h 119 r.toNat n) 120 (fillF (hI h 120) (40 * r.toNat) 40 0)
theorem c_X12_row {d : Nat} {h : JH} {P : Int → JH → Prop} {r n : Int} (w : WF h) (h1 : ¬ (0 ≤ r ∧ r ≤ 5) ∨ 40 < n → P (-1) h) (h2 : 0 ≤ r ∧ r ≤ 5 → n < 0 → P (-3) (mtH h 5)) (h3 : 0 ≤ r ∧ r ≤ 5 → 0 ≤ n → n ≤ 40 → P n (rowH h r n)) : JRi (d + 2) jX12_row [vr 117, vi r, vi n] h P := by
  refine JRet.of rfl (Nat.le_of_ble_eq_true rfl) ?_
  refine st_iload_n (q := 1) dX12_row_0 rfl rfl ?_
  refine iS1i (q := 4) dX12_row_1 rfl ml_X12_134 ms_X12_isRow (Nat.le_of_ble_eq_true rfl) ?_
  refine c_X12_isRow ?_
  refine st_if_eq (q := 7) (tgt := 13) dX12_row_4 (by decide) rfl (fun c4 => ?_) (fun c4 => ?_)
  · refine st_iconst (q := 14) dX12_row_13 ⟨by decide, by decide⟩ rfl ?_
    refine rt_i dX12_row_14 rfl ?_
    first | exact h1 (by omega) | exact h2 (by omega) (by omega)
  · refine st_iload_n (q := 8) dX12_row_7 rfl rfl ?_
    refine st_bipush (q := 10) dX12_row_8 ⟨by decide, by decide⟩ rfl ?_
    refine st_icmp_le (q := 13) (tgt := 15) dX12_row_10 (by decide) rfl (fun c10 => ?_) (fun c10 => ?_)
    · refine st_iload_n (q := 16) dX12_row_15 rfl rfl ?_
      refine st_if_ge (q := 19) (tgt := 25) dX12_row_16 (by decide) rfl (fun c16 => ?_) (fun c16 => ?_)
      · refine st_aload_n (q := 26) dX12_row_25 rfl rfl ?_
        refine st_getR (q := 29) 12 5 dX12_row_26 fl_X12_17 (by decide) (by decide) rfl rfl (wfk w rfl) (wfR w rfl) ?_
        refine st_iload_n (q := 30) dX12_row_29 rfl rfl ?_
        refine st_iload_n (q := 31) dX12_row_30 rfl rfl ?_
        refine st_iastore (q := 32) dX12_row_31 rfl (wfk w rfl) (wfb w (n := 6) rfl ⟨by omega, by omega⟩) ?_
        refine st_iconst (q := 33) dX12_row_32 ⟨by decide, by decide⟩ rfl ?_
        refine st_istore_n (q := 34) (i := 3) dX12_row_33 rfl (by decide) rfl ?_
        have := lp_X12_row (d := d + 2) (h := sI h 119 r.toNat n) (n := n) (r := r.toNat) (f := hI h 120) w (by omega) (h3 (by omega) (by omega) (by omega)) 0 (by omega)
        rw [fillF_0, show hI h 120 = hI (sI h 119 r.toNat n) 120 from (sI_ne _ _ _ _ (by decide)).symm, wI_self, Int.toNat_of_nonneg (by omega)] at this
        exact this
      · refine st_aload_n (q := 20) dX12_row_19 rfl rfl ?_
        refine st_iconst (q := 21) dX12_row_20 ⟨by decide, by decide⟩ rfl ?_
        refine iV1i (q := 24) dX12_row_21 rfl ml_X12_138 mv_X12_meets (Nat.le_of_ble_eq_true rfl) (wfk w rfl) ?_
        refine c_X12_meets w (by decide) ?_
        refine rt_i dX12_row_24 rfl ?_
        first | exact h1 (by omega) | exact h2 (by omega) (by omega)
    · refine st_iconst (q := 14) dX12_row_13 ⟨by decide, by decide⟩ rfl ?_
      refine rt_i dX12_row_14 rfl ?_
      first | exact h1 (by omega) | exact h2 (by omega) (by omega)
theorem c_X12_at {d : Nat} {h : JH} {P : Int → JH → Prop} {r i : Int} (w : WF h) (hz : ∀ k, k < 6 → hI h 119 k ≤ 40) (h1 : ¬ (0 ≤ r ∧ r ≤ 5) → P (-1) h) (h2 : 0 ≤ r ∧ r ≤ 5 → hI h 119 r.toNat < 0 → P (-3) (mtH h 1)) (h3 : 0 ≤ r ∧ r ≤ 5 → 0 ≤ hI h 119 r.toNat → ¬ (0 ≤ i ∧ i < hI h 119 r.toNat) → P (-3) (mtH h 2)) (h4 : 0 ≤ r ∧ r ≤ 5 → 0 ≤ hI h 119 r.toNat → 0 ≤ i ∧ i < hI h 119 r.toNat → P 1 (sI h 117 2 (hI h 120 (40 * r + i).toNat))) : JRi (d + 3) jX12_at [vr 117, vi r, vi i] h P := by
  refine JRet.of rfl (Nat.le_of_ble_eq_true rfl) ?_
  refine st_aload_n (q := 1) dX12_at_0 rfl rfl ?_
  refine st_iload_n (q := 2) dX12_at_1 rfl rfl ?_
  refine iV1i (q := 5) dX12_at_2 rfl ml_X12_145 mv_X12_askedRow (Nat.le_of_ble_eq_true rfl) (wfk w rfl) ?_
  refine c_X12_askedRow w (fun a1 => ?_) (fun a1 a2 => ?_) (fun a1 a2 => ?_)
  · refine st_istore_n (q := 6) (i := 3) dX12_at_5 rfl (by decide) rfl ?_
    refine st_iload_n (q := 7) dX12_at_6 rfl rfl ?_
    refine st_if_ge (q := 10) (tgt := 12) dX12_at_7 (by decide) rfl (fun z => absurd z (by decide)) (fun _ => ?_)
    refine st_iload_n (q := 11) dX12_at_10 rfl rfl ?_
    refine rt_i dX12_at_11 rfl ?_
    first | exact h1 (by omega) | exact h2 (by omega) (by omega) | exact h3 (by omega) (by omega) (by omega) | exact h4 (by omega) (by omega) (by omega)
  · refine st_istore_n (q := 6) (i := 3) dX12_at_5 rfl (by decide) rfl ?_
    refine st_iload_n (q := 7) dX12_at_6 rfl rfl ?_
    refine st_if_ge (q := 10) (tgt := 12) dX12_at_7 (by decide) rfl (fun z => absurd z (by decide)) (fun _ => ?_)
    refine st_iload_n (q := 11) dX12_at_10 rfl rfl ?_
    refine rt_i dX12_at_11 rfl ?_
    first | exact h1 (by omega) | exact h2 (by omega) (by omega) | exact h3 (by omega) (by omega) (by omega) | exact h4 (by omega) (by omega) (by omega)
  · refine st_istore_n (q := 6) (i := 3) dX12_at_5 rfl (by decide) rfl ?_
    refine st_iload_n (q := 7) dX12_at_6 rfl rfl ?_
    refine st_if_ge (q := 10) (tgt := 12) dX12_at_7 (by decide) rfl (fun _ => ?_) (fun z => absurd z (by decide))
    refine st_iload_n (q := 13) dX12_at_12 rfl rfl ?_
    refine st_iconst (q := 14) dX12_at_13 ⟨by decide, by decide⟩ rfl ?_
    refine st_aload_n (q := 15) dX12_at_14 rfl rfl ?_
    refine st_getR (q := 18) 12 5 dX12_at_15 fl_X12_17 (by decide) (by decide) rfl rfl (wfk w rfl) (wfR w rfl) ?_
    have hs := hz r.toNat (by omega)
    refine st_iload_n (q := 19) dX12_at_18 rfl rfl ?_
    refine st_iaload (q := 20) dX12_at_19 rfl (wfk w rfl) (wfb w (n := 6) rfl ⟨by omega, by omega⟩) ?_
    refine st_iconst (q := 21) dX12_at_20 ⟨by decide, by decide⟩ rfl ?_
    first | refine n_isub (q := 22) dX12_at_21 rfl ⟨by omega, by omega⟩ ?_ | refine st_isub (q := 22) dX12_at_21 rfl ?_
    refine iS3i (q := 25) dX12_at_22 rfl ml_X12_130 ms_X12_in (Nat.le_of_ble_eq_true rfl) ?_
    refine c_X12_in ?_
    refine st_if_eq (q := 28) (tgt := 42) dX12_at_25 (by decide) rfl (fun c25 => ?_) (fun c25 => ?_)
    · refine st_aload_n (q := 43) dX12_at_42 rfl rfl ?_
      refine st_iconst (q := 44) dX12_at_43 ⟨by decide, by decide⟩ rfl ?_
      refine iV1i (q := 47) dX12_at_44 rfl ml_X12_138 mv_X12_meets (Nat.le_of_ble_eq_true rfl) (wfk w rfl) ?_
      refine c_X12_meets w (by decide) ?_
      refine rt_i dX12_at_47 rfl ?_
      first | exact h1 (by omega) | exact h2 (by omega) (by omega) | exact h3 (by omega) (by omega) (by omega) | exact h4 (by omega) (by omega) (by omega)
    · refine st_aload_n (q := 29) dX12_at_28 rfl rfl ?_
      refine st_aload_n (q := 30) dX12_at_29 rfl rfl ?_
      refine st_iload_n (q := 31) dX12_at_30 rfl rfl ?_
      refine st_iload_n (q := 32) dX12_at_31 rfl rfl ?_
      refine iV2i (q := 35) dX12_at_32 rfl ml_X12_148 mv_X12_rowAt (Nat.le_of_ble_eq_true rfl) (wfk w rfl) ?_
      refine c_X12_rowAt w (by omega) (by omega) ?_
      refine st_iconst (q := 36) dX12_at_35 ⟨by decide, by decide⟩ rfl ?_
      refine iV2i (q := 39) dX12_at_36 rfl ml_X12_152 mv_X12_ask (Nat.le_of_ble_eq_true rfl) (wfk w rfl) ?_
      refine c_X12_ask w ?_
      refine st_goto (q := 47) dX12_at_39 (by decide) ?_
      refine rt_i dX12_at_47 rfl ?_
      first | exact h1 (by omega) | exact h2 (by omega) (by omega) | exact h3 (by omega) (by omega) (by omega) | exact h4 (by omega) (by omega) (by omega)

