/-! the model: small methods -/
def mtH (h : JH) (w : Int) : JH := sI (sI h 117 0 w) 118 w.toNat (w32 (hI h 118 w.toNat + 1))
theorem c_X12_in {d : Nat} {h : JH} {P : Int → JH → Prop} {v lo hi : Int} (hP : P (if lo ≤ v ∧ v ≤ hi then 1 else 0) h) : JRi d jX12_in [vi v, vi lo, vi hi] h P := by
  refine JRet.of rfl (Nat.le_of_ble_eq_true rfl) ?_
  refine st_iload_n (q := 1) dX12_in_0 rfl rfl ?_
  refine st_iload_n (q := 2) dX12_in_1 rfl rfl ?_
  apply j_mg 15
  · intro K1 K2
    refine st_icmp_lt (q := 5) (tgt := 14) dX12_in_2 (by decide) rfl (fun c2 => ?_) (fun c2 => ?_)
    · refine st_iconst (q := 15) dX12_in_14 ⟨by decide, by decide⟩ rfl ?_
      exact K1 c2
    · refine st_iload_n (q := 6) dX12_in_5 rfl rfl ?_
      refine st_iload_n (q := 7) dX12_in_6 rfl rfl ?_
      apply j_mg 15
      · intro K3 K4
        refine st_icmp_gt (q := 10) (tgt := 14) dX12_in_7 (by decide) rfl (fun c7 => ?_) (fun c7 => ?_)
        · refine st_iconst (q := 15) dX12_in_14 ⟨by decide, by decide⟩ rfl ?_
          exact K3 c7
        · refine st_iconst (q := 11) dX12_in_10 ⟨by decide, by decide⟩ rfl ?_
          refine st_goto (q := 15) dX12_in_11 (by decide) ?_
          exact K4 c7
      · simp only [jif_if]
        exact K2 c2
  · simp only [jif_if]
    refine rt_z dX12_in_15 rfl (by (repeat' split) <;> omega) ?_
    exact pq hP (by (repeat' split) <;> omega) rfl
theorem c_X12_meets {d : Nat} {h : JH} {P : Int → JH → Prop} {v : Int} (w : WF h) (hv : 0 ≤ v ∧ v < 6) (hP : P (-3) (mtH h v)) : JRi d jX12_meets [vr 117, vi v] h P := by
  refine JRet.of rfl (Nat.le_of_ble_eq_true rfl) ?_
  refine st_aload_n (q := 1) dX12_meets_0 rfl rfl ?_
  refine st_iload_n (q := 2) dX12_meets_1 rfl rfl ?_
  refine st_putI (q := 5) 12 0 dX12_meets_2 fl_X12_121 (by decide) (by decide) (Or.inl rfl) rfl (Or.inl rfl) (wfk w rfl) ?_
  refine st_aload_n (q := 6) dX12_meets_5 rfl rfl ?_
  refine st_getR (q := 9) 12 1 dX12_meets_6 fl_X12_7 (by decide) (by decide) rfl rfl (wfk w rfl) (wfR w rfl) ?_
  refine st_iload_n (q := 10) dX12_meets_9 rfl rfl ?_
  refine st_dup2 (q := 11) dX12_meets_10 rfl rfl rfl ?_
  refine st_iaload (q := 12) dX12_meets_11 rfl (wfk w rfl) (wfb w (n := 6) rfl ⟨by omega, by omega⟩) ?_
  refine st_iconst (q := 13) dX12_meets_12 ⟨by decide, by decide⟩ rfl ?_
  first | refine n_iadd (q := 14) dX12_meets_13 rfl ⟨by omega, by omega⟩ ?_ | refine st_iadd (q := 14) dX12_meets_13 rfl ?_
  refine st_iastore (q := 15) dX12_meets_14 rfl (wfk w rfl) (wfb w (n := 6) rfl ⟨by omega, by omega⟩) ?_
  refine st_bipush (q := 17) dX12_meets_15 ⟨by decide, by decide⟩ rfl ?_
  refine rt_i dX12_meets_17 rfl ?_
  exact pq hP rfl (by simp [mtH, sI_I])
theorem c_X12_ask {d : Nat} {h : JH} {P : Int → JH → Prop} {v r : Int} (w : WF h) (hP : P r (sI h 117 2 v)) : JRi d jX12_ask [vr 117, vi v, vi r] h P := by
  refine JRet.of rfl (Nat.le_of_ble_eq_true rfl) ?_
  refine st_aload_n (q := 1) dX12_ask_0 rfl rfl ?_
  refine st_iload_n (q := 2) dX12_ask_1 rfl rfl ?_
  refine st_putI (q := 5) 12 2 dX12_ask_2 fl_X12_124 (by decide) (by decide) (Or.inl rfl) rfl (Or.inl rfl) (wfk w rfl) ?_
  refine st_iload_n (q := 6) dX12_ask_5 rfl rfl ?_
  refine rt_i dX12_ask_6 rfl ?_
  exact hP
theorem c_X12_has {d : Nat} {h : JH} {P : Int → JH → Prop} {s k : Int} (hP : P (if iand (ishr s k) 1 = 1 then 1 else 0) h) : JRi d jX12_has [vi s, vi k] h P := by
  refine JRet.of rfl (Nat.le_of_ble_eq_true rfl) ?_
  refine st_iload_n (q := 1) dX12_has_0 rfl rfl ?_
  refine st_iload_n (q := 2) dX12_has_1 rfl rfl ?_
  refine st_ishr (q := 3) dX12_has_2 rfl ?_
  refine st_iconst (q := 4) dX12_has_3 ⟨by decide, by decide⟩ rfl ?_
  refine st_iand (q := 5) dX12_has_4 rfl ?_
  refine st_iconst (q := 6) dX12_has_5 ⟨by decide, by decide⟩ rfl ?_
  apply j_mg 14
  · intro K1 K2
    refine st_icmp_ne (q := 9) (tgt := 13) dX12_has_6 (by decide) rfl (fun c6 => ?_) (fun c6 => ?_)
    · refine st_iconst (q := 14) dX12_has_13 ⟨by decide, by decide⟩ rfl ?_
      exact K2 c6
    · refine st_iconst (q := 10) dX12_has_9 ⟨by decide, by decide⟩ rfl ?_
      refine st_goto (q := 14) dX12_has_10 (by decide) ?_
      exact K1 c6
  · simp only [jif_if]
    refine rt_z dX12_has_14 rfl (by (repeat' split) <;> omega) ?_
    exact pq hP (by (repeat' split) <;> omega) rfl
theorem c_X12_abs {d : Nat} {h : JH} {P : Int → JH → Prop} {v : Int} (hv : -2147483648 < v ∧ v < 2147483648) (hP : P (if v < 0 then -v else v) h) : JRi d jX12_abs [vi v] h P := by
  refine JRet.of rfl (Nat.le_of_ble_eq_true rfl) ?_
  refine st_iload_n (q := 1) dX12_abs_0 rfl rfl ?_
  apply j_mg 10
  · intro K1 K2
    refine st_if_ge (q := 4) (tgt := 9) dX12_abs_1 (by decide) rfl (fun c1 => ?_) (fun c1 => ?_)
    · refine st_iload_n (q := 10) dX12_abs_9 rfl rfl ?_
      exact K1 c1
    · refine st_iload_n (q := 5) dX12_abs_4 rfl rfl ?_
      refine st_ineg (q := 6) dX12_abs_5 rfl ?_
      refine st_goto (q := 10) dX12_abs_6 (by decide) ?_
      exact K2 c1
  · simp only [jif_if]
    refine rt_i dX12_abs_10 rfl ?_
    refine pq hP ?_ rfl
    rw [w32_id ⟨by omega, by omega⟩]
    (repeat' split) <;> omega
theorem c_X12_isRow {d : Nat} {h : JH} {P : Int → JH → Prop} {v : Int} (hP : P (if 0 ≤ v ∧ v ≤ 5 then 1 else 0) h) : JRi (d + 1) jX12_isRow [vi v] h P := by
  refine JRet.of rfl (Nat.le_of_ble_eq_true rfl) ?_
  refine st_iload_n (q := 1) dX12_isRow_0 rfl rfl ?_
  refine st_iconst (q := 2) dX12_isRow_1 ⟨by decide, by decide⟩ rfl ?_
  refine st_iconst (q := 3) dX12_isRow_2 ⟨by decide, by decide⟩ rfl ?_
  refine iS3i (q := 6) dX12_isRow_3 rfl ml_X12_130 ms_X12_in (Nat.le_of_ble_eq_true rfl) ?_
  refine c_X12_in ?_
  refine rt_z dX12_isRow_6 rfl (by (repeat' split) <;> omega) ?_
  exact hP
theorem c_X12_isText {d : Nat} {h : JH} {P : Int → JH → Prop} {v : Int} (hP : P (if 0 ≤ v ∧ v ≤ 3 then 1 else 0) h) : JRi (d + 1) jX12_isText [vi v] h P := by
  refine JRet.of rfl (Nat.le_of_ble_eq_true rfl) ?_
  refine st_iload_n (q := 1) dX12_isText_0 rfl rfl ?_
  refine st_iconst (q := 2) dX12_isText_1 ⟨by decide, by decide⟩ rfl ?_
  refine st_iconst (q := 3) dX12_isText_2 ⟨by decide, by decide⟩ rfl ?_
  refine iS3i (q := 6) dX12_isText_3 rfl ml_X12_130 ms_X12_in (Nat.le_of_ble_eq_true rfl) ?_
  refine c_X12_in ?_
  refine rt_z dX12_isText_6 rfl (by (repeat' split) <;> omega) ?_
  exact hP
theorem c_X12_isHide {d : Nat} {h : JH} {P : Int → JH → Prop} {v : Int} (hP : P (if 0 ≤ v ∧ v ≤ 7 then 1 else 0) h) : JRi (d + 1) jX12_isHide [vi v] h P := by
  refine JRet.of rfl (Nat.le_of_ble_eq_true rfl) ?_
  refine st_iload_n (q := 1) dX12_isHide_0 rfl rfl ?_
  refine st_iconst (q := 2) dX12_isHide_1 ⟨by decide, by decide⟩ rfl ?_
  refine st_bipush (q := 4) dX12_isHide_2 ⟨by decide, by decide⟩ rfl ?_
  refine iS3i (q := 7) dX12_isHide_4 rfl ml_X12_130 ms_X12_in (Nat.le_of_ble_eq_true rfl) ?_
  refine c_X12_in ?_
  refine rt_z dX12_isHide_7 rfl (by (repeat' split) <;> omega) ?_
  exact hP
theorem c_X12_isThere {d : Nat} {h : JH} {P : Int → JH → Prop} {k : Int} (w : WF h) (hk : 0 ≤ k ∧ k ≤ 7) (hP : P (if hI h 126 k.toNat ≠ 0 then 1 else 0) h) : JRi (d + 1) jX12_isThere [vr 117, vi k] h P := by
  refine JRet.of rfl (Nat.le_of_ble_eq_true rfl) ?_
  refine st_aload_n (q := 1) dX12_isThere_0 rfl rfl ?_
  refine st_getR (q := 4) 12 12 dX12_isThere_1 fl_X12_38 (by decide) (by decide) rfl rfl (wfk w rfl) (wfR w rfl) ?_
  refine st_iload_n (q := 5) dX12_isThere_4 rfl rfl ?_
  refine st_iaload (q := 6) dX12_isThere_5 rfl (wfk w rfl) (wfb w (n := 8) rfl ⟨by omega, by omega⟩) ?_
  apply j_mg 14
  · intro K1 K2
    refine st_if_eq (q := 9) (tgt := 13) dX12_isThere_6 (by decide) rfl (fun c6 => ?_) (fun c6 => ?_)
    · refine st_iconst (q := 14) dX12_isThere_13 ⟨by decide, by decide⟩ rfl ?_
      exact K1 c6
    · refine st_iconst (q := 10) dX12_isThere_9 ⟨by decide, by decide⟩ rfl ?_
      refine st_goto (q := 14) dX12_isThere_10 (by decide) ?_
      exact K2 c6
  · simp only [jif_if]
    refine rt_z dX12_isThere_14 rfl (by (repeat' split) <;> omega) ?_
    exact pq hP (by (repeat' split) <;> omega) rfl
theorem c_X12_askedRow {d : Nat} {h : JH} {P : Int → JH → Prop} {r : Int} (w : WF h) (h1 : ¬ (0 ≤ r ∧ r ≤ 5) → P (-1) h) (h2 : 0 ≤ r ∧ r ≤ 5 → hI h 119 r.toNat < 0 → P (-3) (mtH h 1)) (h3 : 0 ≤ r ∧ r ≤ 5 → 0 ≤ hI h 119 r.toNat → P 0 h) : JRi (d + 2) jX12_askedRow [vr 117, vi r] h P := by
  refine JRet.of rfl (Nat.le_of_ble_eq_true rfl) ?_
  refine st_iload_n (q := 1) dX12_askedRow_0 rfl rfl ?_
  refine iS1i (q := 4) dX12_askedRow_1 rfl ml_X12_134 ms_X12_isRow (Nat.le_of_ble_eq_true rfl) ?_
  refine c_X12_isRow ?_
  refine st_if_ne (q := 7) (tgt := 11) dX12_askedRow_4 (by decide) rfl (fun c4 => ?_) (fun c4 => ?_)
  · refine st_aload_n (q := 12) dX12_askedRow_11 rfl rfl ?_
    refine st_getR (q := 15) 12 5 dX12_askedRow_12 fl_X12_17 (by decide) (by decide) rfl rfl (wfk w rfl) (wfR w rfl) ?_
    refine st_iload_n (q := 16) dX12_askedRow_15 rfl rfl ?_
    refine st_iaload (q := 17) dX12_askedRow_16 rfl (wfk w rfl) (wfb w (n := 6) rfl ⟨by omega, by omega⟩) ?_
    refine st_if_ge (q := 20) (tgt := 28) dX12_askedRow_17 (by decide) rfl (fun c17 => ?_) (fun c17 => ?_)
    · refine st_iconst (q := 29) dX12_askedRow_28 ⟨by decide, by decide⟩ rfl ?_
      refine rt_i dX12_askedRow_29 rfl ?_
      exact hP
    · refine st_aload_n (q := 21) dX12_askedRow_20 rfl rfl ?_
      refine st_iconst (q := 22) dX12_askedRow_21 ⟨by decide, by decide⟩ rfl ?_
      refine iV1i (q := 25) dX12_askedRow_22 rfl ml_X12_138 mv_X12_meets (Nat.le_of_ble_eq_true rfl) (wfk w rfl) ?_
      refine c_X12_meets w (by decide) ?_
      refine st_goto (q := 29) dX12_askedRow_25 (by decide) ?_
      refine rt_i dX12_askedRow_29 rfl ?_
      exact hP
  · refine st_iconst (q := 8) dX12_askedRow_7 ⟨by decide, by decide⟩ rfl ?_
    refine st_goto (q := 29) dX12_askedRow_8 (by decide) ?_
    refine rt_i dX12_askedRow_29 rfl ?_
    exact hP

