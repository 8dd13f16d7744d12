/-! the model: reaching -/
theorem c_X12_reaching {d : Nat} {h : JH} {P : Int → JH → Prop} {y : SY} {r : Int} (w : WF h) (m : SM h y) (o : yOk y) (h1 : ¬ (0 ≤ r ∧ r ≤ 5) → P (-1) h) (h2 : 0 ≤ r ∧ r ≤ 5 → hI h 119 r.toNat < 0 → P (-3) (mtH h 1)) (h3 : 0 ≤ r ∧ r ≤ 5 → 0 ≤ hI h 119 r.toNat → hI h 119 r.toNat ≠ pcN (yNm y y.1) 16 → P (-3) (mtH h 5)) (h4 : ∀ n : Nat, n ≤ 8 → 0 ≤ r ∧ r ≤ 5 → hI h 119 r.toNat = n → n = pcN (yNm y y.1) 16 → snF (fun i => hI h 120 (40 * r.toNat + i)) n ≠ yNm y y.1 → ∀ h', FrM h h' → P (-3) (mtH h' 3)) (h5 : ∀ n : Nat, n ≤ 8 → 0 ≤ r ∧ r ≤ 5 → hI h 119 r.toNat = n → n = pcN (yNm y y.1) 16 → snF (fun i => hI h 120 (40 * r.toNat + i)) n = yNm y y.1 → ∀ p0 h', FrM h h' → P (rcF (plF p0 (fun i => (hI h 120 (40 * r.toNat + i)).toNat) n) (tks y y.1) (tks y y.1).length).1 h') : JRi (d + 3) jX12_reaching [vr 117, vi r] h P := by
  have b1 := yNm_lt o y.1 (Nat.le_refl _)
  have b2 : pcN (yNm y y.1) 16 ≤ 8 := pcN8 b1
  refine JRet.of rfl (Nat.le_of_ble_eq_true rfl) ?_
  refine st_aload_n (q := 1) dX12_reaching_0 rfl rfl ?_
  refine st_iload_n (q := 2) dX12_reaching_1 rfl rfl ?_
  refine iV1i (q := 5) dX12_reaching_2 rfl ml_X12_145 mv_X12_askedRow (Nat.le_of_ble_eq_true rfl) (wfk w rfl) ?_
  refine c_X12_askedRow w (fun a1 => ?_) (fun a1 a2 => ?_) (fun a1 a2 => ?_)
  · refine st_istore_n (q := 6) (i := 2) dX12_reaching_5 rfl (by decide) rfl ?_
    refine st_iload_n (q := 7) dX12_reaching_6 rfl rfl ?_
    refine st_if_ge (q := 10) (tgt := 12) dX12_reaching_7 (by decide) rfl (fun z => absurd z (by decide)) (fun _ => ?_)
    refine st_iload_n (q := 11) dX12_reaching_10 rfl rfl ?_
    refine rt_i dX12_reaching_11 rfl ?_
    first | exact h1 (by omega) | exact h2 (by omega) (by omega) | exact h3 (by omega) (by omega) (by omega)
  · refine st_istore_n (q := 6) (i := 2) dX12_reaching_5 rfl (by decide) rfl ?_
    refine st_iload_n (q := 7) dX12_reaching_6 rfl rfl ?_
    refine st_if_ge (q := 10) (tgt := 12) dX12_reaching_7 (by decide) rfl (fun z => absurd z (by decide)) (fun _ => ?_)
    refine st_iload_n (q := 11) dX12_reaching_10 rfl rfl ?_
    refine rt_i dX12_reaching_11 rfl ?_
    first | exact h1 (by omega) | exact h2 (by omega) (by omega) | exact h3 (by omega) (by omega) (by omega)
  · refine st_istore_n (q := 6) (i := 2) dX12_reaching_5 rfl (by decide) rfl ?_
    refine st_iload_n (q := 7) dX12_reaching_6 rfl rfl ?_
    refine st_if_ge (q := 10) (tgt := 12) dX12_reaching_7 (by decide) rfl (fun _ => ?_) (fun z => absurd z (by decide))
    refine st_aload_n (q := 13) dX12_reaching_12 rfl rfl ?_
    refine iV0i (q := 16) dX12_reaching_13 rfl ml_X12_228 mv_X12_named (Nat.le_of_ble_eq_true rfl) (wfk w rfl) ?_
    refine c_X12_named w m o ?_
    refine st_istore_n (q := 17) (i := 3) dX12_reaching_16 rfl (by decide) rfl ?_
    refine st_iload_n (q := 18) dX12_reaching_17 rfl rfl ?_
    refine iS1i (q := 21) dX12_reaching_18 rfl ml_X12_168 ms_X12_bits (Nat.le_of_ble_eq_true rfl) ?_
    refine c_X12_bits ?_
    rw [bitsF_n (by omega) 16 (by omega)]
    refine st_istore (q := 23) dX12_reaching_21 (by decide) rfl ?_
    refine st_aload_n (q := 24) dX12_reaching_23 rfl rfl ?_
    refine st_getR (q := 27) 12 5 dX12_reaching_24 fl_X12_17 (by decide) (by decide) rfl rfl (wfk w rfl) (wfR w rfl) ?_
    refine st_iload_n (q := 28) dX12_reaching_27 rfl rfl ?_
    refine st_iaload (q := 29) dX12_reaching_28 rfl (wfk w rfl) (wfb w (n := 6) rfl ⟨by omega, by omega⟩) ?_
    refine st_iload (q := 31) dX12_reaching_29 rfl rfl ?_
    refine st_icmp_eq (q := 34) (tgt := 40) dX12_reaching_31 (by decide) rfl (fun c31 => ?_) (fun c31 => ?_)
    · refine st_iconst (q := 41) dX12_reaching_40 ⟨by decide, by decide⟩ rfl ?_
      refine st_istore (q := 43) dX12_reaching_41 (by decide) rfl ?_
      refine st_iconst (q := 44) dX12_reaching_43 ⟨by decide, by decide⟩ rfl ?_
      refine st_istore (q := 46) dX12_reaching_44 (by decide) rfl ?_
      have e2 : r = (r.toNat : Int) := by omega
      have := lp_X12_reaching (d := d + 1) (P := P) (r := r.toNat) (n := pcN (yNm y y.1) 16) w m o (by omega) b2 rfl (h4 _ b2 (by omega) (by omega) rfl) (h5 _ b2 (by omega) (by omega) rfl) 0 (Nat.zero_le _) h (vi 0) Fr.rf (fun k hk => absurd hk (Nat.not_lt_zero k))
      rw [← e2] at this
      exact this
    · refine st_aload_n (q := 35) dX12_reaching_34 rfl rfl ?_
      refine st_iconst (q := 36) dX12_reaching_35 ⟨by decide, by decide⟩ rfl ?_
      refine iV1i (q := 39) dX12_reaching_36 rfl ml_X12_138 mv_X12_meets (Nat.le_of_ble_eq_true rfl) (wfk w rfl) ?_
      refine c_X12_meets w (by decide) ?_
      refine rt_i dX12_reaching_39 rfl ?_
      first | exact h1 (by omega) | exact h2 (by omega) (by omega) | exact h3 (by omega) (by omega) (by omega)

