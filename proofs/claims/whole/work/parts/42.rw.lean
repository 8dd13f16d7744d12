/-! the class: rows and texts -/
theorem c_X11_row {d : Nat} {h : JH} {P : Int → JH → Prop} {r n : Int} (w : WF h) (h1 : ¬ (0 ≤ r ∧ r ≤ 5) ∨ 40 < n → P (-1) h) (h2 : 0 ≤ r ∧ r ≤ 5 → n < 0 → P (-3) (fnH h 5)) (h3 : 0 ≤ r ∧ r ≤ 5 → 0 ≤ n → n ≤ 40 → P n (mkH h (97 + 2 * r.toNat) n 0)) : JRi (d + 4) jX11_row [vr 0, vi r, vi n] h P := by
  refine JRet.of rfl (Nat.le_of_ble_eq_true rfl) ?_
  refine st_iload_n (q := 1) dX11_row_0 rfl rfl ?_
  refine st_bipush (q := 3) dX11_row_1 ⟨by decide, by decide⟩ rfl ?_
  refine iS2i (q := 6) dX11_row_3 rfl ml_X11_86 ms_X11_isNone (Nat.le_of_ble_eq_true rfl) ?_
  refine c_X11_isNone ?_
  refine st_if_ne (q := 9) (tgt := 15) dX11_row_6 (by decide) rfl (fun c6 => ?_) (fun c6 => ?_)
  · refine st_iconst (q := 16) dX11_row_15 ⟨by decide, by decide⟩ rfl ?_
    refine rt_i dX11_row_16 rfl ?_
    first | exact h1 (by omega) | exact h2 (by omega) (by omega) | exact h3 (by omega) (by omega) (by omega)
  · refine st_iload_n (q := 10) dX11_row_9 rfl rfl ?_
    refine st_bipush (q := 12) dX11_row_10 ⟨by decide, by decide⟩ rfl ?_
    refine st_icmp_le (q := 15) (tgt := 17) dX11_row_12 (by decide) rfl (fun c12 => ?_) (fun c12 => ?_)
    · refine st_aload_n (q := 18) dX11_row_17 rfl rfl ?_
      refine st_aload_n (q := 19) dX11_row_18 rfl rfl ?_
      refine st_getR (q := 22) 11 0 dX11_row_19 fl_X11_11 (by decide) (by decide) rfl rfl (wfk w rfl) (wfR w rfl) ?_
      refine st_iload_n (q := 23) dX11_row_22 rfl rfl ?_
      refine st_aaload (q := 24) (t := 2) dX11_row_23 rfl ⟨by decide, by decide⟩ (wfk w rfl) (wfb w (n := 6) rfl ⟨by omega, by omega⟩) (xrow w (by omega)) ?_
      refine st_iload_n (q := 25) dX11_row_24 rfl rfl ?_
      refine st_iconst (q := 26) dX11_row_25 ⟨by decide, by decide⟩ rfl ?_
      refine iV3i (q := 29) dX11_row_26 rfl ml_X11_90 mv_X11_makeStrip (Nat.le_of_ble_eq_true rfl) (wfk w rfl) ?_
      refine c_X11_makeStrip w (sp_row w (by omega)) (by omega) (fun a1 => ?_) (fun a1 => ?_)
      · refine rt_i dX11_row_29 rfl ?_
        first | exact h1 (by omega) | exact h2 (by omega) (by omega) | exact h3 (by omega) (by omega) (by omega)
      · refine rt_i dX11_row_29 rfl ?_
        first | exact h1 (by omega) | exact h2 (by omega) (by omega) | exact h3 (by omega) (by omega) (by omega)
    · refine st_iconst (q := 16) dX11_row_15 ⟨by decide, by decide⟩ rfl ?_
      refine rt_i dX11_row_16 rfl ?_
      first | exact h1 (by omega) | exact h2 (by omega) (by omega) | exact h3 (by omega) (by omega) (by omega)
theorem c_X11_text {d : Nat} {h : JH} {P : Int → JH → Prop} {r n : Int} (w : WF h) (h1 : ¬ (0 ≤ r ∧ r ≤ 3) ∨ 60 < n → P (-1) h) (h2 : 0 ≤ r ∧ r ≤ 3 → n < 0 → P (-3) (fnH h 5)) (h3 : 0 ≤ r ∧ r ≤ 3 → 0 ≤ n → n ≤ 60 → P n (mkH h (109 + 2 * r.toNat) n 32)) : JRi (d + 4) jX11_text [vr 0, vi r, vi n] h P := by
  refine JRet.of rfl (Nat.le_of_ble_eq_true rfl) ?_
  refine st_iload_n (q := 1) dX11_text_0 rfl rfl ?_
  refine st_iconst (q := 2) dX11_text_1 ⟨by decide, by decide⟩ rfl ?_
  refine iS2i (q := 5) dX11_text_2 rfl ml_X11_86 ms_X11_isNone (Nat.le_of_ble_eq_true rfl) ?_
  refine c_X11_isNone ?_
  refine st_if_ne (q := 8) (tgt := 14) dX11_text_5 (by decide) rfl (fun c5 => ?_) (fun c5 => ?_)
  · refine st_iconst (q := 15) dX11_text_14 ⟨by decide, by decide⟩ rfl ?_
    refine rt_i dX11_text_15 rfl ?_
    first | exact h1 (by omega) | exact h2 (by omega) (by omega) | exact h3 (by omega) (by omega) (by omega)
  · refine st_iload_n (q := 9) dX11_text_8 rfl rfl ?_
    refine st_bipush (q := 11) dX11_text_9 ⟨by decide, by decide⟩ rfl ?_
    refine st_icmp_le (q := 14) (tgt := 16) dX11_text_11 (by decide) rfl (fun c11 => ?_) (fun c11 => ?_)
    · refine st_aload_n (q := 17) dX11_text_16 rfl rfl ?_
      refine st_aload_n (q := 18) dX11_text_17 rfl rfl ?_
      refine st_getR (q := 21) 11 1 dX11_text_18 fl_X11_15 (by decide) (by decide) rfl rfl (wfk w rfl) (wfR w rfl) ?_
      refine st_iload_n (q := 22) dX11_text_21 rfl rfl ?_
      refine st_aaload (q := 23) (t := 2) dX11_text_22 rfl ⟨by decide, by decide⟩ (wfk w rfl) (wfb w (n := 4) rfl ⟨by omega, by omega⟩) (xtext w (by omega)) ?_
      refine st_iload_n (q := 24) dX11_text_23 rfl rfl ?_
      refine st_bipush (q := 26) dX11_text_24 ⟨by decide, by decide⟩ rfl ?_
      refine iV3i (q := 29) dX11_text_26 rfl ml_X11_90 mv_X11_makeStrip (Nat.le_of_ble_eq_true rfl) (wfk w rfl) ?_
      refine c_X11_makeStrip w (sp_text w (by omega)) (by omega) (fun a1 => ?_) (fun a1 => ?_)
      · refine rt_i dX11_text_29 rfl ?_
        first | exact h1 (by omega) | exact h2 (by omega) (by omega) | exact h3 (by omega) (by omega) (by omega)
      · refine rt_i dX11_text_29 rfl ?_
        first | exact h1 (by omega) | exact h2 (by omega) (by omega) | exact h3 (by omega) (by omega) (by omega)
    · refine st_iconst (q := 15) dX11_text_14 ⟨by decide, by decide⟩ rfl ?_
      refine rt_i dX11_text_15 rfl ?_
      first | exact h1 (by omega) | exact h2 (by omega) (by omega) | exact h3 (by omega) (by omega) (by omega)
theorem c_X11_at {d : Nat} {h : JH} {P : Int → JH → Prop} {r i : Int} (w : WF h) (hz : ∀ k, k < 6 → hI h (97 + 2 * k) 1 ≤ 60) (h1 : ¬ (0 ≤ r ∧ r ≤ 5) → P (-1) h) (h2 : 0 ≤ r ∧ r ≤ 5 → hI h (97 + 2 * r.toNat) 1 < 0 → P (-3) (fnH h 1)) (h3 : 0 ≤ r ∧ r ≤ 5 → 0 ≤ hI h (97 + 2 * r.toNat) 1 → ¬ (0 ≤ i ∧ i < hI h (97 + 2 * r.toNat) 1) → P (-3) (fnH h 2)) (h4 : 0 ≤ r ∧ r ≤ 5 → 0 ≤ i ∧ i < hI h (97 + 2 * r.toNat) 1 → P 1 (sI h 0 11 (hI h (97 + 2 * r.toNat + 1) i.toNat))) : JRi (d + 4) jX11_at [vr 0, vi r, vi i] h P := by
  refine JRet.of rfl (Nat.le_of_ble_eq_true rfl) ?_
  refine st_aload_n (q := 1) dX11_at_0 rfl rfl ?_
  refine st_aload_n (q := 2) dX11_at_1 rfl rfl ?_
  refine st_getR (q := 5) 11 0 dX11_at_2 fl_X11_11 (by decide) (by decide) rfl rfl (wfk w rfl) (wfR w rfl) ?_
  refine st_iload_n (q := 6) dX11_at_5 rfl rfl ?_
  refine st_iload_n (q := 7) dX11_at_6 rfl rfl ?_
  refine iV3i (q := 10) dX11_at_7 rfl ml_X11_94 mv_X11_refusesPlace (Nat.le_of_ble_eq_true rfl) (wfk w rfl) ?_
  refine c_X11_refusesPlace w (sa_rows w) (fun a1 => ?_) (fun a1 a2 => ?_) (fun a1 a2 a3 => ?_) (fun a1 a2 => ?_)
  · refine st_istore_n (q := 11) (i := 3) dX11_at_10 rfl (by decide) rfl ?_
    refine st_iload_n (q := 12) dX11_at_11 rfl rfl ?_
    refine st_if_eq (q := 15) (tgt := 19) dX11_at_12 (by decide) rfl (fun z => absurd z (by decide)) (fun _ => ?_)
    refine st_iload_n (q := 16) dX11_at_15 rfl rfl ?_
    refine st_goto (q := 33) dX11_at_16 (by decide) ?_
    refine rt_i dX11_at_33 rfl ?_
    first | exact h1 (by omega) | exact h2 (by omega) (by omega) | exact h3 (by omega) (by omega) (by omega) | exact h4 (by omega) (by omega)
  · refine st_istore_n (q := 11) (i := 3) dX11_at_10 rfl (by decide) rfl ?_
    refine st_iload_n (q := 12) dX11_at_11 rfl rfl ?_
    refine st_if_eq (q := 15) (tgt := 19) dX11_at_12 (by decide) rfl (fun z => absurd z (by decide)) (fun _ => ?_)
    refine st_iload_n (q := 16) dX11_at_15 rfl rfl ?_
    refine st_goto (q := 33) dX11_at_16 (by decide) ?_
    refine rt_i dX11_at_33 rfl ?_
    first | exact h1 (by omega) | exact h2 (by omega) (by omega) | exact h3 (by omega) (by omega) (by omega) | exact h4 (by omega) (by omega)
  · refine st_istore_n (q := 11) (i := 3) dX11_at_10 rfl (by decide) rfl ?_
    refine st_iload_n (q := 12) dX11_at_11 rfl rfl ?_
    refine st_if_eq (q := 15) (tgt := 19) dX11_at_12 (by decide) rfl (fun z => absurd z (by decide)) (fun _ => ?_)
    refine st_iload_n (q := 16) dX11_at_15 rfl rfl ?_
    refine st_goto (q := 33) dX11_at_16 (by decide) ?_
    refine rt_i dX11_at_33 rfl ?_
    first | exact h1 (by omega) | exact h2 (by omega) (by omega) | exact h3 (by omega) (by omega) (by omega) | exact h4 (by omega) (by omega)
  · refine st_istore_n (q := 11) (i := 3) dX11_at_10 rfl (by decide) rfl ?_
    refine st_iload_n (q := 12) dX11_at_11 rfl rfl ?_
    refine st_if_eq (q := 15) (tgt := 19) dX11_at_12 (by decide) rfl (fun _ => ?_) (fun z => absurd z (by decide))
    refine st_aload_n (q := 20) dX11_at_19 rfl rfl ?_
    refine st_aload_n (q := 21) dX11_at_20 rfl rfl ?_
    refine st_getR (q := 24) 11 0 dX11_at_21 fl_X11_11 (by decide) (by decide) rfl rfl (wfk w rfl) (wfR w rfl) ?_
    refine st_iload_n (q := 25) dX11_at_24 rfl rfl ?_
    refine st_aaload (q := 26) (t := 2) dX11_at_25 rfl ⟨by decide, by decide⟩ (wfk w rfl) (wfb w (n := 6) rfl ⟨by omega, by omega⟩) (xrow w (by omega)) ?_
    refine st_iload_n (q := 27) dX11_at_26 rfl rfl ?_
    refine iV1i (q := 30) dX11_at_27 rfl ml_X11_98 mv_X9_get (Nat.le_of_ble_eq_true rfl) ((sp_row w (by omega)).1) ?_
    refine c_X9_get (sp_row w (by omega)) (hz r.toNat (by omega)) ?_
    rw [if_pos (by omega)]
    refine iV1i (q := 33) dX11_at_30 rfl ml_X11_106 mv_X11_tell (Nat.le_of_ble_eq_true rfl) (wfk w rfl) ?_
    refine c_X11_tell w ?_
    refine rt_i dX11_at_33 rfl ?_
    first | exact h1 (by omega) | exact h2 (by omega) (by omega) | exact h3 (by omega) (by omega) (by omega) | exact h4 (by omega) (by omega)
theorem c_X11_lay {d : Nat} {h : JH} {P : Int → JH → Prop} {r i v : Int} (w : WF h) (hz : ∀ k, k < 6 → hI h (97 + 2 * k) 1 ≤ 60) (h1 : ¬ (0 ≤ r ∧ r ≤ 5) → P (-1) h) (h2 : 0 ≤ r ∧ r ≤ 5 → hI h (97 + 2 * r.toNat) 1 < 0 → P (-3) (fnH h 1)) (h3 : 0 ≤ r ∧ r ≤ 5 → 0 ≤ hI h (97 + 2 * r.toNat) 1 → ¬ (0 ≤ i ∧ i < hI h (97 + 2 * r.toNat) 1) → P (-3) (fnH h 2)) (h4 : 0 ≤ r ∧ r ≤ 5 → 0 ≤ i ∧ i < hI h (97 + 2 * r.toNat) 1 → P 1 (sI (sI h (97 + 2 * r.toNat + 1) i.toNat v) 0 11 (hI h (97 + 2 * r.toNat + 1) i.toNat))) : JRi (d + 4) jX11_lay [vr 0, vi r, vi i, vi v] h P := by
  refine JRet.of rfl (Nat.le_of_ble_eq_true rfl) ?_
  refine st_aload_n (q := 1) dX11_lay_0 rfl rfl ?_
  refine st_aload_n (q := 2) dX11_lay_1 rfl rfl ?_
  refine st_getR (q := 5) 11 0 dX11_lay_2 fl_X11_11 (by decide) (by decide) rfl rfl (wfk w rfl) (wfR w rfl) ?_
  refine st_iload_n (q := 6) dX11_lay_5 rfl rfl ?_
  refine st_iload_n (q := 7) dX11_lay_6 rfl rfl ?_
  refine iV3i (q := 10) dX11_lay_7 rfl ml_X11_94 mv_X11_refusesPlace (Nat.le_of_ble_eq_true rfl) (wfk w rfl) ?_
  refine c_X11_refusesPlace w (sa_rows w) (fun a1 => ?_) (fun a1 a2 => ?_) (fun a1 a2 a3 => ?_) (fun a1 a2 => ?_)
  · refine st_istore (q := 12) dX11_lay_10 (by decide) rfl ?_
    refine st_iload (q := 14) dX11_lay_12 rfl rfl ?_
    refine st_if_eq (q := 17) (tgt := 20) dX11_lay_14 (by decide) rfl (fun z => absurd z (by decide)) (fun _ => ?_)
    refine st_iload (q := 19) dX11_lay_17 rfl rfl ?_
    refine rt_i dX11_lay_19 rfl ?_
    first | exact h1 (by omega) | exact h2 (by omega) (by omega) | exact h3 (by omega) (by omega) (by omega) | exact h4 (by omega) (by omega)
  · refine st_istore (q := 12) dX11_lay_10 (by decide) rfl ?_
    refine st_iload (q := 14) dX11_lay_12 rfl rfl ?_
    refine st_if_eq (q := 17) (tgt := 20) dX11_lay_14 (by decide) rfl (fun z => absurd z (by decide)) (fun _ => ?_)
    refine st_iload (q := 19) dX11_lay_17 rfl rfl ?_
    refine rt_i dX11_lay_19 rfl ?_
    first | exact h1 (by omega) | exact h2 (by omega) (by omega) | exact h3 (by omega) (by omega) (by omega) | exact h4 (by omega) (by omega)
  · refine st_istore (q := 12) dX11_lay_10 (by decide) rfl ?_
    refine st_iload (q := 14) dX11_lay_12 rfl rfl ?_
    refine st_if_eq (q := 17) (tgt := 20) dX11_lay_14 (by decide) rfl (fun z => absurd z (by decide)) (fun _ => ?_)
    refine st_iload (q := 19) dX11_lay_17 rfl rfl ?_
    refine rt_i dX11_lay_19 rfl ?_
    first | exact h1 (by omega) | exact h2 (by omega) (by omega) | exact h3 (by omega) (by omega) (by omega) | exact h4 (by omega) (by omega)
  · refine st_istore (q := 12) dX11_lay_10 (by decide) rfl ?_
    refine st_iload (q := 14) dX11_lay_12 rfl rfl ?_
    refine st_if_eq (q := 17) (tgt := 20) dX11_lay_14 (by decide) rfl (fun _ => ?_) (fun z => absurd z (by decide))
    refine st_aload_n (q := 21) dX11_lay_20 rfl rfl ?_
    refine st_getR (q := 24) 11 0 dX11_lay_21 fl_X11_11 (by decide) (by decide) rfl rfl (wfk w rfl) (wfR w rfl) ?_
    refine st_iload_n (q := 25) dX11_lay_24 rfl rfl ?_
    refine st_aaload (q := 26) (t := 2) dX11_lay_25 rfl ⟨by decide, by decide⟩ (wfk w rfl) (wfb w (n := 6) rfl ⟨by omega, by omega⟩) (xrow w (by omega)) ?_
    refine st_iload_n (q := 27) dX11_lay_26 rfl rfl ?_
    refine iV1i (q := 30) dX11_lay_27 rfl ml_X11_98 mv_X9_get (Nat.le_of_ble_eq_true rfl) ((sp_row w (by omega)).1) ?_
    refine c_X9_get (sp_row w (by omega)) (hz r.toNat (by omega)) ?_
    rw [if_pos (by omega)]
    refine st_istore (q := 32) dX11_lay_30 (by decide) rfl ?_
    refine st_aload_n (q := 33) dX11_lay_32 rfl rfl ?_
    refine st_getR (q := 36) 11 0 dX11_lay_33 fl_X11_11 (by decide) (by decide) rfl rfl (wfk w rfl) (wfR w rfl) ?_
    refine st_iload_n (q := 37) dX11_lay_36 rfl rfl ?_
    refine st_aaload (q := 38) (t := 2) dX11_lay_37 rfl ⟨by decide, by decide⟩ (wfk w rfl) (wfb w (n := 6) rfl ⟨by omega, by omega⟩) (xrow w (by omega)) ?_
    refine st_iload_n (q := 39) dX11_lay_38 rfl rfl ?_
    refine st_iload_n (q := 40) dX11_lay_39 rfl rfl ?_
    refine iV2v (q := 43) dX11_lay_40 rfl ml_X11_102 mv_X9_set (Nat.le_of_ble_eq_true rfl) ((sp_row w (by omega)).1) ?_
    refine c_X9_set (sp_row w (by omega)) (hz r.toNat (by omega)) (by omega) ?_
    refine st_aload_n (q := 44) dX11_lay_43 rfl rfl ?_
    refine st_iload (q := 46) dX11_lay_44 rfl rfl ?_
    refine iV1i (q := 49) dX11_lay_46 rfl ml_X11_106 mv_X11_tell (Nat.le_of_ble_eq_true rfl) (wfk w rfl) ?_
    refine c_X11_tell w ?_
    refine rt_i dX11_lay_49 rfl ?_
    first | exact h1 (by omega) | exact h2 (by omega) (by omega) | exact h3 (by omega) (by omega) (by omega) | exact h4 (by omega) (by omega)
theorem c_X11_tear {d : Nat} {h : JH} {P : Int → JH → Prop} {r : Int} (w : WF h) (h1 : ¬ (0 ≤ r ∧ r ≤ 5) → P (-1) h) (h2 : 0 ≤ r ∧ r ≤ 5 → hI h (97 + 2 * r.toNat) 1 < 0 → P (-3) (fnH h 1)) (h3 : 0 ≤ r ∧ r ≤ 5 → 0 ≤ hI h (97 + 2 * r.toNat) 1 → P 1 (sI h (97 + 2 * r.toNat) 1 (-1))) : JRi (d + 3) jX11_tear [vr 0, vi r] h P := by
  refine JRet.of rfl (Nat.le_of_ble_eq_true rfl) ?_
  refine st_aload_n (q := 1) dX11_tear_0 rfl rfl ?_
  refine st_aload_n (q := 2) dX11_tear_1 rfl rfl ?_
  refine st_getR (q := 5) 11 0 dX11_tear_2 fl_X11_11 (by decide) (by decide) rfl rfl (wfk w rfl) (wfR w rfl) ?_
  refine st_iload_n (q := 6) dX11_tear_5 rfl rfl ?_
  refine iV2i (q := 9) dX11_tear_6 rfl ml_X11_109 mv_X11_refusesStrip (Nat.le_of_ble_eq_true rfl) (wfk w rfl) ?_
  refine c_X11_refusesStrip w (sa_rows w) (fun a1 => ?_) (fun a1 a2 => ?_) (fun a1 a2 => ?_)
  · refine st_istore_n (q := 10) (i := 2) dX11_tear_9 rfl (by decide) rfl ?_
    refine st_iload_n (q := 11) dX11_tear_10 rfl rfl ?_
    refine st_if_eq (q := 14) (tgt := 16) dX11_tear_11 (by decide) rfl (fun z => absurd z (by decide)) (fun _ => ?_)
    refine st_iload_n (q := 15) dX11_tear_14 rfl rfl ?_
    refine rt_i dX11_tear_15 rfl ?_
    first | exact h1 (by omega) | exact h2 (by omega) (by omega) | exact h3 (by omega) (by omega)
  · refine st_istore_n (q := 10) (i := 2) dX11_tear_9 rfl (by decide) rfl ?_
    refine st_iload_n (q := 11) dX11_tear_10 rfl rfl ?_
    refine st_if_eq (q := 14) (tgt := 16) dX11_tear_11 (by decide) rfl (fun z => absurd z (by decide)) (fun _ => ?_)
    refine st_iload_n (q := 15) dX11_tear_14 rfl rfl ?_
    refine rt_i dX11_tear_15 rfl ?_
    first | exact h1 (by omega) | exact h2 (by omega) (by omega) | exact h3 (by omega) (by omega)
  · refine st_istore_n (q := 10) (i := 2) dX11_tear_9 rfl (by decide) rfl ?_
    refine st_iload_n (q := 11) dX11_tear_10 rfl rfl ?_
    refine st_if_eq (q := 14) (tgt := 16) dX11_tear_11 (by decide) rfl (fun _ => ?_) (fun z => absurd z (by decide))
    refine st_aload_n (q := 17) dX11_tear_16 rfl rfl ?_
    refine st_getR (q := 20) 11 0 dX11_tear_17 fl_X11_11 (by decide) (by decide) rfl rfl (wfk w rfl) (wfR w rfl) ?_
    refine st_iload_n (q := 21) dX11_tear_20 rfl rfl ?_
    refine st_aaload (q := 22) (t := 2) dX11_tear_21 rfl ⟨by decide, by decide⟩ (wfk w rfl) (wfb w (n := 6) rfl ⟨by omega, by omega⟩) (xrow w (by omega)) ?_
    refine iV0v (q := 25) dX11_tear_22 rfl ml_X11_113 mv_X9_remove (Nat.le_of_ble_eq_true rfl) ((sp_row w (by omega)).1) ?_
    refine c_X9_remove (sp_row w (by omega)) ?_
    refine st_iconst (q := 26) dX11_tear_25 ⟨by decide, by decide⟩ rfl ?_
    refine rt_i dX11_tear_26 rfl ?_
    first | exact h1 (by omega) | exact h2 (by omega) (by omega) | exact h3 (by omega) (by omega)
theorem c_X11_put {d : Nat} {h : JH} {P : Int → JH → Prop} {r i v : Int} (w : WF h) (hz : ∀ k, k < 4 → hI h (109 + 2 * k) 1 ≤ 60) (h1 : ¬ (0 ≤ r ∧ r ≤ 3) → P (-1) h) (h2 : 0 ≤ r ∧ r ≤ 3 → hI h (109 + 2 * r.toNat) 1 < 0 → P (-3) (fnH h 1)) (h3 : 0 ≤ r ∧ r ≤ 3 → 0 ≤ hI h (109 + 2 * r.toNat) 1 → ¬ (0 ≤ i ∧ i < hI h (109 + 2 * r.toNat) 1) → P (-3) (fnH h 2)) (h4 : 0 ≤ r ∧ r ≤ 3 → 0 ≤ i ∧ i < hI h (109 + 2 * r.toNat) 1 → P (w32 (hI h (109 + 2 * r.toNat + 1) i.toNat + 1000)) (sI h (109 + 2 * r.toNat + 1) i.toNat (i2b v))) : JRi (d + 4) jX11_put [vr 0, vi r, vi i, vi v] h P := by
  refine JRet.of rfl (Nat.le_of_ble_eq_true rfl) ?_
  refine st_aload_n (q := 1) dX11_put_0 rfl rfl ?_
  refine st_aload_n (q := 2) dX11_put_1 rfl rfl ?_
  refine st_getR (q := 5) 11 1 dX11_put_2 fl_X11_15 (by decide) (by decide) rfl rfl (wfk w rfl) (wfR w rfl) ?_
  refine st_iload_n (q := 6) dX11_put_5 rfl rfl ?_
  refine st_iload_n (q := 7) dX11_put_6 rfl rfl ?_
  refine iV3i (q := 10) dX11_put_7 rfl ml_X11_94 mv_X11_refusesPlace (Nat.le_of_ble_eq_true rfl) (wfk w rfl) ?_
  refine c_X11_refusesPlace w (sa_texts w) (fun a1 => ?_) (fun a1 a2 => ?_) (fun a1 a2 a3 => ?_) (fun a1 a2 => ?_)
  · refine st_istore (q := 12) dX11_put_10 (by decide) rfl ?_
    refine st_iload (q := 14) dX11_put_12 rfl rfl ?_
    refine st_if_eq (q := 17) (tgt := 20) dX11_put_14 (by decide) rfl (fun z => absurd z (by decide)) (fun _ => ?_)
    refine st_iload (q := 19) dX11_put_17 rfl rfl ?_
    refine rt_i dX11_put_19 rfl ?_
    first | exact h1 (by omega) | exact h2 (by omega) (by omega) | exact h3 (by omega) (by omega) (by omega) | exact h4 (by omega) (by omega)
  · refine st_istore (q := 12) dX11_put_10 (by decide) rfl ?_
    refine st_iload (q := 14) dX11_put_12 rfl rfl ?_
    refine st_if_eq (q := 17) (tgt := 20) dX11_put_14 (by decide) rfl (fun z => absurd z (by decide)) (fun _ => ?_)
    refine st_iload (q := 19) dX11_put_17 rfl rfl ?_
    refine rt_i dX11_put_19 rfl ?_
    first | exact h1 (by omega) | exact h2 (by omega) (by omega) | exact h3 (by omega) (by omega) (by omega) | exact h4 (by omega) (by omega)
  · refine st_istore (q := 12) dX11_put_10 (by decide) rfl ?_
    refine st_iload (q := 14) dX11_put_12 rfl rfl ?_
    refine st_if_eq (q := 17) (tgt := 20) dX11_put_14 (by decide) rfl (fun z => absurd z (by decide)) (fun _ => ?_)
    refine st_iload (q := 19) dX11_put_17 rfl rfl ?_
    refine rt_i dX11_put_19 rfl ?_
    first | exact h1 (by omega) | exact h2 (by omega) (by omega) | exact h3 (by omega) (by omega) (by omega) | exact h4 (by omega) (by omega)
  · refine st_istore (q := 12) dX11_put_10 (by decide) rfl ?_
    refine st_iload (q := 14) dX11_put_12 rfl rfl ?_
    refine st_if_eq (q := 17) (tgt := 20) dX11_put_14 (by decide) rfl (fun _ => ?_) (fun z => absurd z (by decide))
    refine st_aload_n (q := 21) dX11_put_20 rfl rfl ?_
    refine st_getR (q := 24) 11 1 dX11_put_21 fl_X11_15 (by decide) (by decide) rfl rfl (wfk w rfl) (wfR w rfl) ?_
    refine st_iload_n (q := 25) dX11_put_24 rfl rfl ?_
    refine st_aaload (q := 26) (t := 2) dX11_put_25 rfl ⟨by decide, by decide⟩ (wfk w rfl) (wfb w (n := 4) rfl ⟨by omega, by omega⟩) (xtext w (by omega)) ?_
    refine st_iload_n (q := 27) dX11_put_26 rfl rfl ?_
    refine iV1i (q := 30) dX11_put_27 rfl ml_X11_98 mv_X9_get (Nat.le_of_ble_eq_true rfl) ((sp_text w (by omega)).1) ?_
    refine c_X9_get (sp_text w (by omega)) (hz r.toNat (by omega)) ?_
    rw [if_pos (by omega)]
    refine st_istore (q := 32) dX11_put_30 (by decide) rfl ?_
    refine st_aload_n (q := 33) dX11_put_32 rfl rfl ?_
    refine st_getR (q := 36) 11 1 dX11_put_33 fl_X11_15 (by decide) (by decide) rfl rfl (wfk w rfl) (wfR w rfl) ?_
    refine st_iload_n (q := 37) dX11_put_36 rfl rfl ?_
    refine st_aaload (q := 38) (t := 2) dX11_put_37 rfl ⟨by decide, by decide⟩ (wfk w rfl) (wfb w (n := 4) rfl ⟨by omega, by omega⟩) (xtext w (by omega)) ?_
    refine st_iload_n (q := 39) dX11_put_38 rfl rfl ?_
    refine st_iload_n (q := 40) dX11_put_39 rfl rfl ?_
    refine st_i2b (q := 41) dX11_put_40 rfl ?_
    refine iV2v (q := 44) dX11_put_41 rfl ml_X11_102 mv_X9_set (Nat.le_of_ble_eq_true rfl) ((sp_text w (by omega)).1) ?_
    refine c_X9_set (sp_text w (by omega)) (hz r.toNat (by omega)) (by omega) ?_
    refine st_iload (q := 46) dX11_put_44 rfl rfl ?_
    refine st_sipush (q := 49) dX11_put_46 ⟨by decide, by decide⟩ rfl ?_
    first | refine n_iadd (q := 50) dX11_put_49 rfl ⟨by omega, by omega⟩ ?_ | refine st_iadd (q := 50) dX11_put_49 rfl ?_
    refine rt_i dX11_put_50 rfl ?_
    first | exact h1 (by omega) | exact h2 (by omega) (by omega) | exact h3 (by omega) (by omega) (by omega) | exact h4 (by omega) (by omega)
theorem c_X11_mean {d : Nat} {h : JH} {P : Int → JH → Prop} {r : Int} (w : WF h) (hz : ∀ k, k < 6 → hI h (97 + 2 * k) 1 ≤ 60) (h1 : ¬ (0 ≤ r ∧ r ≤ 5) → P (-1) h) (h2 : 0 ≤ r ∧ r ≤ 5 → hI h (97 + 2 * r.toNat) 1 < 0 → P (-3) (fnH h 1)) (h3 : 0 ≤ r ∧ r ≤ 5 → hI h (97 + 2 * r.toNat) 1 = 0 → P (-3) (fnH h 4)) (h4 : 0 ≤ r ∧ r ≤ 5 → 0 < hI h (97 + 2 * r.toNat) 1 → P 1 (sI h 0 11 (w32 (w64 ((sumF (hI h (97 + 2 * r.toNat + 1)) 0 (hI h (97 + 2 * r.toNat) 1).toNat).tdiv (hI h (97 + 2 * r.toNat) 1)))))) : JRi (d + 3) jX11_mean [vr 0, vi r] h P := by
  refine JRet.of rfl (Nat.le_of_ble_eq_true rfl) ?_
  refine st_aload_n (q := 1) dX11_mean_0 rfl rfl ?_
  refine st_aload_n (q := 2) dX11_mean_1 rfl rfl ?_
  refine st_getR (q := 5) 11 0 dX11_mean_2 fl_X11_11 (by decide) (by decide) rfl rfl (wfk w rfl) (wfR w rfl) ?_
  refine st_iload_n (q := 6) dX11_mean_5 rfl rfl ?_
  refine iV2i (q := 9) dX11_mean_6 rfl ml_X11_109 mv_X11_refusesStrip (Nat.le_of_ble_eq_true rfl) (wfk w rfl) ?_
  refine c_X11_refusesStrip w (sa_rows w) (fun a1 => ?_) (fun a1 a2 => ?_) (fun a1 a2 => ?_)
  · refine st_istore_n (q := 10) (i := 2) dX11_mean_9 rfl (by decide) rfl ?_
    refine st_iload_n (q := 11) dX11_mean_10 rfl rfl ?_
    refine st_if_eq (q := 14) (tgt := 16) dX11_mean_11 (by decide) rfl (fun z => absurd z (by decide)) (fun _ => ?_)
    refine st_iload_n (q := 15) dX11_mean_14 rfl rfl ?_
    refine rt_i dX11_mean_15 rfl ?_
    first | exact h1 (by omega) | exact h2 (by omega) (by omega) | exact h3 (by omega) (by omega) | exact h4 (by omega) (by omega)
  · refine st_istore_n (q := 10) (i := 2) dX11_mean_9 rfl (by decide) rfl ?_
    refine st_iload_n (q := 11) dX11_mean_10 rfl rfl ?_
    refine st_if_eq (q := 14) (tgt := 16) dX11_mean_11 (by decide) rfl (fun z => absurd z (by decide)) (fun _ => ?_)
    refine st_iload_n (q := 15) dX11_mean_14 rfl rfl ?_
    refine rt_i dX11_mean_15 rfl ?_
    first | exact h1 (by omega) | exact h2 (by omega) (by omega) | exact h3 (by omega) (by omega) | exact h4 (by omega) (by omega)
  · refine st_istore_n (q := 10) (i := 2) dX11_mean_9 rfl (by decide) rfl ?_
    refine st_iload_n (q := 11) dX11_mean_10 rfl rfl ?_
    refine st_if_eq (q := 14) (tgt := 16) dX11_mean_11 (by decide) rfl (fun _ => ?_) (fun z => absurd z (by decide))
    refine st_aload_n (q := 17) dX11_mean_16 rfl rfl ?_
    refine st_getR (q := 20) 11 0 dX11_mean_17 fl_X11_11 (by decide) (by decide) rfl rfl (wfk w rfl) (wfR w rfl) ?_
    refine st_iload_n (q := 21) dX11_mean_20 rfl rfl ?_
    refine st_aaload (q := 22) (t := 2) dX11_mean_21 rfl ⟨by decide, by decide⟩ (wfk w rfl) (wfb w (n := 6) rfl ⟨by omega, by omega⟩) (xrow w (by omega)) ?_
    refine st_getI (q := 25) 9 1 dX11_mean_22 fl_X11_135 (by decide) (by decide) rfl rfl ((sp_row w (by omega)).1) ?_
    refine st_istore_n (q := 26) (i := 3) dX11_mean_25 rfl (by decide) rfl ?_
    refine st_iload_n (q := 27) dX11_mean_26 rfl rfl ?_
    refine st_if_gt (q := 30) (tgt := 36) dX11_mean_27 (by decide) rfl (fun c27 => ?_) (fun c27 => ?_)
    · refine st_aload_n (q := 37) dX11_mean_36 rfl rfl ?_
      refine st_aload_n (q := 38) dX11_mean_37 rfl rfl ?_
      refine st_getR (q := 41) 11 0 dX11_mean_38 fl_X11_11 (by decide) (by decide) rfl rfl (wfk w rfl) (wfR w rfl) ?_
      refine st_iload_n (q := 42) dX11_mean_41 rfl rfl ?_
      refine st_aaload (q := 43) (t := 2) dX11_mean_42 rfl ⟨by decide, by decide⟩ (wfk w rfl) (wfb w (n := 6) rfl ⟨by omega, by omega⟩) (xrow w (by omega)) ?_
      refine iV0l (q := 46) dX11_mean_43 rfl ml_X11_138 mv_X9_sum (Nat.le_of_ble_eq_true rfl) ((sp_row w (by omega)).1) ?_
      have hz2 := hz r.toNat (by omega)
      refine c_X9_sum (n := (hI h (97 + 2 * r.toNat) 1).toNat) (sp_row w (by omega)) (by omega) (by omega) ?_
      refine st_iload_n (q := 47) dX11_mean_46 rfl rfl ?_
      refine st_i2l (q := 48) dX11_mean_47 rfl ?_
      refine st_ldiv (q := 49) dX11_mean_48 (by omega) rfl ?_
      refine st_l2i (q := 50) dX11_mean_49 rfl ?_
      refine iV1i (q := 53) dX11_mean_50 rfl ml_X11_106 mv_X11_tell (Nat.le_of_ble_eq_true rfl) (wfk w rfl) ?_
      refine c_X11_tell w ?_
      refine rt_i dX11_mean_53 rfl ?_
      first | exact h1 (by omega) | exact h2 (by omega) (by omega) | exact h3 (by omega) (by omega) | exact h4 (by omega) (by omega)
    · refine st_aload_n (q := 31) dX11_mean_30 rfl rfl ?_
      refine st_iconst (q := 32) dX11_mean_31 ⟨by decide, by decide⟩ rfl ?_
      refine iV1i (q := 35) dX11_mean_32 rfl ml_X11_116 mv_X11_find (Nat.le_of_ble_eq_true rfl) (wfk w rfl) ?_
      refine c_X11_find w (by decide) ?_
      refine rt_i dX11_mean_35 rfl ?_
      first | exact h1 (by omega) | exact h2 (by omega) (by omega) | exact h3 (by omega) (by omega) | exact h4 (by omega) (by omega)
theorem c_X11_copy {d : Nat} {h : JH} {P : Int → JH → Prop} {r i to j n : Int} (w : WF h) (hz : ∀ k, k < 6 → -1 ≤ hI h (97 + 2 * k) 1 ∧ hI h (97 + 2 * k) 1 ≤ 60) (h1 : ¬ (0 ≤ r ∧ r ≤ 5) ∨ ¬ (0 ≤ to ∧ to ≤ 5) → P (-1) h) (h2 : 0 ≤ r ∧ r ≤ 5 → 0 ≤ to ∧ to ≤ 5 → n < 0 → P (-3) (fnH h 5)) (h3 : 0 ≤ r ∧ r ≤ 5 → 0 ≤ to ∧ to ≤ 5 → 0 ≤ n → hI h (97 + 2 * r.toNat) 1 < 0 ∨ hI h (97 + 2 * to.toNat) 1 < 0 → P (-3) (fnH h 1))
    (h4 : 0 ≤ r ∧ r ≤ 5 → 0 ≤ to ∧ to ≤ 5 → 0 ≤ n → 0 ≤ hI h (97 + 2 * r.toNat) 1 → 0 ≤ hI h (97 + 2 * to.toNat) 1 → ¬ (0 ≤ i ∧ 0 ≤ j ∧ i + n ≤ hI h (97 + 2 * r.toNat) 1 ∧ j + n ≤ hI h (97 + 2 * to.toNat) 1) → P (-3) (fnH h 2))
    (h5 : 0 ≤ r ∧ r ≤ 5 → 0 ≤ to ∧ to ≤ 5 → 0 ≤ n → 0 ≤ hI h (97 + 2 * r.toNat) 1 → 0 ≤ hI h (97 + 2 * to.toNat) 1 → 0 ≤ i ∧ 0 ≤ j ∧ i + n ≤ hI h (97 + 2 * r.toNat) 1 ∧ j + n ≤ hI h (97 + 2 * to.toNat) 1 → P 1 (wI h (97 + 2 * to.toNat + 1) (jcpy (hI h (97 + 2 * r.toNat + 1)) (hI h (97 + 2 * to.toNat + 1)) i j n))) : JRi (d + 3) jX11_copy [vr 0, vi r, vi i, vi to, vi j, vi n] h P := by
  have hs : 0 ≤ r ∧ r ≤ 5 → hI h (97 + 2 * r.toNat) 1 ≤ 60 := fun z => (hz r.toNat (by omega)).2
  have ht : 0 ≤ to ∧ to ≤ 5 → hI h (97 + 2 * to.toNat) 1 ≤ 60 := fun z => (hz to.toNat (by omega)).2
  refine JRet.of rfl (Nat.le_of_ble_eq_true rfl) ?_
  refine st_iload_n (q := 1) dX11_copy_0 rfl rfl ?_
  refine st_bipush (q := 3) dX11_copy_1 ⟨by decide, by decide⟩ rfl ?_
  refine iS2i (q := 6) dX11_copy_3 rfl ml_X11_86 ms_X11_isNone (Nat.le_of_ble_eq_true rfl) ?_
  refine c_X11_isNone ?_
  refine st_if_ne (q := 9) (tgt := 18) dX11_copy_6 (by decide) rfl (fun c6 => ?_) (fun c6 => ?_)
  · refine st_iconst (q := 19) dX11_copy_18 ⟨by decide, by decide⟩ rfl ?_
    refine rt_i dX11_copy_19 rfl ?_
    first | exact h1 (by omega) | exact h2 (by omega) (by omega) (by omega) | exact h3 (by omega) (by omega) (by omega) (by omega) | exact h4 (by omega) (by omega) (by omega) (by omega) (by omega) (by omega) | exact h5 (by omega) (by omega) (by omega) (by omega) (by omega) (by omega)
  · refine st_iload_n (q := 10) dX11_copy_9 rfl rfl ?_
    refine st_bipush (q := 12) dX11_copy_10 ⟨by decide, by decide⟩ rfl ?_
    refine iS2i (q := 15) dX11_copy_12 rfl ml_X11_86 ms_X11_isNone (Nat.le_of_ble_eq_true rfl) ?_
    refine c_X11_isNone ?_
    refine st_if_eq (q := 18) (tgt := 20) dX11_copy_15 (by decide) rfl (fun c15 => ?_) (fun c15 => ?_)
    · refine st_iload (q := 22) dX11_copy_20 rfl rfl ?_
      refine st_if_ge (q := 25) (tgt := 31) dX11_copy_22 (by decide) rfl (fun c22 => ?_) (fun c22 => ?_)
      · refine st_aload_n (q := 32) dX11_copy_31 rfl rfl ?_
        refine st_getR (q := 35) 11 0 dX11_copy_32 fl_X11_11 (by decide) (by decide) rfl rfl (wfk w rfl) (wfR w rfl) ?_
        refine st_iload_n (q := 36) dX11_copy_35 rfl rfl ?_
        refine st_aaload (q := 37) (t := 2) dX11_copy_36 rfl ⟨by decide, by decide⟩ (wfk w rfl) (wfb w (n := 6) rfl ⟨by omega, by omega⟩) (xrow w (by omega)) ?_
        refine iV0i (q := 40) dX11_copy_37 rfl ml_X11_119 mv_X9_isThere (Nat.le_of_ble_eq_true rfl) ((sp_row w (by omega)).1) ?_
        refine c_X9_isThere (sp_row w (by omega)) ?_
        refine st_if_eq (q := 43) (tgt := 55) dX11_copy_40 (by decide) rfl (fun c40 => ?_) (fun c40 => ?_)
        · refine st_aload_n (q := 56) dX11_copy_55 rfl rfl ?_
          refine st_iconst (q := 57) dX11_copy_56 ⟨by decide, by decide⟩ rfl ?_
          refine iV1i (q := 60) dX11_copy_57 rfl ml_X11_116 mv_X11_find (Nat.le_of_ble_eq_true rfl) (wfk w rfl) ?_
          refine c_X11_find w (by decide) ?_
          refine rt_i dX11_copy_60 rfl ?_
          first | exact h1 (by omega) | exact h2 (by omega) (by omega) (by omega) | exact h3 (by omega) (by omega) (by omega) (by omega) | exact h4 (by omega) (by omega) (by omega) (by omega) (by omega) (by omega) | exact h5 (by omega) (by omega) (by omega) (by omega) (by omega) (by omega)
        · refine st_aload_n (q := 44) dX11_copy_43 rfl rfl ?_
          refine st_getR (q := 47) 11 0 dX11_copy_44 fl_X11_11 (by decide) (by decide) rfl rfl (wfk w rfl) (wfR w rfl) ?_
          refine st_iload_n (q := 48) dX11_copy_47 rfl rfl ?_
          refine st_aaload (q := 49) (t := 2) dX11_copy_48 rfl ⟨by decide, by decide⟩ (wfk w rfl) (wfb w (n := 6) rfl ⟨by omega, by omega⟩) (xrow w (by omega)) ?_
          refine iV0i (q := 52) dX11_copy_49 rfl ml_X11_119 mv_X9_isThere (Nat.le_of_ble_eq_true rfl) ((sp_row w (by omega)).1) ?_
          refine c_X9_isThere (sp_row w (by omega)) ?_
          refine st_if_ne (q := 55) (tgt := 61) dX11_copy_52 (by decide) rfl (fun c52 => ?_) (fun c52 => ?_)
          · refine st_aload_n (q := 62) dX11_copy_61 rfl rfl ?_
            refine st_getR (q := 65) 11 0 dX11_copy_62 fl_X11_11 (by decide) (by decide) rfl rfl (wfk w rfl) (wfR w rfl) ?_
            refine st_iload_n (q := 66) dX11_copy_65 rfl rfl ?_
            refine st_aaload (q := 67) (t := 2) dX11_copy_66 rfl ⟨by decide, by decide⟩ (wfk w rfl) (wfb w (n := 6) rfl ⟨by omega, by omega⟩) (xrow w (by omega)) ?_
            refine st_iload_n (q := 68) dX11_copy_67 rfl rfl ?_
            refine st_iload (q := 70) dX11_copy_68 rfl rfl ?_
            refine iV2i (q := 73) dX11_copy_70 rfl ml_X11_123 mv_X9_hasRun (Nat.le_of_ble_eq_true rfl) ((sp_row w (by omega)).1) ?_
            refine c_X9_hasRun (sp_row w (by omega)) (hz _ (by omega)) ?_
            refine st_if_eq (q := 76) (tgt := 92) dX11_copy_73 (by decide) rfl (fun c73 => ?_) (fun c73 => ?_)
            · refine st_aload_n (q := 93) dX11_copy_92 rfl rfl ?_
              refine st_iconst (q := 94) dX11_copy_93 ⟨by decide, by decide⟩ rfl ?_
              refine iV1i (q := 97) dX11_copy_94 rfl ml_X11_116 mv_X11_find (Nat.le_of_ble_eq_true rfl) (wfk w rfl) ?_
              refine c_X11_find w (by decide) ?_
              refine rt_i dX11_copy_97 rfl ?_
              first | exact h1 (by omega) | exact h2 (by omega) (by omega) (by omega) | exact h3 (by omega) (by omega) (by omega) (by omega) | exact h4 (by omega) (by omega) (by omega) (by omega) (by omega) (by omega) | exact h5 (by omega) (by omega) (by omega) (by omega) (by omega) (by omega)
            · refine st_aload_n (q := 77) dX11_copy_76 rfl rfl ?_
              refine st_getR (q := 80) 11 0 dX11_copy_77 fl_X11_11 (by decide) (by decide) rfl rfl (wfk w rfl) (wfR w rfl) ?_
              refine st_iload_n (q := 81) dX11_copy_80 rfl rfl ?_
              refine st_aaload (q := 82) (t := 2) dX11_copy_81 rfl ⟨by decide, by decide⟩ (wfk w rfl) (wfb w (n := 6) rfl ⟨by omega, by omega⟩) (xrow w (by omega)) ?_
              refine st_iload (q := 84) dX11_copy_82 rfl rfl ?_
              refine st_iload (q := 86) dX11_copy_84 rfl rfl ?_
              refine iV2i (q := 89) dX11_copy_86 rfl ml_X11_123 mv_X9_hasRun (Nat.le_of_ble_eq_true rfl) ((sp_row w (by omega)).1) ?_
              refine c_X9_hasRun (sp_row w (by omega)) (hz _ (by omega)) ?_
              refine st_if_ne (q := 92) (tgt := 98) dX11_copy_89 (by decide) rfl (fun c89 => ?_) (fun c89 => ?_)
              · refine st_aload_n (q := 99) dX11_copy_98 rfl rfl ?_
                refine st_getR (q := 102) 11 0 dX11_copy_99 fl_X11_11 (by decide) (by decide) rfl rfl (wfk w rfl) (wfR w rfl) ?_
                refine st_iload_n (q := 103) dX11_copy_102 rfl rfl ?_
                refine st_aaload (q := 104) (t := 2) dX11_copy_103 rfl ⟨by decide, by decide⟩ (wfk w rfl) (wfb w (n := 6) rfl ⟨by omega, by omega⟩) (xrow w (by omega)) ?_
                refine st_getR (q := 107) 9 0 dX11_copy_104 fl_X11_126 (by decide) (by decide) rfl rfl ((sp_row w (by omega)).1) ((sp_row w (by omega)).2.1) ?_
                refine st_iload_n (q := 108) dX11_copy_107 rfl rfl ?_
                refine st_aload_n (q := 109) dX11_copy_108 rfl rfl ?_
                refine st_getR (q := 112) 11 0 dX11_copy_109 fl_X11_11 (by decide) (by decide) rfl rfl (wfk w rfl) (wfR w rfl) ?_
                refine st_iload_n (q := 113) dX11_copy_112 rfl rfl ?_
                refine st_aaload (q := 114) (t := 2) dX11_copy_113 rfl ⟨by decide, by decide⟩ (wfk w rfl) (wfb w (n := 6) rfl ⟨by omega, by omega⟩) (xrow w (by omega)) ?_
                refine st_getR (q := 117) 9 0 dX11_copy_114 fl_X11_126 (by decide) (by decide) rfl rfl ((sp_row w (by omega)).1) ((sp_row w (by omega)).2.1) ?_
                refine st_iload (q := 119) dX11_copy_117 rfl rfl ?_
                refine st_iload (q := 121) dX11_copy_119 rfl rfl ?_
                refine st_acopy (q := 124) dX11_copy_121 rfl ml_X11_129 (Nat.le_of_ble_eq_true rfl) (sp_row w (by omega)).2.2.1 (sp_row w (by omega)).2.2.1 (by omega) (by rw [(sp_row w (show r.toNat < 6 by omega)).2.2.2]; have := hs (by omega); omega) (by rw [(sp_row w (show to.toNat < 6 by omega)).2.2.2]; have := ht (by omega); omega) ?_
                refine st_iconst (q := 125) dX11_copy_124 ⟨by decide, by decide⟩ rfl ?_
                refine rt_i dX11_copy_125 rfl ?_
                first | exact h1 (by omega) | exact h2 (by omega) (by omega) (by omega) | exact h3 (by omega) (by omega) (by omega) (by omega) | exact h4 (by omega) (by omega) (by omega) (by omega) (by omega) (by omega) | exact h5 (by omega) (by omega) (by omega) (by omega) (by omega) (by omega)
              · refine st_aload_n (q := 93) dX11_copy_92 rfl rfl ?_
                refine st_iconst (q := 94) dX11_copy_93 ⟨by decide, by decide⟩ rfl ?_
                refine iV1i (q := 97) dX11_copy_94 rfl ml_X11_116 mv_X11_find (Nat.le_of_ble_eq_true rfl) (wfk w rfl) ?_
                refine c_X11_find w (by decide) ?_
                refine rt_i dX11_copy_97 rfl ?_
                first | exact h1 (by omega) | exact h2 (by omega) (by omega) (by omega) | exact h3 (by omega) (by omega) (by omega) (by omega) | exact h4 (by omega) (by omega) (by omega) (by omega) (by omega) (by omega) | exact h5 (by omega) (by omega) (by omega) (by omega) (by omega) (by omega)
          · refine st_aload_n (q := 56) dX11_copy_55 rfl rfl ?_
            refine st_iconst (q := 57) dX11_copy_56 ⟨by decide, by decide⟩ rfl ?_
            refine iV1i (q := 60) dX11_copy_57 rfl ml_X11_116 mv_X11_find (Nat.le_of_ble_eq_true rfl) (wfk w rfl) ?_
            refine c_X11_find w (by decide) ?_
            refine rt_i dX11_copy_60 rfl ?_
            first | exact h1 (by omega) | exact h2 (by omega) (by omega) (by omega) | exact h3 (by omega) (by omega) (by omega) (by omega) | exact h4 (by omega) (by omega) (by omega) (by omega) (by omega) (by omega) | exact h5 (by omega) (by omega) (by omega) (by omega) (by omega) (by omega)
      · refine st_aload_n (q := 26) dX11_copy_25 rfl rfl ?_
        refine st_iconst (q := 27) dX11_copy_26 ⟨by decide, by decide⟩ rfl ?_
        refine iV1i (q := 30) dX11_copy_27 rfl ml_X11_116 mv_X11_find (Nat.le_of_ble_eq_true rfl) (wfk w rfl) ?_
        refine c_X11_find w (by decide) ?_
        refine rt_i dX11_copy_30 rfl ?_
        first | exact h1 (by omega) | exact h2 (by omega) (by omega) (by omega) | exact h3 (by omega) (by omega) (by omega) (by omega) | exact h4 (by omega) (by omega) (by omega) (by omega) (by omega) (by omega) | exact h5 (by omega) (by omega) (by omega) (by omega) (by omega) (by omega)
    · refine st_iconst (q := 19) dX11_copy_18 ⟨by decide, by decide⟩ rfl ?_
      refine rt_i dX11_copy_19 rfl ?_
      first | exact h1 (by omega) | exact h2 (by omega) (by omega) (by omega) | exact h3 (by omega) (by omega) (by omega) (by omega) | exact h4 (by omega) (by omega) (by omega) (by omega) (by omega) (by omega) | exact h5 (by omega) (by omega) (by omega) (by omega) (by omega) (by omega)

