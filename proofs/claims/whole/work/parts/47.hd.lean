/-! the class: hides and the lamp -/
theorem xhide {h : JH} (w : WF h) {k : Nat} (hk : k < 8) : hR h 4 k = some (5 + k) := (w.2.1 4 k (fun z => absurd z.1 (by decide))).trans (sh_hides k hk).1
theorem xhk {h : JH} (w : WF h) {k : Nat} (hk : k < 8) : kd h (5 + k) = 2 := wfk w (by rw [(sh_hides k hk).2])
theorem c_X7_hasHide {d : Nat} {h : JH} {P : Int → JH → Prop} {u : HD} {k : Int} (w : WF h) (x : HX h u) (hP : P (if (0 ≤ k ∧ k ≤ 7) ∧ uO u k.toNat ≠ 0 then 1 else 0) h) : JRi d jX7_hasHide [vr 3, vi k] h P := by
  have hx : 0 ≤ k ∧ k ≤ 7 → (hI h (5 + k.toNat) 0 = 0 ↔ uO u k.toNat = 0) := fun q => by
    rw [(x k.toNat (by omega)).1]; split <;> simp_all
  refine JRet.of rfl (Nat.le_of_ble_eq_true rfl) ?_
  refine st_iload_n (q := 1) dX7_hasHide_0 rfl rfl ?_
  refine st_if_lt (q := 4) (tgt := 29) dX7_hasHide_1 (by decide) rfl (fun c1 => ?_) (fun c1 => ?_)
  · refine st_iconst (q := 30) dX7_hasHide_29 ⟨by decide, by decide⟩ rfl ?_
    refine rt_z dX7_hasHide_30 rfl (by (repeat' split) <;> omega) ?_
    exact pq hP (by (repeat' split) <;> omega) rfl
  · refine st_iload_n (q := 5) dX7_hasHide_4 rfl rfl ?_
    refine st_aload_n (q := 6) dX7_hasHide_5 rfl rfl ?_
    refine st_getR (q := 9) 7 0 dX7_hasHide_6 fl_X7_11 (by decide) (by decide) rfl rfl (wfk w rfl) (wfR w rfl) ?_
    refine st_arraylength (q := 10) (t := 3) dX7_hasHide_9 rfl (by decide) (wfk w rfl) ?_
    rw [wfl w (n := 8) rfl]
    refine st_icmp_ge (q := 13) (tgt := 29) dX7_hasHide_10 (by decide) rfl (fun c10 => ?_) (fun c10 => ?_)
    · refine st_iconst (q := 30) dX7_hasHide_29 ⟨by decide, by decide⟩ rfl ?_
      refine rt_z dX7_hasHide_30 rfl (by (repeat' split) <;> omega) ?_
      exact pq hP (by (repeat' split) <;> omega) rfl
    · refine st_aload_n (q := 14) dX7_hasHide_13 rfl rfl ?_
      refine st_getR (q := 17) 7 0 dX7_hasHide_14 fl_X7_11 (by decide) (by decide) rfl rfl (wfk w rfl) (wfR w rfl) ?_
      refine st_iload_n (q := 18) dX7_hasHide_17 rfl rfl ?_
      refine st_aaload (q := 19) (t := 3) dX7_hasHide_18 rfl ⟨by decide, by decide⟩ (wfk w rfl) (wfb w (n := 8) rfl ⟨by omega, by omega⟩) (xhide w (by omega)) ?_
      refine st_getI (q := 22) 2 0 dX7_hasHide_19 fl_X7_28 (by decide) (by decide) rfl rfl (xhk w (by omega)) ?_
      refine st_if_eq (q := 25) (tgt := 29) dX7_hasHide_22 (by decide) rfl (fun c22 => ?_) (fun c22 => ?_)
      · refine st_iconst (q := 30) dX7_hasHide_29 ⟨by decide, by decide⟩ rfl ?_
        refine rt_z dX7_hasHide_30 rfl (by (repeat' split) <;> omega) ?_
        exact pq hP (by (repeat' split) <;> omega) rfl
      · refine st_iconst (q := 26) dX7_hasHide_25 ⟨by decide, by decide⟩ rfl ?_
        refine st_goto (q := 30) dX7_hasHide_26 (by decide) ?_
        refine rt_z dX7_hasHide_30 rfl (by (repeat' split) <;> omega) ?_
        exact pq hP (by (repeat' split) <;> omega) rfl
theorem c_X11_refusesHides {d : Nat} {h : JH} {P : Int → JH → Prop} {u : HD} {k o : Int} (w : WF h) (x : HX h u) (h1 : ¬ ((0 ≤ k ∧ k ≤ 7) ∧ (0 ≤ o ∧ o ≤ 7)) → P (-1) h) (h2 : (0 ≤ k ∧ k ≤ 7) ∧ (0 ≤ o ∧ o ≤ 7) → uO u k.toNat = 0 ∨ uO u o.toNat = 0 → P (-3) (fnH h 1)) (h3 : (0 ≤ k ∧ k ≤ 7) ∧ (0 ≤ o ∧ o ≤ 7) → uO u k.toNat ≠ 0 → uO u o.toNat ≠ 0 → P 0 h) : JRi (d + 2) jX11_refusesHides [vr 0, vi k, vi o] h P := by
  refine JRet.of rfl (Nat.le_of_ble_eq_true rfl) ?_
  refine st_iload_n (q := 1) dX11_refusesHides_0 rfl rfl ?_
  refine st_bipush (q := 3) dX11_refusesHides_1 ⟨by decide, by decide⟩ rfl ?_
  refine iS2i (q := 6) dX11_refusesHides_3 rfl ml_X11_86 ms_X11_isNone (Nat.le_of_ble_eq_true rfl) ?_
  refine c_X11_isNone ?_
  refine st_if_ne (q := 9) (tgt := 18) dX11_refusesHides_6 (by decide) rfl (fun c6 => ?_) (fun c6 => ?_)
  · refine st_iconst (q := 19) dX11_refusesHides_18 ⟨by decide, by decide⟩ rfl ?_
    refine rt_i dX11_refusesHides_19 rfl ?_
    first | exact h1 (by omega) | exact h2 (by omega) (by omega) | exact h3 (by omega) (by omega) (by omega)
  · refine st_iload_n (q := 10) dX11_refusesHides_9 rfl rfl ?_
    refine st_bipush (q := 12) dX11_refusesHides_10 ⟨by decide, by decide⟩ rfl ?_
    refine iS2i (q := 15) dX11_refusesHides_12 rfl ml_X11_86 ms_X11_isNone (Nat.le_of_ble_eq_true rfl) ?_
    refine c_X11_isNone ?_
    refine st_if_eq (q := 18) (tgt := 20) dX11_refusesHides_15 (by decide) rfl (fun c15 => ?_) (fun c15 => ?_)
    · refine st_aload_n (q := 21) dX11_refusesHides_20 rfl rfl ?_
      refine st_getR (q := 24) 11 2 dX11_refusesHides_21 fl_X11_21 (by decide) (by decide) rfl rfl (wfk w rfl) (wfR w rfl) ?_
      refine st_iload_n (q := 25) dX11_refusesHides_24 rfl rfl ?_
      refine iV1i (q := 28) dX11_refusesHides_25 rfl ml_X11_333 mv_X7_hasHide (Nat.le_of_ble_eq_true rfl) (wfk w rfl) ?_
      refine c_X7_hasHide w x ?_
      refine st_if_eq (q := 31) (tgt := 46) dX11_refusesHides_28 (by decide) rfl (fun c28 => ?_) (fun c28 => ?_)
      · refine st_aload_n (q := 47) dX11_refusesHides_46 rfl rfl ?_
        refine st_iconst (q := 48) dX11_refusesHides_47 ⟨by decide, by decide⟩ rfl ?_
        refine iV1i (q := 51) dX11_refusesHides_48 rfl ml_X11_116 mv_X11_find (Nat.le_of_ble_eq_true rfl) (wfk w rfl) ?_
        refine c_X11_find w (by decide) ?_
        refine rt_i dX11_refusesHides_51 rfl ?_
        first | exact h1 (by omega) | exact h2 (by omega) (by omega) | exact h3 (by omega) (by omega) (by omega)
      · refine st_aload_n (q := 32) dX11_refusesHides_31 rfl rfl ?_
        refine st_getR (q := 35) 11 2 dX11_refusesHides_32 fl_X11_21 (by decide) (by decide) rfl rfl (wfk w rfl) (wfR w rfl) ?_
        refine st_iload_n (q := 36) dX11_refusesHides_35 rfl rfl ?_
        refine iV1i (q := 39) dX11_refusesHides_36 rfl ml_X11_333 mv_X7_hasHide (Nat.le_of_ble_eq_true rfl) (wfk w rfl) ?_
        refine c_X7_hasHide w x ?_
        refine st_if_eq (q := 42) (tgt := 46) dX11_refusesHides_39 (by decide) rfl (fun c39 => ?_) (fun c39 => ?_)
        · refine st_aload_n (q := 47) dX11_refusesHides_46 rfl rfl ?_
          refine st_iconst (q := 48) dX11_refusesHides_47 ⟨by decide, by decide⟩ rfl ?_
          refine iV1i (q := 51) dX11_refusesHides_48 rfl ml_X11_116 mv_X11_find (Nat.le_of_ble_eq_true rfl) (wfk w rfl) ?_
          refine c_X11_find w (by decide) ?_
          refine rt_i dX11_refusesHides_51 rfl ?_
          first | exact h1 (by omega) | exact h2 (by omega) (by omega) | exact h3 (by omega) (by omega) (by omega)
        · refine st_iconst (q := 43) dX11_refusesHides_42 ⟨by decide, by decide⟩ rfl ?_
          refine st_goto (q := 51) dX11_refusesHides_43 (by decide) ?_
          refine rt_i dX11_refusesHides_51 rfl ?_
          first | exact h1 (by omega) | exact h2 (by omega) (by omega) | exact h3 (by omega) (by omega) (by omega)
    · refine st_iconst (q := 19) dX11_refusesHides_18 ⟨by decide, by decide⟩ rfl ?_
      refine rt_i dX11_refusesHides_19 rfl ?_
      first | exact h1 (by omega) | exact h2 (by omega) (by omega) | exact h3 (by omega) (by omega) (by omega)
theorem c_X11_refusesHide {d : Nat} {h : JH} {P : Int → JH → Prop} {u : HD} {k : Int} (w : WF h) (x : HX h u) (h1 : ¬ (0 ≤ k ∧ k ≤ 7) → P (-1) h) (h2 : 0 ≤ k ∧ k ≤ 7 → uO u k.toNat = 0 → P (-3) (fnH h 1)) (h3 : 0 ≤ k ∧ k ≤ 7 → uO u k.toNat ≠ 0 → P 0 h) : JRi (d + 3) jX11_refusesHide [vr 0, vi k] h P := by
  refine JRet.of rfl (Nat.le_of_ble_eq_true rfl) ?_
  refine st_aload_n (q := 1) dX11_refusesHide_0 rfl rfl ?_
  refine st_iload_n (q := 2) dX11_refusesHide_1 rfl rfl ?_
  refine st_iload_n (q := 3) dX11_refusesHide_2 rfl rfl ?_
  refine iV2i (q := 6) dX11_refusesHide_3 rfl ml_X11_189 mv_X11_refusesHides (Nat.le_of_ble_eq_true rfl) (wfk w rfl) ?_
  refine c_X11_refusesHides w x (fun a1 => ?_) (fun a1 a2 => ?_) (fun a1 a2 a3 => ?_)
  · refine rt_i dX11_refusesHide_6 rfl ?_
    first | exact h1 (by omega) | exact h2 (by omega) (by omega) | exact h3 (by omega) (by omega)
  · refine rt_i dX11_refusesHide_6 rfl ?_
    first | exact h1 (by omega) | exact h2 (by omega) (by omega) | exact h3 (by omega) (by omega)
  · refine rt_i dX11_refusesHide_6 rfl ?_
    first | exact h1 (by omega) | exact h2 (by omega) (by omega) | exact h3 (by omega) (by omega)
def mhH (h : JH) (k : Nat) (a b c : Int) : JH := sI (sI (sI (sI h (5 + k) 0 1) (5 + k) 1 a) (5 + k) 2 b) (5 + k) 3 c
theorem c_X2_make {d : Nat} {h : JH} {P : JH → Prop} {k : Nat} {a b c : Int} (hk : kd h (5 + k) = 2) (hP : P (mhH h k a b c)) : JRv d jX2_make [vr (5 + k), vi a, vi b, vi c] h P := by
  refine JRet.of rfl (Nat.le_of_ble_eq_true rfl) ?_
  refine st_aload_n (q := 1) dX2_make_0 rfl rfl ?_
  refine st_iconst (q := 2) dX2_make_1 ⟨by decide, by decide⟩ rfl ?_
  refine st_putI (q := 5) 2 0 dX2_make_2 fl_X2_7 (by decide) (by decide) (Or.inl rfl) rfl (Or.inr ⟨rfl, by omega⟩) (hk) ?_
  refine st_aload_n (q := 6) dX2_make_5 rfl rfl ?_
  refine st_iload_n (q := 7) dX2_make_6 rfl rfl ?_
  refine st_putI (q := 10) 2 1 dX2_make_7 fl_X2_13 (by decide) (by decide) (Or.inl rfl) rfl (Or.inl rfl) (hk) ?_
  refine st_aload_n (q := 11) dX2_make_10 rfl rfl ?_
  refine st_iload_n (q := 12) dX2_make_11 rfl rfl ?_
  refine st_putI (q := 15) 2 2 dX2_make_12 fl_X2_17 (by decide) (by decide) (Or.inl rfl) rfl (Or.inl rfl) (hk) ?_
  refine st_aload_n (q := 16) dX2_make_15 rfl rfl ?_
  refine st_iload_n (q := 17) dX2_make_16 rfl rfl ?_
  refine st_putI (q := 20) 2 3 dX2_make_17 fl_X2_20 (by decide) (by decide) (Or.inl rfl) rfl (Or.inl rfl) (hk) ?_
  refine rt_v dX2_make_20 rfl ?_
  exact hP
theorem c_X11_hide {d : Nat} {h : JH} {P : Int → JH → Prop} {k a b c : Int} (w : WF h) (h1 : ¬ (0 ≤ k ∧ k ≤ 7 ∧ 1 ≤ a ∧ a ≤ 60 ∧ 1 ≤ b ∧ b ≤ 60 ∧ 1 ≤ c ∧ c ≤ 65535) → P (-1) h) (h2 : 0 ≤ k ∧ k ≤ 7 ∧ 1 ≤ a ∧ a ≤ 60 ∧ 1 ≤ b ∧ b ≤ 60 ∧ 1 ≤ c ∧ c ≤ 65535 → P (pcN c.toNat 16 : Nat) (mhH h k.toNat a b c)) : JRi (d + 2) jX11_hide [vr 0, vi k, vi a, vi b, vi c] h P := by
  refine JRet.of rfl (Nat.le_of_ble_eq_true rfl) ?_
  refine st_iload_n (q := 1) dX11_hide_0 rfl rfl ?_
  refine st_iconst (q := 2) dX11_hide_1 ⟨by decide, by decide⟩ rfl ?_
  refine st_bipush (q := 4) dX11_hide_2 ⟨by decide, by decide⟩ rfl ?_
  refine iS3i (q := 7) dX11_hide_4 rfl ml_X11_142 ms_X11_isWithin (Nat.le_of_ble_eq_true rfl) ?_
  refine c_X11_isWithin ?_
  refine st_if_eq (q := 10) (tgt := 24) dX11_hide_7 (by decide) rfl (fun c7 => ?_) (fun c7 => ?_)
  · refine st_iconst (q := 25) dX11_hide_24 ⟨by decide, by decide⟩ rfl ?_
    refine st_istore (q := 27) dX11_hide_25 (by decide) rfl ?_
    refine st_iload_n (q := 28) dX11_hide_27 rfl rfl ?_
    refine st_bipush (q := 30) dX11_hide_28 ⟨by decide, by decide⟩ rfl ?_
    refine iS2i (q := 33) dX11_hide_30 rfl ml_X11_86 ms_X11_isNone (Nat.le_of_ble_eq_true rfl) ?_
    refine c_X11_isNone ?_
    refine st_if_ne (q := 36) (tgt := 52) dX11_hide_33 (by decide) rfl (fun c33 => ?_) (fun c33 => ?_)
    · refine st_iconst (q := 53) dX11_hide_52 ⟨by decide, by decide⟩ rfl ?_
      refine rt_i dX11_hide_53 rfl ?_
      first | exact h1 (by omega) | exact h2 (by omega)
    · refine st_iload (q := 38) dX11_hide_36 rfl rfl ?_
      refine st_if_eq (q := 41) (tgt := 52) dX11_hide_38 (by decide) rfl (fun _ => ?_) (fun z => absurd z (by decide))
      refine st_iconst (q := 53) dX11_hide_52 ⟨by decide, by decide⟩ rfl ?_
      refine rt_i dX11_hide_53 rfl ?_
      first | exact h1 (by omega) | exact h2 (by omega)
  · refine st_iload_n (q := 11) dX11_hide_10 rfl rfl ?_
    refine st_iconst (q := 12) dX11_hide_11 ⟨by decide, by decide⟩ rfl ?_
    refine st_bipush (q := 14) dX11_hide_12 ⟨by decide, by decide⟩ rfl ?_
    refine iS3i (q := 17) dX11_hide_14 rfl ml_X11_142 ms_X11_isWithin (Nat.le_of_ble_eq_true rfl) ?_
    refine c_X11_isWithin ?_
    refine st_if_eq (q := 20) (tgt := 24) dX11_hide_17 (by decide) rfl (fun c17 => ?_) (fun c17 => ?_)
    · refine st_iconst (q := 25) dX11_hide_24 ⟨by decide, by decide⟩ rfl ?_
      refine st_istore (q := 27) dX11_hide_25 (by decide) rfl ?_
      refine st_iload_n (q := 28) dX11_hide_27 rfl rfl ?_
      refine st_bipush (q := 30) dX11_hide_28 ⟨by decide, by decide⟩ rfl ?_
      refine iS2i (q := 33) dX11_hide_30 rfl ml_X11_86 ms_X11_isNone (Nat.le_of_ble_eq_true rfl) ?_
      refine c_X11_isNone ?_
      refine st_if_ne (q := 36) (tgt := 52) dX11_hide_33 (by decide) rfl (fun c33 => ?_) (fun c33 => ?_)
      · refine st_iconst (q := 53) dX11_hide_52 ⟨by decide, by decide⟩ rfl ?_
        refine rt_i dX11_hide_53 rfl ?_
        first | exact h1 (by omega) | exact h2 (by omega)
      · refine st_iload (q := 38) dX11_hide_36 rfl rfl ?_
        refine st_if_eq (q := 41) (tgt := 52) dX11_hide_38 (by decide) rfl (fun _ => ?_) (fun z => absurd z (by decide))
        refine st_iconst (q := 53) dX11_hide_52 ⟨by decide, by decide⟩ rfl ?_
        refine rt_i dX11_hide_53 rfl ?_
        first | exact h1 (by omega) | exact h2 (by omega)
    · refine st_iconst (q := 21) dX11_hide_20 ⟨by decide, by decide⟩ rfl ?_
      refine st_goto (q := 25) dX11_hide_21 (by decide) ?_
      refine st_istore (q := 27) dX11_hide_25 (by decide) rfl ?_
      refine st_iload_n (q := 28) dX11_hide_27 rfl rfl ?_
      refine st_bipush (q := 30) dX11_hide_28 ⟨by decide, by decide⟩ rfl ?_
      refine iS2i (q := 33) dX11_hide_30 rfl ml_X11_86 ms_X11_isNone (Nat.le_of_ble_eq_true rfl) ?_
      refine c_X11_isNone ?_
      refine st_if_ne (q := 36) (tgt := 52) dX11_hide_33 (by decide) rfl (fun c33 => ?_) (fun c33 => ?_)
      · refine st_iconst (q := 53) dX11_hide_52 ⟨by decide, by decide⟩ rfl ?_
        refine rt_i dX11_hide_53 rfl ?_
        first | exact h1 (by omega) | exact h2 (by omega)
      · refine st_iload (q := 38) dX11_hide_36 rfl rfl ?_
        refine st_if_eq (q := 41) (tgt := 52) dX11_hide_38 (by decide) rfl (fun z => absurd z (by decide)) (fun _ => ?_)
        refine st_iload (q := 43) dX11_hide_41 rfl rfl ?_
        refine st_iconst (q := 44) dX11_hide_43 ⟨by decide, by decide⟩ rfl ?_
        refine st_ldc (q := 46) (x := 65535) dX11_hide_44 ⟨by decide, by decide⟩ co_X11_146 rfl ?_
        refine iS3i (q := 49) dX11_hide_46 rfl ml_X11_142 ms_X11_isWithin (Nat.le_of_ble_eq_true rfl) ?_
        refine c_X11_isWithin ?_
        refine st_if_ne (q := 52) (tgt := 54) dX11_hide_49 (by decide) rfl (fun c49 => ?_) (fun c49 => ?_)
        · refine st_aload_n (q := 55) dX11_hide_54 rfl rfl ?_
          refine st_getR (q := 58) 11 2 dX11_hide_55 fl_X11_21 (by decide) (by decide) rfl rfl (wfk w rfl) (wfR w rfl) ?_
          refine st_getR (q := 61) 7 0 dX11_hide_58 fl_X11_147 (by decide) (by decide) rfl rfl (wfk w rfl) (wfR w rfl) ?_
          refine st_iload_n (q := 62) dX11_hide_61 rfl rfl ?_
          refine st_aaload (q := 63) (t := 3) dX11_hide_62 rfl ⟨by decide, by decide⟩ (wfk w rfl) (wfb w (n := 8) rfl ⟨by omega, by omega⟩) (xhide w (by omega)) ?_
          refine st_iload_n (q := 64) dX11_hide_63 rfl rfl ?_
          refine st_iload_n (q := 65) dX11_hide_64 rfl rfl ?_
          refine st_iload (q := 67) dX11_hide_65 rfl rfl ?_
          refine iV3v (q := 70) dX11_hide_67 rfl ml_X11_151 mv_X2_make (Nat.le_of_ble_eq_true rfl) (xhk w (by omega)) ?_
          refine c_X2_make (xhk w (by omega)) ?_
          refine st_iload (q := 72) dX11_hide_70 rfl rfl ?_
          refine iS1i (q := 75) dX11_hide_72 rfl ml_X11_157 ms_J6_bitCount_0f7a4 (Nat.le_of_ble_eq_true rfl) ?_
          have e1 : c = (c.toNat : Int) := by omega
          rw [e1]
          refine c_bitCount (by omega) ?_
          rw [← e1]
          refine rt_i dX11_hide_75 rfl ?_
          first | exact h1 (by omega) | exact h2 (by omega)
        · refine st_iconst (q := 53) dX11_hide_52 ⟨by decide, by decide⟩ rfl ?_
          refine rt_i dX11_hide_53 rfl ?_
          first | exact h1 (by omega) | exact h2 (by omega)
theorem c_X11_drop {d : Nat} {h : JH} {P : Int → JH → Prop} {u : HD} {k : Int} (w : WF h) (x : HX h u) (h1 : ¬ (0 ≤ k ∧ k ≤ 7) → P (-1) h) (h2 : 0 ≤ k ∧ k ≤ 7 → uO u k.toNat = 0 → P (-3) (fnH h 1)) (h3 : 0 ≤ k ∧ k ≤ 7 → uO u k.toNat ≠ 0 → P 1 (sI h (5 + k.toNat) 0 0)) : JRi (d + 4) jX11_drop [vr 0, vi k] h P := by
  refine JRet.of rfl (Nat.le_of_ble_eq_true rfl) ?_
  refine st_aload_n (q := 1) dX11_drop_0 rfl rfl ?_
  refine st_iload_n (q := 2) dX11_drop_1 rfl rfl ?_
  refine iV1i (q := 5) dX11_drop_2 rfl ml_X11_162 mv_X11_refusesHide (Nat.le_of_ble_eq_true rfl) (wfk w rfl) ?_
  refine c_X11_refusesHide w x (fun a1 => ?_) (fun a1 a2 => ?_) (fun a1 a2 => ?_)
  · refine st_istore_n (q := 6) (i := 2) dX11_drop_5 rfl (by decide) rfl ?_
    refine st_iload_n (q := 7) dX11_drop_6 rfl rfl ?_
    refine st_if_eq (q := 10) (tgt := 12) dX11_drop_7 (by decide) rfl (fun z => absurd z (by decide)) (fun _ => ?_)
    refine st_iload_n (q := 11) dX11_drop_10 rfl rfl ?_
    refine rt_i dX11_drop_11 rfl ?_
    first | exact h1 (by omega) | exact h2 (by omega) (by omega) | exact h3 (by omega) (by omega)
  · refine st_istore_n (q := 6) (i := 2) dX11_drop_5 rfl (by decide) rfl ?_
    refine st_iload_n (q := 7) dX11_drop_6 rfl rfl ?_
    refine st_if_eq (q := 10) (tgt := 12) dX11_drop_7 (by decide) rfl (fun z => absurd z (by decide)) (fun _ => ?_)
    refine st_iload_n (q := 11) dX11_drop_10 rfl rfl ?_
    refine rt_i dX11_drop_11 rfl ?_
    first | exact h1 (by omega) | exact h2 (by omega) (by omega) | exact h3 (by omega) (by omega)
  · refine st_istore_n (q := 6) (i := 2) dX11_drop_5 rfl (by decide) rfl ?_
    refine st_iload_n (q := 7) dX11_drop_6 rfl rfl ?_
    refine st_if_eq (q := 10) (tgt := 12) dX11_drop_7 (by decide) rfl (fun _ => ?_) (fun z => absurd z (by decide))
    refine st_aload_n (q := 13) dX11_drop_12 rfl rfl ?_
    refine st_getR (q := 16) 11 2 dX11_drop_13 fl_X11_21 (by decide) (by decide) rfl rfl (wfk w rfl) (wfR w rfl) ?_
    refine st_getR (q := 19) 7 0 dX11_drop_16 fl_X11_147 (by decide) (by decide) rfl rfl (wfk w rfl) (wfR w rfl) ?_
    refine st_iload_n (q := 20) dX11_drop_19 rfl rfl ?_
    refine st_aaload (q := 21) (t := 3) dX11_drop_20 rfl ⟨by decide, by decide⟩ (wfk w rfl) (wfb w (n := 8) rfl ⟨by omega, by omega⟩) (xhide w (by omega)) ?_
    refine st_iconst (q := 22) dX11_drop_21 ⟨by decide, by decide⟩ rfl ?_
    refine st_putI (q := 25) 2 0 dX11_drop_22 fl_X11_165 (by decide) (by decide) (Or.inl rfl) rfl (Or.inr ⟨rfl, by omega⟩) (xhk w (by omega)) ?_
    refine st_iconst (q := 26) dX11_drop_25 ⟨by decide, by decide⟩ rfl ?_
    refine rt_i dX11_drop_26 rfl ?_
    first | exact h1 (by omega) | exact h2 (by omega) (by omega) | exact h3 (by omega) (by omega)
theorem c_X11_lamp {d : Nat} {h : JH} {P : Int → JH → Prop} {a b : Int} (w : WF h) (h1 : ¬ (2 ≤ a ∧ a ≤ 60 ∧ 0 ≤ b ∧ b ≤ 9) → P (-1) h) (h2 : 2 ≤ a ∧ a ≤ 60 ∧ 0 ≤ b ∧ b ≤ 9 → P 1 (sI (sI h 3 1 a) 3 2 b)) : JRi (d + 1) jX11_lamp [vr 0, vi a, vi b] h P := by
  refine JRet.of rfl (Nat.le_of_ble_eq_true rfl) ?_
  refine st_iload_n (q := 1) dX11_lamp_0 rfl rfl ?_
  refine st_iconst (q := 2) dX11_lamp_1 ⟨by decide, by decide⟩ rfl ?_
  refine st_bipush (q := 4) dX11_lamp_2 ⟨by decide, by decide⟩ rfl ?_
  refine iS3i (q := 7) dX11_lamp_4 rfl ml_X11_142 ms_X11_isWithin (Nat.le_of_ble_eq_true rfl) ?_
  refine c_X11_isWithin ?_
  refine st_if_eq (q := 10) (tgt := 20) dX11_lamp_7 (by decide) rfl (fun c7 => ?_) (fun c7 => ?_)
  · refine st_iconst (q := 21) dX11_lamp_20 ⟨by decide, by decide⟩ rfl ?_
    refine rt_i dX11_lamp_21 rfl ?_
    first | exact h1 (by omega) | exact h2 (by omega)
  · refine st_iload_n (q := 11) dX11_lamp_10 rfl rfl ?_
    refine st_iconst (q := 12) dX11_lamp_11 ⟨by decide, by decide⟩ rfl ?_
    refine st_bipush (q := 14) dX11_lamp_12 ⟨by decide, by decide⟩ rfl ?_
    refine iS3i (q := 17) dX11_lamp_14 rfl ml_X11_142 ms_X11_isWithin (Nat.le_of_ble_eq_true rfl) ?_
    refine c_X11_isWithin ?_
    refine st_if_ne (q := 20) (tgt := 22) dX11_lamp_17 (by decide) rfl (fun c17 => ?_) (fun c17 => ?_)
    · refine st_aload_n (q := 23) dX11_lamp_22 rfl rfl ?_
      refine st_getR (q := 26) 11 2 dX11_lamp_23 fl_X11_21 (by decide) (by decide) rfl rfl (wfk w rfl) (wfR w rfl) ?_
      refine st_iload_n (q := 27) dX11_lamp_26 rfl rfl ?_
      refine st_putI (q := 30) 7 1 dX11_lamp_27 fl_X11_169 (by decide) (by decide) (Or.inl rfl) rfl (Or.inl rfl) (wfk w rfl) ?_
      refine st_aload_n (q := 31) dX11_lamp_30 rfl rfl ?_
      refine st_getR (q := 34) 11 2 dX11_lamp_31 fl_X11_21 (by decide) (by decide) rfl rfl (wfk w rfl) (wfR w rfl) ?_
      refine st_iload_n (q := 35) dX11_lamp_34 rfl rfl ?_
      refine st_putI (q := 38) 7 2 dX11_lamp_35 fl_X11_172 (by decide) (by decide) (Or.inl rfl) rfl (Or.inl rfl) (wfk w rfl) ?_
      refine st_iconst (q := 39) dX11_lamp_38 ⟨by decide, by decide⟩ rfl ?_
      refine rt_i dX11_lamp_39 rfl ?_
      first | exact h1 (by omega) | exact h2 (by omega)
    · refine st_iconst (q := 21) dX11_lamp_20 ⟨by decide, by decide⟩ rfl ?_
      refine rt_i dX11_lamp_21 rfl ?_
      first | exact h1 (by omega) | exact h2 (by omega)
def tlU (u : HD) (k : Nat) (what : Int) : Int := if what = 0 then uW u k else if what = 1 then uH u k else if what = 2 then uO u k else (tnN (uO u k) 16 : Nat)
theorem c_X2_tells {d : Nat} {h : JH} {P : Int → JH → Prop} {u : HD} {k : Nat} {what : Int} (w : WF h) (x : HX h u) (o : uOk u) (hk : k < 8) (hu : uO u k ≠ 0) (hP : P (tlU u k what) h) : JRi (d + 1) jX2_tells [vr (5 + k), vi what] h P := by
  have x2 := (x k hk).2 hu
  have o2 := (o k hk).2.2
  refine JRet.of rfl (Nat.le_of_ble_eq_true rfl) ?_
  refine st_iload_n (q := 1) dX2_tells_0 rfl rfl ?_
  refine st_tsw3 dX2_tells_1 rfl (o0 := 27) (t0 := 28) rfl (by decide) (o1 := 32) (t1 := 33) rfl (by decide) (o2 := 37) (t2 := 38) rfl (by decide) (td := 43) (by decide) (fun c1 => ?_) (fun c1 => ?_) (fun c1 => ?_) (fun c1 => ?_)
  · refine st_aload_n (q := 29) dX2_tells_28 rfl rfl ?_
    refine st_getI (q := 32) 2 1 dX2_tells_29 fl_X2_13 (by decide) (by decide) rfl rfl (xhk w hk) ?_
    refine rt_i dX2_tells_32 rfl ?_
    refine pq hP ?_ rfl
    unfold tlU
    first | (rw [x2.1]; (repeat' split) <;> omega) | (rw [x2.2.1]; (repeat' split) <;> omega) | (rw [x2.2.2]; (repeat' split) <;> omega) | ((repeat' split) <;> first | rfl | omega)
  · refine st_aload_n (q := 34) dX2_tells_33 rfl rfl ?_
    refine st_getI (q := 37) 2 2 dX2_tells_34 fl_X2_17 (by decide) (by decide) rfl rfl (xhk w hk) ?_
    refine rt_i dX2_tells_37 rfl ?_
    refine pq hP ?_ rfl
    unfold tlU
    first | (rw [x2.1]; (repeat' split) <;> omega) | (rw [x2.2.1]; (repeat' split) <;> omega) | (rw [x2.2.2]; (repeat' split) <;> omega) | ((repeat' split) <;> first | rfl | omega)
  · refine st_aload_n (q := 39) dX2_tells_38 rfl rfl ?_
    refine st_getI (q := 42) 2 3 dX2_tells_39 fl_X2_20 (by decide) (by decide) rfl rfl (xhk w hk) ?_
    refine rt_i dX2_tells_42 rfl ?_
    refine pq hP ?_ rfl
    unfold tlU
    first | (rw [x2.1]; (repeat' split) <;> omega) | (rw [x2.2.1]; (repeat' split) <;> omega) | (rw [x2.2.2]; (repeat' split) <;> omega) | ((repeat' split) <;> first | rfl | omega)
  · refine st_aload_n (q := 44) dX2_tells_43 rfl rfl ?_
    refine st_getI (q := 47) 2 3 dX2_tells_44 fl_X2_20 (by decide) (by decide) rfl rfl (xhk w hk) ?_
    refine iS1i (q := 50) dX2_tells_47 rfl ml_X2_23 ms_X2_turned (Nat.le_of_ble_eq_true rfl) ?_
    rw [x2.2.2]
    refine c_X2_turned o2 ?_
    refine rt_i dX2_tells_50 rfl ?_
    refine pq hP ?_ rfl
    unfold tlU
    first | (rw [x2.1]; (repeat' split) <;> omega) | (rw [x2.2.1]; (repeat' split) <;> omega) | (rw [x2.2.2]; (repeat' split) <;> omega) | ((repeat' split) <;> first | rfl | omega)
theorem c_X11_about {d : Nat} {h : JH} {P : Int → JH → Prop} {u : HD} {k what : Int} (w : WF h) (x : HX h u) (o : uOk u) (h1 : ¬ (0 ≤ k ∧ k ≤ 7) ∨ ¬ (0 ≤ what ∧ what ≤ 3) → P (-1) h) (h2 : 0 ≤ k ∧ k ≤ 7 → 0 ≤ what ∧ what ≤ 3 → uO u k.toNat = 0 → P (-3) (fnH h 1)) (h3 : 0 ≤ k ∧ k ≤ 7 → 0 ≤ what ∧ what ≤ 3 → uO u k.toNat ≠ 0 → P 1 (sI h 0 11 (tlU u k.toNat what))) : JRi (d + 4) jX11_about [vr 0, vi k, vi what] h P := by
  refine JRet.of rfl (Nat.le_of_ble_eq_true rfl) ?_
  refine st_iload_n (q := 1) dX11_about_0 rfl rfl ?_
  refine st_iconst (q := 2) dX11_about_1 ⟨by decide, by decide⟩ rfl ?_
  refine iS2i (q := 5) dX11_about_2 rfl ml_X11_86 ms_X11_isNone (Nat.le_of_ble_eq_true rfl) ?_
  refine c_X11_isNone ?_
  refine st_if_eq (q := 8) (tgt := 10) dX11_about_5 (by decide) rfl (fun c5 => ?_) (fun c5 => ?_)
  · refine st_aload_n (q := 11) dX11_about_10 rfl rfl ?_
    refine st_iload_n (q := 12) dX11_about_11 rfl rfl ?_
    refine iV1i (q := 15) dX11_about_12 rfl ml_X11_162 mv_X11_refusesHide (Nat.le_of_ble_eq_true rfl) (wfk w rfl) ?_
    refine c_X11_refusesHide w x (fun a1 => ?_) (fun a1 a2 => ?_) (fun a1 a2 => ?_)
    · refine st_istore_n (q := 16) (i := 3) dX11_about_15 rfl (by decide) rfl ?_
      refine st_iload_n (q := 17) dX11_about_16 rfl rfl ?_
      refine st_if_eq (q := 20) (tgt := 24) dX11_about_17 (by decide) rfl (fun z => absurd z (by decide)) (fun _ => ?_)
      refine st_iload_n (q := 21) dX11_about_20 rfl rfl ?_
      refine st_goto (q := 41) dX11_about_21 (by decide) ?_
      refine rt_i dX11_about_41 rfl ?_
      first | exact h1 (by omega) | exact h2 (by omega) (by omega) (by omega) | exact h3 (by omega) (by omega) (by omega)
    · refine st_istore_n (q := 16) (i := 3) dX11_about_15 rfl (by decide) rfl ?_
      refine st_iload_n (q := 17) dX11_about_16 rfl rfl ?_
      refine st_if_eq (q := 20) (tgt := 24) dX11_about_17 (by decide) rfl (fun z => absurd z (by decide)) (fun _ => ?_)
      refine st_iload_n (q := 21) dX11_about_20 rfl rfl ?_
      refine st_goto (q := 41) dX11_about_21 (by decide) ?_
      refine rt_i dX11_about_41 rfl ?_
      first | exact h1 (by omega) | exact h2 (by omega) (by omega) (by omega) | exact h3 (by omega) (by omega) (by omega)
    · refine st_istore_n (q := 16) (i := 3) dX11_about_15 rfl (by decide) rfl ?_
      refine st_iload_n (q := 17) dX11_about_16 rfl rfl ?_
      refine st_if_eq (q := 20) (tgt := 24) dX11_about_17 (by decide) rfl (fun _ => ?_) (fun z => absurd z (by decide))
      refine st_aload_n (q := 25) dX11_about_24 rfl rfl ?_
      refine st_aload_n (q := 26) dX11_about_25 rfl rfl ?_
      refine st_getR (q := 29) 11 2 dX11_about_26 fl_X11_21 (by decide) (by decide) rfl rfl (wfk w rfl) (wfR w rfl) ?_
      refine st_getR (q := 32) 7 0 dX11_about_29 fl_X11_147 (by decide) (by decide) rfl rfl (wfk w rfl) (wfR w rfl) ?_
      refine st_iload_n (q := 33) dX11_about_32 rfl rfl ?_
      refine st_aaload (q := 34) (t := 3) dX11_about_33 rfl ⟨by decide, by decide⟩ (wfk w rfl) (wfb w (n := 8) rfl ⟨by omega, by omega⟩) (xhide w (by omega)) ?_
      refine st_iload_n (q := 35) dX11_about_34 rfl rfl ?_
      refine iV1i (q := 38) dX11_about_35 rfl ml_X11_175 mv_X2_tells (Nat.le_of_ble_eq_true rfl) (xhk w (by omega)) ?_
      refine c_X2_tells w x o (by omega) a2 ?_
      refine iV1i (q := 41) dX11_about_38 rfl ml_X11_106 mv_X11_tell (Nat.le_of_ble_eq_true rfl) (wfk w rfl) ?_
      refine c_X11_tell w ?_
      refine rt_i dX11_about_41 rfl ?_
      first | exact h1 (by omega) | exact h2 (by omega) (by omega) (by omega) | exact h3 (by omega) (by omega) (by omega)
  · refine st_iconst (q := 9) dX11_about_8 ⟨by decide, by decide⟩ rfl ?_
    refine rt_i dX11_about_9 rfl ?_
    first | exact h1 (by omega) | exact h2 (by omega) (by omega) (by omega) | exact h3 (by omega) (by omega) (by omega)
theorem c_X7_canHold {d : Nat} {h : JH} {P : Int → JH → Prop} {z x : Int} (w : WF h) (hP : P (if (0 ≤ z ∧ z < hI h 3 1) ∧ (-99 ≤ x ∧ x ≤ 99) then 1 else 0) h) : JRi (d + 1) jX7_canHold [vr 3, vi z, vi x] h P := by
  refine JRet.of rfl (Nat.le_of_ble_eq_true rfl) ?_
  refine st_iload_n (q := 1) dX7_canHold_0 rfl rfl ?_
  refine st_if_lt (q := 4) (tgt := 27) dX7_canHold_1 (by decide) rfl (fun c1 => ?_) (fun c1 => ?_)
  · refine st_iconst (q := 28) dX7_canHold_27 ⟨by decide, by decide⟩ rfl ?_
    refine rt_z dX7_canHold_28 rfl (by (repeat' split) <;> omega) ?_
    exact pq hP (by (repeat' split) <;> omega) rfl
  · refine st_iload_n (q := 5) dX7_canHold_4 rfl rfl ?_
    refine st_aload_n (q := 6) dX7_canHold_5 rfl rfl ?_
    refine st_getI (q := 9) 7 1 dX7_canHold_6 fl_X7_17 (by decide) (by decide) rfl rfl (wfk w rfl) ?_
    refine st_icmp_ge (q := 12) (tgt := 27) dX7_canHold_9 (by decide) rfl (fun c9 => ?_) (fun c9 => ?_)
    · refine st_iconst (q := 28) dX7_canHold_27 ⟨by decide, by decide⟩ rfl ?_
      refine rt_z dX7_canHold_28 rfl (by (repeat' split) <;> omega) ?_
      exact pq hP (by (repeat' split) <;> omega) rfl
    · refine st_iload_n (q := 13) dX7_canHold_12 rfl rfl ?_
      refine st_bipush (q := 15) dX7_canHold_13 ⟨by decide, by decide⟩ rfl ?_
      refine st_bipush (q := 17) dX7_canHold_15 ⟨by decide, by decide⟩ rfl ?_
      refine iN3i (q := 20) dX7_canHold_17 rfl mn_X7_32 ms_X11_isWithin (Nat.le_of_ble_eq_true rfl) ?_
      refine c_X11_isWithin ?_
      refine st_if_eq (q := 23) (tgt := 27) dX7_canHold_20 (by decide) rfl (fun c20 => ?_) (fun c20 => ?_)
      · refine st_iconst (q := 28) dX7_canHold_27 ⟨by decide, by decide⟩ rfl ?_
        refine rt_z dX7_canHold_28 rfl (by (repeat' split) <;> omega) ?_
        exact pq hP (by (repeat' split) <;> omega) rfl
      · refine st_iconst (q := 24) dX7_canHold_23 ⟨by decide, by decide⟩ rfl ?_
        refine st_goto (q := 28) dX7_canHold_24 (by decide) ?_
        refine rt_z dX7_canHold_28 rfl (by (repeat' split) <;> omega) ?_
        exact pq hP (by (repeat' split) <;> omega) rfl
def shU (u : HD) (L G : Int) (k : Nat) (z x what : Int) : Int := if what = 0 then uW u k * L else if what = 1 then uH u k * L else if what = 2 then x * L else G * z
theorem c_X7_shadowUpper {d : Nat} {h : JH} {P : Int → JH → Prop} {u : HD} {k : Nat} {z x what : Int} (w : WF h) (hx : HX h u) (o : uOk u) (hk : k < 8) (hu : uO u k ≠ 0) (hL : 2 ≤ hI h 3 1 ∧ hI h 3 1 ≤ 60) (hG : 0 ≤ hI h 3 2 ∧ hI h 3 2 ≤ 9) (hz : 0 ≤ z ∧ z < 60) (hxx : -99 ≤ x ∧ x ≤ 99) (hP : P (shU u (hI h 3 1) (hI h 3 2) k z x what) h) : JRl d jX7_shadowUpper [vr 3, vr (5 + k), vi z, vi x, vi what] h P := by
  have x2 := (hx k hk).2 hu
  have o2 := o k hk
  have p1 := mul_b (A := 60) (show 0 ≤ ((uW u k : Nat) : Int) by omega) (by omega) (show 0 ≤ hI h 3 1 by omega) hL.2
  have p2 := mul_b (A := 60) (show 0 ≤ ((uH u k : Nat) : Int) by omega) (by omega) (show 0 ≤ hI h 3 1 by omega) hL.2
  have p3 := mul_b2 (A := 99) (show -99 ≤ x by omega) (show x ≤ 99 by omega) (show 0 ≤ hI h 3 1 by omega) hL.2
  have p4 := mul_b (B := 60) hG.1 hG.2 (show 0 ≤ z by omega) (show z ≤ 60 by omega)
  refine JRet.of rfl (Nat.le_of_ble_eq_true rfl) ?_
  refine st_iload (q := 2) dX7_shadowUpper_0 rfl rfl ?_
  refine st_tsw3 dX7_shadowUpper_2 rfl (o0 := 26) (t0 := 28) rfl (by decide) (o1 := 38) (t1 := 40) rfl (by decide) (o2 := 50) (t2 := 52) rfl (by decide) (td := 61) (by decide) (fun c2 => ?_) (fun c2 => ?_) (fun c2 => ?_) (fun c2 => ?_)
  · refine st_aload_n (q := 29) dX7_shadowUpper_28 rfl rfl ?_
    refine st_getI (q := 32) 2 1 dX7_shadowUpper_29 fl_X7_36 (by decide) (by decide) rfl rfl (xhk w hk) ?_
    rw [x2.1]
    refine st_i2l (q := 33) dX7_shadowUpper_32 rfl ?_
    refine st_aload_n (q := 34) dX7_shadowUpper_33 rfl rfl ?_
    refine st_getI (q := 37) 7 1 dX7_shadowUpper_34 fl_X7_17 (by decide) (by decide) rfl rfl (wfk w rfl) ?_
    refine st_i2l (q := 38) dX7_shadowUpper_37 rfl ?_
    first | refine n_lmul (q := 39) dX7_shadowUpper_38 rfl ⟨by omega, by omega⟩ ?_ | refine st_lmul (q := 39) dX7_shadowUpper_38 rfl ?_
    refine rt_l dX7_shadowUpper_39 rfl ?_
    refine pq hP ?_ rfl
    unfold shU
    (repeat' split) <;> first | rfl | omega
  · refine st_aload_n (q := 41) dX7_shadowUpper_40 rfl rfl ?_
    refine st_getI (q := 44) 2 2 dX7_shadowUpper_41 fl_X7_39 (by decide) (by decide) rfl rfl (xhk w hk) ?_
    rw [x2.2.1]
    refine st_i2l (q := 45) dX7_shadowUpper_44 rfl ?_
    refine st_aload_n (q := 46) dX7_shadowUpper_45 rfl rfl ?_
    refine st_getI (q := 49) 7 1 dX7_shadowUpper_46 fl_X7_17 (by decide) (by decide) rfl rfl (wfk w rfl) ?_
    refine st_i2l (q := 50) dX7_shadowUpper_49 rfl ?_
    first | refine n_lmul (q := 51) dX7_shadowUpper_50 rfl ⟨by omega, by omega⟩ ?_ | refine st_lmul (q := 51) dX7_shadowUpper_50 rfl ?_
    refine rt_l dX7_shadowUpper_51 rfl ?_
    refine pq hP ?_ rfl
    unfold shU
    (repeat' split) <;> first | rfl | omega
  · refine st_iload_n (q := 53) dX7_shadowUpper_52 rfl rfl ?_
    refine st_i2l (q := 54) dX7_shadowUpper_53 rfl ?_
    refine st_aload_n (q := 55) dX7_shadowUpper_54 rfl rfl ?_
    refine st_getI (q := 58) 7 1 dX7_shadowUpper_55 fl_X7_17 (by decide) (by decide) rfl rfl (wfk w rfl) ?_
    refine st_i2l (q := 59) dX7_shadowUpper_58 rfl ?_
    first | refine n_lmul (q := 60) dX7_shadowUpper_59 rfl ⟨by omega, by omega⟩ ?_ | refine st_lmul (q := 60) dX7_shadowUpper_59 rfl ?_
    refine rt_l dX7_shadowUpper_60 rfl ?_
    refine pq hP ?_ rfl
    unfold shU
    (repeat' split) <;> first | rfl | omega
  · refine st_aload_n (q := 62) dX7_shadowUpper_61 rfl rfl ?_
    refine st_getI (q := 65) 7 2 dX7_shadowUpper_62 fl_X7_21 (by decide) (by decide) rfl rfl (wfk w rfl) ?_
    refine st_i2l (q := 66) dX7_shadowUpper_65 rfl ?_
    refine st_iload_n (q := 67) dX7_shadowUpper_66 rfl rfl ?_
    refine st_i2l (q := 68) dX7_shadowUpper_67 rfl ?_
    first | refine n_lmul (q := 69) dX7_shadowUpper_68 rfl ⟨by omega, by omega⟩ ?_ | refine st_lmul (q := 69) dX7_shadowUpper_68 rfl ?_
    refine rt_l dX7_shadowUpper_69 rfl ?_
    refine pq hP ?_ rfl
    unfold shU
    (repeat' split) <;> first | rfl | omega
theorem st_gs {d : Nat} {h : JH} {P : Int → JH → Prop} {x1 x2 : Int} {a b k : Nat} {j : JV} (hb : b ≠ 0) (hk : k < 200) (K : JAt k0 d jX11_greatestShared 9 [vl x1, vn, vl x2, vn, vl b, vn, vl (a % b : Nat), vn, vi (k + 1 : Nat), vl (a % b : Nat), vn] [] h (jql P)) : JAt k0 d jX11_greatestShared 9 [vl x1, vn, vl x2, vn, vl a, vn, vl b, vn, vi k, j, vn] [] h (jql P) := by
  refine st_iload (q := 11) dX11_greatestShared_9 rfl rfl ?_
  refine st_sipush (q := 14) dX11_greatestShared_11 ⟨by decide, by decide⟩ rfl ?_
  refine st_icmp_ge (q := 17) (tgt := 45) dX11_greatestShared_14 (by decide) rfl (fun c14 => ?_) (fun c14 => ?_)
  · refine st_lload (q := 47) dX11_greatestShared_45 rfl rfl ?_
    refine rt_l dX11_greatestShared_47 rfl ?_
    exfalso; omega
  · refine st_lload (q := 19) dX11_greatestShared_17 rfl rfl ?_
    refine st_lconst (q := 20) (x := 0) dX11_greatestShared_19 ⟨by decide, by decide, by decide⟩ rfl ?_
    refine st_lif_eq (p2 := 21) (q := 24) (tgt := 45) dX11_greatestShared_20 rfl dX11_greatestShared_21 (by decide) rfl (fun c21 => ?_) (fun c21 => ?_)
    · refine st_lload (q := 47) dX11_greatestShared_45 rfl rfl ?_
      refine rt_l dX11_greatestShared_47 rfl ?_
      exfalso; omega
    · refine st_lload (q := 26) dX11_greatestShared_24 rfl rfl ?_
      refine st_lload (q := 28) dX11_greatestShared_26 rfl rfl ?_
      refine st_lrem (q := 29) dX11_greatestShared_28 (by omega) rfl ?_
      refine st_lstore (q := 31) dX11_greatestShared_29 (by decide) rfl ?_
      refine st_lload (q := 33) dX11_greatestShared_31 rfl rfl ?_
      refine st_lstore (q := 35) dX11_greatestShared_33 (by decide) rfl ?_
      refine st_lload (q := 37) dX11_greatestShared_35 rfl rfl ?_
      refine st_lstore (q := 39) dX11_greatestShared_37 (by decide) rfl ?_
      first | refine n_iinc (q := 42) dX11_greatestShared_39 rfl (by decide) rfl ⟨by omega, by omega⟩ ?_ | refine st_iinc (q := 42) dX11_greatestShared_39 rfl (by decide) rfl ?_
      refine st_goto (q := 9) dX11_greatestShared_42 (by decide) ?_
      exact K
theorem en_gs {d : Nat} {h : JH} {P : Int → JH → Prop} {x1 x2 : Int} {a b k : Nat} {j : JV} (hb : b = 0) (hk : k < 200) (hP : P a h) : JAt k0 d jX11_greatestShared 9 [vl x1, vn, vl x2, vn, vl a, vn, vl b, vn, vi k, j, vn] [] h (jql P) := by
  refine st_iload (q := 11) dX11_greatestShared_9 rfl rfl ?_
  refine st_sipush (q := 14) dX11_greatestShared_11 ⟨by decide, by decide⟩ rfl ?_
  refine st_icmp_ge (q := 17) (tgt := 45) dX11_greatestShared_14 (by decide) rfl (fun c14 => ?_) (fun c14 => ?_)
  · refine st_lload (q := 47) dX11_greatestShared_45 rfl rfl ?_
    refine rt_l dX11_greatestShared_47 rfl ?_
    exact hP
  · refine st_lload (q := 19) dX11_greatestShared_17 rfl rfl ?_
    refine st_lconst (q := 20) (x := 0) dX11_greatestShared_19 ⟨by decide, by decide, by decide⟩ rfl ?_
    refine st_lif_eq (p2 := 21) (q := 24) (tgt := 45) dX11_greatestShared_20 rfl dX11_greatestShared_21 (by decide) rfl (fun c21 => ?_) (fun c21 => ?_)
    · refine st_lload (q := 47) dX11_greatestShared_45 rfl rfl ?_
      refine rt_l dX11_greatestShared_47 rfl ?_
      exact hP
    · refine st_lload (q := 26) dX11_greatestShared_24 rfl rfl ?_
      refine st_lload (q := 28) dX11_greatestShared_26 rfl rfl ?_
      refine st_lrem (q := 29) dX11_greatestShared_28 (by omega) rfl ?_
      refine st_lstore (q := 31) dX11_greatestShared_29 (by decide) rfl ?_
      refine st_lload (q := 33) dX11_greatestShared_31 rfl rfl ?_
      refine st_lstore (q := 35) dX11_greatestShared_33 (by decide) rfl ?_
      refine st_lload (q := 37) dX11_greatestShared_35 rfl rfl ?_
      refine st_lstore (q := 39) dX11_greatestShared_37 (by decide) rfl ?_
      first | refine n_iinc (q := 42) dX11_greatestShared_39 rfl (by decide) rfl ⟨by omega, by omega⟩ ?_ | refine st_iinc (q := 42) dX11_greatestShared_39 rfl (by decide) rfl ?_
      refine st_goto (q := 9) dX11_greatestShared_42 (by decide) ?_
      exfalso; omega
theorem md2 {a b : Nat} (hb : b ≠ 0) (hr : a % b ≠ 0) : 2 * (b % (a % b)) < b := by
  have h1 : a % b < b := Nat.mod_lt _ (by omega)
  have h2 : b % (a % b) < a % b := Nat.mod_lt _ (by omega)
  have h3 : a % b + b % (a % b) ≤ b := by
    have e := Nat.div_add_mod b (a % b)
    have q : 1 ≤ b / (a % b) := (Nat.le_div_iff_mul_le (by omega)).mpr (by omega)
    have := Nat.mul_le_mul_left (a % b) q
    omega
  omega
theorem lp_gs {d : Nat} {h : JH} {P : Int → JH → Prop} {x1 x2 : Int} {g : Nat} (hP : P g h) : ∀ (n a b k : Nat) (j : JV), b < 2 ^ n → k + 2 * n + 1 ≤ 200 → Nat.gcd b a = g → JAt k0 d jX11_greatestShared 9 [vl x1, vn, vl x2, vn, vl a, vn, vl b, vn, vi k, j, vn] [] h (jql P)
  | 0, a, b, k, j, hb, hk, he => by
    have b0 : b = 0 := by rw [Nat.pow_zero] at hb; omega
    refine en_gs b0 (by omega) ?_
    rw [b0, Nat.gcd_zero_left] at he
    rw [he]; exact hP
  | n + 1, a, b, k, j, hb, hk, he => by
    by_cases b0 : b = 0
    · refine en_gs b0 (by omega) ?_
      rw [b0, Nat.gcd_zero_left] at he
      rw [he]; exact hP
    · refine st_gs b0 (by omega) ?_
      rw [Nat.gcd_rec] at he
      by_cases r0 : a % b = 0
      · refine en_gs r0 (by omega) ?_
        rw [r0, Nat.gcd_zero_left] at he
        rw [he]; exact hP
      · refine st_gs r0 (by omega) ?_
        rw [Nat.gcd_rec] at he
        have := md2 b0 r0
        rw [Nat.pow_succ] at hb
        exact lp_gs hP n _ _ _ _ (by omega) (by omega) he
theorem c_gs {d : Nat} {h : JH} {P : Int → JH → Prop} {a b : Nat} (hb : b < 16384) (hP : P (Nat.gcd b a : Nat) h) : JRl d jX11_greatestShared [vl a, vl b] h P := by
  refine JRet.of rfl (Nat.le_of_ble_eq_true rfl) ?_
  refine st_lload_n (q := 1) dX11_greatestShared_0 rfl rfl ?_
  refine st_lstore (q := 3) dX11_greatestShared_1 (by decide) rfl ?_
  refine st_lload_n (q := 4) dX11_greatestShared_3 rfl rfl ?_
  refine st_lstore (q := 6) dX11_greatestShared_4 (by decide) rfl ?_
  refine st_iconst (q := 7) dX11_greatestShared_6 ⟨by decide, by decide⟩ rfl ?_
  refine st_istore (q := 9) dX11_greatestShared_7 (by decide) rfl ?_
  exact lp_gs hP 14 a b 0 _ hb (by omega) rfl
def tfH (h : JH) (up low : Int) : JH := sJ (sJ h 0 12 (w64 (up.tdiv (Nat.gcd low.natAbs up.natAbs)))) 0 13 (w64 (low.tdiv (Nat.gcd low.natAbs up.natAbs)))
theorem c_X11_tellFraction {d : Nat} {h : JH} {P : JH → Prop} {up low : Int} (w : WF h) (hu : -1000000 < up ∧ up < 1000000) (hl : 0 < low ∧ low < 16384) (hP : P (tfH h up low)) : JRv (d + 1) jX11_tellFraction [vr 0, vl up, vl low] h P := by
  have hg : 0 < Nat.gcd low.natAbs up.natAbs := Nat.gcd_pos_of_pos_left _ (by omega)
  have e2 : low = (low.natAbs : Int) := by omega
  refine JRet.of rfl (Nat.le_of_ble_eq_true rfl) ?_
  refine st_lload_n (q := 1) dX11_tellFraction_0 rfl rfl ?_
  refine st_mabsl (q := 4) dX11_tellFraction_1 rfl ml_X11_405 (Nat.le_of_ble_eq_true rfl) (by omega) ?_
  refine st_lload_n (q := 5) dX11_tellFraction_4 rfl rfl ?_
  refine iS2l (q := 8) dX11_tellFraction_5 rfl ml_X11_410 ms_X11_greatestShared (Nat.le_of_ble_eq_true rfl) ?_
  rw [e2]
  refine c_gs (by omega) ?_
  rw [← e2]
  refine st_lstore (q := 10) dX11_tellFraction_8 (by decide) rfl ?_
  refine st_lload (q := 12) dX11_tellFraction_10 rfl rfl ?_
  refine st_lconst (q := 13) (x := 0) dX11_tellFraction_12 ⟨by decide, by decide, by decide⟩ rfl ?_
  refine st_lif_le (p2 := 14) (q := 17) (tgt := 33) dX11_tellFraction_13 rfl dX11_tellFraction_14 (by decide) rfl (fun c14 => ?_) (fun c14 => ?_)
  · refine rt_v dX11_tellFraction_33 rfl ?_
    first | exact hP | (exfalso; omega)
  · refine st_aload_n (q := 18) dX11_tellFraction_17 rfl rfl ?_
    refine st_lload_n (q := 19) dX11_tellFraction_18 rfl rfl ?_
    refine st_lload (q := 21) dX11_tellFraction_19 rfl rfl ?_
    refine st_ldiv (q := 22) dX11_tellFraction_21 (by omega) rfl ?_
    refine st_putJ (q := 25) 11 12 dX11_tellFraction_22 fl_X11_78 (by decide) (by decide) (Or.inl rfl) rfl rfl (wfk w rfl) ?_
    refine st_aload_n (q := 26) dX11_tellFraction_25 rfl rfl ?_
    refine st_lload_n (q := 27) dX11_tellFraction_26 rfl rfl ?_
    refine st_lload (q := 29) dX11_tellFraction_27 rfl rfl ?_
    refine st_ldiv (q := 30) dX11_tellFraction_29 (by omega) rfl ?_
    refine st_putJ (q := 33) 11 13 dX11_tellFraction_30 fl_X11_82 (by decide) (by decide) (Or.inl rfl) rfl rfl (wfk w rfl) ?_
    refine rt_v dX11_tellFraction_33 rfl ?_
    first | exact hP | (exfalso; omega)
theorem c_X11_shadow {d : Nat} {h : JH} {P : Int → JH → Prop} {u : HD} {k z x what : Int} (w : WF h) (hx : HX h u) (o : uOk u) (hL : 2 ≤ hI h 3 1 ∧ hI h 3 1 ≤ 60) (hG : 0 ≤ hI h 3 2 ∧ hI h 3 2 ≤ 9) (h1 : ¬ (0 ≤ k ∧ k ≤ 7) ∨ ¬ ((0 ≤ z ∧ z < hI h 3 1) ∧ (-99 ≤ x ∧ x ≤ 99)) ∨ ¬ (0 ≤ what ∧ what ≤ 3) → P (-1) h) (h2 : 0 ≤ k ∧ k ≤ 7 → (0 ≤ z ∧ z < hI h 3 1) ∧ (-99 ≤ x ∧ x ≤ 99) → 0 ≤ what ∧ what ≤ 3 → uO u k.toNat = 0 → P (-3) (fnH h 1)) (h3 : 0 ≤ k ∧ k ≤ 7 → (0 ≤ z ∧ z < hI h 3 1) ∧ (-99 ≤ x ∧ x ≤ 99) → 0 ≤ what ∧ what ≤ 3 → uO u k.toNat ≠ 0 → P 1 (tfH h (shU u (hI h 3 1) (hI h 3 2) k.toNat z x what) (hI h 3 1 - z))) : JRi (d + 4) jX11_shadow [vr 0, vi k, vi z, vi x, vi what] h P := by
  refine JRet.of rfl (Nat.le_of_ble_eq_true rfl) ?_
  refine st_aload_n (q := 1) dX11_shadow_0 rfl rfl ?_
  refine st_getR (q := 4) 11 2 dX11_shadow_1 fl_X11_21 (by decide) (by decide) rfl rfl (wfk w rfl) (wfR w rfl) ?_
  refine st_iload_n (q := 5) dX11_shadow_4 rfl rfl ?_
  refine st_iload_n (q := 6) dX11_shadow_5 rfl rfl ?_
  refine iV2i (q := 9) dX11_shadow_6 rfl ml_X11_178 mv_X7_canHold (Nat.le_of_ble_eq_true rfl) (wfk w rfl) ?_
  refine c_X7_canHold w ?_
  refine st_if_eq (q := 12) (tgt := 21) dX11_shadow_9 (by decide) rfl (fun c9 => ?_) (fun c9 => ?_)
  · refine st_iconst (q := 22) dX11_shadow_21 ⟨by decide, by decide⟩ rfl ?_
    refine rt_i dX11_shadow_22 rfl ?_
    first | exact h1 (by omega) | exact h2 (by omega) (by omega) (by omega) (by omega) | exact h3 (by omega) (by omega) (by omega) (by omega)
  · refine st_iload (q := 14) dX11_shadow_12 rfl rfl ?_
    refine st_iconst (q := 15) dX11_shadow_14 ⟨by decide, by decide⟩ rfl ?_
    refine iS2i (q := 18) dX11_shadow_15 rfl ml_X11_86 ms_X11_isNone (Nat.le_of_ble_eq_true rfl) ?_
    refine c_X11_isNone ?_
    refine st_if_eq (q := 21) (tgt := 23) dX11_shadow_18 (by decide) rfl (fun c18 => ?_) (fun c18 => ?_)
    · refine st_aload_n (q := 24) dX11_shadow_23 rfl rfl ?_
      refine st_iload_n (q := 25) dX11_shadow_24 rfl rfl ?_
      refine iV1i (q := 28) dX11_shadow_25 rfl ml_X11_162 mv_X11_refusesHide (Nat.le_of_ble_eq_true rfl) (wfk w rfl) ?_
      refine c_X11_refusesHide w hx (fun a1 => ?_) (fun a1 a2 => ?_) (fun a1 a2 => ?_)
      · refine st_istore (q := 30) dX11_shadow_28 (by decide) rfl ?_
        refine st_iload (q := 32) dX11_shadow_30 rfl rfl ?_
        refine st_if_eq (q := 35) (tgt := 38) dX11_shadow_32 (by decide) rfl (fun z => absurd z (by decide)) (fun _ => ?_)
        refine st_iload (q := 37) dX11_shadow_35 rfl rfl ?_
        refine rt_i dX11_shadow_37 rfl ?_
        first | exact h1 (by omega) | exact h2 (by omega) (by omega) (by omega) (by omega) | exact h3 (by omega) (by omega) (by omega) (by omega)
      · refine st_istore (q := 30) dX11_shadow_28 (by decide) rfl ?_
        refine st_iload (q := 32) dX11_shadow_30 rfl rfl ?_
        refine st_if_eq (q := 35) (tgt := 38) dX11_shadow_32 (by decide) rfl (fun z => absurd z (by decide)) (fun _ => ?_)
        refine st_iload (q := 37) dX11_shadow_35 rfl rfl ?_
        refine rt_i dX11_shadow_37 rfl ?_
        first | exact h1 (by omega) | exact h2 (by omega) (by omega) (by omega) (by omega) | exact h3 (by omega) (by omega) (by omega) (by omega)
      · refine st_istore (q := 30) dX11_shadow_28 (by decide) rfl ?_
        refine st_iload (q := 32) dX11_shadow_30 rfl rfl ?_
        refine st_if_eq (q := 35) (tgt := 38) dX11_shadow_32 (by decide) rfl (fun _ => ?_) (fun z => absurd z (by decide))
        refine st_aload_n (q := 39) dX11_shadow_38 rfl rfl ?_
        refine st_aload_n (q := 40) dX11_shadow_39 rfl rfl ?_
        refine st_getR (q := 43) 11 2 dX11_shadow_40 fl_X11_21 (by decide) (by decide) rfl rfl (wfk w rfl) (wfR w rfl) ?_
        refine st_aload_n (q := 44) dX11_shadow_43 rfl rfl ?_
        refine st_getR (q := 47) 11 2 dX11_shadow_44 fl_X11_21 (by decide) (by decide) rfl rfl (wfk w rfl) (wfR w rfl) ?_
        refine st_getR (q := 50) 7 0 dX11_shadow_47 fl_X11_147 (by decide) (by decide) rfl rfl (wfk w rfl) (wfR w rfl) ?_
        refine st_iload_n (q := 51) dX11_shadow_50 rfl rfl ?_
        refine st_aaload (q := 52) (t := 3) dX11_shadow_51 rfl ⟨by decide, by decide⟩ (wfk w rfl) (wfb w (n := 8) rfl ⟨by omega, by omega⟩) (xhide w (by omega)) ?_
        refine st_iload_n (q := 53) dX11_shadow_52 rfl rfl ?_
        refine st_iload_n (q := 54) dX11_shadow_53 rfl rfl ?_
        refine st_iload (q := 56) dX11_shadow_54 rfl rfl ?_
        refine iV4l (q := 59) dX11_shadow_56 rfl ml_X11_181 mv_X7_shadowUpper (Nat.le_of_ble_eq_true rfl) (wfk w rfl) ?_
        refine c_X7_shadowUpper w hx o (by omega) a2 hL hG (by omega) (by omega) ?_
        refine st_aload_n (q := 60) dX11_shadow_59 rfl rfl ?_
        refine st_getR (q := 63) 11 2 dX11_shadow_60 fl_X11_21 (by decide) (by decide) rfl rfl (wfk w rfl) (wfR w rfl) ?_
        refine st_getI (q := 66) 7 1 dX11_shadow_63 fl_X11_169 (by decide) (by decide) rfl rfl (wfk w rfl) ?_
        refine st_iload_n (q := 67) dX11_shadow_66 rfl rfl ?_
        first | refine n_isub (q := 68) dX11_shadow_67 rfl ⟨by omega, by omega⟩ ?_ | refine st_isub (q := 68) dX11_shadow_67 rfl ?_
        refine st_i2l (q := 69) dX11_shadow_68 rfl ?_
        refine iV2v (q := 72) dX11_shadow_69 rfl ml_X11_185 mv_X11_tellFraction (Nat.le_of_ble_eq_true rfl) (wfk w rfl) ?_
        refine c_X11_tellFraction w ?_ (by omega) ?_
        · have o2 := o k.toNat (by omega)
          have p1 := mul_b (A := 60) (show 0 ≤ ((uW u k.toNat : Nat) : Int) by omega) (by omega) (show 0 ≤ hI h 3 1 by omega) hL.2
          have p2 := mul_b (A := 60) (show 0 ≤ ((uH u k.toNat : Nat) : Int) by omega) (by omega) (show 0 ≤ hI h 3 1 by omega) hL.2
          have p3 := mul_b2 (A := 99) (show -99 ≤ x by omega) (show x ≤ 99 by omega) (show 0 ≤ hI h 3 1 by omega) hL.2
          have p4 := mul_b (B := 60) hG.1 hG.2 (show 0 ≤ z by omega) (show z ≤ 60 by omega)
          unfold shU
          (repeat' split) <;> omega
        refine st_iconst (q := 73) dX11_shadow_72 ⟨by decide, by decide⟩ rfl ?_
        refine rt_i dX11_shadow_73 rfl ?_
        first | exact h1 (by omega) | exact h2 (by omega) (by omega) (by omega) (by omega) | exact h3 (by omega) (by omega) (by omega) (by omega)
    · refine st_iconst (q := 22) dX11_shadow_21 ⟨by decide, by decide⟩ rfl ?_
      refine rt_i dX11_shadow_22 rfl ?_
      first | exact h1 (by omega) | exact h2 (by omega) (by omega) (by omega) (by omega) | exact h3 (by omega) (by omega) (by omega) (by omega)
def cvU (u : HD) (L : Int) (k z x o v y : Int) : Int := if w32 ((2 * x - uW u k.toNat) * (L - v)) ≤ w32 ((2 * y - uW u o.toNat) * (L - z)) ∧ w32 ((2 * y + uW u o.toNat) * (L - z)) ≤ w32 ((2 * x + uW u k.toNat) * (L - v)) then 1 else 0
theorem c_X11_covers {d : Nat} {h : JH} {P : Int → JH → Prop} {u : HD} {k z x o v y : Int} (w : WF h) (hx : HX h u) (ok : uOk u) (hL : 2 ≤ hI h 3 1 ∧ hI h 3 1 ≤ 60) (h1 : ¬ ((0 ≤ k ∧ k ≤ 7) ∧ (0 ≤ o ∧ o ≤ 7) ∧ ((0 ≤ z ∧ z < hI h 3 1) ∧ (-99 ≤ x ∧ x ≤ 99)) ∧ ((0 ≤ v ∧ v < hI h 3 1) ∧ (-99 ≤ y ∧ y ≤ 99))) → P (-1) h) (h2 : (0 ≤ k ∧ k ≤ 7) ∧ (0 ≤ o ∧ o ≤ 7) ∧ ((0 ≤ z ∧ z < hI h 3 1) ∧ (-99 ≤ x ∧ x ≤ 99)) ∧ ((0 ≤ v ∧ v < hI h 3 1) ∧ (-99 ≤ y ∧ y ≤ 99)) → uO u k.toNat = 0 ∨ uO u o.toNat = 0 → P (-3) (fnH h 1)) (h3 : (0 ≤ k ∧ k ≤ 7) ∧ (0 ≤ o ∧ o ≤ 7) ∧ ((0 ≤ z ∧ z < hI h 3 1) ∧ (-99 ≤ x ∧ x ≤ 99)) ∧ ((0 ≤ v ∧ v < hI h 3 1) ∧ (-99 ≤ y ∧ y ≤ 99)) → uO u k.toNat ≠ 0 → uO u o.toNat ≠ 0 → P (cvU u (hI h 3 1) k z x o v y) h) : JRi (d + 4) jX11_covers [vr 0, vi k, vi z, vi x, vi o, vi v, vi y] h P := by
  refine JRet.of rfl (Nat.le_of_ble_eq_true rfl) ?_
  refine st_aload_n (q := 1) dX11_covers_0 rfl rfl ?_
  refine st_getR (q := 4) 11 2 dX11_covers_1 fl_X11_21 (by decide) (by decide) rfl rfl (wfk w rfl) (wfR w rfl) ?_
  refine st_iload_n (q := 5) dX11_covers_4 rfl rfl ?_
  refine st_iload_n (q := 6) dX11_covers_5 rfl rfl ?_
  refine iV2i (q := 9) dX11_covers_6 rfl ml_X11_178 mv_X7_canHold (Nat.le_of_ble_eq_true rfl) (wfk w rfl) ?_
  refine c_X7_canHold w ?_
  refine st_if_eq (q := 12) (tgt := 26) dX11_covers_9 (by decide) rfl (fun c9 => ?_) (fun c9 => ?_)
  · refine st_iconst (q := 27) dX11_covers_26 ⟨by decide, by decide⟩ rfl ?_
    refine rt_i dX11_covers_27 rfl ?_
    first | exact h1 (by omega) | exact h2 (by omega) (by omega) | exact pq (h3 (by omega) (by omega) (by omega)) (by unfold cvU; (repeat' split) <;> omega) rfl
  · refine st_aload_n (q := 13) dX11_covers_12 rfl rfl ?_
    refine st_getR (q := 16) 11 2 dX11_covers_13 fl_X11_21 (by decide) (by decide) rfl rfl (wfk w rfl) (wfR w rfl) ?_
    refine st_iload (q := 18) dX11_covers_16 rfl rfl ?_
    refine st_iload (q := 20) dX11_covers_18 rfl rfl ?_
    refine iV2i (q := 23) dX11_covers_20 rfl ml_X11_178 mv_X7_canHold (Nat.le_of_ble_eq_true rfl) (wfk w rfl) ?_
    refine c_X7_canHold w ?_
    refine st_if_ne (q := 26) (tgt := 28) dX11_covers_23 (by decide) rfl (fun c23 => ?_) (fun c23 => ?_)
    · refine st_aload_n (q := 29) dX11_covers_28 rfl rfl ?_
      refine st_iload_n (q := 30) dX11_covers_29 rfl rfl ?_
      refine st_iload (q := 32) dX11_covers_30 rfl rfl ?_
      refine iV2i (q := 35) dX11_covers_32 rfl ml_X11_189 mv_X11_refusesHides (Nat.le_of_ble_eq_true rfl) (wfk w rfl) ?_
      refine c_X11_refusesHides w hx (fun a1 => ?_) (fun a1 a2 => ?_) (fun a1 a2 a3 => ?_)
      · refine st_istore (q := 37) dX11_covers_35 (by decide) rfl ?_
        refine st_iload (q := 39) dX11_covers_37 rfl rfl ?_
        refine st_if_eq (q := 42) (tgt := 45) dX11_covers_39 (by decide) rfl (fun z => absurd z (by decide)) (fun _ => ?_)
        refine st_iload (q := 44) dX11_covers_42 rfl rfl ?_
        refine rt_i dX11_covers_44 rfl ?_
        first | exact h1 (by omega) | exact h2 (by omega) (by omega) | exact pq (h3 (by omega) (by omega) (by omega)) (by unfold cvU; (repeat' split) <;> omega) rfl
      · refine st_istore (q := 37) dX11_covers_35 (by decide) rfl ?_
        refine st_iload (q := 39) dX11_covers_37 rfl rfl ?_
        refine st_if_eq (q := 42) (tgt := 45) dX11_covers_39 (by decide) rfl (fun z => absurd z (by decide)) (fun _ => ?_)
        refine st_iload (q := 44) dX11_covers_42 rfl rfl ?_
        refine rt_i dX11_covers_44 rfl ?_
        first | exact h1 (by omega) | exact h2 (by omega) (by omega) | exact pq (h3 (by omega) (by omega) (by omega)) (by unfold cvU; (repeat' split) <;> omega) rfl
      · refine st_istore (q := 37) dX11_covers_35 (by decide) rfl ?_
        refine st_iload (q := 39) dX11_covers_37 rfl rfl ?_
        refine st_if_eq (q := 42) (tgt := 45) dX11_covers_39 (by decide) rfl (fun _ => ?_) (fun z => absurd z (by decide))
        refine st_aload_n (q := 46) dX11_covers_45 rfl rfl ?_
        refine st_getR (q := 49) 11 2 dX11_covers_46 fl_X11_21 (by decide) (by decide) rfl rfl (wfk w rfl) (wfR w rfl) ?_
        refine st_getR (q := 52) 7 0 dX11_covers_49 fl_X11_147 (by decide) (by decide) rfl rfl (wfk w rfl) (wfR w rfl) ?_
        refine st_iload_n (q := 53) dX11_covers_52 rfl rfl ?_
        refine st_aaload (q := 54) (t := 3) dX11_covers_53 rfl ⟨by decide, by decide⟩ (wfk w rfl) (wfb w (n := 8) rfl ⟨by omega, by omega⟩) (xhide w (by omega)) ?_
        refine st_getI (q := 57) 2 1 dX11_covers_54 fl_X11_193 (by decide) (by decide) rfl rfl (xhk w (by omega)) ?_
        have q1 := (ok k.toNat (by omega)).1
        have q2 := (ok o.toNat (by omega)).1
        refine j_top _ ((hx k.toNat (by omega)).2 a2).1 ?_
        refine st_istore (q := 59) dX11_covers_57 (by decide) rfl ?_
        refine st_aload_n (q := 60) dX11_covers_59 rfl rfl ?_
        refine st_getR (q := 63) 11 2 dX11_covers_60 fl_X11_21 (by decide) (by decide) rfl rfl (wfk w rfl) (wfR w rfl) ?_
        refine st_getR (q := 66) 7 0 dX11_covers_63 fl_X11_147 (by decide) (by decide) rfl rfl (wfk w rfl) (wfR w rfl) ?_
        refine st_iload (q := 68) dX11_covers_66 rfl rfl ?_
        refine st_aaload (q := 69) (t := 3) dX11_covers_68 rfl ⟨by decide, by decide⟩ (wfk w rfl) (wfb w (n := 8) rfl ⟨by omega, by omega⟩) (xhide w (by omega)) ?_
        refine st_getI (q := 72) 2 1 dX11_covers_69 fl_X11_193 (by decide) (by decide) rfl rfl (xhk w (by omega)) ?_
        refine j_top _ ((hx o.toNat (by omega)).2 a3).1 ?_
        refine st_istore (q := 74) dX11_covers_72 (by decide) rfl ?_
        refine st_aload_n (q := 75) dX11_covers_74 rfl rfl ?_
        refine st_getR (q := 78) 11 2 dX11_covers_75 fl_X11_21 (by decide) (by decide) rfl rfl (wfk w rfl) (wfR w rfl) ?_
        refine st_getI (q := 81) 7 1 dX11_covers_78 fl_X11_169 (by decide) (by decide) rfl rfl (wfk w rfl) ?_
        refine st_iload (q := 83) dX11_covers_81 rfl rfl ?_
        first | refine n_isub (q := 84) dX11_covers_83 rfl ⟨by omega, by omega⟩ ?_ | refine st_isub (q := 84) dX11_covers_83 rfl ?_
        refine st_istore (q := 86) dX11_covers_84 (by decide) rfl ?_
        refine st_aload_n (q := 87) dX11_covers_86 rfl rfl ?_
        refine st_getR (q := 90) 11 2 dX11_covers_87 fl_X11_21 (by decide) (by decide) rfl rfl (wfk w rfl) (wfR w rfl) ?_
        refine st_getI (q := 93) 7 1 dX11_covers_90 fl_X11_169 (by decide) (by decide) rfl rfl (wfk w rfl) ?_
        refine st_iload_n (q := 94) dX11_covers_93 rfl rfl ?_
        first | refine n_isub (q := 95) dX11_covers_94 rfl ⟨by omega, by omega⟩ ?_ | refine st_isub (q := 95) dX11_covers_94 rfl ?_
        refine st_istore (q := 97) dX11_covers_95 (by decide) rfl ?_
        refine st_iconst (q := 98) dX11_covers_97 ⟨by decide, by decide⟩ rfl ?_
        refine st_iload_n (q := 99) dX11_covers_98 rfl rfl ?_
        first | refine n_imul (q := 100) dX11_covers_99 rfl ⟨by omega, by omega⟩ ?_ | refine st_imul (q := 100) dX11_covers_99 rfl ?_
        refine st_iload (q := 102) dX11_covers_100 rfl rfl ?_
        first | refine n_isub (q := 103) dX11_covers_102 rfl ⟨by omega, by omega⟩ ?_ | refine st_isub (q := 103) dX11_covers_102 rfl ?_
        refine st_iload (q := 105) dX11_covers_103 rfl rfl ?_
        first | refine n_imul (q := 106) dX11_covers_105 rfl ⟨by omega, by omega⟩ ?_ | refine st_imul (q := 106) dX11_covers_105 rfl ?_
        refine st_iconst (q := 107) dX11_covers_106 ⟨by decide, by decide⟩ rfl ?_
        refine st_iload (q := 109) dX11_covers_107 rfl rfl ?_
        first | refine n_imul (q := 110) dX11_covers_109 rfl ⟨by omega, by omega⟩ ?_ | refine st_imul (q := 110) dX11_covers_109 rfl ?_
        refine st_iload (q := 112) dX11_covers_110 rfl rfl ?_
        first | refine n_isub (q := 113) dX11_covers_112 rfl ⟨by omega, by omega⟩ ?_ | refine st_isub (q := 113) dX11_covers_112 rfl ?_
        refine st_iload (q := 115) dX11_covers_113 rfl rfl ?_
        first | refine n_imul (q := 116) dX11_covers_115 rfl ⟨by omega, by omega⟩ ?_ | refine st_imul (q := 116) dX11_covers_115 rfl ?_
        apply j_mg 124
        · intro K1 K2
          refine st_icmp_gt (q := 119) (tgt := 123) dX11_covers_116 (by decide) rfl (fun c116 => ?_) (fun c116 => ?_)
          · refine st_iconst (q := 124) dX11_covers_123 ⟨by decide, by decide⟩ rfl ?_
            exact K1 c116
          · refine st_iconst (q := 120) dX11_covers_119 ⟨by decide, by decide⟩ rfl ?_
            refine st_goto (q := 124) dX11_covers_120 (by decide) ?_
            exact K2 c116
        · simp only [jif_if]
          refine st_istore (q := 126) dX11_covers_124 (by decide) rfl ?_
          refine st_iconst (q := 127) dX11_covers_126 ⟨by decide, by decide⟩ rfl ?_
          refine st_iload_n (q := 128) dX11_covers_127 rfl rfl ?_
          first | refine n_imul (q := 129) dX11_covers_128 rfl ⟨by omega, by omega⟩ ?_ | refine st_imul (q := 129) dX11_covers_128 rfl ?_
          refine st_iload (q := 131) dX11_covers_129 rfl rfl ?_
          first | refine n_iadd (q := 132) dX11_covers_131 rfl ⟨by omega, by omega⟩ ?_ | refine st_iadd (q := 132) dX11_covers_131 rfl ?_
          refine st_iload (q := 134) dX11_covers_132 rfl rfl ?_
          first | refine n_imul (q := 135) dX11_covers_134 rfl ⟨by omega, by omega⟩ ?_ | refine st_imul (q := 135) dX11_covers_134 rfl ?_
          refine st_iconst (q := 136) dX11_covers_135 ⟨by decide, by decide⟩ rfl ?_
          refine st_iload (q := 138) dX11_covers_136 rfl rfl ?_
          first | refine n_imul (q := 139) dX11_covers_138 rfl ⟨by omega, by omega⟩ ?_ | refine st_imul (q := 139) dX11_covers_138 rfl ?_
          refine st_iload (q := 141) dX11_covers_139 rfl rfl ?_
          first | refine n_iadd (q := 142) dX11_covers_141 rfl ⟨by omega, by omega⟩ ?_ | refine st_iadd (q := 142) dX11_covers_141 rfl ?_
          refine st_iload (q := 144) dX11_covers_142 rfl rfl ?_
          first | refine n_imul (q := 145) dX11_covers_144 rfl ⟨by omega, by omega⟩ ?_ | refine st_imul (q := 145) dX11_covers_144 rfl ?_
          apply j_mg 153
          · intro K3 K4
            refine st_icmp_lt (q := 148) (tgt := 152) dX11_covers_145 (by decide) rfl (fun c145 => ?_) (fun c145 => ?_)
            · refine st_iconst (q := 153) dX11_covers_152 ⟨by decide, by decide⟩ rfl ?_
              exact K3 c145
            · refine st_iconst (q := 149) dX11_covers_148 ⟨by decide, by decide⟩ rfl ?_
              refine st_goto (q := 153) dX11_covers_149 (by decide) ?_
              exact K4 c145
          · simp only [jif_if]
            refine st_istore (q := 155) dX11_covers_153 (by decide) rfl ?_
            refine st_iload (q := 157) dX11_covers_155 rfl rfl ?_
            apply j_mg 170
            · intro K5 K6
              refine st_if_eq (q := 160) (tgt := 169) dX11_covers_157 (by decide) rfl (fun c157 => ?_) (fun c157 => ?_)
              · refine st_iconst (q := 170) dX11_covers_169 ⟨by decide, by decide⟩ rfl ?_
                exact K5 c157
              · refine st_iload (q := 162) dX11_covers_160 rfl rfl ?_
                apply j_mg 170
                · intro K7 K8
                  refine st_if_eq (q := 165) (tgt := 169) dX11_covers_162 (by decide) rfl (fun c162 => ?_) (fun c162 => ?_)
                  · refine st_iconst (q := 170) dX11_covers_169 ⟨by decide, by decide⟩ rfl ?_
                    exact K7 c162
                  · refine st_iconst (q := 166) dX11_covers_165 ⟨by decide, by decide⟩ rfl ?_
                    refine st_goto (q := 170) dX11_covers_166 (by decide) ?_
                    exact K8 c162
                · simp only [jif_if]
                  exact K6 c157
            · simp only [jif_if]
              refine rt_i dX11_covers_170 rfl ?_
              first | exact h1 (by omega) | exact h2 (by omega) (by omega) | exact pq (h3 (by omega) (by omega) (by omega)) (by unfold cvU; (repeat' split) <;> omega) rfl
    · refine st_iconst (q := 27) dX11_covers_26 ⟨by decide, by decide⟩ rfl ?_
      refine rt_i dX11_covers_27 rfl ?_
      first | exact h1 (by omega) | exact h2 (by omega) (by omega) | exact pq (h3 (by omega) (by omega) (by omega)) (by unfold cvU; (repeat' split) <;> omega) rfl
theorem c_X11_place {d : Nat} {h : JH} {P : Int → JH → Prop} {u : HD} {k s : Int} (w : WF h) (hx : HX h u) (ok : uOk u) (hL : 2 ≤ hI h 3 1 ∧ hI h 3 1 ≤ 60) (h1 : ¬ ((0 ≤ k ∧ k ≤ 7) ∧ (1 ≤ s ∧ s ≤ 9999)) → P (-1) h) (h2 : (0 ≤ k ∧ k ≤ 7) ∧ (1 ≤ s ∧ s ≤ 9999) → uO u k.toNat = 0 → P (-3) (fnH h 1)) (h3 : (0 ≤ k ∧ k ≤ 7) ∧ (1 ≤ s ∧ s ≤ 9999) → uO u k.toNat ≠ 0 → s < uW u k.toNat → P (-9) h) (h4 : (0 ≤ k ∧ k ≤ 7) ∧ (1 ≤ s ∧ s ≤ 9999) → uO u k.toNat ≠ 0 → uW u k.toNat ≤ s → P (if hJ (tfH h (hI h 3 1 * (s - uW u k.toNat)) s) 0 13 = 1 then 1 else 0) (tfH h (hI h 3 1 * (s - uW u k.toNat)) s)) : JRi (d + 4) jX11_place [vr 0, vi k, vi s] h P := by
  refine JRet.of rfl (Nat.le_of_ble_eq_true rfl) ?_
  refine st_iload_n (q := 1) dX11_place_0 rfl rfl ?_
  refine st_iconst (q := 2) dX11_place_1 ⟨by decide, by decide⟩ rfl ?_
  refine st_sipush (q := 5) dX11_place_2 ⟨by decide, by decide⟩ rfl ?_
  refine iS3i (q := 8) dX11_place_5 rfl ml_X11_142 ms_X11_isWithin (Nat.le_of_ble_eq_true rfl) ?_
  refine c_X11_isWithin ?_
  refine st_if_ne (q := 11) (tgt := 13) dX11_place_8 (by decide) rfl (fun c8 => ?_) (fun c8 => ?_)
  · refine st_aload_n (q := 14) dX11_place_13 rfl rfl ?_
    refine st_iload_n (q := 15) dX11_place_14 rfl rfl ?_
    refine iV1i (q := 18) dX11_place_15 rfl ml_X11_162 mv_X11_refusesHide (Nat.le_of_ble_eq_true rfl) (wfk w rfl) ?_
    refine c_X11_refusesHide w hx (fun a1 => ?_) (fun a1 a2 => ?_) (fun a1 a2 => ?_)
    · refine st_istore_n (q := 19) (i := 3) dX11_place_18 rfl (by decide) rfl ?_
      refine st_iload_n (q := 20) dX11_place_19 rfl rfl ?_
      refine st_if_eq (q := 23) (tgt := 25) dX11_place_20 (by decide) rfl (fun z => absurd z (by decide)) (fun _ => ?_)
      refine st_iload_n (q := 24) dX11_place_23 rfl rfl ?_
      refine rt_i dX11_place_24 rfl ?_
      first | exact h1 (by omega) | exact h2 (by omega) (by omega) | exact h3 (by omega) (by omega) (by omega) | exact pq (h4 (by omega) (by omega) (by omega)) (by (repeat' split) <;> first | rfl | contradiction) rfl
    · refine st_istore_n (q := 19) (i := 3) dX11_place_18 rfl (by decide) rfl ?_
      refine st_iload_n (q := 20) dX11_place_19 rfl rfl ?_
      refine st_if_eq (q := 23) (tgt := 25) dX11_place_20 (by decide) rfl (fun z => absurd z (by decide)) (fun _ => ?_)
      refine st_iload_n (q := 24) dX11_place_23 rfl rfl ?_
      refine rt_i dX11_place_24 rfl ?_
      first | exact h1 (by omega) | exact h2 (by omega) (by omega) | exact h3 (by omega) (by omega) (by omega) | exact pq (h4 (by omega) (by omega) (by omega)) (by (repeat' split) <;> first | rfl | contradiction) rfl
    · refine st_istore_n (q := 19) (i := 3) dX11_place_18 rfl (by decide) rfl ?_
      refine st_iload_n (q := 20) dX11_place_19 rfl rfl ?_
      refine st_if_eq (q := 23) (tgt := 25) dX11_place_20 (by decide) rfl (fun _ => ?_) (fun z => absurd z (by decide))
      refine st_iload_n (q := 26) dX11_place_25 rfl rfl ?_
      refine st_aload_n (q := 27) dX11_place_26 rfl rfl ?_
      refine st_getR (q := 30) 11 2 dX11_place_27 fl_X11_21 (by decide) (by decide) rfl rfl (wfk w rfl) (wfR w rfl) ?_
      refine st_getR (q := 33) 7 0 dX11_place_30 fl_X11_147 (by decide) (by decide) rfl rfl (wfk w rfl) (wfR w rfl) ?_
      refine st_iload_n (q := 34) dX11_place_33 rfl rfl ?_
      refine st_aaload (q := 35) (t := 3) dX11_place_34 rfl ⟨by decide, by decide⟩ (wfk w rfl) (wfb w (n := 8) rfl ⟨by omega, by omega⟩) (xhide w (by omega)) ?_
      refine st_getI (q := 38) 2 1 dX11_place_35 fl_X11_193 (by decide) (by decide) rfl rfl (xhk w (by omega)) ?_
      have q1 := (ok k.toNat (by omega)).1
      refine j_top _ ((hx k.toNat (by omega)).2 a2).1 ?_
      first | refine n_isub (q := 39) dX11_place_38 rfl ⟨by omega, by omega⟩ ?_ | refine st_isub (q := 39) dX11_place_38 rfl ?_
      refine st_istore (q := 41) dX11_place_39 (by decide) rfl ?_
      refine st_iload (q := 43) dX11_place_41 rfl rfl ?_
      refine st_if_ge (q := 46) (tgt := 49) dX11_place_43 (by decide) rfl (fun c43 => ?_) (fun c43 => ?_)
      · refine st_aload_n (q := 50) dX11_place_49 rfl rfl ?_
        refine st_aload_n (q := 51) dX11_place_50 rfl rfl ?_
        refine st_getR (q := 54) 11 2 dX11_place_51 fl_X11_21 (by decide) (by decide) rfl rfl (wfk w rfl) (wfR w rfl) ?_
        refine st_getI (q := 57) 7 1 dX11_place_54 fl_X11_169 (by decide) (by decide) rfl rfl (wfk w rfl) ?_
        refine st_i2l (q := 58) dX11_place_57 rfl ?_
        refine st_iload (q := 60) dX11_place_58 rfl rfl ?_
        refine st_i2l (q := 61) dX11_place_60 rfl ?_
        have p1 := mul_b (B := 9999) (show 0 ≤ hI h 3 1 by omega) hL.2 (show 0 ≤ s - uW u k.toNat by omega) (show s - uW u k.toNat ≤ 9999 by omega)
        first | refine n_lmul (q := 62) dX11_place_61 rfl ⟨by omega, by omega⟩ ?_ | refine st_lmul (q := 62) dX11_place_61 rfl ?_
        refine st_iload_n (q := 63) dX11_place_62 rfl rfl ?_
        refine st_i2l (q := 64) dX11_place_63 rfl ?_
        refine iV2v (q := 67) dX11_place_64 rfl ml_X11_185 mv_X11_tellFraction (Nat.le_of_ble_eq_true rfl) (wfk w rfl) ?_
        refine c_X11_tellFraction w (by omega) (by omega) ?_
        refine st_aload_n (q := 68) dX11_place_67 rfl rfl ?_
        refine st_getJ (q := 71) 11 13 dX11_place_68 fl_X11_82 (by decide) (by decide) rfl rfl (wfk w rfl) ?_
        refine st_lconst (q := 72) (x := 1) dX11_place_71 ⟨by decide, by decide, by decide⟩ rfl ?_
        refine st_lif_ne (p2 := 73) (q := 76) (tgt := 80) dX11_place_72 rfl dX11_place_73 (by decide) rfl (fun c73 => ?_) (fun c73 => ?_)
        · refine st_iconst (q := 81) dX11_place_80 ⟨by decide, by decide⟩ rfl ?_
          refine rt_i dX11_place_81 rfl ?_
          first | exact h1 (by omega) | exact h2 (by omega) (by omega) | exact h3 (by omega) (by omega) (by omega) | exact pq (h4 (by omega) (by omega) (by omega)) (by (repeat' split) <;> first | rfl | contradiction) rfl
        · refine st_iconst (q := 77) dX11_place_76 ⟨by decide, by decide⟩ rfl ?_
          refine st_goto (q := 81) dX11_place_77 (by decide) ?_
          refine rt_i dX11_place_81 rfl ?_
          first | exact h1 (by omega) | exact h2 (by omega) (by omega) | exact h3 (by omega) (by omega) (by omega) | exact pq (h4 (by omega) (by omega) (by omega)) (by (repeat' split) <;> first | rfl | contradiction) rfl
      · refine st_bipush (q := 48) dX11_place_46 ⟨by decide, by decide⟩ rfl ?_
        refine rt_i dX11_place_48 rfl ?_
        first | exact h1 (by omega) | exact h2 (by omega) (by omega) | exact h3 (by omega) (by omega) (by omega) | exact pq (h4 (by omega) (by omega) (by omega)) (by (repeat' split) <;> first | rfl | contradiction) rfl
  · refine st_iconst (q := 12) dX11_place_11 ⟨by decide, by decide⟩ rfl ?_
    refine rt_i dX11_place_12 rfl ?_
    first | exact h1 (by omega) | exact h2 (by omega) (by omega) | exact h3 (by omega) (by omega) (by omega) | exact pq (h4 (by omega) (by omega) (by omega)) (by (repeat' split) <;> first | rfl | contradiction) rfl

