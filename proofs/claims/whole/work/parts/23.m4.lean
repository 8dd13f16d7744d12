/-! the model: about, shadow, covers, place -/
def aboutF (h : JH) (k what : Int) : Int := if what = 0 then hI h 124 k.toNat else if what = 1 then hI h 125 k.toNat else if what = 2 then hI h 126 k.toNat else (tnN (hI h 126 k.toNat).toNat 16 : Nat)
theorem c_X12_aboutOf {d : Nat} {h : JH} {P : Int → JH → Prop} {k what : Int} (w : WF h) (hk : 0 ≤ k ∧ k ≤ 7) (ho : 0 ≤ hI h 126 k.toNat ∧ hI h 126 k.toNat ≤ 65535) (hP : P (aboutF h k what) h) : JRi (d + 2) jX12_aboutOf [vr 117, vi k, vi what] h P := by
  have eo : hI h 126 k.toNat = ((hI h 126 k.toNat).toNat : Int) := by omega
  refine JRet.of rfl (Nat.le_of_ble_eq_true rfl) ?_
  refine st_iload_n (q := 1) dX12_aboutOf_0 rfl rfl ?_
  refine st_if_ne (q := 4) (tgt := 13) dX12_aboutOf_1 (by decide) rfl (fun c1 => ?_) (fun c1 => ?_)
  · refine st_iload_n (q := 14) dX12_aboutOf_13 rfl rfl ?_
    refine st_iconst (q := 15) dX12_aboutOf_14 ⟨by decide, by decide⟩ rfl ?_
    refine st_icmp_ne (q := 18) (tgt := 27) dX12_aboutOf_15 (by decide) rfl (fun c15 => ?_) (fun c15 => ?_)
    · refine st_iload_n (q := 28) dX12_aboutOf_27 rfl rfl ?_
      refine st_iconst (q := 29) dX12_aboutOf_28 ⟨by decide, by decide⟩ rfl ?_
      refine st_icmp_ne (q := 32) (tgt := 41) dX12_aboutOf_29 (by decide) rfl (fun c29 => ?_) (fun c29 => ?_)
      · refine st_aload_n (q := 42) dX12_aboutOf_41 rfl rfl ?_
        refine st_getR (q := 45) 12 12 dX12_aboutOf_42 fl_X12_38 (by decide) (by decide) rfl rfl (wfk w rfl) (wfR w rfl) ?_
        refine st_iload_n (q := 46) dX12_aboutOf_45 rfl rfl ?_
        refine st_iaload (q := 47) dX12_aboutOf_46 rfl (wfk w rfl) (wfb w (n := 8) rfl ⟨by omega, by omega⟩) ?_
        refine iS1i (q := 50) dX12_aboutOf_47 rfl ml_X12_178 ms_X12_turned (Nat.le_of_ble_eq_true rfl) ?_
        rw [eo]
        refine c_X12_turned (by omega) ?_
        refine rt_i dX12_aboutOf_50 rfl ?_
        refine pq hP ?_ rfl
        unfold aboutF
        (repeat' split) <;> first | rfl | omega
      · refine st_aload_n (q := 33) dX12_aboutOf_32 rfl rfl ?_
        refine st_getR (q := 36) 12 12 dX12_aboutOf_33 fl_X12_38 (by decide) (by decide) rfl rfl (wfk w rfl) (wfR w rfl) ?_
        refine st_iload_n (q := 37) dX12_aboutOf_36 rfl rfl ?_
        refine st_iaload (q := 38) dX12_aboutOf_37 rfl (wfk w rfl) (wfb w (n := 8) rfl ⟨by omega, by omega⟩) ?_
        refine st_goto (q := 50) dX12_aboutOf_38 (by decide) ?_
        refine rt_i dX12_aboutOf_50 rfl ?_
        refine pq hP ?_ rfl
        unfold aboutF
        (repeat' split) <;> first | rfl | omega
    · refine st_aload_n (q := 19) dX12_aboutOf_18 rfl rfl ?_
      refine st_getR (q := 22) 12 11 dX12_aboutOf_19 fl_X12_35 (by decide) (by decide) rfl rfl (wfk w rfl) (wfR w rfl) ?_
      refine st_iload_n (q := 23) dX12_aboutOf_22 rfl rfl ?_
      refine st_iaload (q := 24) dX12_aboutOf_23 rfl (wfk w rfl) (wfb w (n := 8) rfl ⟨by omega, by omega⟩) ?_
      refine st_goto (q := 50) dX12_aboutOf_24 (by decide) ?_
      refine rt_i dX12_aboutOf_50 rfl ?_
      refine pq hP ?_ rfl
      unfold aboutF
      (repeat' split) <;> first | rfl | omega
  · refine st_aload_n (q := 5) dX12_aboutOf_4 rfl rfl ?_
    refine st_getR (q := 8) 12 10 dX12_aboutOf_5 fl_X12_32 (by decide) (by decide) rfl rfl (wfk w rfl) (wfR w rfl) ?_
    refine st_iload_n (q := 9) dX12_aboutOf_8 rfl rfl ?_
    refine st_iaload (q := 10) dX12_aboutOf_9 rfl (wfk w rfl) (wfb w (n := 8) rfl ⟨by omega, by omega⟩) ?_
    refine st_goto (q := 50) dX12_aboutOf_10 (by decide) ?_
    refine rt_i dX12_aboutOf_50 rfl ?_
    refine pq hP ?_ rfl
    unfold aboutF
    (repeat' split) <;> first | rfl | omega
theorem c_X12_about {d : Nat} {h : JH} {P : Int → JH → Prop} {k what : Int} (w : WF h) (ho : ∀ k, k < 8 → 0 ≤ hI h 126 k ∧ hI h 126 k ≤ 65535) (h1 : ¬ (0 ≤ k ∧ k ≤ 7) ∨ ¬ (0 ≤ what ∧ what ≤ 3) → P (-1) h) (h2 : 0 ≤ k ∧ k ≤ 7 → 0 ≤ what ∧ what ≤ 3 → hI h 126 k.toNat = 0 → P (-3) (mtH h 1)) (h3 : 0 ≤ k ∧ k ≤ 7 → 0 ≤ what ∧ what ≤ 3 → hI h 126 k.toNat ≠ 0 → P 1 (sI h 117 2 (aboutF h k what))) : JRi (d + 3) jX12_about [vr 117, vi k, vi what] h P := by
  refine JRet.of rfl (Nat.le_of_ble_eq_true rfl) ?_
  refine st_iload_n (q := 1) dX12_about_0 rfl rfl ?_
  refine st_iconst (q := 2) dX12_about_1 ⟨by decide, by decide⟩ rfl ?_
  refine st_iconst (q := 3) dX12_about_2 ⟨by decide, by decide⟩ rfl ?_
  refine iS3i (q := 6) dX12_about_3 rfl ml_X12_130 ms_X12_in (Nat.le_of_ble_eq_true rfl) ?_
  refine c_X12_in ?_
  refine st_if_ne (q := 9) (tgt := 11) dX12_about_6 (by decide) rfl (fun c6 => ?_) (fun c6 => ?_)
  · refine st_aload_n (q := 12) dX12_about_11 rfl rfl ?_
    refine st_iload_n (q := 13) dX12_about_12 rfl rfl ?_
    refine iV1i (q := 16) dX12_about_13 rfl ml_X12_171 mv_X12_askedHide (Nat.le_of_ble_eq_true rfl) (wfk w rfl) ?_
    refine c_X12_askedHide w (fun a1 => ?_) (fun a1 a2 => ?_) (fun a1 a2 => ?_)
    · refine st_istore_n (q := 17) (i := 3) dX12_about_16 rfl (by decide) rfl ?_
      refine st_iload_n (q := 18) dX12_about_17 rfl rfl ?_
      refine st_if_ge (q := 21) (tgt := 25) dX12_about_18 (by decide) rfl (fun z => absurd z (by decide)) (fun _ => ?_)
      refine st_iload_n (q := 22) dX12_about_21 rfl rfl ?_
      refine st_goto (q := 36) dX12_about_22 (by decide) ?_
      refine rt_i dX12_about_36 rfl ?_
      first | exact h1 (by omega) | exact h2 (by omega) (by omega) (by omega) | exact h3 (by omega) (by omega) (by omega)
    · refine st_istore_n (q := 17) (i := 3) dX12_about_16 rfl (by decide) rfl ?_
      refine st_iload_n (q := 18) dX12_about_17 rfl rfl ?_
      refine st_if_ge (q := 21) (tgt := 25) dX12_about_18 (by decide) rfl (fun z => absurd z (by decide)) (fun _ => ?_)
      refine st_iload_n (q := 22) dX12_about_21 rfl rfl ?_
      refine st_goto (q := 36) dX12_about_22 (by decide) ?_
      refine rt_i dX12_about_36 rfl ?_
      first | exact h1 (by omega) | exact h2 (by omega) (by omega) (by omega) | exact h3 (by omega) (by omega) (by omega)
    · refine st_istore_n (q := 17) (i := 3) dX12_about_16 rfl (by decide) rfl ?_
      refine st_iload_n (q := 18) dX12_about_17 rfl rfl ?_
      refine st_if_ge (q := 21) (tgt := 25) dX12_about_18 (by decide) rfl (fun _ => ?_) (fun z => absurd z (by decide))
      refine st_aload_n (q := 26) dX12_about_25 rfl rfl ?_
      refine st_aload_n (q := 27) dX12_about_26 rfl rfl ?_
      refine st_iload_n (q := 28) dX12_about_27 rfl rfl ?_
      refine st_iload_n (q := 29) dX12_about_28 rfl rfl ?_
      refine iV2i (q := 32) dX12_about_29 rfl ml_X12_181 mv_X12_aboutOf (Nat.le_of_ble_eq_true rfl) (wfk w rfl) ?_
      refine c_X12_aboutOf w (by omega) (ho k.toNat (by omega)) ?_
      refine st_iconst (q := 33) dX12_about_32 ⟨by decide, by decide⟩ rfl ?_
      refine iV2i (q := 36) dX12_about_33 rfl ml_X12_152 mv_X12_ask (Nat.le_of_ble_eq_true rfl) (wfk w rfl) ?_
      refine c_X12_ask w ?_
      refine rt_i dX12_about_36 rfl ?_
      first | exact h1 (by omega) | exact h2 (by omega) (by omega) (by omega) | exact h3 (by omega) (by omega) (by omega)
  · refine st_iconst (q := 10) dX12_about_9 ⟨by decide, by decide⟩ rfl ?_
    refine rt_i dX12_about_10 rfl ?_
    first | exact h1 (by omega) | exact h2 (by omega) (by omega) (by omega) | exact h3 (by omega) (by omega) (by omega)
theorem c_X12_isHeld {d : Nat} {h : JH} {P : Int → JH → Prop} {z x : Int} (w : WF h) (hL : 2 ≤ hI h 117 13 ∧ hI h 117 13 ≤ 60) (hP : P (if (0 ≤ z ∧ z < hI h 117 13) ∧ (-99 ≤ x ∧ x ≤ 99) then 1 else 0) h) : JRi (d + 1) jX12_isHeld [vr 117, vi z, vi x] h P := by
  refine JRet.of rfl (Nat.le_of_ble_eq_true rfl) ?_
  refine st_iload_n (q := 1) dX12_isHeld_0 rfl rfl ?_
  refine st_iconst (q := 2) dX12_isHeld_1 ⟨by decide, by decide⟩ rfl ?_
  refine st_aload_n (q := 3) dX12_isHeld_2 rfl rfl ?_
  refine st_getI (q := 6) 12 13 dX12_isHeld_3 fl_X12_41 (by decide) (by decide) rfl rfl (wfk w rfl) ?_
  refine st_iconst (q := 7) dX12_isHeld_6 ⟨by decide, by decide⟩ rfl ?_
  first | refine n_isub (q := 8) dX12_isHeld_7 rfl ⟨by omega, by omega⟩ ?_ | refine st_isub (q := 8) dX12_isHeld_7 rfl ?_
  refine iS3i (q := 11) dX12_isHeld_8 rfl ml_X12_130 ms_X12_in (Nat.le_of_ble_eq_true rfl) ?_
  refine c_X12_in ?_
  apply j_mg 30
  · intro K1 K2
    refine st_if_eq (q := 14) (tgt := 29) dX12_isHeld_11 (by decide) rfl (fun c11 => ?_) (fun c11 => ?_)
    · refine st_iconst (q := 30) dX12_isHeld_29 ⟨by decide, by decide⟩ rfl ?_
      exact K1 c11
    · refine st_iload_n (q := 15) dX12_isHeld_14 rfl rfl ?_
      refine st_bipush (q := 17) dX12_isHeld_15 ⟨by decide, by decide⟩ rfl ?_
      refine st_bipush (q := 19) dX12_isHeld_17 ⟨by decide, by decide⟩ rfl ?_
      refine iS3i (q := 22) dX12_isHeld_19 rfl ml_X12_130 ms_X12_in (Nat.le_of_ble_eq_true rfl) ?_
      refine c_X12_in ?_
      apply j_mg 30
      · intro K3 K4
        refine st_if_eq (q := 25) (tgt := 29) dX12_isHeld_22 (by decide) rfl (fun c22 => ?_) (fun c22 => ?_)
        · refine st_iconst (q := 30) dX12_isHeld_29 ⟨by decide, by decide⟩ rfl ?_
          exact K3 c22
        · refine st_iconst (q := 26) dX12_isHeld_25 ⟨by decide, by decide⟩ rfl ?_
          refine st_goto (q := 30) dX12_isHeld_26 (by decide) ?_
          exact K4 c22
      · simp only [jif_if]
        exact K2 c11
  · simp only [jif_if]
    refine rt_z dX12_isHeld_30 rfl (by (repeat' split) <;> omega) ?_
    exact pq hP (by (repeat' split) <;> omega) rfl
theorem mul_b {a b A B : Int} (h1 : 0 ≤ a) (h2 : a ≤ A) (h3 : 0 ≤ b) (h4 : b ≤ B) : 0 ≤ a * b ∧ a * b ≤ A * B := ⟨Int.mul_nonneg h1 h3, Int.mul_le_mul h2 h4 h3 (Int.le_trans h1 h2)⟩
theorem mul_b2 {a b A B : Int} (h1 : -A ≤ a) (h2 : a ≤ A) (h3 : 0 ≤ b) (h4 : b ≤ B) : -(A * B) ≤ a * b ∧ a * b ≤ A * B := by
  have hA : 0 ≤ A := by omega
  by_cases h : 0 ≤ a
  · have := mul_b h h2 h3 h4
    have := Int.mul_nonneg hA (Int.le_trans h3 h4)
    omega
  · have := mul_b (show 0 ≤ -a by omega) (show -a ≤ A by omega) h3 h4
    have e : -a * b = -(a * b) := Int.neg_mul a b
    have := Int.mul_nonneg hA (Int.le_trans h3 h4)
    omega
def shH (h : JH) (up low : Int) : JH := sJ (sJ h 117 3 (w64 (up.tdiv (Nat.gcd low.natAbs up.natAbs)))) 117 4 (w64 (low.tdiv (Nat.gcd low.natAbs up.natAbs)))
def shUp (h : JH) (k z x what : Int) : Int := if what = 0 then hI h 124 k.toNat * hI h 117 13 else if what = 1 then hI h 125 k.toNat * hI h 117 13 else if what = 2 then x * hI h 117 13 else hI h 117 14 * z
theorem c_X12_shadow {d : Nat} {h : JH} {P : Int → JH → Prop} {k z x what : Int} (w : WF h) (hL : 2 ≤ hI h 117 13 ∧ hI h 117 13 ≤ 60) (hG : 0 ≤ hI h 117 14 ∧ hI h 117 14 ≤ 9) (hw : ∀ k, k < 8 → (0 ≤ hI h 124 k ∧ hI h 124 k ≤ 60) ∧ (0 ≤ hI h 125 k ∧ hI h 125 k ≤ 60)) (h1 : ¬ (0 ≤ k ∧ k ≤ 7) ∨ ¬ ((0 ≤ z ∧ z < hI h 117 13) ∧ (-99 ≤ x ∧ x ≤ 99)) ∨ ¬ (0 ≤ what ∧ what ≤ 3) → P (-1) h) (h2 : 0 ≤ k ∧ k ≤ 7 → (0 ≤ z ∧ z < hI h 117 13) ∧ (-99 ≤ x ∧ x ≤ 99) → 0 ≤ what ∧ what ≤ 3 → hI h 126 k.toNat = 0 → P (-3) (mtH h 1)) (h3 : 0 ≤ k ∧ k ≤ 7 → (0 ≤ z ∧ z < hI h 117 13) ∧ (-99 ≤ x ∧ x ≤ 99) → 0 ≤ what ∧ what ≤ 3 → hI h 126 k.toNat ≠ 0 → P 1 (shH h (shUp h k z x what) (hI h 117 13 - z))) : JRi (d + 3) jX12_shadow [vr 117, vi k, vi z, vi x, vi what] h P := by
  refine JRet.of rfl (Nat.le_of_ble_eq_true rfl) ?_
  refine st_aload_n (q := 1) dX12_shadow_0 rfl rfl ?_
  refine st_iload_n (q := 2) dX12_shadow_1 rfl rfl ?_
  refine st_iload_n (q := 3) dX12_shadow_2 rfl rfl ?_
  refine iV2i (q := 6) dX12_shadow_3 rfl ml_X12_184 mv_X12_isHeld (Nat.le_of_ble_eq_true rfl) (wfk w rfl) ?_
  refine c_X12_isHeld w hL ?_
  refine st_if_eq (q := 9) (tgt := 19) dX12_shadow_6 (by decide) rfl (fun c6 => ?_) (fun c6 => ?_)
  · refine st_iconst (q := 20) dX12_shadow_19 ⟨by decide, by decide⟩ rfl ?_
    refine rt_i dX12_shadow_20 rfl ?_
    first | exact h1 (by omega) | exact h2 (by omega) (by omega) (by omega) (by omega) | exact h3 (by omega) (by omega) (by omega) (by omega)
  · refine st_iload (q := 11) dX12_shadow_9 rfl rfl ?_
    refine st_iconst (q := 12) dX12_shadow_11 ⟨by decide, by decide⟩ rfl ?_
    refine st_iconst (q := 13) dX12_shadow_12 ⟨by decide, by decide⟩ rfl ?_
    refine iS3i (q := 16) dX12_shadow_13 rfl ml_X12_130 ms_X12_in (Nat.le_of_ble_eq_true rfl) ?_
    refine c_X12_in ?_
    refine st_if_ne (q := 19) (tgt := 21) dX12_shadow_16 (by decide) rfl (fun c16 => ?_) (fun c16 => ?_)
    · refine st_aload_n (q := 22) dX12_shadow_21 rfl rfl ?_
      refine st_iload_n (q := 23) dX12_shadow_22 rfl rfl ?_
      refine iV1i (q := 26) dX12_shadow_23 rfl ml_X12_171 mv_X12_askedHide (Nat.le_of_ble_eq_true rfl) (wfk w rfl) ?_
      refine c_X12_askedHide w (fun a1 => ?_) (fun a1 a2 => ?_) (fun a1 a2 => ?_)
      · refine st_istore (q := 28) dX12_shadow_26 (by decide) rfl ?_
        refine st_iload (q := 30) dX12_shadow_28 rfl rfl ?_
        refine st_if_ge (q := 33) (tgt := 36) dX12_shadow_30 (by decide) rfl (fun z => absurd z (by decide)) (fun _ => ?_)
        refine st_iload (q := 35) dX12_shadow_33 rfl rfl ?_
        refine rt_i dX12_shadow_35 rfl ?_
        first | exact h1 (by omega) | exact h2 (by omega) (by omega) (by omega) (by omega) | exact h3 (by omega) (by omega) (by omega) (by omega)
      · refine st_istore (q := 28) dX12_shadow_26 (by decide) rfl ?_
        refine st_iload (q := 30) dX12_shadow_28 rfl rfl ?_
        refine st_if_ge (q := 33) (tgt := 36) dX12_shadow_30 (by decide) rfl (fun z => absurd z (by decide)) (fun _ => ?_)
        refine st_iload (q := 35) dX12_shadow_33 rfl rfl ?_
        refine rt_i dX12_shadow_35 rfl ?_
        first | exact h1 (by omega) | exact h2 (by omega) (by omega) (by omega) (by omega) | exact h3 (by omega) (by omega) (by omega) (by omega)
      · refine st_istore (q := 28) dX12_shadow_26 (by decide) rfl ?_
        refine st_iload (q := 30) dX12_shadow_28 rfl rfl ?_
        refine st_if_ge (q := 33) (tgt := 36) dX12_shadow_30 (by decide) rfl (fun _ => ?_) (fun z => absurd z (by decide))
        have p0 := hw k.toNat (by omega)
        have p1 := mul_b p0.1.1 p0.1.2 (show 0 ≤ hI h 117 13 by omega) hL.2
        have p2 := mul_b p0.2.1 p0.2.2 (show 0 ≤ hI h 117 13 by omega) hL.2
        have p3 := mul_b2 (A := 99) (show -99 ≤ x by omega) (show x ≤ 99 by omega) (show 0 ≤ hI h 117 13 by omega) hL.2
        have p4 := mul_b (B := 60) hG.1 hG.2 (show 0 ≤ z by omega) (show z ≤ 60 by omega)
        refine st_iload (q := 38) dX12_shadow_36 rfl rfl ?_
        apply j_mg 96
        · intro K1 K2
          refine st_if_ne (q := 41) (tgt := 55) dX12_shadow_38 (by decide) rfl (fun c38 => ?_) (fun c38 => ?_)
          · refine st_iload (q := 57) dX12_shadow_55 rfl rfl ?_
            refine st_iconst (q := 58) dX12_shadow_57 ⟨by decide, by decide⟩ rfl ?_
            apply j_mg 96
            · intro K3 K4
              refine st_icmp_ne (q := 61) (tgt := 75) dX12_shadow_58 (by decide) rfl (fun c58 => ?_) (fun c58 => ?_)
              · refine st_iload (q := 77) dX12_shadow_75 rfl rfl ?_
                refine st_iconst (q := 78) dX12_shadow_77 ⟨by decide, by decide⟩ rfl ?_
                apply j_mg 96
                · intro K5 K6
                  refine st_icmp_ne (q := 81) (tgt := 90) dX12_shadow_78 (by decide) rfl (fun c78 => ?_) (fun c78 => ?_)
                  · refine st_aload_n (q := 91) dX12_shadow_90 rfl rfl ?_
                    refine st_getI (q := 94) 12 14 dX12_shadow_91 fl_X12_45 (by decide) (by decide) rfl rfl (wfk w rfl) ?_
                    refine st_iload_n (q := 95) dX12_shadow_94 rfl rfl ?_
                    first | refine n_imul (q := 96) dX12_shadow_95 rfl ⟨by omega, by omega⟩ ?_ | refine st_imul (q := 96) dX12_shadow_95 rfl ?_
                    exact K6 c78
                  · refine st_iload_n (q := 82) dX12_shadow_81 rfl rfl ?_
                    refine st_aload_n (q := 83) dX12_shadow_82 rfl rfl ?_
                    refine st_getI (q := 86) 12 13 dX12_shadow_83 fl_X12_41 (by decide) (by decide) rfl rfl (wfk w rfl) ?_
                    first | refine n_imul (q := 87) dX12_shadow_86 rfl ⟨by omega, by omega⟩ ?_ | refine st_imul (q := 87) dX12_shadow_86 rfl ?_
                    refine st_goto (q := 96) dX12_shadow_87 (by decide) ?_
                    exact K5 c78
                · simp only [jif_if]
                  exact K4 c58
              · refine st_aload_n (q := 62) dX12_shadow_61 rfl rfl ?_
                refine st_getR (q := 65) 12 11 dX12_shadow_62 fl_X12_35 (by decide) (by decide) rfl rfl (wfk w rfl) (wfR w rfl) ?_
                refine st_iload_n (q := 66) dX12_shadow_65 rfl rfl ?_
                refine st_iaload (q := 67) dX12_shadow_66 rfl (wfk w rfl) (wfb w (n := 8) rfl ⟨by omega, by omega⟩) ?_
                refine st_aload_n (q := 68) dX12_shadow_67 rfl rfl ?_
                refine st_getI (q := 71) 12 13 dX12_shadow_68 fl_X12_41 (by decide) (by decide) rfl rfl (wfk w rfl) ?_
                first | refine n_imul (q := 72) dX12_shadow_71 rfl ⟨by omega, by omega⟩ ?_ | refine st_imul (q := 72) dX12_shadow_71 rfl ?_
                refine st_goto (q := 96) dX12_shadow_72 (by decide) ?_
                exact K3 c58
            · simp only [jif_if]
              exact K2 c38
          · refine st_aload_n (q := 42) dX12_shadow_41 rfl rfl ?_
            refine st_getR (q := 45) 12 10 dX12_shadow_42 fl_X12_32 (by decide) (by decide) rfl rfl (wfk w rfl) (wfR w rfl) ?_
            refine st_iload_n (q := 46) dX12_shadow_45 rfl rfl ?_
            refine st_iaload (q := 47) dX12_shadow_46 rfl (wfk w rfl) (wfb w (n := 8) rfl ⟨by omega, by omega⟩) ?_
            refine st_aload_n (q := 48) dX12_shadow_47 rfl rfl ?_
            refine st_getI (q := 51) 12 13 dX12_shadow_48 fl_X12_41 (by decide) (by decide) rfl rfl (wfk w rfl) ?_
            first | refine n_imul (q := 52) dX12_shadow_51 rfl ⟨by omega, by omega⟩ ?_ | refine st_imul (q := 52) dX12_shadow_51 rfl ?_
            refine st_goto (q := 96) dX12_shadow_52 (by decide) ?_
            exact K1 c38
        · simp only [jif_if]
          refine st_istore (q := 98) dX12_shadow_96 (by decide) rfl ?_
          refine st_aload_n (q := 99) dX12_shadow_98 rfl rfl ?_
          refine st_iload (q := 101) dX12_shadow_99 rfl rfl ?_
          refine st_i2l (q := 102) dX12_shadow_101 rfl ?_
          refine st_aload_n (q := 103) dX12_shadow_102 rfl rfl ?_
          refine st_getI (q := 106) 12 13 dX12_shadow_103 fl_X12_41 (by decide) (by decide) rfl rfl (wfk w rfl) ?_
          refine st_iload_n (q := 107) dX12_shadow_106 rfl rfl ?_
          first | refine n_isub (q := 108) dX12_shadow_107 rfl ⟨by omega, by omega⟩ ?_ | refine st_isub (q := 108) dX12_shadow_107 rfl ?_
          refine st_i2l (q := 109) dX12_shadow_108 rfl ?_
          refine st_iconst (q := 110) dX12_shadow_109 ⟨by decide, by decide⟩ rfl ?_
          refine iV3i (q := 113) dX12_shadow_110 rfl ml_X12_187 mv_X12_share (Nat.le_of_ble_eq_true rfl) (wfk w rfl) ?_
          refine c_X12_share w (by (repeat' split) <;> omega) (by omega) ?_
          refine rt_i dX12_shadow_113 rfl ?_
          first | exact h1 (by omega) | exact h2 (by omega) (by omega) (by omega) (by omega) | exact h3 (by omega) (by omega) (by omega) (by omega)
    · refine st_iconst (q := 20) dX12_shadow_19 ⟨by decide, by decide⟩ rfl ?_
      refine rt_i dX12_shadow_20 rfl ?_
      first | exact h1 (by omega) | exact h2 (by omega) (by omega) (by omega) (by omega) | exact h3 (by omega) (by omega) (by omega) (by omega)
def covF (h : JH) (k z x other v y : Int) : Int := if w32 ((2 * x - hI h 124 k.toNat) * (hI h 117 13 - v)) ≤ w32 ((2 * y - hI h 124 other.toNat) * (hI h 117 13 - z)) ∧ w32 ((2 * y + hI h 124 other.toNat) * (hI h 117 13 - z)) ≤ w32 ((2 * x + hI h 124 k.toNat) * (hI h 117 13 - v)) then 1 else 0
theorem c_X12_covers {d : Nat} {h : JH} {P : Int → JH → Prop} {k z x other v y : Int} (w : WF h) (hL : 2 ≤ hI h 117 13 ∧ hI h 117 13 ≤ 60) (hw : ∀ k, k < 8 → (0 ≤ hI h 124 k ∧ hI h 124 k ≤ 60) ∧ (0 ≤ hI h 125 k ∧ hI h 125 k ≤ 60)) (h1 : ¬ ((0 ≤ k ∧ k ≤ 7) ∧ (0 ≤ other ∧ other ≤ 7) ∧ ((0 ≤ z ∧ z < hI h 117 13) ∧ (-99 ≤ x ∧ x ≤ 99)) ∧ ((0 ≤ v ∧ v < hI h 117 13) ∧ (-99 ≤ y ∧ y ≤ 99))) → P (-1) h) (h2 : (0 ≤ k ∧ k ≤ 7) ∧ (0 ≤ other ∧ other ≤ 7) ∧ ((0 ≤ z ∧ z < hI h 117 13) ∧ (-99 ≤ x ∧ x ≤ 99)) ∧ ((0 ≤ v ∧ v < hI h 117 13) ∧ (-99 ≤ y ∧ y ≤ 99)) → hI h 126 k.toNat = 0 ∨ hI h 126 other.toNat = 0 → P (-3) (mtH h 1)) (h3 : (0 ≤ k ∧ k ≤ 7) ∧ (0 ≤ other ∧ other ≤ 7) ∧ ((0 ≤ z ∧ z < hI h 117 13) ∧ (-99 ≤ x ∧ x ≤ 99)) ∧ ((0 ≤ v ∧ v < hI h 117 13) ∧ (-99 ≤ y ∧ y ≤ 99)) → hI h 126 k.toNat ≠ 0 → hI h 126 other.toNat ≠ 0 → P (covF h k z x other v y) h) : JRi (d + 2) jX12_covers [vr 117, vi k, vi z, vi x, vi other, vi v, vi y] h P := by
  have q1 : 0 ≤ k ∧ k ≤ 7 → 0 ≤ hI h 124 k.toNat ∧ hI h 124 k.toNat ≤ 60 := fun q => (hw k.toNat (by omega)).1
  have q2 : 0 ≤ other ∧ other ≤ 7 → 0 ≤ hI h 124 other.toNat ∧ hI h 124 other.toNat ≤ 60 := fun q => (hw other.toNat (by omega)).1
  refine JRet.of rfl (Nat.le_of_ble_eq_true rfl) ?_
  refine st_iload_n (q := 1) dX12_covers_0 rfl rfl ?_
  refine iS1i (q := 4) dX12_covers_1 rfl ml_X12_161 ms_X12_isHide (Nat.le_of_ble_eq_true rfl) ?_
  refine c_X12_isHide ?_
  refine st_if_eq (q := 7) (tgt := 35) dX12_covers_4 (by decide) rfl (fun c4 => ?_) (fun c4 => ?_)
  · refine st_iconst (q := 36) dX12_covers_35 ⟨by decide, by decide⟩ rfl ?_
    refine rt_i dX12_covers_36 rfl ?_
    first | exact h1 (by omega) | exact h2 (by omega) (by omega) | exact pq (h3 (by omega) (by omega) (by omega)) (by unfold covF; (repeat' split) <;> omega) rfl
  · refine st_iload (q := 9) dX12_covers_7 rfl rfl ?_
    refine iS1i (q := 12) dX12_covers_9 rfl ml_X12_161 ms_X12_isHide (Nat.le_of_ble_eq_true rfl) ?_
    refine c_X12_isHide ?_
    refine st_if_eq (q := 15) (tgt := 35) dX12_covers_12 (by decide) rfl (fun c12 => ?_) (fun c12 => ?_)
    · refine st_iconst (q := 36) dX12_covers_35 ⟨by decide, by decide⟩ rfl ?_
      refine rt_i dX12_covers_36 rfl ?_
      first | exact h1 (by omega) | exact h2 (by omega) (by omega) | exact pq (h3 (by omega) (by omega) (by omega)) (by unfold covF; (repeat' split) <;> omega) rfl
    · refine st_aload_n (q := 16) dX12_covers_15 rfl rfl ?_
      refine st_iload_n (q := 17) dX12_covers_16 rfl rfl ?_
      refine st_iload_n (q := 18) dX12_covers_17 rfl rfl ?_
      refine iV2i (q := 21) dX12_covers_18 rfl ml_X12_184 mv_X12_isHeld (Nat.le_of_ble_eq_true rfl) (wfk w rfl) ?_
      refine c_X12_isHeld w hL ?_
      refine st_if_eq (q := 24) (tgt := 35) dX12_covers_21 (by decide) rfl (fun c21 => ?_) (fun c21 => ?_)
      · refine st_iconst (q := 36) dX12_covers_35 ⟨by decide, by decide⟩ rfl ?_
        refine rt_i dX12_covers_36 rfl ?_
        first | exact h1 (by omega) | exact h2 (by omega) (by omega) | exact pq (h3 (by omega) (by omega) (by omega)) (by unfold covF; (repeat' split) <;> omega) rfl
      · refine st_aload_n (q := 25) dX12_covers_24 rfl rfl ?_
        refine st_iload (q := 27) dX12_covers_25 rfl rfl ?_
        refine st_iload (q := 29) dX12_covers_27 rfl rfl ?_
        refine iV2i (q := 32) dX12_covers_29 rfl ml_X12_184 mv_X12_isHeld (Nat.le_of_ble_eq_true rfl) (wfk w rfl) ?_
        refine c_X12_isHeld w hL ?_
        refine st_if_ne (q := 35) (tgt := 37) dX12_covers_32 (by decide) rfl (fun c32 => ?_) (fun c32 => ?_)
        · refine st_aload_n (q := 38) dX12_covers_37 rfl rfl ?_
          refine st_iload_n (q := 39) dX12_covers_38 rfl rfl ?_
          refine iV1i (q := 42) dX12_covers_39 rfl ml_X12_164 mv_X12_isThere (Nat.le_of_ble_eq_true rfl) (wfk w rfl) ?_
          refine c_X12_isThere w (by omega) ?_
          refine st_if_eq (q := 45) (tgt := 54) dX12_covers_42 (by decide) rfl (fun c42 => ?_) (fun c42 => ?_)
          · refine st_aload_n (q := 55) dX12_covers_54 rfl rfl ?_
            refine st_iconst (q := 56) dX12_covers_55 ⟨by decide, by decide⟩ rfl ?_
            refine iV1i (q := 59) dX12_covers_56 rfl ml_X12_138 mv_X12_meets (Nat.le_of_ble_eq_true rfl) (wfk w rfl) ?_
            refine c_X12_meets w (by decide) ?_
            refine rt_i dX12_covers_59 rfl ?_
            first | exact h1 (by omega) | exact h2 (by omega) (by omega) | exact pq (h3 (by omega) (by omega) (by omega)) (by unfold covF; (repeat' split) <;> omega) rfl
          · refine st_aload_n (q := 46) dX12_covers_45 rfl rfl ?_
            refine st_iload (q := 48) dX12_covers_46 rfl rfl ?_
            refine iV1i (q := 51) dX12_covers_48 rfl ml_X12_164 mv_X12_isThere (Nat.le_of_ble_eq_true rfl) (wfk w rfl) ?_
            refine c_X12_isThere w (by omega) ?_
            refine st_if_ne (q := 54) (tgt := 60) dX12_covers_51 (by decide) rfl (fun c51 => ?_) (fun c51 => ?_)
            · refine st_aload_n (q := 61) dX12_covers_60 rfl rfl ?_
              refine st_getI (q := 64) 12 13 dX12_covers_61 fl_X12_41 (by decide) (by decide) rfl rfl (wfk w rfl) ?_
              refine st_iload_n (q := 65) dX12_covers_64 rfl rfl ?_
              first | refine n_isub (q := 66) dX12_covers_65 rfl ⟨by omega, by omega⟩ ?_ | refine st_isub (q := 66) dX12_covers_65 rfl ?_
              refine st_istore (q := 68) dX12_covers_66 (by decide) rfl ?_
              refine st_aload_n (q := 69) dX12_covers_68 rfl rfl ?_
              refine st_getI (q := 72) 12 13 dX12_covers_69 fl_X12_41 (by decide) (by decide) rfl rfl (wfk w rfl) ?_
              refine st_iload (q := 74) dX12_covers_72 rfl rfl ?_
              first | refine n_isub (q := 75) dX12_covers_74 rfl ⟨by omega, by omega⟩ ?_ | refine st_isub (q := 75) dX12_covers_74 rfl ?_
              refine st_istore (q := 77) dX12_covers_75 (by decide) rfl ?_
              refine st_iconst (q := 78) dX12_covers_77 ⟨by decide, by decide⟩ rfl ?_
              refine st_iload_n (q := 79) dX12_covers_78 rfl rfl ?_
              first | refine n_imul (q := 80) dX12_covers_79 rfl ⟨by omega, by omega⟩ ?_ | refine st_imul (q := 80) dX12_covers_79 rfl ?_
              refine st_aload_n (q := 81) dX12_covers_80 rfl rfl ?_
              refine st_getR (q := 84) 12 10 dX12_covers_81 fl_X12_32 (by decide) (by decide) rfl rfl (wfk w rfl) (wfR w rfl) ?_
              refine st_iload_n (q := 85) dX12_covers_84 rfl rfl ?_
              refine st_iaload (q := 86) dX12_covers_85 rfl (wfk w rfl) (wfb w (n := 8) rfl ⟨by omega, by omega⟩) ?_
              first | refine n_isub (q := 87) dX12_covers_86 rfl ⟨by omega, by omega⟩ ?_ | refine st_isub (q := 87) dX12_covers_86 rfl ?_
              refine st_iload (q := 89) dX12_covers_87 rfl rfl ?_
              first | refine n_imul (q := 90) dX12_covers_89 rfl ⟨by omega, by omega⟩ ?_ | refine st_imul (q := 90) dX12_covers_89 rfl ?_
              refine st_iconst (q := 91) dX12_covers_90 ⟨by decide, by decide⟩ rfl ?_
              refine st_iload (q := 93) dX12_covers_91 rfl rfl ?_
              first | refine n_imul (q := 94) dX12_covers_93 rfl ⟨by omega, by omega⟩ ?_ | refine st_imul (q := 94) dX12_covers_93 rfl ?_
              refine st_aload_n (q := 95) dX12_covers_94 rfl rfl ?_
              refine st_getR (q := 98) 12 10 dX12_covers_95 fl_X12_32 (by decide) (by decide) rfl rfl (wfk w rfl) (wfR w rfl) ?_
              refine st_iload (q := 100) dX12_covers_98 rfl rfl ?_
              refine st_iaload (q := 101) dX12_covers_100 rfl (wfk w rfl) (wfb w (n := 8) rfl ⟨by omega, by omega⟩) ?_
              first | refine n_isub (q := 102) dX12_covers_101 rfl ⟨by omega, by omega⟩ ?_ | refine st_isub (q := 102) dX12_covers_101 rfl ?_
              refine st_iload (q := 104) dX12_covers_102 rfl rfl ?_
              first | refine n_imul (q := 105) dX12_covers_104 rfl ⟨by omega, by omega⟩ ?_ | refine st_imul (q := 105) dX12_covers_104 rfl ?_
              apply j_mg 113
              · intro K1 K2
                refine st_icmp_gt (q := 108) (tgt := 112) dX12_covers_105 (by decide) rfl (fun c105 => ?_) (fun c105 => ?_)
                · refine st_iconst (q := 113) dX12_covers_112 ⟨by decide, by decide⟩ rfl ?_
                  exact K1 c105
                · refine st_iconst (q := 109) dX12_covers_108 ⟨by decide, by decide⟩ rfl ?_
                  refine st_goto (q := 113) dX12_covers_109 (by decide) ?_
                  exact K2 c105
              · simp only [jif_if]
                refine st_istore (q := 115) dX12_covers_113 (by decide) rfl ?_
                refine st_iconst (q := 116) dX12_covers_115 ⟨by decide, by decide⟩ rfl ?_
                refine st_iload_n (q := 117) dX12_covers_116 rfl rfl ?_
                first | refine n_imul (q := 118) dX12_covers_117 rfl ⟨by omega, by omega⟩ ?_ | refine st_imul (q := 118) dX12_covers_117 rfl ?_
                refine st_aload_n (q := 119) dX12_covers_118 rfl rfl ?_
                refine st_getR (q := 122) 12 10 dX12_covers_119 fl_X12_32 (by decide) (by decide) rfl rfl (wfk w rfl) (wfR w rfl) ?_
                refine st_iload_n (q := 123) dX12_covers_122 rfl rfl ?_
                refine st_iaload (q := 124) dX12_covers_123 rfl (wfk w rfl) (wfb w (n := 8) rfl ⟨by omega, by omega⟩) ?_
                first | refine n_iadd (q := 125) dX12_covers_124 rfl ⟨by omega, by omega⟩ ?_ | refine st_iadd (q := 125) dX12_covers_124 rfl ?_
                refine st_iload (q := 127) dX12_covers_125 rfl rfl ?_
                first | refine n_imul (q := 128) dX12_covers_127 rfl ⟨by omega, by omega⟩ ?_ | refine st_imul (q := 128) dX12_covers_127 rfl ?_
                refine st_iconst (q := 129) dX12_covers_128 ⟨by decide, by decide⟩ rfl ?_
                refine st_iload (q := 131) dX12_covers_129 rfl rfl ?_
                first | refine n_imul (q := 132) dX12_covers_131 rfl ⟨by omega, by omega⟩ ?_ | refine st_imul (q := 132) dX12_covers_131 rfl ?_
                refine st_aload_n (q := 133) dX12_covers_132 rfl rfl ?_
                refine st_getR (q := 136) 12 10 dX12_covers_133 fl_X12_32 (by decide) (by decide) rfl rfl (wfk w rfl) (wfR w rfl) ?_
                refine st_iload (q := 138) dX12_covers_136 rfl rfl ?_
                refine st_iaload (q := 139) dX12_covers_138 rfl (wfk w rfl) (wfb w (n := 8) rfl ⟨by omega, by omega⟩) ?_
                first | refine n_iadd (q := 140) dX12_covers_139 rfl ⟨by omega, by omega⟩ ?_ | refine st_iadd (q := 140) dX12_covers_139 rfl ?_
                refine st_iload (q := 142) dX12_covers_140 rfl rfl ?_
                first | refine n_imul (q := 143) dX12_covers_142 rfl ⟨by omega, by omega⟩ ?_ | refine st_imul (q := 143) dX12_covers_142 rfl ?_
                apply j_mg 151
                · intro K3 K4
                  refine st_icmp_lt (q := 146) (tgt := 150) dX12_covers_143 (by decide) rfl (fun c143 => ?_) (fun c143 => ?_)
                  · refine st_iconst (q := 151) dX12_covers_150 ⟨by decide, by decide⟩ rfl ?_
                    exact K3 c143
                  · refine st_iconst (q := 147) dX12_covers_146 ⟨by decide, by decide⟩ rfl ?_
                    refine st_goto (q := 151) dX12_covers_147 (by decide) ?_
                    exact K4 c143
                · simp only [jif_if]
                  refine st_istore (q := 153) dX12_covers_151 (by decide) rfl ?_
                  refine st_iload (q := 155) dX12_covers_153 rfl rfl ?_
                  apply j_mg 168
                  · intro K5 K6
                    refine st_if_eq (q := 158) (tgt := 167) dX12_covers_155 (by decide) rfl (fun c155 => ?_) (fun c155 => ?_)
                    · refine st_iconst (q := 168) dX12_covers_167 ⟨by decide, by decide⟩ rfl ?_
                      exact K5 c155
                    · refine st_iload (q := 160) dX12_covers_158 rfl rfl ?_
                      apply j_mg 168
                      · intro K7 K8
                        refine st_if_eq (q := 163) (tgt := 167) dX12_covers_160 (by decide) rfl (fun c160 => ?_) (fun c160 => ?_)
                        · refine st_iconst (q := 168) dX12_covers_167 ⟨by decide, by decide⟩ rfl ?_
                          exact K7 c160
                        · refine st_iconst (q := 164) dX12_covers_163 ⟨by decide, by decide⟩ rfl ?_
                          refine st_goto (q := 168) dX12_covers_164 (by decide) ?_
                          exact K8 c160
                      · simp only [jif_if]
                        exact K6 c155
                  · simp only [jif_if]
                    refine rt_i dX12_covers_168 rfl ?_
                    first | exact h1 (by omega) | exact h2 (by omega) (by omega) | exact pq (h3 (by omega) (by omega) (by omega)) (by unfold covF; (repeat' split) <;> omega) rfl
            · refine st_aload_n (q := 55) dX12_covers_54 rfl rfl ?_
              refine st_iconst (q := 56) dX12_covers_55 ⟨by decide, by decide⟩ rfl ?_
              refine iV1i (q := 59) dX12_covers_56 rfl ml_X12_138 mv_X12_meets (Nat.le_of_ble_eq_true rfl) (wfk w rfl) ?_
              refine c_X12_meets w (by decide) ?_
              refine rt_i dX12_covers_59 rfl ?_
              first | exact h1 (by omega) | exact h2 (by omega) (by omega) | exact pq (h3 (by omega) (by omega) (by omega)) (by unfold covF; (repeat' split) <;> omega) rfl
        · refine st_iconst (q := 36) dX12_covers_35 ⟨by decide, by decide⟩ rfl ?_
          refine rt_i dX12_covers_36 rfl ?_
          first | exact h1 (by omega) | exact h2 (by omega) (by omega) | exact pq (h3 (by omega) (by omega) (by omega)) (by unfold covF; (repeat' split) <;> omega) rfl
theorem c_X12_place {d : Nat} {h : JH} {P : Int → JH → Prop} {k s : Int} (w : WF h) (hL : 2 ≤ hI h 117 13 ∧ hI h 117 13 ≤ 60) (hw : ∀ k, k < 8 → (0 ≤ hI h 124 k ∧ hI h 124 k ≤ 60) ∧ (0 ≤ hI h 125 k ∧ hI h 125 k ≤ 60)) (h1 : ¬ ((0 ≤ k ∧ k ≤ 7) ∧ (1 ≤ s ∧ s ≤ 9999)) → P (-1) h) (h2 : (0 ≤ k ∧ k ≤ 7) ∧ (1 ≤ s ∧ s ≤ 9999) → hI h 126 k.toNat = 0 → P (-3) (mtH h 1)) (h3 : (0 ≤ k ∧ k ≤ 7) ∧ (1 ≤ s ∧ s ≤ 9999) → hI h 126 k.toNat ≠ 0 → s < hI h 124 k.toNat → P (-9) h) (h4 : (0 ≤ k ∧ k ≤ 7) ∧ (1 ≤ s ∧ s ≤ 9999) → hI h 126 k.toNat ≠ 0 → hI h 124 k.toNat ≤ s → P (if (hI h 117 13 * (s - hI h 124 k.toNat)).tmod s = 0 then 1 else 0) (shH h (hI h 117 13 * (s - hI h 124 k.toNat)) s)) : JRi (d + 3) jX12_place [vr 117, vi k, vi s] h P := by
  refine JRet.of rfl (Nat.le_of_ble_eq_true rfl) ?_
  refine st_iload_n (q := 1) dX12_place_0 rfl rfl ?_
  refine st_iconst (q := 2) dX12_place_1 ⟨by decide, by decide⟩ rfl ?_
  refine st_sipush (q := 5) dX12_place_2 ⟨by decide, by decide⟩ rfl ?_
  refine iS3i (q := 8) dX12_place_5 rfl ml_X12_130 ms_X12_in (Nat.le_of_ble_eq_true rfl) ?_
  refine c_X12_in ?_
  refine st_if_ne (q := 11) (tgt := 13) dX12_place_8 (by decide) rfl (fun c8 => ?_) (fun c8 => ?_)
  · refine st_aload_n (q := 14) dX12_place_13 rfl rfl ?_
    refine st_iload_n (q := 15) dX12_place_14 rfl rfl ?_
    refine iV1i (q := 18) dX12_place_15 rfl ml_X12_171 mv_X12_askedHide (Nat.le_of_ble_eq_true rfl) (wfk w rfl) ?_
    refine c_X12_askedHide w (fun a1 => ?_) (fun a1 a2 => ?_) (fun a1 a2 => ?_)
    · refine st_istore_n (q := 19) (i := 3) dX12_place_18 rfl (by decide) rfl ?_
      refine st_iload_n (q := 20) dX12_place_19 rfl rfl ?_
      refine st_if_ge (q := 23) (tgt := 25) dX12_place_20 (by decide) rfl (fun z => absurd z (by decide)) (fun _ => ?_)
      refine st_iload_n (q := 24) dX12_place_23 rfl rfl ?_
      refine rt_i dX12_place_24 rfl ?_
      first | exact h1 (by omega) | exact h2 (by omega) (by omega) | exact h3 (by omega) (by omega) (by omega) | exact pq (h4 (by omega) (by omega) (by omega)) (by (repeat' split) <;> omega) rfl
    · refine st_istore_n (q := 19) (i := 3) dX12_place_18 rfl (by decide) rfl ?_
      refine st_iload_n (q := 20) dX12_place_19 rfl rfl ?_
      refine st_if_ge (q := 23) (tgt := 25) dX12_place_20 (by decide) rfl (fun z => absurd z (by decide)) (fun _ => ?_)
      refine st_iload_n (q := 24) dX12_place_23 rfl rfl ?_
      refine rt_i dX12_place_24 rfl ?_
      first | exact h1 (by omega) | exact h2 (by omega) (by omega) | exact h3 (by omega) (by omega) (by omega) | exact pq (h4 (by omega) (by omega) (by omega)) (by (repeat' split) <;> omega) rfl
    · refine st_istore_n (q := 19) (i := 3) dX12_place_18 rfl (by decide) rfl ?_
      refine st_iload_n (q := 20) dX12_place_19 rfl rfl ?_
      refine st_if_ge (q := 23) (tgt := 25) dX12_place_20 (by decide) rfl (fun _ => ?_) (fun z => absurd z (by decide))
      have p0 := hw k.toNat (by omega)
      refine st_iload_n (q := 26) dX12_place_25 rfl rfl ?_
      refine st_aload_n (q := 27) dX12_place_26 rfl rfl ?_
      refine st_getR (q := 30) 12 10 dX12_place_27 fl_X12_32 (by decide) (by decide) rfl rfl (wfk w rfl) (wfR w rfl) ?_
      refine st_iload_n (q := 31) dX12_place_30 rfl rfl ?_
      refine st_iaload (q := 32) dX12_place_31 rfl (wfk w rfl) (wfb w (n := 8) rfl ⟨by omega, by omega⟩) ?_
      refine st_icmp_ge (q := 35) (tgt := 40) dX12_place_32 (by decide) rfl (fun c32 => ?_) (fun c32 => ?_)
      · have p1 := mul_b (B := 9999) (show 0 ≤ hI h 117 13 by omega) hL.2 (show 0 ≤ s - hI h 124 k.toNat by omega) (show s - hI h 124 k.toNat ≤ 9999 by omega)
        refine st_aload_n (q := 41) dX12_place_40 rfl rfl ?_
        refine st_aload_n (q := 42) dX12_place_41 rfl rfl ?_
        refine st_getI (q := 45) 12 13 dX12_place_42 fl_X12_41 (by decide) (by decide) rfl rfl (wfk w rfl) ?_
        refine st_i2l (q := 46) dX12_place_45 rfl ?_
        refine st_iload_n (q := 47) dX12_place_46 rfl rfl ?_
        refine st_aload_n (q := 48) dX12_place_47 rfl rfl ?_
        refine st_getR (q := 51) 12 10 dX12_place_48 fl_X12_32 (by decide) (by decide) rfl rfl (wfk w rfl) (wfR w rfl) ?_
        refine st_iload_n (q := 52) dX12_place_51 rfl rfl ?_
        refine st_iaload (q := 53) dX12_place_52 rfl (wfk w rfl) (wfb w (n := 8) rfl ⟨by omega, by omega⟩) ?_
        first | refine n_isub (q := 54) dX12_place_53 rfl ⟨by omega, by omega⟩ ?_ | refine st_isub (q := 54) dX12_place_53 rfl ?_
        refine st_i2l (q := 55) dX12_place_54 rfl ?_
        first | refine n_lmul (q := 56) dX12_place_55 rfl ⟨by omega, by omega⟩ ?_ | refine st_lmul (q := 56) dX12_place_55 rfl ?_
        refine st_iload_n (q := 57) dX12_place_56 rfl rfl ?_
        refine st_i2l (q := 58) dX12_place_57 rfl ?_
        refine st_aload_n (q := 59) dX12_place_58 rfl rfl ?_
        refine st_getI (q := 62) 12 13 dX12_place_59 fl_X12_41 (by decide) (by decide) rfl rfl (wfk w rfl) ?_
        refine st_iload_n (q := 63) dX12_place_62 rfl rfl ?_
        refine st_aload_n (q := 64) dX12_place_63 rfl rfl ?_
        refine st_getR (q := 67) 12 10 dX12_place_64 fl_X12_32 (by decide) (by decide) rfl rfl (wfk w rfl) (wfR w rfl) ?_
        refine st_iload_n (q := 68) dX12_place_67 rfl rfl ?_
        refine st_iaload (q := 69) dX12_place_68 rfl (wfk w rfl) (wfb w (n := 8) rfl ⟨by omega, by omega⟩) ?_
        first | refine n_isub (q := 70) dX12_place_69 rfl ⟨by omega, by omega⟩ ?_ | refine st_isub (q := 70) dX12_place_69 rfl ?_
        first | refine n_imul (q := 71) dX12_place_70 rfl ⟨by omega, by omega⟩ ?_ | refine st_imul (q := 71) dX12_place_70 rfl ?_
        refine st_iload_n (q := 72) dX12_place_71 rfl rfl ?_
        refine st_irem (q := 73) dX12_place_72 (by omega) rfl ?_
        apply j_mg 81
        · intro K1 K2
          refine st_if_ne (q := 76) (tgt := 80) dX12_place_73 (by decide) rfl (fun c73 => ?_) (fun c73 => ?_)
          · refine st_iconst (q := 81) dX12_place_80 ⟨by decide, by decide⟩ rfl ?_
            exact K2 c73
          · refine st_iconst (q := 77) dX12_place_76 ⟨by decide, by decide⟩ rfl ?_
            refine st_goto (q := 81) dX12_place_77 (by decide) ?_
            exact K1 c73
        · simp only [jif_if]
          refine iV3i (q := 84) dX12_place_81 rfl ml_X12_187 mv_X12_share (Nat.le_of_ble_eq_true rfl) (wfk w rfl) ?_
          refine c_X12_share w (by omega) (by omega) ?_
          refine rt_i dX12_place_84 rfl ?_
          first | exact h1 (by omega) | exact h2 (by omega) (by omega) | exact h3 (by omega) (by omega) (by omega) | exact pq (h4 (by omega) (by omega) (by omega)) (by (repeat' split) <;> omega) rfl
      · refine st_bipush (q := 37) dX12_place_35 ⟨by decide, by decide⟩ rfl ?_
        refine st_goto (q := 84) dX12_place_37 (by decide) ?_
        refine rt_i dX12_place_84 rfl ?_
        first | exact h1 (by omega) | exact h2 (by omega) (by omega) | exact h3 (by omega) (by omega) (by omega) | exact pq (h4 (by omega) (by omega) (by omega)) (by (repeat' split) <;> omega) rfl
  · refine st_iconst (q := 12) dX12_place_11 ⟨by decide, by decide⟩ rfl ?_
    refine rt_i dX12_place_12 rfl ?_
    first | exact h1 (by omega) | exact h2 (by omega) (by omega) | exact h3 (by omega) (by omega) (by omega) | exact pq (h4 (by omega) (by omega) (by omega)) (by (repeat' split) <;> omega) rfl

