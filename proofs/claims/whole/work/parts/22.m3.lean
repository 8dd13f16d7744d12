/-! the model: mean, texts, hides, shadows -/
def sumF (f : Nat → Int) (lo : Nat) : Nat → Int
  | 0 => 0
  | n + 1 => sumF f lo n + f (lo + n)
theorem sumF_b {f : Nat → Int} (hf : ∀ k, r32 (f k)) (lo : Nat) : ∀ n, -(n * 2147483648) ≤ sumF f lo n ∧ sumF f lo n ≤ n * 2147483648
  | 0 => by simp [sumF]
  | n + 1 => by
    have h1 := sumF_b hf lo n
    have h2 := hf (lo + n)
    unfold r32 at h2
    have e : sumF f lo (n + 1) = sumF f lo n + f (lo + n) := rfl
    omega
theorem lp_X12_mean {d : Nat} {h : JH} {P : Int → JH → Prop} {r n : Nat} (w : WF h) (hr : r < 6) (hn : n ≤ 40) (hs : hI h 119 r = n) (ok : okh h) (h1 : n = 0 → P (-3) (mtH h 4)) (h2 : n ≠ 0 → P 1 (sI h 117 2 (w32 (w64 ((sumF (hI h 120) (40 * r) n).tdiv n))))) (k : Nat) (hk : k ≤ n) : JAt k0 (d + 1) jX12_mean 17 [vr 117, vi r, vi 0, vl (sumF (hI h 120) (40 * r) k), vn, vi k] [] h (jqi P) := by
  have b1 := sumF_b (ok.1 120) (40 * r) k
  have b2 := ok.1 120 (40 * r + k)
  unfold r32 at b2
  refine st_iload (q := 19) dX12_mean_17 rfl rfl ?_
  refine st_aload_n (q := 20) dX12_mean_19 rfl rfl ?_
  refine st_getR (q := 23) 12 5 dX12_mean_20 fl_X12_17 (by decide) (by decide) rfl rfl (wfk w rfl) (wfR w rfl) ?_
  refine st_iload_n (q := 24) dX12_mean_23 rfl rfl ?_
  refine st_iaload (q := 25) dX12_mean_24 rfl (wfk w rfl) (wfb w (n := 6) rfl ⟨by omega, by omega⟩) ?_
  simp only [show ((r : Int)).toNat = r from rfl, hs]
  refine st_icmp_ge (q := 28) (tgt := 45) dX12_mean_25 (by decide) rfl (fun c25 => ?_) (fun c25 => ?_)
  · refine st_aload_n (q := 46) dX12_mean_45 rfl rfl ?_
    refine st_getR (q := 49) 12 5 dX12_mean_46 fl_X12_17 (by decide) (by decide) rfl rfl (wfk w rfl) (wfR w rfl) ?_
    refine st_iload_n (q := 50) dX12_mean_49 rfl rfl ?_
    refine st_iaload (q := 51) dX12_mean_50 rfl (wfk w rfl) (wfb w (n := 6) rfl ⟨by omega, by omega⟩) ?_
    have ek : k = n := by omega
    subst ek
    simp only [show ((r : Int)).toNat = r from rfl, hs]
    refine st_if_ne (q := 54) (tgt := 62) dX12_mean_51 (by decide) rfl (fun c51 => ?_) (fun c51 => ?_)
    · refine st_aload_n (q := 63) dX12_mean_62 rfl rfl ?_
      refine st_lload_n (q := 64) dX12_mean_63 rfl rfl ?_
      refine st_aload_n (q := 65) dX12_mean_64 rfl rfl ?_
      refine st_getR (q := 68) 12 5 dX12_mean_65 fl_X12_17 (by decide) (by decide) rfl rfl (wfk w rfl) (wfR w rfl) ?_
      refine st_iload_n (q := 69) dX12_mean_68 rfl rfl ?_
      refine st_iaload (q := 70) dX12_mean_69 rfl (wfk w rfl) (wfb w (n := 6) rfl ⟨by omega, by omega⟩) ?_
      simp only [show ((r : Int)).toNat = r from rfl, hs]
      refine st_i2l (q := 71) dX12_mean_70 rfl ?_
      refine st_ldiv (q := 72) dX12_mean_71 (by omega) rfl ?_
      refine st_l2i (q := 73) dX12_mean_72 rfl ?_
      refine st_iconst (q := 74) dX12_mean_73 ⟨by decide, by decide⟩ rfl ?_
      refine iV2i (q := 77) dX12_mean_74 rfl ml_X12_152 mv_X12_ask (Nat.le_of_ble_eq_true rfl) (wfk w rfl) ?_
      refine c_X12_ask w ?_
      refine rt_i dX12_mean_77 rfl ?_
      first | exact h1 (by omega) | exact h2 (by omega)
    · refine st_aload_n (q := 55) dX12_mean_54 rfl rfl ?_
      refine st_iconst (q := 56) dX12_mean_55 ⟨by decide, by decide⟩ rfl ?_
      refine iV1i (q := 59) dX12_mean_56 rfl ml_X12_138 mv_X12_meets (Nat.le_of_ble_eq_true rfl) (wfk w rfl) ?_
      refine c_X12_meets w (by decide) ?_
      refine st_goto (q := 77) dX12_mean_59 (by decide) ?_
      refine rt_i dX12_mean_77 rfl ?_
      first | exact h1 (by omega) | exact h2 (by omega)
  · refine st_lload_n (q := 29) dX12_mean_28 rfl rfl ?_
    refine st_aload_n (q := 30) dX12_mean_29 rfl rfl ?_
    refine st_iload_n (q := 31) dX12_mean_30 rfl rfl ?_
    refine st_iload (q := 33) dX12_mean_31 rfl rfl ?_
    refine iV2i (q := 36) dX12_mean_33 rfl ml_X12_148 mv_X12_rowAt (Nat.le_of_ble_eq_true rfl) (wfk w rfl) ?_
    refine c_X12_rowAt w (by omega) (by omega) ?_
    rw [show (40 * (r : Int) + k).toNat = 40 * r + k by omega]
    refine st_i2l (q := 37) dX12_mean_36 rfl ?_
    first | refine n_ladd (q := 38) dX12_mean_37 rfl ⟨by omega, by omega⟩ ?_ | refine st_ladd (q := 38) dX12_mean_37 rfl ?_
    refine st_lstore_n (q := 39) (i := 3) dX12_mean_38 rfl (by decide) rfl ?_
    first | refine n_iinc (q := 42) dX12_mean_39 rfl (by decide) rfl ⟨by omega, by omega⟩ ?_ | refine st_iinc (q := 42) dX12_mean_39 rfl (by decide) rfl ?_
    refine st_goto (q := 17) dX12_mean_42 (by decide) ?_
    exact lp_X12_mean w hr hn hs ok h1 h2 (k + 1) (by omega)
termination_by n - k
theorem c_X12_mean {d : Nat} {h : JH} {P : Int → JH → Prop} {r : Int} (w : WF h) (hz : ∀ k, k < 6 → hI h 119 k ≤ 40) (h1 : ¬ (0 ≤ r ∧ r ≤ 5) → P (-1) h) (h2 : 0 ≤ r ∧ r ≤ 5 → hI h 119 r.toNat < 0 → P (-3) (mtH h 1)) (h3 : 0 ≤ r ∧ r ≤ 5 → hI h 119 r.toNat = 0 → P (-3) (mtH h 4)) (h4 : 0 ≤ r ∧ r ≤ 5 → 0 < hI h 119 r.toNat → P 1 (sI h 117 2 (w32 (w64 ((sumF (hI h 120) (40 * r.toNat) (hI h 119 r.toNat).toNat).tdiv (hI h 119 r.toNat)))))) : JRi (d + 3) jX12_mean [vr 117, vi r] h P := by
  have hs : 0 ≤ r ∧ r ≤ 5 → hI h 119 r.toNat ≤ 40 := fun z => hz r.toNat (by omega)
  refine r_okh (fun ok ov => ?_)
  refine JRet.of rfl (Nat.le_of_ble_eq_true rfl) ?_
  refine st_aload_n (q := 1) dX12_mean_0 rfl rfl ?_
  refine st_iload_n (q := 2) dX12_mean_1 rfl rfl ?_
  refine iV1i (q := 5) dX12_mean_2 rfl ml_X12_145 mv_X12_askedRow (Nat.le_of_ble_eq_true rfl) (wfk w rfl) ?_
  refine c_X12_askedRow w (fun a1 => ?_) (fun a1 a2 => ?_) (fun a1 a2 => ?_)
  · refine st_istore_n (q := 6) (i := 2) dX12_mean_5 rfl (by decide) rfl ?_
    refine st_iload_n (q := 7) dX12_mean_6 rfl rfl ?_
    refine st_if_ge (q := 10) (tgt := 12) dX12_mean_7 (by decide) rfl (fun z => absurd z (by decide)) (fun _ => ?_)
    refine st_iload_n (q := 11) dX12_mean_10 rfl rfl ?_
    refine rt_i dX12_mean_11 rfl ?_
    first | exact h1 (by omega) | exact h2 (by omega) (by omega)
  · refine st_istore_n (q := 6) (i := 2) dX12_mean_5 rfl (by decide) rfl ?_
    refine st_iload_n (q := 7) dX12_mean_6 rfl rfl ?_
    refine st_if_ge (q := 10) (tgt := 12) dX12_mean_7 (by decide) rfl (fun z => absurd z (by decide)) (fun _ => ?_)
    refine st_iload_n (q := 11) dX12_mean_10 rfl rfl ?_
    refine rt_i dX12_mean_11 rfl ?_
    first | exact h1 (by omega) | exact h2 (by omega) (by omega)
  · refine st_istore_n (q := 6) (i := 2) dX12_mean_5 rfl (by decide) rfl ?_
    refine st_iload_n (q := 7) dX12_mean_6 rfl rfl ?_
    refine st_if_ge (q := 10) (tgt := 12) dX12_mean_7 (by decide) rfl (fun _ => ?_) (fun z => absurd z (by decide))
    refine st_lconst (q := 13) (x := 0) dX12_mean_12 ⟨by decide, by decide, by decide⟩ rfl ?_
    refine st_lstore_n (q := 14) (i := 3) dX12_mean_13 rfl (by decide) rfl ?_
    refine st_iconst (q := 15) dX12_mean_14 ⟨by decide, by decide⟩ rfl ?_
    refine st_istore (q := 17) dX12_mean_15 (by decide) rfl ?_
    have e1 : hI h 119 r.toNat = ((hI h 119 r.toNat).toNat : Int) := by omega
    have := lp_X12_mean (d := d + 2) (h := h) (P := P) (r := r.toNat) (n := (hI h 119 r.toNat).toNat) w (by omega) (by omega) e1 ok (fun z => h3 (by omega) (by omega)) (fun z => by rw [← e1]; exact h4 (by omega) (by omega)) 0 (by omega)
    rw [Int.toNat_of_nonneg (by omega)] at this
    exact this
theorem lp_X12_text {d : Nat} {h : JH} {P : Int → JH → Prop} {n : Int} {r : Nat} {f : Nat → Int} (w : WF h) (hr : r < 4) (hP : P n (wI h 123 (fillF f (60 * r) 60 32))) (k : Nat) (hk : k ≤ 60) : JAt k0 d jX12_text 34 [vr 117, vi r, vi n, vi k] [] (wI h 123 (fillF f (60 * r) k 32)) (jqi P) := by
  refine st_iload_n (q := 35) dX12_text_34 rfl rfl ?_
  refine st_bipush (q := 37) dX12_text_35 ⟨by decide, by decide⟩ rfl ?_
  refine st_icmp_ge (q := 40) (tgt := 59) dX12_text_37 (by decide) rfl (fun c37 => ?_) (fun c37 => ?_)
  · refine st_iload_n (q := 60) dX12_text_59 rfl rfl ?_
    refine rt_i dX12_text_60 rfl ?_
    exact pq hP rfl (by rw [show k = 60 by omega])
  · refine st_aload_n (q := 41) dX12_text_40 rfl rfl ?_
    refine st_getR (q := 44) 12 9 dX12_text_41 fl_X12_29 (by decide) (by decide) rfl rfl (wfk w rfl) (wfR w rfl) ?_
    refine st_bipush (q := 46) dX12_text_44 ⟨by decide, by decide⟩ rfl ?_
    refine st_iload_n (q := 47) dX12_text_46 rfl rfl ?_
    first | refine n_imul (q := 48) dX12_text_47 rfl ⟨by omega, by omega⟩ ?_ | refine st_imul (q := 48) dX12_text_47 rfl ?_
    refine st_iload_n (q := 49) dX12_text_48 rfl rfl ?_
    first | refine n_iadd (q := 50) dX12_text_49 rfl ⟨by omega, by omega⟩ ?_ | refine st_iadd (q := 50) dX12_text_49 rfl ?_
    refine st_bipush (q := 52) dX12_text_50 ⟨by decide, by decide⟩ rfl ?_
    refine st_iastore (q := 53) dX12_text_52 rfl (wfk w rfl) (wfb w (n := 240) rfl ⟨by omega, by omega⟩) ?_
    first | refine n_iinc (q := 56) dX12_text_53 rfl (by decide) rfl ⟨by omega, by omega⟩ ?_ | refine st_iinc (q := 56) dX12_text_53 rfl (by decide) rfl ?_
    refine st_goto (q := 34) dX12_text_56 (by decide) ?_
    rw [sI_wI, show (60 * (r : Int) + k).toNat = 60 * r + k by omega, fillF_s]
    exact lp_X12_text w hr hP (k + 1) (by omega)
termination_by 60 - k
def textH (h : JH) (r n : Int) : JH := wI (sI h 122 r.toNat n) 123 (fillF (hI h 123) (60 * r.toNat) 60 32)
theorem c_X12_text {d : Nat} {h : JH} {P : Int → JH → Prop} {r n : Int} (w : WF h) (h1 : ¬ (0 ≤ r ∧ r ≤ 3) ∨ 60 < n → P (-1) h) (h2 : 0 ≤ r ∧ r ≤ 3 → n < 0 → P (-3) (mtH h 5)) (h3 : 0 ≤ r ∧ r ≤ 3 → 0 ≤ n → n ≤ 60 → P n (textH h r n)) : JRi (d + 2) jX12_text [vr 117, vi r, vi n] h P := by
  refine JRet.of rfl (Nat.le_of_ble_eq_true rfl) ?_
  refine st_iload_n (q := 1) dX12_text_0 rfl rfl ?_
  refine iS1i (q := 4) dX12_text_1 rfl ml_X12_142 ms_X12_isText (Nat.le_of_ble_eq_true rfl) ?_
  refine c_X12_isText ?_
  refine st_if_eq (q := 7) (tgt := 13) dX12_text_4 (by decide) rfl (fun c4 => ?_) (fun c4 => ?_)
  · refine st_iconst (q := 14) dX12_text_13 ⟨by decide, by decide⟩ rfl ?_
    refine rt_i dX12_text_14 rfl ?_
    first | exact h1 (by omega) | exact h2 (by omega) (by omega)
  · refine st_iload_n (q := 8) dX12_text_7 rfl rfl ?_
    refine st_bipush (q := 10) dX12_text_8 ⟨by decide, by decide⟩ rfl ?_
    refine st_icmp_le (q := 13) (tgt := 15) dX12_text_10 (by decide) rfl (fun c10 => ?_) (fun c10 => ?_)
    · refine st_iload_n (q := 16) dX12_text_15 rfl rfl ?_
      refine st_if_ge (q := 19) (tgt := 25) dX12_text_16 (by decide) rfl (fun c16 => ?_) (fun c16 => ?_)
      · refine st_aload_n (q := 26) dX12_text_25 rfl rfl ?_
        refine st_getR (q := 29) 12 8 dX12_text_26 fl_X12_26 (by decide) (by decide) rfl rfl (wfk w rfl) (wfR w rfl) ?_
        refine st_iload_n (q := 30) dX12_text_29 rfl rfl ?_
        refine st_iload_n (q := 31) dX12_text_30 rfl rfl ?_
        refine st_iastore (q := 32) dX12_text_31 rfl (wfk w rfl) (wfb w (n := 4) rfl ⟨by omega, by omega⟩) ?_
        refine st_iconst (q := 33) dX12_text_32 ⟨by decide, by decide⟩ rfl ?_
        refine st_istore_n (q := 34) (i := 3) dX12_text_33 rfl (by decide) rfl ?_
        have := lp_X12_text (d := d + 2) (h := sI h 122 r.toNat n) (n := n) (r := r.toNat) (f := hI h 123) w (by omega) (h3 (by omega) (by omega) (by omega)) 0 (by omega)
        rw [fillF_0, show hI h 123 = hI (sI h 122 r.toNat n) 123 from (sI_ne _ _ _ _ (by decide)).symm, wI_self, Int.toNat_of_nonneg (by omega)] at this
        exact this
      · refine st_aload_n (q := 20) dX12_text_19 rfl rfl ?_
        refine st_iconst (q := 21) dX12_text_20 ⟨by decide, by decide⟩ rfl ?_
        refine iV1i (q := 24) dX12_text_21 rfl ml_X12_138 mv_X12_meets (Nat.le_of_ble_eq_true rfl) (wfk w rfl) ?_
        refine c_X12_meets w (by decide) ?_
        refine rt_i dX12_text_24 rfl ?_
        first | exact h1 (by omega) | exact h2 (by omega) (by omega)
    · refine st_iconst (q := 14) dX12_text_13 ⟨by decide, by decide⟩ rfl ?_
      refine rt_i dX12_text_14 rfl ?_
      first | exact h1 (by omega) | exact h2 (by omega) (by omega)
theorem c_X12_put {d : Nat} {h : JH} {P : Int → JH → Prop} {r i v : Int} (w : WF h) (hz : ∀ k, k < 4 → hI h 122 k ≤ 60) (h1 : ¬ (0 ≤ r ∧ r ≤ 3) → P (-1) h) (h2 : 0 ≤ r ∧ r ≤ 3 → hI h 122 r.toNat < 0 → P (-3) (mtH h 1)) (h3 : 0 ≤ r ∧ r ≤ 3 → 0 ≤ hI h 122 r.toNat → ¬ (0 ≤ i ∧ i < hI h 122 r.toNat) → P (-3) (mtH h 2)) (h4 : 0 ≤ r ∧ r ≤ 3 → 0 ≤ hI h 122 r.toNat → 0 ≤ i ∧ i < hI h 122 r.toNat → P (w32 (hI h 123 (60 * r + i).toNat + 1000)) (sI h 123 (60 * r + i).toNat (i2b v))) : JRi (d + 3) jX12_put [vr 117, vi r, vi i, vi v] h P := by
  have hs : 0 ≤ r ∧ r ≤ 3 → hI h 122 r.toNat ≤ 60 := fun z => hz r.toNat (by omega)
  refine JRet.of rfl (Nat.le_of_ble_eq_true rfl) ?_
  refine st_aload_n (q := 1) dX12_put_0 rfl rfl ?_
  refine st_iload_n (q := 2) dX12_put_1 rfl rfl ?_
  refine iV1i (q := 5) dX12_put_2 rfl ml_X12_158 mv_X12_askedText (Nat.le_of_ble_eq_true rfl) (wfk w rfl) ?_
  refine c_X12_askedText w (fun a1 => ?_) (fun a1 a2 => ?_) (fun a1 a2 => ?_)
  · refine st_istore (q := 7) dX12_put_5 (by decide) rfl ?_
    refine st_iload (q := 9) dX12_put_7 rfl rfl ?_
    refine st_if_ge (q := 12) (tgt := 15) dX12_put_9 (by decide) rfl (fun z => absurd z (by decide)) (fun _ => ?_)
    refine st_iload (q := 14) dX12_put_12 rfl rfl ?_
    refine rt_i dX12_put_14 rfl ?_
    first | exact h1 (by omega) | exact h2 (by omega) (by omega) | exact h3 (by omega) (by omega) (by omega) | exact h4 (by omega) (by omega) (by omega)
  · refine st_istore (q := 7) dX12_put_5 (by decide) rfl ?_
    refine st_iload (q := 9) dX12_put_7 rfl rfl ?_
    refine st_if_ge (q := 12) (tgt := 15) dX12_put_9 (by decide) rfl (fun z => absurd z (by decide)) (fun _ => ?_)
    refine st_iload (q := 14) dX12_put_12 rfl rfl ?_
    refine rt_i dX12_put_14 rfl ?_
    first | exact h1 (by omega) | exact h2 (by omega) (by omega) | exact h3 (by omega) (by omega) (by omega) | exact h4 (by omega) (by omega) (by omega)
  · refine st_istore (q := 7) dX12_put_5 (by decide) rfl ?_
    refine st_iload (q := 9) dX12_put_7 rfl rfl ?_
    refine st_if_ge (q := 12) (tgt := 15) dX12_put_9 (by decide) rfl (fun _ => ?_) (fun z => absurd z (by decide))
    refine st_iload_n (q := 16) dX12_put_15 rfl rfl ?_
    refine st_iconst (q := 17) dX12_put_16 ⟨by decide, by decide⟩ rfl ?_
    refine st_aload_n (q := 18) dX12_put_17 rfl rfl ?_
    refine st_getR (q := 21) 12 8 dX12_put_18 fl_X12_26 (by decide) (by decide) rfl rfl (wfk w rfl) (wfR w rfl) ?_
    refine st_iload_n (q := 22) dX12_put_21 rfl rfl ?_
    refine st_iaload (q := 23) dX12_put_22 rfl (wfk w rfl) (wfb w (n := 4) rfl ⟨by omega, by omega⟩) ?_
    refine st_iconst (q := 24) dX12_put_23 ⟨by decide, by decide⟩ rfl ?_
    first | refine n_isub (q := 25) dX12_put_24 rfl ⟨by omega, by omega⟩ ?_ | refine st_isub (q := 25) dX12_put_24 rfl ?_
    refine iS3i (q := 28) dX12_put_25 rfl ml_X12_130 ms_X12_in (Nat.le_of_ble_eq_true rfl) ?_
    refine c_X12_in ?_
    refine st_if_ne (q := 31) (tgt := 37) dX12_put_28 (by decide) rfl (fun c28 => ?_) (fun c28 => ?_)
    · refine st_aload_n (q := 38) dX12_put_37 rfl rfl ?_
      refine st_getR (q := 41) 12 9 dX12_put_38 fl_X12_29 (by decide) (by decide) rfl rfl (wfk w rfl) (wfR w rfl) ?_
      refine st_bipush (q := 43) dX12_put_41 ⟨by decide, by decide⟩ rfl ?_
      refine st_iload_n (q := 44) dX12_put_43 rfl rfl ?_
      first | refine n_imul (q := 45) dX12_put_44 rfl ⟨by omega, by omega⟩ ?_ | refine st_imul (q := 45) dX12_put_44 rfl ?_
      refine st_iload_n (q := 46) dX12_put_45 rfl rfl ?_
      first | refine n_iadd (q := 47) dX12_put_46 rfl ⟨by omega, by omega⟩ ?_ | refine st_iadd (q := 47) dX12_put_46 rfl ?_
      refine st_iaload (q := 48) dX12_put_47 rfl (wfk w rfl) (wfb w (n := 240) rfl ⟨by omega, by omega⟩) ?_
      refine st_istore (q := 50) dX12_put_48 (by decide) rfl ?_
      refine st_aload_n (q := 51) dX12_put_50 rfl rfl ?_
      refine st_getR (q := 54) 12 9 dX12_put_51 fl_X12_29 (by decide) (by decide) rfl rfl (wfk w rfl) (wfR w rfl) ?_
      refine st_bipush (q := 56) dX12_put_54 ⟨by decide, by decide⟩ rfl ?_
      refine st_iload_n (q := 57) dX12_put_56 rfl rfl ?_
      first | refine n_imul (q := 58) dX12_put_57 rfl ⟨by omega, by omega⟩ ?_ | refine st_imul (q := 58) dX12_put_57 rfl ?_
      refine st_iload_n (q := 59) dX12_put_58 rfl rfl ?_
      first | refine n_iadd (q := 60) dX12_put_59 rfl ⟨by omega, by omega⟩ ?_ | refine st_iadd (q := 60) dX12_put_59 rfl ?_
      refine st_iload_n (q := 61) dX12_put_60 rfl rfl ?_
      refine st_i2b (q := 62) dX12_put_61 rfl ?_
      refine st_iastore (q := 63) dX12_put_62 rfl (wfk w rfl) (wfb w (n := 240) rfl ⟨by omega, by omega⟩) ?_
      refine st_iload (q := 65) dX12_put_63 rfl rfl ?_
      refine st_sipush (q := 68) dX12_put_65 ⟨by decide, by decide⟩ rfl ?_
      first | refine n_iadd (q := 69) dX12_put_68 rfl ⟨by omega, by omega⟩ ?_ | refine st_iadd (q := 69) dX12_put_68 rfl ?_
      refine rt_i dX12_put_69 rfl ?_
      first | exact h1 (by omega) | exact h2 (by omega) (by omega) | exact h3 (by omega) (by omega) (by omega) | exact h4 (by omega) (by omega) (by omega)
    · refine st_aload_n (q := 32) dX12_put_31 rfl rfl ?_
      refine st_iconst (q := 33) dX12_put_32 ⟨by decide, by decide⟩ rfl ?_
      refine iV1i (q := 36) dX12_put_33 rfl ml_X12_138 mv_X12_meets (Nat.le_of_ble_eq_true rfl) (wfk w rfl) ?_
      refine c_X12_meets w (by decide) ?_
      refine rt_i dX12_put_36 rfl ?_
      first | exact h1 (by omega) | exact h2 (by omega) (by omega) | exact h3 (by omega) (by omega) (by omega) | exact h4 (by omega) (by omega) (by omega)
def hideH (h : JH) (k a b c : Int) : JH := sI (sI (sI h 124 k.toNat a) 125 k.toNat b) 126 k.toNat c
theorem c_X12_hide {d : Nat} {h : JH} {P : Int → JH → Prop} {k a b c : Int} (w : WF h) (h1 : ¬ (0 ≤ k ∧ k ≤ 7 ∧ 1 ≤ a ∧ a ≤ 60 ∧ 1 ≤ b ∧ b ≤ 60 ∧ 1 ≤ c ∧ c ≤ 65535) → P (-1) h) (h2 : 0 ≤ k ∧ k ≤ 7 ∧ 1 ≤ a ∧ a ≤ 60 ∧ 1 ≤ b ∧ b ≤ 60 ∧ 1 ≤ c ∧ c ≤ 65535 → P (bitsF c 16) (hideH h k a b c)) : JRi (d + 2) jX12_hide [vr 117, vi k, vi a, vi b, vi c] h P := by
  refine JRet.of rfl (Nat.le_of_ble_eq_true rfl) ?_
  refine st_iload_n (q := 1) dX12_hide_0 rfl rfl ?_
  refine iS1i (q := 4) dX12_hide_1 rfl ml_X12_161 ms_X12_isHide (Nat.le_of_ble_eq_true rfl) ?_
  refine c_X12_isHide ?_
  refine st_if_eq (q := 7) (tgt := 38) dX12_hide_4 (by decide) rfl (fun c4 => ?_) (fun c4 => ?_)
  · refine st_iconst (q := 39) dX12_hide_38 ⟨by decide, by decide⟩ rfl ?_
    refine rt_i dX12_hide_39 rfl ?_
    first | exact h1 (by omega) | exact h2 (by omega)
  · refine st_iload_n (q := 8) dX12_hide_7 rfl rfl ?_
    refine st_iconst (q := 9) dX12_hide_8 ⟨by decide, by decide⟩ rfl ?_
    refine st_bipush (q := 11) dX12_hide_9 ⟨by decide, by decide⟩ rfl ?_
    refine iS3i (q := 14) dX12_hide_11 rfl ml_X12_130 ms_X12_in (Nat.le_of_ble_eq_true rfl) ?_
    refine c_X12_in ?_
    refine st_if_eq (q := 17) (tgt := 38) dX12_hide_14 (by decide) rfl (fun c14 => ?_) (fun c14 => ?_)
    · refine st_iconst (q := 39) dX12_hide_38 ⟨by decide, by decide⟩ rfl ?_
      refine rt_i dX12_hide_39 rfl ?_
      first | exact h1 (by omega) | exact h2 (by omega)
    · refine st_iload_n (q := 18) dX12_hide_17 rfl rfl ?_
      refine st_iconst (q := 19) dX12_hide_18 ⟨by decide, by decide⟩ rfl ?_
      refine st_bipush (q := 21) dX12_hide_19 ⟨by decide, by decide⟩ rfl ?_
      refine iS3i (q := 24) dX12_hide_21 rfl ml_X12_130 ms_X12_in (Nat.le_of_ble_eq_true rfl) ?_
      refine c_X12_in ?_
      refine st_if_eq (q := 27) (tgt := 38) dX12_hide_24 (by decide) rfl (fun c24 => ?_) (fun c24 => ?_)
      · refine st_iconst (q := 39) dX12_hide_38 ⟨by decide, by decide⟩ rfl ?_
        refine rt_i dX12_hide_39 rfl ?_
        first | exact h1 (by omega) | exact h2 (by omega)
      · refine st_iload (q := 29) dX12_hide_27 rfl rfl ?_
        refine st_iconst (q := 30) dX12_hide_29 ⟨by decide, by decide⟩ rfl ?_
        refine st_ldc (q := 32) (x := 65535) dX12_hide_30 ⟨by decide, by decide⟩ co_X12_167 rfl ?_
        refine iS3i (q := 35) dX12_hide_32 rfl ml_X12_130 ms_X12_in (Nat.le_of_ble_eq_true rfl) ?_
        refine c_X12_in ?_
        refine st_if_ne (q := 38) (tgt := 40) dX12_hide_35 (by decide) rfl (fun c35 => ?_) (fun c35 => ?_)
        · refine st_aload_n (q := 41) dX12_hide_40 rfl rfl ?_
          refine st_getR (q := 44) 12 10 dX12_hide_41 fl_X12_32 (by decide) (by decide) rfl rfl (wfk w rfl) (wfR w rfl) ?_
          refine st_iload_n (q := 45) dX12_hide_44 rfl rfl ?_
          refine st_iload_n (q := 46) dX12_hide_45 rfl rfl ?_
          refine st_iastore (q := 47) dX12_hide_46 rfl (wfk w rfl) (wfb w (n := 8) rfl ⟨by omega, by omega⟩) ?_
          refine st_aload_n (q := 48) dX12_hide_47 rfl rfl ?_
          refine st_getR (q := 51) 12 11 dX12_hide_48 fl_X12_35 (by decide) (by decide) rfl rfl (wfk w rfl) (wfR w rfl) ?_
          refine st_iload_n (q := 52) dX12_hide_51 rfl rfl ?_
          refine st_iload_n (q := 53) dX12_hide_52 rfl rfl ?_
          refine st_iastore (q := 54) dX12_hide_53 rfl (wfk w rfl) (wfb w (n := 8) rfl ⟨by omega, by omega⟩) ?_
          refine st_aload_n (q := 55) dX12_hide_54 rfl rfl ?_
          refine st_getR (q := 58) 12 12 dX12_hide_55 fl_X12_38 (by decide) (by decide) rfl rfl (wfk w rfl) (wfR w rfl) ?_
          refine st_iload_n (q := 59) dX12_hide_58 rfl rfl ?_
          refine st_iload (q := 61) dX12_hide_59 rfl rfl ?_
          refine st_iastore (q := 62) dX12_hide_61 rfl (wfk w rfl) (wfb w (n := 8) rfl ⟨by omega, by omega⟩) ?_
          refine st_iload (q := 64) dX12_hide_62 rfl rfl ?_
          refine iS1i (q := 67) dX12_hide_64 rfl ml_X12_168 ms_X12_bits (Nat.le_of_ble_eq_true rfl) ?_
          refine c_X12_bits ?_
          refine rt_i dX12_hide_67 rfl ?_
          first | exact h1 (by omega) | exact h2 (by omega)
        · refine st_iconst (q := 39) dX12_hide_38 ⟨by decide, by decide⟩ rfl ?_
          refine rt_i dX12_hide_39 rfl ?_
          first | exact h1 (by omega) | exact h2 (by omega)
theorem c_X12_drop {d : Nat} {h : JH} {P : Int → JH → Prop} {r : Int} (w : WF h) (h1 : ¬ (0 ≤ r ∧ r ≤ 7) → P (-1) h) (h2 : 0 ≤ r ∧ r ≤ 7 → hI h 126 r.toNat = 0 → P (-3) (mtH h 1)) (h3 : 0 ≤ r ∧ r ≤ 7 → hI h 126 r.toNat ≠ 0 → P 1 (sI h 126 r.toNat 0)) : JRi (d + 3) jX12_drop [vr 117, vi r] h P := by
  refine JRet.of rfl (Nat.le_of_ble_eq_true rfl) ?_
  refine st_aload_n (q := 1) dX12_drop_0 rfl rfl ?_
  refine st_iload_n (q := 2) dX12_drop_1 rfl rfl ?_
  refine iV1i (q := 5) dX12_drop_2 rfl ml_X12_171 mv_X12_askedHide (Nat.le_of_ble_eq_true rfl) (wfk w rfl) ?_
  refine c_X12_askedHide w (fun a1 => ?_) (fun a1 a2 => ?_) (fun a1 a2 => ?_)
  · refine st_istore_n (q := 6) (i := 2) dX12_drop_5 rfl (by decide) rfl ?_
    refine st_iload_n (q := 7) dX12_drop_6 rfl rfl ?_
    refine st_if_ge (q := 10) (tgt := 12) dX12_drop_7 (by decide) rfl (fun z => absurd z (by decide)) (fun _ => ?_)
    refine st_iload_n (q := 11) dX12_drop_10 rfl rfl ?_
    refine rt_i dX12_drop_11 rfl ?_
    first | exact h1 (by omega) | exact h2 (by omega) (by omega) | exact h3 (by omega) (by omega)
  · refine st_istore_n (q := 6) (i := 2) dX12_drop_5 rfl (by decide) rfl ?_
    refine st_iload_n (q := 7) dX12_drop_6 rfl rfl ?_
    refine st_if_ge (q := 10) (tgt := 12) dX12_drop_7 (by decide) rfl (fun z => absurd z (by decide)) (fun _ => ?_)
    refine st_iload_n (q := 11) dX12_drop_10 rfl rfl ?_
    refine rt_i dX12_drop_11 rfl ?_
    first | exact h1 (by omega) | exact h2 (by omega) (by omega) | exact h3 (by omega) (by omega)
  · refine st_istore_n (q := 6) (i := 2) dX12_drop_5 rfl (by decide) rfl ?_
    refine st_iload_n (q := 7) dX12_drop_6 rfl rfl ?_
    refine st_if_ge (q := 10) (tgt := 12) dX12_drop_7 (by decide) rfl (fun _ => ?_) (fun z => absurd z (by decide))
    refine st_aload_n (q := 13) dX12_drop_12 rfl rfl ?_
    refine st_getR (q := 16) 12 12 dX12_drop_13 fl_X12_38 (by decide) (by decide) rfl rfl (wfk w rfl) (wfR w rfl) ?_
    refine st_iload_n (q := 17) dX12_drop_16 rfl rfl ?_
    refine st_iconst (q := 18) dX12_drop_17 ⟨by decide, by decide⟩ rfl ?_
    refine st_iastore (q := 19) dX12_drop_18 rfl (wfk w rfl) (wfb w (n := 8) rfl ⟨by omega, by omega⟩) ?_
    refine st_iconst (q := 20) dX12_drop_19 ⟨by decide, by decide⟩ rfl ?_
    refine rt_i dX12_drop_20 rfl ?_
    first | exact h1 (by omega) | exact h2 (by omega) (by omega) | exact h3 (by omega) (by omega)
theorem c_X12_lamp {d : Nat} {h : JH} {P : Int → JH → Prop} {a b : Int} (w : WF h) (h1 : ¬ (2 ≤ a ∧ a ≤ 60 ∧ 0 ≤ b ∧ b ≤ 9) → P (-1) h) (h2 : 2 ≤ a ∧ a ≤ 60 ∧ 0 ≤ b ∧ b ≤ 9 → P 1 (sI (sI h 117 13 a) 117 14 b)) : JRi (d + 1) jX12_lamp [vr 117, vi a, vi b] h P := by
  refine JRet.of rfl (Nat.le_of_ble_eq_true rfl) ?_
  refine st_iload_n (q := 1) dX12_lamp_0 rfl rfl ?_
  refine st_iconst (q := 2) dX12_lamp_1 ⟨by decide, by decide⟩ rfl ?_
  refine st_bipush (q := 4) dX12_lamp_2 ⟨by decide, by decide⟩ rfl ?_
  refine iS3i (q := 7) dX12_lamp_4 rfl ml_X12_130 ms_X12_in (Nat.le_of_ble_eq_true rfl) ?_
  refine c_X12_in ?_
  refine st_if_eq (q := 10) (tgt := 20) dX12_lamp_7 (by decide) rfl (fun c7 => ?_) (fun c7 => ?_)
  · refine st_iconst (q := 21) dX12_lamp_20 ⟨by decide, by decide⟩ rfl ?_
    refine rt_i dX12_lamp_21 rfl ?_
    first | exact h1 (by omega) | exact h2 (by omega)
  · refine st_iload_n (q := 11) dX12_lamp_10 rfl rfl ?_
    refine st_iconst (q := 12) dX12_lamp_11 ⟨by decide, by decide⟩ rfl ?_
    refine st_bipush (q := 14) dX12_lamp_12 ⟨by decide, by decide⟩ rfl ?_
    refine iS3i (q := 17) dX12_lamp_14 rfl ml_X12_130 ms_X12_in (Nat.le_of_ble_eq_true rfl) ?_
    refine c_X12_in ?_
    refine st_if_ne (q := 20) (tgt := 22) dX12_lamp_17 (by decide) rfl (fun c17 => ?_) (fun c17 => ?_)
    · refine st_aload_n (q := 23) dX12_lamp_22 rfl rfl ?_
      refine st_iload_n (q := 24) dX12_lamp_23 rfl rfl ?_
      refine st_putI (q := 27) 12 13 dX12_lamp_24 fl_X12_41 (by decide) (by decide) (Or.inl rfl) rfl (Or.inl rfl) (wfk w rfl) ?_
      refine st_aload_n (q := 28) dX12_lamp_27 rfl rfl ?_
      refine st_iload_n (q := 29) dX12_lamp_28 rfl rfl ?_
      refine st_putI (q := 32) 12 14 dX12_lamp_29 fl_X12_45 (by decide) (by decide) (Or.inl rfl) rfl (Or.inl rfl) (wfk w rfl) ?_
      refine st_iconst (q := 33) dX12_lamp_32 ⟨by decide, by decide⟩ rfl ?_
      refine rt_i dX12_lamp_33 rfl ?_
      first | exact h1 (by omega) | exact h2 (by omega)
    · refine st_iconst (q := 21) dX12_lamp_20 ⟨by decide, by decide⟩ rfl ?_
      refine rt_i dX12_lamp_21 rfl ?_
      first | exact h1 (by omega) | exact h2 (by omega)
def tnN (o : Nat) : Nat → Nat
  | 0 => 0
  | c + 1 => tnN o c ||| (if o.testBit c then 2 ^ (c / 4 * 4 + 3 - c % 4) else 0)
theorem tnN_lt (o : Nat) : ∀ c, c ≤ 16 → tnN o c < 65536
  | 0, _ => by show 0 < 65536; decide
  | c + 1, h => by
    have h1 := tnN_lt o c (by omega)
    unfold tnN
    refine Nat.or_lt_two_pow (n := 16) h1 ?_
    split
    · exact Nat.pow_lt_pow_right (by omega) (by omega)
    · decide
theorem lp_X12_turned {d : Nat} {h : JH} {P : Int → JH → Prop} {o : Nat} (ho : o < 65536) (hP : P (tnN o 16 : Nat) h) (c : Nat) (hc : c ≤ 16) : JAt k0 (d + 1) jX12_turned 4 [vi o, vi (tnN o c : Nat), vi c] [] h (jqi P) := by
  have t1 := tnN_lt o c hc
  refine st_iload_n (q := 5) dX12_turned_4 rfl rfl ?_
  refine st_bipush (q := 7) dX12_turned_5 ⟨by decide, by decide⟩ rfl ?_
  refine st_icmp_ge (q := 10) (tgt := 44) dX12_turned_7 (by decide) rfl (fun c7 => ?_) (fun c7 => ?_)
  · refine st_iload_n (q := 45) dX12_turned_44 rfl rfl ?_
    refine rt_i dX12_turned_45 rfl ?_
    exact pq hP (by rw [show c = 16 by omega]) rfl
  · refine st_iload_n (q := 11) dX12_turned_10 rfl rfl ?_
    refine st_iload_n (q := 12) dX12_turned_11 rfl rfl ?_
    refine st_iload_n (q := 13) dX12_turned_12 rfl rfl ?_
    refine iS2i (q := 16) dX12_turned_13 rfl ml_X12_174 ms_X12_has (Nat.le_of_ble_eq_true rfl) ?_
    refine c_X12_has ?_
    apply j_mg 36
    · intro K1 K2
      refine st_if_eq (q := 19) (tgt := 35) dX12_turned_16 (by decide) rfl (fun c16 => ?_) (fun c16 => ?_)
      · refine st_iconst (q := 36) dX12_turned_35 ⟨by decide, by decide⟩ rfl ?_
        exact K1 c16
      · refine st_iconst (q := 20) dX12_turned_19 ⟨by decide, by decide⟩ rfl ?_
        refine st_iload_n (q := 21) dX12_turned_20 rfl rfl ?_
        refine st_iconst (q := 22) dX12_turned_21 ⟨by decide, by decide⟩ rfl ?_
        refine st_idiv (q := 23) dX12_turned_22 (by omega) rfl ?_
        rw [show (4 : Int) = ((4 : Nat) : Int) from rfl, idiv_n (by omega)]
        refine st_iconst (q := 24) dX12_turned_23 ⟨by decide, by decide⟩ rfl ?_
        first | refine n_imul (q := 25) dX12_turned_24 rfl ⟨by omega, by omega⟩ ?_ | refine st_imul (q := 25) dX12_turned_24 rfl ?_
        refine st_iconst (q := 26) dX12_turned_25 ⟨by decide, by decide⟩ rfl ?_
        first | refine n_iadd (q := 27) dX12_turned_26 rfl ⟨by omega, by omega⟩ ?_ | refine st_iadd (q := 27) dX12_turned_26 rfl ?_
        refine st_iload_n (q := 28) dX12_turned_27 rfl rfl ?_
        refine st_iconst (q := 29) dX12_turned_28 ⟨by decide, by decide⟩ rfl ?_
        refine st_irem (q := 30) dX12_turned_29 (by omega) rfl ?_
        rw [show (4 : Int) = ((4 : Nat) : Int) from rfl, tmod_n]
        first | refine n_isub (q := 31) dX12_turned_30 rfl ⟨by omega, by omega⟩ ?_ | refine st_isub (q := 31) dX12_turned_30 rfl ?_
        refine st_ishl (q := 32) dX12_turned_31 rfl ?_
        refine st_goto (q := 36) dX12_turned_32 (by decide) ?_
        exact K2 c16
    · simp only [jif_if]
      refine st_ior (q := 37) dX12_turned_36 rfl ?_
      refine st_istore_n (q := 38) (i := 1) dX12_turned_37 rfl (by decide) rfl ?_
      first | refine n_iinc (q := 41) dX12_turned_38 rfl (by decide) rfl ⟨by omega, by omega⟩ ?_ | refine st_iinc (q := 41) dX12_turned_38 rfl (by decide) rfl ?_
      refine st_goto (q := 4) dX12_turned_41 (by decide) ?_
      have e : ior (tnN o c : Nat) (if (if iand (ishr (o : Int) c) 1 = 1 then (1 : Int) else 0) = 0 then 0 else ishl 1 (((c / 4 : Nat) : Int) * ((4 : Nat) : Int) + 3 - ((c % 4 : Nat) : Int))) = (tnN o (c + 1) : Nat) := by
        rw [bit_n (by omega) (by omega), show (((c / 4 : Nat) : Int) * ((4 : Nat) : Int) + 3 - ((c % 4 : Nat) : Int)) = ((c / 4 * 4 + 3 - c % 4 : Nat) : Int) by omega, show (1 : Int) = ((1 : Nat) : Int) from rfl, ishl_n (by omega) (by have := Nat.pow_lt_pow_right (show 1 < 2 by omega) (show c / 4 * 4 + 3 - c % 4 < 31 by omega); omega)]
        rw [show tnN o (c + 1) = tnN o c ||| (if o.testBit c then 2 ^ (c / 4 * 4 + 3 - c % 4) else 0) from rfl]
        cases o.testBit c
        · simp
          have := ior_n (a := tnN o c) (b := 0) (by omega) (by omega)
          rw [Nat.or_zero] at this
          exact this
        · simp
          rw [show (2 : Int) ^ (c / 4 * 4 + 3 - c % 4) = ((2 ^ (c / 4 * 4 + 3 - c % 4) : Nat) : Int) by simp, ior_n (by omega) (by have := Nat.pow_lt_pow_right (show 1 < 2 by omega) (show c / 4 * 4 + 3 - c % 4 < 31 by omega); omega)]
      rw [e]
      exact lp_X12_turned ho hP (c + 1) (by omega)
termination_by 16 - c
theorem c_X12_turned {d : Nat} {h : JH} {P : Int → JH → Prop} {o : Nat} (ho : o < 65536) (hP : P (tnN o 16 : Nat) h) : JRi (d + 1) jX12_turned [vi o] h P := by
  refine JRet.of rfl (Nat.le_of_ble_eq_true rfl) ?_
  refine st_iconst (q := 1) dX12_turned_0 ⟨by decide, by decide⟩ rfl ?_
  refine st_istore_n (q := 2) (i := 1) dX12_turned_1 rfl (by decide) rfl ?_
  refine st_iconst (q := 3) dX12_turned_2 ⟨by decide, by decide⟩ rfl ?_
  refine st_istore_n (q := 4) (i := 2) dX12_turned_3 rfl (by decide) rfl ?_
  exact lp_X12_turned ho hP 0 (by omega)

