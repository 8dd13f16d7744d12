/-! the reference: scenes read -/
theorem ltK_b (C : Nat → Int) : ∀ (m p sh hd : Nat), sh < 256 → hd < 256 → pcN hd 16 ≤ 2 → (hidP C m p sh hd).2.2.1 < 256 ∧ (hidP C m p sh hd).2.2.2 < 256 ∧ p ≤ (hidP C m p sh hd).2.1
  | 0, p, sh, hd, h1, h2, _ => ⟨h1, h2, Nat.le_refl _⟩
  | m + 1, p, sh, hd, h1, h2, h3 => by
    unfold hidP
    by_cases z : (97 ≤ C p ∧ C p ≤ 104) ∨ (65 ≤ C p ∧ C p ≤ 72)
    · rw [if_pos z]
      by_cases z2 : sh.testBit (ltK (C p)) = true ∨ (C p < 97 ∧ pcN hd 16 = 2)
      · rw [if_pos z2]; exact ⟨h1, h2, Nat.le_refl _⟩
      · rw [if_neg z2]
        have kb := p8 (ltK_lt z)
        have := ltK_b C m (p + 1) (sh ||| 2 ^ ltK (C p)) (if C p < 97 then hd ||| 2 ^ ltK (C p) else hd) (Nat.or_lt_two_pow (n := 8) h1 kb) (by split; exact Nat.or_lt_two_pow (n := 8) h2 kb; exact h2) (by
          split
          · have t := pc_or1 (a := hd) (ltK_lt z); omega
          · exact h3)
        exact ⟨this.1, this.2.1, by have := this.2.2; omega⟩
    · rw [if_neg z]; exact ⟨h1, h2, Nat.le_refl _⟩
theorem hidP_n {T : Nat → Int} {n : Nat} : ∀ (m p sh hd : Nat), p ≤ n → (hidP (chT T n) m p sh hd).2.1 ≤ n
  | 0, p, sh, hd, h => h
  | m + 1, p, sh, hd, h => by
    unfold hidP
    by_cases z : (97 ≤ chT T n p ∧ chT T n p ≤ 104) ∨ (65 ≤ chT T n p ∧ chT T n p ≤ 72)
    · have q := chT_lt (show chT T n p ≠ -9 by omega)
      rw [if_pos z]
      split
      · exact h
      · exact hidP_n m (p + 1) _ _ (by omega)
    · rw [if_neg z]; exact h
theorem sh2 {k : Nat} (hk : k < 31) : ishl 1 k = ((2 ^ k : Nat) : Int) := by
  have := ishl_n (a := 1) (k := k) (by omega) (by rw [Nat.one_mul]; exact p31 hk)
  rw [Nat.one_mul] at this
  exact this
theorem lp_X12_readsHides {d : Nat} {h : JH} {P : Int → JH → Prop} {t n s : Nat} {T : Nat → Int} {R : Bool × Nat × Nat × Nat} (w0 : WF h) (x0 : TM h t T n) (ht : t < 4) (hn : n ≤ 60) (hs : s < 12) (hP : ∀ h', Fr (ScS s) h h' → hI h' 117 21 = (s : Int) → hI h' 117 27 = (R.2.1 : Int) → hI h' 132 s = (R.2.2.1 : Int) → hI h' 133 s = (R.2.2.2 : Int) → P (if R.1 then 1 else 0) h') (q : Nat) (hq : q ≤ n) : ∀ (h' : JH) (sh hd : Nat) (j3 j4 : JV), Fr (ScS s) h h' → hI h' 117 21 = (s : Int) → hI h' 117 27 = (q : Int) → hI h' 132 s = (sh : Int) → hI h' 133 s = (hd : Int) → sh < 256 → hd < 256 → pcN hd 16 ≤ 2 → hidP (chT T n) (61 - q) q sh hd = R → JAt k0 (d + 1) jX12_readsHides 19 [vr 117, vi t, vi s, j3, j4] [] h' (jqi P) := by
  intro h' sh hd j3 j4 f g21 g27 g132 g133 b1 b2 b3 he
  have w := f.wf w0
  have x := x0.fr f
  have lt : ∀ q, chT T n q ≠ -9 → q < n := fun q z => chT_lt z
  rw [show 61 - q = (60 - q) + 1 by omega] at he
  unfold hidP at he
  generalize hC : chT T n = C at *
  have kb : (97 ≤ C q ∧ C q ≤ 104) ∨ (65 ≤ C q ∧ C q ≤ 72) → ltK (C q) < 8 ∧ 2 ^ ltK (C q) < 256 := fun z => ⟨ltK_lt z, p8 (ltK_lt z)⟩
  refine st_aload_n (q := 20) dX12_readsHides_19 rfl rfl ?_
  refine st_iload_n (q := 21) dX12_readsHides_20 rfl rfl ?_
  refine iV1i (q := 24) dX12_readsHides_21 rfl ml_X12_197 mv_X12_here (Nat.le_of_ble_eq_true rfl) (wfk w rfl) ?_
  refine c_X12_here w x ht hn g27 ?_
  rw [hC]
  refine st_bipush (q := 26) dX12_readsHides_24 ⟨by decide, by decide⟩ rfl ?_
  refine st_bipush (q := 28) dX12_readsHides_26 ⟨by decide, by decide⟩ rfl ?_
  refine iS3i (q := 31) dX12_readsHides_28 rfl ml_X12_130 ms_X12_in (Nat.le_of_ble_eq_true rfl) ?_
  refine c_X12_in ?_
  refine st_if_ne (q := 34) (tgt := 49) dX12_readsHides_31 (by decide) rfl (fun c31 => ?_) (fun c31 => ?_)
  · refine st_aload_n (q := 50) dX12_readsHides_49 rfl rfl ?_
    refine st_iload_n (q := 51) dX12_readsHides_50 rfl rfl ?_
    refine iV1i (q := 54) dX12_readsHides_51 rfl ml_X12_197 mv_X12_here (Nat.le_of_ble_eq_true rfl) (wfk w rfl) ?_
    refine c_X12_here w x ht hn g27 ?_
    rw [hC]
    refine st_bipush (q := 56) dX12_readsHides_54 ⟨by decide, by decide⟩ rfl ?_
    refine st_icmp_ge (q := 59) (tgt := 63) dX12_readsHides_56 (by decide) rfl (fun c56 => ?_) (fun c56 => ?_)
    · refine st_iconst (q := 64) dX12_readsHides_63 ⟨by decide, by decide⟩ rfl ?_
      refine st_istore_n (q := 65) (i := 3) dX12_readsHides_64 rfl (by decide) rfl ?_
      refine st_iload_n (q := 66) dX12_readsHides_65 rfl rfl ?_
      refine st_if_eq (q := 69) (tgt := 80) dX12_readsHides_66 (by decide) rfl (fun _ => ?_) (fun z => absurd z (by decide))
      refine st_aload_n (q := 81) dX12_readsHides_80 rfl rfl ?_
      refine st_iload_n (q := 82) dX12_readsHides_81 rfl rfl ?_
      refine iV1i (q := 85) dX12_readsHides_82 rfl ml_X12_197 mv_X12_here (Nat.le_of_ble_eq_true rfl) (wfk w rfl) ?_
      refine c_X12_here w x ht hn g27 ?_
      rw [hC]
      refine st_bipush (q := 87) dX12_readsHides_85 ⟨by decide, by decide⟩ rfl ?_
      first | refine n_isub (q := 88) dX12_readsHides_87 rfl ⟨by omega, by omega⟩ ?_ | refine st_isub (q := 88) dX12_readsHides_87 rfl ?_
      have zl : (97 ≤ C q ∧ C q ≤ 104) ∨ (65 ≤ C q ∧ C q ≤ 72) := (by omega)
      have kz := kb zl
      rw [if_pos zl] at he
      refine j_top ((ltK (C q) : Nat) : Int) (by unfold ltK; split <;> omega) ?_
      refine st_istore (q := 90) dX12_readsHides_88 (by decide) rfl ?_
      refine st_aload_n (q := 91) dX12_readsHides_90 rfl rfl ?_
      refine st_getR (q := 94) 12 22 dX12_readsHides_91 fl_X12_63 (by decide) (by decide) rfl rfl (wfk w rfl) (wfR w rfl) ?_
      refine st_iload_n (q := 95) dX12_readsHides_94 rfl rfl ?_
      refine st_iaload (q := 96) dX12_readsHides_95 rfl (wfk w rfl) (wfb w (n := 12) rfl ⟨by omega, by omega⟩) ?_
      refine j_top (sh : Int) g132 ?_
      refine st_iload (q := 98) dX12_readsHides_96 rfl rfl ?_
      refine iS2i (q := 101) dX12_readsHides_98 rfl ml_X12_174 ms_X12_has (Nat.le_of_ble_eq_true rfl) ?_
      refine c_X12_hasN (by omega) (by omega) ?_
      refine st_if_ne (q := 104) (tgt := 121) dX12_readsHides_101 (by decide) rfl (fun c101 => ?_) (fun c101 => ?_)
      · refine st_iconst (q := 122) dX12_readsHides_121 ⟨by decide, by decide⟩ rfl ?_
        refine rt_z dX12_readsHides_122 rfl (by (repeat' split) <;> omega) ?_
        rw [if_pos (by first | exact Or.inl (tb1.mp c101) | exact Or.inr ⟨by omega, by omega⟩)] at he
        have tk := hP _ f g21 (by rw [← he]; exact g27) (by rw [← he]; exact g132) (by rw [← he]; exact g133)
        rw [← he] at tk
        exact tk
      · refine st_iload_n (q := 105) dX12_readsHides_104 rfl rfl ?_
        refine st_if_eq (q := 108) (tgt := 123) dX12_readsHides_105 (by decide) rfl (fun _ => ?_) (fun z => absurd z (by decide))
        refine st_aload_n (q := 124) dX12_readsHides_123 rfl rfl ?_
        refine st_getR (q := 127) 12 22 dX12_readsHides_124 fl_X12_63 (by decide) (by decide) rfl rfl (wfk w rfl) (wfR w rfl) ?_
        refine st_iload_n (q := 128) dX12_readsHides_127 rfl rfl ?_
        refine st_dup2 (q := 129) dX12_readsHides_128 rfl rfl rfl ?_
        refine st_iaload (q := 130) dX12_readsHides_129 rfl (wfk w rfl) (wfb w (n := 12) rfl ⟨by omega, by omega⟩) ?_
        refine j_top (sh : Int) g132 ?_
        refine st_iconst (q := 131) dX12_readsHides_130 ⟨by decide, by decide⟩ rfl ?_
        refine st_iload (q := 133) dX12_readsHides_131 rfl rfl ?_
        refine st_ishl (q := 134) dX12_readsHides_133 rfl ?_
        refine j_top ((2 ^ ltK (C q) : Nat) : Int) (sh2 (by omega)) ?_
        refine st_ior (q := 135) dX12_readsHides_134 rfl ?_
        rw [ior_n (by omega) (by omega)]
        refine st_iastore (q := 136) dX12_readsHides_135 rfl (wfk w rfl) (wfb w (n := 12) rfl ⟨by omega, by omega⟩) ?_
        refine st_aload_n (q := 137) dX12_readsHides_136 rfl rfl ?_
        refine st_getR (q := 140) 12 23 dX12_readsHides_137 fl_X12_66 (by decide) (by decide) rfl rfl (wfk w rfl) (wfR w rfl) ?_
        refine st_iload_n (q := 141) dX12_readsHides_140 rfl rfl ?_
        refine st_dup2 (q := 142) dX12_readsHides_141 rfl rfl rfl ?_
        refine st_iaload (q := 143) dX12_readsHides_142 rfl (wfk w rfl) (wfb w (n := 12) rfl ⟨by omega, by omega⟩) ?_
        refine j_top (hd : Int) (by rw [sI_o _ (by decide)]; exact g133) ?_
        refine st_iload_n (q := 144) dX12_readsHides_143 rfl rfl ?_
        refine st_if_eq (q := 147) (tgt := 154) dX12_readsHides_144 (by decide) rfl (fun _ => ?_) (fun z => absurd z (by decide))
        refine st_iconst (q := 155) dX12_readsHides_154 ⟨by decide, by decide⟩ rfl ?_
        refine st_ior (q := 156) dX12_readsHides_155 rfl ?_
        refine j_top (((if C q < 97 then hd ||| 2 ^ ltK (C q) else hd : Nat)) : Int) (by first | (rw [if_pos (by omega)]; exact ior_n (by omega) (by omega)) | (rw [if_neg (by omega)]; have t := ior_n (a := hd) (b := 0) (by omega) (by omega); rw [Nat.or_zero] at t; exact t)) ?_
        refine st_iastore (q := 157) dX12_readsHides_156 rfl (wfk w rfl) (wfb w (n := 12) rfl ⟨by omega, by omega⟩) ?_
        refine st_aload_n (q := 158) dX12_readsHides_157 rfl rfl ?_
        refine st_dup (q := 159) dX12_readsHides_158 rfl rfl ?_
        refine st_getI (q := 162) 12 27 dX12_readsHides_159 fl_X12_191 (by decide) (by decide) rfl rfl (wfk w rfl) ?_
        refine j_top (q : Int) (by rw [sI_o _ (by decide), sI_o _ (by decide)]; exact g27) ?_
        refine st_iconst (q := 163) dX12_readsHides_162 ⟨by decide, by decide⟩ rfl ?_
        first | refine n_iadd (q := 164) dX12_readsHides_163 rfl ⟨by omega, by omega⟩ ?_ | refine st_iadd (q := 164) dX12_readsHides_163 rfl ?_
        refine st_putI (q := 167) 12 27 dX12_readsHides_164 fl_X12_191 (by decide) (by decide) (Or.inl rfl) rfl (Or.inl rfl) (wfk w rfl) ?_
        refine st_goto (q := 19) dX12_readsHides_167 (by decide) ?_
        have hqn := lt q (by omega)
        rw [if_neg (by rintro (zz | zz); exact absurd c101 (tb1.mpr zz); omega)] at he
        subst hC
        refine lp_X12_readsHides w0 x0 ht hn hs hP (q + 1) (by omega) _ (sh ||| 2 ^ ltK (chT T n q)) (if chT T n q < 97 then hd ||| 2 ^ ltK (chT T n q) else hd) _ _ (((f.sI _ (by unfold ScS; omega)).sI _ (by unfold ScS; omega)).sI _ sS_27) (by rw [sI_k _ (by decide), sI_o _ (by decide), sI_o _ (by decide)]; exact g21) (by rw [sI_s]; omega) (by rw [sI_o _ (by decide), sI_o _ (by decide), show ((s : Int)).toNat = s from rfl, sI_s]) (by rw [sI_o _ (by decide), show ((s : Int)).toNat = s from rfl, sI_s]) (Nat.or_lt_two_pow (n := 8) b1 kz.2) (by split; exact Nat.or_lt_two_pow (n := 8) b2 kz.2; exact b2) ?_ (by rw [show 61 - (q + 1) = 60 - q by omega]; exact he)
        split
        · have tp := pc_or1 (a := hd) kz.1
          omega
        · exact b3
    · refine st_iconst (q := 60) dX12_readsHides_59 ⟨by decide, by decide⟩ rfl ?_
      refine st_goto (q := 64) dX12_readsHides_60 (by decide) ?_
      refine st_istore_n (q := 65) (i := 3) dX12_readsHides_64 rfl (by decide) rfl ?_
      refine st_iload_n (q := 66) dX12_readsHides_65 rfl rfl ?_
      refine st_if_eq (q := 69) (tgt := 80) dX12_readsHides_66 (by decide) rfl (fun z => absurd z (by decide)) (fun _ => ?_)
      refine st_aload_n (q := 70) dX12_readsHides_69 rfl rfl ?_
      refine st_iload_n (q := 71) dX12_readsHides_70 rfl rfl ?_
      refine iV1i (q := 74) dX12_readsHides_71 rfl ml_X12_197 mv_X12_here (Nat.le_of_ble_eq_true rfl) (wfk w rfl) ?_
      refine c_X12_here w x ht hn g27 ?_
      rw [hC]
      refine st_bipush (q := 76) dX12_readsHides_74 ⟨by decide, by decide⟩ rfl ?_
      first | refine n_isub (q := 77) dX12_readsHides_76 rfl ⟨by omega, by omega⟩ ?_ | refine st_isub (q := 77) dX12_readsHides_76 rfl ?_
      refine st_goto (q := 88) dX12_readsHides_77 (by decide) ?_
      have zl : (97 ≤ C q ∧ C q ≤ 104) ∨ (65 ≤ C q ∧ C q ≤ 72) := (by omega)
      have kz := kb zl
      rw [if_pos zl] at he
      refine j_top ((ltK (C q) : Nat) : Int) (by unfold ltK; split <;> omega) ?_
      refine st_istore (q := 90) dX12_readsHides_88 (by decide) rfl ?_
      refine st_aload_n (q := 91) dX12_readsHides_90 rfl rfl ?_
      refine st_getR (q := 94) 12 22 dX12_readsHides_91 fl_X12_63 (by decide) (by decide) rfl rfl (wfk w rfl) (wfR w rfl) ?_
      refine st_iload_n (q := 95) dX12_readsHides_94 rfl rfl ?_
      refine st_iaload (q := 96) dX12_readsHides_95 rfl (wfk w rfl) (wfb w (n := 12) rfl ⟨by omega, by omega⟩) ?_
      refine j_top (sh : Int) g132 ?_
      refine st_iload (q := 98) dX12_readsHides_96 rfl rfl ?_
      refine iS2i (q := 101) dX12_readsHides_98 rfl ml_X12_174 ms_X12_has (Nat.le_of_ble_eq_true rfl) ?_
      refine c_X12_hasN (by omega) (by omega) ?_
      refine st_if_ne (q := 104) (tgt := 121) dX12_readsHides_101 (by decide) rfl (fun c101 => ?_) (fun c101 => ?_)
      · refine st_iconst (q := 122) dX12_readsHides_121 ⟨by decide, by decide⟩ rfl ?_
        refine rt_z dX12_readsHides_122 rfl (by (repeat' split) <;> omega) ?_
        rw [if_pos (by first | exact Or.inl (tb1.mp c101) | exact Or.inr ⟨by omega, by omega⟩)] at he
        have tk := hP _ f g21 (by rw [← he]; exact g27) (by rw [← he]; exact g132) (by rw [← he]; exact g133)
        rw [← he] at tk
        exact tk
      · refine st_iload_n (q := 105) dX12_readsHides_104 rfl rfl ?_
        refine st_if_eq (q := 108) (tgt := 123) dX12_readsHides_105 (by decide) rfl (fun z => absurd z (by decide)) (fun _ => ?_)
        refine st_aload_n (q := 109) dX12_readsHides_108 rfl rfl ?_
        refine st_getR (q := 112) 12 23 dX12_readsHides_109 fl_X12_66 (by decide) (by decide) rfl rfl (wfk w rfl) (wfR w rfl) ?_
        refine st_iload_n (q := 113) dX12_readsHides_112 rfl rfl ?_
        refine st_iaload (q := 114) dX12_readsHides_113 rfl (wfk w rfl) (wfb w (n := 12) rfl ⟨by omega, by omega⟩) ?_
        refine j_top (hd : Int) g133 ?_
        refine iS1i (q := 117) dX12_readsHides_114 rfl ml_X12_168 ms_X12_bits (Nat.le_of_ble_eq_true rfl) ?_
        refine c_X12_bits ?_
        rw [bitsF_n (by omega) 16 (by omega)]
        refine st_iconst (q := 118) dX12_readsHides_117 ⟨by decide, by decide⟩ rfl ?_
        refine st_icmp_ne (q := 121) (tgt := 123) dX12_readsHides_118 (by decide) rfl (fun c118 => ?_) (fun c118 => ?_)
        · refine st_aload_n (q := 124) dX12_readsHides_123 rfl rfl ?_
          refine st_getR (q := 127) 12 22 dX12_readsHides_124 fl_X12_63 (by decide) (by decide) rfl rfl (wfk w rfl) (wfR w rfl) ?_
          refine st_iload_n (q := 128) dX12_readsHides_127 rfl rfl ?_
          refine st_dup2 (q := 129) dX12_readsHides_128 rfl rfl rfl ?_
          refine st_iaload (q := 130) dX12_readsHides_129 rfl (wfk w rfl) (wfb w (n := 12) rfl ⟨by omega, by omega⟩) ?_
          refine j_top (sh : Int) g132 ?_
          refine st_iconst (q := 131) dX12_readsHides_130 ⟨by decide, by decide⟩ rfl ?_
          refine st_iload (q := 133) dX12_readsHides_131 rfl rfl ?_
          refine st_ishl (q := 134) dX12_readsHides_133 rfl ?_
          refine j_top ((2 ^ ltK (C q) : Nat) : Int) (sh2 (by omega)) ?_
          refine st_ior (q := 135) dX12_readsHides_134 rfl ?_
          rw [ior_n (by omega) (by omega)]
          refine st_iastore (q := 136) dX12_readsHides_135 rfl (wfk w rfl) (wfb w (n := 12) rfl ⟨by omega, by omega⟩) ?_
          refine st_aload_n (q := 137) dX12_readsHides_136 rfl rfl ?_
          refine st_getR (q := 140) 12 23 dX12_readsHides_137 fl_X12_66 (by decide) (by decide) rfl rfl (wfk w rfl) (wfR w rfl) ?_
          refine st_iload_n (q := 141) dX12_readsHides_140 rfl rfl ?_
          refine st_dup2 (q := 142) dX12_readsHides_141 rfl rfl rfl ?_
          refine st_iaload (q := 143) dX12_readsHides_142 rfl (wfk w rfl) (wfb w (n := 12) rfl ⟨by omega, by omega⟩) ?_
          refine j_top (hd : Int) (by rw [sI_o _ (by decide)]; exact g133) ?_
          refine st_iload_n (q := 144) dX12_readsHides_143 rfl rfl ?_
          refine st_if_eq (q := 147) (tgt := 154) dX12_readsHides_144 (by decide) rfl (fun z => absurd z (by decide)) (fun _ => ?_)
          refine st_iconst (q := 148) dX12_readsHides_147 ⟨by decide, by decide⟩ rfl ?_
          refine st_iload (q := 150) dX12_readsHides_148 rfl rfl ?_
          refine st_ishl (q := 151) dX12_readsHides_150 rfl ?_
          refine j_top ((2 ^ ltK (C q) : Nat) : Int) (sh2 (by omega)) ?_
          refine st_goto (q := 155) dX12_readsHides_151 (by decide) ?_
          refine st_ior (q := 156) dX12_readsHides_155 rfl ?_
          refine j_top (((if C q < 97 then hd ||| 2 ^ ltK (C q) else hd : Nat)) : Int) (by first | (rw [if_pos (by omega)]; exact ior_n (by omega) (by omega)) | (rw [if_neg (by omega)]; have t := ior_n (a := hd) (b := 0) (by omega) (by omega); rw [Nat.or_zero] at t; exact t)) ?_
          refine st_iastore (q := 157) dX12_readsHides_156 rfl (wfk w rfl) (wfb w (n := 12) rfl ⟨by omega, by omega⟩) ?_
          refine st_aload_n (q := 158) dX12_readsHides_157 rfl rfl ?_
          refine st_dup (q := 159) dX12_readsHides_158 rfl rfl ?_
          refine st_getI (q := 162) 12 27 dX12_readsHides_159 fl_X12_191 (by decide) (by decide) rfl rfl (wfk w rfl) ?_
          refine j_top (q : Int) (by rw [sI_o _ (by decide), sI_o _ (by decide)]; exact g27) ?_
          refine st_iconst (q := 163) dX12_readsHides_162 ⟨by decide, by decide⟩ rfl ?_
          first | refine n_iadd (q := 164) dX12_readsHides_163 rfl ⟨by omega, by omega⟩ ?_ | refine st_iadd (q := 164) dX12_readsHides_163 rfl ?_
          refine st_putI (q := 167) 12 27 dX12_readsHides_164 fl_X12_191 (by decide) (by decide) (Or.inl rfl) rfl (Or.inl rfl) (wfk w rfl) ?_
          refine st_goto (q := 19) dX12_readsHides_167 (by decide) ?_
          have hqn := lt q (by omega)
          rw [if_neg (by rintro (zz | zz); exact absurd c101 (tb1.mpr zz); omega)] at he
          subst hC
          refine lp_X12_readsHides w0 x0 ht hn hs hP (q + 1) (by omega) _ (sh ||| 2 ^ ltK (chT T n q)) (if chT T n q < 97 then hd ||| 2 ^ ltK (chT T n q) else hd) _ _ (((f.sI _ (by unfold ScS; omega)).sI _ (by unfold ScS; omega)).sI _ sS_27) (by rw [sI_k _ (by decide), sI_o _ (by decide), sI_o _ (by decide)]; exact g21) (by rw [sI_s]; omega) (by rw [sI_o _ (by decide), sI_o _ (by decide), show ((s : Int)).toNat = s from rfl, sI_s]) (by rw [sI_o _ (by decide), show ((s : Int)).toNat = s from rfl, sI_s]) (Nat.or_lt_two_pow (n := 8) b1 kz.2) (by split; exact Nat.or_lt_two_pow (n := 8) b2 kz.2; exact b2) ?_ (by rw [show 61 - (q + 1) = 60 - q by omega]; exact he)
          split
          · have tp := pc_or1 (a := hd) kz.1
            omega
          · exact b3
        · refine st_iconst (q := 122) dX12_readsHides_121 ⟨by decide, by decide⟩ rfl ?_
          refine rt_z dX12_readsHides_122 rfl (by (repeat' split) <;> omega) ?_
          rw [if_pos (by first | exact Or.inl (tb1.mp c101) | exact Or.inr ⟨by omega, by omega⟩)] at he
          have tk := hP _ f g21 (by rw [← he]; exact g27) (by rw [← he]; exact g132) (by rw [← he]; exact g133)
          rw [← he] at tk
          exact tk
  · refine st_aload_n (q := 35) dX12_readsHides_34 rfl rfl ?_
    refine st_iload_n (q := 36) dX12_readsHides_35 rfl rfl ?_
    refine iV1i (q := 39) dX12_readsHides_36 rfl ml_X12_197 mv_X12_here (Nat.le_of_ble_eq_true rfl) (wfk w rfl) ?_
    refine c_X12_here w x ht hn g27 ?_
    rw [hC]
    refine st_bipush (q := 41) dX12_readsHides_39 ⟨by decide, by decide⟩ rfl ?_
    refine st_bipush (q := 43) dX12_readsHides_41 ⟨by decide, by decide⟩ rfl ?_
    refine iS3i (q := 46) dX12_readsHides_43 rfl ml_X12_130 ms_X12_in (Nat.le_of_ble_eq_true rfl) ?_
    refine c_X12_in ?_
    refine st_if_eq (q := 49) (tgt := 170) dX12_readsHides_46 (by decide) rfl (fun c46 => ?_) (fun c46 => ?_)
    · refine st_iconst (q := 171) dX12_readsHides_170 ⟨by decide, by decide⟩ rfl ?_
      refine rt_z dX12_readsHides_171 rfl (by (repeat' split) <;> omega) ?_
      rw [if_neg (by omega)] at he
      have tk := hP _ f g21 (by rw [← he]; exact g27) (by rw [← he]; exact g132) (by rw [← he]; exact g133)
      rw [← he] at tk
      exact tk
    · refine st_aload_n (q := 50) dX12_readsHides_49 rfl rfl ?_
      refine st_iload_n (q := 51) dX12_readsHides_50 rfl rfl ?_
      refine iV1i (q := 54) dX12_readsHides_51 rfl ml_X12_197 mv_X12_here (Nat.le_of_ble_eq_true rfl) (wfk w rfl) ?_
      refine c_X12_here w x ht hn g27 ?_
      rw [hC]
      refine st_bipush (q := 56) dX12_readsHides_54 ⟨by decide, by decide⟩ rfl ?_
      refine st_icmp_ge (q := 59) (tgt := 63) dX12_readsHides_56 (by decide) rfl (fun c56 => ?_) (fun c56 => ?_)
      · refine st_iconst (q := 64) dX12_readsHides_63 ⟨by decide, by decide⟩ rfl ?_
        refine st_istore_n (q := 65) (i := 3) dX12_readsHides_64 rfl (by decide) rfl ?_
        refine st_iload_n (q := 66) dX12_readsHides_65 rfl rfl ?_
        refine st_if_eq (q := 69) (tgt := 80) dX12_readsHides_66 (by decide) rfl (fun _ => ?_) (fun z => absurd z (by decide))
        refine st_aload_n (q := 81) dX12_readsHides_80 rfl rfl ?_
        refine st_iload_n (q := 82) dX12_readsHides_81 rfl rfl ?_
        refine iV1i (q := 85) dX12_readsHides_82 rfl ml_X12_197 mv_X12_here (Nat.le_of_ble_eq_true rfl) (wfk w rfl) ?_
        refine c_X12_here w x ht hn g27 ?_
        rw [hC]
        refine st_bipush (q := 87) dX12_readsHides_85 ⟨by decide, by decide⟩ rfl ?_
        first | refine n_isub (q := 88) dX12_readsHides_87 rfl ⟨by omega, by omega⟩ ?_ | refine st_isub (q := 88) dX12_readsHides_87 rfl ?_
        have zl : (97 ≤ C q ∧ C q ≤ 104) ∨ (65 ≤ C q ∧ C q ≤ 72) := (by omega)
        have kz := kb zl
        rw [if_pos zl] at he
        refine j_top ((ltK (C q) : Nat) : Int) (by unfold ltK; split <;> omega) ?_
        refine st_istore (q := 90) dX12_readsHides_88 (by decide) rfl ?_
        refine st_aload_n (q := 91) dX12_readsHides_90 rfl rfl ?_
        refine st_getR (q := 94) 12 22 dX12_readsHides_91 fl_X12_63 (by decide) (by decide) rfl rfl (wfk w rfl) (wfR w rfl) ?_
        refine st_iload_n (q := 95) dX12_readsHides_94 rfl rfl ?_
        refine st_iaload (q := 96) dX12_readsHides_95 rfl (wfk w rfl) (wfb w (n := 12) rfl ⟨by omega, by omega⟩) ?_
        refine j_top (sh : Int) g132 ?_
        refine st_iload (q := 98) dX12_readsHides_96 rfl rfl ?_
        refine iS2i (q := 101) dX12_readsHides_98 rfl ml_X12_174 ms_X12_has (Nat.le_of_ble_eq_true rfl) ?_
        refine c_X12_hasN (by omega) (by omega) ?_
        refine st_if_ne (q := 104) (tgt := 121) dX12_readsHides_101 (by decide) rfl (fun c101 => ?_) (fun c101 => ?_)
        · refine st_iconst (q := 122) dX12_readsHides_121 ⟨by decide, by decide⟩ rfl ?_
          refine rt_z dX12_readsHides_122 rfl (by (repeat' split) <;> omega) ?_
          rw [if_pos (by first | exact Or.inl (tb1.mp c101) | exact Or.inr ⟨by omega, by omega⟩)] at he
          have tk := hP _ f g21 (by rw [← he]; exact g27) (by rw [← he]; exact g132) (by rw [← he]; exact g133)
          rw [← he] at tk
          exact tk
        · refine st_iload_n (q := 105) dX12_readsHides_104 rfl rfl ?_
          refine st_if_eq (q := 108) (tgt := 123) dX12_readsHides_105 (by decide) rfl (fun _ => ?_) (fun z => absurd z (by decide))
          refine st_aload_n (q := 124) dX12_readsHides_123 rfl rfl ?_
          refine st_getR (q := 127) 12 22 dX12_readsHides_124 fl_X12_63 (by decide) (by decide) rfl rfl (wfk w rfl) (wfR w rfl) ?_
          refine st_iload_n (q := 128) dX12_readsHides_127 rfl rfl ?_
          refine st_dup2 (q := 129) dX12_readsHides_128 rfl rfl rfl ?_
          refine st_iaload (q := 130) dX12_readsHides_129 rfl (wfk w rfl) (wfb w (n := 12) rfl ⟨by omega, by omega⟩) ?_
          refine j_top (sh : Int) g132 ?_
          refine st_iconst (q := 131) dX12_readsHides_130 ⟨by decide, by decide⟩ rfl ?_
          refine st_iload (q := 133) dX12_readsHides_131 rfl rfl ?_
          refine st_ishl (q := 134) dX12_readsHides_133 rfl ?_
          refine j_top ((2 ^ ltK (C q) : Nat) : Int) (sh2 (by omega)) ?_
          refine st_ior (q := 135) dX12_readsHides_134 rfl ?_
          rw [ior_n (by omega) (by omega)]
          refine st_iastore (q := 136) dX12_readsHides_135 rfl (wfk w rfl) (wfb w (n := 12) rfl ⟨by omega, by omega⟩) ?_
          refine st_aload_n (q := 137) dX12_readsHides_136 rfl rfl ?_
          refine st_getR (q := 140) 12 23 dX12_readsHides_137 fl_X12_66 (by decide) (by decide) rfl rfl (wfk w rfl) (wfR w rfl) ?_
          refine st_iload_n (q := 141) dX12_readsHides_140 rfl rfl ?_
          refine st_dup2 (q := 142) dX12_readsHides_141 rfl rfl rfl ?_
          refine st_iaload (q := 143) dX12_readsHides_142 rfl (wfk w rfl) (wfb w (n := 12) rfl ⟨by omega, by omega⟩) ?_
          refine j_top (hd : Int) (by rw [sI_o _ (by decide)]; exact g133) ?_
          refine st_iload_n (q := 144) dX12_readsHides_143 rfl rfl ?_
          refine st_if_eq (q := 147) (tgt := 154) dX12_readsHides_144 (by decide) rfl (fun _ => ?_) (fun z => absurd z (by decide))
          refine st_iconst (q := 155) dX12_readsHides_154 ⟨by decide, by decide⟩ rfl ?_
          refine st_ior (q := 156) dX12_readsHides_155 rfl ?_
          refine j_top (((if C q < 97 then hd ||| 2 ^ ltK (C q) else hd : Nat)) : Int) (by first | (rw [if_pos (by omega)]; exact ior_n (by omega) (by omega)) | (rw [if_neg (by omega)]; have t := ior_n (a := hd) (b := 0) (by omega) (by omega); rw [Nat.or_zero] at t; exact t)) ?_
          refine st_iastore (q := 157) dX12_readsHides_156 rfl (wfk w rfl) (wfb w (n := 12) rfl ⟨by omega, by omega⟩) ?_
          refine st_aload_n (q := 158) dX12_readsHides_157 rfl rfl ?_
          refine st_dup (q := 159) dX12_readsHides_158 rfl rfl ?_
          refine st_getI (q := 162) 12 27 dX12_readsHides_159 fl_X12_191 (by decide) (by decide) rfl rfl (wfk w rfl) ?_
          refine j_top (q : Int) (by rw [sI_o _ (by decide), sI_o _ (by decide)]; exact g27) ?_
          refine st_iconst (q := 163) dX12_readsHides_162 ⟨by decide, by decide⟩ rfl ?_
          first | refine n_iadd (q := 164) dX12_readsHides_163 rfl ⟨by omega, by omega⟩ ?_ | refine st_iadd (q := 164) dX12_readsHides_163 rfl ?_
          refine st_putI (q := 167) 12 27 dX12_readsHides_164 fl_X12_191 (by decide) (by decide) (Or.inl rfl) rfl (Or.inl rfl) (wfk w rfl) ?_
          refine st_goto (q := 19) dX12_readsHides_167 (by decide) ?_
          have hqn := lt q (by omega)
          rw [if_neg (by rintro (zz | zz); exact absurd c101 (tb1.mpr zz); omega)] at he
          subst hC
          refine lp_X12_readsHides w0 x0 ht hn hs hP (q + 1) (by omega) _ (sh ||| 2 ^ ltK (chT T n q)) (if chT T n q < 97 then hd ||| 2 ^ ltK (chT T n q) else hd) _ _ (((f.sI _ (by unfold ScS; omega)).sI _ (by unfold ScS; omega)).sI _ sS_27) (by rw [sI_k _ (by decide), sI_o _ (by decide), sI_o _ (by decide)]; exact g21) (by rw [sI_s]; omega) (by rw [sI_o _ (by decide), sI_o _ (by decide), show ((s : Int)).toNat = s from rfl, sI_s]) (by rw [sI_o _ (by decide), show ((s : Int)).toNat = s from rfl, sI_s]) (Nat.or_lt_two_pow (n := 8) b1 kz.2) (by split; exact Nat.or_lt_two_pow (n := 8) b2 kz.2; exact b2) ?_ (by rw [show 61 - (q + 1) = 60 - q by omega]; exact he)
          split
          · have tp := pc_or1 (a := hd) kz.1
            omega
          · exact b3
      · refine st_iconst (q := 60) dX12_readsHides_59 ⟨by decide, by decide⟩ rfl ?_
        refine st_goto (q := 64) dX12_readsHides_60 (by decide) ?_
        refine st_istore_n (q := 65) (i := 3) dX12_readsHides_64 rfl (by decide) rfl ?_
        refine st_iload_n (q := 66) dX12_readsHides_65 rfl rfl ?_
        refine st_if_eq (q := 69) (tgt := 80) dX12_readsHides_66 (by decide) rfl (fun z => absurd z (by decide)) (fun _ => ?_)
        refine st_aload_n (q := 70) dX12_readsHides_69 rfl rfl ?_
        refine st_iload_n (q := 71) dX12_readsHides_70 rfl rfl ?_
        refine iV1i (q := 74) dX12_readsHides_71 rfl ml_X12_197 mv_X12_here (Nat.le_of_ble_eq_true rfl) (wfk w rfl) ?_
        refine c_X12_here w x ht hn g27 ?_
        rw [hC]
        refine st_bipush (q := 76) dX12_readsHides_74 ⟨by decide, by decide⟩ rfl ?_
        first | refine n_isub (q := 77) dX12_readsHides_76 rfl ⟨by omega, by omega⟩ ?_ | refine st_isub (q := 77) dX12_readsHides_76 rfl ?_
        refine st_goto (q := 88) dX12_readsHides_77 (by decide) ?_
        have zl : (97 ≤ C q ∧ C q ≤ 104) ∨ (65 ≤ C q ∧ C q ≤ 72) := (by omega)
        have kz := kb zl
        rw [if_pos zl] at he
        refine j_top ((ltK (C q) : Nat) : Int) (by unfold ltK; split <;> omega) ?_
        refine st_istore (q := 90) dX12_readsHides_88 (by decide) rfl ?_
        refine st_aload_n (q := 91) dX12_readsHides_90 rfl rfl ?_
        refine st_getR (q := 94) 12 22 dX12_readsHides_91 fl_X12_63 (by decide) (by decide) rfl rfl (wfk w rfl) (wfR w rfl) ?_
        refine st_iload_n (q := 95) dX12_readsHides_94 rfl rfl ?_
        refine st_iaload (q := 96) dX12_readsHides_95 rfl (wfk w rfl) (wfb w (n := 12) rfl ⟨by omega, by omega⟩) ?_
        refine j_top (sh : Int) g132 ?_
        refine st_iload (q := 98) dX12_readsHides_96 rfl rfl ?_
        refine iS2i (q := 101) dX12_readsHides_98 rfl ml_X12_174 ms_X12_has (Nat.le_of_ble_eq_true rfl) ?_
        refine c_X12_hasN (by omega) (by omega) ?_
        refine st_if_ne (q := 104) (tgt := 121) dX12_readsHides_101 (by decide) rfl (fun c101 => ?_) (fun c101 => ?_)
        · refine st_iconst (q := 122) dX12_readsHides_121 ⟨by decide, by decide⟩ rfl ?_
          refine rt_z dX12_readsHides_122 rfl (by (repeat' split) <;> omega) ?_
          rw [if_pos (by first | exact Or.inl (tb1.mp c101) | exact Or.inr ⟨by omega, by omega⟩)] at he
          have tk := hP _ f g21 (by rw [← he]; exact g27) (by rw [← he]; exact g132) (by rw [← he]; exact g133)
          rw [← he] at tk
          exact tk
        · refine st_iload_n (q := 105) dX12_readsHides_104 rfl rfl ?_
          refine st_if_eq (q := 108) (tgt := 123) dX12_readsHides_105 (by decide) rfl (fun z => absurd z (by decide)) (fun _ => ?_)
          refine st_aload_n (q := 109) dX12_readsHides_108 rfl rfl ?_
          refine st_getR (q := 112) 12 23 dX12_readsHides_109 fl_X12_66 (by decide) (by decide) rfl rfl (wfk w rfl) (wfR w rfl) ?_
          refine st_iload_n (q := 113) dX12_readsHides_112 rfl rfl ?_
          refine st_iaload (q := 114) dX12_readsHides_113 rfl (wfk w rfl) (wfb w (n := 12) rfl ⟨by omega, by omega⟩) ?_
          refine j_top (hd : Int) g133 ?_
          refine iS1i (q := 117) dX12_readsHides_114 rfl ml_X12_168 ms_X12_bits (Nat.le_of_ble_eq_true rfl) ?_
          refine c_X12_bits ?_
          rw [bitsF_n (by omega) 16 (by omega)]
          refine st_iconst (q := 118) dX12_readsHides_117 ⟨by decide, by decide⟩ rfl ?_
          refine st_icmp_ne (q := 121) (tgt := 123) dX12_readsHides_118 (by decide) rfl (fun c118 => ?_) (fun c118 => ?_)
          · refine st_aload_n (q := 124) dX12_readsHides_123 rfl rfl ?_
            refine st_getR (q := 127) 12 22 dX12_readsHides_124 fl_X12_63 (by decide) (by decide) rfl rfl (wfk w rfl) (wfR w rfl) ?_
            refine st_iload_n (q := 128) dX12_readsHides_127 rfl rfl ?_
            refine st_dup2 (q := 129) dX12_readsHides_128 rfl rfl rfl ?_
            refine st_iaload (q := 130) dX12_readsHides_129 rfl (wfk w rfl) (wfb w (n := 12) rfl ⟨by omega, by omega⟩) ?_
            refine j_top (sh : Int) g132 ?_
            refine st_iconst (q := 131) dX12_readsHides_130 ⟨by decide, by decide⟩ rfl ?_
            refine st_iload (q := 133) dX12_readsHides_131 rfl rfl ?_
            refine st_ishl (q := 134) dX12_readsHides_133 rfl ?_
            refine j_top ((2 ^ ltK (C q) : Nat) : Int) (sh2 (by omega)) ?_
            refine st_ior (q := 135) dX12_readsHides_134 rfl ?_
            rw [ior_n (by omega) (by omega)]
            refine st_iastore (q := 136) dX12_readsHides_135 rfl (wfk w rfl) (wfb w (n := 12) rfl ⟨by omega, by omega⟩) ?_
            refine st_aload_n (q := 137) dX12_readsHides_136 rfl rfl ?_
            refine st_getR (q := 140) 12 23 dX12_readsHides_137 fl_X12_66 (by decide) (by decide) rfl rfl (wfk w rfl) (wfR w rfl) ?_
            refine st_iload_n (q := 141) dX12_readsHides_140 rfl rfl ?_
            refine st_dup2 (q := 142) dX12_readsHides_141 rfl rfl rfl ?_
            refine st_iaload (q := 143) dX12_readsHides_142 rfl (wfk w rfl) (wfb w (n := 12) rfl ⟨by omega, by omega⟩) ?_
            refine j_top (hd : Int) (by rw [sI_o _ (by decide)]; exact g133) ?_
            refine st_iload_n (q := 144) dX12_readsHides_143 rfl rfl ?_
            refine st_if_eq (q := 147) (tgt := 154) dX12_readsHides_144 (by decide) rfl (fun z => absurd z (by decide)) (fun _ => ?_)
            refine st_iconst (q := 148) dX12_readsHides_147 ⟨by decide, by decide⟩ rfl ?_
            refine st_iload (q := 150) dX12_readsHides_148 rfl rfl ?_
            refine st_ishl (q := 151) dX12_readsHides_150 rfl ?_
            refine j_top ((2 ^ ltK (C q) : Nat) : Int) (sh2 (by omega)) ?_
            refine st_goto (q := 155) dX12_readsHides_151 (by decide) ?_
            refine st_ior (q := 156) dX12_readsHides_155 rfl ?_
            refine j_top (((if C q < 97 then hd ||| 2 ^ ltK (C q) else hd : Nat)) : Int) (by first | (rw [if_pos (by omega)]; exact ior_n (by omega) (by omega)) | (rw [if_neg (by omega)]; have t := ior_n (a := hd) (b := 0) (by omega) (by omega); rw [Nat.or_zero] at t; exact t)) ?_
            refine st_iastore (q := 157) dX12_readsHides_156 rfl (wfk w rfl) (wfb w (n := 12) rfl ⟨by omega, by omega⟩) ?_
            refine st_aload_n (q := 158) dX12_readsHides_157 rfl rfl ?_
            refine st_dup (q := 159) dX12_readsHides_158 rfl rfl ?_
            refine st_getI (q := 162) 12 27 dX12_readsHides_159 fl_X12_191 (by decide) (by decide) rfl rfl (wfk w rfl) ?_
            refine j_top (q : Int) (by rw [sI_o _ (by decide), sI_o _ (by decide)]; exact g27) ?_
            refine st_iconst (q := 163) dX12_readsHides_162 ⟨by decide, by decide⟩ rfl ?_
            first | refine n_iadd (q := 164) dX12_readsHides_163 rfl ⟨by omega, by omega⟩ ?_ | refine st_iadd (q := 164) dX12_readsHides_163 rfl ?_
            refine st_putI (q := 167) 12 27 dX12_readsHides_164 fl_X12_191 (by decide) (by decide) (Or.inl rfl) rfl (Or.inl rfl) (wfk w rfl) ?_
            refine st_goto (q := 19) dX12_readsHides_167 (by decide) ?_
            have hqn := lt q (by omega)
            rw [if_neg (by rintro (zz | zz); exact absurd c101 (tb1.mpr zz); omega)] at he
            subst hC
            refine lp_X12_readsHides w0 x0 ht hn hs hP (q + 1) (by omega) _ (sh ||| 2 ^ ltK (chT T n q)) (if chT T n q < 97 then hd ||| 2 ^ ltK (chT T n q) else hd) _ _ (((f.sI _ (by unfold ScS; omega)).sI _ (by unfold ScS; omega)).sI _ sS_27) (by rw [sI_k _ (by decide), sI_o _ (by decide), sI_o _ (by decide)]; exact g21) (by rw [sI_s]; omega) (by rw [sI_o _ (by decide), sI_o _ (by decide), show ((s : Int)).toNat = s from rfl, sI_s]) (by rw [sI_o _ (by decide), show ((s : Int)).toNat = s from rfl, sI_s]) (Nat.or_lt_two_pow (n := 8) b1 kz.2) (by split; exact Nat.or_lt_two_pow (n := 8) b2 kz.2; exact b2) ?_ (by rw [show 61 - (q + 1) = 60 - q by omega]; exact he)
            split
            · have tp := pc_or1 (a := hd) kz.1
              omega
            · exact b3
          · refine st_iconst (q := 122) dX12_readsHides_121 ⟨by decide, by decide⟩ rfl ?_
            refine rt_z dX12_readsHides_122 rfl (by (repeat' split) <;> omega) ?_
            rw [if_pos (by first | exact Or.inl (tb1.mp c101) | exact Or.inr ⟨by omega, by omega⟩)] at he
            have tk := hP _ f g21 (by rw [← he]; exact g27) (by rw [← he]; exact g132) (by rw [← he]; exact g133)
            rw [← he] at tk
            exact tk
termination_by n - q
theorem c_X12_readsHides {d : Nat} {h : JH} {P : Int → JH → Prop} {t n s p : Nat} {T : Nat → Int} (w : WF h) (x : TM h t T n) (ht : t < 4) (hn : n ≤ 60) (hs : s < 12) (g21 : hI h 117 21 = (s : Int)) (g27 : hI h 117 27 = (p : Int)) (hp : p ≤ n) (hP : ∀ h', Fr (ScS s) h h' → hI h' 117 21 = (s : Int) → hI h' 117 27 = ((hidP (chT T n) (61 - p) p 0 0).2.1 : Int) → hI h' 132 s = ((hidP (chT T n) (61 - p) p 0 0).2.2.1 : Int) → hI h' 133 s = ((hidP (chT T n) (61 - p) p 0 0).2.2.2 : Int) → P (if (hidP (chT T n) (61 - p) p 0 0).1 then 1 else 0) h') : JRi (d + 1) jX12_readsHides [vr 117, vi t] h P := by
  refine JRet.of rfl (Nat.le_of_ble_eq_true rfl) ?_
  refine st_aload_n (q := 1) dX12_readsHides_0 rfl rfl ?_
  refine st_getI (q := 4) 12 21 dX12_readsHides_1 fl_X12_200 (by decide) (by decide) rfl rfl (wfk w rfl) ?_
  refine j_top (s : Int) g21 ?_
  refine st_istore_n (q := 5) (i := 2) dX12_readsHides_4 rfl (by decide) rfl ?_
  refine st_aload_n (q := 6) dX12_readsHides_5 rfl rfl ?_
  refine st_getR (q := 9) 12 22 dX12_readsHides_6 fl_X12_63 (by decide) (by decide) rfl rfl (wfk w rfl) (wfR w rfl) ?_
  refine st_iload_n (q := 10) dX12_readsHides_9 rfl rfl ?_
  refine st_iconst (q := 11) dX12_readsHides_10 ⟨by decide, by decide⟩ rfl ?_
  refine st_iastore (q := 12) dX12_readsHides_11 rfl (wfk w rfl) (wfb w (n := 12) rfl ⟨by omega, by omega⟩) ?_
  refine st_aload_n (q := 13) dX12_readsHides_12 rfl rfl ?_
  refine st_getR (q := 16) 12 23 dX12_readsHides_13 fl_X12_66 (by decide) (by decide) rfl rfl (wfk w rfl) (wfR w rfl) ?_
  refine st_iload_n (q := 17) dX12_readsHides_16 rfl rfl ?_
  refine st_iconst (q := 18) dX12_readsHides_17 ⟨by decide, by decide⟩ rfl ?_
  refine st_iastore (q := 19) dX12_readsHides_18 rfl (wfk w rfl) (wfb w (n := 12) rfl ⟨by omega, by omega⟩) ?_
  exact lp_X12_readsHides w x ht hn hs hP p hp _ 0 0 _ _ ((Fr.rf.sI _ (by unfold ScS; omega)).sI _ (by unfold ScS; omega)) (by rw [sI_o _ (by decide), sI_o _ (by decide)]; exact g21) (by rw [sI_o _ (by decide), sI_o _ (by decide)]; exact g27) (by rw [sI_o _ (by decide), show ((s : Int)).toNat = s from rfl, sI_s]; rfl) (by rw [show ((s : Int)).toNat = s from rfl, sI_s]; rfl) (by decide) (by decide) (by rw [pcN_0]; omega) rfl
/-- the scene's numbers stand at place s -/
def RM (h : JH) (s : Nat) (r : Bool × Nat × Nat × Nat × Int × Int × Int) : Prop := hI h 132 s = (r.2.2.1 : Int) ∧ hI h 133 s = (r.2.2.2.1 : Int) ∧ hI h 134 s = r.2.2.2.2.1 ∧ hI h 135 s = r.2.2.2.2.2.1 ∧ hI h 136 s = r.2.2.2.2.2.2
theorem c_X12_readsScene {d : Nat} {h : JH} {P : Int → JH → Prop} {t n s p : Nat} {T : Nat → Int} (w : WF h) (x : TM h t T n) (ht : t < 4) (hn : n ≤ 60) (hs : s < 12) (g21 : hI h 117 21 = (s : Int)) (g27 : hI h 117 27 = (p : Int)) (hp : p ≤ n) (h0 : (scP (chT T n) p).1 = false → ∀ h', Fr (ScS s) h h' → hI h' 117 27 = ((scP (chT T n) p).2.1 : Int) → P 0 h') (h1 : (scP (chT T n) p).1 = true → ∀ h', Fr (ScS s) h h' → hI h' 117 21 = ((s + 1 : Nat) : Int) → hI h' 117 27 = ((scP (chT T n) p).2.1 : Int) → RM h' s (scP (chT T n) p) → P 1 h') : JRi (d + 2) jX12_readsScene [vr 117, vi t] h P := by
  have hr := hidP_n (T := T) (n := n) (61 - p) p 0 0 hp
  have hu := numP_b (T := T) (n := n) hr
  have hlt : ∀ q, chT T n q ≠ -9 → q < n := fun q z => chT_lt z
  have hnum : ∀ q, q ≤ n → _ := fun q z => numP_b (T := T) (n := n) (p := q) z
  have eS : scP (chT T n) p = (if (hidP (chT T n) (61 - p) p 0 0).1 = false then (false, (hidP (chT T n) (61 - p) p 0 0).2.1, 0, 0, 0, 0, 0) else if (numP (chT T n) (hidP (chT T n) (61 - p) p 0 0).2.1).2 < 1 then (false, (numP (chT T n) (hidP (chT T n) (61 - p) p 0 0).2.1).1, 0, 0, 0, 0, 0) else if (if chT T n (numP (chT T n) (hidP (chT T n) (61 - p) p 0 0).2.1).1 = 45 then (numP (chT T n) ((numP (chT T n) (hidP (chT T n) (61 - p) p 0 0).2.1).1 + 1)).2 else (numP (chT T n) (hidP (chT T n) (61 - p) p 0 0).2.1).2) < (numP (chT T n) (hidP (chT T n) (61 - p) p 0 0).2.1).2 then (false, (if chT T n (numP (chT T n) (hidP (chT T n) (61 - p) p 0 0).2.1).1 = 45 then (numP (chT T n) ((numP (chT T n) (hidP (chT T n) (61 - p) p 0 0).2.1).1 + 1)).1 else (numP (chT T n) (hidP (chT T n) (61 - p) p 0 0).2.1).1), 0, 0, 0, 0, 0) else (true, (if chT T n (numP (chT T n) (hidP (chT T n) (61 - p) p 0 0).2.1).1 = 45 then (numP (chT T n) ((numP (chT T n) (hidP (chT T n) (61 - p) p 0 0).2.1).1 + 1)).1 else (numP (chT T n) (hidP (chT T n) (61 - p) p 0 0).2.1).1) + (if chT T n (if chT T n (numP (chT T n) (hidP (chT T n) (61 - p) p 0 0).2.1).1 = 45 then (numP (chT T n) ((numP (chT T n) (hidP (chT T n) (61 - p) p 0 0).2.1).1 + 1)).1 else (numP (chT T n) (hidP (chT T n) (61 - p) p 0 0).2.1).1) = 33 then (1 : Int) else 0).toNat, (hidP (chT T n) (61 - p) p 0 0).2.2.1, (hidP (chT T n) (61 - p) p 0 0).2.2.2, (numP (chT T n) (hidP (chT T n) (61 - p) p 0 0).2.1).2, (if chT T n (numP (chT T n) (hidP (chT T n) (61 - p) p 0 0).2.1).1 = 45 then (numP (chT T n) ((numP (chT T n) (hidP (chT T n) (61 - p) p 0 0).2.1).1 + 1)).2 else (numP (chT T n) (hidP (chT T n) (61 - p) p 0 0).2.1).2), (if chT T n (if chT T n (numP (chT T n) (hidP (chT T n) (61 - p) p 0 0).2.1).1 = 45 then (numP (chT T n) ((numP (chT T n) (hidP (chT T n) (61 - p) p 0 0).2.1).1 + 1)).1 else (numP (chT T n) (hidP (chT T n) (61 - p) p 0 0).2.1).1) = 33 then (1 : Int) else 0))) := rfl
  generalize hR : hidP (chT T n) (61 - p) p 0 0 = r at *
  generalize hA : numP (chT T n) r.2.1 = a at *
  sorry

