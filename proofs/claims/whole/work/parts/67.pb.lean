/-! the reference: scenes read -/
theorem ltK_b (C : Nat → Int) : ∀ (m p sh hd : Nat), sh < 256 → hd < 256 → pcN hd 16 ≤ 2 → (hidP C m p sh hd).2.2.1 < 256 ∧ (hidP C m p sh hd).2.2.2 < 256 ∧ p ≤ (hidP C m p sh hd).2.1
  | 0, p, sh, hd, h1, h2, _ => ⟨h1, h2, Nat.le_refl _⟩
  | m + 1, p, sh, hd, h1, h2, h3 => by
    unfold hidP
    by_cases z : (97 ≤ C p ∧ C p ≤ 104) ∨ (65 ≤ C p ∧ C p ≤ 72)
    · rw [if_pos z]
      by_cases z2 : sh.testBit (ltK (C p)) = true ∨ (C p < 97 ∧ pcN hd 16 = 2)
      · rw [if_pos z2]; exact ⟨h1, h2, Nat.le_refl _⟩
      · rw [if_neg z2]
        have kb := p8 (ltK_lt z)
        have := ltK_b C m (p + 1) (sh ||| 2 ^ ltK (C p)) (if C p < 97 then hd ||| 2 ^ ltK (C p) else hd) (Nat.or_lt_two_pow (n := 8) h1 kb) (by split; exact Nat.or_lt_two_pow (n := 8) h2 kb; exact h2) (by
          split
          · have t := pc_or1 (a := hd) (ltK_lt z); omega
          · exact h3)
        exact ⟨this.1, this.2.1, by have := this.2.2; omega⟩
    · rw [if_neg z]; exact ⟨h1, h2, Nat.le_refl _⟩
theorem hidP_n {T : Nat → Int} {n : Nat} : ∀ (m p sh hd : Nat), p ≤ n → (hidP (chT T n) m p sh hd).2.1 ≤ n
  | 0, p, sh, hd, h => h
  | m + 1, p, sh, hd, h => by
    unfold hidP
    by_cases z : (97 ≤ chT T n p ∧ chT T n p ≤ 104) ∨ (65 ≤ chT T n p ∧ chT T n p ≤ 72)
    · have q := chT_lt (show chT T n p ≠ -9 by omega)
      rw [if_pos z]
      split
      · exact h
      · exact hidP_n m (p + 1) _ _ (by omega)
    · rw [if_neg z]; exact h
theorem sh2 {k : Nat} (hk : k < 31) : ishl 1 k = ((2 ^ k : Nat) : Int) := by
  have := ishl_n (a := 1) (k := k) (by omega) (by rw [Nat.one_mul]; exact p31 hk)
  rw [Nat.one_mul] at this
  exact this
theorem lp_X12_readsHides {d : Nat} {h : JH} {P : Int → JH → Prop} {t n s : Nat} {T : Nat → Int} {R : Bool × Nat × Nat × Nat} (w0 : WF h) (x0 : TM h t T n) (ht : t < 4) (hn : n ≤ 60) (hs : s < 12) (hP : ∀ h', Fr (ScS s) h h' → hI h' 117 21 = (s : Int) → hI h' 117 27 = (R.2.1 : Int) → hI h' 132 s = (R.2.2.1 : Int) → hI h' 133 s = (R.2.2.2 : Int) → P (if R.1 then 1 else 0) h') (q : Nat) (hq : q ≤ n) : ∀ (h' : JH) (sh hd : Nat) (j3 j4 : JV), Fr (ScS s) h h' → hI h' 117 21 = (s : Int) → hI h' 117 27 = (q : Int) → hI h' 132 s = (sh : Int) → hI h' 133 s = (hd : Int) → sh < 256 → hd < 256 → pcN hd 16 ≤ 2 → hidP (chT T n) (61 - q) q sh hd = R → JAt k0 (d + 1) jX12_readsHides 19 [vr 117, vi t, vi s, j3, j4] [] h' (jqi P) := by
  intro h' sh hd j3 j4 f g21 g27 g132 g133 b1 b2 b3 he
  have w := f.wf w0
  have x := x0.fr f
  have lt : ∀ q, chT T n q ≠ -9 → q < n := fun q z => chT_lt z
  rw [show 61 - q = (60 - q) + 1 by omega] at he
  unfold hidP at he
  generalize hC : chT T n = C at *
  have kb : (97 ≤ C q ∧ C q ≤ 104) ∨ (65 ≤ C q ∧ C q ≤ 72) → ltK (C q) < 8 ∧ 2 ^ ltK (C q) < 256 := fun z => ⟨ltK_lt z, p8 (ltK_lt z)⟩
  refine st_aload_n (q := 20) dX12_readsHides_19 rfl rfl ?_
  refine st_iload_n (q := 21) dX12_readsHides_20 rfl rfl ?_
  refine iV1i (q := 24) dX12_readsHides_21 rfl ml_X12_197 mv_X12_here (Nat.le_of_ble_eq_true rfl) (wfk w rfl) ?_
  refine c_X12_here w x ht hn g27 ?_
  rw [hC]
  refine st_bipush (q := 26) dX12_readsHides_24 ⟨by decide, by decide⟩ rfl ?_
  refine st_bipush (q := 28) dX12_readsHides_26 ⟨by decide, by decide⟩ rfl ?_
  refine iS3i (q := 31) dX12_readsHides_28 rfl ml_X12_130 ms_X12_in (Nat.le_of_ble_eq_true rfl) ?_
  refine c_X12_in ?_
  refine st_if_ne (q := 34) (tgt := 49) dX12_readsHides_31 (by decide) rfl (fun c31 => ?_) (fun c31 => ?_)
  · refine st_aload_n (q := 50) dX12_readsHides_49 rfl rfl ?_
    refine st_iload_n (q := 51) dX12_readsHides_50 rfl rfl ?_
    refine iV1i (q := 54) dX12_readsHides_51 rfl ml_X12_197 mv_X12_here (Nat.le_of_ble_eq_true rfl) (wfk w rfl) ?_
    refine c_X12_here w x ht hn g27 ?_
    rw [hC]
    refine st_bipush (q := 56) dX12_readsHides_54 ⟨by decide, by decide⟩ rfl ?_
    refine st_icmp_ge (q := 59) (tgt := 63) dX12_readsHides_56 (by decide) rfl (fun c56 => ?_) (fun c56 => ?_)
    · refine st_iconst (q := 64) dX12_readsHides_63 ⟨by decide, by decide⟩ rfl ?_
      refine st_istore_n (q := 65) (i := 3) dX12_readsHides_64 rfl (by decide) rfl ?_
      refine st_iload_n (q := 66) dX12_readsHides_65 rfl rfl ?_
      refine st_if_eq (q := 69) (tgt := 80) dX12_readsHides_66 (by decide) rfl (fun _ => ?_) (fun z => absurd z (by decide))
      refine st_aload_n (q := 81) dX12_readsHides_80 rfl rfl ?_
      refine st_iload_n (q := 82) dX12_readsHides_81 rfl rfl ?_
      refine iV1i (q := 85) dX12_readsHides_82 rfl ml_X12_197 mv_X12_here (Nat.le_of_ble_eq_true rfl) (wfk w rfl) ?_
      refine c_X12_here w x ht hn g27 ?_
      rw [hC]
      refine st_bipush (q := 87) dX12_readsHides_85 ⟨by decide, by decide⟩ rfl ?_
      first | refine n_isub (q := 88) dX12_readsHides_87 rfl ⟨by omega, by omega⟩ ?_ | refine st_isub (q := 88) dX12_readsHides_87 rfl ?_
      have zl : (97 ≤ C q ∧ C q ≤ 104) ∨ (65 ≤ C q ∧ C q ≤ 72) := (by omega)
      have kz := kb zl
      rw [if_pos zl] at he
      refine j_top ((ltK (C q) : Nat) : Int) (by unfold ltK; split <;> omega) ?_
      refine st_istore (q := 90) dX12_readsHides_88 (by decide) rfl ?_
      refine st_aload_n (q := 91) dX12_readsHides_90 rfl rfl ?_
      refine st_getR (q := 94) 12 22 dX12_readsHides_91 fl_X12_63 (by decide) (by decide) rfl rfl (wfk w rfl) (wfR w rfl) ?_
      refine st_iload_n (q := 95) dX12_readsHides_94 rfl rfl ?_
      refine st_iaload (q := 96) dX12_readsHides_95 rfl (wfk w rfl) (wfb w (n := 12) rfl ⟨by omega, by omega⟩) ?_
      refine j_top (sh : Int) g132 ?_
      refine st_iload (q := 98) dX12_readsHides_96 rfl rfl ?_
      refine iS2i (q := 101) dX12_readsHides_98 rfl ml_X12_174 ms_X12_has (Nat.le_of_ble_eq_true rfl) ?_
      refine c_X12_hasN (by omega) (by omega) ?_
      refine st_if_ne (q := 104) (tgt := 121) dX12_readsHides_101 (by decide) rfl (fun c101 => ?_) (fun c101 => ?_)
      · refine st_iconst (q := 122) dX12_readsHides_121 ⟨by decide, by decide⟩ rfl ?_
        refine rt_z dX12_readsHides_122 rfl (by (repeat' split) <;> omega) ?_
        rw [if_pos (by first | exact Or.inl (tb1.mp c101) | exact Or.inr ⟨by omega, by omega⟩)] at he
        have tk := hP _ f g21 (by rw [← he]; exact g27) (by rw [← he]; exact g132) (by rw [← he]; exact g133)
        rw [← he] at tk
        exact tk
      · refine st_iload_n (q := 105) dX12_readsHides_104 rfl rfl ?_
        refine st_if_eq (q := 108) (tgt := 123) dX12_readsHides_105 (by decide) rfl (fun _ => ?_) (fun z => absurd z (by decide))
        refine st_aload_n (q := 124) dX12_readsHides_123 rfl rfl ?_
        refine st_getR (q := 127) 12 22 dX12_readsHides_124 fl_X12_63 (by decide) (by decide) rfl rfl (wfk w rfl) (wfR w rfl) ?_
        refine st_iload_n (q := 128) dX12_readsHides_127 rfl rfl ?_
        refine st_dup2 (q := 129) dX12_readsHides_128 rfl rfl rfl ?_
        refine st_iaload (q := 130) dX12_readsHides_129 rfl (wfk w rfl) (wfb w (n := 12) rfl ⟨by omega, by omega⟩) ?_
        refine j_top (sh : Int) g132 ?_
        refine st_iconst (q := 131) dX12_readsHides_130 ⟨by decide, by decide⟩ rfl ?_
        refine st_iload (q := 133) dX12_readsHides_131 rfl rfl ?_
        refine st_ishl (q := 134) dX12_readsHides_133 rfl ?_
        refine j_top ((2 ^ ltK (C q) : Nat) : Int) (sh2 (by omega)) ?_
        refine st_ior (q := 135) dX12_readsHides_134 rfl ?_
        rw [ior_n (by omega) (by omega)]
        refine st_iastore (q := 136) dX12_readsHides_135 rfl (wfk w rfl) (wfb w (n := 12) rfl ⟨by omega, by omega⟩) ?_
        refine st_aload_n (q := 137) dX12_readsHides_136 rfl rfl ?_
        refine st_getR (q := 140) 12 23 dX12_readsHides_137 fl_X12_66 (by decide) (by decide) rfl rfl (wfk w rfl) (wfR w rfl) ?_
        refine st_iload_n (q := 141) dX12_readsHides_140 rfl rfl ?_
        refine st_dup2 (q := 142) dX12_readsHides_141 rfl rfl rfl ?_
        refine st_iaload (q := 143) dX12_readsHides_142 rfl (wfk w rfl) (wfb w (n := 12) rfl ⟨by omega, by omega⟩) ?_
        refine j_top (hd : Int) (by rw [sI_o _ (by decide)]; exact g133) ?_
        refine st_iload_n (q := 144) dX12_readsHides_143 rfl rfl ?_
        refine st_if_eq (q := 147) (tgt := 154) dX12_readsHides_144 (by decide) rfl (fun _ => ?_) (fun z => absurd z (by decide))
        refine st_iconst (q := 155) dX12_readsHides_154 ⟨by decide, by decide⟩ rfl ?_
        refine st_ior (q := 156) dX12_readsHides_155 rfl ?_
        refine j_top (((if C q < 97 then hd ||| 2 ^ ltK (C q) else hd : Nat)) : Int) (by first | (rw [if_pos (by omega)]; exact ior_n (by omega) (by omega)) | (rw [if_neg (by omega)]; have t := ior_n (a := hd) (b := 0) (by omega) (by omega); rw [Nat.or_zero] at t; exact t)) ?_
        refine st_iastore (q := 157) dX12_readsHides_156 rfl (wfk w rfl) (wfb w (n := 12) rfl ⟨by omega, by omega⟩) ?_
        refine st_aload_n (q := 158) dX12_readsHides_157 rfl rfl ?_
        refine st_dup (q := 159) dX12_readsHides_158 rfl rfl ?_
        refine st_getI (q := 162) 12 27 dX12_readsHides_159 fl_X12_191 (by decide) (by decide) rfl rfl (wfk w rfl) ?_
        refine j_top (q : Int) (by rw [sI_o _ (by decide), sI_o _ (by decide)]; exact g27) ?_
        refine st_iconst (q := 163) dX12_readsHides_162 ⟨by decide, by decide⟩ rfl ?_
        first | refine n_iadd (q := 164) dX12_readsHides_163 rfl ⟨by omega, by omega⟩ ?_ | refine st_iadd (q := 164) dX12_readsHides_163 rfl ?_
        refine st_putI (q := 167) 12 27 dX12_readsHides_164 fl_X12_191 (by decide) (by decide) (Or.inl rfl) rfl (Or.inl rfl) (wfk w rfl) ?_
        refine st_goto (q := 19) dX12_readsHides_167 (by decide) ?_
        have hqn := lt q (by omega)
        rw [if_neg (by rintro (zz | zz); exact absurd c101 (tb1.mpr zz); omega)] at he
        subst hC
        refine lp_X12_readsHides w0 x0 ht hn hs hP (q + 1) (by omega) _ (sh ||| 2 ^ ltK (chT T n q)) (if chT T n q < 97 then hd ||| 2 ^ ltK (chT T n q) else hd) _ _ (((f.sI _ (by unfold ScS; omega)).sI _ (by unfold ScS; omega)).sI _ sS_27) (by rw [sI_k _ (by decide), sI_o _ (by decide), sI_o _ (by decide)]; exact g21) (by rw [sI_s]; omega) (by rw [sI_o _ (by decide), sI_o _ (by decide), show ((s : Int)).toNat = s from rfl, sI_s]) (by rw [sI_o _ (by decide), show ((s : Int)).toNat = s from rfl, sI_s]) (Nat.or_lt_two_pow (n := 8) b1 kz.2) (by split; exact Nat.or_lt_two_pow (n := 8) b2 kz.2; exact b2) ?_ (by rw [show 61 - (q + 1) = 60 - q by omega]; exact he)
        split
        · have tp := pc_or1 (a := hd) kz.1
          omega
        · exact b3
    · refine st_iconst (q := 60) dX12_readsHides_59 ⟨by decide, by decide⟩ rfl ?_
      refine st_goto (q := 64) dX12_readsHides_60 (by decide) ?_
      refine st_istore_n (q := 65) (i := 3) dX12_readsHides_64 rfl (by decide) rfl ?_
      refine st_iload_n (q := 66) dX12_readsHides_65 rfl rfl ?_
      refine st_if_eq (q := 69) (tgt := 80) dX12_readsHides_66 (by decide) rfl (fun z => absurd z (by decide)) (fun _ => ?_)
      refine st_aload_n (q := 70) dX12_readsHides_69 rfl rfl ?_
      refine st_iload_n (q := 71) dX12_readsHides_70 rfl rfl ?_
      refine iV1i (q := 74) dX12_readsHides_71 rfl ml_X12_197 mv_X12_here (Nat.le_of_ble_eq_true rfl) (wfk w rfl) ?_
      refine c_X12_here w x ht hn g27 ?_
      rw [hC]
      refine st_bipush (q := 76) dX12_readsHides_74 ⟨by decide, by decide⟩ rfl ?_
      first | refine n_isub (q := 77) dX12_readsHides_76 rfl ⟨by omega, by omega⟩ ?_ | refine st_isub (q := 77) dX12_readsHides_76 rfl ?_
      refine st_goto (q := 88) dX12_readsHides_77 (by decide) ?_
      have zl : (97 ≤ C q ∧ C q ≤ 104) ∨ (65 ≤ C q ∧ C q ≤ 72) := (by omega)
      have kz := kb zl
      rw [if_pos zl] at he
      refine j_top ((ltK (C q) : Nat) : Int) (by unfold ltK; split <;> omega) ?_
      refine st_istore (q := 90) dX12_readsHides_88 (by decide) rfl ?_
      refine st_aload_n (q := 91) dX12_readsHides_90 rfl rfl ?_
      refine st_getR (q := 94) 12 22 dX12_readsHides_91 fl_X12_63 (by decide) (by decide) rfl rfl (wfk w rfl) (wfR w rfl) ?_
      refine st_iload_n (q := 95) dX12_readsHides_94 rfl rfl ?_
      refine st_iaload (q := 96) dX12_readsHides_95 rfl (wfk w rfl) (wfb w (n := 12) rfl ⟨by omega, by omega⟩) ?_
      refine j_top (sh : Int) g132 ?_
      refine st_iload (q := 98) dX12_readsHides_96 rfl rfl ?_
      refine iS2i (q := 101) dX12_readsHides_98 rfl ml_X12_174 ms_X12_has (Nat.le_of_ble_eq_true rfl) ?_
      refine c_X12_hasN (by omega) (by omega) ?_
      refine st_if_ne (q := 104) (tgt := 121) dX12_readsHides_101 (by decide) rfl (fun c101 => ?_) (fun c101 => ?_)
      · refine st_iconst (q := 122) dX12_readsHides_121 ⟨by decide, by decide⟩ rfl ?_
        refine rt_z dX12_readsHides_122 rfl (by (repeat' split) <;> omega) ?_
        rw [if_pos (by first | exact Or.inl (tb1.mp c101) | exact Or.inr ⟨by omega, by omega⟩)] at he
        have tk := hP _ f g21 (by rw [← he]; exact g27) (by rw [← he]; exact g132) (by rw [← he]; exact g133)
        rw [← he] at tk
        exact tk
      · refine st_iload_n (q := 105) dX12_readsHides_104 rfl rfl ?_
        refine st_if_eq (q := 108) (tgt := 123) dX12_readsHides_105 (by decide) rfl (fun z => absurd z (by decide)) (fun _ => ?_)
        refine st_aload_n (q := 109) dX12_readsHides_108 rfl rfl ?_
        refine st_getR (q := 112) 12 23 dX12_readsHides_109 fl_X12_66 (by decide) (by decide) rfl rfl (wfk w rfl) (wfR w rfl) ?_
        refine st_iload_n (q := 113) dX12_readsHides_112 rfl rfl ?_
        refine st_iaload (q := 114) dX12_readsHides_113 rfl (wfk w rfl) (wfb w (n := 12) rfl ⟨by omega, by omega⟩) ?_
        refine j_top (hd : Int) g133 ?_
        refine iS1i (q := 117) dX12_readsHides_114 rfl ml_X12_168 ms_X12_bits (Nat.le_of_ble_eq_true rfl) ?_
        refine c_X12_bits ?_
        rw [bitsF_n (by omega) 16 (by omega)]
        refine st_iconst (q := 118) dX12_readsHides_117 ⟨by decide, by decide⟩ rfl ?_
        refine st_icmp_ne (q := 121) (tgt := 123) dX12_readsHides_118 (by decide) rfl (fun c118 => ?_) (fun c118 => ?_)
        · refine st_aload_n (q := 124) dX12_readsHides_123 rfl rfl ?_
          refine st_getR (q := 127) 12 22 dX12_readsHides_124 fl_X12_63 (by decide) (by decide) rfl rfl (wfk w rfl) (wfR w rfl) ?_
          refine st_iload_n (q := 128) dX12_readsHides_127 rfl rfl ?_
          refine st_dup2 (q := 129) dX12_readsHides_128 rfl rfl rfl ?_
          refine st_iaload (q := 130) dX12_readsHides_129 rfl (wfk w rfl) (wfb w (n := 12) rfl ⟨by omega, by omega⟩) ?_
          refine j_top (sh : Int) g132 ?_
          refine st_iconst (q := 131) dX12_readsHides_130 ⟨by decide, by decide⟩ rfl ?_
          refine st_iload (q := 133) dX12_readsHides_131 rfl rfl ?_
          refine st_ishl (q := 134) dX12_readsHides_133 rfl ?_
          refine j_top ((2 ^ ltK (C q) : Nat) : Int) (sh2 (by omega)) ?_
          refine st_ior (q := 135) dX12_readsHides_134 rfl ?_
          rw [ior_n (by omega) (by omega)]
          refine st_iastore (q := 136) dX12_readsHides_135 rfl (wfk w rfl) (wfb w (n := 12) rfl ⟨by omega, by omega⟩) ?_
          refine st_aload_n (q := 137) dX12_readsHides_136 rfl rfl ?_
          refine st_getR (q := 140) 12 23 dX12_readsHides_137 fl_X12_66 (by decide) (by decide) rfl rfl (wfk w rfl) (wfR w rfl) ?_
          refine st_iload_n (q := 141) dX12_readsHides_140 rfl rfl ?_
          refine st_dup2 (q := 142) dX12_readsHides_141 rfl rfl rfl ?_
          refine st_iaload (q := 143) dX12_readsHides_142 rfl (wfk w rfl) (wfb w (n := 12) rfl ⟨by omega, by omega⟩) ?_
          refine j_top (hd : Int) (by rw [sI_o _ (by decide)]; exact g133) ?_
          refine st_iload_n (q := 144) dX12_readsHides_143 rfl rfl ?_
          refine st_if_eq (q := 147) (tgt := 154) dX12_readsHides_144 (by decide) rfl (fun z => absurd z (by decide)) (fun _ => ?_)
          refine st_iconst (q := 148) dX12_readsHides_147 ⟨by decide, by decide⟩ rfl ?_
          refine st_iload (q := 150) dX12_readsHides_148 rfl rfl ?_
          refine st_ishl (q := 151) dX12_readsHides_150 rfl ?_
          refine j_top ((2 ^ ltK (C q) : Nat) : Int) (sh2 (by omega)) ?_
          refine st_goto (q := 155) dX12_readsHides_151 (by decide) ?_
          refine st_ior (q := 156) dX12_readsHides_155 rfl ?_
          refine j_top (((if C q < 97 then hd ||| 2 ^ ltK (C q) else hd : Nat)) : Int) (by first | (rw [if_pos (by omega)]; exact ior_n (by omega) (by omega)) | (rw [if_neg (by omega)]; have t := ior_n (a := hd) (b := 0) (by omega) (by omega); rw [Nat.or_zero] at t; exact t)) ?_
          refine st_iastore (q := 157) dX12_readsHides_156 rfl (wfk w rfl) (wfb w (n := 12) rfl ⟨by omega, by omega⟩) ?_
          refine st_aload_n (q := 158) dX12_readsHides_157 rfl rfl ?_
          refine st_dup (q := 159) dX12_readsHides_158 rfl rfl ?_
          refine st_getI (q := 162) 12 27 dX12_readsHides_159 fl_X12_191 (by decide) (by decide) rfl rfl (wfk w rfl) ?_
          refine j_top (q : Int) (by rw [sI_o _ (by decide), sI_o _ (by decide)]; exact g27) ?_
          refine st_iconst (q := 163) dX12_readsHides_162 ⟨by decide, by decide⟩ rfl ?_
          first | refine n_iadd (q := 164) dX12_readsHides_163 rfl ⟨by omega, by omega⟩ ?_ | refine st_iadd (q := 164) dX12_readsHides_163 rfl ?_
          refine st_putI (q := 167) 12 27 dX12_readsHides_164 fl_X12_191 (by decide) (by decide) (Or.inl rfl) rfl (Or.inl rfl) (wfk w rfl) ?_
          refine st_goto (q := 19) dX12_readsHides_167 (by decide) ?_
          have hqn := lt q (by omega)
          rw [if_neg (by rintro (zz | zz); exact absurd c101 (tb1.mpr zz); omega)] at he
          subst hC
          refine lp_X12_readsHides w0 x0 ht hn hs hP (q + 1) (by omega) _ (sh ||| 2 ^ ltK (chT T n q)) (if chT T n q < 97 then hd ||| 2 ^ ltK (chT T n q) else hd) _ _ (((f.sI _ (by unfold ScS; omega)).sI _ (by unfold ScS; omega)).sI _ sS_27) (by rw [sI_k _ (by decide), sI_o _ (by decide), sI_o _ (by decide)]; exact g21) (by rw [sI_s]; omega) (by rw [sI_o _ (by decide), sI_o _ (by decide), show ((s : Int)).toNat = s from rfl, sI_s]) (by rw [sI_o _ (by decide), show ((s : Int)).toNat = s from rfl, sI_s]) (Nat.or_lt_two_pow (n := 8) b1 kz.2) (by split; exact Nat.or_lt_two_pow (n := 8) b2 kz.2; exact b2) ?_ (by rw [show 61 - (q + 1) = 60 - q by omega]; exact he)
          split
          · have tp := pc_or1 (a := hd) kz.1
            omega
          · exact b3
        · refine st_iconst (q := 122) dX12_readsHides_121 ⟨by decide, by decide⟩ rfl ?_
          refine rt_z dX12_readsHides_122 rfl (by (repeat' split) <;> omega) ?_
          rw [if_pos (by first | exact Or.inl (tb1.mp c101) | exact Or.inr ⟨by omega, by omega⟩)] at he
          have tk := hP _ f g21 (by rw [← he]; exact g27) (by rw [← he]; exact g132) (by rw [← he]; exact g133)
          rw [← he] at tk
          exact tk
  · refine st_aload_n (q := 35) dX12_readsHides_34 rfl rfl ?_
    refine st_iload_n (q := 36) dX12_readsHides_35 rfl rfl ?_
    refine iV1i (q := 39) dX12_readsHides_36 rfl ml_X12_197 mv_X12_here (Nat.le_of_ble_eq_true rfl) (wfk w rfl) ?_
    refine c_X12_here w x ht hn g27 ?_
    rw [hC]
    refine st_bipush (q := 41) dX12_readsHides_39 ⟨by decide, by decide⟩ rfl ?_
    refine st_bipush (q := 43) dX12_readsHides_41 ⟨by decide, by decide⟩ rfl ?_
    refine iS3i (q := 46) dX12_readsHides_43 rfl ml_X12_130 ms_X12_in (Nat.le_of_ble_eq_true rfl) ?_
    refine c_X12_in ?_
    refine st_if_eq (q := 49) (tgt := 170) dX12_readsHides_46 (by decide) rfl (fun c46 => ?_) (fun c46 => ?_)
    · refine st_iconst (q := 171) dX12_readsHides_170 ⟨by decide, by decide⟩ rfl ?_
      refine rt_z dX12_readsHides_171 rfl (by (repeat' split) <;> omega) ?_
      rw [if_neg (by omega)] at he
      have tk := hP _ f g21 (by rw [← he]; exact g27) (by rw [← he]; exact g132) (by rw [← he]; exact g133)
      rw [← he] at tk
      exact tk
    · refine st_aload_n (q := 50) dX12_readsHides_49 rfl rfl ?_
      refine st_iload_n (q := 51) dX12_readsHides_50 rfl rfl ?_
      refine iV1i (q := 54) dX12_readsHides_51 rfl ml_X12_197 mv_X12_here (Nat.le_of_ble_eq_true rfl) (wfk w rfl) ?_
      refine c_X12_here w x ht hn g27 ?_
      rw [hC]
      refine st_bipush (q := 56) dX12_readsHides_54 ⟨by decide, by decide⟩ rfl ?_
      refine st_icmp_ge (q := 59) (tgt := 63) dX12_readsHides_56 (by decide) rfl (fun c56 => ?_) (fun c56 => ?_)
      · refine st_iconst (q := 64) dX12_readsHides_63 ⟨by decide, by decide⟩ rfl ?_
        refine st_istore_n (q := 65) (i := 3) dX12_readsHides_64 rfl (by decide) rfl ?_
        refine st_iload_n (q := 66) dX12_readsHides_65 rfl rfl ?_
        refine st_if_eq (q := 69) (tgt := 80) dX12_readsHides_66 (by decide) rfl (fun _ => ?_) (fun z => absurd z (by decide))
        refine st_aload_n (q := 81) dX12_readsHides_80 rfl rfl ?_
        refine st_iload_n (q := 82) dX12_readsHides_81 rfl rfl ?_
        refine iV1i (q := 85) dX12_readsHides_82 rfl ml_X12_197 mv_X12_here (Nat.le_of_ble_eq_true rfl) (wfk w rfl) ?_
        refine c_X12_here w x ht hn g27 ?_
        rw [hC]
        refine st_bipush (q := 87) dX12_readsHides_85 ⟨by decide, by decide⟩ rfl ?_
        first | refine n_isub (q := 88) dX12_readsHides_87 rfl ⟨by omega, by omega⟩ ?_ | refine st_isub (q := 88) dX12_readsHides_87 rfl ?_
        have zl : (97 ≤ C q ∧ C q ≤ 104) ∨ (65 ≤ C q ∧ C q ≤ 72) := (by omega)
        have kz := kb zl
        rw [if_pos zl] at he
        refine j_top ((ltK (C q) : Nat) : Int) (by unfold ltK; split <;> omega) ?_
        refine st_istore (q := 90) dX12_readsHides_88 (by decide) rfl ?_
        refine st_aload_n (q := 91) dX12_readsHides_90 rfl rfl ?_
        refine st_getR (q := 94) 12 22 dX12_readsHides_91 fl_X12_63 (by decide) (by decide) rfl rfl (wfk w rfl) (wfR w rfl) ?_
        refine st_iload_n (q := 95) dX12_readsHides_94 rfl rfl ?_
        refine st_iaload (q := 96) dX12_readsHides_95 rfl (wfk w rfl) (wfb w (n := 12) rfl ⟨by omega, by omega⟩) ?_
        refine j_top (sh : Int) g132 ?_
        refine st_iload (q := 98) dX12_readsHides_96 rfl rfl ?_
        refine iS2i (q := 101) dX12_readsHides_98 rfl ml_X12_174 ms_X12_has (Nat.le_of_ble_eq_true rfl) ?_
        refine c_X12_hasN (by omega) (by omega) ?_
        refine st_if_ne (q := 104) (tgt := 121) dX12_readsHides_101 (by decide) rfl (fun c101 => ?_) (fun c101 => ?_)
        · refine st_iconst (q := 122) dX12_readsHides_121 ⟨by decide, by decide⟩ rfl ?_
          refine rt_z dX12_readsHides_122 rfl (by (repeat' split) <;> omega) ?_
          rw [if_pos (by first | exact Or.inl (tb1.mp c101) | exact Or.inr ⟨by omega, by omega⟩)] at he
          have tk := hP _ f g21 (by rw [← he]; exact g27) (by rw [← he]; exact g132) (by rw [← he]; exact g133)
          rw [← he] at tk
          exact tk
        · refine st_iload_n (q := 105) dX12_readsHides_104 rfl rfl ?_
          refine st_if_eq (q := 108) (tgt := 123) dX12_readsHides_105 (by decide) rfl (fun _ => ?_) (fun z => absurd z (by decide))
          refine st_aload_n (q := 124) dX12_readsHides_123 rfl rfl ?_
          refine st_getR (q := 127) 12 22 dX12_readsHides_124 fl_X12_63 (by decide) (by decide) rfl rfl (wfk w rfl) (wfR w rfl) ?_
          refine st_iload_n (q := 128) dX12_readsHides_127 rfl rfl ?_
          refine st_dup2 (q := 129) dX12_readsHides_128 rfl rfl rfl ?_
          refine st_iaload (q := 130) dX12_readsHides_129 rfl (wfk w rfl) (wfb w (n := 12) rfl ⟨by omega, by omega⟩) ?_
          refine j_top (sh : Int) g132 ?_
          refine st_iconst (q := 131) dX12_readsHides_130 ⟨by decide, by decide⟩ rfl ?_
          refine st_iload (q := 133) dX12_readsHides_131 rfl rfl ?_
          refine st_ishl (q := 134) dX12_readsHides_133 rfl ?_
          refine j_top ((2 ^ ltK (C q) : Nat) : Int) (sh2 (by omega)) ?_
          refine st_ior (q := 135) dX12_readsHides_134 rfl ?_
          rw [ior_n (by omega) (by omega)]
          refine st_iastore (q := 136) dX12_readsHides_135 rfl (wfk w rfl) (wfb w (n := 12) rfl ⟨by omega, by omega⟩) ?_
          refine st_aload_n (q := 137) dX12_readsHides_136 rfl rfl ?_
          refine st_getR (q := 140) 12 23 dX12_readsHides_137 fl_X12_66 (by decide) (by decide) rfl rfl (wfk w rfl) (wfR w rfl) ?_
          refine st_iload_n (q := 141) dX12_readsHides_140 rfl rfl ?_
          refine st_dup2 (q := 142) dX12_readsHides_141 rfl rfl rfl ?_
          refine st_iaload (q := 143) dX12_readsHides_142 rfl (wfk w rfl) (wfb w (n := 12) rfl ⟨by omega, by omega⟩) ?_
          refine j_top (hd : Int) (by rw [sI_o _ (by decide)]; exact g133) ?_
          refine st_iload_n (q := 144) dX12_readsHides_143 rfl rfl ?_
          refine st_if_eq (q := 147) (tgt := 154) dX12_readsHides_144 (by decide) rfl (fun _ => ?_) (fun z => absurd z (by decide))
          refine st_iconst (q := 155) dX12_readsHides_154 ⟨by decide, by decide⟩ rfl ?_
          refine st_ior (q := 156) dX12_readsHides_155 rfl ?_
          refine j_top (((if C q < 97 then hd ||| 2 ^ ltK (C q) else hd : Nat)) : Int) (by first | (rw [if_pos (by omega)]; exact ior_n (by omega) (by omega)) | (rw [if_neg (by omega)]; have t := ior_n (a := hd) (b := 0) (by omega) (by omega); rw [Nat.or_zero] at t; exact t)) ?_
          refine st_iastore (q := 157) dX12_readsHides_156 rfl (wfk w rfl) (wfb w (n := 12) rfl ⟨by omega, by omega⟩) ?_
          refine st_aload_n (q := 158) dX12_readsHides_157 rfl rfl ?_
          refine st_dup (q := 159) dX12_readsHides_158 rfl rfl ?_
          refine st_getI (q := 162) 12 27 dX12_readsHides_159 fl_X12_191 (by decide) (by decide) rfl rfl (wfk w rfl) ?_
          refine j_top (q : Int) (by rw [sI_o _ (by decide), sI_o _ (by decide)]; exact g27) ?_
          refine st_iconst (q := 163) dX12_readsHides_162 ⟨by decide, by decide⟩ rfl ?_
          first | refine n_iadd (q := 164) dX12_readsHides_163 rfl ⟨by omega, by omega⟩ ?_ | refine st_iadd (q := 164) dX12_readsHides_163 rfl ?_
          refine st_putI (q := 167) 12 27 dX12_readsHides_164 fl_X12_191 (by decide) (by decide) (Or.inl rfl) rfl (Or.inl rfl) (wfk w rfl) ?_
          refine st_goto (q := 19) dX12_readsHides_167 (by decide) ?_
          have hqn := lt q (by omega)
          rw [if_neg (by rintro (zz | zz); exact absurd c101 (tb1.mpr zz); omega)] at he
          subst hC
          refine lp_X12_readsHides w0 x0 ht hn hs hP (q + 1) (by omega) _ (sh ||| 2 ^ ltK (chT T n q)) (if chT T n q < 97 then hd ||| 2 ^ ltK (chT T n q) else hd) _ _ (((f.sI _ (by unfold ScS; omega)).sI _ (by unfold ScS; omega)).sI _ sS_27) (by rw [sI_k _ (by decide), sI_o _ (by decide), sI_o _ (by decide)]; exact g21) (by rw [sI_s]; omega) (by rw [sI_o _ (by decide), sI_o _ (by decide), show ((s : Int)).toNat = s from rfl, sI_s]) (by rw [sI_o _ (by decide), show ((s : Int)).toNat = s from rfl, sI_s]) (Nat.or_lt_two_pow (n := 8) b1 kz.2) (by split; exact Nat.or_lt_two_pow (n := 8) b2 kz.2; exact b2) ?_ (by rw [show 61 - (q + 1) = 60 - q by omega]; exact he)
          split
          · have tp := pc_or1 (a := hd) kz.1
            omega
          · exact b3
      · refine st_iconst (q := 60) dX12_readsHides_59 ⟨by decide, by decide⟩ rfl ?_
        refine st_goto (q := 64) dX12_readsHides_60 (by decide) ?_
        refine st_istore_n (q := 65) (i := 3) dX12_readsHides_64 rfl (by decide) rfl ?_
        refine st_iload_n (q := 66) dX12_readsHides_65 rfl rfl ?_
        refine st_if_eq (q := 69) (tgt := 80) dX12_readsHides_66 (by decide) rfl (fun z => absurd z (by decide)) (fun _ => ?_)
        refine st_aload_n (q := 70) dX12_readsHides_69 rfl rfl ?_
        refine st_iload_n (q := 71) dX12_readsHides_70 rfl rfl ?_
        refine iV1i (q := 74) dX12_readsHides_71 rfl ml_X12_197 mv_X12_here (Nat.le_of_ble_eq_true rfl) (wfk w rfl) ?_
        refine c_X12_here w x ht hn g27 ?_
        rw [hC]
        refine st_bipush (q := 76) dX12_readsHides_74 ⟨by decide, by decide⟩ rfl ?_
        first | refine n_isub (q := 77) dX12_readsHides_76 rfl ⟨by omega, by omega⟩ ?_ | refine st_isub (q := 77) dX12_readsHides_76 rfl ?_
        refine st_goto (q := 88) dX12_readsHides_77 (by decide) ?_
        have zl : (97 ≤ C q ∧ C q ≤ 104) ∨ (65 ≤ C q ∧ C q ≤ 72) := (by omega)
        have kz := kb zl
        rw [if_pos zl] at he
        refine j_top ((ltK (C q) : Nat) : Int) (by unfold ltK; split <;> omega) ?_
        refine st_istore (q := 90) dX12_readsHides_88 (by decide) rfl ?_
        refine st_aload_n (q := 91) dX12_readsHides_90 rfl rfl ?_
        refine st_getR (q := 94) 12 22 dX12_readsHides_91 fl_X12_63 (by decide) (by decide) rfl rfl (wfk w rfl) (wfR w rfl) ?_
        refine st_iload_n (q := 95) dX12_readsHides_94 rfl rfl ?_
        refine st_iaload (q := 96) dX12_readsHides_95 rfl (wfk w rfl) (wfb w (n := 12) rfl ⟨by omega, by omega⟩) ?_
        refine j_top (sh : Int) g132 ?_
        refine st_iload (q := 98) dX12_readsHides_96 rfl rfl ?_
        refine iS2i (q := 101) dX12_readsHides_98 rfl ml_X12_174 ms_X12_has (Nat.le_of_ble_eq_true rfl) ?_
        refine c_X12_hasN (by omega) (by omega) ?_
        refine st_if_ne (q := 104) (tgt := 121) dX12_readsHides_101 (by decide) rfl (fun c101 => ?_) (fun c101 => ?_)
        · refine st_iconst (q := 122) dX12_readsHides_121 ⟨by decide, by decide⟩ rfl ?_
          refine rt_z dX12_readsHides_122 rfl (by (repeat' split) <;> omega) ?_
          rw [if_pos (by first | exact Or.inl (tb1.mp c101) | exact Or.inr ⟨by omega, by omega⟩)] at he
          have tk := hP _ f g21 (by rw [← he]; exact g27) (by rw [← he]; exact g132) (by rw [← he]; exact g133)
          rw [← he] at tk
          exact tk
        · refine st_iload_n (q := 105) dX12_readsHides_104 rfl rfl ?_
          refine st_if_eq (q := 108) (tgt := 123) dX12_readsHides_105 (by decide) rfl (fun z => absurd z (by decide)) (fun _ => ?_)
          refine st_aload_n (q := 109) dX12_readsHides_108 rfl rfl ?_
          refine st_getR (q := 112) 12 23 dX12_readsHides_109 fl_X12_66 (by decide) (by decide) rfl rfl (wfk w rfl) (wfR w rfl) ?_
          refine st_iload_n (q := 113) dX12_readsHides_112 rfl rfl ?_
          refine st_iaload (q := 114) dX12_readsHides_113 rfl (wfk w rfl) (wfb w (n := 12) rfl ⟨by omega, by omega⟩) ?_
          refine j_top (hd : Int) g133 ?_
          refine iS1i (q := 117) dX12_readsHides_114 rfl ml_X12_168 ms_X12_bits (Nat.le_of_ble_eq_true rfl) ?_
          refine c_X12_bits ?_
          rw [bitsF_n (by omega) 16 (by omega)]
          refine st_iconst (q := 118) dX12_readsHides_117 ⟨by decide, by decide⟩ rfl ?_
          refine st_icmp_ne (q := 121) (tgt := 123) dX12_readsHides_118 (by decide) rfl (fun c118 => ?_) (fun c118 => ?_)
          · refine st_aload_n (q := 124) dX12_readsHides_123 rfl rfl ?_
            refine st_getR (q := 127) 12 22 dX12_readsHides_124 fl_X12_63 (by decide) (by decide) rfl rfl (wfk w rfl) (wfR w rfl) ?_
            refine st_iload_n (q := 128) dX12_readsHides_127 rfl rfl ?_
            refine st_dup2 (q := 129) dX12_readsHides_128 rfl rfl rfl ?_
            refine st_iaload (q := 130) dX12_readsHides_129 rfl (wfk w rfl) (wfb w (n := 12) rfl ⟨by omega, by omega⟩) ?_
            refine j_top (sh : Int) g132 ?_
            refine st_iconst (q := 131) dX12_readsHides_130 ⟨by decide, by decide⟩ rfl ?_
            refine st_iload (q := 133) dX12_readsHides_131 rfl rfl ?_
            refine st_ishl (q := 134) dX12_readsHides_133 rfl ?_
            refine j_top ((2 ^ ltK (C q) : Nat) : Int) (sh2 (by omega)) ?_
            refine st_ior (q := 135) dX12_readsHides_134 rfl ?_
            rw [ior_n (by omega) (by omega)]
            refine st_iastore (q := 136) dX12_readsHides_135 rfl (wfk w rfl) (wfb w (n := 12) rfl ⟨by omega, by omega⟩) ?_
            refine st_aload_n (q := 137) dX12_readsHides_136 rfl rfl ?_
            refine st_getR (q := 140) 12 23 dX12_readsHides_137 fl_X12_66 (by decide) (by decide) rfl rfl (wfk w rfl) (wfR w rfl) ?_
            refine st_iload_n (q := 141) dX12_readsHides_140 rfl rfl ?_
            refine st_dup2 (q := 142) dX12_readsHides_141 rfl rfl rfl ?_
            refine st_iaload (q := 143) dX12_readsHides_142 rfl (wfk w rfl) (wfb w (n := 12) rfl ⟨by omega, by omega⟩) ?_
            refine j_top (hd : Int) (by rw [sI_o _ (by decide)]; exact g133) ?_
            refine st_iload_n (q := 144) dX12_readsHides_143 rfl rfl ?_
            refine st_if_eq (q := 147) (tgt := 154) dX12_readsHides_144 (by decide) rfl (fun z => absurd z (by decide)) (fun _ => ?_)
            refine st_iconst (q := 148) dX12_readsHides_147 ⟨by decide, by decide⟩ rfl ?_
            refine st_iload (q := 150) dX12_readsHides_148 rfl rfl ?_
            refine st_ishl (q := 151) dX12_readsHides_150 rfl ?_
            refine j_top ((2 ^ ltK (C q) : Nat) : Int) (sh2 (by omega)) ?_
            refine st_goto (q := 155) dX12_readsHides_151 (by decide) ?_
            refine st_ior (q := 156) dX12_readsHides_155 rfl ?_
            refine j_top (((if C q < 97 then hd ||| 2 ^ ltK (C q) else hd : Nat)) : Int) (by first | (rw [if_pos (by omega)]; exact ior_n (by omega) (by omega)) | (rw [if_neg (by omega)]; have t := ior_n (a := hd) (b := 0) (by omega) (by omega); rw [Nat.or_zero] at t; exact t)) ?_
            refine st_iastore (q := 157) dX12_readsHides_156 rfl (wfk w rfl) (wfb w (n := 12) rfl ⟨by omega, by omega⟩) ?_
            refine st_aload_n (q := 158) dX12_readsHides_157 rfl rfl ?_
            refine st_dup (q := 159) dX12_readsHides_158 rfl rfl ?_
            refine st_getI (q := 162) 12 27 dX12_readsHides_159 fl_X12_191 (by decide) (by decide) rfl rfl (wfk w rfl) ?_
            refine j_top (q : Int) (by rw [sI_o _ (by decide), sI_o _ (by decide)]; exact g27) ?_
            refine st_iconst (q := 163) dX12_readsHides_162 ⟨by decide, by decide⟩ rfl ?_
            first | refine n_iadd (q := 164) dX12_readsHides_163 rfl ⟨by omega, by omega⟩ ?_ | refine st_iadd (q := 164) dX12_readsHides_163 rfl ?_
            refine st_putI (q := 167) 12 27 dX12_readsHides_164 fl_X12_191 (by decide) (by decide) (Or.inl rfl) rfl (Or.inl rfl) (wfk w rfl) ?_
            refine st_goto (q := 19) dX12_readsHides_167 (by decide) ?_
            have hqn := lt q (by omega)
            rw [if_neg (by rintro (zz | zz); exact absurd c101 (tb1.mpr zz); omega)] at he
            subst hC
            refine lp_X12_readsHides w0 x0 ht hn hs hP (q + 1) (by omega) _ (sh ||| 2 ^ ltK (chT T n q)) (if chT T n q < 97 then hd ||| 2 ^ ltK (chT T n q) else hd) _ _ (((f.sI _ (by unfold ScS; omega)).sI _ (by unfold ScS; omega)).sI _ sS_27) (by rw [sI_k _ (by decide), sI_o _ (by decide), sI_o _ (by decide)]; exact g21) (by rw [sI_s]; omega) (by rw [sI_o _ (by decide), sI_o _ (by decide), show ((s : Int)).toNat = s from rfl, sI_s]) (by rw [sI_o _ (by decide), show ((s : Int)).toNat = s from rfl, sI_s]) (Nat.or_lt_two_pow (n := 8) b1 kz.2) (by split; exact Nat.or_lt_two_pow (n := 8) b2 kz.2; exact b2) ?_ (by rw [show 61 - (q + 1) = 60 - q by omega]; exact he)
            split
            · have tp := pc_or1 (a := hd) kz.1
              omega
            · exact b3
          · refine st_iconst (q := 122) dX12_readsHides_121 ⟨by decide, by decide⟩ rfl ?_
            refine rt_z dX12_readsHides_122 rfl (by (repeat' split) <;> omega) ?_
            rw [if_pos (by first | exact Or.inl (tb1.mp c101) | exact Or.inr ⟨by omega, by omega⟩)] at he
            have tk := hP _ f g21 (by rw [← he]; exact g27) (by rw [← he]; exact g132) (by rw [← he]; exact g133)
            rw [← he] at tk
            exact tk
termination_by n - q
theorem c_X12_readsHides {d : Nat} {h : JH} {P : Int → JH → Prop} {t n s p : Nat} {T : Nat → Int} (w : WF h) (x : TM h t T n) (ht : t < 4) (hn : n ≤ 60) (hs : s < 12) (g21 : hI h 117 21 = (s : Int)) (g27 : hI h 117 27 = (p : Int)) (hp : p ≤ n) (hP : ∀ h', Fr (ScS s) h h' → hI h' 117 21 = (s : Int) → hI h' 117 27 = ((hidP (chT T n) (61 - p) p 0 0).2.1 : Int) → hI h' 132 s = ((hidP (chT T n) (61 - p) p 0 0).2.2.1 : Int) → hI h' 133 s = ((hidP (chT T n) (61 - p) p 0 0).2.2.2 : Int) → P (if (hidP (chT T n) (61 - p) p 0 0).1 then 1 else 0) h') : JRi (d + 1) jX12_readsHides [vr 117, vi t] h P := by
  refine JRet.of rfl (Nat.le_of_ble_eq_true rfl) ?_
  refine st_aload_n (q := 1) dX12_readsHides_0 rfl rfl ?_
  refine st_getI (q := 4) 12 21 dX12_readsHides_1 fl_X12_200 (by decide) (by decide) rfl rfl (wfk w rfl) ?_
  refine j_top (s : Int) g21 ?_
  refine st_istore_n (q := 5) (i := 2) dX12_readsHides_4 rfl (by decide) rfl ?_
  refine st_aload_n (q := 6) dX12_readsHides_5 rfl rfl ?_
  refine st_getR (q := 9) 12 22 dX12_readsHides_6 fl_X12_63 (by decide) (by decide) rfl rfl (wfk w rfl) (wfR w rfl) ?_
  refine st_iload_n (q := 10) dX12_readsHides_9 rfl rfl ?_
  refine st_iconst (q := 11) dX12_readsHides_10 ⟨by decide, by decide⟩ rfl ?_
  refine st_iastore (q := 12) dX12_readsHides_11 rfl (wfk w rfl) (wfb w (n := 12) rfl ⟨by omega, by omega⟩) ?_
  refine st_aload_n (q := 13) dX12_readsHides_12 rfl rfl ?_
  refine st_getR (q := 16) 12 23 dX12_readsHides_13 fl_X12_66 (by decide) (by decide) rfl rfl (wfk w rfl) (wfR w rfl) ?_
  refine st_iload_n (q := 17) dX12_readsHides_16 rfl rfl ?_
  refine st_iconst (q := 18) dX12_readsHides_17 ⟨by decide, by decide⟩ rfl ?_
  refine st_iastore (q := 19) dX12_readsHides_18 rfl (wfk w rfl) (wfb w (n := 12) rfl ⟨by omega, by omega⟩) ?_
  exact lp_X12_readsHides w x ht hn hs hP p hp _ 0 0 _ _ ((Fr.rf.sI _ (by unfold ScS; omega)).sI _ (by unfold ScS; omega)) (by rw [sI_o _ (by decide), sI_o _ (by decide)]; exact g21) (by rw [sI_o _ (by decide), sI_o _ (by decide)]; exact g27) (by rw [sI_o _ (by decide), show ((s : Int)).toNat = s from rfl, sI_s]; rfl) (by rw [show ((s : Int)).toNat = s from rfl, sI_s]; rfl) (by decide) (by decide) (by rw [pcN_0]; omega) rfl
/-- the scene's numbers stand at place s -/
def RM (h : JH) (s : Nat) (r : Bool × Nat × Nat × Nat × Int × Int × Int) : Prop := hI h 132 s = (r.2.2.1 : Int) ∧ hI h 133 s = (r.2.2.2.1 : Int) ∧ hI h 134 s = r.2.2.2.2.1 ∧ hI h 135 s = r.2.2.2.2.2.1 ∧ hI h 136 s = r.2.2.2.2.2.2
theorem c_X12_readsScene {d : Nat} {h : JH} {P : Int → JH → Prop} {t n s p : Nat} {T : Nat → Int} (w : WF h) (x : TM h t T n) (ht : t < 4) (hn : n ≤ 60) (hs : s < 12) (g21 : hI h 117 21 = (s : Int)) (g27 : hI h 117 27 = (p : Int)) (hp : p ≤ n) (h0 : (scP (chT T n) p).1 = false → ∀ h', Fr (ScS s) h h' → hI h' 117 27 = ((scP (chT T n) p).2.1 : Int) → P 0 h') (h1 : (scP (chT T n) p).1 = true → ∀ h', Fr (ScS s) h h' → hI h' 117 21 = ((s + 1 : Nat) : Int) → hI h' 117 27 = ((scP (chT T n) p).2.1 : Int) → RM h' s (scP (chT T n) p) → P 1 h') : JRi (d + 2) jX12_readsScene [vr 117, vi t] h P := by
  have hr := hidP_n (T := T) (n := n) (61 - p) p 0 0 hp
  have hu := numP_b (T := T) (n := n) hr
  have hlt : ∀ q, chT T n q ≠ -9 → q < n := fun q z => chT_lt z
  have hnum : ∀ q, q ≤ n → _ := fun q z => numP_b (T := T) (n := n) (p := q) z
  have eS : scP (chT T n) p = (if (hidP (chT T n) (61 - p) p 0 0).1 = false then (false, (hidP (chT T n) (61 - p) p 0 0).2.1, 0, 0, 0, 0, 0) else if (numP (chT T n) (hidP (chT T n) (61 - p) p 0 0).2.1).2 < 1 then (false, (numP (chT T n) (hidP (chT T n) (61 - p) p 0 0).2.1).1, 0, 0, 0, 0, 0) else if (if chT T n (numP (chT T n) (hidP (chT T n) (61 - p) p 0 0).2.1).1 = 45 then (numP (chT T n) ((numP (chT T n) (hidP (chT T n) (61 - p) p 0 0).2.1).1 + 1)).2 else (numP (chT T n) (hidP (chT T n) (61 - p) p 0 0).2.1).2) < (numP (chT T n) (hidP (chT T n) (61 - p) p 0 0).2.1).2 then (false, (if chT T n (numP (chT T n) (hidP (chT T n) (61 - p) p 0 0).2.1).1 = 45 then (numP (chT T n) ((numP (chT T n) (hidP (chT T n) (61 - p) p 0 0).2.1).1 + 1)).1 else (numP (chT T n) (hidP (chT T n) (61 - p) p 0 0).2.1).1), 0, 0, 0, 0, 0) else (true, (if chT T n (numP (chT T n) (hidP (chT T n) (61 - p) p 0 0).2.1).1 = 45 then (numP (chT T n) ((numP (chT T n) (hidP (chT T n) (61 - p) p 0 0).2.1).1 + 1)).1 else (numP (chT T n) (hidP (chT T n) (61 - p) p 0 0).2.1).1) + (if chT T n (if chT T n (numP (chT T n) (hidP (chT T n) (61 - p) p 0 0).2.1).1 = 45 then (numP (chT T n) ((numP (chT T n) (hidP (chT T n) (61 - p) p 0 0).2.1).1 + 1)).1 else (numP (chT T n) (hidP (chT T n) (61 - p) p 0 0).2.1).1) = 33 then (1 : Int) else 0).toNat, (hidP (chT T n) (61 - p) p 0 0).2.2.1, (hidP (chT T n) (61 - p) p 0 0).2.2.2, (numP (chT T n) (hidP (chT T n) (61 - p) p 0 0).2.1).2, (if chT T n (numP (chT T n) (hidP (chT T n) (61 - p) p 0 0).2.1).1 = 45 then (numP (chT T n) ((numP (chT T n) (hidP (chT T n) (61 - p) p 0 0).2.1).1 + 1)).2 else (numP (chT T n) (hidP (chT T n) (61 - p) p 0 0).2.1).2), (if chT T n (if chT T n (numP (chT T n) (hidP (chT T n) (61 - p) p 0 0).2.1).1 = 45 then (numP (chT T n) ((numP (chT T n) (hidP (chT T n) (61 - p) p 0 0).2.1).1 + 1)).1 else (numP (chT T n) (hidP (chT T n) (61 - p) p 0 0).2.1).1) = 33 then (1 : Int) else 0))) := rfl
  generalize hR : hidP (chT T n) (61 - p) p 0 0 = r at *
  generalize hA : numP (chT T n) r.2.1 = a at *
  generalize hC : chT T n = C at *
  have hT : ∀ h' (q : Nat) (m : Int), q ≤ n → Fr (ScS s) h h' → hI h' 117 21 = (s : Int) → hI h' 117 27 = (q : Int) → hI h' 132 s = (r.2.2.1 : Int) → hI h' 133 s = (r.2.2.2 : Int) → hI h' 134 s = a.2 → hI h' 135 s = m → scP C p = (true, q + (if C q = 33 then (1 : Int) else 0).toNat, r.2.2.1, r.2.2.2, a.2, m, if C q = 33 then (1 : Int) else 0) → JAt k0 (d + 2) jX12_readsScene 90 [vr 117, vi t, vi s] [] h' (jqi P) := by
    intro h' q m hq f g21 g27 gS gH gL gM e
    have w := f.wf w
    have x' := x.fr f
    have hT2 : ∀ k : Int, k = (if C q = 33 then (1 : Int) else 0) → P 1 (sI (sI (sI h' 136 s k) 117 27 ((q : Int) + k)) 117 21 ((s : Int) + 1)) := by
      intro k ek
      refine h1 (by rw [e]) _ (((f.sI _ (by unfold ScS; omega)).sI _ sS_27).sI _ sS_21) (by rw [sI_s]; omega) (by rw [sI_k _ (by decide), sI_s, e]; show (q : Int) + k = ((q + (if C q = 33 then (1 : Int) else 0).toNat : Nat) : Int); rw [← ek]; have : 0 ≤ k := (by rw [ek]; split <;> omega); omega) ?_
      rw [e]
      unfold RM
      refine ⟨?_, ?_, ?_, ?_, ?_⟩
      · rw [sI_o _ (by decide), sI_o _ (by decide), sI_o _ (by decide)]; exact gS
      · rw [sI_o _ (by decide), sI_o _ (by decide), sI_o _ (by decide)]; exact gH
      · rw [sI_o _ (by decide), sI_o _ (by decide), sI_o _ (by decide)]; exact gL
      · rw [sI_o _ (by decide), sI_o _ (by decide), sI_o _ (by decide)]; exact gM
      · rw [sI_o _ (by decide), sI_o _ (by decide), sI_s]; exact ek
    refine st_aload_n (q := 91) dX12_readsScene_90 rfl rfl ?_
    refine st_getR (q := 94) 12 26 dX12_readsScene_91 fl_X12_75 (by decide) (by decide) rfl rfl (wfk w rfl) (wfR w rfl) ?_
    refine st_iload_n (q := 95) dX12_readsScene_94 rfl rfl ?_
    refine st_aload_n (q := 96) dX12_readsScene_95 rfl rfl ?_
    refine st_iload_n (q := 97) dX12_readsScene_96 rfl rfl ?_
    refine iV1i (q := 100) dX12_readsScene_97 rfl ml_X12_197 mv_X12_here (Nat.le_of_ble_eq_true rfl) (wfk w rfl) ?_
    refine c_X12_here w x' ht hn g27 ?_
    rw [hC]
    refine st_bipush (q := 102) dX12_readsScene_100 ⟨by decide, by decide⟩ rfl ?_
    refine st_icmp_ne (q := 105) (tgt := 109) dX12_readsScene_102 (by decide) rfl (fun c102 => ?_) (fun c102 => ?_)
    · refine st_iconst (q := 110) dX12_readsScene_109 ⟨by decide, by decide⟩ rfl ?_
      refine st_iastore (q := 111) dX12_readsScene_110 rfl (wfk w rfl) (wfb w (n := 12) rfl ⟨by omega, by omega⟩) ?_
      refine st_aload_n (q := 112) dX12_readsScene_111 rfl rfl ?_
      refine st_dup (q := 113) dX12_readsScene_112 rfl rfl ?_
      refine st_getI (q := 116) 12 27 dX12_readsScene_113 fl_X12_191 (by decide) (by decide) rfl rfl (wfk w rfl) ?_
      refine j_top (q : Int) (by rw [sI_o _ (by decide)]; exact g27) ?_
      refine st_aload_n (q := 117) dX12_readsScene_116 rfl rfl ?_
      refine st_getR (q := 120) 12 26 dX12_readsScene_117 fl_X12_75 (by decide) (by decide) rfl rfl (wfk w rfl) (wfR w rfl) ?_
      refine st_iload_n (q := 121) dX12_readsScene_120 rfl rfl ?_
      refine st_iaload (q := 122) dX12_readsScene_121 rfl (wfk w rfl) (wfb w (n := 12) rfl ⟨by omega, by omega⟩) ?_
      rw [sI_s]
      first | refine n_iadd (q := 123) dX12_readsScene_122 rfl ⟨by omega, by omega⟩ ?_ | refine st_iadd (q := 123) dX12_readsScene_122 rfl ?_
      refine st_putI (q := 126) 12 27 dX12_readsScene_123 fl_X12_191 (by decide) (by decide) (Or.inl rfl) rfl (Or.inl rfl) (wfk w rfl) ?_
      refine st_aload_n (q := 127) dX12_readsScene_126 rfl rfl ?_
      refine st_dup (q := 128) dX12_readsScene_127 rfl rfl ?_
      refine st_getI (q := 131) 12 21 dX12_readsScene_128 fl_X12_200 (by decide) (by decide) rfl rfl (wfk w rfl) ?_
      refine j_top (s : Int) (by rw [sI_k _ (by decide), sI_o _ (by decide)]; exact g21) ?_
      refine st_iconst (q := 132) dX12_readsScene_131 ⟨by decide, by decide⟩ rfl ?_
      first | refine n_iadd (q := 133) dX12_readsScene_132 rfl ⟨by omega, by omega⟩ ?_ | refine st_iadd (q := 133) dX12_readsScene_132 rfl ?_
      refine st_putI (q := 136) 12 21 dX12_readsScene_133 fl_X12_200 (by decide) (by decide) (Or.inl rfl) rfl (Or.inl rfl) (wfk w rfl) ?_
      refine st_iconst (q := 137) dX12_readsScene_136 ⟨by decide, by decide⟩ rfl ?_
      refine rt_z dX12_readsScene_137 rfl (by (repeat' split) <;> omega) ?_
      first | exact hT2 1 (by rw [if_pos (by omega)]) | exact hT2 0 (by rw [if_neg (by omega)])
    · refine st_iconst (q := 106) dX12_readsScene_105 ⟨by decide, by decide⟩ rfl ?_
      refine st_goto (q := 110) dX12_readsScene_106 (by decide) ?_
      refine st_iastore (q := 111) dX12_readsScene_110 rfl (wfk w rfl) (wfb w (n := 12) rfl ⟨by omega, by omega⟩) ?_
      refine st_aload_n (q := 112) dX12_readsScene_111 rfl rfl ?_
      refine st_dup (q := 113) dX12_readsScene_112 rfl rfl ?_
      refine st_getI (q := 116) 12 27 dX12_readsScene_113 fl_X12_191 (by decide) (by decide) rfl rfl (wfk w rfl) ?_
      refine j_top (q : Int) (by rw [sI_o _ (by decide)]; exact g27) ?_
      refine st_aload_n (q := 117) dX12_readsScene_116 rfl rfl ?_
      refine st_getR (q := 120) 12 26 dX12_readsScene_117 fl_X12_75 (by decide) (by decide) rfl rfl (wfk w rfl) (wfR w rfl) ?_
      refine st_iload_n (q := 121) dX12_readsScene_120 rfl rfl ?_
      refine st_iaload (q := 122) dX12_readsScene_121 rfl (wfk w rfl) (wfb w (n := 12) rfl ⟨by omega, by omega⟩) ?_
      rw [sI_s]
      first | refine n_iadd (q := 123) dX12_readsScene_122 rfl ⟨by omega, by omega⟩ ?_ | refine st_iadd (q := 123) dX12_readsScene_122 rfl ?_
      refine st_putI (q := 126) 12 27 dX12_readsScene_123 fl_X12_191 (by decide) (by decide) (Or.inl rfl) rfl (Or.inl rfl) (wfk w rfl) ?_
      refine st_aload_n (q := 127) dX12_readsScene_126 rfl rfl ?_
      refine st_dup (q := 128) dX12_readsScene_127 rfl rfl ?_
      refine st_getI (q := 131) 12 21 dX12_readsScene_128 fl_X12_200 (by decide) (by decide) rfl rfl (wfk w rfl) ?_
      refine j_top (s : Int) (by rw [sI_k _ (by decide), sI_o _ (by decide)]; exact g21) ?_
      refine st_iconst (q := 132) dX12_readsScene_131 ⟨by decide, by decide⟩ rfl ?_
      first | refine n_iadd (q := 133) dX12_readsScene_132 rfl ⟨by omega, by omega⟩ ?_ | refine st_iadd (q := 133) dX12_readsScene_132 rfl ?_
      refine st_putI (q := 136) 12 21 dX12_readsScene_133 fl_X12_200 (by decide) (by decide) (Or.inl rfl) rfl (Or.inl rfl) (wfk w rfl) ?_
      refine st_iconst (q := 137) dX12_readsScene_136 ⟨by decide, by decide⟩ rfl ?_
      refine rt_z dX12_readsScene_137 rfl (by (repeat' split) <;> omega) ?_
      first | exact hT2 1 (by rw [if_pos (by omega)]) | exact hT2 0 (by rw [if_neg (by omega)])
  have hU : ∀ h', r.1 = true → ¬ a.2 < 1 → Fr (ScS s) h h' → hI h' 117 21 = (s : Int) → hI h' 117 27 = (a.1 : Int) → hI h' 132 s = (r.2.2.1 : Int) → hI h' 133 s = (r.2.2.2 : Int) → hI h' 134 s = a.2 → hI h' 135 s = a.2 → JAt k0 (d + 2) jX12_readsScene 44 [vr 117, vi t, vi s] [] h' (jqi P) := by
    intro h' er ea f g21 g27 gS gH gL gM
    have w0 := w
    have w := f.wf w0
    have x' := x.fr f
    rw [if_neg (by rw [er]; decide), if_neg ea] at eS
    refine st_aload_n (q := 45) dX12_readsScene_44 rfl rfl ?_
    refine st_iload_n (q := 46) dX12_readsScene_45 rfl rfl ?_
    refine iV1i (q := 49) dX12_readsScene_46 rfl ml_X12_197 mv_X12_here (Nat.le_of_ble_eq_true rfl) (wfk w rfl) ?_
    refine c_X12_here w x' ht hn g27 ?_
    rw [hC]
    refine st_bipush (q := 51) dX12_readsScene_49 ⟨by decide, by decide⟩ rfl ?_
    refine st_icmp_ne (q := 54) (tgt := 90) dX12_readsScene_51 (by decide) rfl (fun c51 => ?_) (fun c51 => ?_)
    · first | exact hT _ a.1 a.2 hu.2.1 f g21 g27 gS gH gL gM (by simp only [if_neg c51] at eS; rw [eS, if_neg (by omega)]) | exact hT _ b.1 b.2 hv.2.1 (f6.sI _ (by unfold ScS; omega)) (by rw [sI_o _ (by decide), k21, sI_k _ (by decide)]; exact g21) (by rw [sI_o _ (by decide)]; exact k327) (by rw [sI_o _ (by decide), k3a _ _ (by decide), sI_o _ (by decide)]; exact gS) (by rw [sI_o _ (by decide), k3a _ _ (by decide), sI_o _ (by decide)]; exact gH) (by rw [sI_o _ (by decide), k3a _ _ (by decide), sI_o _ (by decide)]; exact gL) (by rw [show ((s : Int)).toNat = s from rfl, sI_s]) (by rw [eS, if_neg (by (repeat' split at c75) <;> omega)])
    · refine st_aload_n (q := 55) dX12_readsScene_54 rfl rfl ?_
      refine st_dup (q := 56) dX12_readsScene_55 rfl rfl ?_
      refine st_getI (q := 59) 12 27 dX12_readsScene_56 fl_X12_191 (by decide) (by decide) rfl rfl (wfk w rfl) ?_
      refine j_top (a.1 : Int) g27 ?_
      refine st_iconst (q := 60) dX12_readsScene_59 ⟨by decide, by decide⟩ rfl ?_
      first | refine n_iadd (q := 61) dX12_readsScene_60 rfl ⟨by omega, by omega⟩ ?_ | refine st_iadd (q := 61) dX12_readsScene_60 rfl ?_
      refine st_putI (q := 64) 12 27 dX12_readsScene_61 fl_X12_191 (by decide) (by decide) (Or.inl rfl) rfl (Or.inl rfl) (wfk w rfl) ?_
      refine st_aload_n (q := 65) dX12_readsScene_64 rfl rfl ?_
      refine st_iload_n (q := 66) dX12_readsScene_65 rfl rfl ?_
      refine st_aload_n (q := 67) dX12_readsScene_66 rfl rfl ?_
      refine st_getR (q := 70) 12 24 dX12_readsScene_67 fl_X12_69 (by decide) (by decide) rfl rfl (wfk w rfl) (wfR w rfl) ?_
      refine st_iload_n (q := 71) dX12_readsScene_70 rfl rfl ?_
      refine st_iaload (q := 72) dX12_readsScene_71 rfl (wfk w rfl) (wfb w (n := 12) rfl ⟨by omega, by omega⟩) ?_
      refine j_top a.2 (by rw [sI_o _ (by decide)]; exact gL) ?_
      have han := hlt a.1 (by omega)
      have f5 : Fr (ScS s) h (sI h' 117 27 ((a.1 : Int) + 1)) := f.sI _ sS_27
      have hv := hnum (a.1 + 1) (by omega)
      simp only [if_pos c51] at eS
      refine iV2i (q := 75) dX12_readsScene_72 rfl ml_X12_206 mv_X12_readsNumber (Nat.le_of_ble_eq_true rfl) (wfk w rfl) ?_
      refine c_X12_readsNumber (s := s) (p := a.1 + 1) (f5.wf w0) (x.fr f5) ht hn (by rw [sI_s]; omega) (by omega) (fun h3 f3 k21 k3a k327 k328 => ?_)
      rw [hC] at k327 k328
      rw [hC]
      generalize numP C (a.1 + 1) = b at *
      have f6 := f5.tr f3
      have w := f6.wf w0
      refine st_if_ne (q := 78) (tgt := 80) dX12_readsScene_75 (by decide) rfl (fun c75 => ?_) (fun c75 => ?_)
      · refine st_aload_n (q := 81) dX12_readsScene_80 rfl rfl ?_
        refine st_getR (q := 84) 12 25 dX12_readsScene_81 fl_X12_72 (by decide) (by decide) rfl rfl (wfk w rfl) (wfR w rfl) ?_
        refine st_iload_n (q := 85) dX12_readsScene_84 rfl rfl ?_
        refine st_aload_n (q := 86) dX12_readsScene_85 rfl rfl ?_
        refine st_getI (q := 89) 12 28 dX12_readsScene_86 fl_X12_194 (by decide) (by decide) rfl rfl (wfk w rfl) ?_
        refine j_top b.2 k328 ?_
        refine st_iastore (q := 90) dX12_readsScene_89 rfl (wfk w rfl) (wfb w (n := 12) rfl ⟨by omega, by omega⟩) ?_
        first | exact hT _ a.1 a.2 hu.2.1 f g21 g27 gS gH gL gM (by simp only [if_neg c51] at eS; rw [eS, if_neg (by omega)]) | exact hT _ b.1 b.2 hv.2.1 (f6.sI _ (by unfold ScS; omega)) (by rw [sI_o _ (by decide), k21, sI_k _ (by decide)]; exact g21) (by rw [sI_o _ (by decide)]; exact k327) (by rw [sI_o _ (by decide), k3a _ _ (by decide), sI_o _ (by decide)]; exact gS) (by rw [sI_o _ (by decide), k3a _ _ (by decide), sI_o _ (by decide)]; exact gH) (by rw [sI_o _ (by decide), k3a _ _ (by decide), sI_o _ (by decide)]; exact gL) (by rw [show ((s : Int)).toNat = s from rfl, sI_s]) (by rw [eS, if_neg (by (repeat' split at c75) <;> omega)])
      · refine st_iconst (q := 79) dX12_readsScene_78 ⟨by decide, by decide⟩ rfl ?_
        refine rt_z dX12_readsScene_79 rfl (by (repeat' split) <;> omega) ?_
        refine h0 (by rw [eS, if_pos (by (repeat' split at c75) <;> omega)]) _ f6 (by rw [eS, if_pos (by (repeat' split at c75) <;> omega)]; exact k327)
  refine JRet.of rfl (Nat.le_of_ble_eq_true rfl) ?_
  refine st_aload_n (q := 1) dX12_readsScene_0 rfl rfl ?_
  refine st_getI (q := 4) 12 21 dX12_readsScene_1 fl_X12_200 (by decide) (by decide) rfl rfl (wfk w rfl) ?_
  refine j_top (s : Int) g21 ?_
  refine st_istore_n (q := 5) (i := 2) dX12_readsScene_4 rfl (by decide) rfl ?_
  refine st_aload_n (q := 6) dX12_readsScene_5 rfl rfl ?_
  refine st_iload_n (q := 7) dX12_readsScene_6 rfl rfl ?_
  refine iV1i (q := 10) dX12_readsScene_7 rfl ml_X12_203 mv_X12_readsHides (Nat.le_of_ble_eq_true rfl) (wfk w rfl) ?_
  refine c_X12_readsHides w x ht hn hs g21 g27 hp (fun h2 f2 k21 k27 kS kH => ?_)
  rw [hC, hR] at k27 kS kH
  rw [hC, hR]
  have w := f2.wf w
  have x2 := x.fr f2
  refine st_if_eq (q := 13) (tgt := 22) dX12_readsScene_10 (by decide) rfl (fun c10 => ?_) (fun c10 => ?_)
  · refine st_iconst (q := 23) dX12_readsScene_22 ⟨by decide, by decide⟩ rfl ?_
    refine rt_z dX12_readsScene_23 rfl (by (repeat' split) <;> omega) ?_
    first | (rw [if_neg (show ¬ r.1 = false by (repeat' split at c10) <;> simp_all), if_pos (show a.2 < 1 by (repeat' split at c19) <;> omega)] at eS; exact h0 (by rw [eS]) _ (f2.tr f3) (by rw [eS]; exact k327)) | (rw [if_pos (show r.1 = false by (repeat' split at c10) <;> simp_all)] at eS; exact h0 (by rw [eS]) _ f2 (by rw [eS]; exact k27))
  · refine st_aload_n (q := 14) dX12_readsScene_13 rfl rfl ?_
    refine st_iload_n (q := 15) dX12_readsScene_14 rfl rfl ?_
    refine st_iconst (q := 16) dX12_readsScene_15 ⟨by decide, by decide⟩ rfl ?_
    refine iV2i (q := 19) dX12_readsScene_16 rfl ml_X12_206 mv_X12_readsNumber (Nat.le_of_ble_eq_true rfl) (wfk w rfl) ?_
    refine c_X12_readsNumber (s := s) w x2 ht hn k27 hr (fun h3 f3 k21' k3a k327 k328 => ?_)
    rw [hC, hA] at k327 k328
    rw [hC, hA]
    have w := f3.wf w
    have k321 := k21'.trans k21
    have x3 := x2.fr f3
    refine st_if_ne (q := 22) (tgt := 24) dX12_readsScene_19 (by decide) rfl (fun c19 => ?_) (fun c19 => ?_)
    · refine st_aload_n (q := 25) dX12_readsScene_24 rfl rfl ?_
      refine st_getR (q := 28) 12 24 dX12_readsScene_25 fl_X12_69 (by decide) (by decide) rfl rfl (wfk w rfl) (wfR w rfl) ?_
      refine st_iload_n (q := 29) dX12_readsScene_28 rfl rfl ?_
      refine st_aload_n (q := 30) dX12_readsScene_29 rfl rfl ?_
      refine st_getI (q := 33) 12 28 dX12_readsScene_30 fl_X12_194 (by decide) (by decide) rfl rfl (wfk w rfl) ?_
      refine j_top a.2 k328 ?_
      refine st_iastore (q := 34) dX12_readsScene_33 rfl (wfk w rfl) (wfb w (n := 12) rfl ⟨by omega, by omega⟩) ?_
      refine st_aload_n (q := 35) dX12_readsScene_34 rfl rfl ?_
      refine st_getR (q := 38) 12 25 dX12_readsScene_35 fl_X12_72 (by decide) (by decide) rfl rfl (wfk w rfl) (wfR w rfl) ?_
      refine st_iload_n (q := 39) dX12_readsScene_38 rfl rfl ?_
      refine st_aload_n (q := 40) dX12_readsScene_39 rfl rfl ?_
      refine st_getI (q := 43) 12 28 dX12_readsScene_40 fl_X12_194 (by decide) (by decide) rfl rfl (wfk w rfl) ?_
      refine j_top a.2 (by rw [sI_o _ (by decide)]; exact k328) ?_
      refine st_iastore (q := 44) dX12_readsScene_43 rfl (wfk w rfl) (wfb w (n := 12) rfl ⟨by omega, by omega⟩) ?_
      refine hU _ (show r.1 = true by (repeat' split at c10) <;> simp_all) (by (repeat' split at c19) <;> omega) (((f2.tr f3).sI _ (by unfold ScS; omega)).sI _ (by unfold ScS; omega)) (by rw [sI_o _ (by decide), sI_o _ (by decide)]; exact k321) (by rw [sI_o _ (by decide), sI_o _ (by decide)]; exact k327) (by rw [sI_o _ (by decide), sI_o _ (by decide), k3a _ _ (by decide)]; exact kS) (by rw [sI_o _ (by decide), sI_o _ (by decide), k3a _ _ (by decide)]; exact kH) (by rw [sI_o _ (by decide), show ((s : Int)).toNat = s from rfl, sI_s]) (by rw [show ((s : Int)).toNat = s from rfl, sI_s])
    · refine st_iconst (q := 23) dX12_readsScene_22 ⟨by decide, by decide⟩ rfl ?_
      refine rt_z dX12_readsScene_23 rfl (by (repeat' split) <;> omega) ?_
      first | (rw [if_neg (show ¬ r.1 = false by (repeat' split at c10) <;> simp_all), if_pos (show a.2 < 1 by (repeat' split at c19) <;> omega)] at eS; exact h0 (by rw [eS]) _ (f2.tr f3) (by rw [eS]; exact k327)) | (rw [if_pos (show r.1 = false by (repeat' split at c10) <;> simp_all)] at eS; exact h0 (by rw [eS]) _ f2 (by rw [eS]; exact k27))

