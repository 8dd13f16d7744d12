/-! the model: knocks -/
def kb1 (v : Int) : Nat := (iand v 1).toNat
def kbF (f : Nat → Int) : Nat → Nat
  | 0 => 0
  | k + 1 => kbF f k ||| (kb1 (f k) * 2 ^ k)
def gdF (f : Nat → Int) : Nat → Bool
  | 0 => true
  | k + 1 => gdF f k && decide (0 ≤ f k ∧ f k ≤ 1)
theorem kb1_le (v : Int) : kb1 v ≤ 1 := by have := iand_1 v; unfold kb1; omega
theorem kb1_e (v : Int) : iand v 1 = (kb1 v : Nat) := by have := iand_1 v; unfold kb1; omega
theorem kb2_lt (v : Int) (k : Nat) : kb1 v * 2 ^ k < 2 ^ (k + 1) := by
  have h1 := kb1_le v
  have h2 : 0 < 2 ^ k := Nat.two_pow_pos k
  have h3 : 2 ^ (k + 1) = 2 ^ k * 2 := Nat.pow_succ 2 k
  have h4 := Nat.mul_le_mul_right (2 ^ k) h1
  omega
theorem kbF_lt (f : Nat → Int) : ∀ k, kbF f k < 2 ^ k
  | 0 => by show 0 < 1; decide
  | k + 1 => by
    have h1 := kbF_lt f k
    have h3 : 2 ^ (k + 1) = 2 ^ k * 2 := Nat.pow_succ 2 k
    exact Nat.or_lt_two_pow (by omega) (kb2_lt (f k) k)
theorem lp_X12_knock {d : Nat} {h : JH} {P : Int → JH → Prop} {r n : Nat} {sign : Int} (w : WF h) (hr : r < 6) (hs : hI h 119 r = (n : Int)) (hn : 1 ≤ n ∧ n ≤ 8) (hg : 0 ≤ sign ∧ sign ≤ 7) (h1 : gdF (fun k => hI h 120 (40 * r + k)) n = false → P (-3) (mtH h 3)) (h2 : gdF (fun k => hI h 120 (40 * r + k)) n = true → P n (sI (sI h 146 sign.toNat n) 147 sign.toNat (kbF (fun k => hI h 120 (40 * r + k)) n))) (k : Nat) (hk : k ≤ n) : JAt k0 (d + 1) jX12_knock 84 [vr 117, vi sign, vi r, vi (kbF (fun k => hI h 120 (40 * r + k)) k), vi (if gdF (fun k => hI h 120 (40 * r + k)) k then 1 else 0), vi k] [] h (jqi P) := by
  generalize hf : (fun k => hI h 120 (40 * r + k)) = f at *
  have hfk : hI h 120 (40 * r + k) = f k := by rw [← hf]
  have b1 := kbF_lt f k
  have b2 := kb2_lt (f k) k
  have b3 : 2 ^ (k + 1) ≤ 2 ^ 9 := Nat.pow_le_pow_right (by omega) (by omega)
  have b4 : 2 ^ k ≤ 2 ^ 9 := Nat.pow_le_pow_right (by omega) (by omega)
  have e1 : kbF f (k + 1) = kbF f k ||| (kb1 (f k) * 2 ^ k) := rfl
  have e2 : gdF f (k + 1) = (gdF f k && decide (0 ≤ f k ∧ f k ≤ 1)) := rfl
  refine st_iload (q := 86) dX12_knock_84 rfl rfl ?_
  refine st_aload_n (q := 87) dX12_knock_86 rfl rfl ?_
  refine st_getR (q := 90) 12 5 dX12_knock_87 fl_X12_17 (by decide) (by decide) rfl rfl (wfk w rfl) (wfR w rfl) ?_
  refine st_iload_n (q := 91) dX12_knock_90 rfl rfl ?_
  refine st_iaload (q := 92) dX12_knock_91 rfl (wfk w rfl) (wfb w (n := 6) rfl ⟨by omega, by omega⟩) ?_
  refine j_top (n : Int) hs ?_
  refine st_icmp_ge (q := 95) (tgt := 143) dX12_knock_92 (by decide) rfl (fun c92 => ?_) (fun c92 => ?_)
  · have ek : k = n := by omega
    subst ek
    refine st_iload (q := 145) dX12_knock_143 rfl rfl ?_
    refine st_if_ne (q := 148) (tgt := 154) dX12_knock_145 (by decide) rfl (fun c145 => ?_) (fun c145 => ?_)
    · refine st_aload_n (q := 155) dX12_knock_154 rfl rfl ?_
      refine st_getR (q := 158) 12 41 dX12_knock_155 fl_X12_105 (by decide) (by decide) rfl rfl (wfk w rfl) (wfR w rfl) ?_
      refine st_iload_n (q := 159) dX12_knock_158 rfl rfl ?_
      refine st_aload_n (q := 160) dX12_knock_159 rfl rfl ?_
      refine st_getR (q := 163) 12 5 dX12_knock_160 fl_X12_17 (by decide) (by decide) rfl rfl (wfk w rfl) (wfR w rfl) ?_
      refine st_iload_n (q := 164) dX12_knock_163 rfl rfl ?_
      refine st_iaload (q := 165) dX12_knock_164 rfl (wfk w rfl) (wfb w (n := 6) rfl ⟨by omega, by omega⟩) ?_
      refine j_top (k : Int) hs ?_
      refine st_iastore (q := 166) dX12_knock_165 rfl (wfk w rfl) (wfb w (n := 8) rfl ⟨by omega, by omega⟩) ?_
      refine st_aload_n (q := 167) dX12_knock_166 rfl rfl ?_
      refine st_getR (q := 170) 12 42 dX12_knock_167 fl_X12_108 (by decide) (by decide) rfl rfl (wfk w rfl) (wfR w rfl) ?_
      refine st_iload_n (q := 171) dX12_knock_170 rfl rfl ?_
      refine st_iload_n (q := 172) dX12_knock_171 rfl rfl ?_
      refine st_iastore (q := 173) dX12_knock_172 rfl (wfk w rfl) (wfb w (n := 8) rfl ⟨by omega, by omega⟩) ?_
      refine st_aload_n (q := 174) dX12_knock_173 rfl rfl ?_
      refine st_getR (q := 177) 12 5 dX12_knock_174 fl_X12_17 (by decide) (by decide) rfl rfl (wfk w rfl) (wfR w rfl) ?_
      refine st_iload_n (q := 178) dX12_knock_177 rfl rfl ?_
      refine st_iaload (q := 179) dX12_knock_178 rfl (wfk w rfl) (wfb w (n := 6) rfl ⟨by omega, by omega⟩) ?_
      refine rt_i dX12_knock_179 rfl ?_
      exact pq (h2 (tb1.mp c145)) (by rw [← hs]; rfl) rfl
    · refine st_aload_n (q := 149) dX12_knock_148 rfl rfl ?_
      refine st_iconst (q := 150) dX12_knock_149 ⟨by decide, by decide⟩ rfl ?_
      refine iV1i (q := 153) dX12_knock_150 rfl ml_X12_138 mv_X12_meets (Nat.le_of_ble_eq_true rfl) (wfk w rfl) ?_
      refine c_X12_meets w (by decide) ?_
      refine rt_i dX12_knock_153 rfl ?_
      exact h1 (tb0.mp c145)
  · refine st_iload (q := 97) dX12_knock_95 rfl rfl ?_
    apply j_mg 120
    · intro K1 K2
      refine st_if_eq (q := 100) (tgt := 119) dX12_knock_97 (by decide) rfl (fun c97 => ?_) (fun c97 => ?_)
      · refine st_iconst (q := 120) dX12_knock_119 ⟨by decide, by decide⟩ rfl ?_
        exact K1 c97
      · refine st_aload_n (q := 101) dX12_knock_100 rfl rfl ?_
        refine st_iload_n (q := 102) dX12_knock_101 rfl rfl ?_
        refine st_iload (q := 104) dX12_knock_102 rfl rfl ?_
        refine iV2i (q := 107) dX12_knock_104 rfl ml_X12_148 mv_X12_rowAt (Nat.le_of_ble_eq_true rfl) (wfk w rfl) ?_
        refine c_X12_rowAt w (by omega) (by omega) ?_
        refine j_top (f k) (by rw [show (40 * (r : Int) + k).toNat = 40 * r + k by omega]; exact hfk) ?_
        refine st_iconst (q := 108) dX12_knock_107 ⟨by decide, by decide⟩ rfl ?_
        refine st_iconst (q := 109) dX12_knock_108 ⟨by decide, by decide⟩ rfl ?_
        refine iS3i (q := 112) dX12_knock_109 rfl ml_X12_130 ms_X12_in (Nat.le_of_ble_eq_true rfl) ?_
        refine c_X12_in ?_
        apply j_mg 120
        · intro K3 K4
          refine st_if_eq (q := 115) (tgt := 119) dX12_knock_112 (by decide) rfl (fun c112 => ?_) (fun c112 => ?_)
          · refine st_iconst (q := 120) dX12_knock_119 ⟨by decide, by decide⟩ rfl ?_
            exact K3 c112
          · refine st_iconst (q := 116) dX12_knock_115 ⟨by decide, by decide⟩ rfl ?_
            refine st_goto (q := 120) dX12_knock_116 (by decide) ?_
            exact K4 c112
        · simp only [jif_if]
          exact K2 c97
    · simp only [jif_if]
      refine j_top (if gdF f (k + 1) then 1 else 0) (by rw [e2]; cases gdF f k <;> simp <;> (repeat' split) <;> simp_all <;> omega) ?_
      refine st_istore (q := 122) dX12_knock_120 (by decide) rfl ?_
      refine st_iload_n (q := 123) dX12_knock_122 rfl rfl ?_
      refine st_aload_n (q := 124) dX12_knock_123 rfl rfl ?_
      refine st_iload_n (q := 125) dX12_knock_124 rfl rfl ?_
      refine st_iload (q := 127) dX12_knock_125 rfl rfl ?_
      refine iV2i (q := 130) dX12_knock_127 rfl ml_X12_148 mv_X12_rowAt (Nat.le_of_ble_eq_true rfl) (wfk w rfl) ?_
      refine c_X12_rowAt w (by omega) (by omega) ?_
      refine j_top (f k) (by rw [show (40 * (r : Int) + k).toNat = 40 * r + k by omega]; exact hfk) ?_
      refine st_iconst (q := 131) dX12_knock_130 ⟨by decide, by decide⟩ rfl ?_
      refine st_iand (q := 132) dX12_knock_131 rfl ?_
      rw [kb1_e]
      refine st_iload (q := 134) dX12_knock_132 rfl rfl ?_
      refine st_ishl (q := 135) dX12_knock_134 rfl ?_
      rw [ishl_n (by omega) (by omega)]
      refine st_ior (q := 136) dX12_knock_135 rfl ?_
      rw [ior_n (by omega) (by omega)]
      refine st_istore_n (q := 137) (i := 3) dX12_knock_136 rfl (by decide) rfl ?_
      first | refine n_iinc (q := 140) dX12_knock_137 rfl (by decide) rfl ⟨by omega, by omega⟩ ?_ | refine st_iinc (q := 140) dX12_knock_137 rfl (by decide) rfl ?_
      refine st_goto (q := 84) dX12_knock_140 (by decide) ?_
      exact (by subst hf; exact lp_X12_knock w hr hs hn hg h1 h2 (k + 1) (by omega))
termination_by n - k
theorem c_X12_knock {d : Nat} {h : JH} {P : Int → JH → Prop} {sign r : Int} (w : WF h) (h1 : ¬ ((0 ≤ sign ∧ sign ≤ 7) ∧ (r = -9 ∨ (0 ≤ r ∧ r ≤ 5))) → P (-1) h) (h2 : 0 ≤ sign ∧ sign ≤ 7 → r = -9 → P 0 (sI h 146 sign.toNat 0)) (h3 : 0 ≤ sign ∧ sign ≤ 7 → 0 ≤ r ∧ r ≤ 5 → hI h 119 r.toNat < 0 → P (-3) (mtH h 1)) (h4 : 0 ≤ sign ∧ sign ≤ 7 → 0 ≤ r ∧ r ≤ 5 → 0 ≤ hI h 119 r.toNat → ¬ (1 ≤ hI h 119 r.toNat ∧ hI h 119 r.toNat ≤ 8) → P (-3) (mtH h 5)) (h5 : 0 ≤ sign ∧ sign ≤ 7 → 0 ≤ r ∧ r ≤ 5 → 1 ≤ hI h 119 r.toNat ∧ hI h 119 r.toNat ≤ 8 → gdF (fun k => hI h 120 (40 * r.toNat + k)) (hI h 119 r.toNat).toNat = false → P (-3) (mtH h 3)) (h6 : 0 ≤ sign ∧ sign ≤ 7 → 0 ≤ r ∧ r ≤ 5 → 1 ≤ hI h 119 r.toNat ∧ hI h 119 r.toNat ≤ 8 → gdF (fun k => hI h 120 (40 * r.toNat + k)) (hI h 119 r.toNat).toNat = true → P (hI h 119 r.toNat) (sI (sI h 146 sign.toNat (hI h 119 r.toNat)) 147 sign.toNat (kbF (fun k => hI h 120 (40 * r.toNat + k)) (hI h 119 r.toNat).toNat))) : JRi (d + 2) jX12_knock [vr 117, vi sign, vi r] h P := by
  refine JRet.of rfl (Nat.le_of_ble_eq_true rfl) ?_
  refine st_iload_n (q := 1) dX12_knock_0 rfl rfl ?_
  refine st_iconst (q := 2) dX12_knock_1 ⟨by decide, by decide⟩ rfl ?_
  refine st_bipush (q := 4) dX12_knock_2 ⟨by decide, by decide⟩ rfl ?_
  refine iS3i (q := 7) dX12_knock_4 rfl ml_X12_130 ms_X12_in (Nat.le_of_ble_eq_true rfl) ?_
  refine c_X12_in ?_
  refine st_if_eq (q := 10) (tgt := 23) dX12_knock_7 (by decide) rfl (fun c7 => ?_) (fun c7 => ?_)
  · refine st_iconst (q := 24) dX12_knock_23 ⟨by decide, by decide⟩ rfl ?_
    refine rt_i dX12_knock_24 rfl ?_
    first | exact h1 (by omega) | exact h2 (by omega) (by omega) | exact h3 (by omega) (by omega) (by omega) | exact h4 (by omega) (by omega) (by omega) (by omega)
  · refine st_iload_n (q := 11) dX12_knock_10 rfl rfl ?_
    refine st_bipush (q := 13) dX12_knock_11 ⟨by decide, by decide⟩ rfl ?_
    refine st_icmp_eq (q := 16) (tgt := 25) dX12_knock_13 (by decide) rfl (fun c13 => ?_) (fun c13 => ?_)
    · refine st_iload_n (q := 26) dX12_knock_25 rfl rfl ?_
      refine st_bipush (q := 28) dX12_knock_26 ⟨by decide, by decide⟩ rfl ?_
      refine st_icmp_ne (q := 31) (tgt := 40) dX12_knock_28 (by decide) rfl (fun c28 => ?_) (fun c28 => ?_)
      · refine st_aload_n (q := 41) dX12_knock_40 rfl rfl ?_
        refine st_getR (q := 44) 12 5 dX12_knock_41 fl_X12_17 (by decide) (by decide) rfl rfl (wfk w rfl) (wfR w rfl) ?_
        refine st_iload_n (q := 45) dX12_knock_44 rfl rfl ?_
        refine st_iaload (q := 46) dX12_knock_45 rfl (wfk w rfl) (wfb w (n := 6) rfl ⟨by omega, by omega⟩) ?_
        refine st_if_ge (q := 49) (tgt := 55) dX12_knock_46 (by decide) rfl (fun c46 => ?_) (fun c46 => ?_)
        · refine st_aload_n (q := 56) dX12_knock_55 rfl rfl ?_
          refine st_getR (q := 59) 12 5 dX12_knock_56 fl_X12_17 (by decide) (by decide) rfl rfl (wfk w rfl) (wfR w rfl) ?_
          refine st_iload_n (q := 60) dX12_knock_59 rfl rfl ?_
          refine st_iaload (q := 61) dX12_knock_60 rfl (wfk w rfl) (wfb w (n := 6) rfl ⟨by omega, by omega⟩) ?_
          refine st_iconst (q := 62) dX12_knock_61 ⟨by decide, by decide⟩ rfl ?_
          refine st_bipush (q := 64) dX12_knock_62 ⟨by decide, by decide⟩ rfl ?_
          refine iS3i (q := 67) dX12_knock_64 rfl ml_X12_130 ms_X12_in (Nat.le_of_ble_eq_true rfl) ?_
          refine c_X12_in ?_
          refine st_if_ne (q := 70) (tgt := 76) dX12_knock_67 (by decide) rfl (fun c67 => ?_) (fun c67 => ?_)
          · refine st_iconst (q := 77) dX12_knock_76 ⟨by decide, by decide⟩ rfl ?_
            refine st_istore_n (q := 78) (i := 3) dX12_knock_77 rfl (by decide) rfl ?_
            refine st_iconst (q := 79) dX12_knock_78 ⟨by decide, by decide⟩ rfl ?_
            refine st_istore (q := 81) dX12_knock_79 (by decide) rfl ?_
            refine st_iconst (q := 82) dX12_knock_81 ⟨by decide, by decide⟩ rfl ?_
            refine st_istore (q := 84) dX12_knock_82 (by decide) rfl ?_
            have e1 : hI h 119 r.toNat = ((hI h 119 r.toNat).toNat : Int) := by omega
            have e2 : r = (r.toNat : Int) := by omega
            have := lp_X12_knock (d := d + 1) (r := r.toNat) (n := (hI h 119 r.toNat).toNat) (sign := sign) w (by omega) e1 (by omega) (by omega) (h5 (by omega) (by omega) (by omega)) (fun z => by rw [← e1]; exact h6 (by omega) (by omega) (by omega) z) 0 (by omega)
            rw [← e2] at this
            exact this
          · refine st_aload_n (q := 71) dX12_knock_70 rfl rfl ?_
            refine st_iconst (q := 72) dX12_knock_71 ⟨by decide, by decide⟩ rfl ?_
            refine iV1i (q := 75) dX12_knock_72 rfl ml_X12_138 mv_X12_meets (Nat.le_of_ble_eq_true rfl) (wfk w rfl) ?_
            refine c_X12_meets w (by decide) ?_
            refine rt_i dX12_knock_75 rfl ?_
            first | exact h1 (by omega) | exact h2 (by omega) (by omega) | exact h3 (by omega) (by omega) (by omega) | exact h4 (by omega) (by omega) (by omega) (by omega)
        · refine st_aload_n (q := 50) dX12_knock_49 rfl rfl ?_
          refine st_iconst (q := 51) dX12_knock_50 ⟨by decide, by decide⟩ rfl ?_
          refine iV1i (q := 54) dX12_knock_51 rfl ml_X12_138 mv_X12_meets (Nat.le_of_ble_eq_true rfl) (wfk w rfl) ?_
          refine c_X12_meets w (by decide) ?_
          refine rt_i dX12_knock_54 rfl ?_
          first | exact h1 (by omega) | exact h2 (by omega) (by omega) | exact h3 (by omega) (by omega) (by omega) | exact h4 (by omega) (by omega) (by omega) (by omega)
      · refine st_aload_n (q := 32) dX12_knock_31 rfl rfl ?_
        refine st_getR (q := 35) 12 41 dX12_knock_32 fl_X12_105 (by decide) (by decide) rfl rfl (wfk w rfl) (wfR w rfl) ?_
        refine st_iload_n (q := 36) dX12_knock_35 rfl rfl ?_
        refine st_iconst (q := 37) dX12_knock_36 ⟨by decide, by decide⟩ rfl ?_
        refine st_iastore (q := 38) dX12_knock_37 rfl (wfk w rfl) (wfb w (n := 8) rfl ⟨by omega, by omega⟩) ?_
        refine st_iconst (q := 39) dX12_knock_38 ⟨by decide, by decide⟩ rfl ?_
        refine rt_i dX12_knock_39 rfl ?_
        first | exact h1 (by omega) | exact h2 (by omega) (by omega) | exact h3 (by omega) (by omega) (by omega) | exact h4 (by omega) (by omega) (by omega) (by omega)
    · refine st_iload_n (q := 17) dX12_knock_16 rfl rfl ?_
      refine iS1i (q := 20) dX12_knock_17 rfl ml_X12_134 ms_X12_isRow (Nat.le_of_ble_eq_true rfl) ?_
      refine c_X12_isRow ?_
      refine st_if_ne (q := 23) (tgt := 25) dX12_knock_20 (by decide) rfl (fun c20 => ?_) (fun c20 => ?_)
      · refine st_iload_n (q := 26) dX12_knock_25 rfl rfl ?_
        refine st_bipush (q := 28) dX12_knock_26 ⟨by decide, by decide⟩ rfl ?_
        refine st_icmp_ne (q := 31) (tgt := 40) dX12_knock_28 (by decide) rfl (fun c28 => ?_) (fun c28 => ?_)
        · refine st_aload_n (q := 41) dX12_knock_40 rfl rfl ?_
          refine st_getR (q := 44) 12 5 dX12_knock_41 fl_X12_17 (by decide) (by decide) rfl rfl (wfk w rfl) (wfR w rfl) ?_
          refine st_iload_n (q := 45) dX12_knock_44 rfl rfl ?_
          refine st_iaload (q := 46) dX12_knock_45 rfl (wfk w rfl) (wfb w (n := 6) rfl ⟨by omega, by omega⟩) ?_
          refine st_if_ge (q := 49) (tgt := 55) dX12_knock_46 (by decide) rfl (fun c46 => ?_) (fun c46 => ?_)
          · refine st_aload_n (q := 56) dX12_knock_55 rfl rfl ?_
            refine st_getR (q := 59) 12 5 dX12_knock_56 fl_X12_17 (by decide) (by decide) rfl rfl (wfk w rfl) (wfR w rfl) ?_
            refine st_iload_n (q := 60) dX12_knock_59 rfl rfl ?_
            refine st_iaload (q := 61) dX12_knock_60 rfl (wfk w rfl) (wfb w (n := 6) rfl ⟨by omega, by omega⟩) ?_
            refine st_iconst (q := 62) dX12_knock_61 ⟨by decide, by decide⟩ rfl ?_
            refine st_bipush (q := 64) dX12_knock_62 ⟨by decide, by decide⟩ rfl ?_
            refine iS3i (q := 67) dX12_knock_64 rfl ml_X12_130 ms_X12_in (Nat.le_of_ble_eq_true rfl) ?_
            refine c_X12_in ?_
            refine st_if_ne (q := 70) (tgt := 76) dX12_knock_67 (by decide) rfl (fun c67 => ?_) (fun c67 => ?_)
            · refine st_iconst (q := 77) dX12_knock_76 ⟨by decide, by decide⟩ rfl ?_
              refine st_istore_n (q := 78) (i := 3) dX12_knock_77 rfl (by decide) rfl ?_
              refine st_iconst (q := 79) dX12_knock_78 ⟨by decide, by decide⟩ rfl ?_
              refine st_istore (q := 81) dX12_knock_79 (by decide) rfl ?_
              refine st_iconst (q := 82) dX12_knock_81 ⟨by decide, by decide⟩ rfl ?_
              refine st_istore (q := 84) dX12_knock_82 (by decide) rfl ?_
              have e1 : hI h 119 r.toNat = ((hI h 119 r.toNat).toNat : Int) := by omega
              have e2 : r = (r.toNat : Int) := by omega
              have := lp_X12_knock (d := d + 1) (r := r.toNat) (n := (hI h 119 r.toNat).toNat) (sign := sign) w (by omega) e1 (by omega) (by omega) (h5 (by omega) (by omega) (by omega)) (fun z => by rw [← e1]; exact h6 (by omega) (by omega) (by omega) z) 0 (by omega)
              rw [← e2] at this
              exact this
            · refine st_aload_n (q := 71) dX12_knock_70 rfl rfl ?_
              refine st_iconst (q := 72) dX12_knock_71 ⟨by decide, by decide⟩ rfl ?_
              refine iV1i (q := 75) dX12_knock_72 rfl ml_X12_138 mv_X12_meets (Nat.le_of_ble_eq_true rfl) (wfk w rfl) ?_
              refine c_X12_meets w (by decide) ?_
              refine rt_i dX12_knock_75 rfl ?_
              first | exact h1 (by omega) | exact h2 (by omega) (by omega) | exact h3 (by omega) (by omega) (by omega) | exact h4 (by omega) (by omega) (by omega) (by omega)
          · refine st_aload_n (q := 50) dX12_knock_49 rfl rfl ?_
            refine st_iconst (q := 51) dX12_knock_50 ⟨by decide, by decide⟩ rfl ?_
            refine iV1i (q := 54) dX12_knock_51 rfl ml_X12_138 mv_X12_meets (Nat.le_of_ble_eq_true rfl) (wfk w rfl) ?_
            refine c_X12_meets w (by decide) ?_
            refine rt_i dX12_knock_54 rfl ?_
            first | exact h1 (by omega) | exact h2 (by omega) (by omega) | exact h3 (by omega) (by omega) (by omega) | exact h4 (by omega) (by omega) (by omega) (by omega)
        · refine st_aload_n (q := 32) dX12_knock_31 rfl rfl ?_
          refine st_getR (q := 35) 12 41 dX12_knock_32 fl_X12_105 (by decide) (by decide) rfl rfl (wfk w rfl) (wfR w rfl) ?_
          refine st_iload_n (q := 36) dX12_knock_35 rfl rfl ?_
          refine st_iconst (q := 37) dX12_knock_36 ⟨by decide, by decide⟩ rfl ?_
          refine st_iastore (q := 38) dX12_knock_37 rfl (wfk w rfl) (wfb w (n := 8) rfl ⟨by omega, by omega⟩) ?_
          refine st_iconst (q := 39) dX12_knock_38 ⟨by decide, by decide⟩ rfl ?_
          refine rt_i dX12_knock_39 rfl ?_
          first | exact h1 (by omega) | exact h2 (by omega) (by omega) | exact h3 (by omega) (by omega) (by omega) | exact h4 (by omega) (by omega) (by omega) (by omega)
      · refine st_iconst (q := 24) dX12_knock_23 ⟨by decide, by decide⟩ rfl ?_
        refine rt_i dX12_knock_24 rfl ?_
        first | exact h1 (by omega) | exact h2 (by omega) (by omega) | exact h3 (by omega) (by omega) (by omega) | exact h4 (by omega) (by omega) (by omega) (by omega)
theorem c_X12_isBeginning {d : Nat} {h : JH} {P : Int → JH → Prop} {n row m other : Nat} (hn : n ≤ 30) (ho : other < 2147483648) (hP : P (if n ≤ m ∧ other % 2 ^ n = row then 1 else 0) h) : JRi d jX12_isBeginning [vi n, vi row, vi m, vi other] h P := by
  have p1 := p31 (show n < 31 by omega)
  have p0 : 0 < 2 ^ n := Nat.two_pow_pos n
  refine JRet.of rfl (Nat.le_of_ble_eq_true rfl) ?_
  refine st_iload_n (q := 1) dX12_isBeginning_0 rfl rfl ?_
  refine st_iload_n (q := 2) dX12_isBeginning_1 rfl rfl ?_
  apply j_mg 21
  · intro K1 K2
    refine st_icmp_gt (q := 5) (tgt := 20) dX12_isBeginning_2 (by decide) rfl (fun c2 => ?_) (fun c2 => ?_)
    · refine st_iconst (q := 21) dX12_isBeginning_20 ⟨by decide, by decide⟩ rfl ?_
      exact K1 c2
    · refine st_iload_n (q := 6) dX12_isBeginning_5 rfl rfl ?_
      refine st_iconst (q := 7) dX12_isBeginning_6 ⟨by decide, by decide⟩ rfl ?_
      refine st_iload_n (q := 8) dX12_isBeginning_7 rfl rfl ?_
      refine st_ishl (q := 9) dX12_isBeginning_8 rfl ?_
      rw [show (1 : Int) = ((1 : Nat) : Int) from rfl, ishl_n (by omega) (by rw [Nat.one_mul]; exact p1), Nat.one_mul]
      refine st_iconst (q := 10) dX12_isBeginning_9 ⟨by decide, by decide⟩ rfl ?_
      first | refine n_isub (q := 11) dX12_isBeginning_10 rfl ⟨by omega, by omega⟩ ?_ | refine st_isub (q := 11) dX12_isBeginning_10 rfl ?_
      refine st_iand (q := 12) dX12_isBeginning_11 rfl ?_
      rw [show ((2 ^ n : Nat) : Int) - 1 = ((2 ^ n - 1 : Nat) : Int) by omega, iand_n ho, Nat.and_two_pow_sub_one_eq_mod]
      refine st_iload_n (q := 13) dX12_isBeginning_12 rfl rfl ?_
      apply j_mg 21
      · intro K3 K4
        refine st_icmp_ne (q := 16) (tgt := 20) dX12_isBeginning_13 (by decide) rfl (fun c13 => ?_) (fun c13 => ?_)
        · refine st_iconst (q := 21) dX12_isBeginning_20 ⟨by decide, by decide⟩ rfl ?_
          exact K4 c13
        · refine st_iconst (q := 17) dX12_isBeginning_16 ⟨by decide, by decide⟩ rfl ?_
          refine st_goto (q := 21) dX12_isBeginning_17 (by decide) ?_
          exact K3 c13
      · simp only [jif_if]
        exact K2 c2
  · simp only [jif_if]
    refine rt_z dX12_isBeginning_21 rfl (by (repeat' split) <;> omega) ?_
    exact pq hP (by (repeat' split) <;> omega) rfl
/-- sign i is a beginning of another one, j -/
def beg (g : SG) (i j : Nat) : Bool := decide (i ≠ j ∧ 0 < (g i).1 ∧ 0 < (g j).1 ∧ (g i).1 ≤ (g j).1 ∧ (g j).2 % 2 ^ (g i).1 = (g i).2)
def clF (g : SG) : Nat → Nat → Int
  | 0, _ => -9
  | m + 1, p => if beg g (p / 8) (p % 8) then ((10 * (p / 8) + p % 8 : Nat) : Int) else clF g m (p + 1)
theorem lp_X12_clear {d : Nat} {h : JH} {P : Int → JH → Prop} {g : SG} {R : Int} (w : WF h) (m : GM h g) (o : gOk g) (hP : P R h) (i j : Nat) (hi : i < 8) (hj : j ≤ 8) : clF g (64 - (8 * i + j)) (8 * i + j) = R → JAt k0 (d + 1) jX12_clear 10 [vr 117, vi i, vi j] [] h (jqi P) := by
  intro he
  have m1 := m i hi
  have o1 := o i hi
  have m2 : j < 8 → (hI h 146 j = ((g j).1 : Int) ∧ (0 < (g j).1 → hI h 147 j = ((g j).2 : Int))) ∧ (g j).1 ≤ 8 ∧ (g j).2 < 256 := fun z => ⟨m j z, (o j z).1, gOk_lt o z⟩
  have eJ : j < 8 → clF g (64 - (8 * i + j)) (8 * i + j) = if beg g i j then ((10 * i + j : Nat) : Int) else clF g (64 - (8 * i + (j + 1))) (8 * i + (j + 1)) := fun z => by
    rw [show 64 - (8 * i + j) = (64 - (8 * i + (j + 1))) + 1 by omega, clF, show (8 * i + j) / 8 = i by omega, show (8 * i + j) % 8 = j by omega]
    rfl
  refine st_iload_n (q := 11) dX12_clear_10 rfl rfl ?_
  refine st_bipush (q := 13) dX12_clear_11 ⟨by decide, by decide⟩ rfl ?_
  refine st_icmp_ge (q := 16) (tgt := 82) dX12_clear_13 (by decide) rfl (fun c13 => ?_) (fun c13 => ?_)
  · first | refine n_iinc (q := 85) dX12_clear_82 rfl (by decide) rfl ⟨by omega, by omega⟩ ?_ | refine st_iinc (q := 85) dX12_clear_82 rfl (by decide) rfl ?_
    refine st_goto (q := 2) dX12_clear_85 (by decide) ?_
    refine st_iload_n (q := 3) dX12_clear_2 rfl rfl ?_
    refine st_bipush (q := 5) dX12_clear_3 ⟨by decide, by decide⟩ rfl ?_
    refine st_icmp_ge (q := 8) (tgt := 88) dX12_clear_5 (by decide) rfl (fun c5 => ?_) (fun c5 => ?_)
    · refine st_bipush (q := 90) dX12_clear_88 ⟨by decide, by decide⟩ rfl ?_
      refine rt_i dX12_clear_90 rfl ?_
      refine pq hP ?_ rfl
      rw [← he, show 64 - (8 * i + j) = 0 by omega]
      rfl
    · refine st_iconst (q := 9) dX12_clear_8 ⟨by decide, by decide⟩ rfl ?_
      refine st_istore_n (q := 10) (i := 2) dX12_clear_9 rfl (by decide) rfl ?_
      first | exact lp_X12_clear w m o hP (i + 1) 0 (by omega) (by omega) (by rw [← he, show 8 * (i + 1) + 0 = 8 * i + j by omega]) | (have eb : ¬ beg g i j = true := (by unfold beg; simp only [decide_eq_true_eq]; omega); rw [eJ (by omega), if_neg eb] at he; exact lp_X12_clear w m o hP i (j + 1) hi (by omega) he)
  · refine st_iload_n (q := 17) dX12_clear_16 rfl rfl ?_
    refine st_iload_n (q := 18) dX12_clear_17 rfl rfl ?_
    refine st_icmp_eq (q := 21) (tgt := 76) dX12_clear_18 (by decide) rfl (fun c18 => ?_) (fun c18 => ?_)
    · first | refine n_iinc (q := 79) dX12_clear_76 rfl (by decide) rfl ⟨by omega, by omega⟩ ?_ | refine st_iinc (q := 79) dX12_clear_76 rfl (by decide) rfl ?_
      refine st_goto (q := 10) dX12_clear_79 (by decide) ?_
      first | exact lp_X12_clear w m o hP (i + 1) 0 (by omega) (by omega) (by rw [← he, show 8 * (i + 1) + 0 = 8 * i + j by omega]) | (have eb : ¬ beg g i j = true := (by unfold beg; simp only [decide_eq_true_eq]; omega); rw [eJ (by omega), if_neg eb] at he; exact lp_X12_clear w m o hP i (j + 1) hi (by omega) he)
    · refine st_aload_n (q := 22) dX12_clear_21 rfl rfl ?_
      refine st_getR (q := 25) 12 41 dX12_clear_22 fl_X12_105 (by decide) (by decide) rfl rfl (wfk w rfl) (wfR w rfl) ?_
      refine st_iload_n (q := 26) dX12_clear_25 rfl rfl ?_
      refine st_iaload (q := 27) dX12_clear_26 rfl (wfk w rfl) (wfb w (n := 8) rfl ⟨by omega, by omega⟩) ?_
      refine j_top ((g i).1 : Int) m1.1 ?_
      refine st_if_le (q := 30) (tgt := 76) dX12_clear_27 (by decide) rfl (fun c27 => ?_) (fun c27 => ?_)
      · first | refine n_iinc (q := 79) dX12_clear_76 rfl (by decide) rfl ⟨by omega, by omega⟩ ?_ | refine st_iinc (q := 79) dX12_clear_76 rfl (by decide) rfl ?_
        refine st_goto (q := 10) dX12_clear_79 (by decide) ?_
        first | exact lp_X12_clear w m o hP (i + 1) 0 (by omega) (by omega) (by rw [← he, show 8 * (i + 1) + 0 = 8 * i + j by omega]) | (have eb : ¬ beg g i j = true := (by unfold beg; simp only [decide_eq_true_eq]; omega); rw [eJ (by omega), if_neg eb] at he; exact lp_X12_clear w m o hP i (j + 1) hi (by omega) he)
      · refine st_aload_n (q := 31) dX12_clear_30 rfl rfl ?_
        refine st_getR (q := 34) 12 41 dX12_clear_31 fl_X12_105 (by decide) (by decide) rfl rfl (wfk w rfl) (wfR w rfl) ?_
        refine st_iload_n (q := 35) dX12_clear_34 rfl rfl ?_
        refine st_iaload (q := 36) dX12_clear_35 rfl (wfk w rfl) (wfb w (n := 8) rfl ⟨by omega, by omega⟩) ?_
        have q2 := m2 (by omega)
        refine j_top ((g j).1 : Int) q2.1.1 ?_
        refine st_if_le (q := 39) (tgt := 76) dX12_clear_36 (by decide) rfl (fun c36 => ?_) (fun c36 => ?_)
        · first | refine n_iinc (q := 79) dX12_clear_76 rfl (by decide) rfl ⟨by omega, by omega⟩ ?_ | refine st_iinc (q := 79) dX12_clear_76 rfl (by decide) rfl ?_
          refine st_goto (q := 10) dX12_clear_79 (by decide) ?_
          first | exact lp_X12_clear w m o hP (i + 1) 0 (by omega) (by omega) (by rw [← he, show 8 * (i + 1) + 0 = 8 * i + j by omega]) | (have eb : ¬ beg g i j = true := (by unfold beg; simp only [decide_eq_true_eq]; omega); rw [eJ (by omega), if_neg eb] at he; exact lp_X12_clear w m o hP i (j + 1) hi (by omega) he)
        · refine st_aload_n (q := 40) dX12_clear_39 rfl rfl ?_
          refine st_getR (q := 43) 12 41 dX12_clear_40 fl_X12_105 (by decide) (by decide) rfl rfl (wfk w rfl) (wfR w rfl) ?_
          refine st_iload_n (q := 44) dX12_clear_43 rfl rfl ?_
          refine st_iaload (q := 45) dX12_clear_44 rfl (wfk w rfl) (wfb w (n := 8) rfl ⟨by omega, by omega⟩) ?_
          refine j_top ((g i).1 : Int) m1.1 ?_
          refine st_aload_n (q := 46) dX12_clear_45 rfl rfl ?_
          refine st_getR (q := 49) 12 42 dX12_clear_46 fl_X12_108 (by decide) (by decide) rfl rfl (wfk w rfl) (wfR w rfl) ?_
          refine st_iload_n (q := 50) dX12_clear_49 rfl rfl ?_
          refine st_iaload (q := 51) dX12_clear_50 rfl (wfk w rfl) (wfb w (n := 8) rfl ⟨by omega, by omega⟩) ?_
          refine j_top ((g i).2 : Int) (m1.2 (by omega)) ?_
          refine st_aload_n (q := 52) dX12_clear_51 rfl rfl ?_
          refine st_getR (q := 55) 12 41 dX12_clear_52 fl_X12_105 (by decide) (by decide) rfl rfl (wfk w rfl) (wfR w rfl) ?_
          refine st_iload_n (q := 56) dX12_clear_55 rfl rfl ?_
          refine st_iaload (q := 57) dX12_clear_56 rfl (wfk w rfl) (wfb w (n := 8) rfl ⟨by omega, by omega⟩) ?_
          refine j_top ((g j).1 : Int) q2.1.1 ?_
          refine st_aload_n (q := 58) dX12_clear_57 rfl rfl ?_
          refine st_getR (q := 61) 12 42 dX12_clear_58 fl_X12_108 (by decide) (by decide) rfl rfl (wfk w rfl) (wfR w rfl) ?_
          refine st_iload_n (q := 62) dX12_clear_61 rfl rfl ?_
          refine st_iaload (q := 63) dX12_clear_62 rfl (wfk w rfl) (wfb w (n := 8) rfl ⟨by omega, by omega⟩) ?_
          refine j_top ((g j).2 : Int) (q2.1.2 (by omega)) ?_
          refine iS4i (q := 66) dX12_clear_63 rfl ml_X12_283 ms_X12_isBeginning (Nat.le_of_ble_eq_true rfl) ?_
          refine c_X12_isBeginning (by omega) (by omega) ?_
          refine st_if_eq (q := 69) (tgt := 76) dX12_clear_66 (by decide) rfl (fun c66 => ?_) (fun c66 => ?_)
          · first | refine n_iinc (q := 79) dX12_clear_76 rfl (by decide) rfl ⟨by omega, by omega⟩ ?_ | refine st_iinc (q := 79) dX12_clear_76 rfl (by decide) rfl ?_
            refine st_goto (q := 10) dX12_clear_79 (by decide) ?_
            first | exact lp_X12_clear w m o hP (i + 1) 0 (by omega) (by omega) (by rw [← he, show 8 * (i + 1) + 0 = 8 * i + j by omega]) | (have eb : ¬ beg g i j = true := (by unfold beg; simp only [decide_eq_true_eq]; omega); rw [eJ (by omega), if_neg eb] at he; exact lp_X12_clear w m o hP i (j + 1) hi (by omega) he)
          · refine st_bipush (q := 71) dX12_clear_69 ⟨by decide, by decide⟩ rfl ?_
            refine st_iload_n (q := 72) dX12_clear_71 rfl rfl ?_
            first | refine n_imul (q := 73) dX12_clear_72 rfl ⟨by omega, by omega⟩ ?_ | refine st_imul (q := 73) dX12_clear_72 rfl ?_
            refine st_iload_n (q := 74) dX12_clear_73 rfl rfl ?_
            first | refine n_iadd (q := 75) dX12_clear_74 rfl ⟨by omega, by omega⟩ ?_ | refine st_iadd (q := 75) dX12_clear_74 rfl ?_
            refine rt_i dX12_clear_75 rfl ?_
            have eb : beg g i j = true := by unfold beg; simp only [decide_eq_true_eq]; omega
            rw [eJ (by omega), if_pos eb] at he
            exact pq hP (by rw [← he]; omega) rfl
termination_by (8 - i) * 9 + (8 - j)
decreasing_by all_goals omega
theorem c_X12_clear {d : Nat} {h : JH} {P : Int → JH → Prop} {g : SG} (w : WF h) (m : GM h g) (o : gOk g) (hP : P (clF g 64 0) h) : JRi (d + 1) jX12_clear [vr 117] h P := by
  refine JRet.of rfl (Nat.le_of_ble_eq_true rfl) ?_
  refine st_iconst (q := 1) dX12_clear_0 ⟨by decide, by decide⟩ rfl ?_
  refine st_istore_n (q := 2) (i := 1) dX12_clear_1 rfl (by decide) rfl ?_
  refine st_iload_n (q := 3) dX12_clear_2 rfl rfl ?_
  refine st_bipush (q := 5) dX12_clear_3 ⟨by decide, by decide⟩ rfl ?_
  refine st_icmp_ge (q := 8) (tgt := 88) dX12_clear_5 (by decide) rfl (fun z => absurd z (by decide)) (fun _ => ?_)
  refine st_iconst (q := 9) dX12_clear_8 ⟨by decide, by decide⟩ rfl ?_
  refine st_istore_n (q := 10) (i := 2) dX12_clear_9 rfl (by decide) rfl ?_
  exact lp_X12_clear w m o hP 0 0 (by omega) (by omega) rfl

