/-! the model: which sets of scenes can be cut, when scenes can begin -/
theorem c_X12_isCut {d : Nat} {h : JH} {P : Int → JH → Prop} {y : SY} {c : Int} (w : WF h) (m : SM h y) (o : yOk y) (hP : P (if 0 ≤ c ∧ c < (2 ^ y.1 : Nat) then 1 else 0) h) : JRi (d + 1) jX12_isCut [vr 117, vi c] h P := by
  have m1 := m.1
  have o1 := o.1
  have p1 := p31 (show y.1 < 31 by omega)
  have p0 : 0 < 2 ^ y.1 := Nat.two_pow_pos _
  refine JRet.of rfl (Nat.le_of_ble_eq_true rfl) ?_
  refine st_iload_n (q := 1) dX12_isCut_0 rfl rfl ?_
  refine st_iconst (q := 2) dX12_isCut_1 ⟨by decide, by decide⟩ rfl ?_
  refine st_iconst (q := 3) dX12_isCut_2 ⟨by decide, by decide⟩ rfl ?_
  refine st_aload_n (q := 4) dX12_isCut_3 rfl rfl ?_
  refine st_getI (q := 7) 12 15 dX12_isCut_4 fl_X12_215 (by decide) (by decide) rfl rfl (wfk w rfl) ?_
  refine st_ishl (q := 8) dX12_isCut_7 rfl ?_
  rw [m1, show (1 : Int) = ((1 : Nat) : Int) from rfl, ishl_n (by omega) (by rw [Nat.one_mul]; exact p1), Nat.one_mul]
  generalize hg : 2 ^ y.1 = G at *
  refine st_iconst (q := 9) dX12_isCut_8 ⟨by decide, by decide⟩ rfl ?_
  first | refine n_isub (q := 10) dX12_isCut_9 rfl ⟨by omega, by omega⟩ ?_ | refine st_isub (q := 10) dX12_isCut_9 rfl ?_
  refine iS3i (q := 13) dX12_isCut_10 rfl ml_X12_130 ms_X12_in (Nat.le_of_ble_eq_true rfl) ?_
  refine c_X12_in ?_
  refine rt_z dX12_isCut_13 rfl (by (repeat' split) <;> omega) ?_
  exact pq hP (by (repeat' split) <;> omega) rfl
/-- the lengths of a set together -/
def yLen (y : SY) (set : Nat) : Nat → Nat
  | 0 => 0
  | s + 1 => yLen y set s + (if set.testBit s then yLe y s else 0)
theorem yLen_le {y : SY} (o : yOk y) (set : Nat) : ∀ s, s ≤ y.1 → yLen y set s ≤ 99 * s
  | 0, _ => Nat.le_refl _
  | s + 1, h => by
    have h1 := yLen_le o set s (by omega)
    have h2 := (o.2 s (by omega)).2.2.1
    show yLen y set s + (if set.testBit s then yLe y s else 0) ≤ 99 * (s + 1)
    split <;> omega
theorem lp_X12_lengthOf {d : Nat} {h : JH} {P : Int → JH → Prop} {y : SY} {c : Nat} (w : WF h) (m : SM h y) (o : yOk y) (hc : c < 4096) (hP : P (yLen y c y.1 : Nat) h) (s : Nat) (hs : s ≤ y.1) : JAt k0 (d + 1) jX12_lengthOf 4 [vr 117, vi c, vi (yLen y c s : Nat), vi s] [] h (jqi P) := by
  have m1 := m.1
  have o1 := o.1
  have n1 := yLen_le o c s hs
  refine st_iload_n (q := 5) dX12_lengthOf_4 rfl rfl ?_
  refine st_aload_n (q := 6) dX12_lengthOf_5 rfl rfl ?_
  refine st_getI (q := 9) 12 15 dX12_lengthOf_6 fl_X12_215 (by decide) (by decide) rfl rfl (wfk w rfl) ?_
  refine st_icmp_ge (q := 12) (tgt := 39) dX12_lengthOf_9 (by decide) rfl (fun c9 => ?_) (fun c9 => ?_)
  · refine st_iload_n (q := 40) dX12_lengthOf_39 rfl rfl ?_
    refine rt_i dX12_lengthOf_40 rfl ?_
    exact pq hP (by rw [show s = y.1 by omega]) rfl
  · refine st_iload_n (q := 13) dX12_lengthOf_12 rfl rfl ?_
    refine st_iload_n (q := 14) dX12_lengthOf_13 rfl rfl ?_
    refine st_iload_n (q := 15) dX12_lengthOf_14 rfl rfl ?_
    refine iS2i (q := 18) dX12_lengthOf_15 rfl ml_X12_174 ms_X12_has (Nat.le_of_ble_eq_true rfl) ?_
    refine c_X12_hasN (by omega) (by omega) ?_
    apply j_mg 31
    · intro K1 K2
      refine st_if_eq (q := 21) (tgt := 30) dX12_lengthOf_18 (by decide) rfl (fun c18 => ?_) (fun c18 => ?_)
      · refine st_iconst (q := 31) dX12_lengthOf_30 ⟨by decide, by decide⟩ rfl ?_
        exact K1 c18
      · refine st_aload_n (q := 22) dX12_lengthOf_21 rfl rfl ?_
        refine st_getR (q := 25) 12 18 dX12_lengthOf_22 fl_X12_54 (by decide) (by decide) rfl rfl (wfk w rfl) (wfR w rfl) ?_
        refine st_iload_n (q := 26) dX12_lengthOf_25 rfl rfl ?_
        refine st_iaload (q := 27) dX12_lengthOf_26 rfl (wfk w rfl) (wfb w (n := 12) rfl ⟨by omega, by omega⟩) ?_
        refine st_goto (q := 31) dX12_lengthOf_27 (by decide) ?_
        exact K2 c18
    · simp only [jif_if]
      refine j_top ((if c.testBit s then yLe y s else 0 : Nat) : Int) (by rw [show ((s : Int)).toNat = s from rfl, (m.2 s (by omega)).2.2.1]; cases c.testBit s <;> simp) ?_
      have n2 : (if c.testBit s then yLe y s else 0 : Nat) ≤ 99 := by have := (o.2 s (by omega)).2.2.1; split <;> omega
      first | refine n_iadd (q := 32) dX12_lengthOf_31 rfl ⟨by omega, by omega⟩ ?_ | refine st_iadd (q := 32) dX12_lengthOf_31 rfl ?_
      refine st_istore_n (q := 33) (i := 2) dX12_lengthOf_32 rfl (by decide) rfl ?_
      first | refine n_iinc (q := 36) dX12_lengthOf_33 rfl (by decide) rfl ⟨by omega, by omega⟩ ?_ | refine st_iinc (q := 36) dX12_lengthOf_33 rfl (by decide) rfl ?_
      refine st_goto (q := 4) dX12_lengthOf_36 (by decide) ?_
      exact lp_X12_lengthOf w m o hc hP (s + 1) (by omega)
termination_by y.1 - s
theorem c_X12_lengthOf {d : Nat} {h : JH} {P : Int → JH → Prop} {y : SY} {c : Nat} (w : WF h) (m : SM h y) (o : yOk y) (hc : c < 4096) (hP : P (yLen y c y.1 : Nat) h) : JRi (d + 1) jX12_lengthOf [vr 117, vi c] h P := by
  refine JRet.of rfl (Nat.le_of_ble_eq_true rfl) ?_
  refine st_iconst (q := 1) dX12_lengthOf_0 ⟨by decide, by decide⟩ rfl ?_
  refine st_istore_n (q := 2) (i := 2) dX12_lengthOf_1 rfl (by decide) rfl ?_
  refine st_iconst (q := 3) dX12_lengthOf_2 ⟨by decide, by decide⟩ rfl ?_
  refine st_istore_n (q := 4) (i := 3) dX12_lengthOf_3 rfl (by decide) rfl ?_
  exact lp_X12_lengthOf w m o hc hP 0 (by omega)
/-- what is shown by scenes that stay, and whether the set may be cut, behind s scenes -/
def ymc (y : SY) (cut : Nat) : Nat → Nat × Bool
  | 0 => (0, true)
  | s + 1 => if cut.testBit s then ((ymc y cut s).1, (ymc y cut s).2 && decide (yKp y s = 0) && decide (yMf y s < 0)) else ((ymc y cut s).1 ||| ySh y s, (ymc y cut s).2 && decide (nandn (yNd y s) (ymc y cut s).1 = 0))
theorem ymc_lt {y : SY} (o : yOk y) (cut : Nat) : ∀ s, s ≤ y.1 → (ymc y cut s).1 < 256
  | 0, _ => by show 0 < 256; decide
  | s + 1, h => by
    have h1 := ymc_lt o cut s (by omega)
    show (if cut.testBit s then ((ymc y cut s).1, (ymc y cut s).2 && decide (yKp y s = 0) && decide (yMf y s < 0)) else ((ymc y cut s).1 ||| ySh y s, (ymc y cut s).2 && decide (nandn (yNd y s) (ymc y cut s).1 = 0))).1 < 256
    split
    · exact h1
    · exact Nat.or_lt_two_pow (n := 8) h1 (o.2 s (by omega)).1
theorem lp_X12_mayCut {d : Nat} {h : JH} {P : Int → JH → Prop} {y : SY} {c : Nat} (w : WF h) (m : SM h y) (o : yOk y) (hc : c < 4096) (hP : P (if (ymc y c y.1).2 then 1 else 0) h) (s : Nat) (hs : s ≤ y.1) : JAt k0 (d + 1) jX12_mayCut 7 [vr 117, vi c, vi ((ymc y c s).1 : Nat), vi (if (ymc y c s).2 then 1 else 0), vi s] [] h (jqi P) := by
  have m1 := m.1
  have o1 := o.1
  have n1 := ymc_lt o c s hs
  refine st_iload (q := 9) dX12_mayCut_7 rfl rfl ?_
  refine st_aload_n (q := 10) dX12_mayCut_9 rfl rfl ?_
  refine st_getI (q := 13) 12 15 dX12_mayCut_10 fl_X12_215 (by decide) (by decide) rfl rfl (wfk w rfl) ?_
  refine st_icmp_ge (q := 16) (tgt := 98) dX12_mayCut_13 (by decide) rfl (fun c13 => ?_) (fun c13 => ?_)
  · refine st_iload_n (q := 99) dX12_mayCut_98 rfl rfl ?_
    refine rt_z dX12_mayCut_99 rfl (by split <;> simp) ?_
    exact pq hP (by rw [show s = y.1 by omega]) rfl
  · refine st_iload_n (q := 17) dX12_mayCut_16 rfl rfl ?_
    refine st_iload (q := 19) dX12_mayCut_17 rfl rfl ?_
    refine iS2i (q := 22) dX12_mayCut_19 rfl ml_X12_174 ms_X12_has (Nat.le_of_ble_eq_true rfl) ?_
    refine c_X12_hasN (by omega) (by omega) ?_
    refine st_if_eq (q := 25) (tgt := 58) dX12_mayCut_22 (by decide) rfl (fun c22 => ?_) (fun c22 => ?_)
    · have hb := tb0.mp c22
      have hlt : s < y.1 := by omega
      have m2 := m.2 s hlt
      have o2 := o.2 s hlt
      have e2 : ymc y c (s + 1) = ((ymc y c s).1 ||| ySh y s, (ymc y c s).2 && decide (nandn (yNd y s) (ymc y c s).1 = 0)) := if_neg (by rw [hb]; decide)
      refine st_iload_n (q := 59) dX12_mayCut_58 rfl rfl ?_
      apply j_mg 81
      · intro K1 K2
        refine st_if_eq (q := 62) (tgt := 80) dX12_mayCut_59 (by decide) rfl (fun c59 => ?_) (fun c59 => ?_)
        · refine st_iconst (q := 81) dX12_mayCut_80 ⟨by decide, by decide⟩ rfl ?_
          exact K1 c59
        · refine st_aload_n (q := 63) dX12_mayCut_62 rfl rfl ?_
          refine st_getR (q := 66) 12 31 dX12_mayCut_63 fl_X12_84 (by decide) (by decide) rfl rfl (wfk w rfl) (wfR w rfl) ?_
          refine st_iload (q := 68) dX12_mayCut_66 rfl rfl ?_
          refine st_iaload (q := 69) dX12_mayCut_68 rfl (wfk w rfl) (wfb w (n := 12) rfl ⟨by omega, by omega⟩) ?_
          refine st_iload_n (q := 70) dX12_mayCut_69 rfl rfl ?_
          refine st_iconst (q := 71) dX12_mayCut_70 ⟨by decide, by decide⟩ rfl ?_
          refine st_ixor (q := 72) dX12_mayCut_71 rfl ?_
          refine st_iand (q := 73) dX12_mayCut_72 rfl ?_
          apply j_mg 81
          · intro K3 K4
            refine st_if_ne (q := 76) (tgt := 80) dX12_mayCut_73 (by decide) rfl (fun c73 => ?_) (fun c73 => ?_)
            · refine st_iconst (q := 81) dX12_mayCut_80 ⟨by decide, by decide⟩ rfl ?_
              exact K4 c73
            · refine st_iconst (q := 77) dX12_mayCut_76 ⟨by decide, by decide⟩ rfl ?_
              refine st_goto (q := 81) dX12_mayCut_77 (by decide) ?_
              exact K3 c73
          · simp only [jif_if]
            exact K2 c59
      · simp only [jif_if]
        refine j_top (if (ymc y c (s + 1)).2 then 1 else 0) (by rw [e2, show ((s : Int)).toNat = s from rfl, m2.2.2.2.2.2.2.2, iandn_n (by omega) (by omega)]; cases (ymc y c s).2 <;> simp <;> (repeat' split) <;> simp_all <;> omega) ?_
        refine st_istore_n (q := 82) (i := 3) dX12_mayCut_81 rfl (by decide) rfl ?_
        refine st_iload_n (q := 83) dX12_mayCut_82 rfl rfl ?_
        refine st_aload_n (q := 84) dX12_mayCut_83 rfl rfl ?_
        refine st_getR (q := 87) 12 16 dX12_mayCut_84 fl_X12_48 (by decide) (by decide) rfl rfl (wfk w rfl) (wfR w rfl) ?_
        refine st_iload (q := 89) dX12_mayCut_87 rfl rfl ?_
        refine st_iaload (q := 90) dX12_mayCut_89 rfl (wfk w rfl) (wfb w (n := 12) rfl ⟨by omega, by omega⟩) ?_
        refine st_ior (q := 91) dX12_mayCut_90 rfl ?_
        rw [show ((s : Int)).toNat = s from rfl, m2.1, ior_n (by omega) (by omega)]
        refine st_istore_n (q := 92) (i := 2) dX12_mayCut_91 rfl (by decide) rfl ?_
        first | refine n_iinc (q := 95) dX12_mayCut_92 rfl (by decide) rfl ⟨by omega, by omega⟩ ?_ | refine st_iinc (q := 95) dX12_mayCut_92 rfl (by decide) rfl ?_
        refine st_goto (q := 7) dX12_mayCut_95 (by decide) ?_
        have := lp_X12_mayCut (d := d) w m o hc hP (s + 1) (by omega)
        rw [show (ymc y c (s + 1)).1 = _ from congrArg Prod.fst e2] at this
        exact this
    · have hb := tb1.mp c22
      have hlt : s < y.1 := by omega
      have m2 := m.2 s hlt
      have e2 : ymc y c (s + 1) = ((ymc y c s).1, (ymc y c s).2 && decide (yKp y s = 0) && decide (yMf y s < 0)) := if_pos hb
      refine st_iload_n (q := 26) dX12_mayCut_25 rfl rfl ?_
      apply j_mg 54
      · intro K5 K6
        refine st_if_eq (q := 29) (tgt := 53) dX12_mayCut_26 (by decide) rfl (fun c26 => ?_) (fun c26 => ?_)
        · refine st_iconst (q := 54) dX12_mayCut_53 ⟨by decide, by decide⟩ rfl ?_
          exact K5 c26
        · refine st_aload_n (q := 30) dX12_mayCut_29 rfl rfl ?_
          refine st_getR (q := 33) 12 20 dX12_mayCut_30 fl_X12_60 (by decide) (by decide) rfl rfl (wfk w rfl) (wfR w rfl) ?_
          refine st_iload (q := 35) dX12_mayCut_33 rfl rfl ?_
          refine st_iaload (q := 36) dX12_mayCut_35 rfl (wfk w rfl) (wfb w (n := 12) rfl ⟨by omega, by omega⟩) ?_
          apply j_mg 54
          · intro K7 K8
            refine st_if_ne (q := 39) (tgt := 53) dX12_mayCut_36 (by decide) rfl (fun c36 => ?_) (fun c36 => ?_)
            · refine st_iconst (q := 54) dX12_mayCut_53 ⟨by decide, by decide⟩ rfl ?_
              exact K8 c36
            · refine st_aload_n (q := 40) dX12_mayCut_39 rfl rfl ?_
              refine st_getR (q := 43) 12 29 dX12_mayCut_40 fl_X12_78 (by decide) (by decide) rfl rfl (wfk w rfl) (wfR w rfl) ?_
              refine st_iload (q := 45) dX12_mayCut_43 rfl rfl ?_
              refine st_iaload (q := 46) dX12_mayCut_45 rfl (wfk w rfl) (wfb w (n := 12) rfl ⟨by omega, by omega⟩) ?_
              apply j_mg 54
              · intro K9 K10
                refine st_if_ge (q := 49) (tgt := 53) dX12_mayCut_46 (by decide) rfl (fun c46 => ?_) (fun c46 => ?_)
                · refine st_iconst (q := 54) dX12_mayCut_53 ⟨by decide, by decide⟩ rfl ?_
                  exact K9 c46
                · refine st_iconst (q := 50) dX12_mayCut_49 ⟨by decide, by decide⟩ rfl ?_
                  refine st_goto (q := 54) dX12_mayCut_50 (by decide) ?_
                  exact K10 c46
              · simp only [jif_if]
                exact K7 c36
          · simp only [jif_if]
            exact K6 c26
      · simp only [jif_if]
        refine j_top (if (ymc y c (s + 1)).2 then 1 else 0) (by rw [e2, show ((s : Int)).toNat = s from rfl, m2.2.2.2.2.1, m2.2.2.2.2.2.1]; cases (ymc y c s).2 <;> simp <;> (repeat' split) <;> simp_all <;> omega) ?_
        refine st_istore_n (q := 55) (i := 3) dX12_mayCut_54 rfl (by decide) rfl ?_
        refine st_goto (q := 92) dX12_mayCut_55 (by decide) ?_
        first | refine n_iinc (q := 95) dX12_mayCut_92 rfl (by decide) rfl ⟨by omega, by omega⟩ ?_ | refine st_iinc (q := 95) dX12_mayCut_92 rfl (by decide) rfl ?_
        refine st_goto (q := 7) dX12_mayCut_95 (by decide) ?_
        have := lp_X12_mayCut (d := d) w m o hc hP (s + 1) (by omega)
        rw [show (ymc y c (s + 1)).1 = _ from congrArg Prod.fst e2] at this
        exact this
termination_by y.1 - s
theorem c_X12_mayCut {d : Nat} {h : JH} {P : Int → JH → Prop} {y : SY} {c : Nat} (w : WF h) (m : SM h y) (o : yOk y) (hc : c < 4096) (hP : P (if (ymc y c y.1).2 then 1 else 0) h) : JRi (d + 1) jX12_mayCut [vr 117, vi c] h P := by
  refine JRet.of rfl (Nat.le_of_ble_eq_true rfl) ?_
  refine st_iconst (q := 1) dX12_mayCut_0 ⟨by decide, by decide⟩ rfl ?_
  refine st_istore_n (q := 2) (i := 2) dX12_mayCut_1 rfl (by decide) rfl ?_
  refine st_iconst (q := 3) dX12_mayCut_2 ⟨by decide, by decide⟩ rfl ?_
  refine st_istore_n (q := 4) (i := 3) dX12_mayCut_3 rfl (by decide) rfl ?_
  refine st_iconst (q := 5) dX12_mayCut_4 ⟨by decide, by decide⟩ rfl ?_
  refine st_istore (q := 7) dX12_mayCut_5 (by decide) rfl ?_
  exact lp_X12_mayCut w m o hc hP 0 (by omega)

