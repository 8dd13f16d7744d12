/-! the class: hides of a scene, read -/
def ScH (c a k : Nat) : Prop := (a = 13 ∧ k = 4) ∨ (a = c ∧ (k = 0 ∨ k = 1))
theorem sH_D {c : Nat} : ∀ a k, ScH c a k → ScD c a k := by intro a k z; unfold ScH at z; unfold ScD; omega
theorem hidP_0 {C : Nat → Int} {m q sh hd : Nat} (z : ¬ ((97 ≤ C q ∧ C q ≤ 104) ∨ (65 ≤ C q ∧ C q ≤ 72))) : hidP C m q sh hd = (true, q, sh, hd) := by
  cases m with
  | zero => rfl
  | succ m => unfold hidP; rw [if_neg z]
theorem lp_X8_readHides {d : Nat} {h : JH} {P : Int → JH → Prop} {r n c : Nat} {T : Nat → Int} {R : Bool × Nat × Nat × Nat} (w0 : WF h) (hr : r < 4) (x0 : TD h r T n) (hn : n ≤ 60) (hc : 16 ≤ c ∧ c ≤ 39) (hk0 : kd h c = 5) (hP : ∀ h', Fr (ScH c) h h' → hI h' 13 4 = (R.2.1 : Int) → hI h' c 0 = (R.2.2.1 : Int) → hI h' c 1 = (R.2.2.2 : Int) → P (if R.1 then 1 else 0) h') (q : Nat) (hq : q ≤ n) (i : Nat) (hi : i ≤ 60 ∧ i ≤ q) : ∀ (h' : JH) (sh hd : Nat) (j4 j5 j6 : JV), Fr (ScH c) h h' → hI h' 13 4 = (q : Int) → hI h' c 0 = (sh : Int) → hI h' c 1 = (hd : Int) → sh < 256 → hd < 256 → pcN hd 16 ≤ 2 → hidP (chT T n) (61 - q) q sh hd = R → JAt k0 (d + 3) jX8_readHides 2 [vr 13, vr ((109 + 2 * r : Nat)), vr c, vi i, j4, j5, j6] [] h' (jqi P) := by
  intro h' sh hd j4 j5 j6 f g4 g0 g1 b1 b2 b3 he
  have w := f.wf w0
  have x := x0.fr (f.up sH_D) hc.2
  have hk : kd h' c = 5 := by unfold kd; rw [f.1]; exact hk0
  have lt : ∀ q, chT T n q ≠ -9 → q < n := fun q z => chT_lt z
  have hc9 : n ≤ q → chT T n q = -9 := fun z => by unfold chT; rw [if_neg (by omega)]
  generalize hC : chT T n = C at *
  have eH : ((97 ≤ C q ∧ C q ≤ 104) ∨ (65 ≤ C q ∧ C q ≤ 72)) → (if sh.testBit (ltK (C q)) = true ∨ (C q < 97 ∧ pcN hd 16 = 2) then (false, q, sh, hd) else hidP C (60 - q) (q + 1) (sh ||| 2 ^ ltK (C q)) (if C q < 97 then hd ||| 2 ^ ltK (C q) else hd)) = R := by
    intro z
    rw [← he, show 61 - q = (60 - q) + 1 by omega]
    rw [hidP, if_pos z]
  have kb : (97 ≤ C q ∧ C q ≤ 104) ∨ (65 ≤ C q ∧ C q ≤ 72) → ltK (C q) < 8 ∧ 2 ^ ltK (C q) < 256 := fun z => ⟨ltK_lt z, p8 (ltK_lt z)⟩
  have hZ : ((97 ≤ C q ∧ C q ≤ 104) ∨ (65 ≤ C q ∧ C q ≤ 72)) → i < 60 → ∀ (v z5 : Int) (j6 : JV), (z5 ≠ 0 ↔ C q < 97) → JAt k0 (d + 3) jX8_readHides 65 [vr 13, vr ((109 + 2 * r : Nat)), vr c, vi i, vi v, vi z5, j6] [vi ((2 ^ ltK (C q) : Nat) : Int)] h' (jqi P) := by
    intro zl hi6 v z5 j6 h5
    have kz := kb zl
    have eR := eH zl
    have pos2 : 0 < 2 ^ ltK (C q) := Nat.two_pow_pos _
    have tbv : ∀ b : Bool, (if b = true then 2 ^ ltK (C q) else 0 : Nat) = 0 ↔ b = false := by intro b; cases b <;> simp <;> omega
    refine st_istore (q := 67) dX8_readHides_65 (by decide) rfl ?_
    refine st_aload_n (q := 68) dX8_readHides_67 rfl rfl ?_
    refine st_getI (q := 71) 5 0 dX8_readHides_68 fl_X8_31 (by decide) (by decide) rfl rfl (by first | exact hk | exact wfk w rfl) ?_
    refine j_top (sh : Int) g0 ?_
    refine st_iload (q := 73) dX8_readHides_71 rfl rfl ?_
    refine st_iand (q := 74) dX8_readHides_73 rfl ?_
    refine j_top (((if sh.testBit (ltK (C q)) = true then 2 ^ ltK (C q) else 0 : Nat)) : Int) (by rw [iand_n (by omega), and_p2]) ?_
    refine st_if_ne (q := 77) (tgt := 93) dX8_readHides_74 (by decide) rfl (fun c74 => ?_) (fun c74 => ?_)
    · refine st_iconst (q := 94) dX8_readHides_93 ⟨by decide, by decide⟩ rfl ?_
      refine rt_z dX8_readHides_94 rfl (by (repeat' split) <;> omega) ?_
      rw [if_pos (by first | exact Or.inr ⟨by omega, by omega⟩ | (refine Or.inl ?_; cases zb : sh.testBit (ltK (C q)); (exfalso; rw [zb] at c74; exact c74 rfl); rfl))] at eR
      have tk := hP _ f (by rw [← eR]; exact g4) (by rw [← eR]; exact g0) (by rw [← eR]; exact g1)
      rw [← eR] at tk
      exact tk
    · refine st_iload (q := 79) dX8_readHides_77 rfl rfl ?_
      refine st_if_eq (q := 82) (tgt := 95) dX8_readHides_79 (by decide) rfl (fun c79 => ?_) (fun c79 => ?_)
      · refine st_aload_n (q := 96) dX8_readHides_95 rfl rfl ?_
        refine st_dup (q := 97) dX8_readHides_96 rfl rfl ?_
        refine st_getI (q := 100) 5 0 dX8_readHides_97 fl_X8_31 (by decide) (by decide) rfl rfl (by first | exact hk | exact wfk w rfl) ?_
        refine j_top (sh : Int) g0 ?_
        refine st_iload (q := 102) dX8_readHides_100 rfl rfl ?_
        refine st_ior (q := 103) dX8_readHides_102 rfl ?_
        rw [ior_n (by omega) (by omega)]
        refine st_putI (q := 106) 5 0 dX8_readHides_103 fl_X8_31 (by decide) (by decide) (Or.inl rfl) rfl (Or.inl rfl) (by first | exact hk | exact wfk w rfl) ?_
        refine st_aload_n (q := 107) dX8_readHides_106 rfl rfl ?_
        refine st_dup (q := 108) dX8_readHides_107 rfl rfl ?_
        refine st_getI (q := 111) 5 1 dX8_readHides_108 fl_X8_84 (by decide) (by decide) rfl rfl (by first | exact hk | exact wfk w rfl) ?_
        refine j_top (hd : Int) (by rw [sI_k _ (by decide)]; exact g1) ?_
        refine st_iload (q := 113) dX8_readHides_111 rfl rfl ?_
        refine st_if_eq (q := 116) (tgt := 121) dX8_readHides_113 (by decide) rfl (fun c113 => ?_) (fun c113 => ?_)
        · refine st_iconst (q := 122) dX8_readHides_121 ⟨by decide, by decide⟩ rfl ?_
          refine st_ior (q := 123) dX8_readHides_122 rfl ?_
          refine j_top (((if C q < 97 then hd ||| 2 ^ ltK (C q) else hd : Nat)) : Int) (by first | (rw [if_pos (by omega)]; exact ior_n (by omega) (by omega)) | (rw [if_neg (by omega)]; have t := ior_n (a := hd) (b := 0) (by omega) (by omega); rw [Nat.or_zero] at t; exact t)) ?_
          refine st_putI (q := 126) 5 1 dX8_readHides_123 fl_X8_84 (by decide) (by decide) (Or.inl rfl) rfl (Or.inl rfl) (by first | exact hk | exact wfk w rfl) ?_
          refine st_aload_n (q := 127) dX8_readHides_126 rfl rfl ?_
          refine st_dup (q := 128) dX8_readHides_127 rfl rfl ?_
          refine st_getI (q := 131) 8 4 dX8_readHides_128 fl_X8_27 (by decide) (by decide) rfl rfl (by first | exact hk | exact wfk w rfl) ?_
          refine j_top (q : Int) (by rw [sI_o _ (by omega), sI_o _ (by omega)]; exact g4) ?_
          refine st_iconst (q := 132) dX8_readHides_131 ⟨by decide, by decide⟩ rfl ?_
          first | refine n_iadd (q := 133) dX8_readHides_132 rfl ⟨by omega, by omega⟩ ?_ | refine st_iadd (q := 133) dX8_readHides_132 rfl ?_
          refine st_putI (q := 136) 8 4 dX8_readHides_133 fl_X8_27 (by decide) (by decide) (Or.inl rfl) rfl (Or.inl rfl) (by first | exact hk | exact wfk w rfl) ?_
          first | refine n_iinc (q := 139) dX8_readHides_136 rfl (by decide) rfl ⟨by omega, by omega⟩ ?_ | refine st_iinc (q := 139) dX8_readHides_136 rfl (by decide) rfl ?_
          refine st_goto (q := 2) dX8_readHides_139 (by decide) ?_
          have hqn := lt q (by omega)
          have zb : sh.testBit (ltK (C q)) = false := (tbv _).mp (by omega)
          rw [if_neg (by rintro (zz | zz); (rw [zb] at zz; exact absurd zz (by decide)); omega)] at eR
          subst hC
          refine lp_X8_readHides w0 hr x0 hn hc hk0 hP (q + 1) (by omega) (i + 1) (by omega) _ (sh ||| 2 ^ ltK (chT T n q)) (if chT T n q < 97 then hd ||| 2 ^ ltK (chT T n q) else hd) _ _ _ (((f.sI _ (by unfold ScH; omega)).sI _ (by unfold ScH; omega)).sI _ (by unfold ScH; omega)) (by rw [sI_s]; omega) (by rw [sI_o _ (by omega), sI_k _ (by decide), sI_s]) (by rw [sI_o _ (by omega), sI_s]) (Nat.or_lt_two_pow (n := 8) b1 kz.2) (by split; exact Nat.or_lt_two_pow (n := 8) b2 kz.2; exact b2) ?_ (by rw [show 61 - (q + 1) = 60 - q by omega]; exact eR)
          split
          · have tp := pc_or1 (a := hd) kz.1
            omega
          · exact b3
        · refine st_iload (q := 118) dX8_readHides_116 rfl rfl ?_
          refine st_goto (q := 122) dX8_readHides_118 (by decide) ?_
          refine st_ior (q := 123) dX8_readHides_122 rfl ?_
          refine j_top (((if C q < 97 then hd ||| 2 ^ ltK (C q) else hd : Nat)) : Int) (by first | (rw [if_pos (by omega)]; exact ior_n (by omega) (by omega)) | (rw [if_neg (by omega)]; have t := ior_n (a := hd) (b := 0) (by omega) (by omega); rw [Nat.or_zero] at t; exact t)) ?_
          refine st_putI (q := 126) 5 1 dX8_readHides_123 fl_X8_84 (by decide) (by decide) (Or.inl rfl) rfl (Or.inl rfl) (by first | exact hk | exact wfk w rfl) ?_
          refine st_aload_n (q := 127) dX8_readHides_126 rfl rfl ?_
          refine st_dup (q := 128) dX8_readHides_127 rfl rfl ?_
          refine st_getI (q := 131) 8 4 dX8_readHides_128 fl_X8_27 (by decide) (by decide) rfl rfl (by first | exact hk | exact wfk w rfl) ?_
          refine j_top (q : Int) (by rw [sI_o _ (by omega), sI_o _ (by omega)]; exact g4) ?_
          refine st_iconst (q := 132) dX8_readHides_131 ⟨by decide, by decide⟩ rfl ?_
          first | refine n_iadd (q := 133) dX8_readHides_132 rfl ⟨by omega, by omega⟩ ?_ | refine st_iadd (q := 133) dX8_readHides_132 rfl ?_
          refine st_putI (q := 136) 8 4 dX8_readHides_133 fl_X8_27 (by decide) (by decide) (Or.inl rfl) rfl (Or.inl rfl) (by first | exact hk | exact wfk w rfl) ?_
          first | refine n_iinc (q := 139) dX8_readHides_136 rfl (by decide) rfl ⟨by omega, by omega⟩ ?_ | refine st_iinc (q := 139) dX8_readHides_136 rfl (by decide) rfl ?_
          refine st_goto (q := 2) dX8_readHides_139 (by decide) ?_
          have hqn := lt q (by omega)
          have zb : sh.testBit (ltK (C q)) = false := (tbv _).mp (by omega)
          rw [if_neg (by rintro (zz | zz); (rw [zb] at zz; exact absurd zz (by decide)); omega)] at eR
          subst hC
          refine lp_X8_readHides w0 hr x0 hn hc hk0 hP (q + 1) (by omega) (i + 1) (by omega) _ (sh ||| 2 ^ ltK (chT T n q)) (if chT T n q < 97 then hd ||| 2 ^ ltK (chT T n q) else hd) _ _ _ (((f.sI _ (by unfold ScH; omega)).sI _ (by unfold ScH; omega)).sI _ (by unfold ScH; omega)) (by rw [sI_s]; omega) (by rw [sI_o _ (by omega), sI_k _ (by decide), sI_s]) (by rw [sI_o _ (by omega), sI_s]) (Nat.or_lt_two_pow (n := 8) b1 kz.2) (by split; exact Nat.or_lt_two_pow (n := 8) b2 kz.2; exact b2) ?_ (by rw [show 61 - (q + 1) = 60 - q by omega]; exact eR)
          split
          · have tp := pc_or1 (a := hd) kz.1
            omega
          · exact b3
      · refine st_aload_n (q := 83) dX8_readHides_82 rfl rfl ?_
        refine st_getI (q := 86) 5 1 dX8_readHides_83 fl_X8_84 (by decide) (by decide) rfl rfl (by first | exact hk | exact wfk w rfl) ?_
        refine j_top (hd : Int) g1 ?_
        refine iS1i (q := 89) dX8_readHides_86 rfl ml_X8_87 ms_J6_bitCount_0f7a4 (Nat.le_of_ble_eq_true rfl) ?_
        refine c_bitCount (by omega) ?_
        refine st_iconst (q := 90) dX8_readHides_89 ⟨by decide, by decide⟩ rfl ?_
        refine st_icmp_lt (q := 93) (tgt := 95) dX8_readHides_90 (by decide) rfl (fun c90 => ?_) (fun c90 => ?_)
        · refine st_aload_n (q := 96) dX8_readHides_95 rfl rfl ?_
          refine st_dup (q := 97) dX8_readHides_96 rfl rfl ?_
          refine st_getI (q := 100) 5 0 dX8_readHides_97 fl_X8_31 (by decide) (by decide) rfl rfl (by first | exact hk | exact wfk w rfl) ?_
          refine j_top (sh : Int) g0 ?_
          refine st_iload (q := 102) dX8_readHides_100 rfl rfl ?_
          refine st_ior (q := 103) dX8_readHides_102 rfl ?_
          rw [ior_n (by omega) (by omega)]
          refine st_putI (q := 106) 5 0 dX8_readHides_103 fl_X8_31 (by decide) (by decide) (Or.inl rfl) rfl (Or.inl rfl) (by first | exact hk | exact wfk w rfl) ?_
          refine st_aload_n (q := 107) dX8_readHides_106 rfl rfl ?_
          refine st_dup (q := 108) dX8_readHides_107 rfl rfl ?_
          refine st_getI (q := 111) 5 1 dX8_readHides_108 fl_X8_84 (by decide) (by decide) rfl rfl (by first | exact hk | exact wfk w rfl) ?_
          refine j_top (hd : Int) (by rw [sI_k _ (by decide)]; exact g1) ?_
          refine st_iload (q := 113) dX8_readHides_111 rfl rfl ?_
          refine st_if_eq (q := 116) (tgt := 121) dX8_readHides_113 (by decide) rfl (fun c113 => ?_) (fun c113 => ?_)
          · refine st_iconst (q := 122) dX8_readHides_121 ⟨by decide, by decide⟩ rfl ?_
            refine st_ior (q := 123) dX8_readHides_122 rfl ?_
            refine j_top (((if C q < 97 then hd ||| 2 ^ ltK (C q) else hd : Nat)) : Int) (by first | (rw [if_pos (by omega)]; exact ior_n (by omega) (by omega)) | (rw [if_neg (by omega)]; have t := ior_n (a := hd) (b := 0) (by omega) (by omega); rw [Nat.or_zero] at t; exact t)) ?_
            refine st_putI (q := 126) 5 1 dX8_readHides_123 fl_X8_84 (by decide) (by decide) (Or.inl rfl) rfl (Or.inl rfl) (by first | exact hk | exact wfk w rfl) ?_
            refine st_aload_n (q := 127) dX8_readHides_126 rfl rfl ?_
            refine st_dup (q := 128) dX8_readHides_127 rfl rfl ?_
            refine st_getI (q := 131) 8 4 dX8_readHides_128 fl_X8_27 (by decide) (by decide) rfl rfl (by first | exact hk | exact wfk w rfl) ?_
            refine j_top (q : Int) (by rw [sI_o _ (by omega), sI_o _ (by omega)]; exact g4) ?_
            refine st_iconst (q := 132) dX8_readHides_131 ⟨by decide, by decide⟩ rfl ?_
            first | refine n_iadd (q := 133) dX8_readHides_132 rfl ⟨by omega, by omega⟩ ?_ | refine st_iadd (q := 133) dX8_readHides_132 rfl ?_
            refine st_putI (q := 136) 8 4 dX8_readHides_133 fl_X8_27 (by decide) (by decide) (Or.inl rfl) rfl (Or.inl rfl) (by first | exact hk | exact wfk w rfl) ?_
            first | refine n_iinc (q := 139) dX8_readHides_136 rfl (by decide) rfl ⟨by omega, by omega⟩ ?_ | refine st_iinc (q := 139) dX8_readHides_136 rfl (by decide) rfl ?_
            refine st_goto (q := 2) dX8_readHides_139 (by decide) ?_
            have hqn := lt q (by omega)
            have zb : sh.testBit (ltK (C q)) = false := (tbv _).mp (by omega)
            rw [if_neg (by rintro (zz | zz); (rw [zb] at zz; exact absurd zz (by decide)); omega)] at eR
            subst hC
            refine lp_X8_readHides w0 hr x0 hn hc hk0 hP (q + 1) (by omega) (i + 1) (by omega) _ (sh ||| 2 ^ ltK (chT T n q)) (if chT T n q < 97 then hd ||| 2 ^ ltK (chT T n q) else hd) _ _ _ (((f.sI _ (by unfold ScH; omega)).sI _ (by unfold ScH; omega)).sI _ (by unfold ScH; omega)) (by rw [sI_s]; omega) (by rw [sI_o _ (by omega), sI_k _ (by decide), sI_s]) (by rw [sI_o _ (by omega), sI_s]) (Nat.or_lt_two_pow (n := 8) b1 kz.2) (by split; exact Nat.or_lt_two_pow (n := 8) b2 kz.2; exact b2) ?_ (by rw [show 61 - (q + 1) = 60 - q by omega]; exact eR)
            split
            · have tp := pc_or1 (a := hd) kz.1
              omega
            · exact b3
          · refine st_iload (q := 118) dX8_readHides_116 rfl rfl ?_
            refine st_goto (q := 122) dX8_readHides_118 (by decide) ?_
            refine st_ior (q := 123) dX8_readHides_122 rfl ?_
            refine j_top (((if C q < 97 then hd ||| 2 ^ ltK (C q) else hd : Nat)) : Int) (by first | (rw [if_pos (by omega)]; exact ior_n (by omega) (by omega)) | (rw [if_neg (by omega)]; have t := ior_n (a := hd) (b := 0) (by omega) (by omega); rw [Nat.or_zero] at t; exact t)) ?_
            refine st_putI (q := 126) 5 1 dX8_readHides_123 fl_X8_84 (by decide) (by decide) (Or.inl rfl) rfl (Or.inl rfl) (by first | exact hk | exact wfk w rfl) ?_
            refine st_aload_n (q := 127) dX8_readHides_126 rfl rfl ?_
            refine st_dup (q := 128) dX8_readHides_127 rfl rfl ?_
            refine st_getI (q := 131) 8 4 dX8_readHides_128 fl_X8_27 (by decide) (by decide) rfl rfl (by first | exact hk | exact wfk w rfl) ?_
            refine j_top (q : Int) (by rw [sI_o _ (by omega), sI_o _ (by omega)]; exact g4) ?_
            refine st_iconst (q := 132) dX8_readHides_131 ⟨by decide, by decide⟩ rfl ?_
            first | refine n_iadd (q := 133) dX8_readHides_132 rfl ⟨by omega, by omega⟩ ?_ | refine st_iadd (q := 133) dX8_readHides_132 rfl ?_
            refine st_putI (q := 136) 8 4 dX8_readHides_133 fl_X8_27 (by decide) (by decide) (Or.inl rfl) rfl (Or.inl rfl) (by first | exact hk | exact wfk w rfl) ?_
            first | refine n_iinc (q := 139) dX8_readHides_136 rfl (by decide) rfl ⟨by omega, by omega⟩ ?_ | refine st_iinc (q := 139) dX8_readHides_136 rfl (by decide) rfl ?_
            refine st_goto (q := 2) dX8_readHides_139 (by decide) ?_
            have hqn := lt q (by omega)
            have zb : sh.testBit (ltK (C q)) = false := (tbv _).mp (by omega)
            rw [if_neg (by rintro (zz | zz); (rw [zb] at zz; exact absurd zz (by decide)); omega)] at eR
            subst hC
            refine lp_X8_readHides w0 hr x0 hn hc hk0 hP (q + 1) (by omega) (i + 1) (by omega) _ (sh ||| 2 ^ ltK (chT T n q)) (if chT T n q < 97 then hd ||| 2 ^ ltK (chT T n q) else hd) _ _ _ (((f.sI _ (by unfold ScH; omega)).sI _ (by unfold ScH; omega)).sI _ (by unfold ScH; omega)) (by rw [sI_s]; omega) (by rw [sI_o _ (by omega), sI_k _ (by decide), sI_s]) (by rw [sI_o _ (by omega), sI_s]) (Nat.or_lt_two_pow (n := 8) b1 kz.2) (by split; exact Nat.or_lt_two_pow (n := 8) b2 kz.2; exact b2) ?_ (by rw [show 61 - (q + 1) = 60 - q by omega]; exact eR)
            split
            · have tp := pc_or1 (a := hd) kz.1
              omega
            · exact b3
        · refine st_iconst (q := 94) dX8_readHides_93 ⟨by decide, by decide⟩ rfl ?_
          refine rt_z dX8_readHides_94 rfl (by (repeat' split) <;> omega) ?_
          rw [if_pos (by first | exact Or.inr ⟨by omega, by omega⟩ | (refine Or.inl ?_; cases zb : sh.testBit (ltK (C q)); (exfalso; rw [zb] at c74; exact c74 rfl); rfl))] at eR
          have tk := hP _ f (by rw [← eR]; exact g4) (by rw [← eR]; exact g0) (by rw [← eR]; exact g1)
          rw [← eR] at tk
          exact tk
  refine st_iload_n (q := 3) dX8_readHides_2 rfl rfl ?_
  refine st_bipush (q := 5) dX8_readHides_3 ⟨by decide, by decide⟩ rfl ?_
  refine st_icmp_ge (q := 8) (tgt := 142) dX8_readHides_5 (by decide) rfl (fun c5 => ?_) (fun c5 => ?_)
  · refine st_iconst (q := 143) dX8_readHides_142 ⟨by decide, by decide⟩ rfl ?_
    refine rt_z dX8_readHides_143 rfl (by (repeat' split) <;> omega) ?_
    have zq := hc9 (by omega)
    rw [hidP_0 (by omega)] at he
    have tk := hP _ f (by rw [← he]; exact g4) (by rw [← he]; exact g0) (by rw [← he]; exact g1)
    rw [← he] at tk
    exact tk
  · refine st_aload_n (q := 9) dX8_readHides_8 rfl rfl ?_
    refine st_aload_n (q := 10) dX8_readHides_9 rfl rfl ?_
    refine iV1i (q := 13) dX8_readHides_10 rfl ml_X8_46 mv_X8_sign (Nat.le_of_ble_eq_true rfl) (by first | exact hk | exact wfk w rfl) ?_
    refine c_X8_sign w hr x hn g4 (fun v hv => ?_)
    rw [hC] at hv
    refine st_istore (q := 15) dX8_readHides_13 (by decide) rfl ?_
    refine st_iload (q := 17) dX8_readHides_15 rfl rfl ?_
    refine st_bipush (q := 19) dX8_readHides_17 ⟨by decide, by decide⟩ rfl ?_
    refine st_bipush (q := 21) dX8_readHides_19 ⟨by decide, by decide⟩ rfl ?_
    refine iN3i (q := 24) dX8_readHides_21 rfl mn_X8_80 ms_X11_isWithin (Nat.le_of_ble_eq_true rfl) ?_
    refine c_X11_isWithin ?_
    refine st_istore (q := 26) dX8_readHides_24 (by decide) rfl ?_
    refine st_iload (q := 28) dX8_readHides_26 rfl rfl ?_
    refine st_if_ne (q := 31) (tgt := 45) dX8_readHides_28 (by decide) rfl (fun c28 => ?_) (fun c28 => ?_)
    · have zl : (97 ≤ C q ∧ C q ≤ 104) ∨ (65 ≤ C q ∧ C q ≤ 72) := (by clear eH kb; (repeat' split at c28) <;> first | omega | ((repeat' split at c40) <;> omega))
      have ev : v = C q := (by omega)
      subst ev
      have kz := kb zl
      have eR := eH zl
      have el : (C q < 97 → C q - 65 = ((ltK (C q) : Nat) : Int)) ∧ (¬ C q < 97 → C q - 97 = ((ltK (C q) : Nat) : Int)) := (by unfold ltK; constructor <;> (intro zz; (split <;> omega)))
      refine st_iconst (q := 46) dX8_readHides_45 ⟨by decide, by decide⟩ rfl ?_
      refine st_iload (q := 48) dX8_readHides_46 rfl rfl ?_
      refine st_if_eq (q := 51) (tgt := 59) dX8_readHides_48 (by decide) rfl (fun c48 => ?_) (fun c48 => ?_)
      · refine st_iload (q := 61) dX8_readHides_59 rfl rfl ?_
        refine st_bipush (q := 63) dX8_readHides_61 ⟨by decide, by decide⟩ rfl ?_
        first | refine n_isub (q := 64) dX8_readHides_63 rfl ⟨by omega, by omega⟩ ?_ | refine st_isub (q := 64) dX8_readHides_63 rfl ?_
        refine j_top ((ltK (C q) : Nat) : Int) (by clear eH kb eR; (repeat' split at c48) <;> first | exact el.1 (by omega) | exact el.2 (by omega) | (exfalso; omega)) ?_
        refine st_ishl (q := 65) dX8_readHides_64 rfl ?_
        refine j_top ((2 ^ ltK (C q) : Nat) : Int) (sh2 (by omega)) ?_
        refine hZ zl (by omega) _ _ _ ?_
        clear eH kb eR
        split <;> omega
      · refine st_iload (q := 53) dX8_readHides_51 rfl rfl ?_
        refine st_bipush (q := 55) dX8_readHides_53 ⟨by decide, by decide⟩ rfl ?_
        first | refine n_isub (q := 56) dX8_readHides_55 rfl ⟨by omega, by omega⟩ ?_ | refine st_isub (q := 56) dX8_readHides_55 rfl ?_
        refine st_goto (q := 64) dX8_readHides_56 (by decide) ?_
        refine j_top ((ltK (C q) : Nat) : Int) (by clear eH kb eR; (repeat' split at c48) <;> first | exact el.1 (by omega) | exact el.2 (by omega) | (exfalso; omega)) ?_
        refine st_ishl (q := 65) dX8_readHides_64 rfl ?_
        refine j_top ((2 ^ ltK (C q) : Nat) : Int) (sh2 (by omega)) ?_
        refine hZ zl (by omega) _ _ _ ?_
        clear eH kb eR
        split <;> omega
    · refine st_iload (q := 33) dX8_readHides_31 rfl rfl ?_
      refine st_bipush (q := 35) dX8_readHides_33 ⟨by decide, by decide⟩ rfl ?_
      refine st_bipush (q := 37) dX8_readHides_35 ⟨by decide, by decide⟩ rfl ?_
      refine iN3i (q := 40) dX8_readHides_37 rfl mn_X8_80 ms_X11_isWithin (Nat.le_of_ble_eq_true rfl) ?_
      refine c_X11_isWithin ?_
      refine st_if_ne (q := 43) (tgt := 45) dX8_readHides_40 (by decide) rfl (fun c40 => ?_) (fun c40 => ?_)
      · have zl : (97 ≤ C q ∧ C q ≤ 104) ∨ (65 ≤ C q ∧ C q ≤ 72) := (by clear eH kb; (repeat' split at c28) <;> first | omega | ((repeat' split at c40) <;> omega))
        have ev : v = C q := (by omega)
        subst ev
        have kz := kb zl
        have eR := eH zl
        have el : (C q < 97 → C q - 65 = ((ltK (C q) : Nat) : Int)) ∧ (¬ C q < 97 → C q - 97 = ((ltK (C q) : Nat) : Int)) := (by unfold ltK; constructor <;> (intro zz; (split <;> omega)))
        refine st_iconst (q := 46) dX8_readHides_45 ⟨by decide, by decide⟩ rfl ?_
        refine st_iload (q := 48) dX8_readHides_46 rfl rfl ?_
        refine st_if_eq (q := 51) (tgt := 59) dX8_readHides_48 (by decide) rfl (fun c48 => ?_) (fun c48 => ?_)
        · refine st_iload (q := 61) dX8_readHides_59 rfl rfl ?_
          refine st_bipush (q := 63) dX8_readHides_61 ⟨by decide, by decide⟩ rfl ?_
          first | refine n_isub (q := 64) dX8_readHides_63 rfl ⟨by omega, by omega⟩ ?_ | refine st_isub (q := 64) dX8_readHides_63 rfl ?_
          refine j_top ((ltK (C q) : Nat) : Int) (by clear eH kb eR; (repeat' split at c48) <;> first | exact el.1 (by omega) | exact el.2 (by omega) | (exfalso; omega)) ?_
          refine st_ishl (q := 65) dX8_readHides_64 rfl ?_
          refine j_top ((2 ^ ltK (C q) : Nat) : Int) (sh2 (by omega)) ?_
          refine hZ zl (by omega) _ _ _ ?_
          clear eH kb eR
          split <;> omega
        · refine st_iload (q := 53) dX8_readHides_51 rfl rfl ?_
          refine st_bipush (q := 55) dX8_readHides_53 ⟨by decide, by decide⟩ rfl ?_
          first | refine n_isub (q := 56) dX8_readHides_55 rfl ⟨by omega, by omega⟩ ?_ | refine st_isub (q := 56) dX8_readHides_55 rfl ?_
          refine st_goto (q := 64) dX8_readHides_56 (by decide) ?_
          refine j_top ((ltK (C q) : Nat) : Int) (by clear eH kb eR; (repeat' split at c48) <;> first | exact el.1 (by omega) | exact el.2 (by omega) | (exfalso; omega)) ?_
          refine st_ishl (q := 65) dX8_readHides_64 rfl ?_
          refine j_top ((2 ^ ltK (C q) : Nat) : Int) (sh2 (by omega)) ?_
          refine hZ zl (by omega) _ _ _ ?_
          clear eH kb eR
          split <;> omega
      · refine st_iconst (q := 44) dX8_readHides_43 ⟨by decide, by decide⟩ rfl ?_
        refine rt_z dX8_readHides_44 rfl (by (repeat' split) <;> omega) ?_
        have zn : ¬ ((97 ≤ C q ∧ C q ≤ 104) ∨ (65 ≤ C q ∧ C q ≤ 72)) := (by clear eH kb; (repeat' split at c28) <;> first | omega | ((repeat' split at c40) <;> omega))
        rw [hidP_0 zn] at he
        have tk := hP _ f (by rw [← he]; exact g4) (by rw [← he]; exact g0) (by rw [← he]; exact g1)
        rw [← he] at tk
        exact tk
termination_by n - q
theorem c_X8_readHides {d : Nat} {h : JH} {P : Int → JH → Prop} {r n c p : Nat} {T : Nat → Int} (w : WF h) (hr : r < 4) (x : TD h r T n) (hn : n ≤ 60) (hc : 16 ≤ c ∧ c ≤ 39) (hk : kd h c = 5) (g4 : hI h 13 4 = (p : Int)) (g0 : hI h c 0 = 0) (g1 : hI h c 1 = 0) (hp : p ≤ n) (hP : ∀ h', Fr (ScH c) h h' → hI h' 13 4 = ((hidP (chT T n) (61 - p) p 0 0).2.1 : Int) → hI h' c 0 = ((hidP (chT T n) (61 - p) p 0 0).2.2.1 : Int) → hI h' c 1 = ((hidP (chT T n) (61 - p) p 0 0).2.2.2 : Int) → P (if (hidP (chT T n) (61 - p) p 0 0).1 then 1 else 0) h') : JRi (d + 3) jX8_readHides [vr 13, vr ((109 + 2 * r : Nat)), vr c] h P := by
  refine JRet.of rfl (Nat.le_of_ble_eq_true rfl) ?_
  refine st_iconst (q := 1) dX8_readHides_0 ⟨by decide, by decide⟩ rfl ?_
  refine st_istore_n (q := 2) (i := 3) dX8_readHides_1 rfl (by decide) rfl ?_
  exact lp_X8_readHides w hr x hn hc hk hP p hp 0 (by omega) _ 0 0 _ _ _ Fr.rf g4 (by rw [g0]; rfl) (by rw [g1]; rfl) (by decide) (by decide) (by rw [pcN_0]; omega) rfl
theorem c_X5_empty {d : Nat} {h : JH} {P : JH → Prop} {c : Nat} (hk : kd h c = 5) (hP : P (sI (sI (sI (sI (sI (sI (sI (sI h c 0 0) c 1 0) c 2 0) c 3 0) c 4 0) c 5 (-9)) c 6 (-9)) c 7 0)) : JRv d jX5_empty [vr c] h P := by
  refine JRet.of rfl (Nat.le_of_ble_eq_true rfl) ?_
  refine st_aload_n (q := 1) dX5_empty_0 rfl rfl ?_
  refine st_iconst (q := 2) dX5_empty_1 ⟨by decide, by decide⟩ rfl ?_
  refine st_putI (q := 5) 5 0 dX5_empty_2 fl_X5_9 (by decide) (by decide) (Or.inl rfl) rfl (Or.inl rfl) (hk) ?_
  refine st_aload_n (q := 6) dX5_empty_5 rfl rfl ?_
  refine st_iconst (q := 7) dX5_empty_6 ⟨by decide, by decide⟩ rfl ?_
  refine st_putI (q := 10) 5 1 dX5_empty_7 fl_X5_15 (by decide) (by decide) (Or.inl rfl) rfl (Or.inl rfl) (hk) ?_
  refine st_aload_n (q := 11) dX5_empty_10 rfl rfl ?_
  refine st_iconst (q := 12) dX5_empty_11 ⟨by decide, by decide⟩ rfl ?_
  refine st_putI (q := 15) 5 2 dX5_empty_12 fl_X5_18 (by decide) (by decide) (Or.inl rfl) rfl (Or.inl rfl) (hk) ?_
  refine st_aload_n (q := 16) dX5_empty_15 rfl rfl ?_
  refine st_iconst (q := 17) dX5_empty_16 ⟨by decide, by decide⟩ rfl ?_
  refine st_putI (q := 20) 5 3 dX5_empty_17 fl_X5_21 (by decide) (by decide) (Or.inl rfl) rfl (Or.inl rfl) (hk) ?_
  refine st_aload_n (q := 21) dX5_empty_20 rfl rfl ?_
  refine st_iconst (q := 22) dX5_empty_21 ⟨by decide, by decide⟩ rfl ?_
  refine st_putI (q := 25) 5 4 dX5_empty_22 fl_X5_24 (by decide) (by decide) (Or.inl rfl) rfl (Or.inr ⟨rfl, by omega⟩) (hk) ?_
  refine st_aload_n (q := 26) dX5_empty_25 rfl rfl ?_
  refine st_bipush (q := 28) dX5_empty_26 ⟨by decide, by decide⟩ rfl ?_
  refine st_putI (q := 31) 5 5 dX5_empty_28 fl_X5_28 (by decide) (by decide) (Or.inl rfl) rfl (Or.inl rfl) (hk) ?_
  refine st_aload_n (q := 32) dX5_empty_31 rfl rfl ?_
  refine st_bipush (q := 34) dX5_empty_32 ⟨by decide, by decide⟩ rfl ?_
  refine st_putI (q := 37) 5 6 dX5_empty_34 fl_X5_31 (by decide) (by decide) (Or.inl rfl) rfl (Or.inl rfl) (hk) ?_
  refine st_aload_n (q := 38) dX5_empty_37 rfl rfl ?_
  refine st_iconst (q := 39) dX5_empty_38 ⟨by decide, by decide⟩ rfl ?_
  refine st_putI (q := 42) 5 7 dX5_empty_39 fl_X5_34 (by decide) (by decide) (Or.inl rfl) rfl (Or.inl rfl) (hk) ?_
  refine rt_v dX5_empty_42 rfl ?_
  exact hP

