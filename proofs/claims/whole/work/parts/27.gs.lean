/-! the model: goes, good, best, begins, laughter -/
def upF (y : SY) (s : Nat) (fr : Int) : Int := if 0 ≤ yMf y s then (if fr < yMf y s then yMf y s else fr) else fr
def dnF (y : SY) (s : Nat) (ti : Int) : Int := if 0 ≤ yMf y s then (if yMt y s < ti then yMt y s else ti) else ti
/-- from when to when a night comes to scene 'to', m scenes at most from s on -/
def goS (y : SY) (cut to : Nat) (sc b : Int) : Nat → Nat → Int → Int → Option (Int × Int)
  | 0, _, fr, ti => some (fr, ti)
  | m + 1, s, fr, ti =>
    if s ≤ to ∧ s < y.1 then
      if cut.testBit s then goS y cut to sc b m (s + 1) fr ti
      else if dnF y s ti < upF y s fr then none
      else if s < to then goS y cut to sc b m (s + 1) (upF y s fr + ((yLe y s : Nat) + (if (s : Int) = sc then b else 0))) (dnF y s ti + (if (s : Int) = sc then (yLe y s : Nat) + b else (yMo y s : Nat)))
      else goS y cut to sc b m (s + 1) (upF y s fr) (dnF y s ti)
    else some (fr, ti)
theorem scM_39 : ScM 117 39 := by unfold ScM; omega
theorem scM_40 : ScM 117 40 := by unfold ScM; omega
theorem upF_b {y : SY} (o : yOk y) {s : Nat} (hs : s < y.1) {fr : Int} {B : Int} (hB : 999 ≤ B) (h : 0 ≤ fr ∧ fr ≤ B) : 0 ≤ upF y s fr ∧ upF y s fr ≤ B := by
  have := (o.2 s hs).2.2.2.2.2.1
  unfold upF; (repeat' split) <;> omega
theorem dnF_b {y : SY} (o : yOk y) {s : Nat} (hs : s < y.1) {ti : Int} {B : Int} (h : 0 ≤ ti ∧ ti ≤ B) : 0 ≤ dnF y s ti ∧ dnF y s ti ≤ B := by
  have := (o.2 s hs).2.2.2.2.2.1
  unfold dnF; (repeat' split) <;> omega
set_option maxHeartbeats 4000000 in
theorem lp_X12_goes {d : Nat} {h : JH} {P : Int → JH → Prop} {y : SY} {c to : Nat} {sc b : Int} {R : Option (Int × Int)} (w0 : WF h) (m0 : SM h y) (o : yOk y) (hc : c < 4096) (hto : to ≤ 12) (hb : 0 ≤ b ∧ b ≤ 99) (hP : ∀ h', FrM h h' → (∀ fr ti, R = some (fr, ti) → hI h' 117 39 = fr ∧ hI h' 117 40 = ti) → P (if R.isSome then 1 else 0) h') (s : Nat) (hs : s ≤ y.1) : ∀ (h' : JH) (fr ti : Int), FrM h h' → hI h' 117 39 = fr → hI h' 117 40 = ti → (0 ≤ fr ∧ fr ≤ 1000 + 200 * s) → (0 ≤ ti ∧ ti ≤ 200 * s) → goS y c to sc b (13 - s) s fr ti = R → JAt k0 (d + 1) jX12_goes 13 [vr 117, vi c, vi to, vi sc, vi b, vi s] [] h' (jqi P) := by
  intro h' fr ti f e39 e40 bf bt he
  have w := f.wf w0
  have m := m0.fr f
  have m1 := m.1
  have o1 := o.1
  rw [show 13 - s = (12 - s) + 1 by omega] at he
  refine st_iload (q := 15) dX12_goes_13 rfl rfl ?_
  refine st_iload_n (q := 16) dX12_goes_15 rfl rfl ?_
  refine st_icmp_gt (q := 19) (tgt := 203) dX12_goes_16 (by decide) rfl (fun c16 => ?_) (fun c16 => ?_)
  · refine st_iconst (q := 204) dX12_goes_203 ⟨by decide, by decide⟩ rfl ?_
    refine rt_z dX12_goes_204 rfl (by (repeat' split) <;> omega) ?_
    rw [goS, if_neg (by omega)] at he
    have t := hP _ f (fun fr' ti' z => by rw [← he] at z; cases z; exact ⟨e39, e40⟩)
    rw [← he] at t
    exact t
  · refine st_iload (q := 21) dX12_goes_19 rfl rfl ?_
    refine st_aload_n (q := 22) dX12_goes_21 rfl rfl ?_
    refine st_getI (q := 25) 12 15 dX12_goes_22 fl_X12_215 (by decide) (by decide) rfl rfl (wfk w rfl) ?_
    refine st_icmp_ge (q := 28) (tgt := 203) dX12_goes_25 (by decide) rfl (fun c25 => ?_) (fun c25 => ?_)
    · refine st_iconst (q := 204) dX12_goes_203 ⟨by decide, by decide⟩ rfl ?_
      refine rt_z dX12_goes_204 rfl (by (repeat' split) <;> omega) ?_
      rw [goS, if_neg (by omega)] at he
      have t := hP _ f (fun fr' ti' z => by rw [← he] at z; cases z; exact ⟨e39, e40⟩)
      rw [← he] at t
      exact t
    · refine st_iload_n (q := 29) dX12_goes_28 rfl rfl ?_
      refine st_iload (q := 31) dX12_goes_29 rfl rfl ?_
      refine iS2i (q := 34) dX12_goes_31 rfl ml_X12_174 ms_X12_has (Nat.le_of_ble_eq_true rfl) ?_
      refine c_X12_hasN (by omega) (by omega) ?_
      refine st_if_eq (q := 37) (tgt := 40) dX12_goes_34 (by decide) rfl (fun c34 => ?_) (fun c34 => ?_)
      · have hbt := tb0.mp c34
        have hlt : s < y.1 := by omega
        have m2 := m.2 s hlt
        have o2 := o.2 s hlt
        have b1 := upF_b o hlt (by omega) bf
        have b2 := dnF_b o hlt bt
        rw [goS, if_pos ⟨by omega, by omega⟩, if_neg (by rw [hbt]; decide)] at he
        refine st_aload_n (q := 41) dX12_goes_40 rfl rfl ?_
        refine st_getR (q := 44) 12 29 dX12_goes_41 fl_X12_78 (by decide) (by decide) rfl rfl (wfk w rfl) (wfR w rfl) ?_
        refine st_iload (q := 46) dX12_goes_44 rfl rfl ?_
        refine st_iaload (q := 47) dX12_goes_46 rfl (wfk w rfl) (wfb w (n := 12) rfl ⟨by omega, by omega⟩) ?_
        refine j_top (yMf y s) m2.2.2.2.2.2.1 ?_
        refine st_if_lt (q := 50) (tgt := 114) dX12_goes_47 (by decide) rfl (fun c47 => ?_) (fun c47 => ?_)
        · refine st_aload_n (q := 115) dX12_goes_114 rfl rfl ?_
          refine st_getI (q := 118) 12 39 dX12_goes_115 fl_X12_264 (by decide) (by decide) rfl rfl (wfk w rfl) ?_
          refine j_top (upF y s fr) (by first | (rw [sI_k _ (by decide), sI_s]) | (rw [e39]; unfold upF; rw [if_neg (by omega)])) ?_
          refine st_aload_n (q := 119) dX12_goes_118 rfl rfl ?_
          refine st_getI (q := 122) 12 40 dX12_goes_119 fl_X12_267 (by decide) (by decide) rfl rfl (wfk w rfl) ?_
          refine j_top (dnF y s ti) (by first | (rw [sI_s]) | (rw [e40]; unfold dnF; rw [if_neg (by omega)])) ?_
          refine st_icmp_le (q := 125) (tgt := 127) dX12_goes_122 (by decide) rfl (fun c122 => ?_) (fun c122 => ?_)
          · refine st_iload (q := 129) dX12_goes_127 rfl rfl ?_
            refine st_iload_n (q := 130) dX12_goes_129 rfl rfl ?_
            refine st_icmp_ge (q := 133) (tgt := 197) dX12_goes_130 (by decide) rfl (fun c130 => ?_) (fun c130 => ?_)
            · first | refine n_iinc (q := 200) dX12_goes_197 rfl (by decide) rfl ⟨by omega, by omega⟩ ?_ | refine st_iinc (q := 200) dX12_goes_197 rfl (by decide) rfl ?_
              refine st_goto (q := 13) dX12_goes_200 (by decide) ?_
              have e13 : 13 - (s + 1) = 12 - s := by omega
              first | exact lp_X12_goes w0 m0 o hc hto hb hP (s + 1) (by omega) _ fr ti f e39 e40 (by omega) (by omega) (by rw [e13]; exact he) | exact lp_X12_goes w0 m0 o hc hto hb hP (s + 1) (by omega) _ (upF y s fr) (dnF y s ti) (by first | exact f | exact (f.sI _ scM_39).sI _ scM_40) (by first | (rw [sI_k _ (by decide), sI_s]) | (rw [e39]; unfold upF; rw [if_neg (by omega)])) (by first | (rw [sI_s]) | (rw [e40]; unfold dnF; rw [if_neg (by omega)])) (by omega) (by omega) (by rw [e13]; rw [if_neg (by omega), if_neg (by omega)] at he; exact he) | exact lp_X12_goes w0 m0 o hc hto hb hP (s + 1) (by omega) _ _ _ (by first | exact (f.sI _ scM_39).sI _ scM_40 | exact (((f.sI _ scM_39).sI _ scM_40).sI _ scM_39).sI _ scM_40) (by rw [sI_k _ (by decide), sI_s]) (by rw [sI_s]) (by constructor <;> (repeat' split) <;> omega) (by constructor <;> (repeat' split) <;> omega) (by rw [e13]; rw [if_neg (by omega), if_pos (by omega)] at he; exact he)
            · refine st_aload_n (q := 134) dX12_goes_133 rfl rfl ?_
              refine st_dup (q := 135) dX12_goes_134 rfl rfl ?_
              refine st_getI (q := 138) 12 39 dX12_goes_135 fl_X12_264 (by decide) (by decide) rfl rfl (wfk w rfl) ?_
              refine j_top (upF y s fr) (by first | (rw [sI_k _ (by decide), sI_s]) | (rw [e39]; unfold upF; rw [if_neg (by omega)])) ?_
              refine st_aload_n (q := 139) dX12_goes_138 rfl rfl ?_
              refine st_getR (q := 142) 12 18 dX12_goes_139 fl_X12_54 (by decide) (by decide) rfl rfl (wfk w rfl) (wfR w rfl) ?_
              refine st_iload (q := 144) dX12_goes_142 rfl rfl ?_
              refine st_iaload (q := 145) dX12_goes_144 rfl (wfk w rfl) (wfb w (n := 12) rfl ⟨by omega, by omega⟩) ?_
              refine j_top ((yLe y s : Nat) : Int) m2.2.2.1 ?_
              refine st_iload (q := 147) dX12_goes_145 rfl rfl ?_
              refine st_iload_n (q := 148) dX12_goes_147 rfl rfl ?_
              apply j_mg 157
              · intro K1 K2
                refine st_icmp_ne (q := 151) (tgt := 156) dX12_goes_148 (by decide) rfl (fun c148 => ?_) (fun c148 => ?_)
                · refine st_iconst (q := 157) dX12_goes_156 ⟨by decide, by decide⟩ rfl ?_
                  exact K2 c148
                · refine st_iload (q := 153) dX12_goes_151 rfl rfl ?_
                  refine st_goto (q := 157) dX12_goes_153 (by decide) ?_
                  exact K1 c148
              · simp only [jif_if]
                first | refine n_iadd (q := 158) dX12_goes_157 rfl ⟨by omega, by omega⟩ ?_ | refine st_iadd (q := 158) dX12_goes_157 rfl ?_
                first | refine n_iadd (q := 159) dX12_goes_158 rfl ⟨by omega, by omega⟩ ?_ | refine st_iadd (q := 159) dX12_goes_158 rfl ?_
                refine st_putI (q := 162) 12 39 dX12_goes_159 fl_X12_264 (by decide) (by decide) (Or.inl rfl) rfl (Or.inl rfl) (wfk w rfl) ?_
                refine st_aload_n (q := 163) dX12_goes_162 rfl rfl ?_
                refine st_dup (q := 164) dX12_goes_163 rfl rfl ?_
                refine st_getI (q := 167) 12 40 dX12_goes_164 fl_X12_267 (by decide) (by decide) rfl rfl (wfk w rfl) ?_
                refine j_top (dnF y s ti) (by first | (rw [sI_k _ (by decide), sI_s]) | (rw [sI_k _ (by decide), e40]; unfold dnF; rw [if_neg (by omega)])) ?_
                refine st_iload (q := 169) dX12_goes_167 rfl rfl ?_
                refine st_iload_n (q := 170) dX12_goes_169 rfl rfl ?_
                apply j_mg 193
                · intro K3 K4
                  refine st_icmp_ne (q := 173) (tgt := 186) dX12_goes_170 (by decide) rfl (fun c170 => ?_) (fun c170 => ?_)
                  · refine st_aload_n (q := 187) dX12_goes_186 rfl rfl ?_
                    refine st_getR (q := 190) 12 19 dX12_goes_187 fl_X12_57 (by decide) (by decide) rfl rfl (wfk w rfl) (wfR w rfl) ?_
                    refine st_iload (q := 192) dX12_goes_190 rfl rfl ?_
                    refine st_iaload (q := 193) dX12_goes_192 rfl (wfk w rfl) (wfb w (n := 12) rfl ⟨by omega, by omega⟩) ?_
                    exact K4 c170
                  · refine st_aload_n (q := 174) dX12_goes_173 rfl rfl ?_
                    refine st_getR (q := 177) 12 18 dX12_goes_174 fl_X12_54 (by decide) (by decide) rfl rfl (wfk w rfl) (wfR w rfl) ?_
                    refine st_iload (q := 179) dX12_goes_177 rfl rfl ?_
                    refine st_iaload (q := 180) dX12_goes_179 rfl (wfk w rfl) (wfb w (n := 12) rfl ⟨by omega, by omega⟩) ?_
                    refine j_top ((yLe y s : Nat) : Int) m2.2.2.1 ?_
                    refine st_iload (q := 182) dX12_goes_180 rfl rfl ?_
                    first | refine n_iadd (q := 183) dX12_goes_182 rfl ⟨by omega, by omega⟩ ?_ | refine st_iadd (q := 183) dX12_goes_182 rfl ?_
                    refine st_goto (q := 193) dX12_goes_183 (by decide) ?_
                    exact K3 c170
                · simp only [jif_if]
                  refine j_top (if (s : Int) = sc then (yLe y s : Nat) + b else (yMo y s : Nat)) (by split <;> first | rfl | exact m2.2.2.2.1) ?_
                  first | refine n_iadd (q := 194) dX12_goes_193 rfl ⟨by omega, by omega⟩ ?_ | refine st_iadd (q := 194) dX12_goes_193 rfl ?_
                  refine st_putI (q := 197) 12 40 dX12_goes_194 fl_X12_267 (by decide) (by decide) (Or.inl rfl) rfl (Or.inl rfl) (wfk w rfl) ?_
                  first | refine n_iinc (q := 200) dX12_goes_197 rfl (by decide) rfl ⟨by omega, by omega⟩ ?_ | refine st_iinc (q := 200) dX12_goes_197 rfl (by decide) rfl ?_
                  refine st_goto (q := 13) dX12_goes_200 (by decide) ?_
                  have e13 : 13 - (s + 1) = 12 - s := by omega
                  first | exact lp_X12_goes w0 m0 o hc hto hb hP (s + 1) (by omega) _ fr ti f e39 e40 (by omega) (by omega) (by rw [e13]; exact he) | exact lp_X12_goes w0 m0 o hc hto hb hP (s + 1) (by omega) _ (upF y s fr) (dnF y s ti) (by first | exact f | exact (f.sI _ scM_39).sI _ scM_40) (by first | (rw [sI_k _ (by decide), sI_s]) | (rw [e39]; unfold upF; rw [if_neg (by omega)])) (by first | (rw [sI_s]) | (rw [e40]; unfold dnF; rw [if_neg (by omega)])) (by omega) (by omega) (by rw [e13]; rw [if_neg (by omega), if_neg (by omega)] at he; exact he) | exact lp_X12_goes w0 m0 o hc hto hb hP (s + 1) (by omega) _ _ _ (by first | exact (f.sI _ scM_39).sI _ scM_40 | exact (((f.sI _ scM_39).sI _ scM_40).sI _ scM_39).sI _ scM_40) (by rw [sI_k _ (by decide), sI_s]) (by rw [sI_s]) (by constructor <;> (repeat' split) <;> omega) (by constructor <;> (repeat' split) <;> omega) (by rw [e13]; rw [if_neg (by omega), if_pos (by omega)] at he; exact he)
          · refine st_iconst (q := 126) dX12_goes_125 ⟨by decide, by decide⟩ rfl ?_
            refine rt_z dX12_goes_126 rfl (by (repeat' split) <;> omega) ?_
            rw [if_pos (by omega)] at he
            have q : ∀ h2, FrM h h2 → P 0 h2 := fun h2 f2 => by
              have t := hP h2 f2 (fun fr ti z => by rw [← he] at z; cases z)
              rw [← he] at t
              exact t
            first | exact q _ f | exact q _ ((f.sI _ scM_39).sI _ scM_40)
        · refine st_aload_n (q := 51) dX12_goes_50 rfl rfl ?_
          refine st_aload_n (q := 52) dX12_goes_51 rfl rfl ?_
          refine st_getR (q := 55) 12 29 dX12_goes_52 fl_X12_78 (by decide) (by decide) rfl rfl (wfk w rfl) (wfR w rfl) ?_
          refine st_iload (q := 57) dX12_goes_55 rfl rfl ?_
          refine st_iaload (q := 58) dX12_goes_57 rfl (wfk w rfl) (wfb w (n := 12) rfl ⟨by omega, by omega⟩) ?_
          refine st_aload_n (q := 59) dX12_goes_58 rfl rfl ?_
          refine st_getI (q := 62) 12 39 dX12_goes_59 fl_X12_264 (by decide) (by decide) rfl rfl (wfk w rfl) ?_
          apply j_mg 79
          · intro K5 K6
            refine st_icmp_le (q := 65) (tgt := 75) dX12_goes_62 (by decide) rfl (fun c62 => ?_) (fun c62 => ?_)
            · refine st_aload_n (q := 76) dX12_goes_75 rfl rfl ?_
              refine st_getI (q := 79) 12 39 dX12_goes_76 fl_X12_264 (by decide) (by decide) rfl rfl (wfk w rfl) ?_
              exact K5 c62
            · refine st_aload_n (q := 66) dX12_goes_65 rfl rfl ?_
              refine st_getR (q := 69) 12 29 dX12_goes_66 fl_X12_78 (by decide) (by decide) rfl rfl (wfk w rfl) (wfR w rfl) ?_
              refine st_iload (q := 71) dX12_goes_69 rfl rfl ?_
              refine st_iaload (q := 72) dX12_goes_71 rfl (wfk w rfl) (wfb w (n := 12) rfl ⟨by omega, by omega⟩) ?_
              refine st_goto (q := 79) dX12_goes_72 (by decide) ?_
              exact K6 c62
          · simp only [jif_if]
            refine j_top (upF y s fr) (by rw [show ((s : Int)).toNat = s from rfl, m2.2.2.2.2.2.1, e39]; unfold upF; (repeat' split) <;> omega) ?_
            refine st_putI (q := 82) 12 39 dX12_goes_79 fl_X12_264 (by decide) (by decide) (Or.inl rfl) rfl (Or.inl rfl) (wfk w rfl) ?_
            refine st_aload_n (q := 83) dX12_goes_82 rfl rfl ?_
            refine st_aload_n (q := 84) dX12_goes_83 rfl rfl ?_
            refine st_getR (q := 87) 12 30 dX12_goes_84 fl_X12_81 (by decide) (by decide) rfl rfl (wfk w rfl) (wfR w rfl) ?_
            refine st_iload (q := 89) dX12_goes_87 rfl rfl ?_
            refine st_iaload (q := 90) dX12_goes_89 rfl (wfk w rfl) (wfb w (n := 12) rfl ⟨by omega, by omega⟩) ?_
            refine st_aload_n (q := 91) dX12_goes_90 rfl rfl ?_
            refine st_getI (q := 94) 12 40 dX12_goes_91 fl_X12_267 (by decide) (by decide) rfl rfl (wfk w rfl) ?_
            apply j_mg 111
            · intro K7 K8
              refine st_icmp_ge (q := 97) (tgt := 107) dX12_goes_94 (by decide) rfl (fun c94 => ?_) (fun c94 => ?_)
              · refine st_aload_n (q := 108) dX12_goes_107 rfl rfl ?_
                refine st_getI (q := 111) 12 40 dX12_goes_108 fl_X12_267 (by decide) (by decide) rfl rfl (wfk w rfl) ?_
                exact K7 c94
              · refine st_aload_n (q := 98) dX12_goes_97 rfl rfl ?_
                refine st_getR (q := 101) 12 30 dX12_goes_98 fl_X12_81 (by decide) (by decide) rfl rfl (wfk w rfl) (wfR w rfl) ?_
                refine st_iload (q := 103) dX12_goes_101 rfl rfl ?_
                refine st_iaload (q := 104) dX12_goes_103 rfl (wfk w rfl) (wfb w (n := 12) rfl ⟨by omega, by omega⟩) ?_
                refine st_goto (q := 111) dX12_goes_104 (by decide) ?_
                exact K8 c94
            · simp only [jif_if]
              refine j_top (dnF y s ti) (by rw [show hI (sI h' 117 39 (upF y s fr)) 138 ((s : Int)).toNat = yMt y s from m2.2.2.2.2.2.2.1, show hI (sI h' 117 39 (upF y s fr)) 117 40 = ti from e40]; unfold dnF; (repeat' split) <;> omega) ?_
              refine st_putI (q := 114) 12 40 dX12_goes_111 fl_X12_267 (by decide) (by decide) (Or.inl rfl) rfl (Or.inl rfl) (wfk w rfl) ?_
              refine st_aload_n (q := 115) dX12_goes_114 rfl rfl ?_
              refine st_getI (q := 118) 12 39 dX12_goes_115 fl_X12_264 (by decide) (by decide) rfl rfl (wfk w rfl) ?_
              refine j_top (upF y s fr) (by first | (rw [sI_k _ (by decide), sI_s]) | (rw [e39]; unfold upF; rw [if_neg (by omega)])) ?_
              refine st_aload_n (q := 119) dX12_goes_118 rfl rfl ?_
              refine st_getI (q := 122) 12 40 dX12_goes_119 fl_X12_267 (by decide) (by decide) rfl rfl (wfk w rfl) ?_
              refine j_top (dnF y s ti) (by first | (rw [sI_s]) | (rw [e40]; unfold dnF; rw [if_neg (by omega)])) ?_
              refine st_icmp_le (q := 125) (tgt := 127) dX12_goes_122 (by decide) rfl (fun c122 => ?_) (fun c122 => ?_)
              · refine st_iload (q := 129) dX12_goes_127 rfl rfl ?_
                refine st_iload_n (q := 130) dX12_goes_129 rfl rfl ?_
                refine st_icmp_ge (q := 133) (tgt := 197) dX12_goes_130 (by decide) rfl (fun c130 => ?_) (fun c130 => ?_)
                · first | refine n_iinc (q := 200) dX12_goes_197 rfl (by decide) rfl ⟨by omega, by omega⟩ ?_ | refine st_iinc (q := 200) dX12_goes_197 rfl (by decide) rfl ?_
                  refine st_goto (q := 13) dX12_goes_200 (by decide) ?_
                  have e13 : 13 - (s + 1) = 12 - s := by omega
                  first | exact lp_X12_goes w0 m0 o hc hto hb hP (s + 1) (by omega) _ fr ti f e39 e40 (by omega) (by omega) (by rw [e13]; exact he) | exact lp_X12_goes w0 m0 o hc hto hb hP (s + 1) (by omega) _ (upF y s fr) (dnF y s ti) (by first | exact f | exact (f.sI _ scM_39).sI _ scM_40) (by first | (rw [sI_k _ (by decide), sI_s]) | (rw [e39]; unfold upF; rw [if_neg (by omega)])) (by first | (rw [sI_s]) | (rw [e40]; unfold dnF; rw [if_neg (by omega)])) (by omega) (by omega) (by rw [e13]; rw [if_neg (by omega), if_neg (by omega)] at he; exact he) | exact lp_X12_goes w0 m0 o hc hto hb hP (s + 1) (by omega) _ _ _ (by first | exact (f.sI _ scM_39).sI _ scM_40 | exact (((f.sI _ scM_39).sI _ scM_40).sI _ scM_39).sI _ scM_40) (by rw [sI_k _ (by decide), sI_s]) (by rw [sI_s]) (by constructor <;> (repeat' split) <;> omega) (by constructor <;> (repeat' split) <;> omega) (by rw [e13]; rw [if_neg (by omega), if_pos (by omega)] at he; exact he)
                · refine st_aload_n (q := 134) dX12_goes_133 rfl rfl ?_
                  refine st_dup (q := 135) dX12_goes_134 rfl rfl ?_
                  refine st_getI (q := 138) 12 39 dX12_goes_135 fl_X12_264 (by decide) (by decide) rfl rfl (wfk w rfl) ?_
                  refine j_top (upF y s fr) (by first | (rw [sI_k _ (by decide), sI_s]) | (rw [e39]; unfold upF; rw [if_neg (by omega)])) ?_
                  refine st_aload_n (q := 139) dX12_goes_138 rfl rfl ?_
                  refine st_getR (q := 142) 12 18 dX12_goes_139 fl_X12_54 (by decide) (by decide) rfl rfl (wfk w rfl) (wfR w rfl) ?_
                  refine st_iload (q := 144) dX12_goes_142 rfl rfl ?_
                  refine st_iaload (q := 145) dX12_goes_144 rfl (wfk w rfl) (wfb w (n := 12) rfl ⟨by omega, by omega⟩) ?_
                  refine j_top ((yLe y s : Nat) : Int) m2.2.2.1 ?_
                  refine st_iload (q := 147) dX12_goes_145 rfl rfl ?_
                  refine st_iload_n (q := 148) dX12_goes_147 rfl rfl ?_
                  apply j_mg 157
                  · intro K9 K10
                    refine st_icmp_ne (q := 151) (tgt := 156) dX12_goes_148 (by decide) rfl (fun c148 => ?_) (fun c148 => ?_)
                    · refine st_iconst (q := 157) dX12_goes_156 ⟨by decide, by decide⟩ rfl ?_
                      exact K10 c148
                    · refine st_iload (q := 153) dX12_goes_151 rfl rfl ?_
                      refine st_goto (q := 157) dX12_goes_153 (by decide) ?_
                      exact K9 c148
                  · simp only [jif_if]
                    first | refine n_iadd (q := 158) dX12_goes_157 rfl ⟨by omega, by omega⟩ ?_ | refine st_iadd (q := 158) dX12_goes_157 rfl ?_
                    first | refine n_iadd (q := 159) dX12_goes_158 rfl ⟨by omega, by omega⟩ ?_ | refine st_iadd (q := 159) dX12_goes_158 rfl ?_
                    refine st_putI (q := 162) 12 39 dX12_goes_159 fl_X12_264 (by decide) (by decide) (Or.inl rfl) rfl (Or.inl rfl) (wfk w rfl) ?_
                    refine st_aload_n (q := 163) dX12_goes_162 rfl rfl ?_
                    refine st_dup (q := 164) dX12_goes_163 rfl rfl ?_
                    refine st_getI (q := 167) 12 40 dX12_goes_164 fl_X12_267 (by decide) (by decide) rfl rfl (wfk w rfl) ?_
                    refine j_top (dnF y s ti) (by first | (rw [sI_k _ (by decide), sI_s]) | (rw [sI_k _ (by decide), e40]; unfold dnF; rw [if_neg (by omega)])) ?_
                    refine st_iload (q := 169) dX12_goes_167 rfl rfl ?_
                    refine st_iload_n (q := 170) dX12_goes_169 rfl rfl ?_
                    apply j_mg 193
                    · intro K11 K12
                      refine st_icmp_ne (q := 173) (tgt := 186) dX12_goes_170 (by decide) rfl (fun c170 => ?_) (fun c170 => ?_)
                      · refine st_aload_n (q := 187) dX12_goes_186 rfl rfl ?_
                        refine st_getR (q := 190) 12 19 dX12_goes_187 fl_X12_57 (by decide) (by decide) rfl rfl (wfk w rfl) (wfR w rfl) ?_
                        refine st_iload (q := 192) dX12_goes_190 rfl rfl ?_
                        refine st_iaload (q := 193) dX12_goes_192 rfl (wfk w rfl) (wfb w (n := 12) rfl ⟨by omega, by omega⟩) ?_
                        exact K12 c170
                      · refine st_aload_n (q := 174) dX12_goes_173 rfl rfl ?_
                        refine st_getR (q := 177) 12 18 dX12_goes_174 fl_X12_54 (by decide) (by decide) rfl rfl (wfk w rfl) (wfR w rfl) ?_
                        refine st_iload (q := 179) dX12_goes_177 rfl rfl ?_
                        refine st_iaload (q := 180) dX12_goes_179 rfl (wfk w rfl) (wfb w (n := 12) rfl ⟨by omega, by omega⟩) ?_
                        refine j_top ((yLe y s : Nat) : Int) m2.2.2.1 ?_
                        refine st_iload (q := 182) dX12_goes_180 rfl rfl ?_
                        first | refine n_iadd (q := 183) dX12_goes_182 rfl ⟨by omega, by omega⟩ ?_ | refine st_iadd (q := 183) dX12_goes_182 rfl ?_
                        refine st_goto (q := 193) dX12_goes_183 (by decide) ?_
                        exact K11 c170
                    · simp only [jif_if]
                      refine j_top (if (s : Int) = sc then (yLe y s : Nat) + b else (yMo y s : Nat)) (by split <;> first | rfl | exact m2.2.2.2.1) ?_
                      first | refine n_iadd (q := 194) dX12_goes_193 rfl ⟨by omega, by omega⟩ ?_ | refine st_iadd (q := 194) dX12_goes_193 rfl ?_
                      refine st_putI (q := 197) 12 40 dX12_goes_194 fl_X12_267 (by decide) (by decide) (Or.inl rfl) rfl (Or.inl rfl) (wfk w rfl) ?_
                      first | refine n_iinc (q := 200) dX12_goes_197 rfl (by decide) rfl ⟨by omega, by omega⟩ ?_ | refine st_iinc (q := 200) dX12_goes_197 rfl (by decide) rfl ?_
                      refine st_goto (q := 13) dX12_goes_200 (by decide) ?_
                      have e13 : 13 - (s + 1) = 12 - s := by omega
                      first | exact lp_X12_goes w0 m0 o hc hto hb hP (s + 1) (by omega) _ fr ti f e39 e40 (by omega) (by omega) (by rw [e13]; exact he) | exact lp_X12_goes w0 m0 o hc hto hb hP (s + 1) (by omega) _ (upF y s fr) (dnF y s ti) (by first | exact f | exact (f.sI _ scM_39).sI _ scM_40) (by first | (rw [sI_k _ (by decide), sI_s]) | (rw [e39]; unfold upF; rw [if_neg (by omega)])) (by first | (rw [sI_s]) | (rw [e40]; unfold dnF; rw [if_neg (by omega)])) (by omega) (by omega) (by rw [e13]; rw [if_neg (by omega), if_neg (by omega)] at he; exact he) | exact lp_X12_goes w0 m0 o hc hto hb hP (s + 1) (by omega) _ _ _ (by first | exact (f.sI _ scM_39).sI _ scM_40 | exact (((f.sI _ scM_39).sI _ scM_40).sI _ scM_39).sI _ scM_40) (by rw [sI_k _ (by decide), sI_s]) (by rw [sI_s]) (by constructor <;> (repeat' split) <;> omega) (by constructor <;> (repeat' split) <;> omega) (by rw [e13]; rw [if_neg (by omega), if_pos (by omega)] at he; exact he)
              · refine st_iconst (q := 126) dX12_goes_125 ⟨by decide, by decide⟩ rfl ?_
                refine rt_z dX12_goes_126 rfl (by (repeat' split) <;> omega) ?_
                rw [if_pos (by omega)] at he
                have q : ∀ h2, FrM h h2 → P 0 h2 := fun h2 f2 => by
                  have t := hP h2 f2 (fun fr ti z => by rw [← he] at z; cases z)
                  rw [← he] at t
                  exact t
                first | exact q _ f | exact q _ ((f.sI _ scM_39).sI _ scM_40)
      · have hbt := tb1.mp c34
        rw [goS, if_pos ⟨by omega, by omega⟩, if_pos hbt] at he
        refine st_goto (q := 197) dX12_goes_37 (by decide) ?_
        first | refine n_iinc (q := 200) dX12_goes_197 rfl (by decide) rfl ⟨by omega, by omega⟩ ?_ | refine st_iinc (q := 200) dX12_goes_197 rfl (by decide) rfl ?_
        refine st_goto (q := 13) dX12_goes_200 (by decide) ?_
        have e13 : 13 - (s + 1) = 12 - s := by omega
        first | exact lp_X12_goes w0 m0 o hc hto hb hP (s + 1) (by omega) _ fr ti f e39 e40 (by omega) (by omega) (by rw [e13]; exact he) | exact lp_X12_goes w0 m0 o hc hto hb hP (s + 1) (by omega) _ (upF y s fr) (dnF y s ti) (by first | exact f | exact (f.sI _ scM_39).sI _ scM_40) (by first | (rw [sI_k _ (by decide), sI_s]) | (rw [e39]; unfold upF; rw [if_neg (by omega)])) (by first | (rw [sI_s]) | (rw [e40]; unfold dnF; rw [if_neg (by omega)])) (by omega) (by omega) (by rw [e13]; rw [if_neg (by omega), if_neg (by omega)] at he; exact he) | exact lp_X12_goes w0 m0 o hc hto hb hP (s + 1) (by omega) _ _ _ (by first | exact (f.sI _ scM_39).sI _ scM_40 | exact (((f.sI _ scM_39).sI _ scM_40).sI _ scM_39).sI _ scM_40) (by rw [sI_k _ (by decide), sI_s]) (by rw [sI_s]) (by constructor <;> (repeat' split) <;> omega) (by constructor <;> (repeat' split) <;> omega) (by rw [e13]; rw [if_neg (by omega), if_pos (by omega)] at he; exact he)
termination_by 13 - s
theorem c_X12_goes {d : Nat} {h : JH} {P : Int → JH → Prop} {y : SY} {c to : Nat} {sc b : Int} (w : WF h) (m : SM h y) (o : yOk y) (hc : c < 4096) (hto : to ≤ 12) (hb : 0 ≤ b ∧ b ≤ 99) (hP : ∀ h', FrM h h' → (∀ fr ti, goS y c to sc b 13 0 0 0 = some (fr, ti) → hI h' 117 39 = fr ∧ hI h' 117 40 = ti) → P (if (goS y c to sc b 13 0 0 0).isSome then 1 else 0) h') : JRi (d + 1) jX12_goes [vr 117, vi c, vi to, vi sc, vi b] h P := by
  refine JRet.of rfl (Nat.le_of_ble_eq_true rfl) ?_
  refine st_aload_n (q := 1) dX12_goes_0 rfl rfl ?_
  refine st_iconst (q := 2) dX12_goes_1 ⟨by decide, by decide⟩ rfl ?_
  refine st_putI (q := 5) 12 39 dX12_goes_2 fl_X12_264 (by decide) (by decide) (Or.inl rfl) rfl (Or.inl rfl) (wfk w rfl) ?_
  refine st_aload_n (q := 6) dX12_goes_5 rfl rfl ?_
  refine st_iconst (q := 7) dX12_goes_6 ⟨by decide, by decide⟩ rfl ?_
  refine st_putI (q := 10) 12 40 dX12_goes_7 fl_X12_267 (by decide) (by decide) (Or.inl rfl) rfl (Or.inl rfl) (wfk w rfl) ?_
  refine st_iconst (q := 11) dX12_goes_10 ⟨by decide, by decide⟩ rfl ?_
  refine st_istore (q := 13) dX12_goes_11 (by decide) rfl ?_
  exact lp_X12_goes w m o hc hto hb hP 0 (by omega) _ 0 0 ((Fr.rf.sI _ scM_39).sI _ scM_40) (by rw [sI_k _ (by decide), sI_s]) (by rw [sI_s]) (by omega) (by omega) rfl
theorem c_X12_good {d : Nat} {h : JH} {P : Int → JH → Prop} {y : SY} {c : Int} (w : WF h) (m : SM h y) (o : yOk y) (h1 : ¬ (0 ≤ c ∧ c < (2 ^ y.1 : Nat)) → P (-1) h) (h2 : 0 ≤ c ∧ c < (2 ^ y.1 : Nat) → ∀ h', FrM h h' → P (if (ymc y c.toNat y.1).2 = true ∧ (goS y c.toNat y.1 (-9) 0 13 0 0 0).isSome = true then 1 else 0) h') : JRi (d + 2) jX12_good [vr 117, vi c] h P := by
  have m1 := m.1
  have o1 := o.1
  have p1 : 2 ^ y.1 ≤ 2 ^ 12 := Nat.pow_le_pow_right (by omega) o1
  generalize hG : 2 ^ y.1 = G at *
  refine JRet.of rfl (Nat.le_of_ble_eq_true rfl) ?_
  refine st_aload_n (q := 1) dX12_good_0 rfl rfl ?_
  refine st_iload_n (q := 2) dX12_good_1 rfl rfl ?_
  refine iV1i (q := 5) dX12_good_2 rfl ml_X12_270 mv_X12_isCut (Nat.le_of_ble_eq_true rfl) (wfk w rfl) ?_
  refine c_X12_isCut w m o ?_
  rw [hG]
  refine st_if_ne (q := 8) (tgt := 12) dX12_good_5 (by decide) rfl (fun c5 => ?_) (fun c5 => ?_)
  · refine st_aload_n (q := 13) dX12_good_12 rfl rfl ?_
    refine st_iload_n (q := 14) dX12_good_13 rfl rfl ?_
    refine iV1i (q := 17) dX12_good_14 rfl ml_X12_273 mv_X12_mayCut (Nat.le_of_ble_eq_true rfl) (wfk w rfl) ?_
    rw [show c = (c.toNat : Int) by omega]
    refine c_X12_mayCut w m o (by omega) ?_
    refine st_if_eq (q := 20) (tgt := 39) dX12_good_17 (by decide) rfl (fun c17 => ?_) (fun c17 => ?_)
    · refine st_iconst (q := 40) dX12_good_39 ⟨by decide, by decide⟩ rfl ?_
      refine rt_i dX12_good_40 rfl ?_
      first | exact h1 (by omega) | (refine pq (h2 (by omega) _ Fr.rf) ?_ rfl; simp_all) | (refine pq (h2 (by omega) _ f) ?_ rfl; simp_all)
    · refine st_aload_n (q := 21) dX12_good_20 rfl rfl ?_
      refine st_iload_n (q := 22) dX12_good_21 rfl rfl ?_
      refine st_aload_n (q := 23) dX12_good_22 rfl rfl ?_
      refine st_getI (q := 26) 12 15 dX12_good_23 fl_X12_215 (by decide) (by decide) rfl rfl (wfk w rfl) ?_
      refine st_bipush (q := 28) dX12_good_26 ⟨by decide, by decide⟩ rfl ?_
      refine st_iconst (q := 29) dX12_good_28 ⟨by decide, by decide⟩ rfl ?_
      refine iV4i (q := 32) dX12_good_29 rfl ml_X12_276 mv_X12_goes (Nat.le_of_ble_eq_true rfl) (wfk w rfl) ?_
      rw [m1]
      refine c_X12_goes w m o (by omega) o1 (by omega) (fun h' f hf => ?_)
      refine st_if_eq (q := 35) (tgt := 39) dX12_good_32 (by decide) rfl (fun c32 => ?_) (fun c32 => ?_)
      · refine st_iconst (q := 40) dX12_good_39 ⟨by decide, by decide⟩ rfl ?_
        refine rt_i dX12_good_40 rfl ?_
        first | exact h1 (by omega) | (refine pq (h2 (by omega) _ Fr.rf) ?_ rfl; simp_all) | (refine pq (h2 (by omega) _ f) ?_ rfl; simp_all)
      · refine st_iconst (q := 36) dX12_good_35 ⟨by decide, by decide⟩ rfl ?_
        refine st_goto (q := 40) dX12_good_36 (by decide) ?_
        refine rt_i dX12_good_40 rfl ?_
        first | exact h1 (by omega) | (refine pq (h2 (by omega) _ Fr.rf) ?_ rfl; simp_all) | (refine pq (h2 (by omega) _ f) ?_ rfl; simp_all)
  · refine st_iconst (q := 9) dX12_good_8 ⟨by decide, by decide⟩ rfl ?_
    refine st_goto (q := 40) dX12_good_9 (by decide) ?_
    refine rt_i dX12_good_40 rfl ?_
    first | exact h1 (by omega) | (refine pq (h2 (by omega) _ Fr.rf) ?_ rfl; simp_all) | (refine pq (h2 (by omega) _ f) ?_ rfl; simp_all)

