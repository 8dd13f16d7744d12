/-! the model: moments told, broken, mistaken -/
def moH (h : JH) (n : Nat) (second kind k v x : Int) : JH := sI (sI (sI (sI (sI (sI h 150 (5 * n) kind) 150 (5 * n + 1) second) 150 (5 * n + 2) (if kind = 0 ∨ kind = 5 then -9 else k)) 150 (5 * n + 3) (if kind = 0 then 0 else v)) 150 (5 * n + 4) (if kind = 3 ∨ kind = 4 then x else 0)) 117 47 ((n : Int) + 1)
theorem c_X12_moment {d : Nat} {h : JH} {P : Int → JH → Prop} {q : MO} {second kind k v x : Int} (w : WF h) (nm : NM h q) (qo : qOk q) (h1 : ¬ ((0 ≤ second ∧ second ≤ 32000) ∧ imS kind k v x) → P (-1) h) (h2 : (0 ≤ second ∧ second ≤ 32000) ∧ imS kind k v x → q.1 = 40 → P (-2) h) (h3 : (0 ≤ second ∧ second ≤ 32000) ∧ imS kind k v x → q.1 ≠ 40 → (kind ≠ 0 ∧ kind ≠ 5 ∧ hI h 126 k.toNat = 0) ∨ (kind = 4 ∧ hI h 126 x.toNat = 0) → P (-3) (mtH h 1)) (h4 : (0 ≤ second ∧ second ≤ 32000) ∧ imS kind k v x → q.1 ≠ 40 → ¬ ((kind ≠ 0 ∧ kind ≠ 5 ∧ hI h 126 k.toNat = 0) ∨ (kind = 4 ∧ hI h 126 x.toNat = 0)) → P (q.1 : Nat) (moH h q.1 second kind k v x)) : JRi (d + 3) jX12_moment [vr 117, vi second, vi kind, vi k, vi v, vi x] h P := by
  have n1 := nm.1
  have q1 := qo.1
  refine JRet.of rfl (Nat.le_of_ble_eq_true rfl) ?_
  refine st_iload_n (q := 1) dX12_moment_0 rfl rfl ?_
  refine st_iconst (q := 2) dX12_moment_1 ⟨by decide, by decide⟩ rfl ?_
  refine st_sipush (q := 5) dX12_moment_2 ⟨by decide, by decide⟩ rfl ?_
  refine iS3i (q := 8) dX12_moment_5 rfl ml_X12_130 ms_X12_in (Nat.le_of_ble_eq_true rfl) ?_
  refine c_X12_in ?_
  refine st_if_eq (q := 11) (tgt := 23) dX12_moment_8 (by decide) rfl (fun c8 => ?_) (fun c8 => ?_)
  · refine st_iconst (q := 24) dX12_moment_23 ⟨by decide, by decide⟩ rfl ?_
    refine rt_i dX12_moment_24 rfl ?_
    first | exact h1 (by omega) | exact h1 (fun z => im z.2)
  · refine st_iload_n (q := 12) dX12_moment_11 rfl rfl ?_
    refine st_iload_n (q := 13) dX12_moment_12 rfl rfl ?_
    refine st_iload (q := 15) dX12_moment_13 rfl rfl ?_
    refine st_iload (q := 17) dX12_moment_15 rfl rfl ?_
    refine iS4i (q := 20) dX12_moment_17 rfl ml_X12_301 ms_X12_isMoment (Nat.le_of_ble_eq_true rfl) ?_
    refine c_X12_isMoment (fun im => ?_) (fun im => ?_)
    · refine st_if_ne (q := 23) (tgt := 25) dX12_moment_20 (by decide) rfl (fun _ => ?_) (fun z => absurd z (by decide))
      refine st_aload_n (q := 26) dX12_moment_25 rfl rfl ?_
      refine st_getI (q := 29) 12 47 dX12_moment_26 fl_X12_304 (by decide) (by decide) rfl rfl (wfk w rfl) ?_
      refine st_bipush (q := 31) dX12_moment_29 ⟨by decide, by decide⟩ rfl ?_
      refine st_icmp_ne (q := 34) (tgt := 37) dX12_moment_31 (by decide) rfl (fun c31 => ?_) (fun c31 => ?_)
      · have imk : kind ≠ 0 → kind ≠ 5 → 0 ≤ k ∧ k ≤ 7 := fun z1 z2 => by unfold imS at im; omega
        have imx : kind = 4 → 0 ≤ x ∧ x ≤ 7 := fun z => by unfold imS at im; omega
        refine st_iload_n (q := 38) dX12_moment_37 rfl rfl ?_
        apply j_mg 51
        · intro K1 K2
          refine st_if_eq (q := 41) (tgt := 46) dX12_moment_38 (by decide) rfl (fun c38 => ?_) (fun c38 => ?_)
          · refine st_iconst (q := 47) dX12_moment_46 ⟨by decide, by decide⟩ rfl ?_
            refine st_goto (q := 51) dX12_moment_47 (by decide) ?_
            exact K1 c38
          · refine st_iload_n (q := 42) dX12_moment_41 rfl rfl ?_
            refine st_iconst (q := 43) dX12_moment_42 ⟨by decide, by decide⟩ rfl ?_
            apply j_mg 51
            · intro K3 K4
              refine st_icmp_ne (q := 46) (tgt := 50) dX12_moment_43 (by decide) rfl (fun c43 => ?_) (fun c43 => ?_)
              · refine st_iconst (q := 51) dX12_moment_50 ⟨by decide, by decide⟩ rfl ?_
                exact K4 c43
              · refine st_iconst (q := 47) dX12_moment_46 ⟨by decide, by decide⟩ rfl ?_
                refine st_goto (q := 51) dX12_moment_47 (by decide) ?_
                exact K3 c43
            · simp only [jif_if]
              exact K2 c38
        · simp only [jif_if]
          refine j_top (if kind = 0 ∨ kind = 5 then 1 else 0) (by (repeat' split) <;> omega) ?_
          refine st_istore (q := 53) dX12_moment_51 (by decide) rfl ?_
          refine st_iload (q := 55) dX12_moment_53 rfl rfl ?_
          refine st_if_ne (q := 58) (tgt := 66) dX12_moment_55 (by decide) rfl (fun c55 => ?_) (fun c55 => ?_)
          · refine st_iload_n (q := 67) dX12_moment_66 rfl rfl ?_
            refine st_iconst (q := 68) dX12_moment_67 ⟨by decide, by decide⟩ rfl ?_
            refine st_icmp_ne (q := 71) (tgt := 86) dX12_moment_68 (by decide) rfl (fun c68 => ?_) (fun c68 => ?_)
            · refine st_iconst (q := 87) dX12_moment_86 ⟨by decide, by decide⟩ rfl ?_
              refine st_aload_n (q := 88) dX12_moment_87 rfl rfl ?_
              refine st_getI (q := 91) 12 47 dX12_moment_88 fl_X12_304 (by decide) (by decide) rfl rfl (wfk w rfl) ?_
              rw [n1]
              first | refine n_imul (q := 92) dX12_moment_91 rfl ⟨by omega, by omega⟩ ?_ | refine st_imul (q := 92) dX12_moment_91 rfl ?_
              refine st_istore (q := 94) dX12_moment_92 (by decide) rfl ?_
              refine st_aload_n (q := 95) dX12_moment_94 rfl rfl ?_
              refine st_getR (q := 98) 12 48 dX12_moment_95 fl_X12_118 (by decide) (by decide) rfl rfl (wfk w rfl) (wfR w rfl) ?_
              refine st_iload (q := 100) dX12_moment_98 rfl rfl ?_
              refine st_iload_n (q := 101) dX12_moment_100 rfl rfl ?_
              refine st_iastore (q := 102) dX12_moment_101 rfl (wfk w rfl) (wfb w (n := 200) rfl ⟨by omega, by omega⟩) ?_
              refine st_aload_n (q := 103) dX12_moment_102 rfl rfl ?_
              refine st_getR (q := 106) 12 48 dX12_moment_103 fl_X12_118 (by decide) (by decide) rfl rfl (wfk w rfl) (wfR w rfl) ?_
              refine st_iload (q := 108) dX12_moment_106 rfl rfl ?_
              refine st_iconst (q := 109) dX12_moment_108 ⟨by decide, by decide⟩ rfl ?_
              first | refine n_iadd (q := 110) dX12_moment_109 rfl ⟨by omega, by omega⟩ ?_ | refine st_iadd (q := 110) dX12_moment_109 rfl ?_
              refine st_iload_n (q := 111) dX12_moment_110 rfl rfl ?_
              refine st_iastore (q := 112) dX12_moment_111 rfl (wfk w rfl) (wfb w (n := 200) rfl ⟨by omega, by omega⟩) ?_
              refine st_aload_n (q := 113) dX12_moment_112 rfl rfl ?_
              refine st_getR (q := 116) 12 48 dX12_moment_113 fl_X12_118 (by decide) (by decide) rfl rfl (wfk w rfl) (wfR w rfl) ?_
              refine st_iload (q := 118) dX12_moment_116 rfl rfl ?_
              refine st_iconst (q := 119) dX12_moment_118 ⟨by decide, by decide⟩ rfl ?_
              first | refine n_iadd (q := 120) dX12_moment_119 rfl ⟨by omega, by omega⟩ ?_ | refine st_iadd (q := 120) dX12_moment_119 rfl ?_
              refine st_iload (q := 122) dX12_moment_120 rfl rfl ?_
              apply j_mg 131
              · intro K5 K6
                refine st_if_eq (q := 125) (tgt := 130) dX12_moment_122 (by decide) rfl (fun c122 => ?_) (fun c122 => ?_)
                · refine st_iload_n (q := 131) dX12_moment_130 rfl rfl ?_
                  exact K5 c122
                · refine st_bipush (q := 127) dX12_moment_125 ⟨by decide, by decide⟩ rfl ?_
                  refine st_goto (q := 131) dX12_moment_127 (by decide) ?_
                  exact K6 c122
              · simp only [jif_if]
                refine j_top (if kind = 0 ∨ kind = 5 then -9 else k) (by (repeat' split) <;> omega) ?_
                refine st_iastore (q := 132) dX12_moment_131 rfl (wfk w rfl) (wfb w (n := 200) rfl ⟨by omega, by omega⟩) ?_
                refine st_aload_n (q := 133) dX12_moment_132 rfl rfl ?_
                refine st_getR (q := 136) 12 48 dX12_moment_133 fl_X12_118 (by decide) (by decide) rfl rfl (wfk w rfl) (wfR w rfl) ?_
                refine st_iload (q := 138) dX12_moment_136 rfl rfl ?_
                refine st_iconst (q := 139) dX12_moment_138 ⟨by decide, by decide⟩ rfl ?_
                first | refine n_iadd (q := 140) dX12_moment_139 rfl ⟨by omega, by omega⟩ ?_ | refine st_iadd (q := 140) dX12_moment_139 rfl ?_
                refine st_iload_n (q := 141) dX12_moment_140 rfl rfl ?_
                apply j_mg 150
                · intro K7 K8
                  refine st_if_ne (q := 144) (tgt := 148) dX12_moment_141 (by decide) rfl (fun c141 => ?_) (fun c141 => ?_)
                  · refine st_iload (q := 150) dX12_moment_148 rfl rfl ?_
                    exact K8 c141
                  · refine st_iconst (q := 145) dX12_moment_144 ⟨by decide, by decide⟩ rfl ?_
                    refine st_goto (q := 150) dX12_moment_145 (by decide) ?_
                    exact K7 c141
                · simp only [jif_if]
                  refine j_top (if kind = 0 then 0 else v) (by (repeat' split) <;> omega) ?_
                  refine st_iastore (q := 151) dX12_moment_150 rfl (wfk w rfl) (wfb w (n := 200) rfl ⟨by omega, by omega⟩) ?_
                  refine st_aload_n (q := 152) dX12_moment_151 rfl rfl ?_
                  refine st_getR (q := 155) 12 48 dX12_moment_152 fl_X12_118 (by decide) (by decide) rfl rfl (wfk w rfl) (wfR w rfl) ?_
                  refine st_iload (q := 157) dX12_moment_155 rfl rfl ?_
                  refine st_iconst (q := 158) dX12_moment_157 ⟨by decide, by decide⟩ rfl ?_
                  first | refine n_iadd (q := 159) dX12_moment_158 rfl ⟨by omega, by omega⟩ ?_ | refine st_iadd (q := 159) dX12_moment_158 rfl ?_
                  refine st_iload_n (q := 160) dX12_moment_159 rfl rfl ?_
                  refine st_iconst (q := 161) dX12_moment_160 ⟨by decide, by decide⟩ rfl ?_
                  apply j_mg 175
                  · intro K9 K10
                    refine st_icmp_eq (q := 164) (tgt := 169) dX12_moment_161 (by decide) rfl (fun c161 => ?_) (fun c161 => ?_)
                    · refine st_iload (q := 171) dX12_moment_169 rfl rfl ?_
                      refine st_goto (q := 175) dX12_moment_171 (by decide) ?_
                      exact K9 c161
                    · refine st_iload_n (q := 165) dX12_moment_164 rfl rfl ?_
                      refine st_iconst (q := 166) dX12_moment_165 ⟨by decide, by decide⟩ rfl ?_
                      apply j_mg 175
                      · intro K11 K12
                        refine st_icmp_ne (q := 169) (tgt := 174) dX12_moment_166 (by decide) rfl (fun c166 => ?_) (fun c166 => ?_)
                        · refine st_iconst (q := 175) dX12_moment_174 ⟨by decide, by decide⟩ rfl ?_
                          exact K12 c166
                        · refine st_iload (q := 171) dX12_moment_169 rfl rfl ?_
                          refine st_goto (q := 175) dX12_moment_171 (by decide) ?_
                          exact K11 c166
                      · simp only [jif_if]
                        exact K10 c161
                  · simp only [jif_if]
                    refine j_top (if kind = 3 ∨ kind = 4 then x else 0) (by (repeat' split) <;> omega) ?_
                    refine st_iastore (q := 176) dX12_moment_175 rfl (wfk w rfl) (wfb w (n := 200) rfl ⟨by omega, by omega⟩) ?_
                    refine st_aload_n (q := 177) dX12_moment_176 rfl rfl ?_
                    refine st_dup (q := 178) dX12_moment_177 rfl rfl ?_
                    refine st_getI (q := 181) 12 47 dX12_moment_178 fl_X12_304 (by decide) (by decide) rfl rfl (wfk w rfl) ?_
                    refine j_top (q.1 : Int) n1 ?_
                    refine st_iconst (q := 182) dX12_moment_181 ⟨by decide, by decide⟩ rfl ?_
                    first | refine n_iadd (q := 183) dX12_moment_182 rfl ⟨by omega, by omega⟩ ?_ | refine st_iadd (q := 183) dX12_moment_182 rfl ?_
                    refine st_putI (q := 186) 12 47 dX12_moment_183 fl_X12_304 (by decide) (by decide) (Or.inl rfl) rfl (Or.inl rfl) (wfk w rfl) ?_
                    refine st_aload_n (q := 187) dX12_moment_186 rfl rfl ?_
                    refine st_getI (q := 190) 12 47 dX12_moment_187 fl_X12_304 (by decide) (by decide) rfl rfl (wfk w rfl) ?_
                    refine j_top ((q.1 : Int) + 1) (by rw [sI_s]) ?_
                    refine st_iconst (q := 191) dX12_moment_190 ⟨by decide, by decide⟩ rfl ?_
                    first | refine n_isub (q := 192) dX12_moment_191 rfl ⟨by omega, by omega⟩ ?_ | refine st_isub (q := 192) dX12_moment_191 rfl ?_
                    refine rt_i dX12_moment_192 rfl ?_
                    refine pq (h4 ⟨by omega, im⟩ (by omega) (by omega)) (by omega) ?_
                    unfold moH
                    rw [show (5 * (q.1 : Int)).toNat = 5 * q.1 by omega, show (5 * (q.1 : Int) + 1).toNat = 5 * q.1 + 1 by omega, show (5 * (q.1 : Int) + 2).toNat = 5 * q.1 + 2 by omega, show (5 * (q.1 : Int) + 3).toNat = 5 * q.1 + 3 by omega, show (5 * (q.1 : Int) + 4).toNat = 5 * q.1 + 4 by omega]
            · refine st_aload_n (q := 72) dX12_moment_71 rfl rfl ?_
              refine st_iload (q := 74) dX12_moment_72 rfl rfl ?_
              refine iV1i (q := 77) dX12_moment_74 rfl ml_X12_164 mv_X12_isThere (Nat.le_of_ble_eq_true rfl) (wfk w rfl) ?_
              refine c_X12_isThere w (by omega) ?_
              refine st_if_ne (q := 80) (tgt := 86) dX12_moment_77 (by decide) rfl (fun c77 => ?_) (fun c77 => ?_)
              · refine st_iconst (q := 87) dX12_moment_86 ⟨by decide, by decide⟩ rfl ?_
                refine st_aload_n (q := 88) dX12_moment_87 rfl rfl ?_
                refine st_getI (q := 91) 12 47 dX12_moment_88 fl_X12_304 (by decide) (by decide) rfl rfl (wfk w rfl) ?_
                rw [n1]
                first | refine n_imul (q := 92) dX12_moment_91 rfl ⟨by omega, by omega⟩ ?_ | refine st_imul (q := 92) dX12_moment_91 rfl ?_
                refine st_istore (q := 94) dX12_moment_92 (by decide) rfl ?_
                refine st_aload_n (q := 95) dX12_moment_94 rfl rfl ?_
                refine st_getR (q := 98) 12 48 dX12_moment_95 fl_X12_118 (by decide) (by decide) rfl rfl (wfk w rfl) (wfR w rfl) ?_
                refine st_iload (q := 100) dX12_moment_98 rfl rfl ?_
                refine st_iload_n (q := 101) dX12_moment_100 rfl rfl ?_
                refine st_iastore (q := 102) dX12_moment_101 rfl (wfk w rfl) (wfb w (n := 200) rfl ⟨by omega, by omega⟩) ?_
                refine st_aload_n (q := 103) dX12_moment_102 rfl rfl ?_
                refine st_getR (q := 106) 12 48 dX12_moment_103 fl_X12_118 (by decide) (by decide) rfl rfl (wfk w rfl) (wfR w rfl) ?_
                refine st_iload (q := 108) dX12_moment_106 rfl rfl ?_
                refine st_iconst (q := 109) dX12_moment_108 ⟨by decide, by decide⟩ rfl ?_
                first | refine n_iadd (q := 110) dX12_moment_109 rfl ⟨by omega, by omega⟩ ?_ | refine st_iadd (q := 110) dX12_moment_109 rfl ?_
                refine st_iload_n (q := 111) dX12_moment_110 rfl rfl ?_
                refine st_iastore (q := 112) dX12_moment_111 rfl (wfk w rfl) (wfb w (n := 200) rfl ⟨by omega, by omega⟩) ?_
                refine st_aload_n (q := 113) dX12_moment_112 rfl rfl ?_
                refine st_getR (q := 116) 12 48 dX12_moment_113 fl_X12_118 (by decide) (by decide) rfl rfl (wfk w rfl) (wfR w rfl) ?_
                refine st_iload (q := 118) dX12_moment_116 rfl rfl ?_
                refine st_iconst (q := 119) dX12_moment_118 ⟨by decide, by decide⟩ rfl ?_
                first | refine n_iadd (q := 120) dX12_moment_119 rfl ⟨by omega, by omega⟩ ?_ | refine st_iadd (q := 120) dX12_moment_119 rfl ?_
                refine st_iload (q := 122) dX12_moment_120 rfl rfl ?_
                apply j_mg 131
                · intro K13 K14
                  refine st_if_eq (q := 125) (tgt := 130) dX12_moment_122 (by decide) rfl (fun c122 => ?_) (fun c122 => ?_)
                  · refine st_iload_n (q := 131) dX12_moment_130 rfl rfl ?_
                    exact K13 c122
                  · refine st_bipush (q := 127) dX12_moment_125 ⟨by decide, by decide⟩ rfl ?_
                    refine st_goto (q := 131) dX12_moment_127 (by decide) ?_
                    exact K14 c122
                · simp only [jif_if]
                  refine j_top (if kind = 0 ∨ kind = 5 then -9 else k) (by (repeat' split) <;> omega) ?_
                  refine st_iastore (q := 132) dX12_moment_131 rfl (wfk w rfl) (wfb w (n := 200) rfl ⟨by omega, by omega⟩) ?_
                  refine st_aload_n (q := 133) dX12_moment_132 rfl rfl ?_
                  refine st_getR (q := 136) 12 48 dX12_moment_133 fl_X12_118 (by decide) (by decide) rfl rfl (wfk w rfl) (wfR w rfl) ?_
                  refine st_iload (q := 138) dX12_moment_136 rfl rfl ?_
                  refine st_iconst (q := 139) dX12_moment_138 ⟨by decide, by decide⟩ rfl ?_
                  first | refine n_iadd (q := 140) dX12_moment_139 rfl ⟨by omega, by omega⟩ ?_ | refine st_iadd (q := 140) dX12_moment_139 rfl ?_
                  refine st_iload_n (q := 141) dX12_moment_140 rfl rfl ?_
                  apply j_mg 150
                  · intro K15 K16
                    refine st_if_ne (q := 144) (tgt := 148) dX12_moment_141 (by decide) rfl (fun c141 => ?_) (fun c141 => ?_)
                    · refine st_iload (q := 150) dX12_moment_148 rfl rfl ?_
                      exact K16 c141
                    · refine st_iconst (q := 145) dX12_moment_144 ⟨by decide, by decide⟩ rfl ?_
                      refine st_goto (q := 150) dX12_moment_145 (by decide) ?_
                      exact K15 c141
                  · simp only [jif_if]
                    refine j_top (if kind = 0 then 0 else v) (by (repeat' split) <;> omega) ?_
                    refine st_iastore (q := 151) dX12_moment_150 rfl (wfk w rfl) (wfb w (n := 200) rfl ⟨by omega, by omega⟩) ?_
                    refine st_aload_n (q := 152) dX12_moment_151 rfl rfl ?_
                    refine st_getR (q := 155) 12 48 dX12_moment_152 fl_X12_118 (by decide) (by decide) rfl rfl (wfk w rfl) (wfR w rfl) ?_
                    refine st_iload (q := 157) dX12_moment_155 rfl rfl ?_
                    refine st_iconst (q := 158) dX12_moment_157 ⟨by decide, by decide⟩ rfl ?_
                    first | refine n_iadd (q := 159) dX12_moment_158 rfl ⟨by omega, by omega⟩ ?_ | refine st_iadd (q := 159) dX12_moment_158 rfl ?_
                    refine st_iload_n (q := 160) dX12_moment_159 rfl rfl ?_
                    refine st_iconst (q := 161) dX12_moment_160 ⟨by decide, by decide⟩ rfl ?_
                    apply j_mg 175
                    · intro K17 K18
                      refine st_icmp_eq (q := 164) (tgt := 169) dX12_moment_161 (by decide) rfl (fun c161 => ?_) (fun c161 => ?_)
                      · refine st_iload (q := 171) dX12_moment_169 rfl rfl ?_
                        refine st_goto (q := 175) dX12_moment_171 (by decide) ?_
                        exact K17 c161
                      · refine st_iload_n (q := 165) dX12_moment_164 rfl rfl ?_
                        refine st_iconst (q := 166) dX12_moment_165 ⟨by decide, by decide⟩ rfl ?_
                        apply j_mg 175
                        · intro K19 K20
                          refine st_icmp_ne (q := 169) (tgt := 174) dX12_moment_166 (by decide) rfl (fun c166 => ?_) (fun c166 => ?_)
                          · refine st_iconst (q := 175) dX12_moment_174 ⟨by decide, by decide⟩ rfl ?_
                            exact K20 c166
                          · refine st_iload (q := 171) dX12_moment_169 rfl rfl ?_
                            refine st_goto (q := 175) dX12_moment_171 (by decide) ?_
                            exact K19 c166
                        · simp only [jif_if]
                          exact K18 c161
                    · simp only [jif_if]
                      refine j_top (if kind = 3 ∨ kind = 4 then x else 0) (by (repeat' split) <;> omega) ?_
                      refine st_iastore (q := 176) dX12_moment_175 rfl (wfk w rfl) (wfb w (n := 200) rfl ⟨by omega, by omega⟩) ?_
                      refine st_aload_n (q := 177) dX12_moment_176 rfl rfl ?_
                      refine st_dup (q := 178) dX12_moment_177 rfl rfl ?_
                      refine st_getI (q := 181) 12 47 dX12_moment_178 fl_X12_304 (by decide) (by decide) rfl rfl (wfk w rfl) ?_
                      refine j_top (q.1 : Int) n1 ?_
                      refine st_iconst (q := 182) dX12_moment_181 ⟨by decide, by decide⟩ rfl ?_
                      first | refine n_iadd (q := 183) dX12_moment_182 rfl ⟨by omega, by omega⟩ ?_ | refine st_iadd (q := 183) dX12_moment_182 rfl ?_
                      refine st_putI (q := 186) 12 47 dX12_moment_183 fl_X12_304 (by decide) (by decide) (Or.inl rfl) rfl (Or.inl rfl) (wfk w rfl) ?_
                      refine st_aload_n (q := 187) dX12_moment_186 rfl rfl ?_
                      refine st_getI (q := 190) 12 47 dX12_moment_187 fl_X12_304 (by decide) (by decide) rfl rfl (wfk w rfl) ?_
                      refine j_top ((q.1 : Int) + 1) (by rw [sI_s]) ?_
                      refine st_iconst (q := 191) dX12_moment_190 ⟨by decide, by decide⟩ rfl ?_
                      first | refine n_isub (q := 192) dX12_moment_191 rfl ⟨by omega, by omega⟩ ?_ | refine st_isub (q := 192) dX12_moment_191 rfl ?_
                      refine rt_i dX12_moment_192 rfl ?_
                      refine pq (h4 ⟨by omega, im⟩ (by omega) (by omega)) (by omega) ?_
                      unfold moH
                      rw [show (5 * (q.1 : Int)).toNat = 5 * q.1 by omega, show (5 * (q.1 : Int) + 1).toNat = 5 * q.1 + 1 by omega, show (5 * (q.1 : Int) + 2).toNat = 5 * q.1 + 2 by omega, show (5 * (q.1 : Int) + 3).toNat = 5 * q.1 + 3 by omega, show (5 * (q.1 : Int) + 4).toNat = 5 * q.1 + 4 by omega]
              · refine st_aload_n (q := 81) dX12_moment_80 rfl rfl ?_
                refine st_iconst (q := 82) dX12_moment_81 ⟨by decide, by decide⟩ rfl ?_
                refine iV1i (q := 85) dX12_moment_82 rfl ml_X12_138 mv_X12_meets (Nat.le_of_ble_eq_true rfl) (wfk w rfl) ?_
                refine c_X12_meets w (by decide) ?_
                refine rt_i dX12_moment_85 rfl ?_
                exact h3 ⟨by omega, im⟩ (by omega) (by omega)
          · refine st_aload_n (q := 59) dX12_moment_58 rfl rfl ?_
            refine st_iload_n (q := 60) dX12_moment_59 rfl rfl ?_
            refine iV1i (q := 63) dX12_moment_60 rfl ml_X12_164 mv_X12_isThere (Nat.le_of_ble_eq_true rfl) (wfk w rfl) ?_
            refine c_X12_isThere w (by omega) ?_
            refine st_if_eq (q := 66) (tgt := 80) dX12_moment_63 (by decide) rfl (fun c63 => ?_) (fun c63 => ?_)
            · refine st_aload_n (q := 81) dX12_moment_80 rfl rfl ?_
              refine st_iconst (q := 82) dX12_moment_81 ⟨by decide, by decide⟩ rfl ?_
              refine iV1i (q := 85) dX12_moment_82 rfl ml_X12_138 mv_X12_meets (Nat.le_of_ble_eq_true rfl) (wfk w rfl) ?_
              refine c_X12_meets w (by decide) ?_
              refine rt_i dX12_moment_85 rfl ?_
              exact h3 ⟨by omega, im⟩ (by omega) (by omega)
            · refine st_iload_n (q := 67) dX12_moment_66 rfl rfl ?_
              refine st_iconst (q := 68) dX12_moment_67 ⟨by decide, by decide⟩ rfl ?_
              refine st_icmp_ne (q := 71) (tgt := 86) dX12_moment_68 (by decide) rfl (fun c68 => ?_) (fun c68 => ?_)
              · refine st_iconst (q := 87) dX12_moment_86 ⟨by decide, by decide⟩ rfl ?_
                refine st_aload_n (q := 88) dX12_moment_87 rfl rfl ?_
                refine st_getI (q := 91) 12 47 dX12_moment_88 fl_X12_304 (by decide) (by decide) rfl rfl (wfk w rfl) ?_
                rw [n1]
                first | refine n_imul (q := 92) dX12_moment_91 rfl ⟨by omega, by omega⟩ ?_ | refine st_imul (q := 92) dX12_moment_91 rfl ?_
                refine st_istore (q := 94) dX12_moment_92 (by decide) rfl ?_
                refine st_aload_n (q := 95) dX12_moment_94 rfl rfl ?_
                refine st_getR (q := 98) 12 48 dX12_moment_95 fl_X12_118 (by decide) (by decide) rfl rfl (wfk w rfl) (wfR w rfl) ?_
                refine st_iload (q := 100) dX12_moment_98 rfl rfl ?_
                refine st_iload_n (q := 101) dX12_moment_100 rfl rfl ?_
                refine st_iastore (q := 102) dX12_moment_101 rfl (wfk w rfl) (wfb w (n := 200) rfl ⟨by omega, by omega⟩) ?_
                refine st_aload_n (q := 103) dX12_moment_102 rfl rfl ?_
                refine st_getR (q := 106) 12 48 dX12_moment_103 fl_X12_118 (by decide) (by decide) rfl rfl (wfk w rfl) (wfR w rfl) ?_
                refine st_iload (q := 108) dX12_moment_106 rfl rfl ?_
                refine st_iconst (q := 109) dX12_moment_108 ⟨by decide, by decide⟩ rfl ?_
                first | refine n_iadd (q := 110) dX12_moment_109 rfl ⟨by omega, by omega⟩ ?_ | refine st_iadd (q := 110) dX12_moment_109 rfl ?_
                refine st_iload_n (q := 111) dX12_moment_110 rfl rfl ?_
                refine st_iastore (q := 112) dX12_moment_111 rfl (wfk w rfl) (wfb w (n := 200) rfl ⟨by omega, by omega⟩) ?_
                refine st_aload_n (q := 113) dX12_moment_112 rfl rfl ?_
                refine st_getR (q := 116) 12 48 dX12_moment_113 fl_X12_118 (by decide) (by decide) rfl rfl (wfk w rfl) (wfR w rfl) ?_
                refine st_iload (q := 118) dX12_moment_116 rfl rfl ?_
                refine st_iconst (q := 119) dX12_moment_118 ⟨by decide, by decide⟩ rfl ?_
                first | refine n_iadd (q := 120) dX12_moment_119 rfl ⟨by omega, by omega⟩ ?_ | refine st_iadd (q := 120) dX12_moment_119 rfl ?_
                refine st_iload (q := 122) dX12_moment_120 rfl rfl ?_
                apply j_mg 131
                · intro K21 K22
                  refine st_if_eq (q := 125) (tgt := 130) dX12_moment_122 (by decide) rfl (fun c122 => ?_) (fun c122 => ?_)
                  · refine st_iload_n (q := 131) dX12_moment_130 rfl rfl ?_
                    exact K21 c122
                  · refine st_bipush (q := 127) dX12_moment_125 ⟨by decide, by decide⟩ rfl ?_
                    refine st_goto (q := 131) dX12_moment_127 (by decide) ?_
                    exact K22 c122
                · simp only [jif_if]
                  refine j_top (if kind = 0 ∨ kind = 5 then -9 else k) (by (repeat' split) <;> omega) ?_
                  refine st_iastore (q := 132) dX12_moment_131 rfl (wfk w rfl) (wfb w (n := 200) rfl ⟨by omega, by omega⟩) ?_
                  refine st_aload_n (q := 133) dX12_moment_132 rfl rfl ?_
                  refine st_getR (q := 136) 12 48 dX12_moment_133 fl_X12_118 (by decide) (by decide) rfl rfl (wfk w rfl) (wfR w rfl) ?_
                  refine st_iload (q := 138) dX12_moment_136 rfl rfl ?_
                  refine st_iconst (q := 139) dX12_moment_138 ⟨by decide, by decide⟩ rfl ?_
                  first | refine n_iadd (q := 140) dX12_moment_139 rfl ⟨by omega, by omega⟩ ?_ | refine st_iadd (q := 140) dX12_moment_139 rfl ?_
                  refine st_iload_n (q := 141) dX12_moment_140 rfl rfl ?_
                  apply j_mg 150
                  · intro K23 K24
                    refine st_if_ne (q := 144) (tgt := 148) dX12_moment_141 (by decide) rfl (fun c141 => ?_) (fun c141 => ?_)
                    · refine st_iload (q := 150) dX12_moment_148 rfl rfl ?_
                      exact K24 c141
                    · refine st_iconst (q := 145) dX12_moment_144 ⟨by decide, by decide⟩ rfl ?_
                      refine st_goto (q := 150) dX12_moment_145 (by decide) ?_
                      exact K23 c141
                  · simp only [jif_if]
                    refine j_top (if kind = 0 then 0 else v) (by (repeat' split) <;> omega) ?_
                    refine st_iastore (q := 151) dX12_moment_150 rfl (wfk w rfl) (wfb w (n := 200) rfl ⟨by omega, by omega⟩) ?_
                    refine st_aload_n (q := 152) dX12_moment_151 rfl rfl ?_
                    refine st_getR (q := 155) 12 48 dX12_moment_152 fl_X12_118 (by decide) (by decide) rfl rfl (wfk w rfl) (wfR w rfl) ?_
                    refine st_iload (q := 157) dX12_moment_155 rfl rfl ?_
                    refine st_iconst (q := 158) dX12_moment_157 ⟨by decide, by decide⟩ rfl ?_
                    first | refine n_iadd (q := 159) dX12_moment_158 rfl ⟨by omega, by omega⟩ ?_ | refine st_iadd (q := 159) dX12_moment_158 rfl ?_
                    refine st_iload_n (q := 160) dX12_moment_159 rfl rfl ?_
                    refine st_iconst (q := 161) dX12_moment_160 ⟨by decide, by decide⟩ rfl ?_
                    apply j_mg 175
                    · intro K25 K26
                      refine st_icmp_eq (q := 164) (tgt := 169) dX12_moment_161 (by decide) rfl (fun c161 => ?_) (fun c161 => ?_)
                      · refine st_iload (q := 171) dX12_moment_169 rfl rfl ?_
                        refine st_goto (q := 175) dX12_moment_171 (by decide) ?_
                        exact K25 c161
                      · refine st_iload_n (q := 165) dX12_moment_164 rfl rfl ?_
                        refine st_iconst (q := 166) dX12_moment_165 ⟨by decide, by decide⟩ rfl ?_
                        apply j_mg 175
                        · intro K27 K28
                          refine st_icmp_ne (q := 169) (tgt := 174) dX12_moment_166 (by decide) rfl (fun c166 => ?_) (fun c166 => ?_)
                          · refine st_iconst (q := 175) dX12_moment_174 ⟨by decide, by decide⟩ rfl ?_
                            exact K28 c166
                          · refine st_iload (q := 171) dX12_moment_169 rfl rfl ?_
                            refine st_goto (q := 175) dX12_moment_171 (by decide) ?_
                            exact K27 c166
                        · simp only [jif_if]
                          exact K26 c161
                    · simp only [jif_if]
                      refine j_top (if kind = 3 ∨ kind = 4 then x else 0) (by (repeat' split) <;> omega) ?_
                      refine st_iastore (q := 176) dX12_moment_175 rfl (wfk w rfl) (wfb w (n := 200) rfl ⟨by omega, by omega⟩) ?_
                      refine st_aload_n (q := 177) dX12_moment_176 rfl rfl ?_
                      refine st_dup (q := 178) dX12_moment_177 rfl rfl ?_
                      refine st_getI (q := 181) 12 47 dX12_moment_178 fl_X12_304 (by decide) (by decide) rfl rfl (wfk w rfl) ?_
                      refine j_top (q.1 : Int) n1 ?_
                      refine st_iconst (q := 182) dX12_moment_181 ⟨by decide, by decide⟩ rfl ?_
                      first | refine n_iadd (q := 183) dX12_moment_182 rfl ⟨by omega, by omega⟩ ?_ | refine st_iadd (q := 183) dX12_moment_182 rfl ?_
                      refine st_putI (q := 186) 12 47 dX12_moment_183 fl_X12_304 (by decide) (by decide) (Or.inl rfl) rfl (Or.inl rfl) (wfk w rfl) ?_
                      refine st_aload_n (q := 187) dX12_moment_186 rfl rfl ?_
                      refine st_getI (q := 190) 12 47 dX12_moment_187 fl_X12_304 (by decide) (by decide) rfl rfl (wfk w rfl) ?_
                      refine j_top ((q.1 : Int) + 1) (by rw [sI_s]) ?_
                      refine st_iconst (q := 191) dX12_moment_190 ⟨by decide, by decide⟩ rfl ?_
                      first | refine n_isub (q := 192) dX12_moment_191 rfl ⟨by omega, by omega⟩ ?_ | refine st_isub (q := 192) dX12_moment_191 rfl ?_
                      refine rt_i dX12_moment_192 rfl ?_
                      refine pq (h4 ⟨by omega, im⟩ (by omega) (by omega)) (by omega) ?_
                      unfold moH
                      rw [show (5 * (q.1 : Int)).toNat = 5 * q.1 by omega, show (5 * (q.1 : Int) + 1).toNat = 5 * q.1 + 1 by omega, show (5 * (q.1 : Int) + 2).toNat = 5 * q.1 + 2 by omega, show (5 * (q.1 : Int) + 3).toNat = 5 * q.1 + 3 by omega, show (5 * (q.1 : Int) + 4).toNat = 5 * q.1 + 4 by omega]
              · refine st_aload_n (q := 72) dX12_moment_71 rfl rfl ?_
                refine st_iload (q := 74) dX12_moment_72 rfl rfl ?_
                refine iV1i (q := 77) dX12_moment_74 rfl ml_X12_164 mv_X12_isThere (Nat.le_of_ble_eq_true rfl) (wfk w rfl) ?_
                refine c_X12_isThere w (by omega) ?_
                refine st_if_ne (q := 80) (tgt := 86) dX12_moment_77 (by decide) rfl (fun c77 => ?_) (fun c77 => ?_)
                · refine st_iconst (q := 87) dX12_moment_86 ⟨by decide, by decide⟩ rfl ?_
                  refine st_aload_n (q := 88) dX12_moment_87 rfl rfl ?_
                  refine st_getI (q := 91) 12 47 dX12_moment_88 fl_X12_304 (by decide) (by decide) rfl rfl (wfk w rfl) ?_
                  rw [n1]
                  first | refine n_imul (q := 92) dX12_moment_91 rfl ⟨by omega, by omega⟩ ?_ | refine st_imul (q := 92) dX12_moment_91 rfl ?_
                  refine st_istore (q := 94) dX12_moment_92 (by decide) rfl ?_
                  refine st_aload_n (q := 95) dX12_moment_94 rfl rfl ?_
                  refine st_getR (q := 98) 12 48 dX12_moment_95 fl_X12_118 (by decide) (by decide) rfl rfl (wfk w rfl) (wfR w rfl) ?_
                  refine st_iload (q := 100) dX12_moment_98 rfl rfl ?_
                  refine st_iload_n (q := 101) dX12_moment_100 rfl rfl ?_
                  refine st_iastore (q := 102) dX12_moment_101 rfl (wfk w rfl) (wfb w (n := 200) rfl ⟨by omega, by omega⟩) ?_
                  refine st_aload_n (q := 103) dX12_moment_102 rfl rfl ?_
                  refine st_getR (q := 106) 12 48 dX12_moment_103 fl_X12_118 (by decide) (by decide) rfl rfl (wfk w rfl) (wfR w rfl) ?_
                  refine st_iload (q := 108) dX12_moment_106 rfl rfl ?_
                  refine st_iconst (q := 109) dX12_moment_108 ⟨by decide, by decide⟩ rfl ?_
                  first | refine n_iadd (q := 110) dX12_moment_109 rfl ⟨by omega, by omega⟩ ?_ | refine st_iadd (q := 110) dX12_moment_109 rfl ?_
                  refine st_iload_n (q := 111) dX12_moment_110 rfl rfl ?_
                  refine st_iastore (q := 112) dX12_moment_111 rfl (wfk w rfl) (wfb w (n := 200) rfl ⟨by omega, by omega⟩) ?_
                  refine st_aload_n (q := 113) dX12_moment_112 rfl rfl ?_
                  refine st_getR (q := 116) 12 48 dX12_moment_113 fl_X12_118 (by decide) (by decide) rfl rfl (wfk w rfl) (wfR w rfl) ?_
                  refine st_iload (q := 118) dX12_moment_116 rfl rfl ?_
                  refine st_iconst (q := 119) dX12_moment_118 ⟨by decide, by decide⟩ rfl ?_
                  first | refine n_iadd (q := 120) dX12_moment_119 rfl ⟨by omega, by omega⟩ ?_ | refine st_iadd (q := 120) dX12_moment_119 rfl ?_
                  refine st_iload (q := 122) dX12_moment_120 rfl rfl ?_
                  apply j_mg 131
                  · intro K29 K30
                    refine st_if_eq (q := 125) (tgt := 130) dX12_moment_122 (by decide) rfl (fun c122 => ?_) (fun c122 => ?_)
                    · refine st_iload_n (q := 131) dX12_moment_130 rfl rfl ?_
                      exact K29 c122
                    · refine st_bipush (q := 127) dX12_moment_125 ⟨by decide, by decide⟩ rfl ?_
                      refine st_goto (q := 131) dX12_moment_127 (by decide) ?_
                      exact K30 c122
                  · simp only [jif_if]
                    refine j_top (if kind = 0 ∨ kind = 5 then -9 else k) (by (repeat' split) <;> omega) ?_
                    refine st_iastore (q := 132) dX12_moment_131 rfl (wfk w rfl) (wfb w (n := 200) rfl ⟨by omega, by omega⟩) ?_
                    refine st_aload_n (q := 133) dX12_moment_132 rfl rfl ?_
                    refine st_getR (q := 136) 12 48 dX12_moment_133 fl_X12_118 (by decide) (by decide) rfl rfl (wfk w rfl) (wfR w rfl) ?_
                    refine st_iload (q := 138) dX12_moment_136 rfl rfl ?_
                    refine st_iconst (q := 139) dX12_moment_138 ⟨by decide, by decide⟩ rfl ?_
                    first | refine n_iadd (q := 140) dX12_moment_139 rfl ⟨by omega, by omega⟩ ?_ | refine st_iadd (q := 140) dX12_moment_139 rfl ?_
                    refine st_iload_n (q := 141) dX12_moment_140 rfl rfl ?_
                    apply j_mg 150
                    · intro K31 K32
                      refine st_if_ne (q := 144) (tgt := 148) dX12_moment_141 (by decide) rfl (fun c141 => ?_) (fun c141 => ?_)
                      · refine st_iload (q := 150) dX12_moment_148 rfl rfl ?_
                        exact K32 c141
                      · refine st_iconst (q := 145) dX12_moment_144 ⟨by decide, by decide⟩ rfl ?_
                        refine st_goto (q := 150) dX12_moment_145 (by decide) ?_
                        exact K31 c141
                    · simp only [jif_if]
                      refine j_top (if kind = 0 then 0 else v) (by (repeat' split) <;> omega) ?_
                      refine st_iastore (q := 151) dX12_moment_150 rfl (wfk w rfl) (wfb w (n := 200) rfl ⟨by omega, by omega⟩) ?_
                      refine st_aload_n (q := 152) dX12_moment_151 rfl rfl ?_
                      refine st_getR (q := 155) 12 48 dX12_moment_152 fl_X12_118 (by decide) (by decide) rfl rfl (wfk w rfl) (wfR w rfl) ?_
                      refine st_iload (q := 157) dX12_moment_155 rfl rfl ?_
                      refine st_iconst (q := 158) dX12_moment_157 ⟨by decide, by decide⟩ rfl ?_
                      first | refine n_iadd (q := 159) dX12_moment_158 rfl ⟨by omega, by omega⟩ ?_ | refine st_iadd (q := 159) dX12_moment_158 rfl ?_
                      refine st_iload_n (q := 160) dX12_moment_159 rfl rfl ?_
                      refine st_iconst (q := 161) dX12_moment_160 ⟨by decide, by decide⟩ rfl ?_
                      apply j_mg 175
                      · intro K33 K34
                        refine st_icmp_eq (q := 164) (tgt := 169) dX12_moment_161 (by decide) rfl (fun c161 => ?_) (fun c161 => ?_)
                        · refine st_iload (q := 171) dX12_moment_169 rfl rfl ?_
                          refine st_goto (q := 175) dX12_moment_171 (by decide) ?_
                          exact K33 c161
                        · refine st_iload_n (q := 165) dX12_moment_164 rfl rfl ?_
                          refine st_iconst (q := 166) dX12_moment_165 ⟨by decide, by decide⟩ rfl ?_
                          apply j_mg 175
                          · intro K35 K36
                            refine st_icmp_ne (q := 169) (tgt := 174) dX12_moment_166 (by decide) rfl (fun c166 => ?_) (fun c166 => ?_)
                            · refine st_iconst (q := 175) dX12_moment_174 ⟨by decide, by decide⟩ rfl ?_
                              exact K36 c166
                            · refine st_iload (q := 171) dX12_moment_169 rfl rfl ?_
                              refine st_goto (q := 175) dX12_moment_171 (by decide) ?_
                              exact K35 c166
                          · simp only [jif_if]
                            exact K34 c161
                      · simp only [jif_if]
                        refine j_top (if kind = 3 ∨ kind = 4 then x else 0) (by (repeat' split) <;> omega) ?_
                        refine st_iastore (q := 176) dX12_moment_175 rfl (wfk w rfl) (wfb w (n := 200) rfl ⟨by omega, by omega⟩) ?_
                        refine st_aload_n (q := 177) dX12_moment_176 rfl rfl ?_
                        refine st_dup (q := 178) dX12_moment_177 rfl rfl ?_
                        refine st_getI (q := 181) 12 47 dX12_moment_178 fl_X12_304 (by decide) (by decide) rfl rfl (wfk w rfl) ?_
                        refine j_top (q.1 : Int) n1 ?_
                        refine st_iconst (q := 182) dX12_moment_181 ⟨by decide, by decide⟩ rfl ?_
                        first | refine n_iadd (q := 183) dX12_moment_182 rfl ⟨by omega, by omega⟩ ?_ | refine st_iadd (q := 183) dX12_moment_182 rfl ?_
                        refine st_putI (q := 186) 12 47 dX12_moment_183 fl_X12_304 (by decide) (by decide) (Or.inl rfl) rfl (Or.inl rfl) (wfk w rfl) ?_
                        refine st_aload_n (q := 187) dX12_moment_186 rfl rfl ?_
                        refine st_getI (q := 190) 12 47 dX12_moment_187 fl_X12_304 (by decide) (by decide) rfl rfl (wfk w rfl) ?_
                        refine j_top ((q.1 : Int) + 1) (by rw [sI_s]) ?_
                        refine st_iconst (q := 191) dX12_moment_190 ⟨by decide, by decide⟩ rfl ?_
                        first | refine n_isub (q := 192) dX12_moment_191 rfl ⟨by omega, by omega⟩ ?_ | refine st_isub (q := 192) dX12_moment_191 rfl ?_
                        refine rt_i dX12_moment_192 rfl ?_
                        refine pq (h4 ⟨by omega, im⟩ (by omega) (by omega)) (by omega) ?_
                        unfold moH
                        rw [show (5 * (q.1 : Int)).toNat = 5 * q.1 by omega, show (5 * (q.1 : Int) + 1).toNat = 5 * q.1 + 1 by omega, show (5 * (q.1 : Int) + 2).toNat = 5 * q.1 + 2 by omega, show (5 * (q.1 : Int) + 3).toNat = 5 * q.1 + 3 by omega, show (5 * (q.1 : Int) + 4).toNat = 5 * q.1 + 4 by omega]
                · refine st_aload_n (q := 81) dX12_moment_80 rfl rfl ?_
                  refine st_iconst (q := 82) dX12_moment_81 ⟨by decide, by decide⟩ rfl ?_
                  refine iV1i (q := 85) dX12_moment_82 rfl ml_X12_138 mv_X12_meets (Nat.le_of_ble_eq_true rfl) (wfk w rfl) ?_
                  refine c_X12_meets w (by decide) ?_
                  refine rt_i dX12_moment_85 rfl ?_
                  exact h3 ⟨by omega, im⟩ (by omega) (by omega)
      · refine st_bipush (q := 36) dX12_moment_34 ⟨by decide, by decide⟩ rfl ?_
        refine rt_i dX12_moment_36 rfl ?_
        exact h2 ⟨by omega, im⟩ (by omega)
    · refine st_if_ne (q := 23) (tgt := 25) dX12_moment_20 (by decide) rfl (fun z => absurd z (by decide)) (fun _ => ?_)
      refine st_iconst (q := 24) dX12_moment_23 ⟨by decide, by decide⟩ rfl ?_
      refine rt_i dX12_moment_24 rfl ?_
      first | exact h1 (by omega) | exact h1 (fun z => im z.2)
theorem c_X12_partI {d : Nat} {h : JH} {P : Int → JH → Prop} {q : MO} {m x : Int} (w : WF h) (nm : NM h q) (qo : qOk q) (hm : 0 ≤ m ∧ m < q.1) (hx : 0 ≤ x ∧ x ≤ 4) (hP : P (q.2 m.toNat x.toNat) h) : JRi d jX12_part [vr 117, vi m, vi x] h P := by
  have := c_X12_part (d := d) (P := P) (m := m.toNat) w nm qo (by omega) hx hP
  rw [Int.toNat_of_nonneg hm.1] at this
  exact this
theorem c_X12_mark {d : Nat} {h : JH} {P : Int → JH → Prop} {q : MO} {m kind : Int} (w : WF h) (nm : NM h q) (qo : qOk q) (h1 : ¬ ((0 ≤ m ∧ m < q.1) ∧ (1 ≤ kind ∧ kind ≤ 6)) → P (-1) h) (h2 : (0 ≤ m ∧ m < q.1) ∧ (1 ≤ kind ∧ kind ≤ 6) → ¬ (q.2 m.toNat 0 = kind ∨ (kind = 1 ∧ (q.2 m.toNat 0 = 3 ∨ q.2 m.toNat 0 = 4))) → P (-3) (mtH h 3)) (h3 : (0 ≤ m ∧ m < q.1) ∧ (1 ≤ kind ∧ kind ≤ 6) → (q.2 m.toNat 0 = kind ∨ (kind = 1 ∧ (q.2 m.toNat 0 = 3 ∨ q.2 m.toNat 0 = 4))) → P (if kind = 3 ∨ kind = 4 then q.2 m.toNat 4 else if kind = 5 then hI h 146 (q.2 m.toNat 3).toNat else q.2 m.toNat 3) h) : JRi (d + 2) jX12_mark [vr 117, vi m, vi kind] h P := by
  refine JRet.of rfl (Nat.le_of_ble_eq_true rfl) ?_
  refine st_aload_n (q := 1) dX12_mark_0 rfl rfl ?_
  refine st_iload_n (q := 2) dX12_mark_1 rfl rfl ?_
  refine iV1i (q := 5) dX12_mark_2 rfl ml_X12_307 mv_X12_isTold (Nat.le_of_ble_eq_true rfl) (wfk w rfl) ?_
  refine c_X12_isTold w nm qo ?_
  refine st_if_eq (q := 8) (tgt := 18) dX12_mark_5 (by decide) rfl (fun c5 => ?_) (fun c5 => ?_)
  · refine st_iconst (q := 19) dX12_mark_18 ⟨by decide, by decide⟩ rfl ?_
    refine rt_i dX12_mark_19 rfl ?_
    first | exact h1 (by omega) | exact h2 (by omega) (by omega) | (refine pq (h3 (by omega) (by omega)) ?_ rfl; (repeat' split) <;> first | omega | rfl)
  · refine st_iload_n (q := 9) dX12_mark_8 rfl rfl ?_
    refine st_iconst (q := 10) dX12_mark_9 ⟨by decide, by decide⟩ rfl ?_
    refine st_bipush (q := 12) dX12_mark_10 ⟨by decide, by decide⟩ rfl ?_
    refine iS3i (q := 15) dX12_mark_12 rfl ml_X12_130 ms_X12_in (Nat.le_of_ble_eq_true rfl) ?_
    refine c_X12_in ?_
    refine st_if_ne (q := 18) (tgt := 20) dX12_mark_15 (by decide) rfl (fun c15 => ?_) (fun c15 => ?_)
    · refine st_aload_n (q := 21) dX12_mark_20 rfl rfl ?_
      refine st_iload_n (q := 22) dX12_mark_21 rfl rfl ?_
      refine st_iconst (q := 23) dX12_mark_22 ⟨by decide, by decide⟩ rfl ?_
      refine iV2i (q := 26) dX12_mark_23 rfl ml_X12_310 mv_X12_part (Nat.le_of_ble_eq_true rfl) (wfk w rfl) ?_
      refine c_X12_partI w nm qo (by omega) (by omega) ?_
      simp only [tn0, tn1, tn2, tn3, tn4]
      refine st_iload_n (q := 27) dX12_mark_26 rfl rfl ?_
      refine iS2i (q := 30) dX12_mark_27 rfl ml_X12_313 ms_X12_isOf (Nat.le_of_ble_eq_true rfl) ?_
      refine c_X12_isOf ?_
      refine st_if_ne (q := 33) (tgt := 39) dX12_mark_30 (by decide) rfl (fun c30 => ?_) (fun c30 => ?_)
      · refine st_iload_n (q := 40) dX12_mark_39 rfl rfl ?_
        refine st_iconst (q := 41) dX12_mark_40 ⟨by decide, by decide⟩ rfl ?_
        refine st_icmp_eq (q := 44) (tgt := 49) dX12_mark_41 (by decide) rfl (fun c41 => ?_) (fun c41 => ?_)
        · refine st_aload_n (q := 50) dX12_mark_49 rfl rfl ?_
          refine st_iload_n (q := 51) dX12_mark_50 rfl rfl ?_
          refine st_iconst (q := 52) dX12_mark_51 ⟨by decide, by decide⟩ rfl ?_
          refine iV2i (q := 55) dX12_mark_52 rfl ml_X12_310 mv_X12_part (Nat.le_of_ble_eq_true rfl) (wfk w rfl) ?_
          refine c_X12_partI w nm qo (by omega) (by omega) ?_
          simp only [tn0, tn1, tn2, tn3, tn4]
          refine st_goto (q := 83) dX12_mark_55 (by decide) ?_
          refine rt_i dX12_mark_83 rfl ?_
          first | exact h1 (by omega) | exact h2 (by omega) (by omega) | (refine pq (h3 (by omega) (by omega)) ?_ rfl; (repeat' split) <;> first | omega | rfl)
        · refine st_iload_n (q := 45) dX12_mark_44 rfl rfl ?_
          refine st_iconst (q := 46) dX12_mark_45 ⟨by decide, by decide⟩ rfl ?_
          refine st_icmp_ne (q := 49) (tgt := 58) dX12_mark_46 (by decide) rfl (fun c46 => ?_) (fun c46 => ?_)
          · refine st_iload_n (q := 59) dX12_mark_58 rfl rfl ?_
            refine st_iconst (q := 60) dX12_mark_59 ⟨by decide, by decide⟩ rfl ?_
            refine st_icmp_ne (q := 63) (tgt := 77) dX12_mark_60 (by decide) rfl (fun c60 => ?_) (fun c60 => ?_)
            · refine st_aload_n (q := 78) dX12_mark_77 rfl rfl ?_
              refine st_iload_n (q := 79) dX12_mark_78 rfl rfl ?_
              refine st_iconst (q := 80) dX12_mark_79 ⟨by decide, by decide⟩ rfl ?_
              refine iV2i (q := 83) dX12_mark_80 rfl ml_X12_310 mv_X12_part (Nat.le_of_ble_eq_true rfl) (wfk w rfl) ?_
              refine c_X12_partI w nm qo (by omega) (by omega) ?_
              simp only [tn0, tn1, tn2, tn3, tn4]
              refine rt_i dX12_mark_83 rfl ?_
              first | exact h1 (by omega) | exact h2 (by omega) (by omega) | (refine pq (h3 (by omega) (by omega)) ?_ rfl; (repeat' split) <;> first | omega | rfl)
            · refine st_aload_n (q := 64) dX12_mark_63 rfl rfl ?_
              refine st_getR (q := 67) 12 41 dX12_mark_64 fl_X12_105 (by decide) (by decide) rfl rfl (wfk w rfl) (wfR w rfl) ?_
              refine st_aload_n (q := 68) dX12_mark_67 rfl rfl ?_
              refine st_iload_n (q := 69) dX12_mark_68 rfl rfl ?_
              refine st_iconst (q := 70) dX12_mark_69 ⟨by decide, by decide⟩ rfl ?_
              refine iV2i (q := 73) dX12_mark_70 rfl ml_X12_310 mv_X12_part (Nat.le_of_ble_eq_true rfl) (wfk w rfl) ?_
              refine c_X12_partI w nm qo (by omega) (by omega) ?_
              simp only [tn0, tn1, tn2, tn3, tn4]
              have qm := qo.2 m.toNat (by omega)
              refine st_iaload (q := 74) dX12_mark_73 rfl (wfk w rfl) (wfb w (n := 8) rfl ⟨by omega, by omega⟩) ?_
              refine st_goto (q := 83) dX12_mark_74 (by decide) ?_
              refine rt_i dX12_mark_83 rfl ?_
              first | exact h1 (by omega) | exact h2 (by omega) (by omega) | (refine pq (h3 (by omega) (by omega)) ?_ rfl; (repeat' split) <;> first | omega | rfl)
          · refine st_aload_n (q := 50) dX12_mark_49 rfl rfl ?_
            refine st_iload_n (q := 51) dX12_mark_50 rfl rfl ?_
            refine st_iconst (q := 52) dX12_mark_51 ⟨by decide, by decide⟩ rfl ?_
            refine iV2i (q := 55) dX12_mark_52 rfl ml_X12_310 mv_X12_part (Nat.le_of_ble_eq_true rfl) (wfk w rfl) ?_
            refine c_X12_partI w nm qo (by omega) (by omega) ?_
            simp only [tn0, tn1, tn2, tn3, tn4]
            refine st_goto (q := 83) dX12_mark_55 (by decide) ?_
            refine rt_i dX12_mark_83 rfl ?_
            first | exact h1 (by omega) | exact h2 (by omega) (by omega) | (refine pq (h3 (by omega) (by omega)) ?_ rfl; (repeat' split) <;> first | omega | rfl)
      · refine st_aload_n (q := 34) dX12_mark_33 rfl rfl ?_
        refine st_iconst (q := 35) dX12_mark_34 ⟨by decide, by decide⟩ rfl ?_
        refine iV1i (q := 38) dX12_mark_35 rfl ml_X12_138 mv_X12_meets (Nat.le_of_ble_eq_true rfl) (wfk w rfl) ?_
        refine c_X12_meets w (by decide) ?_
        refine rt_i dX12_mark_38 rfl ?_
        first | exact h1 (by omega) | exact h2 (by omega) (by omega) | (refine pq (h3 (by omega) (by omega)) ?_ rfl; (repeat' split) <;> first | omega | rfl)
    · refine st_iconst (q := 19) dX12_mark_18 ⟨by decide, by decide⟩ rfl ?_
      refine rt_i dX12_mark_19 rfl ?_
      first | exact h1 (by omega) | exact h2 (by omega) (by omega) | (refine pq (h3 (by omega) (by omega)) ?_ rfl; (repeat' split) <;> first | omega | rfl)
def brB (q : MO) (k a t : Int) (m : Nat) : Prop := (q.2 m 0 = 1 ∨ q.2 m 0 = 3 ∨ q.2 m 0 = 4) ∧ (q.2 m 2 = k ∨ (q.2 m 0 = 4 ∧ q.2 m 4 = k)) ∧ a ≤ q.2 m 1 ∧ q.2 m 1 < a + t
def brF (q : MO) (k a t : Int) : Nat → Nat × Int
  | 0 => (0, -9)
  | m + 1 => if (q.2 m 0 = 1 ∨ q.2 m 0 = 3 ∨ q.2 m 0 = 4) ∧ (q.2 m 2 = k ∨ (q.2 m 0 = 4 ∧ q.2 m 4 = k)) ∧ a ≤ q.2 m 1 ∧ q.2 m 1 < a + t then ((brF q k a t m).1 + 1, if (brF q k a t m).1 = 0 then (m : Int) else (brF q k a t m).2) else brF q k a t m
theorem brF_le (q : MO) (k a t : Int) : ∀ m, (brF q k a t m).1 ≤ m
  | 0 => Nat.le_refl _
  | m + 1 => by
    have := brF_le q k a t m
    unfold brF
    split
    · show (brF q k a t m).1 + 1 ≤ m + 1; omega
    · omega
theorem lp_X12_broken {d : Nat} {h : JH} {P : Int → JH → Prop} {q : MO} {k a t : Int} (w : WF h) (nm : NM h q) (qo : qOk q) (ha : 0 ≤ a ∧ a ≤ 32000) (ht : 0 ≤ t ∧ t ≤ 32000) (hP : P (brF q k a t q.1).1 (sI h 117 2 (brF q k a t q.1).2)) (m : Nat) (hm : m ≤ q.1) : ∀ (j7 : JV), JAt k0 (d + 1) jX12_broken 41 [vr 117, vi k, vi a, vi t, vi (brF q k a t m).1, vi (brF q k a t m).2, vi m, j7] [] h (jqi P) := by
  intro j7
  have n1 := nm.1
  have q1 := qo.1
  have s1 := brF_le q k a t m
  have e0 : brF q k a t (m + 1) = if (q.2 m 0 = 1 ∨ q.2 m 0 = 3 ∨ q.2 m 0 = 4) ∧ (q.2 m 2 = k ∨ (q.2 m 0 = 4 ∧ q.2 m 4 = k)) ∧ a ≤ q.2 m 1 ∧ q.2 m 1 < a + t then ((brF q k a t m).1 + 1, if (brF q k a t m).1 = 0 then (m : Int) else (brF q k a t m).2) else brF q k a t m := rfl
  refine st_iload (q := 43) dX12_broken_41 rfl rfl ?_
  refine st_aload_n (q := 44) dX12_broken_43 rfl rfl ?_
  refine st_getI (q := 47) 12 47 dX12_broken_44 fl_X12_304 (by decide) (by decide) rfl rfl (wfk w rfl) ?_
  refine st_icmp_ge (q := 50) (tgt := 151) dX12_broken_47 (by decide) rfl (fun c47 => ?_) (fun c47 => ?_)
  · refine st_aload_n (q := 152) dX12_broken_151 rfl rfl ?_
    refine st_iload (q := 154) dX12_broken_152 rfl rfl ?_
    refine st_iload (q := 156) dX12_broken_154 rfl rfl ?_
    refine iV2i (q := 159) dX12_broken_156 rfl ml_X12_152 mv_X12_ask (Nat.le_of_ble_eq_true rfl) (wfk w rfl) ?_
    refine c_X12_ask w ?_
    refine rt_i dX12_broken_159 rfl ?_
    have e : m = q.1 := by omega
    subst e
    exact hP
  · refine st_aload_n (q := 51) dX12_broken_50 rfl rfl ?_
    refine st_iload (q := 53) dX12_broken_51 rfl rfl ?_
    refine st_iconst (q := 54) dX12_broken_53 ⟨by decide, by decide⟩ rfl ?_
    refine iV2i (q := 57) dX12_broken_54 rfl ml_X12_310 mv_X12_part (Nat.le_of_ble_eq_true rfl) (wfk w rfl) ?_
    refine c_X12_part w nm qo (by omega) (by omega) ?_
    simp only [tn0, tn1, tn2, tn3, tn4]
    refine st_iconst (q := 58) dX12_broken_57 ⟨by decide, by decide⟩ rfl ?_
    refine iS2i (q := 61) dX12_broken_58 rfl ml_X12_313 ms_X12_isOf (Nat.le_of_ble_eq_true rfl) ?_
    refine c_X12_isOf ?_
    apply j_mg 102
    · intro K1 K2
      refine st_if_eq (q := 64) (tgt := 101) dX12_broken_61 (by decide) rfl (fun c61 => ?_) (fun c61 => ?_)
      · refine st_iconst (q := 102) dX12_broken_101 ⟨by decide, by decide⟩ rfl ?_
        exact K1 c61
      · refine st_aload_n (q := 65) dX12_broken_64 rfl rfl ?_
        refine st_iload (q := 67) dX12_broken_65 rfl rfl ?_
        refine st_iconst (q := 68) dX12_broken_67 ⟨by decide, by decide⟩ rfl ?_
        refine iV2i (q := 71) dX12_broken_68 rfl ml_X12_310 mv_X12_part (Nat.le_of_ble_eq_true rfl) (wfk w rfl) ?_
        refine c_X12_part w nm qo (by omega) (by omega) ?_
        simp only [tn0, tn1, tn2, tn3, tn4]
        refine st_iload_n (q := 72) dX12_broken_71 rfl rfl ?_
        apply j_mg 102
        · intro K3 K4
          refine st_icmp_eq (q := 75) (tgt := 97) dX12_broken_72 (by decide) rfl (fun c72 => ?_) (fun c72 => ?_)
          · refine st_iconst (q := 98) dX12_broken_97 ⟨by decide, by decide⟩ rfl ?_
            refine st_goto (q := 102) dX12_broken_98 (by decide) ?_
            exact K3 c72
          · refine st_aload_n (q := 76) dX12_broken_75 rfl rfl ?_
            refine st_iload (q := 78) dX12_broken_76 rfl rfl ?_
            refine st_iconst (q := 79) dX12_broken_78 ⟨by decide, by decide⟩ rfl ?_
            refine iV2i (q := 82) dX12_broken_79 rfl ml_X12_310 mv_X12_part (Nat.le_of_ble_eq_true rfl) (wfk w rfl) ?_
            refine c_X12_part w nm qo (by omega) (by omega) ?_
            simp only [tn0, tn1, tn2, tn3, tn4]
            refine st_iconst (q := 83) dX12_broken_82 ⟨by decide, by decide⟩ rfl ?_
            apply j_mg 102
            · intro K5 K6
              refine st_icmp_ne (q := 86) (tgt := 101) dX12_broken_83 (by decide) rfl (fun c83 => ?_) (fun c83 => ?_)
              · refine st_iconst (q := 102) dX12_broken_101 ⟨by decide, by decide⟩ rfl ?_
                exact K6 c83
              · refine st_aload_n (q := 87) dX12_broken_86 rfl rfl ?_
                refine st_iload (q := 89) dX12_broken_87 rfl rfl ?_
                refine st_iconst (q := 90) dX12_broken_89 ⟨by decide, by decide⟩ rfl ?_
                refine iV2i (q := 93) dX12_broken_90 rfl ml_X12_310 mv_X12_part (Nat.le_of_ble_eq_true rfl) (wfk w rfl) ?_
                refine c_X12_part w nm qo (by omega) (by omega) ?_
                simp only [tn0, tn1, tn2, tn3, tn4]
                refine st_iload_n (q := 94) dX12_broken_93 rfl rfl ?_
                apply j_mg 102
                · intro K7 K8
                  refine st_icmp_ne (q := 97) (tgt := 101) dX12_broken_94 (by decide) rfl (fun c94 => ?_) (fun c94 => ?_)
                  · refine st_iconst (q := 102) dX12_broken_101 ⟨by decide, by decide⟩ rfl ?_
                    exact K8 c94
                  · refine st_iconst (q := 98) dX12_broken_97 ⟨by decide, by decide⟩ rfl ?_
                    refine st_goto (q := 102) dX12_broken_98 (by decide) ?_
                    exact K7 c94
                · simp only [jif_if]
                  exact K5 c83
            · simp only [jif_if]
              exact K4 c72
        · simp only [jif_if]
          exact K2 c61
    · simp only [jif_if]
      refine j_top (if (q.2 m 0 = 1 ∨ q.2 m 0 = 3 ∨ q.2 m 0 = 4) ∧ (q.2 m 2 = k ∨ (q.2 m 0 = 4 ∧ q.2 m 4 = k)) then 1 else 0) (by (repeat' split) <;> first | omega | (simp_all; done) | (simp_all <;> omega)) ?_
      refine st_istore (q := 104) dX12_broken_102 (by decide) rfl ?_
      refine st_iload (q := 106) dX12_broken_104 rfl rfl ?_
      refine st_if_eq (q := 109) (tgt := 145) dX12_broken_106 (by decide) rfl (fun c106 => ?_) (fun c106 => ?_)
      · first | refine n_iinc (q := 148) dX12_broken_145 rfl (by decide) rfl ⟨by omega, by omega⟩ ?_ | refine st_iinc (q := 148) dX12_broken_145 rfl (by decide) rfl ?_
        refine st_goto (q := 41) dX12_broken_148 (by decide) ?_
        first | (rw [if_pos (by omega)] at e0; have := lp_X12_broken (d := d) w nm qo ha ht hP (m + 1) (by omega) (vi (if (q.2 m 0 = 1 ∨ q.2 m 0 = 3 ∨ q.2 m 0 = 4) ∧ (q.2 m 2 = k ∨ (q.2 m 0 = 4 ∧ q.2 m 4 = k)) then 1 else 0)); rw [e0] at this; exact this) | (rw [if_neg (by omega)] at e0; have := lp_X12_broken (d := d) w nm qo ha ht hP (m + 1) (by omega) (vi (if (q.2 m 0 = 1 ∨ q.2 m 0 = 3 ∨ q.2 m 0 = 4) ∧ (q.2 m 2 = k ∨ (q.2 m 0 = 4 ∧ q.2 m 4 = k)) then 1 else 0)); rw [e0] at this; exact this)
      · refine st_aload_n (q := 110) dX12_broken_109 rfl rfl ?_
        refine st_iload (q := 112) dX12_broken_110 rfl rfl ?_
        refine st_iconst (q := 113) dX12_broken_112 ⟨by decide, by decide⟩ rfl ?_
        refine iV2i (q := 116) dX12_broken_113 rfl ml_X12_310 mv_X12_part (Nat.le_of_ble_eq_true rfl) (wfk w rfl) ?_
        refine c_X12_part w nm qo (by omega) (by omega) ?_
        simp only [tn0, tn1, tn2, tn3, tn4]
        refine st_iload_n (q := 117) dX12_broken_116 rfl rfl ?_
        refine st_iload_n (q := 118) dX12_broken_117 rfl rfl ?_
        refine st_iload_n (q := 119) dX12_broken_118 rfl rfl ?_
        first | refine n_iadd (q := 120) dX12_broken_119 rfl ⟨by omega, by omega⟩ ?_ | refine st_iadd (q := 120) dX12_broken_119 rfl ?_
        refine st_iconst (q := 121) dX12_broken_120 ⟨by decide, by decide⟩ rfl ?_
        first | refine n_isub (q := 122) dX12_broken_121 rfl ⟨by omega, by omega⟩ ?_ | refine st_isub (q := 122) dX12_broken_121 rfl ?_
        refine iS3i (q := 125) dX12_broken_122 rfl ml_X12_130 ms_X12_in (Nat.le_of_ble_eq_true rfl) ?_
        refine c_X12_in ?_
        refine st_if_eq (q := 128) (tgt := 145) dX12_broken_125 (by decide) rfl (fun c125 => ?_) (fun c125 => ?_)
        · first | refine n_iinc (q := 148) dX12_broken_145 rfl (by decide) rfl ⟨by omega, by omega⟩ ?_ | refine st_iinc (q := 148) dX12_broken_145 rfl (by decide) rfl ?_
          refine st_goto (q := 41) dX12_broken_148 (by decide) ?_
          first | (rw [if_pos (by omega)] at e0; have := lp_X12_broken (d := d) w nm qo ha ht hP (m + 1) (by omega) (vi (if (q.2 m 0 = 1 ∨ q.2 m 0 = 3 ∨ q.2 m 0 = 4) ∧ (q.2 m 2 = k ∨ (q.2 m 0 = 4 ∧ q.2 m 4 = k)) then 1 else 0)); rw [e0] at this; exact this) | (rw [if_neg (by omega)] at e0; have := lp_X12_broken (d := d) w nm qo ha ht hP (m + 1) (by omega) (vi (if (q.2 m 0 = 1 ∨ q.2 m 0 = 3 ∨ q.2 m 0 = 4) ∧ (q.2 m 2 = k ∨ (q.2 m 0 = 4 ∧ q.2 m 4 = k)) then 1 else 0)); rw [e0] at this; exact this)
        · refine st_iload (q := 130) dX12_broken_128 rfl rfl ?_
          apply j_mg 140
          · intro K9 K10
            refine st_if_ne (q := 133) (tgt := 138) dX12_broken_130 (by decide) rfl (fun c130 => ?_) (fun c130 => ?_)
            · refine st_iload (q := 140) dX12_broken_138 rfl rfl ?_
              exact K10 c130
            · refine st_iload (q := 135) dX12_broken_133 rfl rfl ?_
              refine st_goto (q := 140) dX12_broken_135 (by decide) ?_
              exact K9 c130
          · simp only [jif_if]
            refine j_top (if (brF q k a t m).1 = 0 then (m : Int) else (brF q k a t m).2) (by (repeat' split) <;> omega) ?_
            refine st_istore (q := 142) dX12_broken_140 (by decide) rfl ?_
            first | refine n_iinc (q := 145) dX12_broken_142 rfl (by decide) rfl ⟨by omega, by omega⟩ ?_ | refine st_iinc (q := 145) dX12_broken_142 rfl (by decide) rfl ?_
            first | refine n_iinc (q := 148) dX12_broken_145 rfl (by decide) rfl ⟨by omega, by omega⟩ ?_ | refine st_iinc (q := 148) dX12_broken_145 rfl (by decide) rfl ?_
            refine st_goto (q := 41) dX12_broken_148 (by decide) ?_
            first | (rw [if_pos (by omega)] at e0; have := lp_X12_broken (d := d) w nm qo ha ht hP (m + 1) (by omega) (vi (if (q.2 m 0 = 1 ∨ q.2 m 0 = 3 ∨ q.2 m 0 = 4) ∧ (q.2 m 2 = k ∨ (q.2 m 0 = 4 ∧ q.2 m 4 = k)) then 1 else 0)); rw [e0] at this; exact this) | (rw [if_neg (by omega)] at e0; have := lp_X12_broken (d := d) w nm qo ha ht hP (m + 1) (by omega) (vi (if (q.2 m 0 = 1 ∨ q.2 m 0 = 3 ∨ q.2 m 0 = 4) ∧ (q.2 m 2 = k ∨ (q.2 m 0 = 4 ∧ q.2 m 4 = k)) then 1 else 0)); rw [e0] at this; exact this)
termination_by q.1 - m
theorem c_X12_broken {d : Nat} {h : JH} {P : Int → JH → Prop} {q : MO} {k a t : Int} (w : WF h) (nm : NM h q) (qo : qOk q) (h1 : ¬ ((0 ≤ k ∧ k ≤ 7) ∧ (0 ≤ a ∧ a ≤ 32000) ∧ (0 ≤ t ∧ t ≤ 32000)) → P (-1) h) (h2 : (0 ≤ k ∧ k ≤ 7) ∧ (0 ≤ a ∧ a ≤ 32000) ∧ (0 ≤ t ∧ t ≤ 32000) → P (brF q k a t q.1).1 (sI h 117 2 (brF q k a t q.1).2)) : JRi (d + 2) jX12_broken [vr 117, vi k, vi a, vi t] h P := by
  refine JRet.of rfl (Nat.le_of_ble_eq_true rfl) ?_
  refine st_iload_n (q := 1) dX12_broken_0 rfl rfl ?_
  refine iS1i (q := 4) dX12_broken_1 rfl ml_X12_161 ms_X12_isHide (Nat.le_of_ble_eq_true rfl) ?_
  refine c_X12_isHide ?_
  refine st_if_eq (q := 7) (tgt := 29) dX12_broken_4 (by decide) rfl (fun c4 => ?_) (fun c4 => ?_)
  · refine st_iconst (q := 30) dX12_broken_29 ⟨by decide, by decide⟩ rfl ?_
    refine rt_i dX12_broken_30 rfl ?_
    exact h1 (by omega)
  · refine st_iload_n (q := 8) dX12_broken_7 rfl rfl ?_
    refine st_iconst (q := 9) dX12_broken_8 ⟨by decide, by decide⟩ rfl ?_
    refine st_sipush (q := 12) dX12_broken_9 ⟨by decide, by decide⟩ rfl ?_
    refine iS3i (q := 15) dX12_broken_12 rfl ml_X12_130 ms_X12_in (Nat.le_of_ble_eq_true rfl) ?_
    refine c_X12_in ?_
    refine st_if_eq (q := 18) (tgt := 29) dX12_broken_15 (by decide) rfl (fun c15 => ?_) (fun c15 => ?_)
    · refine st_iconst (q := 30) dX12_broken_29 ⟨by decide, by decide⟩ rfl ?_
      refine rt_i dX12_broken_30 rfl ?_
      exact h1 (by omega)
    · refine st_iload_n (q := 19) dX12_broken_18 rfl rfl ?_
      refine st_iconst (q := 20) dX12_broken_19 ⟨by decide, by decide⟩ rfl ?_
      refine st_sipush (q := 23) dX12_broken_20 ⟨by decide, by decide⟩ rfl ?_
      refine iS3i (q := 26) dX12_broken_23 rfl ml_X12_130 ms_X12_in (Nat.le_of_ble_eq_true rfl) ?_
      refine c_X12_in ?_
      refine st_if_ne (q := 29) (tgt := 31) dX12_broken_26 (by decide) rfl (fun c26 => ?_) (fun c26 => ?_)
      · refine st_iconst (q := 32) dX12_broken_31 ⟨by decide, by decide⟩ rfl ?_
        refine st_istore (q := 34) dX12_broken_32 (by decide) rfl ?_
        refine st_bipush (q := 36) dX12_broken_34 ⟨by decide, by decide⟩ rfl ?_
        refine st_istore (q := 38) dX12_broken_36 (by decide) rfl ?_
        refine st_iconst (q := 39) dX12_broken_38 ⟨by decide, by decide⟩ rfl ?_
        refine st_istore (q := 41) dX12_broken_39 (by decide) rfl ?_
        exact lp_X12_broken w nm qo (by omega) (by omega) (h2 (by omega)) 0 (by omega) vn
      · refine st_iconst (q := 30) dX12_broken_29 ⟨by decide, by decide⟩ rfl ?_
        refine rt_i dX12_broken_30 rfl ?_
        exact h1 (by omega)
def ahB (q : MO) (m e : Nat) : Prop := q.2 m 1 < q.2 e 1 ∨ (q.2 m 1 = q.2 e 1 ∧ m < e)
theorem c_X12_isAhead {d : Nat} {h : JH} {P : Int → JH → Prop} {q : MO} {m e : Nat} (w : WF h) (nm : NM h q) (qo : qOk q) (hm : m < q.1) (he : e < q.1) (h1 : ahB q m e → P 1 h) (h2 : ¬ ahB q m e → P 0 h) : JRi (d + 1) jX12_isAhead [vr 117, vi m, vi e] h P := by
  unfold ahB at h1 h2
  refine JRet.of rfl (Nat.le_of_ble_eq_true rfl) ?_
  refine st_aload_n (q := 1) dX12_isAhead_0 rfl rfl ?_
  refine st_iload_n (q := 2) dX12_isAhead_1 rfl rfl ?_
  refine st_iconst (q := 3) dX12_isAhead_2 ⟨by decide, by decide⟩ rfl ?_
  refine iV2i (q := 6) dX12_isAhead_3 rfl ml_X12_310 mv_X12_part (Nat.le_of_ble_eq_true rfl) (wfk w rfl) ?_
  refine c_X12_part w nm qo (by omega) (by omega) ?_
  simp only [tn0, tn1, tn2, tn3, tn4]
  refine st_aload_n (q := 7) dX12_isAhead_6 rfl rfl ?_
  refine st_iload_n (q := 8) dX12_isAhead_7 rfl rfl ?_
  refine st_iconst (q := 9) dX12_isAhead_8 ⟨by decide, by decide⟩ rfl ?_
  refine iV2i (q := 12) dX12_isAhead_9 rfl ml_X12_310 mv_X12_part (Nat.le_of_ble_eq_true rfl) (wfk w rfl) ?_
  refine c_X12_part w nm qo (by omega) (by omega) ?_
  simp only [tn0, tn1, tn2, tn3, tn4]
  refine st_icmp_lt (q := 15) (tgt := 35) dX12_isAhead_12 (by decide) rfl (fun c12 => ?_) (fun c12 => ?_)
  · refine st_iconst (q := 36) dX12_isAhead_35 ⟨by decide, by decide⟩ rfl ?_
    refine st_goto (q := 40) dX12_isAhead_36 (by decide) ?_
    refine rt_z dX12_isAhead_40 rfl (by (repeat' split) <;> omega) ?_
    first | exact h1 (by omega) | exact h2 (by omega)
  · refine st_aload_n (q := 16) dX12_isAhead_15 rfl rfl ?_
    refine st_iload_n (q := 17) dX12_isAhead_16 rfl rfl ?_
    refine st_iconst (q := 18) dX12_isAhead_17 ⟨by decide, by decide⟩ rfl ?_
    refine iV2i (q := 21) dX12_isAhead_18 rfl ml_X12_310 mv_X12_part (Nat.le_of_ble_eq_true rfl) (wfk w rfl) ?_
    refine c_X12_part w nm qo (by omega) (by omega) ?_
    simp only [tn0, tn1, tn2, tn3, tn4]
    refine st_aload_n (q := 22) dX12_isAhead_21 rfl rfl ?_
    refine st_iload_n (q := 23) dX12_isAhead_22 rfl rfl ?_
    refine st_iconst (q := 24) dX12_isAhead_23 ⟨by decide, by decide⟩ rfl ?_
    refine iV2i (q := 27) dX12_isAhead_24 rfl ml_X12_310 mv_X12_part (Nat.le_of_ble_eq_true rfl) (wfk w rfl) ?_
    refine c_X12_part w nm qo (by omega) (by omega) ?_
    simp only [tn0, tn1, tn2, tn3, tn4]
    refine st_icmp_ne (q := 30) (tgt := 39) dX12_isAhead_27 (by decide) rfl (fun c27 => ?_) (fun c27 => ?_)
    · refine st_iconst (q := 40) dX12_isAhead_39 ⟨by decide, by decide⟩ rfl ?_
      refine rt_z dX12_isAhead_40 rfl (by (repeat' split) <;> omega) ?_
      first | exact h1 (by omega) | exact h2 (by omega)
    · refine st_iload_n (q := 31) dX12_isAhead_30 rfl rfl ?_
      refine st_iload_n (q := 32) dX12_isAhead_31 rfl rfl ?_
      refine st_icmp_ge (q := 35) (tgt := 39) dX12_isAhead_32 (by decide) rfl (fun c32 => ?_) (fun c32 => ?_)
      · refine st_iconst (q := 40) dX12_isAhead_39 ⟨by decide, by decide⟩ rfl ?_
        refine rt_z dX12_isAhead_40 rfl (by (repeat' split) <;> omega) ?_
        first | exact h1 (by omega) | exact h2 (by omega)
      · refine st_iconst (q := 36) dX12_isAhead_35 ⟨by decide, by decide⟩ rfl ?_
        refine st_goto (q := 40) dX12_isAhead_36 (by decide) ?_
        refine rt_z dX12_isAhead_40 rfl (by (repeat' split) <;> omega) ?_
        first | exact h1 (by omega) | exact h2 (by omega)

