/-! the model: the nearest pair, cells that do not matter -/
theorem lp_X12_leastOf {d : Nat} {h : JH} {P : Int → JH → Prop} {u : HD} {R : Int × Int} (w0 : WF h) (m0 : HM h u) (o : uOk u) (hP : ∀ h', FrM h h' → hI h' 117 46 = R.2 → P R.1 h') (i j : Nat) (hi : i < 8) (hj : j ≤ 8) : ∀ (h' : JH) (st : Int × Int) (j4 : JV), FrM h h' → hI h' 117 46 = st.2 → lsR st → lsI u (7 - i) (i + 1) (lsJ u i (8 - j) j st) = R → JAt k0 (d + 3) jX12_leastOf 15 [vr 117, vi st.1, vi i, vi j, j4] [] h' (jqi P) := by
  intro h' st j4 f e46 r he
  have w := f.wf w0
  have m := m0.fr f
  have r2 := lsS_r (u := u) (i := i) (j := j) r
  have r1 := r
  unfold lsR at r1
  have mi : hI h' 126 ((i : Int)).toNat = (uO u i : Nat) := (m i hi).2.2
  have oi := (o i hi).2.2
  have eS0 : uO u i = 0 ∨ uO u j = 0 → lsS u i j st = st := fun z => by unfold lsS; rw [if_neg (fun t => by omega)]
  have eS1 : uO u i ≠ 0 → uO u j ≠ 0 → lsS u i j st = if (st.1 < 0 ∨ (apN (uO u i) (uO u j) : Int) < st.1) then ((apN (uO u i) (uO u j) : Int), ((10 * i + j : Nat) : Int)) else st := fun n1 n2 => by unfold lsS; simp only [n1, n2, true_and, ne_eq, not_false_eq_true]
  have q : j < 8 → hI h' 126 ((j : Int)).toNat = (uO u j : Nat) ∧ uO u j < 65536 := fun z => ⟨(m j z).2.2, (o j z).2.2⟩
  have eJ : j < 8 → lsI u (7 - i) (i + 1) (lsJ u i (8 - (j + 1)) (j + 1) (lsS u i j st)) = R := fun z => by
    rw [← he, show 8 - j = (8 - (j + 1)) + 1 by omega]
    rfl
  have eI : j = 8 → i + 1 < 8 → lsI u (7 - (i + 1)) (i + 1 + 1) (lsJ u (i + 1) (8 - (i + 1 + 1)) (i + 1 + 1) st) = R := fun z z2 => by
    rw [← he, z, show 7 - i = (7 - (i + 1)) + 1 by omega, show 8 - (i + 1 + 1) = 7 - (i + 1) by omega]
    rfl
  have eE : j = 8 → i + 1 = 8 → st = R := fun z z2 => by
    rw [← he, z, show 7 - i = 0 by omega]
    rfl
  refine st_iload_n (q := 16) dX12_leastOf_15 rfl rfl ?_
  refine st_bipush (q := 18) dX12_leastOf_16 ⟨by decide, by decide⟩ rfl ?_
  refine st_icmp_ge (q := 21) (tgt := 104) dX12_leastOf_18 (by decide) rfl (fun c18 => ?_) (fun c18 => ?_)
  · first | refine n_iinc (q := 107) dX12_leastOf_104 rfl (by decide) rfl ⟨by omega, by omega⟩ ?_ | refine st_iinc (q := 107) dX12_leastOf_104 rfl (by decide) rfl ?_
    refine st_goto (q := 5) dX12_leastOf_107 (by decide) ?_
    refine st_iload_n (q := 6) dX12_leastOf_5 rfl rfl ?_
    refine st_bipush (q := 8) dX12_leastOf_6 ⟨by decide, by decide⟩ rfl ?_
    refine st_icmp_ge (q := 11) (tgt := 110) dX12_leastOf_8 (by decide) rfl (fun c8 => ?_) (fun c8 => ?_)
    · refine st_iload_n (q := 111) dX12_leastOf_110 rfl rfl ?_
      refine rt_i dX12_leastOf_111 rfl ?_
      have e := eE (by omega) (by omega)
      subst e
      exact hP _ f e46
    · refine st_iload_n (q := 12) dX12_leastOf_11 rfl rfl ?_
      refine st_iconst (q := 13) dX12_leastOf_12 ⟨by decide, by decide⟩ rfl ?_
      first | refine n_iadd (q := 14) dX12_leastOf_13 rfl ⟨by omega, by omega⟩ ?_ | refine st_iadd (q := 14) dX12_leastOf_13 rfl ?_
      refine st_istore_n (q := 15) (i := 3) dX12_leastOf_14 rfl (by decide) rfl ?_
      first | exact lp_X12_leastOf w0 m0 o hP i (j + 1) hi (by omega) _ (lsS u i j st) _ (f.sI _ scM_46) (by rw [sI_s]) r2 (eJ (by omega)) | exact lp_X12_leastOf w0 m0 o hP (i + 1) (i + 1 + 1) (by omega) (by omega) _ st _ f e46 r (eI (by omega) (by omega)) | (have q2 := q (by omega); have eS := eS0 (by omega); have t := eJ (by omega); rw [eS] at t; exact lp_X12_leastOf w0 m0 o hP i (j + 1) hi (by omega) _ st _ f e46 r t)
  · refine st_aload_n (q := 22) dX12_leastOf_21 rfl rfl ?_
    refine st_iload_n (q := 23) dX12_leastOf_22 rfl rfl ?_
    refine iV1i (q := 26) dX12_leastOf_23 rfl ml_X12_164 mv_X12_isThere (Nat.le_of_ble_eq_true rfl) (wfk w rfl) ?_
    refine c_X12_isThere w (by omega) ?_
    refine st_if_eq (q := 29) (tgt := 98) dX12_leastOf_26 (by decide) rfl (fun c26 => ?_) (fun c26 => ?_)
    · first | refine n_iinc (q := 101) dX12_leastOf_98 rfl (by decide) rfl ⟨by omega, by omega⟩ ?_ | refine st_iinc (q := 101) dX12_leastOf_98 rfl (by decide) rfl ?_
      refine st_goto (q := 15) dX12_leastOf_101 (by decide) ?_
      first | exact lp_X12_leastOf w0 m0 o hP i (j + 1) hi (by omega) _ (lsS u i j st) _ (f.sI _ scM_46) (by rw [sI_s]) r2 (eJ (by omega)) | exact lp_X12_leastOf w0 m0 o hP (i + 1) (i + 1 + 1) (by omega) (by omega) _ st _ f e46 r (eI (by omega) (by omega)) | (have q2 := q (by omega); have eS := eS0 (by omega); have t := eJ (by omega); rw [eS] at t; exact lp_X12_leastOf w0 m0 o hP i (j + 1) hi (by omega) _ st _ f e46 r t)
    · refine st_aload_n (q := 30) dX12_leastOf_29 rfl rfl ?_
      refine st_iload_n (q := 31) dX12_leastOf_30 rfl rfl ?_
      refine iV1i (q := 34) dX12_leastOf_31 rfl ml_X12_164 mv_X12_isThere (Nat.le_of_ble_eq_true rfl) (wfk w rfl) ?_
      refine c_X12_isThere w (by omega) ?_
      refine st_if_eq (q := 37) (tgt := 98) dX12_leastOf_34 (by decide) rfl (fun c34 => ?_) (fun c34 => ?_)
      · first | refine n_iinc (q := 101) dX12_leastOf_98 rfl (by decide) rfl ⟨by omega, by omega⟩ ?_ | refine st_iinc (q := 101) dX12_leastOf_98 rfl (by decide) rfl ?_
        refine st_goto (q := 15) dX12_leastOf_101 (by decide) ?_
        first | exact lp_X12_leastOf w0 m0 o hP i (j + 1) hi (by omega) _ (lsS u i j st) _ (f.sI _ scM_46) (by rw [sI_s]) r2 (eJ (by omega)) | exact lp_X12_leastOf w0 m0 o hP (i + 1) (i + 1 + 1) (by omega) (by omega) _ st _ f e46 r (eI (by omega) (by omega)) | (have q2 := q (by omega); have eS := eS0 (by omega); have t := eJ (by omega); rw [eS] at t; exact lp_X12_leastOf w0 m0 o hP i (j + 1) hi (by omega) _ st _ f e46 r t)
      · refine st_aload_n (q := 38) dX12_leastOf_37 rfl rfl ?_
        refine st_getR (q := 41) 12 12 dX12_leastOf_38 fl_X12_38 (by decide) (by decide) rfl rfl (wfk w rfl) (wfR w rfl) ?_
        refine st_iload_n (q := 42) dX12_leastOf_41 rfl rfl ?_
        refine st_iaload (q := 43) dX12_leastOf_42 rfl (wfk w rfl) (wfb w (n := 8) rfl ⟨by omega, by omega⟩) ?_
        refine st_aload_n (q := 44) dX12_leastOf_43 rfl rfl ?_
        refine st_getR (q := 47) 12 12 dX12_leastOf_44 fl_X12_38 (by decide) (by decide) rfl rfl (wfk w rfl) (wfR w rfl) ?_
        refine st_iload_n (q := 48) dX12_leastOf_47 rfl rfl ?_
        refine st_iaload (q := 49) dX12_leastOf_48 rfl (wfk w rfl) (wfb w (n := 8) rfl ⟨by omega, by omega⟩) ?_
        refine iS2i (q := 52) dX12_leastOf_49 rfl ml_X12_292 ms_X12_apartBy (Nat.le_of_ble_eq_true rfl) ?_
        rw [mi, (q (by omega)).1]
        refine c_X12_apartBy oi (q (by omega)).2 ?_
        refine st_istore (q := 54) dX12_leastOf_52 (by decide) rfl ?_
        refine st_aload_n (q := 55) dX12_leastOf_54 rfl rfl ?_
        refine st_iload_n (q := 56) dX12_leastOf_55 rfl rfl ?_
        apply j_mg 78
        · intro K1 K2
          refine st_if_lt (q := 59) (tgt := 65) dX12_leastOf_56 (by decide) rfl (fun c56 => ?_) (fun c56 => ?_)
          · refine st_bipush (q := 67) dX12_leastOf_65 ⟨by decide, by decide⟩ rfl ?_
            refine st_iload_n (q := 68) dX12_leastOf_67 rfl rfl ?_
            first | refine n_imul (q := 69) dX12_leastOf_68 rfl ⟨by omega, by omega⟩ ?_ | refine st_imul (q := 69) dX12_leastOf_68 rfl ?_
            refine st_iload_n (q := 70) dX12_leastOf_69 rfl rfl ?_
            first | refine n_iadd (q := 71) dX12_leastOf_70 rfl ⟨by omega, by omega⟩ ?_ | refine st_iadd (q := 71) dX12_leastOf_70 rfl ?_
            refine st_goto (q := 78) dX12_leastOf_71 (by decide) ?_
            exact K1 c56
          · refine st_iload (q := 61) dX12_leastOf_59 rfl rfl ?_
            refine st_iload_n (q := 62) dX12_leastOf_61 rfl rfl ?_
            apply j_mg 78
            · intro K3 K4
              refine st_icmp_ge (q := 65) (tgt := 74) dX12_leastOf_62 (by decide) rfl (fun c62 => ?_) (fun c62 => ?_)
              · refine st_aload_n (q := 75) dX12_leastOf_74 rfl rfl ?_
                refine st_getI (q := 78) 12 46 dX12_leastOf_75 fl_X12_295 (by decide) (by decide) rfl rfl (wfk w rfl) ?_
                exact K3 c62
              · refine st_bipush (q := 67) dX12_leastOf_65 ⟨by decide, by decide⟩ rfl ?_
                refine st_iload_n (q := 68) dX12_leastOf_67 rfl rfl ?_
                first | refine n_imul (q := 69) dX12_leastOf_68 rfl ⟨by omega, by omega⟩ ?_ | refine st_imul (q := 69) dX12_leastOf_68 rfl ?_
                refine st_iload_n (q := 70) dX12_leastOf_69 rfl rfl ?_
                first | refine n_iadd (q := 71) dX12_leastOf_70 rfl ⟨by omega, by omega⟩ ?_ | refine st_iadd (q := 71) dX12_leastOf_70 rfl ?_
                refine st_goto (q := 78) dX12_leastOf_71 (by decide) ?_
                exact K4 c62
            · simp only [jif_if]
              exact K2 c56
        · simp only [jif_if]
          have q2 := q (by omega)
          have eS := eS1 (by omega) (by omega)
          refine j_top (lsS u i j st).2 (by rw [eS, e46]; (repeat' split) <;> first | omega | rfl) ?_
          refine st_putI (q := 81) 12 46 dX12_leastOf_78 fl_X12_295 (by decide) (by decide) (Or.inl rfl) rfl (Or.inl rfl) (wfk w rfl) ?_
          refine st_iload_n (q := 82) dX12_leastOf_81 rfl rfl ?_
          apply j_mg 97
          · intro K5 K6
            refine st_if_lt (q := 85) (tgt := 91) dX12_leastOf_82 (by decide) rfl (fun c82 => ?_) (fun c82 => ?_)
            · refine st_iload (q := 93) dX12_leastOf_91 rfl rfl ?_
              refine st_goto (q := 97) dX12_leastOf_93 (by decide) ?_
              exact K5 c82
            · refine st_iload (q := 87) dX12_leastOf_85 rfl rfl ?_
              refine st_iload_n (q := 88) dX12_leastOf_87 rfl rfl ?_
              apply j_mg 97
              · intro K7 K8
                refine st_icmp_ge (q := 91) (tgt := 96) dX12_leastOf_88 (by decide) rfl (fun c88 => ?_) (fun c88 => ?_)
                · refine st_iload_n (q := 97) dX12_leastOf_96 rfl rfl ?_
                  exact K7 c88
                · refine st_iload (q := 93) dX12_leastOf_91 rfl rfl ?_
                  refine st_goto (q := 97) dX12_leastOf_93 (by decide) ?_
                  exact K8 c88
              · simp only [jif_if]
                exact K6 c82
          · simp only [jif_if]
            refine j_top (lsS u i j st).1 (by rw [eS]; (repeat' split) <;> first | omega | rfl) ?_
            refine st_istore_n (q := 98) (i := 1) dX12_leastOf_97 rfl (by decide) rfl ?_
            first | refine n_iinc (q := 101) dX12_leastOf_98 rfl (by decide) rfl ⟨by omega, by omega⟩ ?_ | refine st_iinc (q := 101) dX12_leastOf_98 rfl (by decide) rfl ?_
            refine st_goto (q := 15) dX12_leastOf_101 (by decide) ?_
            first | exact lp_X12_leastOf w0 m0 o hP i (j + 1) hi (by omega) _ (lsS u i j st) _ (f.sI _ scM_46) (by rw [sI_s]) r2 (eJ (by omega)) | exact lp_X12_leastOf w0 m0 o hP (i + 1) (i + 1 + 1) (by omega) (by omega) _ st _ f e46 r (eI (by omega) (by omega)) | (have q2 := q (by omega); have eS := eS0 (by omega); have t := eJ (by omega); rw [eS] at t; exact lp_X12_leastOf w0 m0 o hP i (j + 1) hi (by omega) _ st _ f e46 r t)
termination_by (8 - i) * 9 + (8 - j)
decreasing_by all_goals omega

