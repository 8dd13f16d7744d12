/-! the model: the nearest pair, cells that do not matter -/
theorem lp_X12_leastOf {d : Nat} {h : JH} {P : Int → JH → Prop} {u : HD} {R : Int × Int} (w0 : WF h) (m0 : HM h u) (o : uOk u) (hP : ∀ h', FrM h h' → hI h' 117 46 = R.2 → P R.1 h') (i j : Nat) (hi : i < 8) (hj : j ≤ 8) : ∀ (h' : JH) (st : Int × Int) (j4 : JV), FrM h h' → hI h' 117 46 = st.2 → lsR st → lsI u (7 - i) (i + 1) (lsJ u i (8 - j) j st) = R → JAt k0 (d + 3) jX12_leastOf 15 [vr 117, vi st.1, vi i, vi j, j4] [] h' (jqi P) := by
  intro h' st j4 f e46 r he
  have w := f.wf w0
  have m := m0.fr f
  have r2 := lsS_r (u := u) (i := i) (j := j) r
  have r1 := r
  unfold lsR at r1
  have mi : hI h' 126 ((i : Int)).toNat = (uO u i : Nat) := (m i hi).2.2
  have oi := (o i hi).2.2
  have eS0 : uO u i = 0 ∨ uO u j = 0 → lsS u i j st = st := fun z => by unfold lsS; rw [if_neg (fun t => by omega)]
  have eS1 : uO u i ≠ 0 → uO u j ≠ 0 → lsS u i j st = if (st.1 < 0 ∨ (apN (uO u i) (uO u j) : Int) < st.1) then ((apN (uO u i) (uO u j) : Int), ((10 * i + j : Nat) : Int)) else st := fun n1 n2 => by unfold lsS; simp only [n1, n2, true_and, ne_eq, not_false_eq_true]
  have q : j < 8 → hI h' 126 ((j : Int)).toNat = (uO u j : Nat) ∧ uO u j < 65536 := fun z => ⟨(m j z).2.2, (o j z).2.2⟩
  have eJ : j < 8 → lsI u (7 - i) (i + 1) (lsJ u i (8 - (j + 1)) (j + 1) (lsS u i j st)) = R := fun z => by
    rw [← he, show 8 - j = (8 - (j + 1)) + 1 by omega]
    rfl
  have eI : j = 8 → i + 1 < 8 → lsI u (7 - (i + 1)) (i + 1 + 1) (lsJ u (i + 1) (8 - (i + 1 + 1)) (i + 1 + 1) st) = R := fun z z2 => by
    rw [← he, z, show 7 - i = (7 - (i + 1)) + 1 by omega, show 8 - (i + 1 + 1) = 7 - (i + 1) by omega]
    rfl
  have eE : j = 8 → i + 1 = 8 → st = R := fun z z2 => by
    rw [← he, z, show 7 - i = 0 by omega]
    rfl
  refine st_iload_n (q := 16) dX12_leastOf_15 rfl rfl ?_
  refine st_bipush (q := 18) dX12_leastOf_16 ⟨by decide, by decide⟩ rfl ?_
  refine st_icmp_ge (q := 21) (tgt := 104) dX12_leastOf_18 (by decide) rfl (fun c18 => ?_) (fun c18 => ?_)
  · first | refine n_iinc (q := 107) dX12_leastOf_104 rfl (by decide) rfl ⟨by omega, by omega⟩ ?_ | refine st_iinc (q := 107) dX12_leastOf_104 rfl (by decide) rfl ?_
    refine st_goto (q := 5) dX12_leastOf_107 (by decide) ?_
    refine st_iload_n (q := 6) dX12_leastOf_5 rfl rfl ?_
    refine st_bipush (q := 8) dX12_leastOf_6 ⟨by decide, by decide⟩ rfl ?_
    refine st_icmp_ge (q := 11) (tgt := 110) dX12_leastOf_8 (by decide) rfl (fun c8 => ?_) (fun c8 => ?_)
    · refine st_iload_n (q := 111) dX12_leastOf_110 rfl rfl ?_
      refine rt_i dX12_leastOf_111 rfl ?_
      have e := eE (by omega) (by omega)
      subst e
      exact hP _ f e46
    · refine st_iload_n (q := 12) dX12_leastOf_11 rfl rfl ?_
      refine st_iconst (q := 13) dX12_leastOf_12 ⟨by decide, by decide⟩ rfl ?_
      first | refine n_iadd (q := 14) dX12_leastOf_13 rfl ⟨by omega, by omega⟩ ?_ | refine st_iadd (q := 14) dX12_leastOf_13 rfl ?_
      refine st_istore_n (q := 15) (i := 3) dX12_leastOf_14 rfl (by decide) rfl ?_
      first | exact lp_X12_leastOf w0 m0 o hP i (j + 1) hi (by omega) _ (lsS u i j st) _ (f.sI _ scM_46) (by rw [sI_s]) r2 (eJ (by omega)) | exact lp_X12_leastOf w0 m0 o hP (i + 1) (i + 1 + 1) (by omega) (by omega) _ st _ f e46 r (eI (by omega) (by omega)) | (have q2 := q (by omega); have eS := eS0 (by omega); have t := eJ (by omega); rw [eS] at t; exact lp_X12_leastOf w0 m0 o hP i (j + 1) hi (by omega) _ st _ f e46 r t)
  · refine st_aload_n (q := 22) dX12_leastOf_21 rfl rfl ?_
    refine st_iload_n (q := 23) dX12_leastOf_22 rfl rfl ?_
    refine iV1i (q := 26) dX12_leastOf_23 rfl ml_X12_164 mv_X12_isThere (Nat.le_of_ble_eq_true rfl) (wfk w rfl) ?_
    refine c_X12_isThere w (by omega) ?_
    refine st_if_eq (q := 29) (tgt := 98) dX12_leastOf_26 (by decide) rfl (fun c26 => ?_) (fun c26 => ?_)
    · first | refine n_iinc (q := 101) dX12_leastOf_98 rfl (by decide) rfl ⟨by omega, by omega⟩ ?_ | refine st_iinc (q := 101) dX12_leastOf_98 rfl (by decide) rfl ?_
      refine st_goto (q := 15) dX12_leastOf_101 (by decide) ?_
      first | exact lp_X12_leastOf w0 m0 o hP i (j + 1) hi (by omega) _ (lsS u i j st) _ (f.sI _ scM_46) (by rw [sI_s]) r2 (eJ (by omega)) | exact lp_X12_leastOf w0 m0 o hP (i + 1) (i + 1 + 1) (by omega) (by omega) _ st _ f e46 r (eI (by omega) (by omega)) | (have q2 := q (by omega); have eS := eS0 (by omega); have t := eJ (by omega); rw [eS] at t; exact lp_X12_leastOf w0 m0 o hP i (j + 1) hi (by omega) _ st _ f e46 r t)
    · refine st_aload_n (q := 30) dX12_leastOf_29 rfl rfl ?_
      refine st_iload_n (q := 31) dX12_leastOf_30 rfl rfl ?_
      refine iV1i (q := 34) dX12_leastOf_31 rfl ml_X12_164 mv_X12_isThere (Nat.le_of_ble_eq_true rfl) (wfk w rfl) ?_
      refine c_X12_isThere w (by omega) ?_
      refine st_if_eq (q := 37) (tgt := 98) dX12_leastOf_34 (by decide) rfl (fun c34 => ?_) (fun c34 => ?_)
      · first | refine n_iinc (q := 101) dX12_leastOf_98 rfl (by decide) rfl ⟨by omega, by omega⟩ ?_ | refine st_iinc (q := 101) dX12_leastOf_98 rfl (by decide) rfl ?_
        refine st_goto (q := 15) dX12_leastOf_101 (by decide) ?_
        first | exact lp_X12_leastOf w0 m0 o hP i (j + 1) hi (by omega) _ (lsS u i j st) _ (f.sI _ scM_46) (by rw [sI_s]) r2 (eJ (by omega)) | exact lp_X12_leastOf w0 m0 o hP (i + 1) (i + 1 + 1) (by omega) (by omega) _ st _ f e46 r (eI (by omega) (by omega)) | (have q2 := q (by omega); have eS := eS0 (by omega); have t := eJ (by omega); rw [eS] at t; exact lp_X12_leastOf w0 m0 o hP i (j + 1) hi (by omega) _ st _ f e46 r t)
      · refine st_aload_n (q := 38) dX12_leastOf_37 rfl rfl ?_
        refine st_getR (q := 41) 12 12 dX12_leastOf_38 fl_X12_38 (by decide) (by decide) rfl rfl (wfk w rfl) (wfR w rfl) ?_
        refine st_iload_n (q := 42) dX12_leastOf_41 rfl rfl ?_
        refine st_iaload (q := 43) dX12_leastOf_42 rfl (wfk w rfl) (wfb w (n := 8) rfl ⟨by omega, by omega⟩) ?_
        refine st_aload_n (q := 44) dX12_leastOf_43 rfl rfl ?_
        refine st_getR (q := 47) 12 12 dX12_leastOf_44 fl_X12_38 (by decide) (by decide) rfl rfl (wfk w rfl) (wfR w rfl) ?_
        refine st_iload_n (q := 48) dX12_leastOf_47 rfl rfl ?_
        refine st_iaload (q := 49) dX12_leastOf_48 rfl (wfk w rfl) (wfb w (n := 8) rfl ⟨by omega, by omega⟩) ?_
        refine iS2i (q := 52) dX12_leastOf_49 rfl ml_X12_292 ms_X12_apartBy (Nat.le_of_ble_eq_true rfl) ?_
        rw [mi, (q (by omega)).1]
        refine c_X12_apartBy oi (q (by omega)).2 ?_
        refine st_istore (q := 54) dX12_leastOf_52 (by decide) rfl ?_
        refine st_aload_n (q := 55) dX12_leastOf_54 rfl rfl ?_
        refine st_iload_n (q := 56) dX12_leastOf_55 rfl rfl ?_
        apply j_mg 78
        · intro K1 K2
          refine st_if_lt (q := 59) (tgt := 65) dX12_leastOf_56 (by decide) rfl (fun c56 => ?_) (fun c56 => ?_)
          · refine st_bipush (q := 67) dX12_leastOf_65 ⟨by decide, by decide⟩ rfl ?_
            refine st_iload_n (q := 68) dX12_leastOf_67 rfl rfl ?_
            first | refine n_imul (q := 69) dX12_leastOf_68 rfl ⟨by omega, by omega⟩ ?_ | refine st_imul (q := 69) dX12_leastOf_68 rfl ?_
            refine st_iload_n (q := 70) dX12_leastOf_69 rfl rfl ?_
            first | refine n_iadd (q := 71) dX12_leastOf_70 rfl ⟨by omega, by omega⟩ ?_ | refine st_iadd (q := 71) dX12_leastOf_70 rfl ?_
            refine st_goto (q := 78) dX12_leastOf_71 (by decide) ?_
            exact K1 c56
          · refine st_iload (q := 61) dX12_leastOf_59 rfl rfl ?_
            refine st_iload_n (q := 62) dX12_leastOf_61 rfl rfl ?_
            apply j_mg 78
            · intro K3 K4
              refine st_icmp_ge (q := 65) (tgt := 74) dX12_leastOf_62 (by decide) rfl (fun c62 => ?_) (fun c62 => ?_)
              · refine st_aload_n (q := 75) dX12_leastOf_74 rfl rfl ?_
                refine st_getI (q := 78) 12 46 dX12_leastOf_75 fl_X12_295 (by decide) (by decide) rfl rfl (wfk w rfl) ?_
                exact K3 c62
              · refine st_bipush (q := 67) dX12_leastOf_65 ⟨by decide, by decide⟩ rfl ?_
                refine st_iload_n (q := 68) dX12_leastOf_67 rfl rfl ?_
                first | refine n_imul (q := 69) dX12_leastOf_68 rfl ⟨by omega, by omega⟩ ?_ | refine st_imul (q := 69) dX12_leastOf_68 rfl ?_
                refine st_iload_n (q := 70) dX12_leastOf_69 rfl rfl ?_
                first | refine n_iadd (q := 71) dX12_leastOf_70 rfl ⟨by omega, by omega⟩ ?_ | refine st_iadd (q := 71) dX12_leastOf_70 rfl ?_
                refine st_goto (q := 78) dX12_leastOf_71 (by decide) ?_
                exact K4 c62
            · simp only [jif_if]
              exact K2 c56
        · simp only [jif_if]
          have q2 := q (by omega)
          have eS := eS1 (by omega) (by omega)
          refine j_top (lsS u i j st).2 (by rw [eS, e46]; (repeat' split) <;> first | omega | rfl) ?_
          refine st_putI (q := 81) 12 46 dX12_leastOf_78 fl_X12_295 (by decide) (by decide) (Or.inl rfl) rfl (Or.inl rfl) (wfk w rfl) ?_
          refine st_iload_n (q := 82) dX12_leastOf_81 rfl rfl ?_
          apply j_mg 97
          · intro K5 K6
            refine st_if_lt (q := 85) (tgt := 91) dX12_leastOf_82 (by decide) rfl (fun c82 => ?_) (fun c82 => ?_)
            · refine st_iload (q := 93) dX12_leastOf_91 rfl rfl ?_
              refine st_goto (q := 97) dX12_leastOf_93 (by decide) ?_
              exact K5 c82
            · refine st_iload (q := 87) dX12_leastOf_85 rfl rfl ?_
              refine st_iload_n (q := 88) dX12_leastOf_87 rfl rfl ?_
              apply j_mg 97
              · intro K7 K8
                refine st_icmp_ge (q := 91) (tgt := 96) dX12_leastOf_88 (by decide) rfl (fun c88 => ?_) (fun c88 => ?_)
                · refine st_iload_n (q := 97) dX12_leastOf_96 rfl rfl ?_
                  exact K7 c88
                · refine st_iload (q := 93) dX12_leastOf_91 rfl rfl ?_
                  refine st_goto (q := 97) dX12_leastOf_93 (by decide) ?_
                  exact K8 c88
              · simp only [jif_if]
                exact K6 c82
          · simp only [jif_if]
            refine j_top (lsS u i j st).1 (by rw [eS]; (repeat' split) <;> first | omega | rfl) ?_
            refine st_istore_n (q := 98) (i := 1) dX12_leastOf_97 rfl (by decide) rfl ?_
            first | refine n_iinc (q := 101) dX12_leastOf_98 rfl (by decide) rfl ⟨by omega, by omega⟩ ?_ | refine st_iinc (q := 101) dX12_leastOf_98 rfl (by decide) rfl ?_
            refine st_goto (q := 15) dX12_leastOf_101 (by decide) ?_
            first | exact lp_X12_leastOf w0 m0 o hP i (j + 1) hi (by omega) _ (lsS u i j st) _ (f.sI _ scM_46) (by rw [sI_s]) r2 (eJ (by omega)) | exact lp_X12_leastOf w0 m0 o hP (i + 1) (i + 1 + 1) (by omega) (by omega) _ st _ f e46 r (eI (by omega) (by omega)) | (have q2 := q (by omega); have eS := eS0 (by omega); have t := eJ (by omega); rw [eS] at t; exact lp_X12_leastOf w0 m0 o hP i (j + 1) hi (by omega) _ st _ f e46 r t)
termination_by (8 - i) * 9 + (8 - j)
decreasing_by all_goals omega
theorem c_X12_leastOf {d : Nat} {h : JH} {P : Int → JH → Prop} {u : HD} (w : WF h) (m : HM h u) (o : uOk u) (hP : ∀ h', FrM h h' → hI h' 117 46 = (lsN u (hI h 117 46)).2 → P (lsN u (hI h 117 46)).1 h') : JRi (d + 3) jX12_leastOf [vr 117] h P := by
  refine JRet.of rfl (Nat.le_of_ble_eq_true rfl) ?_
  refine st_bipush (q := 2) dX12_leastOf_0 ⟨by decide, by decide⟩ rfl ?_
  refine st_istore_n (q := 3) (i := 1) dX12_leastOf_2 rfl (by decide) rfl ?_
  refine st_iconst (q := 4) dX12_leastOf_3 ⟨by decide, by decide⟩ rfl ?_
  refine st_istore_n (q := 5) (i := 2) dX12_leastOf_4 rfl (by decide) rfl ?_
  refine st_iload_n (q := 6) dX12_leastOf_5 rfl rfl ?_
  refine st_bipush (q := 8) dX12_leastOf_6 ⟨by decide, by decide⟩ rfl ?_
  refine st_icmp_ge (q := 11) (tgt := 110) dX12_leastOf_8 (by decide) rfl (fun z => absurd z (by decide)) (fun _ => ?_)
  refine st_iload_n (q := 12) dX12_leastOf_11 rfl rfl ?_
  refine st_iconst (q := 13) dX12_leastOf_12 ⟨by decide, by decide⟩ rfl ?_
  first | refine n_iadd (q := 14) dX12_leastOf_13 rfl ⟨by omega, by omega⟩ ?_ | refine st_iadd (q := 14) dX12_leastOf_13 rfl ?_
  refine st_istore_n (q := 15) (i := 3) dX12_leastOf_14 rfl (by decide) rfl ?_
  exact lp_X12_leastOf w m o hP 0 1 (by omega) (by omega) _ (-9, hI h 117 46) _ Fr.rf rfl ⟨by show (-9 : Int) ≤ -9; decide, by show (-9 : Int) ≤ 16; decide⟩ rfl
theorem c_X12_leastApart {d : Nat} {h : JH} {P : Int → JH → Prop} {u : HD} (w : WF h) (m : HM h u) (o : uOk u) (h1 : (lsN u (hI h 117 46)).1 < 0 → ∀ h', FrM h h' → P (-9) h') (h2 : 0 ≤ (lsN u (hI h 117 46)).1 → ∀ h', FrM h h' → P (lsN u (hI h 117 46)).1 (sI h' 117 2 (lsN u (hI h 117 46)).2)) : JRi (d + 4) jX12_leastApart [vr 117] h P := by
  refine JRet.of rfl (Nat.le_of_ble_eq_true rfl) ?_
  refine st_aload_n (q := 1) dX12_leastApart_0 rfl rfl ?_
  refine iV0i (q := 4) dX12_leastApart_1 rfl ml_X12_298 mv_X12_leastOf (Nat.le_of_ble_eq_true rfl) (wfk w rfl) ?_
  refine c_X12_leastOf w m o (fun h' f e46 => ?_)
  have w2 := f.wf w
  refine st_istore_n (q := 5) (i := 1) dX12_leastApart_4 rfl (by decide) rfl ?_
  refine st_iload_n (q := 6) dX12_leastApart_5 rfl rfl ?_
  refine st_if_ge (q := 9) (tgt := 14) dX12_leastApart_6 (by decide) rfl (fun c6 => ?_) (fun c6 => ?_)
  · refine st_aload_n (q := 15) dX12_leastApart_14 rfl rfl ?_
    refine st_aload_n (q := 16) dX12_leastApart_15 rfl rfl ?_
    refine st_getI (q := 19) 12 46 dX12_leastApart_16 fl_X12_295 (by decide) (by decide) rfl rfl (wfk w2 rfl) ?_
    rw [e46]
    refine st_iload_n (q := 20) dX12_leastApart_19 rfl rfl ?_
    refine iV2i (q := 23) dX12_leastApart_20 rfl ml_X12_152 mv_X12_ask (Nat.le_of_ble_eq_true rfl) (wfk w2 rfl) ?_
    refine c_X12_ask w2 ?_
    refine rt_i dX12_leastApart_23 rfl ?_
    first | exact h1 (by omega) _ f | exact h2 (by omega) _ f
  · refine st_bipush (q := 11) dX12_leastApart_9 ⟨by decide, by decide⟩ rfl ?_
    refine st_goto (q := 23) dX12_leastApart_11 (by decide) ?_
    refine rt_i dX12_leastApart_23 rfl ?_
    first | exact h1 (by omega) _ f | exact h2 (by omega) _ f
/-- an outline is another one -/
def uSet (u : HD) (k x : Nat) : HD := fun j => if j = k then (uW u j, uH u j, x) else u j
theorem uSet_ok {u : HD} (o : uOk u) {k x : Nat} (hx : x < 65536) : uOk (uSet u k x) := fun j hj => by
  unfold uSet uW uH uO
  by_cases e : j = k
  · simp only [if_pos e]; exact ⟨(o j hj).1, (o j hj).2.1, hx⟩
  · simp only [if_neg e]; exact o j hj
theorem uSet_hm {h : JH} {u : HD} (m : HM h u) {k x : Nat} : HM (sI h 126 k x) (uSet u k x) := fun j hj => by
  have m2 := m j hj
  by_cases e : j = k
  · subst e
    have e1 : uSet u j x j = (uW u j, uH u j, x) := if_pos rfl
    unfold uW uH uO at *
    rw [e1]
    exact ⟨m2.1, m2.2.1, by rw [sI_s]⟩
  · have e1 : uSet u k x j = u j := if_neg e
    unfold uW uH uO at *
    rw [e1]
    exact ⟨m2.1, m2.2.1, by rw [sI_k _ e]; exact m2.2.2⟩
theorem lsS_1 {u : HD} {i j : Nat} {a b : Int × Int} (e : a.1 = b.1) : (lsS u i j a).1 = (lsS u i j b).1 := by
  unfold lsS
  rw [e]
  split
  · rfl
  · exact e
theorem lsJ_1 {u : HD} {i : Nat} : ∀ (m j : Nat) {a b : Int × Int}, a.1 = b.1 → (lsJ u i m j a).1 = (lsJ u i m j b).1
  | 0, _, _, _, e => e
  | m + 1, j, _, _, e => lsJ_1 m (j + 1) (lsS_1 e)
theorem lsI_1 {u : HD} : ∀ (m i : Nat) {a b : Int × Int}, a.1 = b.1 → (lsI u m i a).1 = (lsI u m i b).1
  | 0, _, _, _, e => e
  | m + 1, i, _, _, e => lsI_1 m (i + 1) (lsJ_1 _ _ e)
/-- how far the nearest two are apart (-9: fewer than two) -/
def lsV (u : HD) : Int := (lsN u 0).1
theorem lsN_1 (u : HD) (p : Int) : (lsN u p).1 = lsV u := lsI_1 8 0 rfl
theorem fr_re {Sc : Nat → Nat → Prop} {h h' : JH} {a k : Nat} {x : Int} (f : Fr Sc (sI h a k x) h') (z : Int) : Fr Sc (sI h a k z) (sI h' a k z) := ⟨f.1, f.2.1, fun b j q => by
  have := f.2.2 b j q
  rw [sI_I] at this
  rw [sI_I, sI_I]
  split
  · rfl
  · rename_i t; rw [if_neg t] at this; exact this⟩
theorem sI_id (h : JH) (a k : Nat) : sI h a k (hI h a k) = h := by
  unfold sI
  have : (fun b j => if b = a ∧ j = k then hI h a k else h.2.1 b j) = h.2.1 := by
    funext b j
    by_cases e : b = a ∧ j = k
    · rw [if_pos e, e.1, e.2]; rfl
    · rw [if_neg e]
  rw [this]
/-- cells that do not matter, of the first c -/
def maF (u : HD) (k : Nat) : Nat → Nat
  | 0 => 0
  | c + 1 => maF u k c ||| (if (uO u k).testBit c = true ∧ uO u k ≠ 2 ^ c ∧ lsV u ≤ lsV (uSet u k (nandn (uO u k) (2 ^ c))) then 2 ^ c else 0)
theorem maF_lt (u : HD) (k : Nat) : ∀ c, c ≤ 16 → maF u k c < 65536
  | 0, _ => by show 0 < 65536; decide
  | c + 1, h => by
    have h1 := maF_lt u k c (by omega)
    show maF u k c ||| (if (uO u k).testBit c = true ∧ uO u k ≠ 2 ^ c ∧ lsV u ≤ lsV (uSet u k (nandn (uO u k) (2 ^ c))) then 2 ^ c else 0) < 65536
    refine Nat.or_lt_two_pow (n := 16) h1 ?_
    split
    · exact Nat.pow_lt_pow_right (by omega) (by omega)
    · decide
theorem lp_X12_matters {d : Nat} {h : JH} {P : Int → JH → Prop} {u : HD} {k : Nat} (w0 : WF h) (m0 : HM h u) (o : uOk u) (hk : k < 8) (hP : ∀ h', FrM h h' → P (maF u k 16 : Nat) h') (c : Nat) (hc : c ≤ 16) : ∀ (h' : JH) (x : Int), FrM (sI h 126 k x) h' → JAt k0 (d + 4) jX12_matters 31 [vr 117, vi k, vi 0, vi (lsV u), vi (uO u k), vi (maF u k c : Nat), vi c] [] h' (jqi P) := by
  intro h' x f
  have w : WF h' := f.wf w0
  have ok := (o k hk).2.2
  have b1 := maF_lt u k c hc
  have mk := (m0 k hk).2.2
  have e0 : maF u k (c + 1) = maF u k c ||| (if (uO u k).testBit c = true ∧ uO u k ≠ 2 ^ c ∧ lsV u ≤ lsV (uSet u k (nandn (uO u k) (2 ^ c))) then 2 ^ c else 0) := rfl
  have p1 : c < 16 → 2 ^ c < 65536 := fun z => Nat.pow_lt_pow_right (by omega) z
  have sh1 : c < 16 → ishl 1 c = ((2 ^ c : Nat) : Int) := fun z => by
    have := ishl_n (a := 1) (k := c) (by omega) (by rw [Nat.one_mul]; have := p1 z; omega)
    rw [Nat.one_mul] at this
    exact this
  have nl := nandn_le (uO u k) (2 ^ c)
  refine st_iload (q := 33) dX12_matters_31 rfl rfl ?_
  refine st_bipush (q := 35) dX12_matters_33 ⟨by decide, by decide⟩ rfl ?_
  refine st_icmp_ge (q := 38) (tgt := 99) dX12_matters_35 (by decide) rfl (fun c35 => ?_) (fun c35 => ?_)
  · refine st_aload_n (q := 100) dX12_matters_99 rfl rfl ?_
    refine st_getR (q := 103) 12 12 dX12_matters_100 fl_X12_38 (by decide) (by decide) rfl rfl (wfk w rfl) (wfR w rfl) ?_
    refine st_iload_n (q := 104) dX12_matters_103 rfl rfl ?_
    refine st_iload (q := 106) dX12_matters_104 rfl rfl ?_
    refine st_iastore (q := 107) dX12_matters_106 rfl (wfk w rfl) (wfb w (n := 8) rfl ⟨by omega, by omega⟩) ?_
    refine st_iload (q := 109) dX12_matters_107 rfl rfl ?_
    refine rt_i dX12_matters_109 rfl ?_
    have f1 := fr_re f ((uO u k : Nat) : Int)
    rw [← mk, sI_id] at f1
    refine pq (hP _ f1) (by rw [show c = 16 by omega]) ?_
    rw [mk]
    rfl
  · refine st_iload (q := 40) dX12_matters_38 rfl rfl ?_
    refine st_iload (q := 42) dX12_matters_40 rfl rfl ?_
    refine iS2i (q := 45) dX12_matters_42 rfl ml_X12_174 ms_X12_has (Nat.le_of_ble_eq_true rfl) ?_
    refine c_X12_hasN (by omega) (by omega) ?_
    refine st_if_eq (q := 48) (tgt := 93) dX12_matters_45 (by decide) rfl (fun c45 => ?_) (fun c45 => ?_)
    · first | refine n_iinc (q := 96) dX12_matters_93 rfl (by decide) rfl ⟨by omega, by omega⟩ ?_ | refine st_iinc (q := 96) dX12_matters_93 rfl (by decide) rfl ?_
      refine st_goto (q := 31) dX12_matters_96 (by decide) ?_
      first | exact lp_X12_matters w0 m0 o hk hP (c + 1) (by omega) _ _ (f1.tr f2) | (rw [if_neg (fun t => by have t1 := t.1; have t2 := t.2.1; first | omega | (rw [tb0.mp c45] at t1; cases t1)), Nat.or_zero] at e0; have := lp_X12_matters (d := d) w0 m0 o hk hP (c + 1) (by omega) _ _ f; rw [e0] at this; exact this)
    · refine st_iload (q := 50) dX12_matters_48 rfl rfl ?_
      refine st_iconst (q := 51) dX12_matters_50 ⟨by decide, by decide⟩ rfl ?_
      refine st_iload (q := 53) dX12_matters_51 rfl rfl ?_
      refine st_ishl (q := 54) dX12_matters_53 rfl ?_
      rw [sh1 (by omega)]
      refine st_icmp_eq (q := 57) (tgt := 93) dX12_matters_54 (by decide) rfl (fun c54 => ?_) (fun c54 => ?_)
      · first | refine n_iinc (q := 96) dX12_matters_93 rfl (by decide) rfl ⟨by omega, by omega⟩ ?_ | refine st_iinc (q := 96) dX12_matters_93 rfl (by decide) rfl ?_
        refine st_goto (q := 31) dX12_matters_96 (by decide) ?_
        first | exact lp_X12_matters w0 m0 o hk hP (c + 1) (by omega) _ _ (f1.tr f2) | (rw [if_neg (fun t => by have t1 := t.1; have t2 := t.2.1; first | omega | (rw [tb0.mp c45] at t1; cases t1)), Nat.or_zero] at e0; have := lp_X12_matters (d := d) w0 m0 o hk hP (c + 1) (by omega) _ _ f; rw [e0] at this; exact this)
      · refine st_aload_n (q := 58) dX12_matters_57 rfl rfl ?_
        refine st_getR (q := 61) 12 12 dX12_matters_58 fl_X12_38 (by decide) (by decide) rfl rfl (wfk w rfl) (wfR w rfl) ?_
        refine st_iload_n (q := 62) dX12_matters_61 rfl rfl ?_
        refine st_iload (q := 64) dX12_matters_62 rfl rfl ?_
        refine st_iconst (q := 65) dX12_matters_64 ⟨by decide, by decide⟩ rfl ?_
        refine st_iload (q := 67) dX12_matters_65 rfl rfl ?_
        refine st_ishl (q := 68) dX12_matters_67 rfl ?_
        rw [sh1 (by omega)]
        refine st_iconst (q := 69) dX12_matters_68 ⟨by decide, by decide⟩ rfl ?_
        refine st_ixor (q := 70) dX12_matters_69 rfl ?_
        refine st_iand (q := 71) dX12_matters_70 rfl ?_
        rw [iandn_n (by omega) (by have := p1 (by omega); omega)]
        refine st_iastore (q := 72) dX12_matters_71 rfl (wfk w rfl) (wfb w (n := 8) rfl ⟨by omega, by omega⟩) ?_
        refine st_iload (q := 74) dX12_matters_72 rfl rfl ?_
        refine st_aload_n (q := 75) dX12_matters_74 rfl rfl ?_
        refine iV0i (q := 78) dX12_matters_75 rfl ml_X12_298 mv_X12_leastOf (Nat.le_of_ble_eq_true rfl) (wfk w rfl) ?_
        have f1 := fr_re f ((nandn (uO u k) (2 ^ c) : Nat) : Int)
        refine c_X12_leastOf (u := uSet u k (nandn (uO u k) (2 ^ c))) w ((uSet_hm m0).fr f1) (uSet_ok o (by omega)) (fun h2 f2 e46 => ?_)
        rw [lsN_1]
        refine st_iload_n (q := 79) dX12_matters_78 rfl rfl ?_
        apply j_mg 90
        · intro K1 K2
          refine st_icmp_lt (q := 82) (tgt := 89) dX12_matters_79 (by decide) rfl (fun c79 => ?_) (fun c79 => ?_)
          · refine st_iconst (q := 90) dX12_matters_89 ⟨by decide, by decide⟩ rfl ?_
            exact K1 c79
          · refine st_iconst (q := 83) dX12_matters_82 ⟨by decide, by decide⟩ rfl ?_
            refine st_iload (q := 85) dX12_matters_83 rfl rfl ?_
            refine st_ishl (q := 86) dX12_matters_85 rfl ?_
            rw [sh1 (by omega)]
            refine st_goto (q := 90) dX12_matters_86 (by decide) ?_
            exact K2 c79
        · simp only [jif_if]
          have t1 := tb1.mp c45
          have ne2 : uO u k ≠ 2 ^ c := (by omega)
          have eT : (if lsV (uSet u k (nandn (uO u k) (2 ^ c))) < lsV u then (0 : Int) else ((2 ^ c : Nat) : Int)) = ((if (uO u k).testBit c = true ∧ uO u k ≠ 2 ^ c ∧ lsV u ≤ lsV (uSet u k (nandn (uO u k) (2 ^ c))) then 2 ^ c else 0 : Nat) : Int) := by
            by_cases z : lsV u ≤ lsV (uSet u k (nandn (uO u k) (2 ^ c)))
            · rw [if_neg (by omega), if_pos ⟨t1, ne2, z⟩]
            · rw [if_pos (by omega), if_neg (fun t => z t.2.2)]; rfl
          refine j_top _ eT ?_
          refine st_ior (q := 91) dX12_matters_90 rfl ?_
          rw [ior_n (by omega) (by have := p1 (by omega); split <;> omega)]
          refine st_istore (q := 93) dX12_matters_91 (by decide) rfl ?_
          first | refine n_iinc (q := 96) dX12_matters_93 rfl (by decide) rfl ⟨by omega, by omega⟩ ?_ | refine st_iinc (q := 96) dX12_matters_93 rfl (by decide) rfl ?_
          refine st_goto (q := 31) dX12_matters_96 (by decide) ?_
          first | exact lp_X12_matters w0 m0 o hk hP (c + 1) (by omega) _ _ (f1.tr f2) | (rw [if_neg (fun t => by have t1 := t.1; have t2 := t.2.1; first | omega | (rw [tb0.mp c45] at t1; cases t1)), Nat.or_zero] at e0; have := lp_X12_matters (d := d) w0 m0 o hk hP (c + 1) (by omega) _ _ f; rw [e0] at this; exact this)
termination_by 16 - c
theorem c_X12_matters {d : Nat} {h : JH} {P : Int → JH → Prop} {u : HD} {k : Int} (w : WF h) (m : HM h u) (o : uOk u) (h1 : ¬ (0 ≤ k ∧ k ≤ 7) → P (-1) h) (h2 : 0 ≤ k ∧ k ≤ 7 → uO u k.toNat = 0 → P (-3) (mtH h 1)) (h3 : 0 ≤ k ∧ k ≤ 7 → uO u k.toNat ≠ 0 → ∀ h', FrM h h' → P (maF u k.toNat 16 : Nat) h') : JRi (d + 4) jX12_matters [vr 117, vi k] h P := by
  have q1 : 0 ≤ k ∧ k ≤ 7 → hI h 126 k.toNat = (uO u k.toNat : Nat) := fun q => (m k.toNat (by omega)).2.2
  refine JRet.of rfl (Nat.le_of_ble_eq_true rfl) ?_
  refine st_aload_n (q := 1) dX12_matters_0 rfl rfl ?_
  refine st_iload_n (q := 2) dX12_matters_1 rfl rfl ?_
  refine iV1i (q := 5) dX12_matters_2 rfl ml_X12_171 mv_X12_askedHide (Nat.le_of_ble_eq_true rfl) (wfk w rfl) ?_
  refine c_X12_askedHide w (fun a1 => ?_) (fun a1 a2 => ?_) (fun a1 a2 => ?_)
  · refine st_istore_n (q := 6) (i := 2) dX12_matters_5 rfl (by decide) rfl ?_
    refine st_iload_n (q := 7) dX12_matters_6 rfl rfl ?_
    refine st_if_ge (q := 10) (tgt := 12) dX12_matters_7 (by decide) rfl (fun z => absurd z (by decide)) (fun _ => ?_)
    refine st_iload_n (q := 11) dX12_matters_10 rfl rfl ?_
    refine rt_i dX12_matters_11 rfl ?_
    first | exact h1 (by omega) | exact h2 (by omega) (by have := q1 (by omega); omega)
  · refine st_istore_n (q := 6) (i := 2) dX12_matters_5 rfl (by decide) rfl ?_
    refine st_iload_n (q := 7) dX12_matters_6 rfl rfl ?_
    refine st_if_ge (q := 10) (tgt := 12) dX12_matters_7 (by decide) rfl (fun z => absurd z (by decide)) (fun _ => ?_)
    refine st_iload_n (q := 11) dX12_matters_10 rfl rfl ?_
    refine rt_i dX12_matters_11 rfl ?_
    first | exact h1 (by omega) | exact h2 (by omega) (by have := q1 (by omega); omega)
  · refine st_istore_n (q := 6) (i := 2) dX12_matters_5 rfl (by decide) rfl ?_
    refine st_iload_n (q := 7) dX12_matters_6 rfl rfl ?_
    refine st_if_ge (q := 10) (tgt := 12) dX12_matters_7 (by decide) rfl (fun _ => ?_) (fun z => absurd z (by decide))
    refine st_aload_n (q := 13) dX12_matters_12 rfl rfl ?_
    refine iV0i (q := 16) dX12_matters_13 rfl ml_X12_298 mv_X12_leastOf (Nat.le_of_ble_eq_true rfl) (wfk w rfl) ?_
    refine c_X12_leastOf w m o (fun h' f e46 => ?_)
    rw [lsN_1]
    have w2 := f.wf w
    refine st_istore_n (q := 17) (i := 3) dX12_matters_16 rfl (by decide) rfl ?_
    refine st_aload_n (q := 18) dX12_matters_17 rfl rfl ?_
    refine st_getR (q := 21) 12 12 dX12_matters_18 fl_X12_38 (by decide) (by decide) rfl rfl (wfk w2 rfl) (wfR w2 rfl) ?_
    refine st_iload_n (q := 22) dX12_matters_21 rfl rfl ?_
    refine st_iaload (q := 23) dX12_matters_22 rfl (wfk w2 rfl) (wfb w2 (n := 8) rfl ⟨by omega, by omega⟩) ?_
    rw [f.2.2 _ _ (by unfold ScM; omega), q1 (by omega)]
    refine st_istore (q := 25) dX12_matters_23 (by decide) rfl ?_
    refine st_iconst (q := 26) dX12_matters_25 ⟨by decide, by decide⟩ rfl ?_
    refine st_istore (q := 28) dX12_matters_26 (by decide) rfl ?_
    refine st_iconst (q := 29) dX12_matters_28 ⟨by decide, by decide⟩ rfl ?_
    refine st_istore (q := 31) dX12_matters_29 (by decide) rfl ?_
    have e1 : k = (k.toNat : Int) := by omega
    have f0 : FrM (sI h 126 k.toNat (hI h 126 k.toNat)) h' := by rw [sI_id]; exact f
    have := lp_X12_matters (d := d) (k := k.toNat) w m o (by omega) (h3 (by omega) (by have := q1 (by omega); omega)) 0 (by omega) _ _ f0
    rw [← e1] at this
    exact this

