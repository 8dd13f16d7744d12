/-! the model: mistaken, counts, what is told -/
def ahd (q : MO) (m e : Nat) : Bool := decide (q.2 m 1 < q.2 e 1 ∨ (q.2 m 1 = q.2 e 1 ∧ m < e))
theorem c_X12_isAheadB {d : Nat} {h : JH} {P : Int → JH → Prop} {q : MO} {m e : Nat} (w : WF h) (nm : NM h q) (qo : qOk q) (hm : m < q.1) (he : e < q.1) (hP : P (if ahd q m e then 1 else 0) h) : JRi (d + 1) jX12_isAhead [vr 117, vi m, vi e] h P := by
  refine c_X12_isAhead w nm qo hm he (fun z => ?_) (fun z => ?_)
  · have t : ahd q m e = true := decide_eq_true z
    rw [t] at hP; exact hP
  · have t : ahd q m e = false := decide_eq_false z
    rw [t] at hP; exact hP
theorem c_X12_isAheadI {d : Nat} {h : JH} {P : Int → JH → Prop} {q : MO} {m : Nat} {e : Int} (w : WF h) (nm : NM h q) (qo : qOk q) (hm : m < q.1) (he : 0 ≤ e ∧ e < q.1) (hP : P (if ahd q m e.toNat then 1 else 0) h) : JRi (d + 1) jX12_isAhead [vr 117, vi m, vi e] h P := by
  have := c_X12_isAheadB (d := d) (P := P) (e := e.toNat) w nm qo hm (by omega) hP
  rw [Int.toNat_of_nonneg he.1] at this
  exact this
/-- the first spoken one of the hide, and whether the voice was another hide's, of those ahead among the first e -/
def mmF (q : MO) (m : Nat) : Nat → Nat × Bool
  | 0 => (m, false)
  | e + 1 => if q.2 e 0 = 6 ∧ ahd q e m = true then (if q.2 e 2 = q.2 m 2 ∧ ahd q e (mmF q m e).1 = true then e else (mmF q m e).1, (mmF q m e).2 || decide (q.2 e 2 ≠ q.2 m 2 ∧ q.2 e 3 = q.2 m 3)) else mmF q m e
theorem mmF_lt (q : MO) (m : Nat) (hm : m < q.1) : ∀ e, e ≤ q.1 → (mmF q m e).1 < q.1
  | 0, _ => hm
  | e + 1, h => by
    have := mmF_lt q m hm e (by omega)
    unfold mmF
    split
    · show (if q.2 e 2 = q.2 m 2 ∧ ahd q e (mmF q m e).1 = true then e else (mmF q m e).1) < q.1
      split <;> omega
    · exact this
def miB (q : MO) (m : Nat) : Bool := (mmF q m q.1).2 || decide (q.2 (mmF q m q.1).1 3 ≠ q.2 m 3)
theorem lp_X12_isMistaken {d : Nat} {h : JH} {P : Int → JH → Prop} {q : MO} {m : Nat} (w : WF h) (nm : NM h q) (qo : qOk q) (hm : m < q.1) (hP : P (if miB q m then 1 else 0) h) (e : Nat) (he : e ≤ q.1) : JAt k0 (d + 2) jX12_isMistaken 7 [vr 117, vi m, vi (mmF q m e).1, vi (if (mmF q m e).2 then 1 else 0), vi e] [] h (jqi P) := by
  have n1 := nm.1
  have q1 := qo.1
  have s1 := mmF_lt q m hm e he
  have e0 : mmF q m (e + 1) = if q.2 e 0 = 6 ∧ ahd q e m = true then (if q.2 e 2 = q.2 m 2 ∧ ahd q e (mmF q m e).1 = true then e else (mmF q m e).1, (mmF q m e).2 || decide (q.2 e 2 ≠ q.2 m 2 ∧ q.2 e 3 = q.2 m 3)) else mmF q m e := rfl
  refine st_iload (q := 9) dX12_isMistaken_7 rfl rfl ?_
  refine st_aload_n (q := 10) dX12_isMistaken_9 rfl rfl ?_
  refine st_getI (q := 13) 12 47 dX12_isMistaken_10 fl_X12_304 (by decide) (by decide) rfl rfl (wfk w rfl) ?_
  refine st_icmp_ge (q := 16) (tgt := 119) dX12_isMistaken_13 (by decide) rfl (fun c13 => ?_) (fun c13 => ?_)
  · refine st_iload_n (q := 120) dX12_isMistaken_119 rfl rfl ?_
    apply j_mg 143
    · intro K1 K2
      refine st_if_ne (q := 123) (tgt := 138) dX12_isMistaken_120 (by decide) rfl (fun c120 => ?_) (fun c120 => ?_)
      · refine st_iconst (q := 139) dX12_isMistaken_138 ⟨by decide, by decide⟩ rfl ?_
        refine st_goto (q := 143) dX12_isMistaken_139 (by decide) ?_
        exact K2 c120
      · refine st_aload_n (q := 124) dX12_isMistaken_123 rfl rfl ?_
        refine st_iload_n (q := 125) dX12_isMistaken_124 rfl rfl ?_
        refine st_iconst (q := 126) dX12_isMistaken_125 ⟨by decide, by decide⟩ rfl ?_
        refine iV2i (q := 129) dX12_isMistaken_126 rfl ml_X12_310 mv_X12_part (Nat.le_of_ble_eq_true rfl) (wfk w rfl) ?_
        refine c_X12_part w nm qo (by omega) (by omega) ?_
        simp only [tn0, tn1, tn2, tn3, tn4]
        refine st_aload_n (q := 130) dX12_isMistaken_129 rfl rfl ?_
        refine st_iload_n (q := 131) dX12_isMistaken_130 rfl rfl ?_
        refine st_iconst (q := 132) dX12_isMistaken_131 ⟨by decide, by decide⟩ rfl ?_
        refine iV2i (q := 135) dX12_isMistaken_132 rfl ml_X12_310 mv_X12_part (Nat.le_of_ble_eq_true rfl) (wfk w rfl) ?_
        refine c_X12_part w nm qo (by omega) (by omega) ?_
        simp only [tn0, tn1, tn2, tn3, tn4]
        apply j_mg 143
        · intro K3 K4
          refine st_icmp_eq (q := 138) (tgt := 142) dX12_isMistaken_135 (by decide) rfl (fun c135 => ?_) (fun c135 => ?_)
          · refine st_iconst (q := 143) dX12_isMistaken_142 ⟨by decide, by decide⟩ rfl ?_
            exact K3 c135
          · refine st_iconst (q := 139) dX12_isMistaken_138 ⟨by decide, by decide⟩ rfl ?_
            refine st_goto (q := 143) dX12_isMistaken_139 (by decide) ?_
            exact K4 c135
        · simp only [jif_if]
          exact K1 c120
    · simp only [jif_if]
      have ee : e = q.1 := by omega
      subst ee
      refine j_top (if miB q m then 1 else 0) (by unfold miB; cases (mmF q m q.1).2 <;> simp <;> (repeat' split) <;> simp_all) ?_
      refine rt_z dX12_isMistaken_143 rfl (by split <;> simp) ?_
      exact hP
  · refine st_aload_n (q := 17) dX12_isMistaken_16 rfl rfl ?_
    refine st_iload (q := 19) dX12_isMistaken_17 rfl rfl ?_
    refine st_iconst (q := 20) dX12_isMistaken_19 ⟨by decide, by decide⟩ rfl ?_
    refine iV2i (q := 23) dX12_isMistaken_20 rfl ml_X12_310 mv_X12_part (Nat.le_of_ble_eq_true rfl) (wfk w rfl) ?_
    refine c_X12_part w nm qo (by omega) (by omega) ?_
    simp only [tn0, tn1, tn2, tn3, tn4]
    refine st_bipush (q := 25) dX12_isMistaken_23 ⟨by decide, by decide⟩ rfl ?_
    refine st_icmp_ne (q := 28) (tgt := 113) dX12_isMistaken_25 (by decide) rfl (fun c25 => ?_) (fun c25 => ?_)
    · first | refine n_iinc (q := 116) dX12_isMistaken_113 rfl (by decide) rfl ⟨by omega, by omega⟩ ?_ | refine st_iinc (q := 116) dX12_isMistaken_113 rfl (by decide) rfl ?_
      refine st_goto (q := 7) dX12_isMistaken_116 (by decide) ?_
      first | (have := lp_X12_isMistaken (d := d) w nm qo hm hP (e + 1) (by omega); rw [show (mmF q m (e + 1)).1 = _ from congrArg Prod.fst e0] at this; exact this) | (rw [if_neg (fun z => by first | exact c25 z.1 | (have z2 := z.2; rw [tb0.mp c35] at z2; cases z2))] at e0; have := lp_X12_isMistaken (d := d) w nm qo hm hP (e + 1) (by omega); rw [e0] at this; exact this)
    · refine st_aload_n (q := 29) dX12_isMistaken_28 rfl rfl ?_
      refine st_iload (q := 31) dX12_isMistaken_29 rfl rfl ?_
      refine st_iload_n (q := 32) dX12_isMistaken_31 rfl rfl ?_
      refine iV2i (q := 35) dX12_isMistaken_32 rfl ml_X12_319 mv_X12_isAhead (Nat.le_of_ble_eq_true rfl) (wfk w rfl) ?_
      refine c_X12_isAheadB w nm qo (by omega) (by omega) ?_
      refine st_if_eq (q := 38) (tgt := 113) dX12_isMistaken_35 (by decide) rfl (fun c35 => ?_) (fun c35 => ?_)
      · first | refine n_iinc (q := 116) dX12_isMistaken_113 rfl (by decide) rfl ⟨by omega, by omega⟩ ?_ | refine st_iinc (q := 116) dX12_isMistaken_113 rfl (by decide) rfl ?_
        refine st_goto (q := 7) dX12_isMistaken_116 (by decide) ?_
        first | (have := lp_X12_isMistaken (d := d) w nm qo hm hP (e + 1) (by omega); rw [show (mmF q m (e + 1)).1 = _ from congrArg Prod.fst e0] at this; exact this) | (rw [if_neg (fun z => by first | exact c25 z.1 | (have z2 := z.2; rw [tb0.mp c35] at z2; cases z2))] at e0; have := lp_X12_isMistaken (d := d) w nm qo hm hP (e + 1) (by omega); rw [e0] at this; exact this)
      · have hlt : e < q.1 := by omega
        have t1 := tb1.mp c35
        rw [if_pos ⟨c25, t1⟩] at e0
        refine st_aload_n (q := 39) dX12_isMistaken_38 rfl rfl ?_
        refine st_iload (q := 41) dX12_isMistaken_39 rfl rfl ?_
        refine st_iconst (q := 42) dX12_isMistaken_41 ⟨by decide, by decide⟩ rfl ?_
        refine iV2i (q := 45) dX12_isMistaken_42 rfl ml_X12_310 mv_X12_part (Nat.le_of_ble_eq_true rfl) (wfk w rfl) ?_
        refine c_X12_part w nm qo (by omega) (by omega) ?_
        simp only [tn0, tn1, tn2, tn3, tn4]
        refine st_aload_n (q := 46) dX12_isMistaken_45 rfl rfl ?_
        refine st_iload_n (q := 47) dX12_isMistaken_46 rfl rfl ?_
        refine st_iconst (q := 48) dX12_isMistaken_47 ⟨by decide, by decide⟩ rfl ?_
        refine iV2i (q := 51) dX12_isMistaken_48 rfl ml_X12_310 mv_X12_part (Nat.le_of_ble_eq_true rfl) (wfk w rfl) ?_
        refine c_X12_part w nm qo (by omega) (by omega) ?_
        simp only [tn0, tn1, tn2, tn3, tn4]
        apply j_mg 70
        · intro K5 K6
          refine st_icmp_ne (q := 54) (tgt := 69) dX12_isMistaken_51 (by decide) rfl (fun c51 => ?_) (fun c51 => ?_)
          · refine st_iload_n (q := 70) dX12_isMistaken_69 rfl rfl ?_
            exact K6 c51
          · refine st_aload_n (q := 55) dX12_isMistaken_54 rfl rfl ?_
            refine st_iload (q := 57) dX12_isMistaken_55 rfl rfl ?_
            refine st_iload_n (q := 58) dX12_isMistaken_57 rfl rfl ?_
            refine iV2i (q := 61) dX12_isMistaken_58 rfl ml_X12_319 mv_X12_isAhead (Nat.le_of_ble_eq_true rfl) (wfk w rfl) ?_
            refine c_X12_isAheadB w nm qo (by omega) (by omega) ?_
            apply j_mg 70
            · intro K7 K8
              refine st_if_eq (q := 64) (tgt := 69) dX12_isMistaken_61 (by decide) rfl (fun c61 => ?_) (fun c61 => ?_)
              · refine st_iload_n (q := 70) dX12_isMistaken_69 rfl rfl ?_
                exact K7 c61
              · refine st_iload (q := 66) dX12_isMistaken_64 rfl rfl ?_
                refine st_goto (q := 70) dX12_isMistaken_66 (by decide) ?_
                exact K8 c61
            · simp only [jif_if]
              exact K5 c51
        · simp only [jif_if]
          refine j_top (((if q.2 e 2 = q.2 m 2 ∧ ahd q e (mmF q m e).1 = true then e else (mmF q m e).1 : Nat)) : Int) (by cases ahd q e (mmF q m e).1 <;> simp <;> (repeat' split) <;> simp_all) ?_
          refine st_istore_n (q := 71) (i := 2) dX12_isMistaken_70 rfl (by decide) rfl ?_
          refine st_iload_n (q := 72) dX12_isMistaken_71 rfl rfl ?_
          apply j_mg 112
          · intro K9 K10
            refine st_if_ne (q := 75) (tgt := 107) dX12_isMistaken_72 (by decide) rfl (fun c72 => ?_) (fun c72 => ?_)
            · refine st_iconst (q := 108) dX12_isMistaken_107 ⟨by decide, by decide⟩ rfl ?_
              refine st_goto (q := 112) dX12_isMistaken_108 (by decide) ?_
              exact K10 c72
            · refine st_aload_n (q := 76) dX12_isMistaken_75 rfl rfl ?_
              refine st_iload (q := 78) dX12_isMistaken_76 rfl rfl ?_
              refine st_iconst (q := 79) dX12_isMistaken_78 ⟨by decide, by decide⟩ rfl ?_
              refine iV2i (q := 82) dX12_isMistaken_79 rfl ml_X12_310 mv_X12_part (Nat.le_of_ble_eq_true rfl) (wfk w rfl) ?_
              refine c_X12_part w nm qo (by omega) (by omega) ?_
              simp only [tn0, tn1, tn2, tn3, tn4]
              refine st_aload_n (q := 83) dX12_isMistaken_82 rfl rfl ?_
              refine st_iload_n (q := 84) dX12_isMistaken_83 rfl rfl ?_
              refine st_iconst (q := 85) dX12_isMistaken_84 ⟨by decide, by decide⟩ rfl ?_
              refine iV2i (q := 88) dX12_isMistaken_85 rfl ml_X12_310 mv_X12_part (Nat.le_of_ble_eq_true rfl) (wfk w rfl) ?_
              refine c_X12_part w nm qo (by omega) (by omega) ?_
              simp only [tn0, tn1, tn2, tn3, tn4]
              apply j_mg 112
              · intro K11 K12
                refine st_icmp_eq (q := 91) (tgt := 111) dX12_isMistaken_88 (by decide) rfl (fun c88 => ?_) (fun c88 => ?_)
                · refine st_iconst (q := 112) dX12_isMistaken_111 ⟨by decide, by decide⟩ rfl ?_
                  exact K11 c88
                · refine st_aload_n (q := 92) dX12_isMistaken_91 rfl rfl ?_
                  refine st_iload (q := 94) dX12_isMistaken_92 rfl rfl ?_
                  refine st_iconst (q := 95) dX12_isMistaken_94 ⟨by decide, by decide⟩ rfl ?_
                  refine iV2i (q := 98) dX12_isMistaken_95 rfl ml_X12_310 mv_X12_part (Nat.le_of_ble_eq_true rfl) (wfk w rfl) ?_
                  refine c_X12_part w nm qo (by omega) (by omega) ?_
                  simp only [tn0, tn1, tn2, tn3, tn4]
                  refine st_aload_n (q := 99) dX12_isMistaken_98 rfl rfl ?_
                  refine st_iload_n (q := 100) dX12_isMistaken_99 rfl rfl ?_
                  refine st_iconst (q := 101) dX12_isMistaken_100 ⟨by decide, by decide⟩ rfl ?_
                  refine iV2i (q := 104) dX12_isMistaken_101 rfl ml_X12_310 mv_X12_part (Nat.le_of_ble_eq_true rfl) (wfk w rfl) ?_
                  refine c_X12_part w nm qo (by omega) (by omega) ?_
                  simp only [tn0, tn1, tn2, tn3, tn4]
                  apply j_mg 112
                  · intro K13 K14
                    refine st_icmp_ne (q := 107) (tgt := 111) dX12_isMistaken_104 (by decide) rfl (fun c104 => ?_) (fun c104 => ?_)
                    · refine st_iconst (q := 112) dX12_isMistaken_111 ⟨by decide, by decide⟩ rfl ?_
                      exact K14 c104
                    · refine st_iconst (q := 108) dX12_isMistaken_107 ⟨by decide, by decide⟩ rfl ?_
                      refine st_goto (q := 112) dX12_isMistaken_108 (by decide) ?_
                      exact K13 c104
                  · simp only [jif_if]
                    exact K12 c88
              · simp only [jif_if]
                exact K9 c72
          · simp only [jif_if]
            refine j_top (if (mmF q m (e + 1)).2 then 1 else 0) (by rw [e0]; cases (mmF q m e).2 <;> simp <;> (repeat' split) <;> simp_all) ?_
            refine st_istore_n (q := 113) (i := 3) dX12_isMistaken_112 rfl (by decide) rfl ?_
            first | refine n_iinc (q := 116) dX12_isMistaken_113 rfl (by decide) rfl ⟨by omega, by omega⟩ ?_ | refine st_iinc (q := 116) dX12_isMistaken_113 rfl (by decide) rfl ?_
            refine st_goto (q := 7) dX12_isMistaken_116 (by decide) ?_
            first | (have := lp_X12_isMistaken (d := d) w nm qo hm hP (e + 1) (by omega); rw [show (mmF q m (e + 1)).1 = _ from congrArg Prod.fst e0] at this; exact this) | (rw [if_neg (fun z => by first | exact c25 z.1 | (have z2 := z.2; rw [tb0.mp c35] at z2; cases z2))] at e0; have := lp_X12_isMistaken (d := d) w nm qo hm hP (e + 1) (by omega); rw [e0] at this; exact this)
termination_by q.1 - e
theorem c_X12_isMistaken {d : Nat} {h : JH} {P : Int → JH → Prop} {q : MO} {m : Nat} (w : WF h) (nm : NM h q) (qo : qOk q) (hm : m < q.1) (hP : P (if miB q m then 1 else 0) h) : JRi (d + 2) jX12_isMistaken [vr 117, vi m] h P := by
  refine JRet.of rfl (Nat.le_of_ble_eq_true rfl) ?_
  refine st_iload_n (q := 1) dX12_isMistaken_0 rfl rfl ?_
  refine st_istore_n (q := 2) (i := 2) dX12_isMistaken_1 rfl (by decide) rfl ?_
  refine st_iconst (q := 3) dX12_isMistaken_2 ⟨by decide, by decide⟩ rfl ?_
  refine st_istore_n (q := 4) (i := 3) dX12_isMistaken_3 rfl (by decide) rfl ?_
  refine st_iconst (q := 5) dX12_isMistaken_4 ⟨by decide, by decide⟩ rfl ?_
  refine st_istore (q := 7) dX12_isMistaken_5 (by decide) rfl ?_
  exact lp_X12_isMistaken w nm qo hm hP 0 (by omega)
def miF (q : MO) : Nat → Nat × Int
  | 0 => (0, -9)
  | m + 1 => if q.2 m 0 = 6 ∧ miB q m = true then ((miF q m).1 + 1, if (miF q m).2 < 0 ∨ ahd q m (miF q m).2.toNat = true then (m : Int) else (miF q m).2) else miF q m
theorem miF_b (q : MO) : ∀ m, (miF q m).1 ≤ m ∧ -9 ≤ (miF q m).2 ∧ (miF q m).2 < m
  | 0 => by simp [miF]
  | m + 1 => by
    have h := miF_b q m
    unfold miF
    split
    · refine ⟨by show (miF q m).1 + 1 ≤ m + 1; omega, ?_⟩
      show -9 ≤ (if (miF q m).2 < 0 ∨ ahd q m (miF q m).2.toNat = true then (m : Int) else (miF q m).2) ∧ (if (miF q m).2 < 0 ∨ ahd q m (miF q m).2.toNat = true then (m : Int) else (miF q m).2) < ((m + 1 : Nat) : Int)
      split <;> omega
    · omega
theorem lp_X12_mistaken {d : Nat} {h : JH} {P : Int → JH → Prop} {q : MO} (w : WF h) (nm : NM h q) (qo : qOk q) (hP : P (miF q q.1).1 (sI h 117 2 (miF q q.1).2)) (m : Nat) (hm : m ≤ q.1) : JAt k0 (d + 3) jX12_mistaken 7 [vr 117, vi (miF q m).1, vi (miF q m).2, vi m] [] h (jqi P) := by
  have n1 := nm.1
  have q1 := qo.1
  have s1 := miF_b q m
  have e0 : miF q (m + 1) = if q.2 m 0 = 6 ∧ miB q m = true then ((miF q m).1 + 1, if (miF q m).2 < 0 ∨ ahd q m (miF q m).2.toNat = true then (m : Int) else (miF q m).2) else miF q m := rfl
  refine st_iload_n (q := 8) dX12_mistaken_7 rfl rfl ?_
  refine st_aload_n (q := 9) dX12_mistaken_8 rfl rfl ?_
  refine st_getI (q := 12) 12 47 dX12_mistaken_9 fl_X12_304 (by decide) (by decide) rfl rfl (wfk w rfl) ?_
  refine st_icmp_ge (q := 15) (tgt := 62) dX12_mistaken_12 (by decide) rfl (fun c12 => ?_) (fun c12 => ?_)
  · refine st_aload_n (q := 63) dX12_mistaken_62 rfl rfl ?_
    refine st_iload_n (q := 64) dX12_mistaken_63 rfl rfl ?_
    refine st_iload_n (q := 65) dX12_mistaken_64 rfl rfl ?_
    refine iV2i (q := 68) dX12_mistaken_65 rfl ml_X12_152 mv_X12_ask (Nat.le_of_ble_eq_true rfl) (wfk w rfl) ?_
    refine c_X12_ask w ?_
    refine rt_i dX12_mistaken_68 rfl ?_
    have ee : m = q.1 := by omega
    subst ee
    exact hP
  · refine st_aload_n (q := 16) dX12_mistaken_15 rfl rfl ?_
    refine st_iload_n (q := 17) dX12_mistaken_16 rfl rfl ?_
    refine st_iconst (q := 18) dX12_mistaken_17 ⟨by decide, by decide⟩ rfl ?_
    refine iV2i (q := 21) dX12_mistaken_18 rfl ml_X12_310 mv_X12_part (Nat.le_of_ble_eq_true rfl) (wfk w rfl) ?_
    refine c_X12_part w nm qo (by omega) (by omega) ?_
    simp only [tn0, tn1, tn2, tn3, tn4]
    refine st_bipush (q := 23) dX12_mistaken_21 ⟨by decide, by decide⟩ rfl ?_
    refine st_icmp_ne (q := 26) (tgt := 56) dX12_mistaken_23 (by decide) rfl (fun c23 => ?_) (fun c23 => ?_)
    · first | refine n_iinc (q := 59) dX12_mistaken_56 rfl (by decide) rfl ⟨by omega, by omega⟩ ?_ | refine st_iinc (q := 59) dX12_mistaken_56 rfl (by decide) rfl ?_
      refine st_goto (q := 7) dX12_mistaken_59 (by decide) ?_
      first | (have := lp_X12_mistaken (d := d) w nm qo hP (m + 1) (by omega); rw [e0] at this; exact this) | (rw [if_neg (fun z => by first | exact c23 z.1 | (have z2 := z.2; rw [tb0.mp c31] at z2; cases z2))] at e0; have := lp_X12_mistaken (d := d) w nm qo hP (m + 1) (by omega); rw [e0] at this; exact this)
    · refine st_aload_n (q := 27) dX12_mistaken_26 rfl rfl ?_
      refine st_iload_n (q := 28) dX12_mistaken_27 rfl rfl ?_
      refine iV1i (q := 31) dX12_mistaken_28 rfl ml_X12_322 mv_X12_isMistaken (Nat.le_of_ble_eq_true rfl) (wfk w rfl) ?_
      refine c_X12_isMistaken w nm qo (by omega) ?_
      refine st_if_eq (q := 34) (tgt := 56) dX12_mistaken_31 (by decide) rfl (fun c31 => ?_) (fun c31 => ?_)
      · first | refine n_iinc (q := 59) dX12_mistaken_56 rfl (by decide) rfl ⟨by omega, by omega⟩ ?_ | refine st_iinc (q := 59) dX12_mistaken_56 rfl (by decide) rfl ?_
        refine st_goto (q := 7) dX12_mistaken_59 (by decide) ?_
        first | (have := lp_X12_mistaken (d := d) w nm qo hP (m + 1) (by omega); rw [e0] at this; exact this) | (rw [if_neg (fun z => by first | exact c23 z.1 | (have z2 := z.2; rw [tb0.mp c31] at z2; cases z2))] at e0; have := lp_X12_mistaken (d := d) w nm qo hP (m + 1) (by omega); rw [e0] at this; exact this)
      · refine st_iload_n (q := 35) dX12_mistaken_34 rfl rfl ?_
        apply j_mg 52
        · intro K1 K2
          refine st_if_lt (q := 38) (tgt := 47) dX12_mistaken_35 (by decide) rfl (fun c35 => ?_) (fun c35 => ?_)
          · refine st_iload_n (q := 48) dX12_mistaken_47 rfl rfl ?_
            refine st_goto (q := 52) dX12_mistaken_48 (by decide) ?_
            exact K1 c35
          · refine st_aload_n (q := 39) dX12_mistaken_38 rfl rfl ?_
            refine st_iload_n (q := 40) dX12_mistaken_39 rfl rfl ?_
            refine st_iload_n (q := 41) dX12_mistaken_40 rfl rfl ?_
            refine iV2i (q := 44) dX12_mistaken_41 rfl ml_X12_319 mv_X12_isAhead (Nat.le_of_ble_eq_true rfl) (wfk w rfl) ?_
            refine c_X12_isAheadI w nm qo (by omega) (by omega) ?_
            apply j_mg 52
            · intro K3 K4
              refine st_if_eq (q := 47) (tgt := 51) dX12_mistaken_44 (by decide) rfl (fun c44 => ?_) (fun c44 => ?_)
              · refine st_iload_n (q := 52) dX12_mistaken_51 rfl rfl ?_
                exact K3 c44
              · refine st_iload_n (q := 48) dX12_mistaken_47 rfl rfl ?_
                refine st_goto (q := 52) dX12_mistaken_48 (by decide) ?_
                exact K4 c44
            · simp only [jif_if]
              exact K2 c35
        · simp only [jif_if]
          refine j_top (if (miF q m).2 < 0 ∨ ahd q m (miF q m).2.toNat = true then (m : Int) else (miF q m).2) (by cases ahd q m (miF q m).2.toNat <;> simp <;> (repeat' split) <;> first | omega | simp_all) ?_
          rw [if_pos ⟨c23, tb1.mp c31⟩] at e0
          refine st_istore_n (q := 53) (i := 2) dX12_mistaken_52 rfl (by decide) rfl ?_
          first | refine n_iinc (q := 56) dX12_mistaken_53 rfl (by decide) rfl ⟨by omega, by omega⟩ ?_ | refine st_iinc (q := 56) dX12_mistaken_53 rfl (by decide) rfl ?_
          first | refine n_iinc (q := 59) dX12_mistaken_56 rfl (by decide) rfl ⟨by omega, by omega⟩ ?_ | refine st_iinc (q := 59) dX12_mistaken_56 rfl (by decide) rfl ?_
          refine st_goto (q := 7) dX12_mistaken_59 (by decide) ?_
          first | (have := lp_X12_mistaken (d := d) w nm qo hP (m + 1) (by omega); rw [e0] at this; exact this) | (rw [if_neg (fun z => by first | exact c23 z.1 | (have z2 := z.2; rw [tb0.mp c31] at z2; cases z2))] at e0; have := lp_X12_mistaken (d := d) w nm qo hP (m + 1) (by omega); rw [e0] at this; exact this)
termination_by q.1 - m
theorem c_X12_mistaken {d : Nat} {h : JH} {P : Int → JH → Prop} {q : MO} (w : WF h) (nm : NM h q) (qo : qOk q) (hP : P (miF q q.1).1 (sI h 117 2 (miF q q.1).2)) : JRi (d + 3) jX12_mistaken [vr 117] h P := by
  refine JRet.of rfl (Nat.le_of_ble_eq_true rfl) ?_
  refine st_iconst (q := 1) dX12_mistaken_0 ⟨by decide, by decide⟩ rfl ?_
  refine st_istore_n (q := 2) (i := 1) dX12_mistaken_1 rfl (by decide) rfl ?_
  refine st_bipush (q := 4) dX12_mistaken_2 ⟨by decide, by decide⟩ rfl ?_
  refine st_istore_n (q := 5) (i := 2) dX12_mistaken_4 rfl (by decide) rfl ?_
  refine st_iconst (q := 6) dX12_mistaken_5 ⟨by decide, by decide⟩ rfl ?_
  refine st_istore_n (q := 7) (i := 3) dX12_mistaken_6 rfl (by decide) rfl ?_
  exact lp_X12_mistaken w nm qo hP 0 (by omega)
theorem c_X12_asked {d : Nat} {h : JH} {P : Int → JH → Prop} (w : WF h) (hP : P (hI h 117 2) h) : JRi d jX12_asked [vr 117] h P := by
  refine JRet.of rfl (Nat.le_of_ble_eq_true rfl) ?_
  refine st_aload_n (q := 1) dX12_asked_0 rfl rfl ?_
  refine st_getI (q := 4) 12 2 dX12_asked_1 fl_X12_124 (by decide) (by decide) rfl rfl (wfk w rfl) ?_
  refine rt_i dX12_asked_4 rfl ?_
  exact hP
theorem c_X12_finding {d : Nat} {h : JH} {P : Int → JH → Prop} (w : WF h) (hP : P (hI h 117 0) h) : JRi d jX12_finding [vr 117] h P := by
  refine JRet.of rfl (Nat.le_of_ble_eq_true rfl) ?_
  refine st_aload_n (q := 1) dX12_finding_0 rfl rfl ?_
  refine st_getI (q := 4) 12 0 dX12_finding_1 fl_X12_121 (by decide) (by decide) rfl rfl (wfk w rfl) ?_
  refine rt_i dX12_finding_4 rfl ?_
  exact hP
theorem c_X12_upper {d : Nat} {h : JH} {P : Int → JH → Prop} (w : WF h) (hP : P (hJ h 117 3) h) : JRl d jX12_upper [vr 117] h P := by
  refine JRet.of rfl (Nat.le_of_ble_eq_true rfl) ?_
  refine st_aload_n (q := 1) dX12_upper_0 rfl rfl ?_
  refine st_getJ (q := 4) 12 3 dX12_upper_1 fl_X12_127 (by decide) (by decide) rfl rfl (wfk w rfl) ?_
  refine rt_l dX12_upper_4 rfl ?_
  exact hP
theorem c_X12_lower {d : Nat} {h : JH} {P : Int → JH → Prop} (w : WF h) (hP : P (hJ h 117 4) h) : JRl d jX12_lower [vr 117] h P := by
  refine JRet.of rfl (Nat.le_of_ble_eq_true rfl) ?_
  refine st_aload_n (q := 1) dX12_lower_0 rfl rfl ?_
  refine st_getJ (q := 4) 12 4 dX12_lower_1 fl_X12_13 (by decide) (by decide) rfl rfl (wfk w rfl) ?_
  refine rt_l dX12_lower_4 rfl ?_
  exact hP
theorem c_X12_findings {d : Nat} {h : JH} {P : Int → JH → Prop} {f : Int} (w : WF h) (h1 : ¬ (1 ≤ f ∧ f ≤ 5) → P (-1) h) (h2 : 1 ≤ f ∧ f ≤ 5 → P (hI h 118 f.toNat) h) : JRi (d + 1) jX12_findings [vr 117, vi f] h P := by
  refine JRet.of rfl (Nat.le_of_ble_eq_true rfl) ?_
  refine st_iload_n (q := 1) dX12_findings_0 rfl rfl ?_
  refine st_iconst (q := 2) dX12_findings_1 ⟨by decide, by decide⟩ rfl ?_
  refine st_iconst (q := 3) dX12_findings_2 ⟨by decide, by decide⟩ rfl ?_
  refine iS3i (q := 6) dX12_findings_3 rfl ml_X12_130 ms_X12_in (Nat.le_of_ble_eq_true rfl) ?_
  refine c_X12_in ?_
  refine st_if_eq (q := 9) (tgt := 18) dX12_findings_6 (by decide) rfl (fun c6 => ?_) (fun c6 => ?_)
  · refine st_iconst (q := 19) dX12_findings_18 ⟨by decide, by decide⟩ rfl ?_
    refine rt_i dX12_findings_19 rfl ?_
    first | exact h1 (by omega) | exact h2 (by omega)
  · refine st_aload_n (q := 10) dX12_findings_9 rfl rfl ?_
    refine st_getR (q := 13) 12 1 dX12_findings_10 fl_X12_7 (by decide) (by decide) rfl rfl (wfk w rfl) (wfR w rfl) ?_
    refine st_iload_n (q := 14) dX12_findings_13 rfl rfl ?_
    refine st_iaload (q := 15) dX12_findings_14 rfl (wfk w rfl) (wfb w (n := 6) rfl ⟨by omega, by omega⟩) ?_
    refine st_goto (q := 19) dX12_findings_15 (by decide) ?_
    refine rt_i dX12_findings_19 rfl ?_
    first | exact h1 (by omega) | exact h2 (by omega)
/-- how many of the first n -/
def cnP (p : Nat → Bool) : Nat → Nat
  | 0 => 0
  | n + 1 => cnP p n + (if p n then 1 else 0)
theorem cnP_le (p : Nat → Bool) : ∀ n, cnP p n ≤ n
  | 0 => Nat.le_refl _
  | n + 1 => by
    have := cnP_le p n
    show cnP p n + (if p n then 1 else 0) ≤ n + 1
    split <;> omega
theorem cnP_cg {p r : Nat → Bool} : ∀ {n : Nat}, (∀ k, k < n → p k = r k) → cnP p n = cnP r n
  | 0, _ => rfl
  | n + 1, h => by
    show cnP p n + (if p n then 1 else 0) = cnP r n + (if r n then 1 else 0)
    rw [cnP_cg (fun k hk => h k (by omega)), h n (by omega)]
def cA (h : JH) (t : Int) (r : Nat) : Bool := decide (t = 0) && decide (0 ≤ hI h 119 r)
def cB (h : JH) (t : Int) (r : Nat) : Bool := decide (t = 1) && decide (0 ≤ hI h 122 r)
def cC (h : JH) (t : Int) (r : Nat) : Bool := (decide (t = 2) && decide (hI h 126 r ≠ 0)) || (decide (t = 4) && decide (0 < hI h 146 r))
def cD (q : MO) (t : Int) (r : Nat) : Bool := decide (t = 5) || (decide (t = 6) && decide (q.2 r 0 = 1 ∨ q.2 r 0 = 3 ∨ q.2 r 0 = 4))
def ctF (h : JH) (q : MO) (t : Int) : Int := if t = 3 then hI h 117 15 else ((cnP (cA h t) 6 + cnP (cB h t) 4 + cnP (cC h t) 8 + cnP (cD q t) q.1 : Nat) : Int)
theorem lp4_X12_counts {d : Nat} {h : JH} {P : Int → JH → Prop} {q : MO} {t : Int} {n : Nat} (w : WF h) (nm : NM h q) (qo : qOk q) (hn : n ≤ 100) (hP : P (if t = 3 then hI h 117 15 else ((n + cnP (cD q t) q.1 : Nat) : Int)) h) (m : Nat) (hm : m ≤ q.1) : JAt k0 (d + 1) jX12_counts 123 [vr 117, vi t, vi (n + cnP (cD q t) m : Nat), vi m] [] h (jqi P) := by
  have n1 := nm.1
  have q1 := qo.1
  have s1 := cnP_le (cD q t) m
  refine st_iload_n (q := 124) dX12_counts_123 rfl rfl ?_
  refine st_aload_n (q := 125) dX12_counts_124 rfl rfl ?_
  refine st_getI (q := 128) 12 47 dX12_counts_125 fl_X12_304 (by decide) (by decide) rfl rfl (wfk w rfl) ?_
  refine st_icmp_ge (q := 131) (tgt := 169) dX12_counts_128 (by decide) rfl (fun c128 => ?_) (fun c128 => ?_)
  · refine st_iload_n (q := 170) dX12_counts_169 rfl rfl ?_
    refine st_iconst (q := 171) dX12_counts_170 ⟨by decide, by decide⟩ rfl ?_
    apply j_mg 182
    · intro K1 K2
      refine st_icmp_ne (q := 174) (tgt := 181) dX12_counts_171 (by decide) rfl (fun c171 => ?_) (fun c171 => ?_)
      · refine st_iload_n (q := 182) dX12_counts_181 rfl rfl ?_
        exact K2 c171
      · refine st_aload_n (q := 175) dX12_counts_174 rfl rfl ?_
        refine st_getI (q := 178) 12 15 dX12_counts_175 fl_X12_215 (by decide) (by decide) rfl rfl (wfk w rfl) ?_
        refine st_goto (q := 182) dX12_counts_178 (by decide) ?_
        exact K1 c171
    · simp only [jif_if]
      refine rt_i dX12_counts_182 rfl ?_
      have ee : m = q.1 := by omega
      subst ee
      exact pq hP (by (repeat' split) <;> omega) rfl
  · refine st_iload_n (q := 132) dX12_counts_131 rfl rfl ?_
    refine st_iload_n (q := 133) dX12_counts_132 rfl rfl ?_
    refine st_iconst (q := 134) dX12_counts_133 ⟨by decide, by decide⟩ rfl ?_
    apply j_mg 161
    · intro K3 K4
      refine st_icmp_eq (q := 137) (tgt := 156) dX12_counts_134 (by decide) rfl (fun c134 => ?_) (fun c134 => ?_)
      · refine st_iconst (q := 157) dX12_counts_156 ⟨by decide, by decide⟩ rfl ?_
        refine st_goto (q := 161) dX12_counts_157 (by decide) ?_
        exact K3 c134
      · refine st_iload_n (q := 138) dX12_counts_137 rfl rfl ?_
        refine st_bipush (q := 140) dX12_counts_138 ⟨by decide, by decide⟩ rfl ?_
        apply j_mg 161
        · intro K5 K6
          refine st_icmp_ne (q := 143) (tgt := 160) dX12_counts_140 (by decide) rfl (fun c140 => ?_) (fun c140 => ?_)
          · refine st_iconst (q := 161) dX12_counts_160 ⟨by decide, by decide⟩ rfl ?_
            exact K6 c140
          · refine st_aload_n (q := 144) dX12_counts_143 rfl rfl ?_
            refine st_iload_n (q := 145) dX12_counts_144 rfl rfl ?_
            refine st_iconst (q := 146) dX12_counts_145 ⟨by decide, by decide⟩ rfl ?_
            refine iV2i (q := 149) dX12_counts_146 rfl ml_X12_310 mv_X12_part (Nat.le_of_ble_eq_true rfl) (wfk w rfl) ?_
            refine c_X12_part w nm qo (by omega) (by omega) ?_
            simp only [tn0, tn1, tn2, tn3, tn4]
            refine st_iconst (q := 150) dX12_counts_149 ⟨by decide, by decide⟩ rfl ?_
            refine iS2i (q := 153) dX12_counts_150 rfl ml_X12_313 ms_X12_isOf (Nat.le_of_ble_eq_true rfl) ?_
            refine c_X12_isOf ?_
            apply j_mg 161
            · intro K7 K8
              refine st_if_eq (q := 156) (tgt := 160) dX12_counts_153 (by decide) rfl (fun c153 => ?_) (fun c153 => ?_)
              · refine st_iconst (q := 161) dX12_counts_160 ⟨by decide, by decide⟩ rfl ?_
                exact K7 c153
              · refine st_iconst (q := 157) dX12_counts_156 ⟨by decide, by decide⟩ rfl ?_
                refine st_goto (q := 161) dX12_counts_157 (by decide) ?_
                exact K8 c153
            · simp only [jif_if]
              exact K5 c140
        · simp only [jif_if]
          exact K4 c134
    · simp only [jif_if]
      refine j_top ((if cD q t m then 1 else 0 : Nat) : Int) (by unfold cD; (repeat' split) <;> simp_all) ?_
      have s2 : (if cD q t m then 1 else 0 : Nat) ≤ 1 := by split <;> omega
      first | refine n_iadd (q := 162) dX12_counts_161 rfl ⟨by omega, by omega⟩ ?_ | refine st_iadd (q := 162) dX12_counts_161 rfl ?_
      refine st_istore_n (q := 163) (i := 2) dX12_counts_162 rfl (by decide) rfl ?_
      first | refine n_iinc (q := 166) dX12_counts_163 rfl (by decide) rfl ⟨by omega, by omega⟩ ?_ | refine st_iinc (q := 166) dX12_counts_163 rfl (by decide) rfl ?_
      refine st_goto (q := 123) dX12_counts_166 (by decide) ?_
      have := lp4_X12_counts (d := d) (n := n) w nm qo hn hP (m + 1) (by omega)
      rw [show n + cnP (cD q t) (m + 1) = n + cnP (cD q t) m + (if cD q t m then 1 else 0) from (Nat.add_assoc _ _ _).symm] at this
      exact this
termination_by q.1 - m
theorem lp3_X12_counts {d : Nat} {h : JH} {P : Int → JH → Prop} {q : MO} {t : Int} {n : Nat} (w : WF h) (nm : NM h q) (qo : qOk q) (hn : n ≤ 50) (hP : P (if t = 3 then hI h 117 15 else ((n + cnP (cC h t) 8 + cnP (cD q t) q.1 : Nat) : Int)) h) (m : Nat) (hm : m ≤ 8) : JAt k0 (d + 1) jX12_counts 74 [vr 117, vi t, vi (n + cnP (cC h t) m : Nat), vi m] [] h (jqi P) := by
  have s1 := cnP_le (cC h t) m
  refine st_iload_n (q := 75) dX12_counts_74 rfl rfl ?_
  refine st_bipush (q := 77) dX12_counts_75 ⟨by decide, by decide⟩ rfl ?_
  refine st_icmp_ge (q := 80) (tgt := 121) dX12_counts_77 (by decide) rfl (fun c77 => ?_) (fun c77 => ?_)
  · refine st_iconst (q := 122) dX12_counts_121 ⟨by decide, by decide⟩ rfl ?_
    refine st_istore_n (q := 123) (i := 3) dX12_counts_122 rfl (by decide) rfl ?_
    have ee : m = 8 := by omega
    subst ee
    exact lp4_X12_counts (n := n + cnP (cC h t) 8) w nm qo (by omega) hP 0 (by omega)
  · refine st_iload_n (q := 81) dX12_counts_80 rfl rfl ?_
    refine st_iload_n (q := 82) dX12_counts_81 rfl rfl ?_
    refine st_iconst (q := 83) dX12_counts_82 ⟨by decide, by decide⟩ rfl ?_
    apply j_mg 113
    · intro K1 K2
      refine st_icmp_ne (q := 86) (tgt := 94) dX12_counts_83 (by decide) rfl (fun c83 => ?_) (fun c83 => ?_)
      · refine st_iload_n (q := 95) dX12_counts_94 rfl rfl ?_
        refine st_iconst (q := 96) dX12_counts_95 ⟨by decide, by decide⟩ rfl ?_
        apply j_mg 113
        · intro K3 K4
          refine st_icmp_ne (q := 99) (tgt := 112) dX12_counts_96 (by decide) rfl (fun c96 => ?_) (fun c96 => ?_)
          · refine st_iconst (q := 113) dX12_counts_112 ⟨by decide, by decide⟩ rfl ?_
            exact K4 c96
          · refine st_aload_n (q := 100) dX12_counts_99 rfl rfl ?_
            refine st_getR (q := 103) 12 41 dX12_counts_100 fl_X12_105 (by decide) (by decide) rfl rfl (wfk w rfl) (wfR w rfl) ?_
            refine st_iload_n (q := 104) dX12_counts_103 rfl rfl ?_
            refine st_iaload (q := 105) dX12_counts_104 rfl (wfk w rfl) (wfb w (n := 8) rfl ⟨by omega, by omega⟩) ?_
            apply j_mg 113
            · intro K5 K6
              refine st_if_le (q := 108) (tgt := 112) dX12_counts_105 (by decide) rfl (fun c105 => ?_) (fun c105 => ?_)
              · refine st_iconst (q := 113) dX12_counts_112 ⟨by decide, by decide⟩ rfl ?_
                exact K5 c105
              · refine st_iconst (q := 109) dX12_counts_108 ⟨by decide, by decide⟩ rfl ?_
                refine st_goto (q := 113) dX12_counts_109 (by decide) ?_
                exact K6 c105
            · simp only [jif_if]
              exact K3 c96
        · simp only [jif_if]
          exact K2 c83
      · refine st_aload_n (q := 87) dX12_counts_86 rfl rfl ?_
        refine st_iload_n (q := 88) dX12_counts_87 rfl rfl ?_
        refine iV1i (q := 91) dX12_counts_88 rfl ml_X12_164 mv_X12_isThere (Nat.le_of_ble_eq_true rfl) (wfk w rfl) ?_
        refine c_X12_isThere w (by omega) ?_
        apply j_mg 113
        · intro K7 K8
          refine st_if_ne (q := 94) (tgt := 108) dX12_counts_91 (by decide) rfl (fun c91 => ?_) (fun c91 => ?_)
          · refine st_iconst (q := 109) dX12_counts_108 ⟨by decide, by decide⟩ rfl ?_
            refine st_goto (q := 113) dX12_counts_109 (by decide) ?_
            exact K8 c91
          · refine st_iload_n (q := 95) dX12_counts_94 rfl rfl ?_
            refine st_iconst (q := 96) dX12_counts_95 ⟨by decide, by decide⟩ rfl ?_
            apply j_mg 113
            · intro K9 K10
              refine st_icmp_ne (q := 99) (tgt := 112) dX12_counts_96 (by decide) rfl (fun c96 => ?_) (fun c96 => ?_)
              · refine st_iconst (q := 113) dX12_counts_112 ⟨by decide, by decide⟩ rfl ?_
                exact K10 c96
              · refine st_aload_n (q := 100) dX12_counts_99 rfl rfl ?_
                refine st_getR (q := 103) 12 41 dX12_counts_100 fl_X12_105 (by decide) (by decide) rfl rfl (wfk w rfl) (wfR w rfl) ?_
                refine st_iload_n (q := 104) dX12_counts_103 rfl rfl ?_
                refine st_iaload (q := 105) dX12_counts_104 rfl (wfk w rfl) (wfb w (n := 8) rfl ⟨by omega, by omega⟩) ?_
                apply j_mg 113
                · intro K11 K12
                  refine st_if_le (q := 108) (tgt := 112) dX12_counts_105 (by decide) rfl (fun c105 => ?_) (fun c105 => ?_)
                  · refine st_iconst (q := 113) dX12_counts_112 ⟨by decide, by decide⟩ rfl ?_
                    exact K11 c105
                  · refine st_iconst (q := 109) dX12_counts_108 ⟨by decide, by decide⟩ rfl ?_
                    refine st_goto (q := 113) dX12_counts_109 (by decide) ?_
                    exact K12 c105
                · simp only [jif_if]
                  exact K9 c96
            · simp only [jif_if]
              exact K7 c91
        · simp only [jif_if]
          exact K1 c83
    · simp only [jif_if]
      refine j_top ((if cC h t m then 1 else 0 : Nat) : Int) (by rw [show ((m : Int)).toNat = m from rfl]; unfold cC; (repeat' split) <;> simp_all <;> omega) ?_
      have s2 : (if cC h t m then 1 else 0 : Nat) ≤ 1 := by split <;> omega
      first | refine n_iadd (q := 114) dX12_counts_113 rfl ⟨by omega, by omega⟩ ?_ | refine st_iadd (q := 114) dX12_counts_113 rfl ?_
      refine st_istore_n (q := 115) (i := 2) dX12_counts_114 rfl (by decide) rfl ?_
      first | refine n_iinc (q := 118) dX12_counts_115 rfl (by decide) rfl ⟨by omega, by omega⟩ ?_ | refine st_iinc (q := 118) dX12_counts_115 rfl (by decide) rfl ?_
      refine st_goto (q := 74) dX12_counts_118 (by decide) ?_
      have := lp3_X12_counts (d := d) (n := n) w nm qo hn hP (m + 1) (by omega)
      rw [show n + cnP (cC h t) (m + 1) = n + cnP (cC h t) m + (if cC h t m then 1 else 0) from (Nat.add_assoc _ _ _).symm] at this
      exact this
termination_by 8 - m
theorem lp2_X12_counts {d : Nat} {h : JH} {P : Int → JH → Prop} {q : MO} {t : Int} {n : Nat} (w : WF h) (nm : NM h q) (qo : qOk q) (hn : n ≤ 20) (hP : P (if t = 3 then hI h 117 15 else ((n + cnP (cB h t) 4 + cnP (cC h t) 8 + cnP (cD q t) q.1 : Nat) : Int)) h) (m : Nat) (hm : m ≤ 4) : JAt k0 (d + 1) jX12_counts 39 [vr 117, vi t, vi (n + cnP (cB h t) m : Nat), vi m] [] h (jqi P) := by
  have s1 := cnP_le (cB h t) m
  refine st_iload_n (q := 40) dX12_counts_39 rfl rfl ?_
  refine st_iconst (q := 41) dX12_counts_40 ⟨by decide, by decide⟩ rfl ?_
  refine st_icmp_ge (q := 44) (tgt := 72) dX12_counts_41 (by decide) rfl (fun c41 => ?_) (fun c41 => ?_)
  · refine st_iconst (q := 73) dX12_counts_72 ⟨by decide, by decide⟩ rfl ?_
    refine st_istore_n (q := 74) (i := 3) dX12_counts_73 rfl (by decide) rfl ?_
    have ee : m = 4 := by omega
    subst ee
    exact lp3_X12_counts (n := n + cnP (cB h t) 4) w nm qo (by omega) hP 0 (by omega)
  · refine st_iload_n (q := 45) dX12_counts_44 rfl rfl ?_
    refine st_iload_n (q := 46) dX12_counts_45 rfl rfl ?_
    refine st_iconst (q := 47) dX12_counts_46 ⟨by decide, by decide⟩ rfl ?_
    apply j_mg 64
    · intro K1 K2
      refine st_icmp_ne (q := 50) (tgt := 63) dX12_counts_47 (by decide) rfl (fun c47 => ?_) (fun c47 => ?_)
      · refine st_iconst (q := 64) dX12_counts_63 ⟨by decide, by decide⟩ rfl ?_
        exact K2 c47
      · refine st_aload_n (q := 51) dX12_counts_50 rfl rfl ?_
        refine st_getR (q := 54) 12 8 dX12_counts_51 fl_X12_26 (by decide) (by decide) rfl rfl (wfk w rfl) (wfR w rfl) ?_
        refine st_iload_n (q := 55) dX12_counts_54 rfl rfl ?_
        refine st_iaload (q := 56) dX12_counts_55 rfl (wfk w rfl) (wfb w (n := 4) rfl ⟨by omega, by omega⟩) ?_
        apply j_mg 64
        · intro K3 K4
          refine st_if_lt (q := 59) (tgt := 63) dX12_counts_56 (by decide) rfl (fun c56 => ?_) (fun c56 => ?_)
          · refine st_iconst (q := 64) dX12_counts_63 ⟨by decide, by decide⟩ rfl ?_
            exact K3 c56
          · refine st_iconst (q := 60) dX12_counts_59 ⟨by decide, by decide⟩ rfl ?_
            refine st_goto (q := 64) dX12_counts_60 (by decide) ?_
            exact K4 c56
        · simp only [jif_if]
          exact K1 c47
    · simp only [jif_if]
      refine j_top ((if cB h t m then 1 else 0 : Nat) : Int) (by rw [show ((m : Int)).toNat = m from rfl]; unfold cB; (repeat' split) <;> simp_all <;> omega) ?_
      have s2 : (if cB h t m then 1 else 0 : Nat) ≤ 1 := by split <;> omega
      first | refine n_iadd (q := 65) dX12_counts_64 rfl ⟨by omega, by omega⟩ ?_ | refine st_iadd (q := 65) dX12_counts_64 rfl ?_
      refine st_istore_n (q := 66) (i := 2) dX12_counts_65 rfl (by decide) rfl ?_
      first | refine n_iinc (q := 69) dX12_counts_66 rfl (by decide) rfl ⟨by omega, by omega⟩ ?_ | refine st_iinc (q := 69) dX12_counts_66 rfl (by decide) rfl ?_
      refine st_goto (q := 39) dX12_counts_69 (by decide) ?_
      have := lp2_X12_counts (d := d) (n := n) w nm qo hn hP (m + 1) (by omega)
      rw [show n + cnP (cB h t) (m + 1) = n + cnP (cB h t) m + (if cB h t m then 1 else 0) from (Nat.add_assoc _ _ _).symm] at this
      exact this
termination_by 4 - m
theorem lp1_X12_counts {d : Nat} {h : JH} {P : Int → JH → Prop} {q : MO} {t : Int} (w : WF h) (nm : NM h q) (qo : qOk q) (hP : P (ctF h q t) h) (m : Nat) (hm : m ≤ 6) : JAt k0 (d + 1) jX12_counts 4 [vr 117, vi t, vi (cnP (cA h t) m : Nat), vi m] [] h (jqi P) := by
  have s1 := cnP_le (cA h t) m
  refine st_iload_n (q := 5) dX12_counts_4 rfl rfl ?_
  refine st_bipush (q := 7) dX12_counts_5 ⟨by decide, by decide⟩ rfl ?_
  refine st_icmp_ge (q := 10) (tgt := 37) dX12_counts_7 (by decide) rfl (fun c7 => ?_) (fun c7 => ?_)
  · refine st_iconst (q := 38) dX12_counts_37 ⟨by decide, by decide⟩ rfl ?_
    refine st_istore_n (q := 39) (i := 3) dX12_counts_38 rfl (by decide) rfl ?_
    have ee : m = 6 := by omega
    subst ee
    exact lp2_X12_counts (n := cnP (cA h t) 6) w nm qo (by omega) hP 0 (by omega)
  · refine st_iload_n (q := 11) dX12_counts_10 rfl rfl ?_
    refine st_iload_n (q := 12) dX12_counts_11 rfl rfl ?_
    apply j_mg 29
    · intro K1 K2
      refine st_if_ne (q := 15) (tgt := 28) dX12_counts_12 (by decide) rfl (fun c12 => ?_) (fun c12 => ?_)
      · refine st_iconst (q := 29) dX12_counts_28 ⟨by decide, by decide⟩ rfl ?_
        exact K2 c12
      · refine st_aload_n (q := 16) dX12_counts_15 rfl rfl ?_
        refine st_getR (q := 19) 12 5 dX12_counts_16 fl_X12_17 (by decide) (by decide) rfl rfl (wfk w rfl) (wfR w rfl) ?_
        refine st_iload_n (q := 20) dX12_counts_19 rfl rfl ?_
        refine st_iaload (q := 21) dX12_counts_20 rfl (wfk w rfl) (wfb w (n := 6) rfl ⟨by omega, by omega⟩) ?_
        apply j_mg 29
        · intro K3 K4
          refine st_if_lt (q := 24) (tgt := 28) dX12_counts_21 (by decide) rfl (fun c21 => ?_) (fun c21 => ?_)
          · refine st_iconst (q := 29) dX12_counts_28 ⟨by decide, by decide⟩ rfl ?_
            exact K3 c21
          · refine st_iconst (q := 25) dX12_counts_24 ⟨by decide, by decide⟩ rfl ?_
            refine st_goto (q := 29) dX12_counts_25 (by decide) ?_
            exact K4 c21
        · simp only [jif_if]
          exact K1 c12
    · simp only [jif_if]
      refine j_top ((if cA h t m then 1 else 0 : Nat) : Int) (by rw [show ((m : Int)).toNat = m from rfl]; unfold cA; (repeat' split) <;> simp_all <;> omega) ?_
      have s2 : (if cA h t m then 1 else 0 : Nat) ≤ 1 := by split <;> omega
      first | refine n_iadd (q := 30) dX12_counts_29 rfl ⟨by omega, by omega⟩ ?_ | refine st_iadd (q := 30) dX12_counts_29 rfl ?_
      refine st_istore_n (q := 31) (i := 2) dX12_counts_30 rfl (by decide) rfl ?_
      first | refine n_iinc (q := 34) dX12_counts_31 rfl (by decide) rfl ⟨by omega, by omega⟩ ?_ | refine st_iinc (q := 34) dX12_counts_31 rfl (by decide) rfl ?_
      refine st_goto (q := 4) dX12_counts_34 (by decide) ?_
      exact lp1_X12_counts w nm qo hP (m + 1) (by omega)
termination_by 6 - m
theorem c_X12_counts {d : Nat} {h : JH} {P : Int → JH → Prop} {q : MO} {t : Int} (w : WF h) (nm : NM h q) (qo : qOk q) (hP : P (ctF h q t) h) : JRi (d + 1) jX12_counts [vr 117, vi t] h P := by
  refine JRet.of rfl (Nat.le_of_ble_eq_true rfl) ?_
  refine st_iconst (q := 1) dX12_counts_0 ⟨by decide, by decide⟩ rfl ?_
  refine st_istore_n (q := 2) (i := 2) dX12_counts_1 rfl (by decide) rfl ?_
  refine st_iconst (q := 3) dX12_counts_2 ⟨by decide, by decide⟩ rfl ?_
  refine st_istore_n (q := 4) (i := 3) dX12_counts_3 rfl (by decide) rfl ?_
  exact lp1_X12_counts w nm qo hP 0 (by omega)
theorem c_X12_count {d : Nat} {h : JH} {P : Int → JH → Prop} {q : MO} {t : Int} (w : WF h) (nm : NM h q) (qo : qOk q) (h1 : ¬ (0 ≤ t ∧ t ≤ 6) → P (-1) h) (h2 : 0 ≤ t ∧ t ≤ 6 → P (ctF h q t) h) : JRi (d + 2) jX12_count [vr 117, vi t] h P := by
  refine JRet.of rfl (Nat.le_of_ble_eq_true rfl) ?_
  refine st_iload_n (q := 1) dX12_count_0 rfl rfl ?_
  refine st_iconst (q := 2) dX12_count_1 ⟨by decide, by decide⟩ rfl ?_
  refine st_bipush (q := 4) dX12_count_2 ⟨by decide, by decide⟩ rfl ?_
  refine iS3i (q := 7) dX12_count_4 rfl ml_X12_130 ms_X12_in (Nat.le_of_ble_eq_true rfl) ?_
  refine c_X12_in ?_
  refine st_if_eq (q := 10) (tgt := 18) dX12_count_7 (by decide) rfl (fun c7 => ?_) (fun c7 => ?_)
  · refine st_iconst (q := 19) dX12_count_18 ⟨by decide, by decide⟩ rfl ?_
    refine rt_i dX12_count_19 rfl ?_
    first | exact h1 (by omega) | exact h2 (by omega)
  · refine st_aload_n (q := 11) dX12_count_10 rfl rfl ?_
    refine st_iload_n (q := 12) dX12_count_11 rfl rfl ?_
    refine iV1i (q := 15) dX12_count_12 rfl ml_X12_325 mv_X12_counts (Nat.le_of_ble_eq_true rfl) (wfk w rfl) ?_
    refine c_X12_counts w nm qo ?_
    refine st_goto (q := 19) dX12_count_15 (by decide) ?_
    refine rt_i dX12_count_19 rfl ?_
    first | exact h1 (by omega) | exact h2 (by omega)

