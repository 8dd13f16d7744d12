/-! the model: digest, the rest -/
theorem lp2i_X12_mixNight {d : Nat} {h : JH} {P : JH → Prop} {y : SY} {a : Int} {s : Nat} (w : WF h) (m : SM h y) (o : yOk y) (hs : s < y.1) (hK : ∀ j, JAt k0 (d + 1) jX12_mixNight 102 [vr 117, vi s, j] [] (sJ h 117 49 (sq1 (fun x => ytell y s x) a 5)) (jqv P)) (x : Nat) (hx : x ≤ 5) : JAt k0 (d + 1) jX12_mixNight 81 [vr 117, vi s, vi x] [] (sJ h 117 49 (sq1 (fun x => ytell y s x) a x)) (jqv P) := by
  refine st_iload_n (q := 82) dX12_mixNight_81 rfl rfl ?_
  refine st_iconst (q := 83) dX12_mixNight_82 ⟨by decide, by decide⟩ rfl ?_
  refine st_icmp_gt (q := 86) (tgt := 102) dX12_mixNight_83 (by decide) rfl (fun c83 => ?_) (fun c83 => ?_)
  · have e : x = 5 := by omega
    subst e
    exact hK _
  · refine st_aload_n (q := 87) dX12_mixNight_86 rfl rfl ?_
    refine st_aload_n (q := 88) dX12_mixNight_87 rfl rfl ?_
    refine st_iload_n (q := 89) dX12_mixNight_88 rfl rfl ?_
    refine st_iload_n (q := 90) dX12_mixNight_89 rfl rfl ?_
    refine iV2i (q := 93) dX12_mixNight_90 rfl ml_X12_221 mv_X12_sceneTells (Nat.le_of_ble_eq_true rfl) (wfk w rfl) ?_
    refine c_X12_sceneTells w m o hs ?_
    refine iV1v (q := 96) dX12_mixNight_93 rfl ml_X12_333 mv_X12_mix (Nat.le_of_ble_eq_true rfl) (wfk w rfl) ?_
    refine c_X12_mix w ?_
    first | refine n_iinc (q := 99) dX12_mixNight_96 rfl (by decide) rfl ⟨by omega, by omega⟩ ?_ | refine st_iinc (q := 99) dX12_mixNight_96 rfl (by decide) rfl ?_
    refine st_goto (q := 81) dX12_mixNight_99 (by decide) ?_
    exact lp2i_X12_mixNight w m o hs hK (x + 1) (by omega)
termination_by 5 - x
theorem lp2_X12_mixNight {d : Nat} {h : JH} {P : JH → Prop} {y : SY} {a : Int} (w : WF h) (m : SM h y) (o : yOk y) (hK : ∀ j, JAt k0 (d + 1) jX12_mixNight 138 [vr 117, vi y.1, j] [] (sJ h 117 49 (itA (dgY y) a y.1)) (jqv P)) (s : Nat) (hs : s ≤ y.1) : ∀ j, JAt k0 (d + 1) jX12_mixNight 71 [vr 117, vi s, j] [] (sJ h 117 49 (itA (dgY y) a s)) (jqv P) := by
  intro j
  have m1 : hI h 117 15 = (y.1 : Int) := m.1
  have o1 := o.1
  have hR : s < y.1 → ∀ j, JAt k0 (d + 1) jX12_mixNight 102 [vr 117, vi s, j] [] (sJ h 117 49 (sq1 (fun x => ytell y s x) (itA (dgY y) a s) 5)) (jqv P) := by
    intro hlt j
    have m2 := m.2 s hlt
    refine st_aload_n (q := 103) dX12_mixNight_102 rfl rfl ?_
    refine st_aload_n (q := 104) dX12_mixNight_103 rfl rfl ?_
    refine st_getR (q := 107) 12 29 dX12_mixNight_104 fl_X12_78 (by decide) (by decide) rfl rfl (wfk w rfl) (wfR w rfl) ?_
    refine st_iload_n (q := 108) dX12_mixNight_107 rfl rfl ?_
    refine st_iaload (q := 109) dX12_mixNight_108 rfl (wfk w rfl) (wfb w (n := 12) rfl ⟨by omega, by omega⟩) ?_
    refine j_top (yMf y s) m2.2.2.2.2.2.1 ?_
    refine iV1v (q := 112) dX12_mixNight_109 rfl ml_X12_333 mv_X12_mix (Nat.le_of_ble_eq_true rfl) (wfk w rfl) ?_
    refine c_X12_mix w ?_
    refine st_aload_n (q := 113) dX12_mixNight_112 rfl rfl ?_
    refine st_aload_n (q := 114) dX12_mixNight_113 rfl rfl ?_
    refine st_getR (q := 117) 12 30 dX12_mixNight_114 fl_X12_81 (by decide) (by decide) rfl rfl (wfk w rfl) (wfR w rfl) ?_
    refine st_iload_n (q := 118) dX12_mixNight_117 rfl rfl ?_
    refine st_iaload (q := 119) dX12_mixNight_118 rfl (wfk w rfl) (wfb w (n := 12) rfl ⟨by omega, by omega⟩) ?_
    refine j_top (yMt y s) m2.2.2.2.2.2.2.1 ?_
    refine iV1v (q := 122) dX12_mixNight_119 rfl ml_X12_333 mv_X12_mix (Nat.le_of_ble_eq_true rfl) (wfk w rfl) ?_
    refine c_X12_mix w ?_
    refine st_aload_n (q := 123) dX12_mixNight_122 rfl rfl ?_
    refine st_aload_n (q := 124) dX12_mixNight_123 rfl rfl ?_
    refine st_getR (q := 127) 12 31 dX12_mixNight_124 fl_X12_84 (by decide) (by decide) rfl rfl (wfk w rfl) (wfR w rfl) ?_
    refine st_iload_n (q := 128) dX12_mixNight_127 rfl rfl ?_
    refine st_iaload (q := 129) dX12_mixNight_128 rfl (wfk w rfl) (wfb w (n := 12) rfl ⟨by omega, by omega⟩) ?_
    refine j_top ((yNd y s : Nat) : Int) m2.2.2.2.2.2.2.2 ?_
    refine iV1v (q := 132) dX12_mixNight_129 rfl ml_X12_333 mv_X12_mix (Nat.le_of_ble_eq_true rfl) (wfk w rfl) ?_
    refine c_X12_mix w ?_
    first | refine n_iinc (q := 135) dX12_mixNight_132 rfl (by decide) rfl ⟨by omega, by omega⟩ ?_ | refine st_iinc (q := 135) dX12_mixNight_132 rfl (by decide) rfl ?_
    refine st_goto (q := 71) dX12_mixNight_135 (by decide) ?_
    exact lp2_X12_mixNight w m o hK (s + 1) (by omega) _
  refine st_iload_n (q := 72) dX12_mixNight_71 rfl rfl ?_
  refine st_aload_n (q := 73) dX12_mixNight_72 rfl rfl ?_
  refine st_getI (q := 76) 12 15 dX12_mixNight_73 fl_X12_215 (by decide) (by decide) rfl rfl (wfk w rfl) ?_
  refine j_top (y.1 : Int) m1 ?_
  refine st_icmp_ge (q := 79) (tgt := 138) dX12_mixNight_76 (by decide) rfl (fun c76 => ?_) (fun c76 => ?_)
  · have e : s = y.1 := by omega
    subst e
    exact hK _
  · refine st_iconst (q := 80) dX12_mixNight_79 ⟨by decide, by decide⟩ rfl ?_
    refine st_istore_n (q := 81) (i := 2) dX12_mixNight_80 rfl (by decide) rfl ?_
    exact lp2i_X12_mixNight w m o (by omega) (hR (by omega)) 0 (by omega)
termination_by y.1 - s
theorem lp1_X12_mixNight {d : Nat} {h : JH} {P : JH → Prop} {u : HD} {a : Int} (w : WF h) (m : HM h u) (o : uOk u) (hK : ∀ j, JAt k0 (d + 3) jX12_mixNight 53 [vr 117, vi 8, j] [] (sJ h 117 49 (itA (dgH u) a 8)) (jqv P)) (k : Nat) (hk : k ≤ 8) : ∀ j, JAt k0 (d + 3) jX12_mixNight 2 [vr 117, vi k, j] [] (sJ h 117 49 (itA (dgH u) a k)) (jqv P) := by
  intro j
  have m1 : k < 8 → hI h 124 k = (uW u k : Nat) ∧ hI h 125 k = (uH u k : Nat) ∧ hI h 126 k = (uO u k : Nat) := fun z => m k z
  have e0 : itA (dgH u) a (k + 1) = if uO u k = 0 then dgS (itA (dgH u) a k) (-1) else dgS (dgS (dgS (itA (dgH u) a k) (uW u k)) (uH u k)) (uO u k) := rfl
  refine st_iload_n (q := 3) dX12_mixNight_2 rfl rfl ?_
  refine st_bipush (q := 5) dX12_mixNight_3 ⟨by decide, by decide⟩ rfl ?_
  refine st_icmp_ge (q := 8) (tgt := 53) dX12_mixNight_5 (by decide) rfl (fun c5 => ?_) (fun c5 => ?_)
  · have e : k = 8 := by omega
    subst e
    exact hK _
  · refine st_aload_n (q := 9) dX12_mixNight_8 rfl rfl ?_
    refine st_iload_n (q := 10) dX12_mixNight_9 rfl rfl ?_
    refine iV1i (q := 13) dX12_mixNight_10 rfl ml_X12_164 mv_X12_isThere (Nat.le_of_ble_eq_true rfl) (wfk w rfl) ?_
    refine c_X12_isThere w (by omega) ?_
    refine j_top (if uO u k = 0 then 0 else 1) (by rw [show hI (sJ h 117 49 (itA (dgH u) a k)) 126 ((k : Int)).toNat = (uO u k : Nat) from (m1 (by omega)).2.2]; (repeat' split) <;> omega) ?_
    refine st_if_ne (q := 16) (tgt := 24) dX12_mixNight_13 (by decide) rfl (fun c13 => ?_) (fun c13 => ?_)
    · refine st_iconst (q := 25) dX12_mixNight_24 ⟨by decide, by decide⟩ rfl ?_
      refine st_istore_n (q := 26) (i := 2) dX12_mixNight_25 rfl (by decide) rfl ?_
      refine st_iload_n (q := 27) dX12_mixNight_26 rfl rfl ?_
      refine st_iconst (q := 28) dX12_mixNight_27 ⟨by decide, by decide⟩ rfl ?_
      refine st_icmp_gt (q := 31) (tgt := 47) dX12_mixNight_28 (by decide) rfl (fun z => absurd z (by decide)) (fun _ => ?_)
      refine st_aload_n (q := 32) dX12_mixNight_31 rfl rfl ?_
      refine st_aload_n (q := 33) dX12_mixNight_32 rfl rfl ?_
      refine st_iload_n (q := 34) dX12_mixNight_33 rfl rfl ?_
      refine st_iload_n (q := 35) dX12_mixNight_34 rfl rfl ?_
      refine iV2i (q := 38) dX12_mixNight_35 rfl ml_X12_181 mv_X12_aboutOf (Nat.le_of_ble_eq_true rfl) (wfk w rfl) ?_
      have m2 := m1 (by omega)
      have o2 := (o k (by omega)).2.2
      refine c_X12_aboutOf w (by omega) ⟨by rw [show hI (sJ h 117 49 _) 126 ((k : Int)).toNat = (uO u k : Nat) from m2.2.2]; omega, by rw [show hI (sJ h 117 49 _) 126 ((k : Int)).toNat = (uO u k : Nat) from m2.2.2]; omega⟩ ?_
      first | refine j_top ((uW u k : Nat) : Int) (show hI h 124 k = _ from m2.1) ?_ | refine j_top ((uH u k : Nat) : Int) (show hI h 125 k = _ from m2.2.1) ?_ | refine j_top ((uO u k : Nat) : Int) (show hI h 126 k = _ from m2.2.2) ?_
      refine iV1v (q := 41) dX12_mixNight_38 rfl ml_X12_333 mv_X12_mix (Nat.le_of_ble_eq_true rfl) (wfk w rfl) ?_
      refine c_X12_mix w ?_
      refine n_iinc (q := 44) dX12_mixNight_41 rfl (by decide) rfl ⟨by decide, by decide⟩ ?_
      rw [show (0 : Int) + 1 = 1 from rfl]
      refine st_goto (q := 26) dX12_mixNight_44 (by decide) ?_
      refine st_iload_n (q := 27) dX12_mixNight_26 rfl rfl ?_
      refine st_iconst (q := 28) dX12_mixNight_27 ⟨by decide, by decide⟩ rfl ?_
      refine st_icmp_gt (q := 31) (tgt := 47) dX12_mixNight_28 (by decide) rfl (fun z => absurd z (by decide)) (fun _ => ?_)
      refine st_aload_n (q := 32) dX12_mixNight_31 rfl rfl ?_
      refine st_aload_n (q := 33) dX12_mixNight_32 rfl rfl ?_
      refine st_iload_n (q := 34) dX12_mixNight_33 rfl rfl ?_
      refine st_iload_n (q := 35) dX12_mixNight_34 rfl rfl ?_
      refine iV2i (q := 38) dX12_mixNight_35 rfl ml_X12_181 mv_X12_aboutOf (Nat.le_of_ble_eq_true rfl) (wfk w rfl) ?_
      have m2 := m1 (by omega)
      have o2 := (o k (by omega)).2.2
      refine c_X12_aboutOf w (by omega) ⟨by rw [show hI (sJ h 117 49 _) 126 ((k : Int)).toNat = (uO u k : Nat) from m2.2.2]; omega, by rw [show hI (sJ h 117 49 _) 126 ((k : Int)).toNat = (uO u k : Nat) from m2.2.2]; omega⟩ ?_
      first | refine j_top ((uW u k : Nat) : Int) (show hI h 124 k = _ from m2.1) ?_ | refine j_top ((uH u k : Nat) : Int) (show hI h 125 k = _ from m2.2.1) ?_ | refine j_top ((uO u k : Nat) : Int) (show hI h 126 k = _ from m2.2.2) ?_
      refine iV1v (q := 41) dX12_mixNight_38 rfl ml_X12_333 mv_X12_mix (Nat.le_of_ble_eq_true rfl) (wfk w rfl) ?_
      refine c_X12_mix w ?_
      refine n_iinc (q := 44) dX12_mixNight_41 rfl (by decide) rfl ⟨by decide, by decide⟩ ?_
      rw [show (1 : Int) + 1 = 2 from rfl]
      refine st_goto (q := 26) dX12_mixNight_44 (by decide) ?_
      refine st_iload_n (q := 27) dX12_mixNight_26 rfl rfl ?_
      refine st_iconst (q := 28) dX12_mixNight_27 ⟨by decide, by decide⟩ rfl ?_
      refine st_icmp_gt (q := 31) (tgt := 47) dX12_mixNight_28 (by decide) rfl (fun z => absurd z (by decide)) (fun _ => ?_)
      refine st_aload_n (q := 32) dX12_mixNight_31 rfl rfl ?_
      refine st_aload_n (q := 33) dX12_mixNight_32 rfl rfl ?_
      refine st_iload_n (q := 34) dX12_mixNight_33 rfl rfl ?_
      refine st_iload_n (q := 35) dX12_mixNight_34 rfl rfl ?_
      refine iV2i (q := 38) dX12_mixNight_35 rfl ml_X12_181 mv_X12_aboutOf (Nat.le_of_ble_eq_true rfl) (wfk w rfl) ?_
      have m2 := m1 (by omega)
      have o2 := (o k (by omega)).2.2
      refine c_X12_aboutOf w (by omega) ⟨by rw [show hI (sJ h 117 49 _) 126 ((k : Int)).toNat = (uO u k : Nat) from m2.2.2]; omega, by rw [show hI (sJ h 117 49 _) 126 ((k : Int)).toNat = (uO u k : Nat) from m2.2.2]; omega⟩ ?_
      first | refine j_top ((uW u k : Nat) : Int) (show hI h 124 k = _ from m2.1) ?_ | refine j_top ((uH u k : Nat) : Int) (show hI h 125 k = _ from m2.2.1) ?_ | refine j_top ((uO u k : Nat) : Int) (show hI h 126 k = _ from m2.2.2) ?_
      refine iV1v (q := 41) dX12_mixNight_38 rfl ml_X12_333 mv_X12_mix (Nat.le_of_ble_eq_true rfl) (wfk w rfl) ?_
      refine c_X12_mix w ?_
      refine n_iinc (q := 44) dX12_mixNight_41 rfl (by decide) rfl ⟨by decide, by decide⟩ ?_
      rw [show (2 : Int) + 1 = 3 from rfl]
      refine st_goto (q := 26) dX12_mixNight_44 (by decide) ?_
      refine st_iload_n (q := 27) dX12_mixNight_26 rfl rfl ?_
      refine st_iconst (q := 28) dX12_mixNight_27 ⟨by decide, by decide⟩ rfl ?_
      refine st_icmp_gt (q := 31) (tgt := 47) dX12_mixNight_28 (by decide) rfl (fun _ => ?_) (fun z => absurd z (by decide))
      first | refine n_iinc (q := 50) dX12_mixNight_47 rfl (by decide) rfl ⟨by omega, by omega⟩ ?_ | refine st_iinc (q := 50) dX12_mixNight_47 rfl (by decide) rfl ?_
      refine st_goto (q := 2) dX12_mixNight_50 (by decide) ?_
      first | (rw [if_pos (by omega)] at e0; have := lp1_X12_mixNight (d := d) w m o hK (k + 1) (by omega) j; rw [e0] at this; exact this) | (rw [if_neg (by omega)] at e0; have := lp1_X12_mixNight (d := d) w m o hK (k + 1) (by omega) (vi 3); rw [e0] at this; exact this)
    · refine st_aload_n (q := 17) dX12_mixNight_16 rfl rfl ?_
      refine st_iconst (q := 18) dX12_mixNight_17 ⟨by decide, by decide⟩ rfl ?_
      refine iV1v (q := 21) dX12_mixNight_18 rfl ml_X12_333 mv_X12_mix (Nat.le_of_ble_eq_true rfl) (wfk w rfl) ?_
      refine c_X12_mix w ?_
      refine st_goto (q := 47) dX12_mixNight_21 (by decide) ?_
      first | refine n_iinc (q := 50) dX12_mixNight_47 rfl (by decide) rfl ⟨by omega, by omega⟩ ?_ | refine st_iinc (q := 50) dX12_mixNight_47 rfl (by decide) rfl ?_
      refine st_goto (q := 2) dX12_mixNight_50 (by decide) ?_
      first | (rw [if_pos (by omega)] at e0; have := lp1_X12_mixNight (d := d) w m o hK (k + 1) (by omega) j; rw [e0] at this; exact this) | (rw [if_neg (by omega)] at e0; have := lp1_X12_mixNight (d := d) w m o hK (k + 1) (by omega) (vi 3); rw [e0] at this; exact this)
termination_by 8 - k
theorem c_X12_mixNight {d : Nat} {h : JH} {P : JH → Prop} {u : HD} {y : SY} {g : SG} {q : MO} {a : Int} (w : WF h) (mu : HM h u) (ou : uOk u) (m : SM h y) (o : yOk y) (mg : GM h g) (og : gOk g) (nm : NM h q) (qo : qOk q) (hP : P (sJ h 117 49 (dgN u (hI h 117 13) (hI h 117 14) y g (hI h 150) (5 * q.1) a))) : JRv (d + 3) jX12_mixNight [vr 117] (sJ h 117 49 a) P := by
  have hE : ∀ j, JAt k0 (d + 3) jX12_mixNight 207 [vr 117, vi 8, j] [] (sJ h 117 49 (itA (dgG g) (itA (dgY y) (dgS (dgS (itA (dgH u) a 8) (hI h 117 13)) (hI h 117 14)) y.1) 8)) (jqv P) := by
    intro j
    refine st_iconst (q := 208) dX12_mixNight_207 ⟨by decide, by decide⟩ rfl ?_
    refine st_istore_n (q := 209) (i := 1) dX12_mixNight_208 rfl (by decide) rfl ?_
    exact lp5_X12_mixNight w nm qo hP 0 (by omega) _
  have hD : ∀ j, JAt k0 (d + 3) jX12_mixNight 138 [vr 117, vi y.1, j] [] (sJ h 117 49 (itA (dgY y) (dgS (dgS (itA (dgH u) a 8) (hI h 117 13)) (hI h 117 14)) y.1)) (jqv P) := by
    intro j
    refine st_iconst (q := 139) dX12_mixNight_138 ⟨by decide, by decide⟩ rfl ?_
    refine st_istore_n (q := 140) (i := 1) dX12_mixNight_139 rfl (by decide) rfl ?_
    exact lp3_X12_mixNight w mg og hE 0 (by omega) _
  have hC : ∀ j, JAt k0 (d + 3) jX12_mixNight 53 [vr 117, vi 8, j] [] (sJ h 117 49 (itA (dgH u) a 8)) (jqv P) := by
    intro j
    refine st_aload_n (q := 54) dX12_mixNight_53 rfl rfl ?_
    refine st_aload_n (q := 55) dX12_mixNight_54 rfl rfl ?_
    refine st_getI (q := 58) 12 13 dX12_mixNight_55 fl_X12_41 (by decide) (by decide) rfl rfl (wfk w rfl) ?_
    refine iV1v (q := 61) dX12_mixNight_58 rfl ml_X12_333 mv_X12_mix (Nat.le_of_ble_eq_true rfl) (wfk w rfl) ?_
    refine c_X12_mix w ?_
    refine st_aload_n (q := 62) dX12_mixNight_61 rfl rfl ?_
    refine st_aload_n (q := 63) dX12_mixNight_62 rfl rfl ?_
    refine st_getI (q := 66) 12 14 dX12_mixNight_63 fl_X12_45 (by decide) (by decide) rfl rfl (wfk w rfl) ?_
    refine iV1v (q := 69) dX12_mixNight_66 rfl ml_X12_333 mv_X12_mix (Nat.le_of_ble_eq_true rfl) (wfk w rfl) ?_
    refine c_X12_mix w ?_
    refine st_iconst (q := 70) dX12_mixNight_69 ⟨by decide, by decide⟩ rfl ?_
    refine st_istore_n (q := 71) (i := 1) dX12_mixNight_70 rfl (by decide) rfl ?_
    exact lp2_X12_mixNight w m o hD 0 (by omega) _
  refine JRet.of rfl (Nat.le_of_ble_eq_true rfl) ?_
  refine st_iconst (q := 1) dX12_mixNight_0 ⟨by decide, by decide⟩ rfl ?_
  refine st_istore_n (q := 2) (i := 1) dX12_mixNight_1 rfl (by decide) rfl ?_
  exact lp1_X12_mixNight w mu ou hC 0 (by omega) _
def dgR (sz : Nat → Int) (f : Nat → Nat → Int) (r : Nat) (a : Int) : Int := sq1 (f r) (dgS a (if sz r < 0 then -1 else sz r)) (sz r).toNat
theorem lp3i_X12_digest {d : Nat} {h : JH} {P : Int → JH → Prop} {a : Int} {r : Nat} (w : WF h) (hr : r < 4) (hz : hI h 122 r ≤ 60) (hK : ∀ j, JAt k0 (d + 1) jX12_digest 162 [vr 117, vi r, j] [] (sJ h 117 49 (sq1 (fun i => hI h 123 (60 * r + i)) a (hI h 122 r).toNat)) (jql P)) (i : Nat) (hi : i ≤ (hI h 122 r).toNat) : JAt k0 (d + 1) jX12_digest 131 [vr 117, vi r, vi i] [] (sJ h 117 49 (sq1 (fun i => hI h 123 (60 * r + i)) a i)) (jql P) := by
  refine st_iload_n (q := 132) dX12_digest_131 rfl rfl ?_
  refine st_aload_n (q := 133) dX12_digest_132 rfl rfl ?_
  refine st_getR (q := 136) 12 8 dX12_digest_133 fl_X12_26 (by decide) (by decide) rfl rfl (wfk w rfl) (wfR w rfl) ?_
  refine st_iload_n (q := 137) dX12_digest_136 rfl rfl ?_
  refine st_iaload (q := 138) dX12_digest_137 rfl (wfk w rfl) (wfb w (n := 4) rfl ⟨by omega, by omega⟩) ?_
  refine j_top (hI h 122 r) rfl ?_
  refine st_icmp_ge (q := 141) (tgt := 162) dX12_digest_138 (by decide) rfl (fun c138 => ?_) (fun c138 => ?_)
  · have e : i = (hI h 122 r).toNat := by omega
    subst e
    exact hK _
  · refine st_aload_n (q := 142) dX12_digest_141 rfl rfl ?_
    refine st_aload_n (q := 143) dX12_digest_142 rfl rfl ?_
    refine st_getR (q := 146) 12 9 dX12_digest_143 fl_X12_29 (by decide) (by decide) rfl rfl (wfk w rfl) (wfR w rfl) ?_
    refine st_bipush (q := 148) dX12_digest_146 ⟨by decide, by decide⟩ rfl ?_
    refine st_iload_n (q := 149) dX12_digest_148 rfl rfl ?_
    first | refine n_imul (q := 150) dX12_digest_149 rfl ⟨by omega, by omega⟩ ?_ | refine st_imul (q := 150) dX12_digest_149 rfl ?_
    refine st_iload_n (q := 151) dX12_digest_150 rfl rfl ?_
    first | refine n_iadd (q := 152) dX12_digest_151 rfl ⟨by omega, by omega⟩ ?_ | refine st_iadd (q := 152) dX12_digest_151 rfl ?_
    refine st_iaload (q := 153) dX12_digest_152 rfl (wfk w rfl) (wfb w (n := 240) rfl ⟨by omega, by omega⟩) ?_
    refine j_top (hI h 123 (60 * r + i)) (by rw [show (60 * (r : Int) + i).toNat = 60 * r + i by omega]; rfl) ?_
    refine iV1v (q := 156) dX12_digest_153 rfl ml_X12_333 mv_X12_mix (Nat.le_of_ble_eq_true rfl) (wfk w rfl) ?_
    refine c_X12_mix w ?_
    first | refine n_iinc (q := 159) dX12_digest_156 rfl (by decide) rfl ⟨by omega, by omega⟩ ?_ | refine st_iinc (q := 159) dX12_digest_156 rfl (by decide) rfl ?_
    refine st_goto (q := 131) dX12_digest_159 (by decide) ?_
    exact lp3i_X12_digest w hr hz hK (i + 1) (by omega)
termination_by (hI h 122 r).toNat - i
theorem lp3_X12_digest {d : Nat} {h : JH} {P : Int → JH → Prop} {a : Int} (w : WF h) (hz : ∀ k, k < 4 → hI h 122 k ≤ 60) (hP : P (itA (dgR (hI h 122) (fun r i => hI h 123 (60 * r + i))) a 4) (sJ h 117 49 (itA (dgR (hI h 122) (fun r i => hI h 123 (60 * r + i))) a 4))) (r : Nat) (hr : r ≤ 4) : ∀ j, JAt k0 (d + 1) jX12_digest 101 [vr 117, vi r, j] [] (sJ h 117 49 (itA (dgR (hI h 122) (fun r i => hI h 123 (60 * r + i))) a r)) (jql P) := by
  intro j
  refine st_iload_n (q := 102) dX12_digest_101 rfl rfl ?_
  refine st_iconst (q := 103) dX12_digest_102 ⟨by decide, by decide⟩ rfl ?_
  refine st_icmp_ge (q := 106) (tgt := 168) dX12_digest_103 (by decide) rfl (fun c103 => ?_) (fun c103 => ?_)
  · refine st_aload_n (q := 169) dX12_digest_168 rfl rfl ?_
    refine st_getJ (q := 172) 12 49 dX12_digest_169 fl_X12_330 (by decide) (by decide) rfl rfl (wfk w rfl) ?_
    refine rt_l dX12_digest_172 rfl ?_
    have e : r = 4 := by omega
    subst e
    exact pq hP (by rw [sJ_s]) rfl
  · refine st_aload_n (q := 107) dX12_digest_106 rfl rfl ?_
    refine st_aload_n (q := 108) dX12_digest_107 rfl rfl ?_
    refine st_getR (q := 111) 12 8 dX12_digest_108 fl_X12_26 (by decide) (by decide) rfl rfl (wfk w rfl) (wfR w rfl) ?_
    refine st_iload_n (q := 112) dX12_digest_111 rfl rfl ?_
    refine st_iaload (q := 113) dX12_digest_112 rfl (wfk w rfl) (wfb w (n := 4) rfl ⟨by omega, by omega⟩) ?_
    apply j_mg 126
    · intro K1 K2
      refine st_if_ge (q := 116) (tgt := 120) dX12_digest_113 (by decide) rfl (fun c113 => ?_) (fun c113 => ?_)
      · refine st_aload_n (q := 121) dX12_digest_120 rfl rfl ?_
        refine st_getR (q := 124) 12 8 dX12_digest_121 fl_X12_26 (by decide) (by decide) rfl rfl (wfk w rfl) (wfR w rfl) ?_
        refine st_iload_n (q := 125) dX12_digest_124 rfl rfl ?_
        refine st_iaload (q := 126) dX12_digest_125 rfl (wfk w rfl) (wfb w (n := 4) rfl ⟨by omega, by omega⟩) ?_
        exact K1 c113
      · refine st_iconst (q := 117) dX12_digest_116 ⟨by decide, by decide⟩ rfl ?_
        refine st_goto (q := 126) dX12_digest_117 (by decide) ?_
        exact K2 c113
    · simp only [jif_if]
      refine j_top (if hI h 122 r < 0 then -1 else hI h 122 r) (by rw [show hI (sJ h 117 49 _) 122 ((r : Int)).toNat = hI h 122 r from rfl]; (repeat' split) <;> omega) ?_
      refine iV1v (q := 129) dX12_digest_126 rfl ml_X12_333 mv_X12_mix (Nat.le_of_ble_eq_true rfl) (wfk w rfl) ?_
      refine c_X12_mix w ?_
      refine st_iconst (q := 130) dX12_digest_129 ⟨by decide, by decide⟩ rfl ?_
      refine st_istore_n (q := 131) (i := 2) dX12_digest_130 rfl (by decide) rfl ?_
      exact lp3i_X12_digest w (by omega) (hz r (by omega)) (fun j => st_iinc (q := 165) dX12_digest_162 rfl (by decide) rfl (by rw [w32_id ⟨by omega, by omega⟩]; exact st_goto (q := 101) dX12_digest_165 (by decide) (lp3_X12_digest w hz hP (r + 1) (by omega) _))) 0 (by omega)
termination_by 4 - r
theorem lp2i_X12_digest {d : Nat} {h : JH} {P : Int → JH → Prop} {a : Int} {r : Nat} (w : WF h) (hr : r < 6) (hz : hI h 119 r ≤ 40) (hK : ∀ j, JAt k0 (d + 1) jX12_digest 93 [vr 117, vi r, j] [] (sJ h 117 49 (sq1 (fun i => hI h 120 (40 * r + i)) a (hI h 119 r).toNat)) (jql P)) (i : Nat) (hi : i ≤ (hI h 119 r).toNat) : JAt k0 (d + 1) jX12_digest 67 [vr 117, vi r, vi i] [] (sJ h 117 49 (sq1 (fun i => hI h 120 (40 * r + i)) a i)) (jql P) := by
  refine st_iload_n (q := 68) dX12_digest_67 rfl rfl ?_
  refine st_aload_n (q := 69) dX12_digest_68 rfl rfl ?_
  refine st_getR (q := 72) 12 5 dX12_digest_69 fl_X12_17 (by decide) (by decide) rfl rfl (wfk w rfl) (wfR w rfl) ?_
  refine st_iload_n (q := 73) dX12_digest_72 rfl rfl ?_
  refine st_iaload (q := 74) dX12_digest_73 rfl (wfk w rfl) (wfb w (n := 6) rfl ⟨by omega, by omega⟩) ?_
  refine j_top (hI h 119 r) rfl ?_
  refine st_icmp_ge (q := 77) (tgt := 93) dX12_digest_74 (by decide) rfl (fun c74 => ?_) (fun c74 => ?_)
  · have e : i = (hI h 119 r).toNat := by omega
    subst e
    exact hK _
  · refine st_aload_n (q := 78) dX12_digest_77 rfl rfl ?_
    refine st_aload_n (q := 79) dX12_digest_78 rfl rfl ?_
    refine st_iload_n (q := 80) dX12_digest_79 rfl rfl ?_
    refine st_iload_n (q := 81) dX12_digest_80 rfl rfl ?_
    refine iV2i (q := 84) dX12_digest_81 rfl ml_X12_148 mv_X12_rowAt (Nat.le_of_ble_eq_true rfl) (wfk w rfl) ?_
    refine c_X12_rowAt w (by omega) (by omega) ?_
    refine j_top (hI h 120 (40 * r + i)) (by rw [show (40 * (r : Int) + i).toNat = 40 * r + i by omega]; rfl) ?_
    refine iV1v (q := 87) dX12_digest_84 rfl ml_X12_333 mv_X12_mix (Nat.le_of_ble_eq_true rfl) (wfk w rfl) ?_
    refine c_X12_mix w ?_
    first | refine n_iinc (q := 90) dX12_digest_87 rfl (by decide) rfl ⟨by omega, by omega⟩ ?_ | refine st_iinc (q := 90) dX12_digest_87 rfl (by decide) rfl ?_
    refine st_goto (q := 67) dX12_digest_90 (by decide) ?_
    exact lp2i_X12_digest w hr hz hK (i + 1) (by omega)
termination_by (hI h 119 r).toNat - i
theorem lp2_X12_digest {d : Nat} {h : JH} {P : Int → JH → Prop} {a : Int} (w : WF h) (hz : ∀ k, k < 6 → hI h 119 k ≤ 40) (hK : ∀ j, JAt k0 (d + 1) jX12_digest 99 [vr 117, vi 6, j] [] (sJ h 117 49 (itA (dgR (hI h 119) (fun r i => hI h 120 (40 * r + i))) a 6)) (jql P)) (r : Nat) (hr : r ≤ 6) : ∀ j, JAt k0 (d + 1) jX12_digest 36 [vr 117, vi r, j] [] (sJ h 117 49 (itA (dgR (hI h 119) (fun r i => hI h 120 (40 * r + i))) a r)) (jql P) := by
  intro j
  refine st_iload_n (q := 37) dX12_digest_36 rfl rfl ?_
  refine st_bipush (q := 39) dX12_digest_37 ⟨by decide, by decide⟩ rfl ?_
  refine st_icmp_ge (q := 42) (tgt := 99) dX12_digest_39 (by decide) rfl (fun c39 => ?_) (fun c39 => ?_)
  · have e : r = 6 := by omega
    subst e
    exact hK _
  · refine st_aload_n (q := 43) dX12_digest_42 rfl rfl ?_
    refine st_aload_n (q := 44) dX12_digest_43 rfl rfl ?_
    refine st_getR (q := 47) 12 5 dX12_digest_44 fl_X12_17 (by decide) (by decide) rfl rfl (wfk w rfl) (wfR w rfl) ?_
    refine st_iload_n (q := 48) dX12_digest_47 rfl rfl ?_
    refine st_iaload (q := 49) dX12_digest_48 rfl (wfk w rfl) (wfb w (n := 6) rfl ⟨by omega, by omega⟩) ?_
    apply j_mg 62
    · intro K1 K2
      refine st_if_ge (q := 52) (tgt := 56) dX12_digest_49 (by decide) rfl (fun c49 => ?_) (fun c49 => ?_)
      · refine st_aload_n (q := 57) dX12_digest_56 rfl rfl ?_
        refine st_getR (q := 60) 12 5 dX12_digest_57 fl_X12_17 (by decide) (by decide) rfl rfl (wfk w rfl) (wfR w rfl) ?_
        refine st_iload_n (q := 61) dX12_digest_60 rfl rfl ?_
        refine st_iaload (q := 62) dX12_digest_61 rfl (wfk w rfl) (wfb w (n := 6) rfl ⟨by omega, by omega⟩) ?_
        exact K1 c49
      · refine st_iconst (q := 53) dX12_digest_52 ⟨by decide, by decide⟩ rfl ?_
        refine st_goto (q := 62) dX12_digest_53 (by decide) ?_
        exact K2 c49
    · simp only [jif_if]
      refine j_top (if hI h 119 r < 0 then -1 else hI h 119 r) (by rw [show hI (sJ h 117 49 _) 119 ((r : Int)).toNat = hI h 119 r from rfl]; (repeat' split) <;> omega) ?_
      refine iV1v (q := 65) dX12_digest_62 rfl ml_X12_333 mv_X12_mix (Nat.le_of_ble_eq_true rfl) (wfk w rfl) ?_
      refine c_X12_mix w ?_
      refine st_iconst (q := 66) dX12_digest_65 ⟨by decide, by decide⟩ rfl ?_
      refine st_istore_n (q := 67) (i := 2) dX12_digest_66 rfl (by decide) rfl ?_
      exact lp2i_X12_digest w (by omega) (hz r (by omega)) (fun j => st_iinc (q := 96) dX12_digest_93 rfl (by decide) rfl (by rw [w32_id ⟨by omega, by omega⟩]; exact st_goto (q := 36) dX12_digest_96 (by decide) (lp2_X12_digest w hz hK (r + 1) (by omega) _))) 0 (by omega)
termination_by 6 - r
theorem lp1_X12_digest {d : Nat} {h : JH} {P : Int → JH → Prop} {q : MO} {a : Int} (w : WF h) (nm : NM h q) (qo : qOk q) (hK : ∀ j, JAt k0 (d + 2) jX12_digest 30 [vr 117, vi 7, j] [] (sJ h 117 49 (sq1 (fun x => ctF h q x) a 7)) (jql P)) (x : Nat) (hx : x ≤ 7) : ∀ j, JAt k0 (d + 2) jX12_digest 9 [vr 117, vi x, j] [] (sJ h 117 49 (sq1 (fun x => ctF h q x) a x)) (jql P) := by
  intro j
  refine st_iload_n (q := 10) dX12_digest_9 rfl rfl ?_
  refine st_bipush (q := 12) dX12_digest_10 ⟨by decide, by decide⟩ rfl ?_
  refine st_icmp_gt (q := 15) (tgt := 30) dX12_digest_12 (by decide) rfl (fun c12 => ?_) (fun c12 => ?_)
  · have e : x = 7 := by omega
    subst e
    exact hK _
  · refine st_aload_n (q := 16) dX12_digest_15 rfl rfl ?_
    refine st_aload_n (q := 17) dX12_digest_16 rfl rfl ?_
    refine st_iload_n (q := 18) dX12_digest_17 rfl rfl ?_
    refine iV1i (q := 21) dX12_digest_18 rfl ml_X12_325 mv_X12_counts (Nat.le_of_ble_eq_true rfl) (wfk w rfl) ?_
    refine c_X12_counts (q := q) w nm qo ?_
    refine iV1v (q := 24) dX12_digest_21 rfl ml_X12_333 mv_X12_mix (Nat.le_of_ble_eq_true rfl) (wfk w rfl) ?_
    refine c_X12_mix w ?_
    first | refine n_iinc (q := 27) dX12_digest_24 rfl (by decide) rfl ⟨by omega, by omega⟩ ?_ | refine st_iinc (q := 27) dX12_digest_24 rfl (by decide) rfl ?_
    refine st_goto (q := 9) dX12_digest_27 (by decide) ?_
    exact lp1_X12_digest w nm qo hK (x + 1) (by omega) _
termination_by 7 - x
def dgM (h : JH) (u : HD) (y : SY) (g : SG) (q : MO) : Int := itA (dgR (hI h 122) (fun r i => hI h 123 (60 * r + i))) (itA (dgR (hI h 119) (fun r i => hI h 120 (40 * r + i))) (dgN u (hI h 117 13) (hI h 117 14) y g (hI h 150) (5 * q.1) (sq1 (fun x => ctF h q x) 17 7)) 6) 4
theorem c_X12_digest {d : Nat} {h : JH} {P : Int → JH → Prop} {u : HD} {y : SY} {g : SG} {q : MO} (w : WF h) (mu : HM h u) (ou : uOk u) (m : SM h y) (o : yOk y) (mg : GM h g) (og : gOk g) (nm : NM h q) (qo : qOk q) (hz : ∀ k, k < 6 → hI h 119 k ≤ 40) (hy : ∀ k, k < 4 → hI h 122 k ≤ 60) (hP : P (dgM h u y g q) (sJ h 117 49 (dgM h u y g q))) : JRl (d + 4) jX12_digest [vr 117] h P := by
  have hB : ∀ j, JAt k0 (d + 4) jX12_digest 99 [vr 117, vi 6, j] [] (sJ h 117 49 (itA (dgR (hI h 119) (fun r i => hI h 120 (40 * r + i))) (dgN u (hI h 117 13) (hI h 117 14) y g (hI h 150) (5 * q.1) (sq1 (fun x => ctF h q x) 17 7)) 6)) (jql P) := by
    intro j
    refine st_iconst (q := 100) dX12_digest_99 ⟨by decide, by decide⟩ rfl ?_
    refine st_istore_n (q := 101) (i := 1) dX12_digest_100 rfl (by decide) rfl ?_
    exact lp3_X12_digest w hy hP 0 (by omega) _
  have hA : ∀ j, JAt k0 (d + 4) jX12_digest 30 [vr 117, vi 7, j] [] (sJ h 117 49 (sq1 (fun x => ctF h q x) 17 7)) (jql P) := by
    intro j
    refine st_aload_n (q := 31) dX12_digest_30 rfl rfl ?_
    refine iV0v (q := 34) dX12_digest_31 rfl ml_X12_338 mv_X12_mixNight (Nat.le_of_ble_eq_true rfl) (wfk w rfl) ?_
    refine c_X12_mixNight w mu ou m o mg og nm qo ?_
    refine st_iconst (q := 35) dX12_digest_34 ⟨by decide, by decide⟩ rfl ?_
    refine st_istore_n (q := 36) (i := 1) dX12_digest_35 rfl (by decide) rfl ?_
    exact lp2_X12_digest w hz hB 0 (by omega) _
  refine JRet.of rfl (Nat.le_of_ble_eq_true rfl) ?_
  refine st_aload_n (q := 1) dX12_digest_0 rfl rfl ?_
  refine st_ldc2_w (q := 4) (x := 17) dX12_digest_1 ⟨by decide, by decide⟩ co_X12_336 rfl ?_
  refine st_putJ (q := 7) 12 49 dX12_digest_4 fl_X12_330 (by decide) (by decide) (Or.inl rfl) rfl rfl (wfk w rfl) ?_
  refine st_iconst (q := 8) dX12_digest_7 ⟨by decide, by decide⟩ rfl ?_
  refine st_istore_n (q := 9) (i := 1) dX12_digest_8 rfl (by decide) rfl ?_
  exact lp1_X12_digest w nm qo hA 0 (by omega) _

