/-! the class: moments; both sides answer alike -/
theorem xmom {h : JH} (w : WF h) {m : Nat} (hm : m < 40) : hR h 55 m = some (56 + m) := (w.2.1 55 m (fun z => absurd z.1 (by decide))).trans (sh_moments m hm).1
theorem xmk {h : JH} (w : WF h) {m : Nat} (hm : m < 40) : kd h (56 + m) = 3 := wfk w (by rw [(sh_moments m hm).2])
theorem c_X3_hasHide {d : Nat} {h : JH} {P : Int → JH → Prop} {k : Int} (hP : P (if k = 0 ∨ k = 5 then 0 else 1) h) : JRi d jX3_hasHide [vi k] h P := by
  refine JRet.of rfl (Nat.le_of_ble_eq_true rfl) ?_
  refine st_iload_n (q := 1) dX3_hasHide_0 rfl rfl ?_
  refine st_if_eq (q := 4) (tgt := 13) dX3_hasHide_1 (by decide) rfl (fun c1 => ?_) (fun c1 => ?_)
  · refine st_iconst (q := 14) dX3_hasHide_13 ⟨by decide, by decide⟩ rfl ?_
    refine rt_z dX3_hasHide_14 rfl (by (repeat' split) <;> omega) ?_
    exact pq hP (by (repeat' split) <;> omega) rfl
  · refine st_iload_n (q := 5) dX3_hasHide_4 rfl rfl ?_
    refine st_iconst (q := 6) dX3_hasHide_5 ⟨by decide, by decide⟩ rfl ?_
    refine st_icmp_eq (q := 9) (tgt := 13) dX3_hasHide_6 (by decide) rfl (fun c6 => ?_) (fun c6 => ?_)
    · refine st_iconst (q := 14) dX3_hasHide_13 ⟨by decide, by decide⟩ rfl ?_
      refine rt_z dX3_hasHide_14 rfl (by (repeat' split) <;> omega) ?_
      exact pq hP (by (repeat' split) <;> omega) rfl
    · refine st_iconst (q := 10) dX3_hasHide_9 ⟨by decide, by decide⟩ rfl ?_
      refine st_goto (q := 14) dX3_hasHide_10 (by decide) ?_
      refine rt_z dX3_hasHide_14 rfl (by (repeat' split) <;> omega) ?_
      exact pq hP (by (repeat' split) <;> omega) rfl
theorem c_X3_fits {d : Nat} {h : JH} {P : Int → JH → Prop} {kind k v x : Int} (hk : 0 ≤ kind ∧ kind ≤ 6) (hP : ∀ r, (r = 1 ∧ imS kind k v x) ∨ (r = 0 ∧ ¬ imS kind k v x) → P r h) : JRi (d + 1) jX3_fits [vi kind, vi k, vi v, vi x] h P := by
  refine JRet.of rfl (Nat.le_of_ble_eq_true rfl) ?_
  refine st_iload_n (q := 1) dX3_fits_0 rfl rfl ?_
  refine iS1i (q := 4) dX3_fits_1 rfl ml_X3_27 ms_X3_hasHide (Nat.le_of_ble_eq_true rfl) ?_
  refine c_X3_hasHide ?_
  refine st_if_eq (q := 7) (tgt := 18) dX3_fits_4 (by decide) rfl (fun c4 => ?_) (fun c4 => ?_)
  · refine st_iload_n (q := 19) dX3_fits_18 rfl rfl ?_
    refine st_tsw6 dX3_fits_19 rfl (o0 := 37) (t0 := 56) rfl (by decide) (o1 := 44) (t1 := 63) rfl (by decide) (o2 := 52) (t2 := 71) rfl (by decide) (o3 := 78) (t3 := 97) rfl (by decide) (o4 := 107) (t4 := 126) rfl (by decide) (o5 := 122) (t5 := 141) rfl (by decide) (td := 149) (by decide) (fun c19 => ?_) (fun c19 => ?_) (fun c19 => ?_) (fun c19 => ?_) (fun c19 => ?_) (fun c19 => ?_) (fun c19 => ?_)
    · refine st_iload_n (q := 57) dX3_fits_56 rfl rfl ?_
      refine st_iconst (q := 58) dX3_fits_57 ⟨by decide, by decide⟩ rfl ?_
      refine st_iconst (q := 59) dX3_fits_58 ⟨by decide, by decide⟩ rfl ?_
      refine iN3i (q := 62) dX3_fits_59 rfl mn_X3_35 ms_X11_isWithin (Nat.le_of_ble_eq_true rfl) ?_
      refine c_X11_isWithin ?_
      refine rt_z dX3_fits_62 rfl (by (repeat' split) <;> omega) ?_
      first | (have ez := imS_1 (k := k) (v := v) (x := x) (show kind = 0 + 1 by omega); exact hP _ (by rw [ez]; (repeat' split) <;> omega)) | (have ez := imS_2 (k := k) (v := v) (x := x) (show kind = 0 + 2 by omega); exact hP _ (by rw [ez]; (repeat' split) <;> omega)) | (have ez := imS_3 (k := k) (v := v) (x := x) (show kind = 0 + 3 by omega); exact hP _ (by rw [ez]; (repeat' split) <;> omega)) | (have ez := imS_4 (k := k) (v := v) (x := x) (show kind = 0 + 4 by omega); exact hP _ (by rw [ez]; (repeat' split) <;> omega)) | (have ez := imS_5 (k := k) (v := v) (x := x) (show kind = 0 + 5 by omega); exact hP _ (by rw [ez]; (repeat' split) <;> omega)) | (have ez := imS_6 (k := k) (v := v) (x := x) (show kind = 0 + 6 by omega); exact hP _ (by rw [ez]; (repeat' split) <;> omega))
    · refine st_iload_n (q := 64) dX3_fits_63 rfl rfl ?_
      refine st_iconst (q := 65) dX3_fits_64 ⟨by decide, by decide⟩ rfl ?_
      refine st_bipush (q := 67) dX3_fits_65 ⟨by decide, by decide⟩ rfl ?_
      refine iN3i (q := 70) dX3_fits_67 rfl mn_X3_35 ms_X11_isWithin (Nat.le_of_ble_eq_true rfl) ?_
      refine c_X11_isWithin ?_
      refine rt_z dX3_fits_70 rfl (by (repeat' split) <;> omega) ?_
      first | (have ez := imS_1 (k := k) (v := v) (x := x) (show kind = 0 + 1 by omega); exact hP _ (by rw [ez]; (repeat' split) <;> omega)) | (have ez := imS_2 (k := k) (v := v) (x := x) (show kind = 0 + 2 by omega); exact hP _ (by rw [ez]; (repeat' split) <;> omega)) | (have ez := imS_3 (k := k) (v := v) (x := x) (show kind = 0 + 3 by omega); exact hP _ (by rw [ez]; (repeat' split) <;> omega)) | (have ez := imS_4 (k := k) (v := v) (x := x) (show kind = 0 + 4 by omega); exact hP _ (by rw [ez]; (repeat' split) <;> omega)) | (have ez := imS_5 (k := k) (v := v) (x := x) (show kind = 0 + 5 by omega); exact hP _ (by rw [ez]; (repeat' split) <;> omega)) | (have ez := imS_6 (k := k) (v := v) (x := x) (show kind = 0 + 6 by omega); exact hP _ (by rw [ez]; (repeat' split) <;> omega))
    · refine st_iload_n (q := 72) dX3_fits_71 rfl rfl ?_
      refine st_iconst (q := 73) dX3_fits_72 ⟨by decide, by decide⟩ rfl ?_
      refine st_iconst (q := 74) dX3_fits_73 ⟨by decide, by decide⟩ rfl ?_
      refine iN3i (q := 77) dX3_fits_74 rfl mn_X3_35 ms_X11_isWithin (Nat.le_of_ble_eq_true rfl) ?_
      refine c_X11_isWithin ?_
      refine st_if_eq (q := 80) (tgt := 95) dX3_fits_77 (by decide) rfl (fun c77 => ?_) (fun c77 => ?_)
      · refine st_iconst (q := 96) dX3_fits_95 ⟨by decide, by decide⟩ rfl ?_
        refine rt_z dX3_fits_96 rfl (by (repeat' split) <;> omega) ?_
        first | (have ez := imS_1 (k := k) (v := v) (x := x) (show kind = 0 + 1 by omega); exact hP _ (by rw [ez]; (repeat' split) <;> omega)) | (have ez := imS_2 (k := k) (v := v) (x := x) (show kind = 0 + 2 by omega); exact hP _ (by rw [ez]; (repeat' split) <;> omega)) | (have ez := imS_3 (k := k) (v := v) (x := x) (show kind = 0 + 3 by omega); exact hP _ (by rw [ez]; (repeat' split) <;> omega)) | (have ez := imS_4 (k := k) (v := v) (x := x) (show kind = 0 + 4 by omega); exact hP _ (by rw [ez]; (repeat' split) <;> omega)) | (have ez := imS_5 (k := k) (v := v) (x := x) (show kind = 0 + 5 by omega); exact hP _ (by rw [ez]; (repeat' split) <;> omega)) | (have ez := imS_6 (k := k) (v := v) (x := x) (show kind = 0 + 6 by omega); exact hP _ (by rw [ez]; (repeat' split) <;> omega))
      · refine st_iload_n (q := 81) dX3_fits_80 rfl rfl ?_
        refine st_bipush (q := 83) dX3_fits_81 ⟨by decide, by decide⟩ rfl ?_
        refine st_bipush (q := 85) dX3_fits_83 ⟨by decide, by decide⟩ rfl ?_
        refine iN3i (q := 88) dX3_fits_85 rfl mn_X3_35 ms_X11_isWithin (Nat.le_of_ble_eq_true rfl) ?_
        refine c_X11_isWithin ?_
        refine st_if_eq (q := 91) (tgt := 95) dX3_fits_88 (by decide) rfl (fun c88 => ?_) (fun c88 => ?_)
        · refine st_iconst (q := 96) dX3_fits_95 ⟨by decide, by decide⟩ rfl ?_
          refine rt_z dX3_fits_96 rfl (by (repeat' split) <;> omega) ?_
          first | (have ez := imS_1 (k := k) (v := v) (x := x) (show kind = 0 + 1 by omega); exact hP _ (by rw [ez]; (repeat' split) <;> omega)) | (have ez := imS_2 (k := k) (v := v) (x := x) (show kind = 0 + 2 by omega); exact hP _ (by rw [ez]; (repeat' split) <;> omega)) | (have ez := imS_3 (k := k) (v := v) (x := x) (show kind = 0 + 3 by omega); exact hP _ (by rw [ez]; (repeat' split) <;> omega)) | (have ez := imS_4 (k := k) (v := v) (x := x) (show kind = 0 + 4 by omega); exact hP _ (by rw [ez]; (repeat' split) <;> omega)) | (have ez := imS_5 (k := k) (v := v) (x := x) (show kind = 0 + 5 by omega); exact hP _ (by rw [ez]; (repeat' split) <;> omega)) | (have ez := imS_6 (k := k) (v := v) (x := x) (show kind = 0 + 6 by omega); exact hP _ (by rw [ez]; (repeat' split) <;> omega))
        · refine st_iconst (q := 92) dX3_fits_91 ⟨by decide, by decide⟩ rfl ?_
          refine st_goto (q := 96) dX3_fits_92 (by decide) ?_
          refine rt_z dX3_fits_96 rfl (by (repeat' split) <;> omega) ?_
          first | (have ez := imS_1 (k := k) (v := v) (x := x) (show kind = 0 + 1 by omega); exact hP _ (by rw [ez]; (repeat' split) <;> omega)) | (have ez := imS_2 (k := k) (v := v) (x := x) (show kind = 0 + 2 by omega); exact hP _ (by rw [ez]; (repeat' split) <;> omega)) | (have ez := imS_3 (k := k) (v := v) (x := x) (show kind = 0 + 3 by omega); exact hP _ (by rw [ez]; (repeat' split) <;> omega)) | (have ez := imS_4 (k := k) (v := v) (x := x) (show kind = 0 + 4 by omega); exact hP _ (by rw [ez]; (repeat' split) <;> omega)) | (have ez := imS_5 (k := k) (v := v) (x := x) (show kind = 0 + 5 by omega); exact hP _ (by rw [ez]; (repeat' split) <;> omega)) | (have ez := imS_6 (k := k) (v := v) (x := x) (show kind = 0 + 6 by omega); exact hP _ (by rw [ez]; (repeat' split) <;> omega))
    · refine st_iload_n (q := 98) dX3_fits_97 rfl rfl ?_
      refine st_iconst (q := 99) dX3_fits_98 ⟨by decide, by decide⟩ rfl ?_
      refine st_iconst (q := 100) dX3_fits_99 ⟨by decide, by decide⟩ rfl ?_
      refine iN3i (q := 103) dX3_fits_100 rfl mn_X3_35 ms_X11_isWithin (Nat.le_of_ble_eq_true rfl) ?_
      refine c_X11_isWithin ?_
      refine st_if_eq (q := 106) (tgt := 124) dX3_fits_103 (by decide) rfl (fun c103 => ?_) (fun c103 => ?_)
      · refine st_iconst (q := 125) dX3_fits_124 ⟨by decide, by decide⟩ rfl ?_
        refine rt_z dX3_fits_125 rfl (by (repeat' split) <;> omega) ?_
        first | (have ez := imS_1 (k := k) (v := v) (x := x) (show kind = 0 + 1 by omega); exact hP _ (by rw [ez]; (repeat' split) <;> omega)) | (have ez := imS_2 (k := k) (v := v) (x := x) (show kind = 0 + 2 by omega); exact hP _ (by rw [ez]; (repeat' split) <;> omega)) | (have ez := imS_3 (k := k) (v := v) (x := x) (show kind = 0 + 3 by omega); exact hP _ (by rw [ez]; (repeat' split) <;> omega)) | (have ez := imS_4 (k := k) (v := v) (x := x) (show kind = 0 + 4 by omega); exact hP _ (by rw [ez]; (repeat' split) <;> omega)) | (have ez := imS_5 (k := k) (v := v) (x := x) (show kind = 0 + 5 by omega); exact hP _ (by rw [ez]; (repeat' split) <;> omega)) | (have ez := imS_6 (k := k) (v := v) (x := x) (show kind = 0 + 6 by omega); exact hP _ (by rw [ez]; (repeat' split) <;> omega))
      · refine st_iload_n (q := 107) dX3_fits_106 rfl rfl ?_
        refine st_bipush (q := 109) dX3_fits_107 ⟨by decide, by decide⟩ rfl ?_
        refine iN2i (q := 112) dX3_fits_109 rfl mn_X3_31 ms_X11_isNone (Nat.le_of_ble_eq_true rfl) ?_
        refine c_X11_isNone ?_
        refine st_if_ne (q := 115) (tgt := 124) dX3_fits_112 (by decide) rfl (fun c112 => ?_) (fun c112 => ?_)
        · refine st_iconst (q := 125) dX3_fits_124 ⟨by decide, by decide⟩ rfl ?_
          refine rt_z dX3_fits_125 rfl (by (repeat' split) <;> omega) ?_
          first | (have ez := imS_1 (k := k) (v := v) (x := x) (show kind = 0 + 1 by omega); exact hP _ (by rw [ez]; (repeat' split) <;> omega)) | (have ez := imS_2 (k := k) (v := v) (x := x) (show kind = 0 + 2 by omega); exact hP _ (by rw [ez]; (repeat' split) <;> omega)) | (have ez := imS_3 (k := k) (v := v) (x := x) (show kind = 0 + 3 by omega); exact hP _ (by rw [ez]; (repeat' split) <;> omega)) | (have ez := imS_4 (k := k) (v := v) (x := x) (show kind = 0 + 4 by omega); exact hP _ (by rw [ez]; (repeat' split) <;> omega)) | (have ez := imS_5 (k := k) (v := v) (x := x) (show kind = 0 + 5 by omega); exact hP _ (by rw [ez]; (repeat' split) <;> omega)) | (have ez := imS_6 (k := k) (v := v) (x := x) (show kind = 0 + 6 by omega); exact hP _ (by rw [ez]; (repeat' split) <;> omega))
        · refine st_iload_n (q := 116) dX3_fits_115 rfl rfl ?_
          refine st_iload_n (q := 117) dX3_fits_116 rfl rfl ?_
          refine st_icmp_eq (q := 120) (tgt := 124) dX3_fits_117 (by decide) rfl (fun c117 => ?_) (fun c117 => ?_)
          · refine st_iconst (q := 125) dX3_fits_124 ⟨by decide, by decide⟩ rfl ?_
            refine rt_z dX3_fits_125 rfl (by (repeat' split) <;> omega) ?_
            first | (have ez := imS_1 (k := k) (v := v) (x := x) (show kind = 0 + 1 by omega); exact hP _ (by rw [ez]; (repeat' split) <;> omega)) | (have ez := imS_2 (k := k) (v := v) (x := x) (show kind = 0 + 2 by omega); exact hP _ (by rw [ez]; (repeat' split) <;> omega)) | (have ez := imS_3 (k := k) (v := v) (x := x) (show kind = 0 + 3 by omega); exact hP _ (by rw [ez]; (repeat' split) <;> omega)) | (have ez := imS_4 (k := k) (v := v) (x := x) (show kind = 0 + 4 by omega); exact hP _ (by rw [ez]; (repeat' split) <;> omega)) | (have ez := imS_5 (k := k) (v := v) (x := x) (show kind = 0 + 5 by omega); exact hP _ (by rw [ez]; (repeat' split) <;> omega)) | (have ez := imS_6 (k := k) (v := v) (x := x) (show kind = 0 + 6 by omega); exact hP _ (by rw [ez]; (repeat' split) <;> omega))
          · refine st_iconst (q := 121) dX3_fits_120 ⟨by decide, by decide⟩ rfl ?_
            refine st_goto (q := 125) dX3_fits_121 (by decide) ?_
            refine rt_z dX3_fits_125 rfl (by (repeat' split) <;> omega) ?_
            first | (have ez := imS_1 (k := k) (v := v) (x := x) (show kind = 0 + 1 by omega); exact hP _ (by rw [ez]; (repeat' split) <;> omega)) | (have ez := imS_2 (k := k) (v := v) (x := x) (show kind = 0 + 2 by omega); exact hP _ (by rw [ez]; (repeat' split) <;> omega)) | (have ez := imS_3 (k := k) (v := v) (x := x) (show kind = 0 + 3 by omega); exact hP _ (by rw [ez]; (repeat' split) <;> omega)) | (have ez := imS_4 (k := k) (v := v) (x := x) (show kind = 0 + 4 by omega); exact hP _ (by rw [ez]; (repeat' split) <;> omega)) | (have ez := imS_5 (k := k) (v := v) (x := x) (show kind = 0 + 5 by omega); exact hP _ (by rw [ez]; (repeat' split) <;> omega)) | (have ez := imS_6 (k := k) (v := v) (x := x) (show kind = 0 + 6 by omega); exact hP _ (by rw [ez]; (repeat' split) <;> omega))
    · refine st_iload_n (q := 127) dX3_fits_126 rfl rfl ?_
      refine st_bipush (q := 129) dX3_fits_127 ⟨by decide, by decide⟩ rfl ?_
      refine iN2i (q := 132) dX3_fits_129 rfl mn_X3_31 ms_X11_isNone (Nat.le_of_ble_eq_true rfl) ?_
      refine c_X11_isNone ?_
      refine st_if_ne (q := 135) (tgt := 139) dX3_fits_132 (by decide) rfl (fun c132 => ?_) (fun c132 => ?_)
      · refine st_iconst (q := 140) dX3_fits_139 ⟨by decide, by decide⟩ rfl ?_
        refine rt_z dX3_fits_140 rfl (by (repeat' split) <;> omega) ?_
        first | (have ez := imS_1 (k := k) (v := v) (x := x) (show kind = 0 + 1 by omega); exact hP _ (by rw [ez]; (repeat' split) <;> omega)) | (have ez := imS_2 (k := k) (v := v) (x := x) (show kind = 0 + 2 by omega); exact hP _ (by rw [ez]; (repeat' split) <;> omega)) | (have ez := imS_3 (k := k) (v := v) (x := x) (show kind = 0 + 3 by omega); exact hP _ (by rw [ez]; (repeat' split) <;> omega)) | (have ez := imS_4 (k := k) (v := v) (x := x) (show kind = 0 + 4 by omega); exact hP _ (by rw [ez]; (repeat' split) <;> omega)) | (have ez := imS_5 (k := k) (v := v) (x := x) (show kind = 0 + 5 by omega); exact hP _ (by rw [ez]; (repeat' split) <;> omega)) | (have ez := imS_6 (k := k) (v := v) (x := x) (show kind = 0 + 6 by omega); exact hP _ (by rw [ez]; (repeat' split) <;> omega))
      · refine st_iconst (q := 136) dX3_fits_135 ⟨by decide, by decide⟩ rfl ?_
        refine st_goto (q := 140) dX3_fits_136 (by decide) ?_
        refine rt_z dX3_fits_140 rfl (by (repeat' split) <;> omega) ?_
        first | (have ez := imS_1 (k := k) (v := v) (x := x) (show kind = 0 + 1 by omega); exact hP _ (by rw [ez]; (repeat' split) <;> omega)) | (have ez := imS_2 (k := k) (v := v) (x := x) (show kind = 0 + 2 by omega); exact hP _ (by rw [ez]; (repeat' split) <;> omega)) | (have ez := imS_3 (k := k) (v := v) (x := x) (show kind = 0 + 3 by omega); exact hP _ (by rw [ez]; (repeat' split) <;> omega)) | (have ez := imS_4 (k := k) (v := v) (x := x) (show kind = 0 + 4 by omega); exact hP _ (by rw [ez]; (repeat' split) <;> omega)) | (have ez := imS_5 (k := k) (v := v) (x := x) (show kind = 0 + 5 by omega); exact hP _ (by rw [ez]; (repeat' split) <;> omega)) | (have ez := imS_6 (k := k) (v := v) (x := x) (show kind = 0 + 6 by omega); exact hP _ (by rw [ez]; (repeat' split) <;> omega))
    · refine st_iload_n (q := 142) dX3_fits_141 rfl rfl ?_
      refine st_iconst (q := 143) dX3_fits_142 ⟨by decide, by decide⟩ rfl ?_
      refine st_bipush (q := 145) dX3_fits_143 ⟨by decide, by decide⟩ rfl ?_
      refine iN3i (q := 148) dX3_fits_145 rfl mn_X3_35 ms_X11_isWithin (Nat.le_of_ble_eq_true rfl) ?_
      refine c_X11_isWithin ?_
      refine rt_z dX3_fits_148 rfl (by (repeat' split) <;> omega) ?_
      first | (have ez := imS_1 (k := k) (v := v) (x := x) (show kind = 0 + 1 by omega); exact hP _ (by rw [ez]; (repeat' split) <;> omega)) | (have ez := imS_2 (k := k) (v := v) (x := x) (show kind = 0 + 2 by omega); exact hP _ (by rw [ez]; (repeat' split) <;> omega)) | (have ez := imS_3 (k := k) (v := v) (x := x) (show kind = 0 + 3 by omega); exact hP _ (by rw [ez]; (repeat' split) <;> omega)) | (have ez := imS_4 (k := k) (v := v) (x := x) (show kind = 0 + 4 by omega); exact hP _ (by rw [ez]; (repeat' split) <;> omega)) | (have ez := imS_5 (k := k) (v := v) (x := x) (show kind = 0 + 5 by omega); exact hP _ (by rw [ez]; (repeat' split) <;> omega)) | (have ez := imS_6 (k := k) (v := v) (x := x) (show kind = 0 + 6 by omega); exact hP _ (by rw [ez]; (repeat' split) <;> omega))
    · refine st_iconst (q := 150) dX3_fits_149 ⟨by decide, by decide⟩ rfl ?_
      refine rt_z dX3_fits_150 rfl (by (repeat' split) <;> omega) ?_
      exact hP _ (Or.inl ⟨rfl, (imS_0 (show kind = 0 + 0 by omega)).mpr trivial⟩)
  · refine st_iload_n (q := 8) dX3_fits_7 rfl rfl ?_
    refine st_bipush (q := 10) dX3_fits_8 ⟨by decide, by decide⟩ rfl ?_
    refine iN2i (q := 13) dX3_fits_10 rfl mn_X3_31 ms_X11_isNone (Nat.le_of_ble_eq_true rfl) ?_
    refine c_X11_isNone ?_
    refine st_if_eq (q := 16) (tgt := 18) dX3_fits_13 (by decide) rfl (fun c13 => ?_) (fun c13 => ?_)
    · refine st_iload_n (q := 19) dX3_fits_18 rfl rfl ?_
      refine st_tsw6 dX3_fits_19 rfl (o0 := 37) (t0 := 56) rfl (by decide) (o1 := 44) (t1 := 63) rfl (by decide) (o2 := 52) (t2 := 71) rfl (by decide) (o3 := 78) (t3 := 97) rfl (by decide) (o4 := 107) (t4 := 126) rfl (by decide) (o5 := 122) (t5 := 141) rfl (by decide) (td := 149) (by decide) (fun c19 => ?_) (fun c19 => ?_) (fun c19 => ?_) (fun c19 => ?_) (fun c19 => ?_) (fun c19 => ?_) (fun c19 => ?_)
      · refine st_iload_n (q := 57) dX3_fits_56 rfl rfl ?_
        refine st_iconst (q := 58) dX3_fits_57 ⟨by decide, by decide⟩ rfl ?_
        refine st_iconst (q := 59) dX3_fits_58 ⟨by decide, by decide⟩ rfl ?_
        refine iN3i (q := 62) dX3_fits_59 rfl mn_X3_35 ms_X11_isWithin (Nat.le_of_ble_eq_true rfl) ?_
        refine c_X11_isWithin ?_
        refine rt_z dX3_fits_62 rfl (by (repeat' split) <;> omega) ?_
        first | (have ez := imS_1 (k := k) (v := v) (x := x) (show kind = 0 + 1 by omega); exact hP _ (by rw [ez]; (repeat' split) <;> omega)) | (have ez := imS_2 (k := k) (v := v) (x := x) (show kind = 0 + 2 by omega); exact hP _ (by rw [ez]; (repeat' split) <;> omega)) | (have ez := imS_3 (k := k) (v := v) (x := x) (show kind = 0 + 3 by omega); exact hP _ (by rw [ez]; (repeat' split) <;> omega)) | (have ez := imS_4 (k := k) (v := v) (x := x) (show kind = 0 + 4 by omega); exact hP _ (by rw [ez]; (repeat' split) <;> omega)) | (have ez := imS_5 (k := k) (v := v) (x := x) (show kind = 0 + 5 by omega); exact hP _ (by rw [ez]; (repeat' split) <;> omega)) | (have ez := imS_6 (k := k) (v := v) (x := x) (show kind = 0 + 6 by omega); exact hP _ (by rw [ez]; (repeat' split) <;> omega))
      · refine st_iload_n (q := 64) dX3_fits_63 rfl rfl ?_
        refine st_iconst (q := 65) dX3_fits_64 ⟨by decide, by decide⟩ rfl ?_
        refine st_bipush (q := 67) dX3_fits_65 ⟨by decide, by decide⟩ rfl ?_
        refine iN3i (q := 70) dX3_fits_67 rfl mn_X3_35 ms_X11_isWithin (Nat.le_of_ble_eq_true rfl) ?_
        refine c_X11_isWithin ?_
        refine rt_z dX3_fits_70 rfl (by (repeat' split) <;> omega) ?_
        first | (have ez := imS_1 (k := k) (v := v) (x := x) (show kind = 0 + 1 by omega); exact hP _ (by rw [ez]; (repeat' split) <;> omega)) | (have ez := imS_2 (k := k) (v := v) (x := x) (show kind = 0 + 2 by omega); exact hP _ (by rw [ez]; (repeat' split) <;> omega)) | (have ez := imS_3 (k := k) (v := v) (x := x) (show kind = 0 + 3 by omega); exact hP _ (by rw [ez]; (repeat' split) <;> omega)) | (have ez := imS_4 (k := k) (v := v) (x := x) (show kind = 0 + 4 by omega); exact hP _ (by rw [ez]; (repeat' split) <;> omega)) | (have ez := imS_5 (k := k) (v := v) (x := x) (show kind = 0 + 5 by omega); exact hP _ (by rw [ez]; (repeat' split) <;> omega)) | (have ez := imS_6 (k := k) (v := v) (x := x) (show kind = 0 + 6 by omega); exact hP _ (by rw [ez]; (repeat' split) <;> omega))
      · refine st_iload_n (q := 72) dX3_fits_71 rfl rfl ?_
        refine st_iconst (q := 73) dX3_fits_72 ⟨by decide, by decide⟩ rfl ?_
        refine st_iconst (q := 74) dX3_fits_73 ⟨by decide, by decide⟩ rfl ?_
        refine iN3i (q := 77) dX3_fits_74 rfl mn_X3_35 ms_X11_isWithin (Nat.le_of_ble_eq_true rfl) ?_
        refine c_X11_isWithin ?_
        refine st_if_eq (q := 80) (tgt := 95) dX3_fits_77 (by decide) rfl (fun c77 => ?_) (fun c77 => ?_)
        · refine st_iconst (q := 96) dX3_fits_95 ⟨by decide, by decide⟩ rfl ?_
          refine rt_z dX3_fits_96 rfl (by (repeat' split) <;> omega) ?_
          first | (have ez := imS_1 (k := k) (v := v) (x := x) (show kind = 0 + 1 by omega); exact hP _ (by rw [ez]; (repeat' split) <;> omega)) | (have ez := imS_2 (k := k) (v := v) (x := x) (show kind = 0 + 2 by omega); exact hP _ (by rw [ez]; (repeat' split) <;> omega)) | (have ez := imS_3 (k := k) (v := v) (x := x) (show kind = 0 + 3 by omega); exact hP _ (by rw [ez]; (repeat' split) <;> omega)) | (have ez := imS_4 (k := k) (v := v) (x := x) (show kind = 0 + 4 by omega); exact hP _ (by rw [ez]; (repeat' split) <;> omega)) | (have ez := imS_5 (k := k) (v := v) (x := x) (show kind = 0 + 5 by omega); exact hP _ (by rw [ez]; (repeat' split) <;> omega)) | (have ez := imS_6 (k := k) (v := v) (x := x) (show kind = 0 + 6 by omega); exact hP _ (by rw [ez]; (repeat' split) <;> omega))
        · refine st_iload_n (q := 81) dX3_fits_80 rfl rfl ?_
          refine st_bipush (q := 83) dX3_fits_81 ⟨by decide, by decide⟩ rfl ?_
          refine st_bipush (q := 85) dX3_fits_83 ⟨by decide, by decide⟩ rfl ?_
          refine iN3i (q := 88) dX3_fits_85 rfl mn_X3_35 ms_X11_isWithin (Nat.le_of_ble_eq_true rfl) ?_
          refine c_X11_isWithin ?_
          refine st_if_eq (q := 91) (tgt := 95) dX3_fits_88 (by decide) rfl (fun c88 => ?_) (fun c88 => ?_)
          · refine st_iconst (q := 96) dX3_fits_95 ⟨by decide, by decide⟩ rfl ?_
            refine rt_z dX3_fits_96 rfl (by (repeat' split) <;> omega) ?_
            first | (have ez := imS_1 (k := k) (v := v) (x := x) (show kind = 0 + 1 by omega); exact hP _ (by rw [ez]; (repeat' split) <;> omega)) | (have ez := imS_2 (k := k) (v := v) (x := x) (show kind = 0 + 2 by omega); exact hP _ (by rw [ez]; (repeat' split) <;> omega)) | (have ez := imS_3 (k := k) (v := v) (x := x) (show kind = 0 + 3 by omega); exact hP _ (by rw [ez]; (repeat' split) <;> omega)) | (have ez := imS_4 (k := k) (v := v) (x := x) (show kind = 0 + 4 by omega); exact hP _ (by rw [ez]; (repeat' split) <;> omega)) | (have ez := imS_5 (k := k) (v := v) (x := x) (show kind = 0 + 5 by omega); exact hP _ (by rw [ez]; (repeat' split) <;> omega)) | (have ez := imS_6 (k := k) (v := v) (x := x) (show kind = 0 + 6 by omega); exact hP _ (by rw [ez]; (repeat' split) <;> omega))
          · refine st_iconst (q := 92) dX3_fits_91 ⟨by decide, by decide⟩ rfl ?_
            refine st_goto (q := 96) dX3_fits_92 (by decide) ?_
            refine rt_z dX3_fits_96 rfl (by (repeat' split) <;> omega) ?_
            first | (have ez := imS_1 (k := k) (v := v) (x := x) (show kind = 0 + 1 by omega); exact hP _ (by rw [ez]; (repeat' split) <;> omega)) | (have ez := imS_2 (k := k) (v := v) (x := x) (show kind = 0 + 2 by omega); exact hP _ (by rw [ez]; (repeat' split) <;> omega)) | (have ez := imS_3 (k := k) (v := v) (x := x) (show kind = 0 + 3 by omega); exact hP _ (by rw [ez]; (repeat' split) <;> omega)) | (have ez := imS_4 (k := k) (v := v) (x := x) (show kind = 0 + 4 by omega); exact hP _ (by rw [ez]; (repeat' split) <;> omega)) | (have ez := imS_5 (k := k) (v := v) (x := x) (show kind = 0 + 5 by omega); exact hP _ (by rw [ez]; (repeat' split) <;> omega)) | (have ez := imS_6 (k := k) (v := v) (x := x) (show kind = 0 + 6 by omega); exact hP _ (by rw [ez]; (repeat' split) <;> omega))
      · refine st_iload_n (q := 98) dX3_fits_97 rfl rfl ?_
        refine st_iconst (q := 99) dX3_fits_98 ⟨by decide, by decide⟩ rfl ?_
        refine st_iconst (q := 100) dX3_fits_99 ⟨by decide, by decide⟩ rfl ?_
        refine iN3i (q := 103) dX3_fits_100 rfl mn_X3_35 ms_X11_isWithin (Nat.le_of_ble_eq_true rfl) ?_
        refine c_X11_isWithin ?_
        refine st_if_eq (q := 106) (tgt := 124) dX3_fits_103 (by decide) rfl (fun c103 => ?_) (fun c103 => ?_)
        · refine st_iconst (q := 125) dX3_fits_124 ⟨by decide, by decide⟩ rfl ?_
          refine rt_z dX3_fits_125 rfl (by (repeat' split) <;> omega) ?_
          first | (have ez := imS_1 (k := k) (v := v) (x := x) (show kind = 0 + 1 by omega); exact hP _ (by rw [ez]; (repeat' split) <;> omega)) | (have ez := imS_2 (k := k) (v := v) (x := x) (show kind = 0 + 2 by omega); exact hP _ (by rw [ez]; (repeat' split) <;> omega)) | (have ez := imS_3 (k := k) (v := v) (x := x) (show kind = 0 + 3 by omega); exact hP _ (by rw [ez]; (repeat' split) <;> omega)) | (have ez := imS_4 (k := k) (v := v) (x := x) (show kind = 0 + 4 by omega); exact hP _ (by rw [ez]; (repeat' split) <;> omega)) | (have ez := imS_5 (k := k) (v := v) (x := x) (show kind = 0 + 5 by omega); exact hP _ (by rw [ez]; (repeat' split) <;> omega)) | (have ez := imS_6 (k := k) (v := v) (x := x) (show kind = 0 + 6 by omega); exact hP _ (by rw [ez]; (repeat' split) <;> omega))
        · refine st_iload_n (q := 107) dX3_fits_106 rfl rfl ?_
          refine st_bipush (q := 109) dX3_fits_107 ⟨by decide, by decide⟩ rfl ?_
          refine iN2i (q := 112) dX3_fits_109 rfl mn_X3_31 ms_X11_isNone (Nat.le_of_ble_eq_true rfl) ?_
          refine c_X11_isNone ?_
          refine st_if_ne (q := 115) (tgt := 124) dX3_fits_112 (by decide) rfl (fun c112 => ?_) (fun c112 => ?_)
          · refine st_iconst (q := 125) dX3_fits_124 ⟨by decide, by decide⟩ rfl ?_
            refine rt_z dX3_fits_125 rfl (by (repeat' split) <;> omega) ?_
            first | (have ez := imS_1 (k := k) (v := v) (x := x) (show kind = 0 + 1 by omega); exact hP _ (by rw [ez]; (repeat' split) <;> omega)) | (have ez := imS_2 (k := k) (v := v) (x := x) (show kind = 0 + 2 by omega); exact hP _ (by rw [ez]; (repeat' split) <;> omega)) | (have ez := imS_3 (k := k) (v := v) (x := x) (show kind = 0 + 3 by omega); exact hP _ (by rw [ez]; (repeat' split) <;> omega)) | (have ez := imS_4 (k := k) (v := v) (x := x) (show kind = 0 + 4 by omega); exact hP _ (by rw [ez]; (repeat' split) <;> omega)) | (have ez := imS_5 (k := k) (v := v) (x := x) (show kind = 0 + 5 by omega); exact hP _ (by rw [ez]; (repeat' split) <;> omega)) | (have ez := imS_6 (k := k) (v := v) (x := x) (show kind = 0 + 6 by omega); exact hP _ (by rw [ez]; (repeat' split) <;> omega))
          · refine st_iload_n (q := 116) dX3_fits_115 rfl rfl ?_
            refine st_iload_n (q := 117) dX3_fits_116 rfl rfl ?_
            refine st_icmp_eq (q := 120) (tgt := 124) dX3_fits_117 (by decide) rfl (fun c117 => ?_) (fun c117 => ?_)
            · refine st_iconst (q := 125) dX3_fits_124 ⟨by decide, by decide⟩ rfl ?_
              refine rt_z dX3_fits_125 rfl (by (repeat' split) <;> omega) ?_
              first | (have ez := imS_1 (k := k) (v := v) (x := x) (show kind = 0 + 1 by omega); exact hP _ (by rw [ez]; (repeat' split) <;> omega)) | (have ez := imS_2 (k := k) (v := v) (x := x) (show kind = 0 + 2 by omega); exact hP _ (by rw [ez]; (repeat' split) <;> omega)) | (have ez := imS_3 (k := k) (v := v) (x := x) (show kind = 0 + 3 by omega); exact hP _ (by rw [ez]; (repeat' split) <;> omega)) | (have ez := imS_4 (k := k) (v := v) (x := x) (show kind = 0 + 4 by omega); exact hP _ (by rw [ez]; (repeat' split) <;> omega)) | (have ez := imS_5 (k := k) (v := v) (x := x) (show kind = 0 + 5 by omega); exact hP _ (by rw [ez]; (repeat' split) <;> omega)) | (have ez := imS_6 (k := k) (v := v) (x := x) (show kind = 0 + 6 by omega); exact hP _ (by rw [ez]; (repeat' split) <;> omega))
            · refine st_iconst (q := 121) dX3_fits_120 ⟨by decide, by decide⟩ rfl ?_
              refine st_goto (q := 125) dX3_fits_121 (by decide) ?_
              refine rt_z dX3_fits_125 rfl (by (repeat' split) <;> omega) ?_
              first | (have ez := imS_1 (k := k) (v := v) (x := x) (show kind = 0 + 1 by omega); exact hP _ (by rw [ez]; (repeat' split) <;> omega)) | (have ez := imS_2 (k := k) (v := v) (x := x) (show kind = 0 + 2 by omega); exact hP _ (by rw [ez]; (repeat' split) <;> omega)) | (have ez := imS_3 (k := k) (v := v) (x := x) (show kind = 0 + 3 by omega); exact hP _ (by rw [ez]; (repeat' split) <;> omega)) | (have ez := imS_4 (k := k) (v := v) (x := x) (show kind = 0 + 4 by omega); exact hP _ (by rw [ez]; (repeat' split) <;> omega)) | (have ez := imS_5 (k := k) (v := v) (x := x) (show kind = 0 + 5 by omega); exact hP _ (by rw [ez]; (repeat' split) <;> omega)) | (have ez := imS_6 (k := k) (v := v) (x := x) (show kind = 0 + 6 by omega); exact hP _ (by rw [ez]; (repeat' split) <;> omega))
      · refine st_iload_n (q := 127) dX3_fits_126 rfl rfl ?_
        refine st_bipush (q := 129) dX3_fits_127 ⟨by decide, by decide⟩ rfl ?_
        refine iN2i (q := 132) dX3_fits_129 rfl mn_X3_31 ms_X11_isNone (Nat.le_of_ble_eq_true rfl) ?_
        refine c_X11_isNone ?_
        refine st_if_ne (q := 135) (tgt := 139) dX3_fits_132 (by decide) rfl (fun c132 => ?_) (fun c132 => ?_)
        · refine st_iconst (q := 140) dX3_fits_139 ⟨by decide, by decide⟩ rfl ?_
          refine rt_z dX3_fits_140 rfl (by (repeat' split) <;> omega) ?_
          first | (have ez := imS_1 (k := k) (v := v) (x := x) (show kind = 0 + 1 by omega); exact hP _ (by rw [ez]; (repeat' split) <;> omega)) | (have ez := imS_2 (k := k) (v := v) (x := x) (show kind = 0 + 2 by omega); exact hP _ (by rw [ez]; (repeat' split) <;> omega)) | (have ez := imS_3 (k := k) (v := v) (x := x) (show kind = 0 + 3 by omega); exact hP _ (by rw [ez]; (repeat' split) <;> omega)) | (have ez := imS_4 (k := k) (v := v) (x := x) (show kind = 0 + 4 by omega); exact hP _ (by rw [ez]; (repeat' split) <;> omega)) | (have ez := imS_5 (k := k) (v := v) (x := x) (show kind = 0 + 5 by omega); exact hP _ (by rw [ez]; (repeat' split) <;> omega)) | (have ez := imS_6 (k := k) (v := v) (x := x) (show kind = 0 + 6 by omega); exact hP _ (by rw [ez]; (repeat' split) <;> omega))
        · refine st_iconst (q := 136) dX3_fits_135 ⟨by decide, by decide⟩ rfl ?_
          refine st_goto (q := 140) dX3_fits_136 (by decide) ?_
          refine rt_z dX3_fits_140 rfl (by (repeat' split) <;> omega) ?_
          first | (have ez := imS_1 (k := k) (v := v) (x := x) (show kind = 0 + 1 by omega); exact hP _ (by rw [ez]; (repeat' split) <;> omega)) | (have ez := imS_2 (k := k) (v := v) (x := x) (show kind = 0 + 2 by omega); exact hP _ (by rw [ez]; (repeat' split) <;> omega)) | (have ez := imS_3 (k := k) (v := v) (x := x) (show kind = 0 + 3 by omega); exact hP _ (by rw [ez]; (repeat' split) <;> omega)) | (have ez := imS_4 (k := k) (v := v) (x := x) (show kind = 0 + 4 by omega); exact hP _ (by rw [ez]; (repeat' split) <;> omega)) | (have ez := imS_5 (k := k) (v := v) (x := x) (show kind = 0 + 5 by omega); exact hP _ (by rw [ez]; (repeat' split) <;> omega)) | (have ez := imS_6 (k := k) (v := v) (x := x) (show kind = 0 + 6 by omega); exact hP _ (by rw [ez]; (repeat' split) <;> omega))
      · refine st_iload_n (q := 142) dX3_fits_141 rfl rfl ?_
        refine st_iconst (q := 143) dX3_fits_142 ⟨by decide, by decide⟩ rfl ?_
        refine st_bipush (q := 145) dX3_fits_143 ⟨by decide, by decide⟩ rfl ?_
        refine iN3i (q := 148) dX3_fits_145 rfl mn_X3_35 ms_X11_isWithin (Nat.le_of_ble_eq_true rfl) ?_
        refine c_X11_isWithin ?_
        refine rt_z dX3_fits_148 rfl (by (repeat' split) <;> omega) ?_
        first | (have ez := imS_1 (k := k) (v := v) (x := x) (show kind = 0 + 1 by omega); exact hP _ (by rw [ez]; (repeat' split) <;> omega)) | (have ez := imS_2 (k := k) (v := v) (x := x) (show kind = 0 + 2 by omega); exact hP _ (by rw [ez]; (repeat' split) <;> omega)) | (have ez := imS_3 (k := k) (v := v) (x := x) (show kind = 0 + 3 by omega); exact hP _ (by rw [ez]; (repeat' split) <;> omega)) | (have ez := imS_4 (k := k) (v := v) (x := x) (show kind = 0 + 4 by omega); exact hP _ (by rw [ez]; (repeat' split) <;> omega)) | (have ez := imS_5 (k := k) (v := v) (x := x) (show kind = 0 + 5 by omega); exact hP _ (by rw [ez]; (repeat' split) <;> omega)) | (have ez := imS_6 (k := k) (v := v) (x := x) (show kind = 0 + 6 by omega); exact hP _ (by rw [ez]; (repeat' split) <;> omega))
      · refine st_iconst (q := 150) dX3_fits_149 ⟨by decide, by decide⟩ rfl ?_
        refine rt_z dX3_fits_150 rfl (by (repeat' split) <;> omega) ?_
        exact hP _ (Or.inl ⟨rfl, (imS_0 (show kind = 0 + 0 by omega)).mpr trivial⟩)
    · refine st_iconst (q := 17) dX3_fits_16 ⟨by decide, by decide⟩ rfl ?_
      refine rt_z dX3_fits_17 rfl (by (repeat' split) <;> omega) ?_
      exact hP _ (Or.inr ⟨rfl, fun z => by unfold imS at z; omega⟩)
theorem c_X3_isOf {d : Nat} {h : JH} {P : Int → JH → Prop} {a : Nat} {of : Int} (hk : kd h a = 3) (hP : P (if of = 0 ∨ hI h a 0 = of ∨ (of = 1 ∧ (hI h a 0 = 3 ∨ hI h a 0 = 4)) then 1 else 0) h) : JRi d jX3_isOf [vr a, vi of] h P := by
  refine JRet.of rfl (Nat.le_of_ble_eq_true rfl) ?_
  refine st_aload_n (q := 1) dX3_isOf_0 rfl rfl ?_
  refine st_getI (q := 4) 3 0 dX3_isOf_1 fl_X3_9 (by decide) (by decide) rfl rfl (hk) ?_
  refine st_iconst (q := 5) dX3_isOf_4 ⟨by decide, by decide⟩ rfl ?_
  refine st_icmp_eq (q := 8) (tgt := 24) dX3_isOf_5 (by decide) rfl (fun c5 => ?_) (fun c5 => ?_)
  · refine st_iconst (q := 25) dX3_isOf_24 ⟨by decide, by decide⟩ rfl ?_
    refine st_goto (q := 29) dX3_isOf_25 (by decide) ?_
    refine st_istore_n (q := 30) (i := 2) dX3_isOf_29 rfl (by decide) rfl ?_
    refine st_iload_n (q := 31) dX3_isOf_30 rfl rfl ?_
    refine st_if_eq (q := 34) (tgt := 51) dX3_isOf_31 (by decide) rfl (fun c31 => ?_) (fun c31 => ?_)
    · refine st_iconst (q := 52) dX3_isOf_51 ⟨by decide, by decide⟩ rfl ?_
      refine st_goto (q := 56) dX3_isOf_52 (by decide) ?_
      refine rt_z dX3_isOf_56 rfl (by (repeat' split) <;> omega) ?_
      exact pq hP (by (repeat' split) <;> omega) rfl
    · refine st_iload_n (q := 35) dX3_isOf_34 rfl rfl ?_
      refine st_aload_n (q := 36) dX3_isOf_35 rfl rfl ?_
      refine st_getI (q := 39) 3 0 dX3_isOf_36 fl_X3_9 (by decide) (by decide) rfl rfl (hk) ?_
      refine st_icmp_eq (q := 42) (tgt := 51) dX3_isOf_39 (by decide) rfl (fun c39 => ?_) (fun c39 => ?_)
      · refine st_iconst (q := 52) dX3_isOf_51 ⟨by decide, by decide⟩ rfl ?_
        refine st_goto (q := 56) dX3_isOf_52 (by decide) ?_
        refine rt_z dX3_isOf_56 rfl (by (repeat' split) <;> omega) ?_
        exact pq hP (by (repeat' split) <;> omega) rfl
      · refine st_iload_n (q := 43) dX3_isOf_42 rfl rfl ?_
        refine st_iconst (q := 44) dX3_isOf_43 ⟨by decide, by decide⟩ rfl ?_
        refine st_icmp_ne (q := 47) (tgt := 55) dX3_isOf_44 (by decide) rfl (fun c44 => ?_) (fun c44 => ?_)
        · refine st_iconst (q := 56) dX3_isOf_55 ⟨by decide, by decide⟩ rfl ?_
          refine rt_z dX3_isOf_56 rfl (by (repeat' split) <;> omega) ?_
          exact pq hP (by (repeat' split) <;> omega) rfl
        · refine st_iload_n (q := 48) dX3_isOf_47 rfl rfl ?_
          refine st_if_eq (q := 51) (tgt := 55) dX3_isOf_48 (by decide) rfl (fun z => absurd z (by decide)) (fun _ => ?_)
          refine st_iconst (q := 52) dX3_isOf_51 ⟨by decide, by decide⟩ rfl ?_
          refine st_goto (q := 56) dX3_isOf_52 (by decide) ?_
          refine rt_z dX3_isOf_56 rfl (by (repeat' split) <;> omega) ?_
          exact pq hP (by (repeat' split) <;> omega) rfl
  · refine st_aload_n (q := 9) dX3_isOf_8 rfl rfl ?_
    refine st_getI (q := 12) 3 0 dX3_isOf_9 fl_X3_9 (by decide) (by decide) rfl rfl (hk) ?_
    refine st_iconst (q := 13) dX3_isOf_12 ⟨by decide, by decide⟩ rfl ?_
    refine st_icmp_eq (q := 16) (tgt := 24) dX3_isOf_13 (by decide) rfl (fun c13 => ?_) (fun c13 => ?_)
    · refine st_iconst (q := 25) dX3_isOf_24 ⟨by decide, by decide⟩ rfl ?_
      refine st_goto (q := 29) dX3_isOf_25 (by decide) ?_
      refine st_istore_n (q := 30) (i := 2) dX3_isOf_29 rfl (by decide) rfl ?_
      refine st_iload_n (q := 31) dX3_isOf_30 rfl rfl ?_
      refine st_if_eq (q := 34) (tgt := 51) dX3_isOf_31 (by decide) rfl (fun c31 => ?_) (fun c31 => ?_)
      · refine st_iconst (q := 52) dX3_isOf_51 ⟨by decide, by decide⟩ rfl ?_
        refine st_goto (q := 56) dX3_isOf_52 (by decide) ?_
        refine rt_z dX3_isOf_56 rfl (by (repeat' split) <;> omega) ?_
        exact pq hP (by (repeat' split) <;> omega) rfl
      · refine st_iload_n (q := 35) dX3_isOf_34 rfl rfl ?_
        refine st_aload_n (q := 36) dX3_isOf_35 rfl rfl ?_
        refine st_getI (q := 39) 3 0 dX3_isOf_36 fl_X3_9 (by decide) (by decide) rfl rfl (hk) ?_
        refine st_icmp_eq (q := 42) (tgt := 51) dX3_isOf_39 (by decide) rfl (fun c39 => ?_) (fun c39 => ?_)
        · refine st_iconst (q := 52) dX3_isOf_51 ⟨by decide, by decide⟩ rfl ?_
          refine st_goto (q := 56) dX3_isOf_52 (by decide) ?_
          refine rt_z dX3_isOf_56 rfl (by (repeat' split) <;> omega) ?_
          exact pq hP (by (repeat' split) <;> omega) rfl
        · refine st_iload_n (q := 43) dX3_isOf_42 rfl rfl ?_
          refine st_iconst (q := 44) dX3_isOf_43 ⟨by decide, by decide⟩ rfl ?_
          refine st_icmp_ne (q := 47) (tgt := 55) dX3_isOf_44 (by decide) rfl (fun c44 => ?_) (fun c44 => ?_)
          · refine st_iconst (q := 56) dX3_isOf_55 ⟨by decide, by decide⟩ rfl ?_
            refine rt_z dX3_isOf_56 rfl (by (repeat' split) <;> omega) ?_
            exact pq hP (by (repeat' split) <;> omega) rfl
          · refine st_iload_n (q := 48) dX3_isOf_47 rfl rfl ?_
            refine st_if_eq (q := 51) (tgt := 55) dX3_isOf_48 (by decide) rfl (fun z => absurd z (by decide)) (fun _ => ?_)
            refine st_iconst (q := 52) dX3_isOf_51 ⟨by decide, by decide⟩ rfl ?_
            refine st_goto (q := 56) dX3_isOf_52 (by decide) ?_
            refine rt_z dX3_isOf_56 rfl (by (repeat' split) <;> omega) ?_
            exact pq hP (by (repeat' split) <;> omega) rfl
    · refine st_aload_n (q := 17) dX3_isOf_16 rfl rfl ?_
      refine st_getI (q := 20) 3 0 dX3_isOf_17 fl_X3_9 (by decide) (by decide) rfl rfl (hk) ?_
      refine st_iconst (q := 21) dX3_isOf_20 ⟨by decide, by decide⟩ rfl ?_
      refine st_icmp_ne (q := 24) (tgt := 28) dX3_isOf_21 (by decide) rfl (fun c21 => ?_) (fun c21 => ?_)
      · refine st_iconst (q := 29) dX3_isOf_28 ⟨by decide, by decide⟩ rfl ?_
        refine st_istore_n (q := 30) (i := 2) dX3_isOf_29 rfl (by decide) rfl ?_
        refine st_iload_n (q := 31) dX3_isOf_30 rfl rfl ?_
        refine st_if_eq (q := 34) (tgt := 51) dX3_isOf_31 (by decide) rfl (fun c31 => ?_) (fun c31 => ?_)
        · refine st_iconst (q := 52) dX3_isOf_51 ⟨by decide, by decide⟩ rfl ?_
          refine st_goto (q := 56) dX3_isOf_52 (by decide) ?_
          refine rt_z dX3_isOf_56 rfl (by (repeat' split) <;> omega) ?_
          exact pq hP (by (repeat' split) <;> omega) rfl
        · refine st_iload_n (q := 35) dX3_isOf_34 rfl rfl ?_
          refine st_aload_n (q := 36) dX3_isOf_35 rfl rfl ?_
          refine st_getI (q := 39) 3 0 dX3_isOf_36 fl_X3_9 (by decide) (by decide) rfl rfl (hk) ?_
          refine st_icmp_eq (q := 42) (tgt := 51) dX3_isOf_39 (by decide) rfl (fun c39 => ?_) (fun c39 => ?_)
          · refine st_iconst (q := 52) dX3_isOf_51 ⟨by decide, by decide⟩ rfl ?_
            refine st_goto (q := 56) dX3_isOf_52 (by decide) ?_
            refine rt_z dX3_isOf_56 rfl (by (repeat' split) <;> omega) ?_
            exact pq hP (by (repeat' split) <;> omega) rfl
          · refine st_iload_n (q := 43) dX3_isOf_42 rfl rfl ?_
            refine st_iconst (q := 44) dX3_isOf_43 ⟨by decide, by decide⟩ rfl ?_
            refine st_icmp_ne (q := 47) (tgt := 55) dX3_isOf_44 (by decide) rfl (fun c44 => ?_) (fun c44 => ?_)
            · refine st_iconst (q := 56) dX3_isOf_55 ⟨by decide, by decide⟩ rfl ?_
              refine rt_z dX3_isOf_56 rfl (by (repeat' split) <;> omega) ?_
              exact pq hP (by (repeat' split) <;> omega) rfl
            · refine st_iload_n (q := 48) dX3_isOf_47 rfl rfl ?_
              refine st_if_eq (q := 51) (tgt := 55) dX3_isOf_48 (by decide) rfl (fun _ => ?_) (fun z => absurd z (by decide))
              refine st_iconst (q := 56) dX3_isOf_55 ⟨by decide, by decide⟩ rfl ?_
              refine rt_z dX3_isOf_56 rfl (by (repeat' split) <;> omega) ?_
              exact pq hP (by (repeat' split) <;> omega) rfl
      · refine st_iconst (q := 25) dX3_isOf_24 ⟨by decide, by decide⟩ rfl ?_
        refine st_goto (q := 29) dX3_isOf_25 (by decide) ?_
        refine st_istore_n (q := 30) (i := 2) dX3_isOf_29 rfl (by decide) rfl ?_
        refine st_iload_n (q := 31) dX3_isOf_30 rfl rfl ?_
        refine st_if_eq (q := 34) (tgt := 51) dX3_isOf_31 (by decide) rfl (fun c31 => ?_) (fun c31 => ?_)
        · refine st_iconst (q := 52) dX3_isOf_51 ⟨by decide, by decide⟩ rfl ?_
          refine st_goto (q := 56) dX3_isOf_52 (by decide) ?_
          refine rt_z dX3_isOf_56 rfl (by (repeat' split) <;> omega) ?_
          exact pq hP (by (repeat' split) <;> omega) rfl
        · refine st_iload_n (q := 35) dX3_isOf_34 rfl rfl ?_
          refine st_aload_n (q := 36) dX3_isOf_35 rfl rfl ?_
          refine st_getI (q := 39) 3 0 dX3_isOf_36 fl_X3_9 (by decide) (by decide) rfl rfl (hk) ?_
          refine st_icmp_eq (q := 42) (tgt := 51) dX3_isOf_39 (by decide) rfl (fun c39 => ?_) (fun c39 => ?_)
          · refine st_iconst (q := 52) dX3_isOf_51 ⟨by decide, by decide⟩ rfl ?_
            refine st_goto (q := 56) dX3_isOf_52 (by decide) ?_
            refine rt_z dX3_isOf_56 rfl (by (repeat' split) <;> omega) ?_
            exact pq hP (by (repeat' split) <;> omega) rfl
          · refine st_iload_n (q := 43) dX3_isOf_42 rfl rfl ?_
            refine st_iconst (q := 44) dX3_isOf_43 ⟨by decide, by decide⟩ rfl ?_
            refine st_icmp_ne (q := 47) (tgt := 55) dX3_isOf_44 (by decide) rfl (fun c44 => ?_) (fun c44 => ?_)
            · refine st_iconst (q := 56) dX3_isOf_55 ⟨by decide, by decide⟩ rfl ?_
              refine rt_z dX3_isOf_56 rfl (by (repeat' split) <;> omega) ?_
              exact pq hP (by (repeat' split) <;> omega) rfl
            · refine st_iload_n (q := 48) dX3_isOf_47 rfl rfl ?_
              refine st_if_eq (q := 51) (tgt := 55) dX3_isOf_48 (by decide) rfl (fun z => absurd z (by decide)) (fun _ => ?_)
              refine st_iconst (q := 52) dX3_isOf_51 ⟨by decide, by decide⟩ rfl ?_
              refine st_goto (q := 56) dX3_isOf_52 (by decide) ?_
              refine rt_z dX3_isOf_56 rfl (by (repeat' split) <;> omega) ?_
              exact pq hP (by (repeat' split) <;> omega) rfl
theorem c_X3_wantsHeld {d : Nat} {h : JH} {P : Int → JH → Prop} {a : Nat} {k : Int} (hk : kd h a = 3) (hP : P (if (hI h a 0 = 1 ∨ hI h a 0 = 3 ∨ hI h a 0 = 4) ∧ (hI h a 2 = k ∨ (hI h a 0 = 4 ∧ hI h a 4 = k)) then 1 else 0) h) : JRi (d + 1) jX3_wantsHeld [vr a, vi k] h P := by
  refine JRet.of rfl (Nat.le_of_ble_eq_true rfl) ?_
  refine st_aload_n (q := 1) dX3_wantsHeld_0 rfl rfl ?_
  refine st_iconst (q := 2) dX3_wantsHeld_1 ⟨by decide, by decide⟩ rfl ?_
  refine iV1i (q := 5) dX3_wantsHeld_2 rfl ml_X3_39 mv_X3_isOf (Nat.le_of_ble_eq_true rfl) (hk) ?_
  refine c_X3_isOf hk ?_
  refine st_if_eq (q := 8) (tgt := 36) dX3_wantsHeld_5 (by decide) rfl (fun c5 => ?_) (fun c5 => ?_)
  · refine st_iconst (q := 37) dX3_wantsHeld_36 ⟨by decide, by decide⟩ rfl ?_
    refine rt_z dX3_wantsHeld_37 rfl (by (repeat' split) <;> omega) ?_
    exact pq hP (by (repeat' split) <;> omega) rfl
  · refine st_aload_n (q := 9) dX3_wantsHeld_8 rfl rfl ?_
    refine st_getI (q := 12) 3 2 dX3_wantsHeld_9 fl_X3_18 (by decide) (by decide) rfl rfl (hk) ?_
    refine st_iload_n (q := 13) dX3_wantsHeld_12 rfl rfl ?_
    refine st_icmp_eq (q := 16) (tgt := 32) dX3_wantsHeld_13 (by decide) rfl (fun c13 => ?_) (fun c13 => ?_)
    · refine st_iconst (q := 33) dX3_wantsHeld_32 ⟨by decide, by decide⟩ rfl ?_
      refine st_goto (q := 37) dX3_wantsHeld_33 (by decide) ?_
      refine rt_z dX3_wantsHeld_37 rfl (by (repeat' split) <;> omega) ?_
      exact pq hP (by (repeat' split) <;> omega) rfl
    · refine st_aload_n (q := 17) dX3_wantsHeld_16 rfl rfl ?_
      refine st_getI (q := 20) 3 0 dX3_wantsHeld_17 fl_X3_9 (by decide) (by decide) rfl rfl (hk) ?_
      refine st_iconst (q := 21) dX3_wantsHeld_20 ⟨by decide, by decide⟩ rfl ?_
      refine st_icmp_ne (q := 24) (tgt := 36) dX3_wantsHeld_21 (by decide) rfl (fun c21 => ?_) (fun c21 => ?_)
      · refine st_iconst (q := 37) dX3_wantsHeld_36 ⟨by decide, by decide⟩ rfl ?_
        refine rt_z dX3_wantsHeld_37 rfl (by (repeat' split) <;> omega) ?_
        exact pq hP (by (repeat' split) <;> omega) rfl
      · refine st_aload_n (q := 25) dX3_wantsHeld_24 rfl rfl ?_
        refine st_getI (q := 28) 3 4 dX3_wantsHeld_25 fl_X3_24 (by decide) (by decide) rfl rfl (hk) ?_
        refine st_iload_n (q := 29) dX3_wantsHeld_28 rfl rfl ?_
        refine st_icmp_ne (q := 32) (tgt := 36) dX3_wantsHeld_29 (by decide) rfl (fun c29 => ?_) (fun c29 => ?_)
        · refine st_iconst (q := 37) dX3_wantsHeld_36 ⟨by decide, by decide⟩ rfl ?_
          refine rt_z dX3_wantsHeld_37 rfl (by (repeat' split) <;> omega) ?_
          exact pq hP (by (repeat' split) <;> omega) rfl
        · refine st_iconst (q := 33) dX3_wantsHeld_32 ⟨by decide, by decide⟩ rfl ?_
          refine st_goto (q := 37) dX3_wantsHeld_33 (by decide) ?_
          refine rt_z dX3_wantsHeld_37 rfl (by (repeat' split) <;> omega) ?_
          exact pq hP (by (repeat' split) <;> omega) rfl
theorem c_X3_tells {d : Nat} {h : JH} {P : Int → JH → Prop} {a : Nat} {what : Int} (hk : kd h a = 3) (hw : 0 ≤ what ∧ what ≤ 4) (hP : P (hI h a what.toNat) h) : JRi d jX3_tells [vr a, vi what] h P := by
  refine JRet.of rfl (Nat.le_of_ble_eq_true rfl) ?_
  refine st_iload_n (q := 1) dX3_tells_0 rfl rfl ?_
  refine st_tsw4 dX3_tells_1 rfl (o0 := 31) (t0 := 32) rfl (by decide) (o1 := 36) (t1 := 37) rfl (by decide) (o2 := 41) (t2 := 42) rfl (by decide) (o3 := 46) (t3 := 47) rfl (by decide) (td := 52) (by decide) (fun c1 => ?_) (fun c1 => ?_) (fun c1 => ?_) (fun c1 => ?_) (fun c1 => ?_)
  · refine st_aload_n (q := 33) dX3_tells_32 rfl rfl ?_
    refine st_getI (q := 36) 3 0 dX3_tells_33 fl_X3_9 (by decide) (by decide) rfl rfl (hk) ?_
    refine rt_i dX3_tells_36 rfl ?_
    first | exact pq hP (by rw [show what.toNat = 0 by omega]) rfl | exact pq hP (by rw [show what.toNat = 1 by omega]) rfl | exact pq hP (by rw [show what.toNat = 2 by omega]) rfl | exact pq hP (by rw [show what.toNat = 3 by omega]) rfl | exact pq hP (by rw [show what.toNat = 4 by omega]) rfl
  · refine st_aload_n (q := 38) dX3_tells_37 rfl rfl ?_
    refine st_getI (q := 41) 3 1 dX3_tells_38 fl_X3_15 (by decide) (by decide) rfl rfl (hk) ?_
    refine rt_i dX3_tells_41 rfl ?_
    first | exact pq hP (by rw [show what.toNat = 0 by omega]) rfl | exact pq hP (by rw [show what.toNat = 1 by omega]) rfl | exact pq hP (by rw [show what.toNat = 2 by omega]) rfl | exact pq hP (by rw [show what.toNat = 3 by omega]) rfl | exact pq hP (by rw [show what.toNat = 4 by omega]) rfl
  · refine st_aload_n (q := 43) dX3_tells_42 rfl rfl ?_
    refine st_getI (q := 46) 3 2 dX3_tells_43 fl_X3_18 (by decide) (by decide) rfl rfl (hk) ?_
    refine rt_i dX3_tells_46 rfl ?_
    first | exact pq hP (by rw [show what.toNat = 0 by omega]) rfl | exact pq hP (by rw [show what.toNat = 1 by omega]) rfl | exact pq hP (by rw [show what.toNat = 2 by omega]) rfl | exact pq hP (by rw [show what.toNat = 3 by omega]) rfl | exact pq hP (by rw [show what.toNat = 4 by omega]) rfl
  · refine st_aload_n (q := 48) dX3_tells_47 rfl rfl ?_
    refine st_getI (q := 51) 3 3 dX3_tells_48 fl_X3_21 (by decide) (by decide) rfl rfl (hk) ?_
    refine rt_i dX3_tells_51 rfl ?_
    first | exact pq hP (by rw [show what.toNat = 0 by omega]) rfl | exact pq hP (by rw [show what.toNat = 1 by omega]) rfl | exact pq hP (by rw [show what.toNat = 2 by omega]) rfl | exact pq hP (by rw [show what.toNat = 3 by omega]) rfl | exact pq hP (by rw [show what.toNat = 4 by omega]) rfl
  · refine st_aload_n (q := 53) dX3_tells_52 rfl rfl ?_
    refine st_getI (q := 56) 3 4 dX3_tells_53 fl_X3_24 (by decide) (by decide) rfl rfl (hk) ?_
    refine rt_i dX3_tells_56 rfl ?_
    first | exact pq hP (by rw [show what.toNat = 0 by omega]) rfl | exact pq hP (by rw [show what.toNat = 1 by omega]) rfl | exact pq hP (by rw [show what.toNat = 2 by omega]) rfl | exact pq hP (by rw [show what.toNat = 3 by omega]) rfl | exact pq hP (by rw [show what.toNat = 4 by omega]) rfl
theorem c_X0_has {d : Nat} {h : JH} {P : Int → JH → Prop} {q : MO} {m : Int} (w : WF h) (nx : NX h q) (hP : P (if 0 ≤ m ∧ m < q.1 then 1 else 0) h) : JRi d jX0_has [vr 54, vi m] h P := by
  have n1 := nx.1
  refine JRet.of rfl (Nat.le_of_ble_eq_true rfl) ?_
  refine st_iload_n (q := 1) dX0_has_0 rfl rfl ?_
  apply j_mg 17
  · intro K1 K2
    refine st_if_lt (q := 4) (tgt := 16) dX0_has_1 (by decide) rfl (fun c1 => ?_) (fun c1 => ?_)
    · refine st_iconst (q := 17) dX0_has_16 ⟨by decide, by decide⟩ rfl ?_
      exact K1 c1
    · refine st_iload_n (q := 5) dX0_has_4 rfl rfl ?_
      refine st_aload_n (q := 6) dX0_has_5 rfl rfl ?_
      refine st_getI (q := 9) 0 1 dX0_has_6 fl_X0_17 (by decide) (by decide) rfl rfl (wfk w rfl) ?_
      apply j_mg 17
      · intro K3 K4
        refine st_icmp_ge (q := 12) (tgt := 16) dX0_has_9 (by decide) rfl (fun c9 => ?_) (fun c9 => ?_)
        · refine st_iconst (q := 17) dX0_has_16 ⟨by decide, by decide⟩ rfl ?_
          exact K3 c9
        · refine st_iconst (q := 13) dX0_has_12 ⟨by decide, by decide⟩ rfl ?_
          refine st_goto (q := 17) dX0_has_13 (by decide) ?_
          exact K4 c9
      · simp only [jif_if]
        exact K2 c1
  · simp only [jif_if]
    refine rt_z dX0_has_17 rfl (by (repeat' split) <;> omega) ?_
    exact pq hP (by (repeat' split) <;> omega) rfl
def axH (h : JH) (n : Nat) (second kind k v x : Int) : JH := sI (sI (sI (sI (sI (sI h (56 + n) 0 kind) (56 + n) 1 second) (56 + n) 2 (if kind = 0 ∨ kind = 5 then -9 else k)) (56 + n) 3 (if kind = 0 then 0 else v)) (56 + n) 4 (if kind = 3 ∨ kind = 4 then x else 0)) 54 1 ((n : Int) + 1)
theorem c_X0_add {d : Nat} {h : JH} {P : Int → JH → Prop} {q : MO} {second kind k v x : Int} (w : WF h) (nx : NX h q) (hq : q.1 < 40) (hP : P (q.1 : Nat) (axH h q.1 second kind k v x)) : JRi (d + 1) jX0_add [vr 54, vi second, vi kind, vi k, vi v, vi x] h P := by
  have n1 := nx.1
  have e1 : (hI h 54 1).toNat = q.1 := by omega
  refine JRet.of rfl (Nat.le_of_ble_eq_true rfl) ?_
  refine st_aload_n (q := 1) dX0_add_0 rfl rfl ?_
  refine st_getI (q := 4) 0 1 dX0_add_1 fl_X0_17 (by decide) (by decide) rfl rfl (by first | exact wfk w rfl | exact xmk (h := h) w (by omega)) ?_
  refine st_aload_n (q := 5) dX0_add_4 rfl rfl ?_
  refine st_getR (q := 8) 0 0 dX0_add_5 fl_X0_11 (by decide) (by decide) rfl rfl (by first | exact wfk w rfl | exact xmk (h := h) w (by omega)) (wfR w rfl) ?_
  refine st_arraylength (q := 9) (t := 5) dX0_add_8 rfl (by decide) (by first | exact wfk w rfl | exact xmk (h := h) w (by omega)) ?_
  rw [wfl w (n := 40) rfl]
  refine st_icmp_lt (q := 12) (tgt := 15) dX0_add_9 (by decide) rfl (fun c9 => ?_) (fun c9 => ?_)
  · refine st_aload_n (q := 16) dX0_add_15 rfl rfl ?_
    refine st_getR (q := 19) 0 0 dX0_add_16 fl_X0_11 (by decide) (by decide) rfl rfl (by first | exact wfk w rfl | exact xmk (h := h) w (by omega)) (wfR w rfl) ?_
    refine st_aload_n (q := 20) dX0_add_19 rfl rfl ?_
    refine st_getI (q := 23) 0 1 dX0_add_20 fl_X0_17 (by decide) (by decide) rfl rfl (by first | exact wfk w rfl | exact xmk (h := h) w (by omega)) ?_
    refine st_aaload (q := 24) (t := 5) dX0_add_23 rfl ⟨by decide, by decide⟩ (by first | exact wfk w rfl | exact xmk (h := h) w (by omega)) (wfb w (n := 40) rfl ⟨by omega, by omega⟩) ((by rw [e1]; exact xmom (h := h) w hq)) ?_
    refine st_astore (q := 26) dX0_add_24 (by decide) rfl ?_
    refine st_aload (q := 28) dX0_add_26 rfl rfl ?_
    refine st_iload_n (q := 29) dX0_add_28 rfl rfl ?_
    refine st_putI (q := 32) 3 0 dX0_add_29 fl_X0_22 (by decide) (by decide) (Or.inl rfl) rfl (Or.inl rfl) (by first | exact wfk w rfl | exact xmk (h := h) w (by omega)) ?_
    refine st_aload (q := 34) dX0_add_32 rfl rfl ?_
    refine st_iload_n (q := 35) dX0_add_34 rfl rfl ?_
    refine st_putI (q := 38) 3 1 dX0_add_35 fl_X0_25 (by decide) (by decide) (Or.inl rfl) rfl (Or.inl rfl) (by first | exact wfk w rfl | exact xmk (h := h) w (by omega)) ?_
    refine st_aload (q := 40) dX0_add_38 rfl rfl ?_
    refine st_iload_n (q := 41) dX0_add_40 rfl rfl ?_
    refine iS1i (q := 44) dX0_add_41 rfl ml_X0_28 ms_X3_hasHide (Nat.le_of_ble_eq_true rfl) ?_
    refine c_X3_hasHide ?_
    apply j_mg 53
    · intro K1 K2
      refine st_if_eq (q := 47) (tgt := 51) dX0_add_44 (by decide) rfl (fun c44 => ?_) (fun c44 => ?_)
      · refine st_bipush (q := 53) dX0_add_51 ⟨by decide, by decide⟩ rfl ?_
        exact K1 c44
      · refine st_iload_n (q := 48) dX0_add_47 rfl rfl ?_
        refine st_goto (q := 53) dX0_add_48 (by decide) ?_
        exact K2 c44
    · simp only [jif_if]
      refine j_top (if kind = 0 ∨ kind = 5 then -9 else k) (by (repeat' split) <;> omega) ?_
      refine st_putI (q := 56) 3 2 dX0_add_53 fl_X0_32 (by decide) (by decide) (Or.inl rfl) rfl (Or.inl rfl) (by first | exact wfk w rfl | exact xmk (h := h) w (by omega)) ?_
      refine st_aload (q := 58) dX0_add_56 rfl rfl ?_
      refine st_iload_n (q := 59) dX0_add_58 rfl rfl ?_
      apply j_mg 68
      · intro K3 K4
        refine st_if_ne (q := 62) (tgt := 66) dX0_add_59 (by decide) rfl (fun c59 => ?_) (fun c59 => ?_)
        · refine st_iload (q := 68) dX0_add_66 rfl rfl ?_
          exact K4 c59
        · refine st_iconst (q := 63) dX0_add_62 ⟨by decide, by decide⟩ rfl ?_
          refine st_goto (q := 68) dX0_add_63 (by decide) ?_
          exact K3 c59
      · simp only [jif_if]
        refine j_top (if kind = 0 then 0 else v) (by (repeat' split) <;> omega) ?_
        refine st_putI (q := 71) 3 3 dX0_add_68 fl_X0_35 (by decide) (by decide) (Or.inl rfl) rfl (Or.inl rfl) (by first | exact wfk w rfl | exact xmk (h := h) w (by omega)) ?_
        refine st_aload (q := 73) dX0_add_71 rfl rfl ?_
        refine st_iload_n (q := 74) dX0_add_73 rfl rfl ?_
        refine st_iconst (q := 75) dX0_add_74 ⟨by decide, by decide⟩ rfl ?_
        apply j_mg 89
        · intro K5 K6
          refine st_icmp_eq (q := 78) (tgt := 83) dX0_add_75 (by decide) rfl (fun c75 => ?_) (fun c75 => ?_)
          · refine st_iload (q := 85) dX0_add_83 rfl rfl ?_
            refine st_goto (q := 89) dX0_add_85 (by decide) ?_
            exact K5 c75
          · refine st_iload_n (q := 79) dX0_add_78 rfl rfl ?_
            refine st_iconst (q := 80) dX0_add_79 ⟨by decide, by decide⟩ rfl ?_
            apply j_mg 89
            · intro K7 K8
              refine st_icmp_ne (q := 83) (tgt := 88) dX0_add_80 (by decide) rfl (fun c80 => ?_) (fun c80 => ?_)
              · refine st_iconst (q := 89) dX0_add_88 ⟨by decide, by decide⟩ rfl ?_
                exact K8 c80
              · refine st_iload (q := 85) dX0_add_83 rfl rfl ?_
                refine st_goto (q := 89) dX0_add_85 (by decide) ?_
                exact K7 c80
            · simp only [jif_if]
              exact K6 c75
        · simp only [jif_if]
          refine j_top (if kind = 3 ∨ kind = 4 then x else 0) (by (repeat' split) <;> omega) ?_
          refine st_putI (q := 92) 3 4 dX0_add_89 fl_X0_38 (by decide) (by decide) (Or.inl rfl) rfl (Or.inl rfl) (by first | exact wfk w rfl | exact xmk (h := h) w (by omega)) ?_
          refine st_aload_n (q := 93) dX0_add_92 rfl rfl ?_
          refine st_dup (q := 94) dX0_add_93 rfl rfl ?_
          refine st_getI (q := 97) 0 1 dX0_add_94 fl_X0_17 (by decide) (by decide) rfl rfl (by first | exact wfk w rfl | exact xmk (h := h) w (by omega)) ?_
          refine j_top (q.1 : Int) (by rw [sI_o _ (by omega), sI_o _ (by omega), sI_o _ (by omega), sI_o _ (by omega), sI_o _ (by omega)]; exact n1) ?_
          refine st_iconst (q := 98) dX0_add_97 ⟨by decide, by decide⟩ rfl ?_
          first | refine n_iadd (q := 99) dX0_add_98 rfl ⟨by omega, by omega⟩ ?_ | refine st_iadd (q := 99) dX0_add_98 rfl ?_
          refine st_putI (q := 102) 0 1 dX0_add_99 fl_X0_17 (by decide) (by decide) (Or.inl rfl) rfl (Or.inl rfl) (by first | exact wfk w rfl | exact xmk (h := h) w (by omega)) ?_
          refine st_aload_n (q := 103) dX0_add_102 rfl rfl ?_
          refine st_getI (q := 106) 0 1 dX0_add_103 fl_X0_17 (by decide) (by decide) rfl rfl (by first | exact wfk w rfl | exact xmk (h := h) w (by omega)) ?_
          refine j_top ((q.1 : Int) + 1) (by rw [sI_s]) ?_
          refine st_iconst (q := 107) dX0_add_106 ⟨by decide, by decide⟩ rfl ?_
          first | refine n_isub (q := 108) dX0_add_107 rfl ⟨by omega, by omega⟩ ?_ | refine st_isub (q := 108) dX0_add_107 rfl ?_
          refine rt_i dX0_add_108 rfl ?_
          first | (exfalso; omega) | exact pq hP (by omega) rfl
  · refine st_bipush (q := 14) dX0_add_12 ⟨by decide, by decide⟩ rfl ?_
    refine rt_i dX0_add_14 rfl ?_
    first | (exfalso; omega) | exact pq hP (by omega) rfl
theorem c_X11_moment {d : Nat} {h : JH} {P : Int → JH → Prop} {u : HD} {q : MO} {second kind k v x : Int} (w : WF h) (hx : HX h u) (nx : NX h q) (qo : qOk q) (h1 : ¬ ((0 ≤ second ∧ second ≤ 32000) ∧ imS kind k v x) → P (-1) h) (h2 : (0 ≤ second ∧ second ≤ 32000) ∧ imS kind k v x → q.1 = 40 → P (-2) h) (h3 : (0 ≤ second ∧ second ≤ 32000) ∧ imS kind k v x → q.1 ≠ 40 → (kind ≠ 0 ∧ kind ≠ 5 ∧ uO u k.toNat = 0) ∨ (kind = 4 ∧ uO u x.toNat = 0) → P (-3) (fnH h 1)) (h4 : (0 ≤ second ∧ second ≤ 32000) ∧ imS kind k v x → q.1 ≠ 40 → ¬ ((kind ≠ 0 ∧ kind ≠ 5 ∧ uO u k.toNat = 0) ∨ (kind = 4 ∧ uO u x.toNat = 0)) → P (q.1 : Nat) (axH h q.1 second kind k v x)) : JRi (d + 2) jX11_moment [vr 0, vi second, vi kind, vi k, vi v, vi x] h P := by
  have n1 := nx.1
  have q1 := qo.1
  refine JRet.of rfl (Nat.le_of_ble_eq_true rfl) ?_
  refine st_iload_n (q := 1) dX11_moment_0 rfl rfl ?_
  refine st_iconst (q := 2) dX11_moment_1 ⟨by decide, by decide⟩ rfl ?_
  refine st_sipush (q := 5) dX11_moment_2 ⟨by decide, by decide⟩ rfl ?_
  refine iS3i (q := 8) dX11_moment_5 rfl ml_X11_142 ms_X11_isWithin (Nat.le_of_ble_eq_true rfl) ?_
  refine c_X11_isWithin ?_
  refine st_if_eq (q := 11) (tgt := 32) dX11_moment_8 (by decide) rfl (fun c8 => ?_) (fun c8 => ?_)
  · refine st_iconst (q := 33) dX11_moment_32 ⟨by decide, by decide⟩ rfl ?_
    refine rt_i dX11_moment_33 rfl ?_
    first | exact h1 (by omega) | exact h1 (fun z => imz.elim (fun t => by have t1 := t.1; omega) (fun t => t.2 z.2)) | exact h1 (fun z => by have z2 := z.2; unfold imS at z2; omega)
  · refine st_iload_n (q := 12) dX11_moment_11 rfl rfl ?_
    refine st_bipush (q := 14) dX11_moment_12 ⟨by decide, by decide⟩ rfl ?_
    refine iS2i (q := 17) dX11_moment_14 rfl ml_X11_86 ms_X11_isNone (Nat.le_of_ble_eq_true rfl) ?_
    refine c_X11_isNone ?_
    refine st_if_ne (q := 20) (tgt := 32) dX11_moment_17 (by decide) rfl (fun c17 => ?_) (fun c17 => ?_)
    · refine st_iconst (q := 33) dX11_moment_32 ⟨by decide, by decide⟩ rfl ?_
      refine rt_i dX11_moment_33 rfl ?_
      first | exact h1 (by omega) | exact h1 (fun z => imz.elim (fun t => by have t1 := t.1; omega) (fun t => t.2 z.2)) | exact h1 (fun z => by have z2 := z.2; unfold imS at z2; omega)
    · refine st_iload_n (q := 21) dX11_moment_20 rfl rfl ?_
      refine st_iload_n (q := 22) dX11_moment_21 rfl rfl ?_
      refine st_iload (q := 24) dX11_moment_22 rfl rfl ?_
      refine st_iload (q := 26) dX11_moment_24 rfl rfl ?_
      refine iS4i (q := 29) dX11_moment_26 rfl ml_X11_323 ms_X3_fits (Nat.le_of_ble_eq_true rfl) ?_
      refine c_X3_fits (by omega) (fun rz imz => ?_)
      refine st_if_ne (q := 32) (tgt := 34) dX11_moment_29 (by decide) rfl (fun c29 => ?_) (fun c29 => ?_)
      · have im : imS kind k v x := imz.elim And.right (fun t => absurd t.1 c29)
        have imk : kind ≠ 0 → kind ≠ 5 → 0 ≤ k ∧ k ≤ 7 := fun z1 z2 => by unfold imS at im; omega
        have imx : kind = 4 → 0 ≤ x ∧ x ≤ 7 := fun z => by unfold imS at im; omega
        refine st_aload_n (q := 35) dX11_moment_34 rfl rfl ?_
        refine st_getR (q := 38) 11 8 dX11_moment_35 fl_X11_63 (by decide) (by decide) rfl rfl (wfk w rfl) (wfR w rfl) ?_
        refine st_getI (q := 41) 0 1 dX11_moment_38 fl_X11_329 (by decide) (by decide) rfl rfl (wfk w rfl) ?_
        refine st_bipush (q := 43) dX11_moment_41 ⟨by decide, by decide⟩ rfl ?_
        refine st_icmp_lt (q := 46) (tgt := 49) dX11_moment_43 (by decide) rfl (fun c43 => ?_) (fun c43 => ?_)
        · refine st_iload_n (q := 50) dX11_moment_49 rfl rfl ?_
          refine iS1i (q := 53) dX11_moment_50 rfl ml_X11_330 ms_X3_hasHide (Nat.le_of_ble_eq_true rfl) ?_
          refine c_X3_hasHide ?_
          refine st_if_eq (q := 56) (tgt := 71) dX11_moment_53 (by decide) rfl (fun c53 => ?_) (fun c53 => ?_)
          · refine st_iconst (q := 72) dX11_moment_71 ⟨by decide, by decide⟩ rfl ?_
            refine st_istore (q := 74) dX11_moment_72 (by decide) rfl ?_
            refine st_iload (q := 76) dX11_moment_74 rfl rfl ?_
            refine st_if_ne (q := 79) (tgt := 96) dX11_moment_76 (by decide) rfl (fun z => absurd z (by decide)) (fun _ => ?_)
            refine st_iload_n (q := 80) dX11_moment_79 rfl rfl ?_
            refine st_iconst (q := 81) dX11_moment_80 ⟨by decide, by decide⟩ rfl ?_
            refine st_icmp_ne (q := 84) (tgt := 102) dX11_moment_81 (by decide) rfl (fun c81 => ?_) (fun c81 => ?_)
            · refine st_aload_n (q := 103) dX11_moment_102 rfl rfl ?_
              refine st_getR (q := 106) 11 8 dX11_moment_103 fl_X11_63 (by decide) (by decide) rfl rfl (wfk w rfl) (wfR w rfl) ?_
              refine st_iload_n (q := 107) dX11_moment_106 rfl rfl ?_
              refine st_iload_n (q := 108) dX11_moment_107 rfl rfl ?_
              refine st_iload_n (q := 109) dX11_moment_108 rfl rfl ?_
              refine st_iload (q := 111) dX11_moment_109 rfl rfl ?_
              refine st_iload (q := 113) dX11_moment_111 rfl rfl ?_
              refine iV5i (q := 116) dX11_moment_113 rfl ml_X11_334 mv_X0_add (Nat.le_of_ble_eq_true rfl) (wfk w rfl) ?_
              refine c_X0_add w nx (by omega) ?_
              refine rt_i dX11_moment_116 rfl ?_
              exact h4 ⟨by omega, im⟩ (by omega) (by omega)
            · refine st_aload_n (q := 85) dX11_moment_84 rfl rfl ?_
              refine st_getR (q := 88) 11 2 dX11_moment_85 fl_X11_21 (by decide) (by decide) rfl rfl (wfk w rfl) (wfR w rfl) ?_
              refine st_iload (q := 90) dX11_moment_88 rfl rfl ?_
              refine iV1i (q := 93) dX11_moment_90 rfl ml_X11_333 mv_X7_hasHide (Nat.le_of_ble_eq_true rfl) (wfk w rfl) ?_
              refine c_X7_hasHide w hx ?_
              refine st_if_ne (q := 96) (tgt := 102) dX11_moment_93 (by decide) rfl (fun c93 => ?_) (fun c93 => ?_)
              · refine st_aload_n (q := 103) dX11_moment_102 rfl rfl ?_
                refine st_getR (q := 106) 11 8 dX11_moment_103 fl_X11_63 (by decide) (by decide) rfl rfl (wfk w rfl) (wfR w rfl) ?_
                refine st_iload_n (q := 107) dX11_moment_106 rfl rfl ?_
                refine st_iload_n (q := 108) dX11_moment_107 rfl rfl ?_
                refine st_iload_n (q := 109) dX11_moment_108 rfl rfl ?_
                refine st_iload (q := 111) dX11_moment_109 rfl rfl ?_
                refine st_iload (q := 113) dX11_moment_111 rfl rfl ?_
                refine iV5i (q := 116) dX11_moment_113 rfl ml_X11_334 mv_X0_add (Nat.le_of_ble_eq_true rfl) (wfk w rfl) ?_
                refine c_X0_add w nx (by omega) ?_
                refine rt_i dX11_moment_116 rfl ?_
                exact h4 ⟨by omega, im⟩ (by omega) (by omega)
              · refine st_aload_n (q := 97) dX11_moment_96 rfl rfl ?_
                refine st_iconst (q := 98) dX11_moment_97 ⟨by decide, by decide⟩ rfl ?_
                refine iV1i (q := 101) dX11_moment_98 rfl ml_X11_116 mv_X11_find (Nat.le_of_ble_eq_true rfl) (wfk w rfl) ?_
                refine c_X11_find w (by decide) ?_
                refine rt_i dX11_moment_101 rfl ?_
                exact h3 ⟨by omega, im⟩ (by omega) (by omega)
          · refine st_aload_n (q := 57) dX11_moment_56 rfl rfl ?_
            refine st_getR (q := 60) 11 2 dX11_moment_57 fl_X11_21 (by decide) (by decide) rfl rfl (wfk w rfl) (wfR w rfl) ?_
            refine st_iload_n (q := 61) dX11_moment_60 rfl rfl ?_
            refine iV1i (q := 64) dX11_moment_61 rfl ml_X11_333 mv_X7_hasHide (Nat.le_of_ble_eq_true rfl) (wfk w rfl) ?_
            refine c_X7_hasHide w hx ?_
            refine st_if_ne (q := 67) (tgt := 71) dX11_moment_64 (by decide) rfl (fun c64 => ?_) (fun c64 => ?_)
            · refine st_iconst (q := 72) dX11_moment_71 ⟨by decide, by decide⟩ rfl ?_
              refine st_istore (q := 74) dX11_moment_72 (by decide) rfl ?_
              refine st_iload (q := 76) dX11_moment_74 rfl rfl ?_
              refine st_if_ne (q := 79) (tgt := 96) dX11_moment_76 (by decide) rfl (fun z => absurd z (by decide)) (fun _ => ?_)
              refine st_iload_n (q := 80) dX11_moment_79 rfl rfl ?_
              refine st_iconst (q := 81) dX11_moment_80 ⟨by decide, by decide⟩ rfl ?_
              refine st_icmp_ne (q := 84) (tgt := 102) dX11_moment_81 (by decide) rfl (fun c81 => ?_) (fun c81 => ?_)
              · refine st_aload_n (q := 103) dX11_moment_102 rfl rfl ?_
                refine st_getR (q := 106) 11 8 dX11_moment_103 fl_X11_63 (by decide) (by decide) rfl rfl (wfk w rfl) (wfR w rfl) ?_
                refine st_iload_n (q := 107) dX11_moment_106 rfl rfl ?_
                refine st_iload_n (q := 108) dX11_moment_107 rfl rfl ?_
                refine st_iload_n (q := 109) dX11_moment_108 rfl rfl ?_
                refine st_iload (q := 111) dX11_moment_109 rfl rfl ?_
                refine st_iload (q := 113) dX11_moment_111 rfl rfl ?_
                refine iV5i (q := 116) dX11_moment_113 rfl ml_X11_334 mv_X0_add (Nat.le_of_ble_eq_true rfl) (wfk w rfl) ?_
                refine c_X0_add w nx (by omega) ?_
                refine rt_i dX11_moment_116 rfl ?_
                exact h4 ⟨by omega, im⟩ (by omega) (by omega)
              · refine st_aload_n (q := 85) dX11_moment_84 rfl rfl ?_
                refine st_getR (q := 88) 11 2 dX11_moment_85 fl_X11_21 (by decide) (by decide) rfl rfl (wfk w rfl) (wfR w rfl) ?_
                refine st_iload (q := 90) dX11_moment_88 rfl rfl ?_
                refine iV1i (q := 93) dX11_moment_90 rfl ml_X11_333 mv_X7_hasHide (Nat.le_of_ble_eq_true rfl) (wfk w rfl) ?_
                refine c_X7_hasHide w hx ?_
                refine st_if_ne (q := 96) (tgt := 102) dX11_moment_93 (by decide) rfl (fun c93 => ?_) (fun c93 => ?_)
                · refine st_aload_n (q := 103) dX11_moment_102 rfl rfl ?_
                  refine st_getR (q := 106) 11 8 dX11_moment_103 fl_X11_63 (by decide) (by decide) rfl rfl (wfk w rfl) (wfR w rfl) ?_
                  refine st_iload_n (q := 107) dX11_moment_106 rfl rfl ?_
                  refine st_iload_n (q := 108) dX11_moment_107 rfl rfl ?_
                  refine st_iload_n (q := 109) dX11_moment_108 rfl rfl ?_
                  refine st_iload (q := 111) dX11_moment_109 rfl rfl ?_
                  refine st_iload (q := 113) dX11_moment_111 rfl rfl ?_
                  refine iV5i (q := 116) dX11_moment_113 rfl ml_X11_334 mv_X0_add (Nat.le_of_ble_eq_true rfl) (wfk w rfl) ?_
                  refine c_X0_add w nx (by omega) ?_
                  refine rt_i dX11_moment_116 rfl ?_
                  exact h4 ⟨by omega, im⟩ (by omega) (by omega)
                · refine st_aload_n (q := 97) dX11_moment_96 rfl rfl ?_
                  refine st_iconst (q := 98) dX11_moment_97 ⟨by decide, by decide⟩ rfl ?_
                  refine iV1i (q := 101) dX11_moment_98 rfl ml_X11_116 mv_X11_find (Nat.le_of_ble_eq_true rfl) (wfk w rfl) ?_
                  refine c_X11_find w (by decide) ?_
                  refine rt_i dX11_moment_101 rfl ?_
                  exact h3 ⟨by omega, im⟩ (by omega) (by omega)
            · refine st_iconst (q := 68) dX11_moment_67 ⟨by decide, by decide⟩ rfl ?_
              refine st_goto (q := 72) dX11_moment_68 (by decide) ?_
              refine st_istore (q := 74) dX11_moment_72 (by decide) rfl ?_
              refine st_iload (q := 76) dX11_moment_74 rfl rfl ?_
              refine st_if_ne (q := 79) (tgt := 96) dX11_moment_76 (by decide) rfl (fun _ => ?_) (fun z => absurd z (by decide))
              refine st_aload_n (q := 97) dX11_moment_96 rfl rfl ?_
              refine st_iconst (q := 98) dX11_moment_97 ⟨by decide, by decide⟩ rfl ?_
              refine iV1i (q := 101) dX11_moment_98 rfl ml_X11_116 mv_X11_find (Nat.le_of_ble_eq_true rfl) (wfk w rfl) ?_
              refine c_X11_find w (by decide) ?_
              refine rt_i dX11_moment_101 rfl ?_
              exact h3 ⟨by omega, im⟩ (by omega) (by omega)
        · refine st_bipush (q := 48) dX11_moment_46 ⟨by decide, by decide⟩ rfl ?_
          refine rt_i dX11_moment_48 rfl ?_
          exact h2 ⟨by omega, im⟩ (by omega)
      · refine st_iconst (q := 33) dX11_moment_32 ⟨by decide, by decide⟩ rfl ?_
        refine rt_i dX11_moment_33 rfl ?_
        first | exact h1 (by omega) | exact h1 (fun z => imz.elim (fun t => by have t1 := t.1; omega) (fun t => t.2 z.2)) | exact h1 (fun z => by have z2 := z.2; unfold imS at z2; omega)
def qAdd (q : MO) (second kind k v x : Int) : MO := (q.1 + 1, fun m y => if m = q.1 then (if y = 0 then kind else if y = 1 then second else if y = 2 then (if kind = 0 ∨ kind = 5 then -9 else k) else if y = 3 then (if kind = 0 then 0 else v) else (if kind = 3 ∨ kind = 4 then x else 0)) else q.2 m y)
theorem qAdd_ok {q : MO} (o : qOk q) {second kind k v x : Int} (hq : q.1 < 40) (hs : 0 ≤ second ∧ second ≤ 32000) (im : imS kind k v x) : qOk (qAdd q second kind k v x) := by
  refine ⟨by show q.1 + 1 ≤ 40; omega, fun m hm => ?_⟩
  have hm : m < q.1 + 1 := hm
  unfold qAdd
  by_cases e : m = q.1
  · simp only [if_pos e]
    unfold imS at im
    refine ⟨?_, ?_, ?_, ?_, ?_, ?_, ?_⟩ <;> simp <;> (repeat' split) <;> omega
  · simp only [if_neg e]
    exact o.2 m (by omega)
theorem qAdd_nm {h : JH} {q : MO} (nm : NM h q) {second kind k v x : Int} : NM (moH h q.1 second kind k v x) (qAdd q second kind k v x) := by
  refine ⟨by unfold moH; rw [sI_s]; show _ = ((q.1 + 1 : Nat) : Int); omega, fun m hm y hy => ?_⟩
  have hm : m < q.1 + 1 := hm
  unfold moH qAdd
  rw [sI_o _ (by decide)]
  by_cases e : m = q.1
  · subst e
    simp only [↓reduceIte]
    rcases (show y = 0 ∨ y = 1 ∨ y = 2 ∨ y = 3 ∨ y = 4 by omega) with t | t | t | t | t <;> subst t
    · rw [sI_k _ (by omega), sI_k _ (by omega), sI_k _ (by omega), sI_k _ (by omega), Nat.add_zero, sI_s]; rfl
    · rw [sI_k _ (by omega), sI_k _ (by omega), sI_k _ (by omega), sI_s]; rfl
    · rw [sI_k _ (by omega), sI_k _ (by omega), sI_s]; rfl
    · rw [sI_k _ (by omega), sI_s]; rfl
    · rw [sI_s]; rfl
  · simp only [if_neg e]
    rw [sI_k _ (by omega), sI_k _ (by omega), sI_k _ (by omega), sI_k _ (by omega), sI_k _ (by omega)]
    exact nm.2 m (by omega) y hy
theorem qAdd_nx {h : JH} {q : MO} (nx : NX h q) (hq : q.1 < 40) {second kind k v x : Int} : NX (axH h q.1 second kind k v x) (qAdd q second kind k v x) := by
  refine ⟨by unfold axH; rw [sI_s]; show _ = ((q.1 + 1 : Nat) : Int); omega, fun m hm y hy => ?_⟩
  have hm : m < q.1 + 1 := hm
  unfold axH qAdd
  rw [sI_o _ (by omega)]
  by_cases e : m = q.1
  · subst e
    simp only [↓reduceIte]
    rcases (show y = 0 ∨ y = 1 ∨ y = 2 ∨ y = 3 ∨ y = 4 by omega) with t | t | t | t | t <;> subst t
    · rw [sI_k _ (by omega), sI_k _ (by omega), sI_k _ (by omega), sI_k _ (by omega), sI_s]; rfl
    · rw [sI_k _ (by omega), sI_k _ (by omega), sI_k _ (by omega), sI_s]; rfl
    · rw [sI_k _ (by omega), sI_k _ (by omega), sI_s]; rfl
    · rw [sI_k _ (by omega), sI_s]; rfl
    · rw [sI_s]; rfl
  · simp only [if_neg e]
    rw [sI_o _ (by omega), sI_o _ (by omega), sI_o _ (by omega), sI_o _ (by omega), sI_o _ (by omega)]
    exact nx.2 m (by omega) y hy
theorem rm1 {m : Nat} (hm : m < 40) (k : Nat) : rgMo (56 + m) k := by unfold rgMo; omega
theorem rm2 (k : Nat) : rgMo 150 k := by unfold rgMo; omega
theorem rm3 : rgMo 117 47 := by unfold rgMo; omega
theorem rm4 : rgMo 54 1 := by unfold rgMo; omega
theorem mo_tl : ∀ a k, rgTl a k → ¬ rgMo a k := by intro a k z; simp only [rgTl, rgMo] at z ⊢; omega
theorem NM_x {h : JH} {q : MO} {a k : Nat} {v : Int} (m : NM h q) (ha : a < 117) : NM (sI h a k v) q := ⟨(sI_o _ (by omega)).trans m.1, fun j hj x hx => (sI_o _ (by omega)).trans (m.2 j hj x hx)⟩
theorem NX_x {h : JH} {q : MO} {a k : Nat} {v : Int} (m : NX h q) (o : qOk q) (ha : 117 ≤ a) : NX (sI h a k v) q := ⟨(sI_o _ (by omega)).trans m.1, fun j hj x hx => (sI_o _ (by have := o.1; omega)).trans (m.2 j hj x hx)⟩
theorem pr_moment {d : Nat} {h : JH} {second kind k v x : Int} (I : Inv h) : Two (d + 4) jX11_moment jX12_moment [vi second, vi kind, vi k, vi v, vi x] h := by
  have w := I.1
  obtain ⟨u, ok, m, hx⟩ := I.2.2.2.1
  obtain ⟨q, qo, nm, nx⟩ := I.2.2.2.2.2.2.2.1
  have q1 := qo.1
  have ek : imS kind k v x → kind ≠ 0 → kind ≠ 5 → hI h 126 k.toNat = (uO u k.toNat : Nat) := fun im z1 z2 => (m k.toNat (by unfold imS at im; omega)).2.2
  have ex : imS kind k v x → kind = 4 → hI h 126 x.toNat = (uO u x.toNat : Nat) := fun im z1 => (m x.toNat (by unfold imS at im; omega)).2.2
  refine c_X11_moment w hx nx qo (fun z => ?_) (fun z z1 => ?_) (fun z z1 z2 => ?_) (fun z z1 z2 => ?_)
  · exact c_X12_moment w nm qo (fun _ => ⟨rfl, I⟩) (fun t => absurd t z) (fun t => absurd t z) (fun t => absurd t z)
  · exact c_X12_moment w nm qo (fun t => absurd z t) (fun _ _ => ⟨rfl, I⟩) (fun _ t => absurd z1 t) (fun _ t => absurd z1 t)
  · have e1 := ek z.2
    have e2 := ex z.2
    exact c_X12_moment (h := fnH h 1) w nm qo (fun t => absurd z t) (fun _ t => absurd t z1) (fun _ _ _ => ⟨rfl, inv_find I (by decide)⟩) (fun _ _ t => by have t : ¬ ((kind ≠ 0 ∧ kind ≠ 5 ∧ hI h 126 k.toNat = 0) ∨ (kind = 4 ∧ hI h 126 x.toNat = 0)) := t; exfalso; omega)
  · have e1 := ek z.2
    have e2 := ex z.2
    have hq : q.1 < 40 := by omega
    have f0 : Fq (fun a _ => a < 117) h (axH h q.1 second kind k v x) := (((((Fq.rf.sI _ (by omega)).sI _ (by omega)).sI _ (by omega)).sI _ (by omega)).sI _ (by omega)).sI _ (by omega)
    have nm1 : NM (axH h q.1 second kind k v x) q := NM_x (NM_x (NM_x (NM_x (NM_x (NM_x nm (by omega)) (by omega)) (by omega)) (by omega)) (by omega)) (by decide)
    have eo : ∀ j, hI (axH h q.1 second kind k v x) 126 j = hI h 126 j := fun j => f0.2.2.1 _ _ (show ¬ (126 < 117) by decide)
    refine c_X12_moment (h := axH h q.1 second kind k v x) w nm1 qo (fun t => absurd z t) (fun _ t => absurd t z1) (fun _ _ t => by rw [eo, eo] at t; exfalso; omega) (fun _ _ _ => ⟨rfl, ?_⟩)
    have f : Fq rgMo h (moH (axH h q.1 second kind k v x) q.1 second kind k v x) := (((((((((((Fq.rf.sI _ (rm1 hq _)).sI _ (rm1 hq _)).sI _ (rm1 hq _)).sI _ (rm1 hq _)).sI _ (rm1 hq _)).sI _ rm4).sI _ (rm2 _)).sI _ (rm2 _)).sI _ (rm2 _)).sI _ (rm2 _)).sI _ (rm2 _)).sI _ rm3
    have ok2 := qAdd_ok qo hq z.1 z.2
    exact inv_mo I (f.up (fun _ _ z => Or.inl z)) ⟨qAdd q second kind k v x, ok2, qAdd_nm nm1, NX_x (NX_x (NX_x (NX_x (NX_x (NX_x (qAdd_nx nx hq) ok2 (by decide)) ok2 (by decide)) ok2 (by decide)) ok2 (by decide)) ok2 (by decide)) ok2 (by decide)⟩ (I.2.2.2.2.2.2.2.2.1.fr f mo_tl)
theorem pr_told {d : Nat} {h : JH} {m x : Int} (I : Inv h) : Two (d + 4) jX11_told jX12_told [vi m, vi x] h := by
  have w := I.1
  obtain ⟨q, qo, nm, nx⟩ := I.2.2.2.2.2.2.2.1
  have q1 := qo.1
  have hX : (¬ ((0 ≤ m ∧ m < q.1) ∧ (0 ≤ x ∧ x ≤ 4)) → JRi (d + 4) jX12_told [vr 117, vi m, vi x] h (fun v' h2 => -1 = v' ∧ Inv h2)) → ((0 ≤ m ∧ m < q.1) ∧ (0 ≤ x ∧ x ≤ 4) → JRi (d + 4) jX12_told [vr 117, vi m, vi x] (sI h 0 11 (q.2 m.toNat x.toNat)) (fun v' h2 => 1 = v' ∧ Inv h2)) → Two (d + 4) jX11_told jX12_told [vi m, vi x] h := by
    intro g1 g2
    refine JRet.of rfl (Nat.le_of_ble_eq_true rfl) ?_
    refine st_aload_n (q := 1) dX11_told_0 rfl rfl ?_
    refine st_getR (q := 4) 11 8 dX11_told_1 fl_X11_63 (by decide) (by decide) rfl rfl (by first | exact wfk w rfl | exact xmk (h := h) w (by omega)) (wfR w rfl) ?_
    refine st_iload_n (q := 5) dX11_told_4 rfl rfl ?_
    refine iV1i (q := 8) dX11_told_5 rfl ml_X11_338 mv_X0_has (Nat.le_of_ble_eq_true rfl) (by first | exact wfk w rfl | exact xmk (h := h) w (by omega)) ?_
    refine c_X0_has w nx ?_
    refine st_if_eq (q := 11) (tgt := 19) dX11_told_8 (by decide) rfl (fun c8 => ?_) (fun c8 => ?_)
    · refine st_iconst (q := 20) dX11_told_19 ⟨by decide, by decide⟩ rfl ?_
      refine rt_i dX11_told_20 rfl ?_
      first | exact g1 (by omega) | exact g2 (by omega)
    · refine st_iload_n (q := 12) dX11_told_11 rfl rfl ?_
      refine st_iconst (q := 13) dX11_told_12 ⟨by decide, by decide⟩ rfl ?_
      refine iS2i (q := 16) dX11_told_13 rfl ml_X11_86 ms_X11_isNone (Nat.le_of_ble_eq_true rfl) ?_
      refine c_X11_isNone ?_
      refine st_if_eq (q := 19) (tgt := 21) dX11_told_16 (by decide) rfl (fun c16 => ?_) (fun c16 => ?_)
      · refine st_aload_n (q := 22) dX11_told_21 rfl rfl ?_
        refine st_aload_n (q := 23) dX11_told_22 rfl rfl ?_
        refine st_getR (q := 26) 11 8 dX11_told_23 fl_X11_63 (by decide) (by decide) rfl rfl (by first | exact wfk w rfl | exact xmk (h := h) w (by omega)) (wfR w rfl) ?_
        refine st_getR (q := 29) 0 0 dX11_told_26 fl_X11_339 (by decide) (by decide) rfl rfl (by first | exact wfk w rfl | exact xmk (h := h) w (by omega)) (wfR w rfl) ?_
        refine st_iload_n (q := 30) dX11_told_29 rfl rfl ?_
        refine st_aaload (q := 31) (t := 5) dX11_told_30 rfl ⟨by decide, by decide⟩ (by first | exact wfk w rfl | exact xmk (h := h) w (by omega)) (wfb w (n := 40) rfl ⟨by omega, by omega⟩) (xmom (h := h) w (by omega)) ?_
        refine st_iload_n (q := 32) dX11_told_31 rfl rfl ?_
        refine iV1i (q := 35) dX11_told_32 rfl ml_X11_343 mv_X3_tells (Nat.le_of_ble_eq_true rfl) (by first | exact wfk w rfl | exact xmk (h := h) w (by omega)) ?_
        refine c_X3_tells (xmk w (by omega)) (by omega) ?_
        rw [nx.2 m.toNat (by omega) x.toNat (by omega)]
        refine iV1i (q := 38) dX11_told_35 rfl ml_X11_106 mv_X11_tell (Nat.le_of_ble_eq_true rfl) (by first | exact wfk w rfl | exact xmk (h := h) w (by omega)) ?_
        refine c_X11_tell w ?_
        refine rt_i dX11_told_38 rfl ?_
        first | exact g1 (by omega) | exact g2 (by omega)
      · refine st_iconst (q := 20) dX11_told_19 ⟨by decide, by decide⟩ rfl ?_
        refine rt_i dX11_told_20 rfl ?_
        first | exact g1 (by omega) | exact g2 (by omega)
  refine hX (fun z => ?_) (fun z => ?_)
  · exact c_X12_told w nm qo (fun _ => ⟨rfl, I⟩) (fun t => absurd t z)
  · exact c_X12_told (h := sI h 0 11 (q.2 m.toNat x.toNat)) w nm qo (fun t => absurd z t) (fun _ => ⟨rfl, inv_ask I _⟩)
theorem c_X6_sizeOf {d : Nat} {h : JH} {P : Int → JH → Prop} {k : Int} (w : WF h) (hk : 0 ≤ k ∧ k ≤ 7) (hP : P (hI h 49 k.toNat) h) : JRi (d + 1) jX6_sizeOf [vr 48, vi k] h P := by
  refine JRet.of rfl (Nat.le_of_ble_eq_true rfl) ?_
  refine st_iload_n (q := 1) dX6_sizeOf_0 rfl rfl ?_
  refine st_bipush (q := 3) dX6_sizeOf_1 ⟨by decide, by decide⟩ rfl ?_
  refine iN2i (q := 6) dX6_sizeOf_3 rfl mn_X6_32 ms_X11_isNone (Nat.le_of_ble_eq_true rfl) ?_
  refine c_X11_isNone ?_
  refine st_if_eq (q := 9) (tgt := 13) dX6_sizeOf_6 (by decide) rfl (fun c6 => ?_) (fun c6 => ?_)
  · refine st_aload_n (q := 14) dX6_sizeOf_13 rfl rfl ?_
    refine st_getR (q := 17) 6 0 dX6_sizeOf_14 fl_X6_9 (by decide) (by decide) rfl rfl (wfk w rfl) (wfR w rfl) ?_
    refine st_iload_n (q := 18) dX6_sizeOf_17 rfl rfl ?_
    refine st_iaload (q := 19) dX6_sizeOf_18 rfl (wfk w rfl) (wfb w (n := 8) rfl ⟨by omega, by omega⟩) ?_
    refine rt_i dX6_sizeOf_19 rfl ?_
    first | (exfalso; omega) | exact hP
  · refine st_iconst (q := 10) dX6_sizeOf_9 ⟨by decide, by decide⟩ rfl ?_
    refine st_goto (q := 19) dX6_sizeOf_10 (by decide) ?_
    refine rt_i dX6_sizeOf_19 rfl ?_
    first | (exfalso; omega) | exact hP
theorem pr_mark {d : Nat} {h : JH} {m kind : Int} (I : Inv h) : Two (d + 4) jX11_mark jX12_mark [vi m, vi kind] h := by
  have w := I.1
  obtain ⟨q, qo, nm, nx⟩ := I.2.2.2.2.2.2.2.1
  obtain ⟨g, og, mg, xg⟩ := I.2.2.2.2.2.2.1
  have q1 := qo.1
  have hX : (¬ ((0 ≤ m ∧ m < q.1) ∧ (1 ≤ kind ∧ kind ≤ 6)) → JRi (d + 4) jX12_mark [vr 117, vi m, vi kind] h (fun v' h2 => -1 = v' ∧ Inv h2)) → ((0 ≤ m ∧ m < q.1) ∧ (1 ≤ kind ∧ kind ≤ 6) → ¬ (q.2 m.toNat 0 = kind ∨ (kind = 1 ∧ (q.2 m.toNat 0 = 3 ∨ q.2 m.toNat 0 = 4))) → JRi (d + 4) jX12_mark [vr 117, vi m, vi kind] (fnH h 3) (fun v' h2 => -3 = v' ∧ Inv h2)) → ((0 ≤ m ∧ m < q.1) ∧ (1 ≤ kind ∧ kind ≤ 6) → (q.2 m.toNat 0 = kind ∨ (kind = 1 ∧ (q.2 m.toNat 0 = 3 ∨ q.2 m.toNat 0 = 4))) → JRi (d + 4) jX12_mark [vr 117, vi m, vi kind] h (fun v' h2 => (if kind = 3 ∨ kind = 4 then q.2 m.toNat 4 else if kind = 5 then hI h 146 (q.2 m.toNat 3).toNat else q.2 m.toNat 3) = v' ∧ Inv h2)) → Two (d + 4) jX11_mark jX12_mark [vi m, vi kind] h := by
    intro g1 g2 g3
    refine JRet.of rfl (Nat.le_of_ble_eq_true rfl) ?_
    refine st_aload_n (q := 1) dX11_mark_0 rfl rfl ?_
    refine st_getR (q := 4) 11 8 dX11_mark_1 fl_X11_63 (by decide) (by decide) rfl rfl (by first | exact wfk w rfl | exact xmk (h := h) w (by omega)) (wfR w rfl) ?_
    refine st_iload_n (q := 5) dX11_mark_4 rfl rfl ?_
    refine iV1i (q := 8) dX11_mark_5 rfl ml_X11_338 mv_X0_has (Nat.le_of_ble_eq_true rfl) (by first | exact wfk w rfl | exact xmk (h := h) w (by omega)) ?_
    refine c_X0_has w nx ?_
    refine st_if_eq (q := 11) (tgt := 21) dX11_mark_8 (by decide) rfl (fun c8 => ?_) (fun c8 => ?_)
    · refine st_iconst (q := 22) dX11_mark_21 ⟨by decide, by decide⟩ rfl ?_
      refine rt_i dX11_mark_22 rfl ?_
      first | exact g1 (by omega) | exact g2 (by omega) (by omega) | (have tq := g3 (by omega) (by omega); rw [if_neg (by omega), if_pos (by omega)] at tq; exact tq) | (have tq := g3 (by omega) (by omega); rw [if_pos (by omega)] at tq; rw [e4k]; exact tq) | (have tq := g3 (by omega) (by omega); rw [if_neg (by omega), if_neg (by omega)] at tq; rw [e3k]; exact tq)
    · refine st_iload_n (q := 12) dX11_mark_11 rfl rfl ?_
      refine st_iconst (q := 13) dX11_mark_12 ⟨by decide, by decide⟩ rfl ?_
      refine st_bipush (q := 15) dX11_mark_13 ⟨by decide, by decide⟩ rfl ?_
      refine iS3i (q := 18) dX11_mark_15 rfl ml_X11_142 ms_X11_isWithin (Nat.le_of_ble_eq_true rfl) ?_
      refine c_X11_isWithin ?_
      refine st_if_ne (q := 21) (tgt := 23) dX11_mark_18 (by decide) rfl (fun c18 => ?_) (fun c18 => ?_)
      · refine st_aload_n (q := 24) dX11_mark_23 rfl rfl ?_
        refine st_getR (q := 27) 11 8 dX11_mark_24 fl_X11_63 (by decide) (by decide) rfl rfl (by first | exact wfk w rfl | exact xmk (h := h) w (by omega)) (wfR w rfl) ?_
        refine st_getR (q := 30) 0 0 dX11_mark_27 fl_X11_339 (by decide) (by decide) rfl rfl (by first | exact wfk w rfl | exact xmk (h := h) w (by omega)) (wfR w rfl) ?_
        refine st_iload_n (q := 31) dX11_mark_30 rfl rfl ?_
        refine st_aaload (q := 32) (t := 5) dX11_mark_31 rfl ⟨by decide, by decide⟩ (by first | exact wfk w rfl | exact xmk (h := h) w (by omega)) (wfb w (n := 40) rfl ⟨by omega, by omega⟩) (xmom (h := h) w (by omega)) ?_
        refine st_astore_n (q := 33) (i := 3) dX11_mark_32 rfl (by decide) rfl ?_
        refine st_aload_n (q := 34) dX11_mark_33 rfl rfl ?_
        refine st_iload_n (q := 35) dX11_mark_34 rfl rfl ?_
        refine iV1i (q := 38) dX11_mark_35 rfl ml_X11_344 mv_X3_isOf (Nat.le_of_ble_eq_true rfl) (by first | exact wfk w rfl | exact xmk (h := h) w (by omega)) ?_
        have e0k := nx.2 m.toNat (by omega) 0 (by omega)
        have e3k := nx.2 m.toNat (by omega) 3 (by omega)
        have e4k := nx.2 m.toNat (by omega) 4 (by omega)
        have oqk := qo.2 m.toNat (by omega)
        refine c_X3_isOf (xmk w (by omega)) ?_
        rw [e0k]
        refine st_if_ne (q := 41) (tgt := 47) dX11_mark_38 (by decide) rfl (fun c38 => ?_) (fun c38 => ?_)
        · refine st_iload_n (q := 48) dX11_mark_47 rfl rfl ?_
          refine st_iconst (q := 49) dX11_mark_48 ⟨by decide, by decide⟩ rfl ?_
          refine st_icmp_ne (q := 52) (tgt := 64) dX11_mark_49 (by decide) rfl (fun c49 => ?_) (fun c49 => ?_)
          · refine st_iload_n (q := 65) dX11_mark_64 rfl rfl ?_
            refine st_iconst (q := 66) dX11_mark_65 ⟨by decide, by decide⟩ rfl ?_
            refine st_icmp_eq (q := 69) (tgt := 74) dX11_mark_66 (by decide) rfl (fun c66 => ?_) (fun c66 => ?_)
            · refine st_aload_n (q := 75) dX11_mark_74 rfl rfl ?_
              refine st_getI (q := 78) 3 4 dX11_mark_75 fl_X11_353 (by decide) (by decide) rfl rfl (by first | exact wfk w rfl | exact xmk (h := h) w (by omega)) ?_
              refine st_goto (q := 85) dX11_mark_78 (by decide) ?_
              refine rt_i dX11_mark_85 rfl ?_
              first | exact g1 (by omega) | exact g2 (by omega) (by omega) | (have tq := g3 (by omega) (by omega); rw [if_neg (by omega), if_pos (by omega)] at tq; exact tq) | (have tq := g3 (by omega) (by omega); rw [if_pos (by omega)] at tq; rw [e4k]; exact tq) | (have tq := g3 (by omega) (by omega); rw [if_neg (by omega), if_neg (by omega)] at tq; rw [e3k]; exact tq)
            · refine st_iload_n (q := 70) dX11_mark_69 rfl rfl ?_
              refine st_iconst (q := 71) dX11_mark_70 ⟨by decide, by decide⟩ rfl ?_
              refine st_icmp_ne (q := 74) (tgt := 81) dX11_mark_71 (by decide) rfl (fun c71 => ?_) (fun c71 => ?_)
              · refine st_aload_n (q := 82) dX11_mark_81 rfl rfl ?_
                refine st_getI (q := 85) 3 3 dX11_mark_82 fl_X11_347 (by decide) (by decide) rfl rfl (by first | exact wfk w rfl | exact xmk (h := h) w (by omega)) ?_
                refine rt_i dX11_mark_85 rfl ?_
                first | exact g1 (by omega) | exact g2 (by omega) (by omega) | (have tq := g3 (by omega) (by omega); rw [if_neg (by omega), if_pos (by omega)] at tq; exact tq) | (have tq := g3 (by omega) (by omega); rw [if_pos (by omega)] at tq; rw [e4k]; exact tq) | (have tq := g3 (by omega) (by omega); rw [if_neg (by omega), if_neg (by omega)] at tq; rw [e3k]; exact tq)
              · refine st_aload_n (q := 75) dX11_mark_74 rfl rfl ?_
                refine st_getI (q := 78) 3 4 dX11_mark_75 fl_X11_353 (by decide) (by decide) rfl rfl (by first | exact wfk w rfl | exact xmk (h := h) w (by omega)) ?_
                refine st_goto (q := 85) dX11_mark_78 (by decide) ?_
                refine rt_i dX11_mark_85 rfl ?_
                first | exact g1 (by omega) | exact g2 (by omega) (by omega) | (have tq := g3 (by omega) (by omega); rw [if_neg (by omega), if_pos (by omega)] at tq; exact tq) | (have tq := g3 (by omega) (by omega); rw [if_pos (by omega)] at tq; rw [e4k]; exact tq) | (have tq := g3 (by omega) (by omega); rw [if_neg (by omega), if_neg (by omega)] at tq; rw [e3k]; exact tq)
          · refine st_aload_n (q := 53) dX11_mark_52 rfl rfl ?_
            refine st_getR (q := 56) 11 7 dX11_mark_53 fl_X11_56 (by decide) (by decide) rfl rfl (by first | exact wfk w rfl | exact xmk (h := h) w (by omega)) (wfR w rfl) ?_
            refine st_aload_n (q := 57) dX11_mark_56 rfl rfl ?_
            refine st_getI (q := 60) 3 3 dX11_mark_57 fl_X11_347 (by decide) (by decide) rfl rfl (by first | exact wfk w rfl | exact xmk (h := h) w (by omega)) ?_
            refine j_top _ e3k ?_
            refine iV1i (q := 63) dX11_mark_60 rfl ml_X11_350 mv_X6_sizeOf (Nat.le_of_ble_eq_true rfl) (by first | exact wfk w rfl | exact xmk (h := h) w (by omega)) ?_
            refine c_X6_sizeOf w (by omega) ?_
            rw [(xg (q.2 m.toNat 3).toNat (by omega)).1, ← (mg (q.2 m.toNat 3).toNat (by omega)).1]
            refine rt_i dX11_mark_63 rfl ?_
            first | exact g1 (by omega) | exact g2 (by omega) (by omega) | (have tq := g3 (by omega) (by omega); rw [if_neg (by omega), if_pos (by omega)] at tq; exact tq) | (have tq := g3 (by omega) (by omega); rw [if_pos (by omega)] at tq; rw [e4k]; exact tq) | (have tq := g3 (by omega) (by omega); rw [if_neg (by omega), if_neg (by omega)] at tq; rw [e3k]; exact tq)
        · refine st_aload_n (q := 42) dX11_mark_41 rfl rfl ?_
          refine st_iconst (q := 43) dX11_mark_42 ⟨by decide, by decide⟩ rfl ?_
          refine iV1i (q := 46) dX11_mark_43 rfl ml_X11_116 mv_X11_find (Nat.le_of_ble_eq_true rfl) (by first | exact wfk w rfl | exact xmk (h := h) w (by omega)) ?_
          refine c_X11_find w (by decide) ?_
          refine rt_i dX11_mark_46 rfl ?_
          first | exact g1 (by omega) | exact g2 (by omega) (by omega) | (have tq := g3 (by omega) (by omega); rw [if_neg (by omega), if_pos (by omega)] at tq; exact tq) | (have tq := g3 (by omega) (by omega); rw [if_pos (by omega)] at tq; rw [e4k]; exact tq) | (have tq := g3 (by omega) (by omega); rw [if_neg (by omega), if_neg (by omega)] at tq; rw [e3k]; exact tq)
      · refine st_iconst (q := 22) dX11_mark_21 ⟨by decide, by decide⟩ rfl ?_
        refine rt_i dX11_mark_22 rfl ?_
        first | exact g1 (by omega) | exact g2 (by omega) (by omega) | (have tq := g3 (by omega) (by omega); rw [if_neg (by omega), if_pos (by omega)] at tq; exact tq) | (have tq := g3 (by omega) (by omega); rw [if_pos (by omega)] at tq; rw [e4k]; exact tq) | (have tq := g3 (by omega) (by omega); rw [if_neg (by omega), if_neg (by omega)] at tq; rw [e3k]; exact tq)
  refine hX (fun z => ?_) (fun z z1 => ?_) (fun z z1 => ?_)
  · exact c_X12_mark w nm qo (fun _ => ⟨rfl, I⟩) (fun t => absurd t z) (fun t => absurd t z)
  · exact c_X12_mark (h := fnH h 3) w nm qo (fun t => absurd z t) (fun _ _ => ⟨rfl, inv_find I (by decide)⟩) (fun _ t => absurd t z1)
  · exact c_X12_mark w nm qo (fun t => absurd z t) (fun _ t => absurd z1 t) (fun _ _ => ⟨rfl, I⟩)

