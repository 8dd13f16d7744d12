/-! the class: strips (rows and texts), findings, what is told -/
theorem xrow {h : JH} (w : WF h) {r : Nat} (hr : r < 6) : hR h 1 r = some (97 + 2 * r) := (w.2.1 1 r (fun z => absurd z.1 (by decide))).trans (sh_rows r hr)
theorem xtext {h : JH} (w : WF h) {r : Nat} (hr : r < 4) : hR h 2 r = some (109 + 2 * r) := (w.2.1 2 r (fun z => absurd z.1 (by decide))).trans (sh_texts r hr)
/-- a strip lies at a, its places behind it -/
def SP (h : JH) (a : Nat) : Prop := kd h a = 9 ∧ hR h a 0 = some (a + 1) ∧ kd h (a + 1) = 20 ∧ ln h (a + 1) = 60
theorem sp_j {h : JH} (w : WF h) {j : Nat} (hj : j < 10) : SP h (97 + 2 * j) := by
  have s := sh_strip j hj
  refine ⟨wfk w (by rw [s.1]), (w.2.1 _ 0 (fun z => by omega)).trans ?_, wfk w (by rw [show 97 + 2 * j + 1 = 98 + 2 * j by omega, s.2.1]), wfl w (by rw [show 97 + 2 * j + 1 = 98 + 2 * j by omega, s.2.1])⟩
  rw [s.2.2, show 97 + 2 * j + 1 = 98 + 2 * j by omega]
theorem sp_row {h : JH} (w : WF h) {r : Nat} (hr : r < 6) : SP h (97 + 2 * r) := sp_j w (by omega)
theorem sp_text {h : JH} (w : WF h) {r : Nat} (hr : r < 4) : SP h (109 + 2 * r) := by
  have := sp_j w (j := 6 + r) (by omega)
  rw [show 97 + 2 * (6 + r) = 109 + 2 * r by omega] at this
  exact this
theorem spb {h : JH} {a : Nat} {i : Int} (s : SP h a) (hi : 0 ≤ i ∧ i < 60) : 0 ≤ i ∧ i < (ln h (a + 1) : Int) := by rw [s.2.2.2]; exact hi
/-- an array of strips -/
def SA (h : JH) (A n B : Nat) : Prop := kd h A = 22 ∧ ln h A = n ∧ n ≤ 6 ∧ ∀ j, j < n → hR h A j = some (B + 2 * j) ∧ SP h (B + 2 * j)
theorem sa_rows {h : JH} (w : WF h) : SA h 1 6 97 := ⟨wfk w rfl, wfl w rfl, by decide, fun _ hj => ⟨xrow w hj, sp_row w hj⟩⟩
theorem sa_texts {h : JH} (w : WF h) : SA h 2 4 109 := ⟨wfk w rfl, wfl w rfl, by decide, fun _ hj => ⟨xtext w hj, sp_text w hj⟩⟩
theorem sab {h : JH} {A n B : Nat} {i : Int} (s : SA h A n B) (hi : 0 ≤ i ∧ i < n) : 0 ≤ i ∧ i < (ln h A : Int) := by rw [s.2.1]; exact hi
theorem c_rc {d : Nat} {h : JH} {P : JH → Prop} {a f t : Int} (hv : 0 ≤ f ∧ f ≤ t ∧ t ≤ a) (hP : P h) : JRv d jJ7_rangeCheck_23922 [vi a, vi f, vi t] h P := by
  refine JRet.of rfl (Nat.le_of_ble_eq_true rfl) ?_
  refine st_iload_n (q := 1) dJ7_rangeCheck_23922_0 rfl rfl ?_
  refine st_iload_n (q := 2) dJ7_rangeCheck_23922_1 rfl rfl ?_
  refine st_icmp_le (q := 5) (tgt := 46) dJ7_rangeCheck_23922_2 (by decide) rfl (fun c2 => ?_) (fun c2 => ?_)
  · refine st_iload_n (q := 47) dJ7_rangeCheck_23922_46 rfl rfl ?_
    refine st_if_ge (q := 50) (tgt := 59) dJ7_rangeCheck_23922_47 (by decide) rfl (fun c47 => ?_) (fun c47 => ?_)
    · refine st_iload_n (q := 60) dJ7_rangeCheck_23922_59 rfl rfl ?_
      refine st_iload_n (q := 61) dJ7_rangeCheck_23922_60 rfl rfl ?_
      refine st_icmp_le (q := 64) (tgt := 73) dJ7_rangeCheck_23922_61 (by decide) rfl (fun c61 => ?_) (fun c61 => ?_)
      · refine rt_v dJ7_rangeCheck_23922_73 rfl ?_
        exact hP
      · exfalso; omega
    · exfalso; omega
  · exfalso; omega
theorem lp_fill {d : Nat} {h : JH} {P : JH → Prop} {b n : Nat} {v : Int} {f : Nat → Int} (hk : kd h b = 20) (hl : n ≤ ln h b) (hm : ln h b < 100000) (hP : P (wI h b (fillF f 0 n v))) (k : Nat) (hn : k ≤ n) : JAt k0 d jJ7_fill_fda19 10 [vr b, vi 0, vi n, vi v, vi k] [] (wI h b (fillF f 0 k v)) (jqv P) := by
  have e : ln (wI h b (fillF f 0 k v)) b = ln h b := rfl
  refine st_iload (q := 12) dJ7_fill_fda19_10 rfl rfl ?_
  refine st_iload_n (q := 13) dJ7_fill_fda19_12 rfl rfl ?_
  refine st_icmp_ge (q := 16) (tgt := 27) dJ7_fill_fda19_13 (by decide) rfl (fun c13 => ?_) (fun c13 => ?_)
  · refine rt_v dJ7_fill_fda19_27 rfl ?_
    exact pv hP (by rw [show k = n by omega])
  · refine st_aload_n (q := 17) dJ7_fill_fda19_16 rfl rfl ?_
    refine st_iload (q := 19) dJ7_fill_fda19_17 rfl rfl ?_
    refine st_iload_n (q := 20) dJ7_fill_fda19_19 rfl rfl ?_
    refine st_iastore (q := 21) dJ7_fill_fda19_20 rfl (hk) (⟨by omega, by rw [e]; omega⟩) ?_
    first | refine n_iinc (q := 24) dJ7_fill_fda19_21 rfl (by decide) rfl ⟨by omega, by omega⟩ ?_ | refine st_iinc (q := 24) dJ7_fill_fda19_21 rfl (by decide) rfl ?_
    refine st_goto (q := 10) dJ7_fill_fda19_24 (by decide) ?_
    rw [sI_wI, show ((k : Int)).toNat = 0 + k by omega, fillF_s]
    exact lp_fill hk hl hm hP (k + 1) (by omega)
termination_by n - k
theorem c_fill {d : Nat} {h : JH} {P : JH → Prop} {b : Nat} {n v : Int} (hk : kd h b = 20) (hl : 0 ≤ n ∧ n ≤ ln h b) (hm : ln h b < 100000) (hP : P (wI h b (fillF (hI h b) 0 n.toNat v))) : JRv (d + 1) jJ7_fill_fda19 [vr b, vi 0, vi n, vi v] h P := by
  refine JRet.of rfl (Nat.le_of_ble_eq_true rfl) ?_
  refine st_aload_n (q := 1) dJ7_fill_fda19_0 rfl rfl ?_
  refine st_arraylength (q := 2) (t := 0) dJ7_fill_fda19_1 rfl (by decide) (hk) ?_
  refine st_iload_n (q := 3) dJ7_fill_fda19_2 rfl rfl ?_
  refine st_iload_n (q := 4) dJ7_fill_fda19_3 rfl rfl ?_
  refine iS3v (q := 7) dJ7_fill_fda19_4 rfl ml_J7_13 ms_J7_rangeCheck_23922 (Nat.le_of_ble_eq_true rfl) ?_
  refine c_rc (by omega) ?_
  refine st_iload_n (q := 8) dJ7_fill_fda19_7 rfl rfl ?_
  refine st_istore (q := 10) dJ7_fill_fda19_8 (by decide) rfl ?_
  have e1 : n = (n.toNat : Int) := by omega
  have := lp_fill (d := d + 1) (n := n.toNat) (v := v) (f := hI h b) hk (by omega) hm hP 0 (by omega)
  rw [fillF_0, wI_self, ← e1] at this
  exact this
theorem c_X9_isThere {d : Nat} {h : JH} {P : Int → JH → Prop} {a : Nat} (s : SP h a) (hP : P (if 0 ≤ hI h a 1 then 1 else 0) h) : JRi d jX9_isThere [vr a] h P := by
  refine JRet.of rfl (Nat.le_of_ble_eq_true rfl) ?_
  refine st_aload_n (q := 1) dX9_isThere_0 rfl rfl ?_
  refine st_getI (q := 4) 9 1 dX9_isThere_1 fl_X9_15 (by decide) (by decide) rfl rfl (s.1) ?_
  apply j_mg 12
  · intro K1 K2
    refine st_if_lt (q := 7) (tgt := 11) dX9_isThere_4 (by decide) rfl (fun c4 => ?_) (fun c4 => ?_)
    · refine st_iconst (q := 12) dX9_isThere_11 ⟨by decide, by decide⟩ rfl ?_
      exact K1 c4
    · refine st_iconst (q := 8) dX9_isThere_7 ⟨by decide, by decide⟩ rfl ?_
      refine st_goto (q := 12) dX9_isThere_8 (by decide) ?_
      exact K2 c4
  · simp only [jif_if]
    refine rt_z dX9_isThere_12 rfl (by (repeat' split) <;> omega) ?_
    exact pq hP (by (repeat' split) <;> omega) rfl
theorem c_X9_has {d : Nat} {h : JH} {P : Int → JH → Prop} {a : Nat} {i : Int} (s : SP h a) (hP : P (if 0 ≤ i ∧ i < hI h a 1 then 1 else 0) h) : JRi d jX9_has [vr a, vi i] h P := by
  refine JRet.of rfl (Nat.le_of_ble_eq_true rfl) ?_
  refine st_iload_n (q := 1) dX9_has_0 rfl rfl ?_
  apply j_mg 17
  · intro K1 K2
    refine st_if_lt (q := 4) (tgt := 16) dX9_has_1 (by decide) rfl (fun c1 => ?_) (fun c1 => ?_)
    · refine st_iconst (q := 17) dX9_has_16 ⟨by decide, by decide⟩ rfl ?_
      exact K1 c1
    · refine st_iload_n (q := 5) dX9_has_4 rfl rfl ?_
      refine st_aload_n (q := 6) dX9_has_5 rfl rfl ?_
      refine st_getI (q := 9) 9 1 dX9_has_6 fl_X9_15 (by decide) (by decide) rfl rfl (s.1) ?_
      apply j_mg 17
      · intro K3 K4
        refine st_icmp_ge (q := 12) (tgt := 16) dX9_has_9 (by decide) rfl (fun c9 => ?_) (fun c9 => ?_)
        · refine st_iconst (q := 17) dX9_has_16 ⟨by decide, by decide⟩ rfl ?_
          exact K3 c9
        · refine st_iconst (q := 13) dX9_has_12 ⟨by decide, by decide⟩ rfl ?_
          refine st_goto (q := 17) dX9_has_13 (by decide) ?_
          exact K4 c9
      · simp only [jif_if]
        exact K2 c1
  · simp only [jif_if]
    refine rt_z dX9_has_17 rfl (by (repeat' split) <;> omega) ?_
    exact pq hP (by (repeat' split) <;> omega) rfl
theorem c_X9_get {d : Nat} {h : JH} {P : Int → JH → Prop} {a : Nat} {i : Int} (s : SP h a) (hz : hI h a 1 ≤ 60) (hP : P (if 0 ≤ i ∧ i < hI h a 1 then hI h (a + 1) i.toNat else 0) h) : JRi (d + 1) jX9_get [vr a, vi i] h P := by
  refine JRet.of rfl (Nat.le_of_ble_eq_true rfl) ?_
  refine st_aload_n (q := 1) dX9_get_0 rfl rfl ?_
  refine st_iload_n (q := 2) dX9_get_1 rfl rfl ?_
  refine iV1i (q := 5) dX9_get_2 rfl ml_X9_25 mv_X9_has (Nat.le_of_ble_eq_true rfl) (by first | exact s.1 | exact s.2.2.1) ?_
  refine c_X9_has s ?_
  refine st_if_eq (q := 8) (tgt := 17) dX9_get_5 (by decide) rfl (fun c5 => ?_) (fun c5 => ?_)
  · refine st_iconst (q := 18) dX9_get_17 ⟨by decide, by decide⟩ rfl ?_
    refine rt_i dX9_get_18 rfl ?_
    exact pq hP (by (repeat' split) <;> first | rfl | omega) rfl
  · refine st_aload_n (q := 9) dX9_get_8 rfl rfl ?_
    refine st_getR (q := 12) 9 0 dX9_get_9 fl_X9_9 (by decide) (by decide) rfl rfl (by first | exact s.1 | exact s.2.2.1) (s.2.1) ?_
    refine st_iload_n (q := 13) dX9_get_12 rfl rfl ?_
    refine st_iaload (q := 14) dX9_get_13 rfl (by first | exact s.1 | exact s.2.2.1) (spb s ⟨by omega, by omega⟩) ?_
    refine st_goto (q := 18) dX9_get_14 (by decide) ?_
    refine rt_i dX9_get_18 rfl ?_
    exact pq hP (by (repeat' split) <;> first | rfl | omega) rfl
theorem c_X9_set {d : Nat} {h : JH} {P : JH → Prop} {a : Nat} {i v : Int} (s : SP h a) (hz : hI h a 1 ≤ 60) (hi : 0 ≤ i ∧ i < hI h a 1) (hP : P (sI h (a + 1) i.toNat v)) : JRv (d + 1) jX9_set [vr a, vi i, vi v] h P := by
  refine JRet.of rfl (Nat.le_of_ble_eq_true rfl) ?_
  refine st_aload_n (q := 1) dX9_set_0 rfl rfl ?_
  refine st_iload_n (q := 2) dX9_set_1 rfl rfl ?_
  refine iV1i (q := 5) dX9_set_2 rfl ml_X9_25 mv_X9_has (Nat.le_of_ble_eq_true rfl) (by first | exact s.1 | exact s.2.2.1) ?_
  refine c_X9_has s ?_
  refine st_if_eq (q := 8) (tgt := 15) dX9_set_5 (by decide) rfl (fun c5 => ?_) (fun c5 => ?_)
  · refine rt_v dX9_set_15 rfl ?_
    first | exact hP | (exfalso; omega)
  · refine st_aload_n (q := 9) dX9_set_8 rfl rfl ?_
    refine st_getR (q := 12) 9 0 dX9_set_9 fl_X9_9 (by decide) (by decide) rfl rfl (by first | exact s.1 | exact s.2.2.1) (s.2.1) ?_
    refine st_iload_n (q := 13) dX9_set_12 rfl rfl ?_
    refine st_iload_n (q := 14) dX9_set_13 rfl rfl ?_
    refine st_iastore (q := 15) dX9_set_14 rfl (by first | exact s.1 | exact s.2.2.1) (spb s ⟨by omega, by omega⟩) ?_
    refine rt_v dX9_set_15 rfl ?_
    first | exact hP | (exfalso; omega)
def mkH (h : JH) (a : Nat) (n v : Int) : JH := sI (wI h (a + 1) (fillF (hI h (a + 1)) 0 n.toNat v)) a 1 n
theorem c_X9_make {d : Nat} {h : JH} {P : JH → Prop} {a : Nat} {n v : Int} (s : SP h a) (hn : 0 ≤ n ∧ n ≤ 60) (hP : P (mkH h a n v)) : JRv (d + 2) jX9_make [vr a, vi n, vi v] h P := by
  have s4 := s.2.2.2
  refine JRet.of rfl (Nat.le_of_ble_eq_true rfl) ?_
  refine st_iload_n (q := 1) dX9_make_0 rfl rfl ?_
  refine st_if_lt (q := 4) (tgt := 13) dX9_make_1 (by decide) rfl (fun c1 => ?_) (fun c1 => ?_)
  · refine rt_v dX9_make_13 rfl ?_
    first | exact hP | (exfalso; omega)
  · refine st_iload_n (q := 5) dX9_make_4 rfl rfl ?_
    refine st_aload_n (q := 6) dX9_make_5 rfl rfl ?_
    refine st_getR (q := 9) 9 0 dX9_make_6 fl_X9_9 (by decide) (by decide) rfl rfl (by first | exact s.1 | exact s.2.2.1) (s.2.1) ?_
    refine st_arraylength (q := 10) (t := 0) dX9_make_9 rfl (by decide) (by first | exact s.1 | exact s.2.2.1) ?_
    rw [s4]
    refine st_icmp_le (q := 13) (tgt := 14) dX9_make_10 (by decide) rfl (fun c10 => ?_) (fun c10 => ?_)
    · refine st_aload_n (q := 15) dX9_make_14 rfl rfl ?_
      refine st_getR (q := 18) 9 0 dX9_make_15 fl_X9_9 (by decide) (by decide) rfl rfl (by first | exact s.1 | exact s.2.2.1) (s.2.1) ?_
      refine st_iconst (q := 19) dX9_make_18 ⟨by decide, by decide⟩ rfl ?_
      refine st_iload_n (q := 20) dX9_make_19 rfl rfl ?_
      refine st_iload_n (q := 21) dX9_make_20 rfl rfl ?_
      refine iS4v (q := 24) dX9_make_21 rfl ml_X9_19 ms_J7_fill_fda19 (Nat.le_of_ble_eq_true rfl) ?_
      refine c_fill s.2.2.1 (by omega) (by omega) ?_
      refine st_aload_n (q := 25) dX9_make_24 rfl rfl ?_
      refine st_iload_n (q := 26) dX9_make_25 rfl rfl ?_
      refine st_putI (q := 29) 9 1 dX9_make_26 fl_X9_15 (by decide) (by decide) (Or.inl rfl) rfl (Or.inl rfl) (by first | exact s.1 | exact s.2.2.1) ?_
      refine rt_v dX9_make_29 rfl ?_
      first | exact hP | (exfalso; omega)
    · refine rt_v dX9_make_13 rfl ?_
      first | exact hP | (exfalso; omega)
theorem c_X9_remove {d : Nat} {h : JH} {P : JH → Prop} {a : Nat} (s : SP h a) (hP : P (sI h a 1 (-1))) : JRv d jX9_remove [vr a] h P := by
  refine JRet.of rfl (Nat.le_of_ble_eq_true rfl) ?_
  refine st_aload_n (q := 1) dX9_remove_0 rfl rfl ?_
  refine st_iconst (q := 2) dX9_remove_1 ⟨by decide, by decide⟩ rfl ?_
  refine st_putI (q := 5) 9 1 dX9_remove_2 fl_X9_15 (by decide) (by decide) (Or.inl rfl) rfl (Or.inl rfl) (s.1) ?_
  refine rt_v dX9_remove_5 rfl ?_
  exact hP
theorem c_X9_hasRun {d : Nat} {h : JH} {P : Int → JH → Prop} {a : Nat} {i n : Int} (s : SP h a) (hz : -1 ≤ hI h a 1 ∧ hI h a 1 ≤ 60) (hP : P (if 0 ≤ i ∧ 0 ≤ n ∧ i + n ≤ hI h a 1 then 1 else 0) h) : JRi d jX9_hasRun [vr a, vi i, vi n] h P := by
  refine r_okh (fun ok ov => ?_)
  have ri : r32 n := ov (vi n) (by simp)
  unfold r32 at ri
  refine JRet.of rfl (Nat.le_of_ble_eq_true rfl) ?_
  refine st_iload_n (q := 1) dX9_hasRun_0 rfl rfl ?_
  refine st_if_lt (q := 4) (tgt := 22) dX9_hasRun_1 (by decide) rfl (fun c1 => ?_) (fun c1 => ?_)
  · refine st_iconst (q := 23) dX9_hasRun_22 ⟨by decide, by decide⟩ rfl ?_
    refine rt_z dX9_hasRun_23 rfl (by (repeat' split) <;> omega) ?_
    exact pq hP (by (repeat' split) <;> omega) rfl
  · refine st_iload_n (q := 5) dX9_hasRun_4 rfl rfl ?_
    refine st_if_lt (q := 8) (tgt := 22) dX9_hasRun_5 (by decide) rfl (fun c5 => ?_) (fun c5 => ?_)
    · refine st_iconst (q := 23) dX9_hasRun_22 ⟨by decide, by decide⟩ rfl ?_
      refine rt_z dX9_hasRun_23 rfl (by (repeat' split) <;> omega) ?_
      exact pq hP (by (repeat' split) <;> omega) rfl
    · refine st_iload_n (q := 9) dX9_hasRun_8 rfl rfl ?_
      refine st_aload_n (q := 10) dX9_hasRun_9 rfl rfl ?_
      refine st_getI (q := 13) 9 1 dX9_hasRun_10 fl_X9_15 (by decide) (by decide) rfl rfl (s.1) ?_
      refine st_iload_n (q := 14) dX9_hasRun_13 rfl rfl ?_
      first | refine n_isub (q := 15) dX9_hasRun_14 rfl ⟨by omega, by omega⟩ ?_ | refine st_isub (q := 15) dX9_hasRun_14 rfl ?_
      refine st_icmp_gt (q := 18) (tgt := 22) dX9_hasRun_15 (by decide) rfl (fun c15 => ?_) (fun c15 => ?_)
      · refine st_iconst (q := 23) dX9_hasRun_22 ⟨by decide, by decide⟩ rfl ?_
        refine rt_z dX9_hasRun_23 rfl (by (repeat' split) <;> omega) ?_
        exact pq hP (by (repeat' split) <;> omega) rfl
      · refine st_iconst (q := 19) dX9_hasRun_18 ⟨by decide, by decide⟩ rfl ?_
        refine st_goto (q := 23) dX9_hasRun_19 (by decide) ?_
        refine rt_z dX9_hasRun_23 rfl (by (repeat' split) <;> omega) ?_
        exact pq hP (by (repeat' split) <;> omega) rfl
theorem lp_X9_sum {d : Nat} {h : JH} {P : Int → JH → Prop} {a n : Nat} (s : SP h a) (ok : okh h) (hn : hI h a 1 = n) (hm : n ≤ 60) (hP : P (sumF (hI h (a + 1)) 0 n) h) (k : Nat) (hk : k ≤ n) : JAt k0 d jX9_sum 4 [vr a, vl (sumF (hI h (a + 1)) 0 k), vn, vi k] [] h (jql P) := by
  have b1 := sumF_b (ok.1 (a + 1)) 0 k
  have b2 := ok.1 (a + 1) k
  unfold r32 at b2
  have e0 : sumF (hI h (a + 1)) 0 (k + 1) = sumF (hI h (a + 1)) 0 k + hI h (a + 1) k := by rw [show sumF (hI h (a + 1)) 0 (k + 1) = sumF (hI h (a + 1)) 0 k + hI h (a + 1) (0 + k) from rfl, Nat.zero_add]
  refine st_iload_n (q := 5) dX9_sum_4 rfl rfl ?_
  refine st_aload_n (q := 6) dX9_sum_5 rfl rfl ?_
  refine st_getI (q := 9) 9 1 dX9_sum_6 fl_X9_15 (by decide) (by decide) rfl rfl (by first | exact s.1 | exact s.2.2.1) ?_
  refine st_icmp_ge (q := 12) (tgt := 28) dX9_sum_9 (by decide) rfl (fun c9 => ?_) (fun c9 => ?_)
  · refine st_lload_n (q := 29) dX9_sum_28 rfl rfl ?_
    refine rt_l dX9_sum_29 rfl ?_
    exact pq hP (by rw [show k = n by omega]) rfl
  · refine st_lload_n (q := 13) dX9_sum_12 rfl rfl ?_
    refine st_aload_n (q := 14) dX9_sum_13 rfl rfl ?_
    refine st_getR (q := 17) 9 0 dX9_sum_14 fl_X9_9 (by decide) (by decide) rfl rfl (by first | exact s.1 | exact s.2.2.1) (s.2.1) ?_
    refine st_iload_n (q := 18) dX9_sum_17 rfl rfl ?_
    refine st_iaload (q := 19) dX9_sum_18 rfl (by first | exact s.1 | exact s.2.2.1) (spb s ⟨by omega, by omega⟩) ?_
    rw [show ((k : Int)).toNat = k from rfl]
    refine st_i2l (q := 20) dX9_sum_19 rfl ?_
    first | refine n_ladd (q := 21) dX9_sum_20 rfl ⟨by omega, by omega⟩ ?_ | refine st_ladd (q := 21) dX9_sum_20 rfl ?_
    refine st_lstore_n (q := 22) (i := 1) dX9_sum_21 rfl (by decide) rfl ?_
    first | refine n_iinc (q := 25) dX9_sum_22 rfl (by decide) rfl ⟨by omega, by omega⟩ ?_ | refine st_iinc (q := 25) dX9_sum_22 rfl (by decide) rfl ?_
    refine st_goto (q := 4) dX9_sum_25 (by decide) ?_
    have := lp_X9_sum (d := d) s ok hn hm hP (k + 1) (by omega)
    rw [e0] at this
    exact this
termination_by n - k
theorem c_X9_sum {d : Nat} {h : JH} {P : Int → JH → Prop} {a n : Nat} (s : SP h a) (hn : hI h a 1 = n) (hm : n ≤ 60) (hP : P (sumF (hI h (a + 1)) 0 n) h) : JRl d jX9_sum [vr a] h P := by
  refine r_okh (fun ok ov => ?_)
  refine JRet.of rfl (Nat.le_of_ble_eq_true rfl) ?_
  refine st_lconst (q := 1) (x := 0) dX9_sum_0 ⟨by decide, by decide, by decide⟩ rfl ?_
  refine st_lstore_n (q := 2) (i := 1) dX9_sum_1 rfl (by decide) rfl ?_
  refine st_iconst (q := 3) dX9_sum_2 ⟨by decide, by decide⟩ rfl ?_
  refine st_istore_n (q := 4) (i := 3) dX9_sum_3 rfl (by decide) rfl ?_
  exact lp_X9_sum s ok hn hm hP 0 (by omega)
theorem c_X11_isNone {d : Nat} {h : JH} {P : Int → JH → Prop} {i n : Int} (hP : P (if i < 0 ∨ n ≤ i then 1 else 0) h) : JRi d jX11_isNone [vi i, vi n] h P := by
  refine JRet.of rfl (Nat.le_of_ble_eq_true rfl) ?_
  refine st_iload_n (q := 1) dX11_isNone_0 rfl rfl ?_
  refine st_if_lt (q := 4) (tgt := 9) dX11_isNone_1 (by decide) rfl (fun c1 => ?_) (fun c1 => ?_)
  · refine st_iconst (q := 10) dX11_isNone_9 ⟨by decide, by decide⟩ rfl ?_
    refine st_goto (q := 14) dX11_isNone_10 (by decide) ?_
    refine rt_z dX11_isNone_14 rfl (by (repeat' split) <;> omega) ?_
    exact pq hP (by (repeat' split) <;> omega) rfl
  · refine st_iload_n (q := 5) dX11_isNone_4 rfl rfl ?_
    refine st_iload_n (q := 6) dX11_isNone_5 rfl rfl ?_
    refine st_icmp_lt (q := 9) (tgt := 13) dX11_isNone_6 (by decide) rfl (fun c6 => ?_) (fun c6 => ?_)
    · refine st_iconst (q := 14) dX11_isNone_13 ⟨by decide, by decide⟩ rfl ?_
      refine rt_z dX11_isNone_14 rfl (by (repeat' split) <;> omega) ?_
      exact pq hP (by (repeat' split) <;> omega) rfl
    · refine st_iconst (q := 10) dX11_isNone_9 ⟨by decide, by decide⟩ rfl ?_
      refine st_goto (q := 14) dX11_isNone_10 (by decide) ?_
      refine rt_z dX11_isNone_14 rfl (by (repeat' split) <;> omega) ?_
      exact pq hP (by (repeat' split) <;> omega) rfl
theorem c_X11_isWithin {d : Nat} {h : JH} {P : Int → JH → Prop} {v lo hi : Int} (hP : P (if lo ≤ v ∧ v ≤ hi then 1 else 0) h) : JRi d jX11_isWithin [vi v, vi lo, vi hi] h P := by
  refine JRet.of rfl (Nat.le_of_ble_eq_true rfl) ?_
  refine st_iload_n (q := 1) dX11_isWithin_0 rfl rfl ?_
  refine st_iload_n (q := 2) dX11_isWithin_1 rfl rfl ?_
  refine st_icmp_lt (q := 5) (tgt := 14) dX11_isWithin_2 (by decide) rfl (fun c2 => ?_) (fun c2 => ?_)
  · refine st_iconst (q := 15) dX11_isWithin_14 ⟨by decide, by decide⟩ rfl ?_
    refine rt_z dX11_isWithin_15 rfl (by (repeat' split) <;> omega) ?_
    exact pq hP (by (repeat' split) <;> omega) rfl
  · refine st_iload_n (q := 6) dX11_isWithin_5 rfl rfl ?_
    refine st_iload_n (q := 7) dX11_isWithin_6 rfl rfl ?_
    refine st_icmp_gt (q := 10) (tgt := 14) dX11_isWithin_7 (by decide) rfl (fun c7 => ?_) (fun c7 => ?_)
    · refine st_iconst (q := 15) dX11_isWithin_14 ⟨by decide, by decide⟩ rfl ?_
      refine rt_z dX11_isWithin_15 rfl (by (repeat' split) <;> omega) ?_
      exact pq hP (by (repeat' split) <;> omega) rfl
    · refine st_iconst (q := 11) dX11_isWithin_10 ⟨by decide, by decide⟩ rfl ?_
      refine st_goto (q := 15) dX11_isWithin_11 (by decide) ?_
      refine rt_z dX11_isWithin_15 rfl (by (repeat' split) <;> omega) ?_
      exact pq hP (by (repeat' split) <;> omega) rfl
def fnH (h : JH) (v : Int) : JH := sI (sI h 0 10 v) 96 v.toNat (w32 (hI h 96 v.toNat + 1))
theorem c_X11_find {d : Nat} {h : JH} {P : Int → JH → Prop} {v : Int} (w : WF h) (hv : 1 ≤ v ∧ v ≤ 5) (hP : P (-3) (fnH h v)) : JRi (d + 1) jX11_find [vr 0, vi v] h P := by
  refine JRet.of rfl (Nat.le_of_ble_eq_true rfl) ?_
  refine st_iload_n (q := 1) dX11_find_0 rfl rfl ?_
  refine st_iconst (q := 2) dX11_find_1 ⟨by decide, by decide⟩ rfl ?_
  refine st_iconst (q := 3) dX11_find_2 ⟨by decide, by decide⟩ rfl ?_
  refine iS3i (q := 6) dX11_find_3 rfl ml_X11_142 ms_X11_isWithin (Nat.le_of_ble_eq_true rfl) ?_
  refine c_X11_isWithin ?_
  refine st_if_eq (q := 9) (tgt := 24) dX11_find_6 (by decide) rfl (fun c6 => ?_) (fun c6 => ?_)
  · refine st_bipush (q := 26) dX11_find_24 ⟨by decide, by decide⟩ rfl ?_
    refine rt_i dX11_find_26 rfl ?_
    first | (exfalso; omega) | exact pq hP rfl (by simp [fnH, sI_I])
  · refine st_aload_n (q := 10) dX11_find_9 rfl rfl ?_
    refine st_iload_n (q := 11) dX11_find_10 rfl rfl ?_
    refine st_putI (q := 14) 11 10 dX11_find_11 fl_X11_71 (by decide) (by decide) (Or.inl rfl) rfl (Or.inl rfl) (wfk w rfl) ?_
    refine st_aload_n (q := 15) dX11_find_14 rfl rfl ?_
    refine st_getR (q := 18) 11 9 dX11_find_15 fl_X11_67 (by decide) (by decide) rfl rfl (wfk w rfl) (wfR w rfl) ?_
    refine st_iload_n (q := 19) dX11_find_18 rfl rfl ?_
    refine st_dup2 (q := 20) dX11_find_19 rfl rfl rfl ?_
    refine st_iaload (q := 21) dX11_find_20 rfl (wfk w rfl) (wfb w (n := 6) rfl ⟨by omega, by omega⟩) ?_
    refine st_iconst (q := 22) dX11_find_21 ⟨by decide, by decide⟩ rfl ?_
    first | refine n_iadd (q := 23) dX11_find_22 rfl ⟨by omega, by omega⟩ ?_ | refine st_iadd (q := 23) dX11_find_22 rfl ?_
    refine st_iastore (q := 24) dX11_find_23 rfl (wfk w rfl) (wfb w (n := 6) rfl ⟨by omega, by omega⟩) ?_
    refine st_bipush (q := 26) dX11_find_24 ⟨by decide, by decide⟩ rfl ?_
    refine rt_i dX11_find_26 rfl ?_
    first | (exfalso; omega) | exact pq hP rfl (by simp [fnH, sI_I])
theorem c_X11_tell {d : Nat} {h : JH} {P : Int → JH → Prop} {v : Int} (w : WF h) (hP : P 1 (sI h 0 11 v)) : JRi d jX11_tell [vr 0, vi v] h P := by
  refine JRet.of rfl (Nat.le_of_ble_eq_true rfl) ?_
  refine st_aload_n (q := 1) dX11_tell_0 rfl rfl ?_
  refine st_iload_n (q := 2) dX11_tell_1 rfl rfl ?_
  refine st_putI (q := 5) 11 11 dX11_tell_2 fl_X11_75 (by decide) (by decide) (Or.inl rfl) rfl (Or.inl rfl) (wfk w rfl) ?_
  refine st_iconst (q := 6) dX11_tell_5 ⟨by decide, by decide⟩ rfl ?_
  refine rt_i dX11_tell_6 rfl ?_
  exact hP
theorem c_X11_makeStrip {d : Nat} {h : JH} {P : Int → JH → Prop} {a : Nat} {n v : Int} (w : WF h) (s : SP h a) (hn : n ≤ 60) (h1 : n < 0 → P (-3) (fnH h 5)) (h2 : 0 ≤ n → P n (mkH h a n v)) : JRi (d + 3) jX11_makeStrip [vr 0, vr a, vi n, vi v] h P := by
  refine JRet.of rfl (Nat.le_of_ble_eq_true rfl) ?_
  refine st_iload_n (q := 1) dX11_makeStrip_0 rfl rfl ?_
  refine st_if_ge (q := 4) (tgt := 10) dX11_makeStrip_1 (by decide) rfl (fun c1 => ?_) (fun c1 => ?_)
  · refine st_aload_n (q := 11) dX11_makeStrip_10 rfl rfl ?_
    refine st_iload_n (q := 12) dX11_makeStrip_11 rfl rfl ?_
    refine st_iload_n (q := 13) dX11_makeStrip_12 rfl rfl ?_
    refine iV2v (q := 16) dX11_makeStrip_13 rfl ml_X11_414 mv_X9_make (Nat.le_of_ble_eq_true rfl) (s.1) ?_
    refine c_X9_make s (by omega) ?_
    refine st_iload_n (q := 17) dX11_makeStrip_16 rfl rfl ?_
    refine rt_i dX11_makeStrip_17 rfl ?_
    first | exact h1 (by omega) | exact h2 (by omega)
  · refine st_aload_n (q := 5) dX11_makeStrip_4 rfl rfl ?_
    refine st_iconst (q := 6) dX11_makeStrip_5 ⟨by decide, by decide⟩ rfl ?_
    refine iV1i (q := 9) dX11_makeStrip_6 rfl ml_X11_116 mv_X11_find (Nat.le_of_ble_eq_true rfl) (wfk w rfl) ?_
    refine c_X11_find w (by decide) ?_
    refine rt_i dX11_makeStrip_9 rfl ?_
    first | exact h1 (by omega) | exact h2 (by omega)
theorem c_X11_refusesStrip {d : Nat} {h : JH} {P : Int → JH → Prop} {A n B : Nat} {i : Int} (w : WF h) (sa : SA h A n B) (h1 : ¬ (0 ≤ i ∧ i < n) → P (-1) h) (h2 : 0 ≤ i ∧ i < n → hI h (B + 2 * i.toNat) 1 < 0 → P (-3) (fnH h 1)) (h3 : 0 ≤ i ∧ i < n → 0 ≤ hI h (B + 2 * i.toNat) 1 → P 0 h) : JRi (d + 2) jX11_refusesStrip [vr 0, vr A, vi i] h P := by
  have s2 := sa.2.1
  have s3 := sa.2.2.1
  refine JRet.of rfl (Nat.le_of_ble_eq_true rfl) ?_
  refine st_iload_n (q := 1) dX11_refusesStrip_0 rfl rfl ?_
  refine st_aload_n (q := 2) dX11_refusesStrip_1 rfl rfl ?_
  refine st_arraylength (q := 3) (t := 2) dX11_refusesStrip_2 rfl (by decide) (sa.1) ?_
  rw [s2]
  refine iS2i (q := 6) dX11_refusesStrip_3 rfl ml_X11_86 ms_X11_isNone (Nat.le_of_ble_eq_true rfl) ?_
  refine c_X11_isNone ?_
  refine st_if_eq (q := 9) (tgt := 11) dX11_refusesStrip_6 (by decide) rfl (fun c6 => ?_) (fun c6 => ?_)
  · refine st_aload_n (q := 12) dX11_refusesStrip_11 rfl rfl ?_
    refine st_iload_n (q := 13) dX11_refusesStrip_12 rfl rfl ?_
    refine st_aaload (q := 14) (t := 2) dX11_refusesStrip_13 rfl ⟨by decide, by decide⟩ (sa.1) (sab sa ⟨by omega, by omega⟩) ((sa.2.2.2 i.toNat (by omega)).1) ?_
    refine iV0i (q := 17) dX11_refusesStrip_14 rfl ml_X11_119 mv_X9_isThere (Nat.le_of_ble_eq_true rfl) ((sa.2.2.2 i.toNat (by omega)).2.1) ?_
    refine c_X9_isThere (sa.2.2.2 i.toNat (by omega)).2 ?_
    refine st_if_eq (q := 20) (tgt := 24) dX11_refusesStrip_17 (by decide) rfl (fun c17 => ?_) (fun c17 => ?_)
    · refine st_aload_n (q := 25) dX11_refusesStrip_24 rfl rfl ?_
      refine st_iconst (q := 26) dX11_refusesStrip_25 ⟨by decide, by decide⟩ rfl ?_
      refine iV1i (q := 29) dX11_refusesStrip_26 rfl ml_X11_116 mv_X11_find (Nat.le_of_ble_eq_true rfl) (wfk w rfl) ?_
      refine c_X11_find w (by decide) ?_
      refine rt_i dX11_refusesStrip_29 rfl ?_
      first | exact h1 (by omega) | exact h2 (by omega) (by omega) | exact h3 (by omega) (by omega)
    · refine st_iconst (q := 21) dX11_refusesStrip_20 ⟨by decide, by decide⟩ rfl ?_
      refine st_goto (q := 29) dX11_refusesStrip_21 (by decide) ?_
      refine rt_i dX11_refusesStrip_29 rfl ?_
      first | exact h1 (by omega) | exact h2 (by omega) (by omega) | exact h3 (by omega) (by omega)
  · refine st_iconst (q := 10) dX11_refusesStrip_9 ⟨by decide, by decide⟩ rfl ?_
    refine rt_i dX11_refusesStrip_10 rfl ?_
    first | exact h1 (by omega) | exact h2 (by omega) (by omega) | exact h3 (by omega) (by omega)
theorem c_X11_refusesPlace {d : Nat} {h : JH} {P : Int → JH → Prop} {A n B : Nat} {i k : Int} (w : WF h) (sa : SA h A n B) (h1 : ¬ (0 ≤ i ∧ i < n) → P (-1) h) (h2 : 0 ≤ i ∧ i < n → hI h (B + 2 * i.toNat) 1 < 0 → P (-3) (fnH h 1)) (h3 : 0 ≤ i ∧ i < n → 0 ≤ hI h (B + 2 * i.toNat) 1 → ¬ (0 ≤ k ∧ k < hI h (B + 2 * i.toNat) 1) → P (-3) (fnH h 2)) (h4 : 0 ≤ i ∧ i < n → 0 ≤ k ∧ k < hI h (B + 2 * i.toNat) 1 → P 0 h) : JRi (d + 3) jX11_refusesPlace [vr 0, vr A, vi i, vi k] h P := by
  have s3 := sa.2.2.1
  refine JRet.of rfl (Nat.le_of_ble_eq_true rfl) ?_
  refine st_aload_n (q := 1) dX11_refusesPlace_0 rfl rfl ?_
  refine st_aload_n (q := 2) dX11_refusesPlace_1 rfl rfl ?_
  refine st_iload_n (q := 3) dX11_refusesPlace_2 rfl rfl ?_
  refine iV2i (q := 6) dX11_refusesPlace_3 rfl ml_X11_109 mv_X11_refusesStrip (Nat.le_of_ble_eq_true rfl) (wfk w rfl) ?_
  refine c_X11_refusesStrip w sa (fun a1 => ?_) (fun a1 a2 => ?_) (fun a1 a2 => ?_)
  · refine st_istore (q := 8) dX11_refusesPlace_6 (by decide) rfl ?_
    refine st_iload (q := 10) dX11_refusesPlace_8 rfl rfl ?_
    refine st_if_eq (q := 13) (tgt := 16) dX11_refusesPlace_10 (by decide) rfl (fun z => absurd z (by decide)) (fun _ => ?_)
    refine st_iload (q := 15) dX11_refusesPlace_13 rfl rfl ?_
    refine rt_i dX11_refusesPlace_15 rfl ?_
    first | exact h1 (by omega) | exact h2 (by omega) (by omega) | exact h3 (by omega) (by omega) (by omega) | exact h4 (by omega) (by omega)
  · refine st_istore (q := 8) dX11_refusesPlace_6 (by decide) rfl ?_
    refine st_iload (q := 10) dX11_refusesPlace_8 rfl rfl ?_
    refine st_if_eq (q := 13) (tgt := 16) dX11_refusesPlace_10 (by decide) rfl (fun z => absurd z (by decide)) (fun _ => ?_)
    refine st_iload (q := 15) dX11_refusesPlace_13 rfl rfl ?_
    refine rt_i dX11_refusesPlace_15 rfl ?_
    first | exact h1 (by omega) | exact h2 (by omega) (by omega) | exact h3 (by omega) (by omega) (by omega) | exact h4 (by omega) (by omega)
  · refine st_istore (q := 8) dX11_refusesPlace_6 (by decide) rfl ?_
    refine st_iload (q := 10) dX11_refusesPlace_8 rfl rfl ?_
    refine st_if_eq (q := 13) (tgt := 16) dX11_refusesPlace_10 (by decide) rfl (fun _ => ?_) (fun z => absurd z (by decide))
    refine st_aload_n (q := 17) dX11_refusesPlace_16 rfl rfl ?_
    refine st_iload_n (q := 18) dX11_refusesPlace_17 rfl rfl ?_
    refine st_aaload (q := 19) (t := 2) dX11_refusesPlace_18 rfl ⟨by decide, by decide⟩ (sa.1) (sab sa ⟨by omega, by omega⟩) ((sa.2.2.2 i.toNat (by omega)).1) ?_
    refine st_iload_n (q := 20) dX11_refusesPlace_19 rfl rfl ?_
    refine iV1i (q := 23) dX11_refusesPlace_20 rfl ml_X11_416 mv_X9_has (Nat.le_of_ble_eq_true rfl) ((sa.2.2.2 i.toNat (by omega)).2.1) ?_
    refine c_X9_has (sa.2.2.2 i.toNat (by omega)).2 ?_
    refine st_if_eq (q := 26) (tgt := 30) dX11_refusesPlace_23 (by decide) rfl (fun c23 => ?_) (fun c23 => ?_)
    · refine st_aload_n (q := 31) dX11_refusesPlace_30 rfl rfl ?_
      refine st_iconst (q := 32) dX11_refusesPlace_31 ⟨by decide, by decide⟩ rfl ?_
      refine iV1i (q := 35) dX11_refusesPlace_32 rfl ml_X11_116 mv_X11_find (Nat.le_of_ble_eq_true rfl) (wfk w rfl) ?_
      refine c_X11_find w (by decide) ?_
      refine rt_i dX11_refusesPlace_35 rfl ?_
      first | exact h1 (by omega) | exact h2 (by omega) (by omega) | exact h3 (by omega) (by omega) (by omega) | exact h4 (by omega) (by omega)
    · refine st_iconst (q := 27) dX11_refusesPlace_26 ⟨by decide, by decide⟩ rfl ?_
      refine st_goto (q := 35) dX11_refusesPlace_27 (by decide) ?_
      refine rt_i dX11_refusesPlace_35 rfl ?_
      first | exact h1 (by omega) | exact h2 (by omega) (by omega) | exact h3 (by omega) (by omega) (by omega) | exact h4 (by omega) (by omega)

