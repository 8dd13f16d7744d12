/-! both sides answer alike: what is told, counts -/
theorem c_X11_asked {d : Nat} {h : JH} {P : Int → JH → Prop} (w : WF h) (hP : P (hI h 0 11) h) : JRi d jX11_asked [vr 0] h P := by
  refine JRet.of rfl (Nat.le_of_ble_eq_true rfl) ?_
  refine st_aload_n (q := 1) dX11_asked_0 rfl rfl ?_
  refine st_getI (q := 4) 11 11 dX11_asked_1 fl_X11_75 (by decide) (by decide) rfl rfl (wfk w rfl) ?_
  refine rt_i dX11_asked_4 rfl ?_
  exact hP
theorem c_X11_finding {d : Nat} {h : JH} {P : Int → JH → Prop} (w : WF h) (hP : P (hI h 0 10) h) : JRi d jX11_finding [vr 0] h P := by
  refine JRet.of rfl (Nat.le_of_ble_eq_true rfl) ?_
  refine st_aload_n (q := 1) dX11_finding_0 rfl rfl ?_
  refine st_getI (q := 4) 11 10 dX11_finding_1 fl_X11_71 (by decide) (by decide) rfl rfl (wfk w rfl) ?_
  refine rt_i dX11_finding_4 rfl ?_
  exact hP
theorem c_X11_upper {d : Nat} {h : JH} {P : Int → JH → Prop} (w : WF h) (hP : P (hJ h 0 12) h) : JRl d jX11_upper [vr 0] h P := by
  refine JRet.of rfl (Nat.le_of_ble_eq_true rfl) ?_
  refine st_aload_n (q := 1) dX11_upper_0 rfl rfl ?_
  refine st_getJ (q := 4) 11 12 dX11_upper_1 fl_X11_78 (by decide) (by decide) rfl rfl (wfk w rfl) ?_
  refine rt_l dX11_upper_4 rfl ?_
  exact hP
theorem c_X11_lower {d : Nat} {h : JH} {P : Int → JH → Prop} (w : WF h) (hP : P (hJ h 0 13) h) : JRl d jX11_lower [vr 0] h P := by
  refine JRet.of rfl (Nat.le_of_ble_eq_true rfl) ?_
  refine st_aload_n (q := 1) dX11_lower_0 rfl rfl ?_
  refine st_getJ (q := 4) 11 13 dX11_lower_1 fl_X11_82 (by decide) (by decide) rfl rfl (wfk w rfl) ?_
  refine rt_l dX11_lower_4 rfl ?_
  exact hP
theorem c_X11_findings {d : Nat} {h : JH} {P : Int → JH → Prop} {f : Int} (w : WF h) (h1 : ¬ (1 ≤ f ∧ f ≤ 5) → P (-1) h) (h2 : 1 ≤ f ∧ f ≤ 5 → P (hI h 96 f.toNat) h) : JRi (d + 1) jX11_findings [vr 0, vi f] h P := by
  refine JRet.of rfl (Nat.le_of_ble_eq_true rfl) ?_
  refine st_iload_n (q := 1) dX11_findings_0 rfl rfl ?_
  refine st_iconst (q := 2) dX11_findings_1 ⟨by decide, by decide⟩ rfl ?_
  refine st_iconst (q := 3) dX11_findings_2 ⟨by decide, by decide⟩ rfl ?_
  refine iS3i (q := 6) dX11_findings_3 rfl ml_X11_142 ms_X11_isWithin (Nat.le_of_ble_eq_true rfl) ?_
  refine c_X11_isWithin ?_
  refine st_if_eq (q := 9) (tgt := 18) dX11_findings_6 (by decide) rfl (fun c6 => ?_) (fun c6 => ?_)
  · refine st_iconst (q := 19) dX11_findings_18 ⟨by decide, by decide⟩ rfl ?_
    refine rt_i dX11_findings_19 rfl ?_
    first | exact h1 (by omega) | exact h2 (by omega)
  · refine st_aload_n (q := 10) dX11_findings_9 rfl rfl ?_
    refine st_getR (q := 13) 11 9 dX11_findings_10 fl_X11_67 (by decide) (by decide) rfl rfl (wfk w rfl) (wfR w rfl) ?_
    refine st_iload_n (q := 14) dX11_findings_13 rfl rfl ?_
    refine st_iaload (q := 15) dX11_findings_14 rfl (wfk w rfl) (wfb w (n := 6) rfl ⟨by omega, by omega⟩) ?_
    refine st_goto (q := 19) dX11_findings_15 (by decide) ?_
    refine rt_i dX11_findings_19 rfl ?_
    first | exact h1 (by omega) | exact h2 (by omega)
/-- the same for calls that answer a long -/
def TwoL (d : Nat) (yX yM : JM) (vs : List JV) (h : JH) : Prop := JRl d yX (vr 0 :: vs) h (fun v h1 => JRl d yM (vr 117 :: vs) h1 (fun v' h2 => v = v' ∧ Inv h2))
theorem pr_asked {d : Nat} {h : JH} (I : Inv h) : Two (d + 4) jX11_asked jX12_asked [] h := c_X11_asked I.1 (c_X12_asked I.1 ⟨I.2.2.2.2.2.2.2.2.1.2.2.1, I⟩)
theorem pr_finding {d : Nat} {h : JH} (I : Inv h) : Two (d + 4) jX11_finding jX12_finding [] h := c_X11_finding I.1 (c_X12_finding I.1 ⟨I.2.2.2.2.2.2.2.2.1.1, I⟩)
theorem pr_upper {d : Nat} {h : JH} (I : Inv h) : TwoL (d + 4) jX11_upper jX12_upper [] h := c_X11_upper I.1 (c_X12_upper I.1 ⟨I.2.2.2.2.2.2.2.2.1.2.2.2.1, I⟩)
theorem pr_lower {d : Nat} {h : JH} (I : Inv h) : TwoL (d + 4) jX11_lower jX12_lower [] h := c_X11_lower I.1 (c_X12_lower I.1 ⟨I.2.2.2.2.2.2.2.2.1.2.2.2.2, I⟩)
theorem pr_findings {d : Nat} {h : JH} {f : Int} (I : Inv h) : Two (d + 4) jX11_findings jX12_findings [vi f] h := by
  refine c_X11_findings I.1 (fun z => ?_) (fun z => ?_)
  · exact c_X12_findings I.1 (fun _ => ⟨rfl, I⟩) (fun t => absurd t z)
  · exact c_X12_findings I.1 (fun t => absurd z t) (fun _ => ⟨I.2.2.2.2.2.2.2.2.1.2.1 f.toNat (by omega), I⟩)
theorem cnP_z {p : Nat → Bool} : ∀ {n : Nat}, (∀ k, k < n → p k = false) → cnP p n = 0
  | 0, _ => rfl
  | n + 1, h => by
    show cnP p n + (if p n then 1 else 0) = 0
    rw [cnP_z (fun k hk => h k (by omega)), h n (by omega)]
    rfl
theorem lp_X11_thereAmong {d : Nat} {h : JH} {P : Int → JH → Prop} {A n B : Nat} (sa : SA h A n B) (hP : P (cnP (fun r => decide (0 ≤ hI h (B + 2 * r) 1)) n : Nat) h) (k : Nat) (hk : k ≤ n) : JAt k0 (d + 1) jX11_thereAmong 4 [vr A, vi (cnP (fun r => decide (0 ≤ hI h (B + 2 * r) 1)) k : Nat), vi k] [] h (jqi P) := by
  have s2 := sa.2.1
  have s3 := sa.2.2.1
  have b1 := cnP_le (fun r => decide (0 ≤ hI h (B + 2 * r) 1)) k
  have e0 : cnP (fun r => decide (0 ≤ hI h (B + 2 * r) 1)) (k + 1) = cnP (fun r => decide (0 ≤ hI h (B + 2 * r) 1)) k + (if decide (0 ≤ hI h (B + 2 * k) 1) then 1 else 0) := rfl
  refine st_iload_n (q := 5) dX11_thereAmong_4 rfl rfl ?_
  refine st_aload_n (q := 6) dX11_thereAmong_5 rfl rfl ?_
  refine st_arraylength (q := 7) (t := 2) dX11_thereAmong_6 rfl (by decide) (sa.1) ?_
  rw [s2]
  refine st_icmp_ge (q := 10) (tgt := 28) dX11_thereAmong_7 (by decide) rfl (fun c7 => ?_) (fun c7 => ?_)
  · refine st_iload_n (q := 29) dX11_thereAmong_28 rfl rfl ?_
    refine rt_i dX11_thereAmong_29 rfl ?_
    exact pq hP (by rw [show k = n by omega]) rfl
  · refine st_aload_n (q := 11) dX11_thereAmong_10 rfl rfl ?_
    refine st_iload_n (q := 12) dX11_thereAmong_11 rfl rfl ?_
    refine st_aaload (q := 13) (t := 2) dX11_thereAmong_12 rfl ⟨by decide, by decide⟩ (sa.1) (sab sa ⟨by omega, by omega⟩) ((sa.2.2.2 ((k : Int)).toNat (by omega)).1) ?_
    refine iV0i (q := 16) dX11_thereAmong_13 rfl ml_X11_119 mv_X9_isThere (Nat.le_of_ble_eq_true rfl) ((sa.2.2.2 ((k : Int)).toNat (by omega)).2.1) ?_
    refine c_X9_isThere (sa.2.2.2 ((k : Int)).toNat (by omega)).2 ?_
    rw [show ((k : Int)).toNat = k from rfl]
    refine st_if_eq (q := 19) (tgt := 22) dX11_thereAmong_16 (by decide) rfl (fun c16 => ?_) (fun c16 => ?_)
    · first | refine n_iinc (q := 25) dX11_thereAmong_22 rfl (by decide) rfl ⟨by omega, by omega⟩ ?_ | refine st_iinc (q := 25) dX11_thereAmong_22 rfl (by decide) rfl ?_
      refine st_goto (q := 4) dX11_thereAmong_25 (by decide) ?_
      have t := lp_X11_thereAmong (d := d) sa hP (k + 1) (by omega)
      first | (rw [decide_eq_true (show 0 ≤ hI h (B + 2 * k) 1 by omega)] at e0; rw [e0] at t; exact t) | (rw [decide_eq_false (show ¬ 0 ≤ hI h (B + 2 * k) 1 by omega)] at e0; rw [e0] at t; exact t)
    · first | refine n_iinc (q := 22) dX11_thereAmong_19 rfl (by decide) rfl ⟨by omega, by omega⟩ ?_ | refine st_iinc (q := 22) dX11_thereAmong_19 rfl (by decide) rfl ?_
      first | refine n_iinc (q := 25) dX11_thereAmong_22 rfl (by decide) rfl ⟨by omega, by omega⟩ ?_ | refine st_iinc (q := 25) dX11_thereAmong_22 rfl (by decide) rfl ?_
      refine st_goto (q := 4) dX11_thereAmong_25 (by decide) ?_
      have t := lp_X11_thereAmong (d := d) sa hP (k + 1) (by omega)
      first | (rw [decide_eq_true (show 0 ≤ hI h (B + 2 * k) 1 by omega)] at e0; rw [e0] at t; exact t) | (rw [decide_eq_false (show ¬ 0 ≤ hI h (B + 2 * k) 1 by omega)] at e0; rw [e0] at t; exact t)
termination_by n - k
theorem c_X11_thereAmong {d : Nat} {h : JH} {P : Int → JH → Prop} {A n B : Nat} (sa : SA h A n B) (hP : P (cnP (fun r => decide (0 ≤ hI h (B + 2 * r) 1)) n : Nat) h) : JRi (d + 1) jX11_thereAmong [vr A] h P := by
  refine JRet.of rfl (Nat.le_of_ble_eq_true rfl) ?_
  refine st_iconst (q := 1) dX11_thereAmong_0 ⟨by decide, by decide⟩ rfl ?_
  refine st_istore_n (q := 2) (i := 1) dX11_thereAmong_1 rfl (by decide) rfl ?_
  refine st_iconst (q := 3) dX11_thereAmong_2 ⟨by decide, by decide⟩ rfl ?_
  refine st_istore_n (q := 4) (i := 2) dX11_thereAmong_3 rfl (by decide) rfl ?_
  exact lp_X11_thereAmong sa hP 0 (by omega)
theorem lp_X7_hidesThere {d : Nat} {h : JH} {P : Int → JH → Prop} {u : HD} (w : WF h) (x : HX h u) (hP : P (cnP (fun k => decide (uO u k ≠ 0)) 8 : Nat) h) (k : Nat) (hk : k ≤ 8) : JAt k0 (d + 1) jX7_hidesThere 4 [vr 3, vi (cnP (fun k => decide (uO u k ≠ 0)) k : Nat), vi k] [] h (jqi P) := by
  have b1 := cnP_le (fun k => decide (uO u k ≠ 0)) k
  have xk : k < 8 → (hI h (5 + ((k : Int)).toNat) 0 = 0 ↔ uO u k = 0) := fun z => by rw [show ((k : Int)).toNat = k from rfl, (x k z).1]; split <;> simp_all
  have e0 : cnP (fun k => decide (uO u k ≠ 0)) (k + 1) = cnP (fun k => decide (uO u k ≠ 0)) k + (if decide (uO u k ≠ 0) then 1 else 0) := rfl
  refine st_iload_n (q := 5) dX7_hidesThere_4 rfl rfl ?_
  refine st_aload_n (q := 6) dX7_hidesThere_5 rfl rfl ?_
  refine st_getR (q := 9) 7 0 dX7_hidesThere_6 fl_X7_11 (by decide) (by decide) rfl rfl (wfk w rfl) (wfR w rfl) ?_
  refine st_arraylength (q := 10) (t := 3) dX7_hidesThere_9 rfl (by decide) (wfk w rfl) ?_
  rw [wfl w (n := 8) rfl]
  refine st_icmp_ge (q := 13) (tgt := 34) dX7_hidesThere_10 (by decide) rfl (fun c10 => ?_) (fun c10 => ?_)
  · refine st_iload_n (q := 35) dX7_hidesThere_34 rfl rfl ?_
    refine rt_i dX7_hidesThere_35 rfl ?_
    exact pq hP (by rw [show k = 8 by omega]) rfl
  · refine st_aload_n (q := 14) dX7_hidesThere_13 rfl rfl ?_
    refine st_getR (q := 17) 7 0 dX7_hidesThere_14 fl_X7_11 (by decide) (by decide) rfl rfl (wfk w rfl) (wfR w rfl) ?_
    refine st_iload_n (q := 18) dX7_hidesThere_17 rfl rfl ?_
    refine st_aaload (q := 19) (t := 3) dX7_hidesThere_18 rfl ⟨by decide, by decide⟩ (wfk w rfl) (wfb w (n := 8) rfl ⟨by omega, by omega⟩) (xhide w (by omega)) ?_
    refine st_getI (q := 22) 2 0 dX7_hidesThere_19 fl_X7_28 (by decide) (by decide) rfl rfl (xhk w (by omega)) ?_
    refine st_if_eq (q := 25) (tgt := 28) dX7_hidesThere_22 (by decide) rfl (fun c22 => ?_) (fun c22 => ?_)
    · first | refine n_iinc (q := 31) dX7_hidesThere_28 rfl (by decide) rfl ⟨by omega, by omega⟩ ?_ | refine st_iinc (q := 31) dX7_hidesThere_28 rfl (by decide) rfl ?_
      refine st_goto (q := 4) dX7_hidesThere_31 (by decide) ?_
      have t := lp_X7_hidesThere (d := d) w x hP (k + 1) (by omega)
      have xk2 := xk (by omega)
      first | (rw [decide_eq_true (show uO u k ≠ 0 by omega)] at e0; rw [e0] at t; exact t) | (rw [decide_eq_false (show ¬ uO u k ≠ 0 by omega)] at e0; rw [e0] at t; exact t)
    · first | refine n_iinc (q := 28) dX7_hidesThere_25 rfl (by decide) rfl ⟨by omega, by omega⟩ ?_ | refine st_iinc (q := 28) dX7_hidesThere_25 rfl (by decide) rfl ?_
      first | refine n_iinc (q := 31) dX7_hidesThere_28 rfl (by decide) rfl ⟨by omega, by omega⟩ ?_ | refine st_iinc (q := 31) dX7_hidesThere_28 rfl (by decide) rfl ?_
      refine st_goto (q := 4) dX7_hidesThere_31 (by decide) ?_
      have t := lp_X7_hidesThere (d := d) w x hP (k + 1) (by omega)
      have xk2 := xk (by omega)
      first | (rw [decide_eq_true (show uO u k ≠ 0 by omega)] at e0; rw [e0] at t; exact t) | (rw [decide_eq_false (show ¬ uO u k ≠ 0 by omega)] at e0; rw [e0] at t; exact t)
termination_by 8 - k
theorem c_X7_hidesThere {d : Nat} {h : JH} {P : Int → JH → Prop} {u : HD} (w : WF h) (x : HX h u) (hP : P (cnP (fun k => decide (uO u k ≠ 0)) 8 : Nat) h) : JRi (d + 1) jX7_hidesThere [vr 3] h P := by
  refine JRet.of rfl (Nat.le_of_ble_eq_true rfl) ?_
  refine st_iconst (q := 1) dX7_hidesThere_0 ⟨by decide, by decide⟩ rfl ?_
  refine st_istore_n (q := 2) (i := 1) dX7_hidesThere_1 rfl (by decide) rfl ?_
  refine st_iconst (q := 3) dX7_hidesThere_2 ⟨by decide, by decide⟩ rfl ?_
  refine st_istore_n (q := 4) (i := 2) dX7_hidesThere_3 rfl (by decide) rfl ?_
  exact lp_X7_hidesThere w x hP 0 (by omega)
theorem lp_X6_withKnocks {d : Nat} {h : JH} {P : Int → JH → Prop} {g : SG} (w : WF h) (x : GX h g) (hP : P (cnP (fun k => decide (0 < (g k).1)) 8 : Nat) h) (k : Nat) (hk : k ≤ 8) : JAt k0 (d + 1) jX6_withKnocks 4 [vr 48, vi (cnP (fun k => decide (0 < (g k).1)) k : Nat), vi k] [] h (jqi P) := by
  have b1 := cnP_le (fun k => decide (0 < (g k).1)) k
  have xk : k < 8 → hI h 49 ((k : Int)).toNat = ((g k).1 : Int) := fun z => (x k z).1
  have e0 : cnP (fun k => decide (0 < (g k).1)) (k + 1) = cnP (fun k => decide (0 < (g k).1)) k + (if decide (0 < (g k).1) then 1 else 0) := rfl
  refine st_iload_n (q := 5) dX6_withKnocks_4 rfl rfl ?_
  refine st_bipush (q := 7) dX6_withKnocks_5 ⟨by decide, by decide⟩ rfl ?_
  refine st_icmp_ge (q := 10) (tgt := 28) dX6_withKnocks_7 (by decide) rfl (fun c7 => ?_) (fun c7 => ?_)
  · refine st_iload_n (q := 29) dX6_withKnocks_28 rfl rfl ?_
    refine rt_i dX6_withKnocks_29 rfl ?_
    exact pq hP (by rw [show k = 8 by omega]) rfl
  · refine st_aload_n (q := 11) dX6_withKnocks_10 rfl rfl ?_
    refine st_getR (q := 14) 6 0 dX6_withKnocks_11 fl_X6_9 (by decide) (by decide) rfl rfl (wfk w rfl) (wfR w rfl) ?_
    refine st_iload_n (q := 15) dX6_withKnocks_14 rfl rfl ?_
    refine st_iaload (q := 16) dX6_withKnocks_15 rfl (wfk w rfl) (wfb w (n := 8) rfl ⟨by omega, by omega⟩) ?_
    refine st_if_le (q := 19) (tgt := 22) dX6_withKnocks_16 (by decide) rfl (fun c16 => ?_) (fun c16 => ?_)
    · first | refine n_iinc (q := 25) dX6_withKnocks_22 rfl (by decide) rfl ⟨by omega, by omega⟩ ?_ | refine st_iinc (q := 25) dX6_withKnocks_22 rfl (by decide) rfl ?_
      refine st_goto (q := 4) dX6_withKnocks_25 (by decide) ?_
      have t := lp_X6_withKnocks (d := d) w x hP (k + 1) (by omega)
      have xk2 := xk (by omega)
      first | (rw [decide_eq_true (show 0 < (g k).1 by omega)] at e0; rw [e0] at t; exact t) | (rw [decide_eq_false (show ¬ 0 < (g k).1 by omega)] at e0; rw [e0] at t; exact t)
    · first | refine n_iinc (q := 22) dX6_withKnocks_19 rfl (by decide) rfl ⟨by omega, by omega⟩ ?_ | refine st_iinc (q := 22) dX6_withKnocks_19 rfl (by decide) rfl ?_
      first | refine n_iinc (q := 25) dX6_withKnocks_22 rfl (by decide) rfl ⟨by omega, by omega⟩ ?_ | refine st_iinc (q := 25) dX6_withKnocks_22 rfl (by decide) rfl ?_
      refine st_goto (q := 4) dX6_withKnocks_25 (by decide) ?_
      have t := lp_X6_withKnocks (d := d) w x hP (k + 1) (by omega)
      have xk2 := xk (by omega)
      first | (rw [decide_eq_true (show 0 < (g k).1 by omega)] at e0; rw [e0] at t; exact t) | (rw [decide_eq_false (show ¬ 0 < (g k).1 by omega)] at e0; rw [e0] at t; exact t)
termination_by 8 - k
theorem c_X6_withKnocks {d : Nat} {h : JH} {P : Int → JH → Prop} {g : SG} (w : WF h) (x : GX h g) (hP : P (cnP (fun k => decide (0 < (g k).1)) 8 : Nat) h) : JRi (d + 1) jX6_withKnocks [vr 48] h P := by
  refine JRet.of rfl (Nat.le_of_ble_eq_true rfl) ?_
  refine st_iconst (q := 1) dX6_withKnocks_0 ⟨by decide, by decide⟩ rfl ?_
  refine st_istore_n (q := 2) (i := 1) dX6_withKnocks_1 rfl (by decide) rfl ?_
  refine st_iconst (q := 3) dX6_withKnocks_2 ⟨by decide, by decide⟩ rfl ?_
  refine st_istore_n (q := 4) (i := 2) dX6_withKnocks_3 rfl (by decide) rfl ?_
  exact lp_X6_withKnocks w x hP 0 (by omega)
theorem lp_X0_heldOnes {d : Nat} {h : JH} {P : Int → JH → Prop} {q : MO} (w : WF h) (nx : NX h q) (qo : qOk q) (hP : P (cnP (fun m => decide (q.2 m 0 = 1 ∨ q.2 m 0 = 3 ∨ q.2 m 0 = 4)) q.1 : Nat) h) (k : Nat) (hk : k ≤ q.1) : JAt k0 (d + 1) jX0_heldOnes 4 [vr 54, vi (cnP (fun m => decide (q.2 m 0 = 1 ∨ q.2 m 0 = 3 ∨ q.2 m 0 = 4)) k : Nat), vi k] [] h (jqi P) := by
  have b1 := cnP_le (fun m => decide (q.2 m 0 = 1 ∨ q.2 m 0 = 3 ∨ q.2 m 0 = 4)) k
  have n1 := nx.1
  have q1 := qo.1
  have xk : k < q.1 → hI h (56 + ((k : Int)).toNat) 0 = q.2 k 0 := fun z => nx.2 k z 0 (by omega)
  have e0 : cnP (fun m => decide (q.2 m 0 = 1 ∨ q.2 m 0 = 3 ∨ q.2 m 0 = 4)) (k + 1) = cnP (fun m => decide (q.2 m 0 = 1 ∨ q.2 m 0 = 3 ∨ q.2 m 0 = 4)) k + (if decide (q.2 k 0 = 1 ∨ q.2 k 0 = 3 ∨ q.2 k 0 = 4) then 1 else 0) := rfl
  refine st_iload_n (q := 5) dX0_heldOnes_4 rfl rfl ?_
  refine st_aload_n (q := 6) dX0_heldOnes_5 rfl rfl ?_
  refine st_getI (q := 9) 0 1 dX0_heldOnes_6 fl_X0_17 (by decide) (by decide) rfl rfl (by first | exact wfk w rfl | exact xmk (h := h) w (by omega)) ?_
  refine st_icmp_ge (q := 12) (tgt := 34) dX0_heldOnes_9 (by decide) rfl (fun c9 => ?_) (fun c9 => ?_)
  · refine st_iload_n (q := 35) dX0_heldOnes_34 rfl rfl ?_
    refine rt_i dX0_heldOnes_35 rfl ?_
    exact pq hP (by rw [show k = q.1 by omega]) rfl
  · refine st_aload_n (q := 13) dX0_heldOnes_12 rfl rfl ?_
    refine st_getR (q := 16) 0 0 dX0_heldOnes_13 fl_X0_11 (by decide) (by decide) rfl rfl (by first | exact wfk w rfl | exact xmk (h := h) w (by omega)) (wfR w rfl) ?_
    refine st_iload_n (q := 17) dX0_heldOnes_16 rfl rfl ?_
    refine st_aaload (q := 18) (t := 5) dX0_heldOnes_17 rfl ⟨by decide, by decide⟩ (by first | exact wfk w rfl | exact xmk (h := h) w (by omega)) (wfb w (n := 40) rfl ⟨by omega, by omega⟩) (xmom (h := h) w (by omega)) ?_
    refine st_iconst (q := 19) dX0_heldOnes_18 ⟨by decide, by decide⟩ rfl ?_
    refine iV1i (q := 22) dX0_heldOnes_19 rfl ml_X0_41 mv_X3_isOf (Nat.le_of_ble_eq_true rfl) (by first | exact wfk w rfl | exact xmk (h := h) w (by omega)) ?_
    have xk2 := xk (by omega)
    refine c_X3_isOf (xmk w (by omega)) ?_
    rw [xk2]
    refine st_if_eq (q := 25) (tgt := 28) dX0_heldOnes_22 (by decide) rfl (fun c22 => ?_) (fun c22 => ?_)
    · first | refine n_iinc (q := 31) dX0_heldOnes_28 rfl (by decide) rfl ⟨by omega, by omega⟩ ?_ | refine st_iinc (q := 31) dX0_heldOnes_28 rfl (by decide) rfl ?_
      refine st_goto (q := 4) dX0_heldOnes_31 (by decide) ?_
      have t := lp_X0_heldOnes (d := d) w nx qo hP (k + 1) (by omega)
      first | (rw [decide_eq_true (show q.2 k 0 = 1 ∨ q.2 k 0 = 3 ∨ q.2 k 0 = 4 by omega)] at e0; rw [e0] at t; exact t) | (rw [decide_eq_false (show ¬ (q.2 k 0 = 1 ∨ q.2 k 0 = 3 ∨ q.2 k 0 = 4) by omega)] at e0; rw [e0] at t; exact t)
    · first | refine n_iinc (q := 28) dX0_heldOnes_25 rfl (by decide) rfl ⟨by omega, by omega⟩ ?_ | refine st_iinc (q := 28) dX0_heldOnes_25 rfl (by decide) rfl ?_
      first | refine n_iinc (q := 31) dX0_heldOnes_28 rfl (by decide) rfl ⟨by omega, by omega⟩ ?_ | refine st_iinc (q := 31) dX0_heldOnes_28 rfl (by decide) rfl ?_
      refine st_goto (q := 4) dX0_heldOnes_31 (by decide) ?_
      have t := lp_X0_heldOnes (d := d) w nx qo hP (k + 1) (by omega)
      first | (rw [decide_eq_true (show q.2 k 0 = 1 ∨ q.2 k 0 = 3 ∨ q.2 k 0 = 4 by omega)] at e0; rw [e0] at t; exact t) | (rw [decide_eq_false (show ¬ (q.2 k 0 = 1 ∨ q.2 k 0 = 3 ∨ q.2 k 0 = 4) by omega)] at e0; rw [e0] at t; exact t)
termination_by q.1 - k
theorem c_X0_heldOnes {d : Nat} {h : JH} {P : Int → JH → Prop} {q : MO} (w : WF h) (nx : NX h q) (qo : qOk q) (hP : P (cnP (fun m => decide (q.2 m 0 = 1 ∨ q.2 m 0 = 3 ∨ q.2 m 0 = 4)) q.1 : Nat) h) : JRi (d + 1) jX0_heldOnes [vr 54] h P := by
  refine JRet.of rfl (Nat.le_of_ble_eq_true rfl) ?_
  refine st_iconst (q := 1) dX0_heldOnes_0 ⟨by decide, by decide⟩ rfl ?_
  refine st_istore_n (q := 2) (i := 1) dX0_heldOnes_1 rfl (by decide) rfl ?_
  refine st_iconst (q := 3) dX0_heldOnes_2 ⟨by decide, by decide⟩ rfl ?_
  refine st_istore_n (q := 4) (i := 2) dX0_heldOnes_3 rfl (by decide) rfl ?_
  exact lp_X0_heldOnes w nx qo hP 0 (by omega)
theorem cnP_all {p : Nat → Bool} : ∀ {n : Nat}, (∀ k, k < n → p k = true) → cnP p n = n
  | 0, _ => rfl
  | n + 1, h => by
    show cnP p n + (if p n then 1 else 0) = n + 1
    rw [cnP_all (fun k hk => h k (by omega)), h n (by omega)]
    rfl
theorem c_X11_count {d : Nat} {h : JH} {P : Int → JH → Prop} {u : HD} {y : SY} {b : Nat} {g : SG} {q : MO} {t : Int} (w : WF h) (ir : iRw h) (it : iTx h) (mu : HM h u) (xu : HX h u) (sm : SM h y) (sx : SX h y b) (gm : GM h g) (gx : GX h g) (nx : NX h q) (qo : qOk q) (h1 : ¬ (0 ≤ t ∧ t ≤ 6) → P (-1) h) (h2 : 0 ≤ t ∧ t ≤ 6 → P (ctF h q t) h) : JRi (d + 2) jX11_count [vr 0, vi t] h P := by
  have cA0 : t ≠ 0 → cnP (cA h t) 6 = 0 := fun z => cnP_z (fun k _ => by unfold cA; rw [decide_eq_false z]; rfl)
  have cB0 : t ≠ 1 → cnP (cB h t) 4 = 0 := fun z => cnP_z (fun k _ => by unfold cB; rw [decide_eq_false z]; rfl)
  have cC0 : t ≠ 2 → t ≠ 4 → cnP (cC h t) 8 = 0 := fun z z2 => cnP_z (fun k _ => by unfold cC; rw [decide_eq_false z, decide_eq_false z2]; rfl)
  have cD0 : t ≠ 5 → t ≠ 6 → cnP (cD q t) q.1 = 0 := fun z z2 => cnP_z (fun k _ => by unfold cD; rw [decide_eq_false z, decide_eq_false z2]; rfl)
  have cA1 : t = 0 → cnP (cA h t) 6 = cnP (fun r => decide (0 ≤ hI h (97 + 2 * r) 1)) 6 := fun z => cnP_cg (fun k hk => by
    have := (ir k hk).1
    unfold cA; rw [decide_eq_true z, Bool.true_and]
    exact decide_eq_decide.mpr (by omega))
  have cB1 : t = 1 → cnP (cB h t) 4 = cnP (fun r => decide (0 ≤ hI h (109 + 2 * r) 1)) 4 := fun z => cnP_cg (fun k hk => by
    have := (it k hk).1
    unfold cB; rw [decide_eq_true z, Bool.true_and]
    exact decide_eq_decide.mpr (by omega))
  have cC1 : t = 2 → cnP (cC h t) 8 = cnP (fun k => decide (uO u k ≠ 0)) 8 := fun z => cnP_cg (fun k hk => by
    have := (mu k hk).2.2
    unfold cC; rw [decide_eq_true z, decide_eq_false (show ¬ t = 4 by omega), Bool.true_and, Bool.false_and, Bool.or_false]
    exact decide_eq_decide.mpr (by omega))
  have cC2 : t = 4 → cnP (cC h t) 8 = cnP (fun k => decide (0 < (g k).1)) 8 := fun z => cnP_cg (fun k hk => by
    have := (gm k hk).1
    unfold cC; rw [decide_eq_true z, decide_eq_false (show ¬ t = 2 by omega), Bool.true_and, Bool.false_and, Bool.false_or]
    exact decide_eq_decide.mpr (by omega))
  have cD1 : t = 5 → cnP (cD q t) q.1 = q.1 := fun z => cnP_all (fun k hk => by unfold cD; rw [decide_eq_true z]; rfl)
  have cD2 : t = 6 → cnP (cD q t) q.1 = cnP (fun m => decide (q.2 m 0 = 1 ∨ q.2 m 0 = 3 ∨ q.2 m 0 = 4)) q.1 := fun z => cnP_cg (fun k hk => by unfold cD; rw [decide_eq_true z, decide_eq_false (show ¬ t = 5 by omega), Bool.true_and, Bool.false_or])
  have n1 := nx.1
  have s1 := sx.2.2.2.1
  have s2 := sm.1
  refine JRet.of rfl (Nat.le_of_ble_eq_true rfl) ?_
  refine st_iload_n (q := 1) dX11_count_0 rfl rfl ?_
  refine st_tsw7 dX11_count_1 rfl (o0 := 43) (t0 := 44) rfl (by decide) (o1 := 51) (t1 := 52) rfl (by decide) (o2 := 59) (t2 := 60) rfl (by decide) (o3 := 67) (t3 := 68) rfl (by decide) (o4 := 75) (t4 := 76) rfl (by decide) (o5 := 83) (t5 := 84) rfl (by decide) (o6 := 91) (t6 := 92) rfl (by decide) (td := 100) (by decide) (fun c1 => ?_) (fun c1 => ?_) (fun c1 => ?_) (fun c1 => ?_) (fun c1 => ?_) (fun c1 => ?_) (fun c1 => ?_) (fun c1 => ?_)
  · refine st_aload_n (q := 45) dX11_count_44 rfl rfl ?_
    refine st_getR (q := 48) 11 0 dX11_count_45 fl_X11_11 (by decide) (by decide) rfl rfl (wfk w rfl) (wfR w rfl) ?_
    refine iS1i (q := 51) dX11_count_48 rfl ml_X11_377 ms_X11_thereAmong (Nat.le_of_ble_eq_true rfl) ?_
    refine c_X11_thereAmong (sa_rows w) ?_
    refine rt_i dX11_count_51 rfl ?_
    refine pq (h2 (by omega)) ?_ rfl
    unfold ctF
    rw [if_neg (by omega), cA1 (by omega), cB0 (by omega), cC0 (by omega) (by omega), cD0 (by omega) (by omega)]
    rfl
  · refine st_aload_n (q := 53) dX11_count_52 rfl rfl ?_
    refine st_getR (q := 56) 11 1 dX11_count_53 fl_X11_15 (by decide) (by decide) rfl rfl (wfk w rfl) (wfR w rfl) ?_
    refine iS1i (q := 59) dX11_count_56 rfl ml_X11_377 ms_X11_thereAmong (Nat.le_of_ble_eq_true rfl) ?_
    refine c_X11_thereAmong (sa_texts w) ?_
    refine rt_i dX11_count_59 rfl ?_
    refine pq (h2 (by omega)) ?_ rfl
    unfold ctF
    rw [if_neg (by omega), cB1 (by omega), cA0 (by omega), cC0 (by omega) (by omega), cD0 (by omega) (by omega), Nat.zero_add]
    rfl
  · refine st_aload_n (q := 61) dX11_count_60 rfl rfl ?_
    refine st_getR (q := 64) 11 2 dX11_count_61 fl_X11_21 (by decide) (by decide) rfl rfl (wfk w rfl) (wfR w rfl) ?_
    refine iV0i (q := 67) dX11_count_64 rfl ml_X11_381 mv_X7_hidesThere (Nat.le_of_ble_eq_true rfl) (wfk w rfl) ?_
    refine c_X7_hidesThere w xu ?_
    refine rt_i dX11_count_67 rfl ?_
    refine pq (h2 (by omega)) ?_ rfl
    unfold ctF
    rw [if_neg (by omega), cC1 (by omega), cA0 (by omega), cB0 (by omega), cD0 (by omega) (by omega), Nat.zero_add]
    rfl
  · refine st_aload_n (q := 69) dX11_count_68 rfl rfl ?_
    refine st_getR (q := 72) 11 3 dX11_count_69 fl_X11_28 (by decide) (by decide) rfl rfl (wfk w rfl) (wfR w rfl) ?_
    refine st_getI (q := 75) 8 1 dX11_count_72 fl_X11_203 (by decide) (by decide) rfl rfl (wfk w rfl) ?_
    refine rt_i dX11_count_75 rfl ?_
    refine pq (h2 (by omega)) ?_ rfl
    unfold ctF
    rw [if_pos (by omega)]
    omega
  · refine st_aload_n (q := 77) dX11_count_76 rfl rfl ?_
    refine st_getR (q := 80) 11 7 dX11_count_77 fl_X11_56 (by decide) (by decide) rfl rfl (wfk w rfl) (wfR w rfl) ?_
    refine iV0i (q := 83) dX11_count_80 rfl ml_X11_384 mv_X6_withKnocks (Nat.le_of_ble_eq_true rfl) (wfk w rfl) ?_
    refine c_X6_withKnocks w gx ?_
    refine rt_i dX11_count_83 rfl ?_
    refine pq (h2 (by omega)) ?_ rfl
    unfold ctF
    rw [if_neg (by omega), cC2 (by omega), cA0 (by omega), cB0 (by omega), cD0 (by omega) (by omega), Nat.zero_add]
    rfl
  · refine st_aload_n (q := 85) dX11_count_84 rfl rfl ?_
    refine st_getR (q := 88) 11 8 dX11_count_85 fl_X11_63 (by decide) (by decide) rfl rfl (wfk w rfl) (wfR w rfl) ?_
    refine st_getI (q := 91) 0 1 dX11_count_88 fl_X11_329 (by decide) (by decide) rfl rfl (wfk w rfl) ?_
    refine rt_i dX11_count_91 rfl ?_
    refine pq (h2 (by omega)) ?_ rfl
    unfold ctF
    rw [if_neg (by omega), cD1 (by omega), cA0 (by omega), cB0 (by omega), cC0 (by omega) (by omega), Nat.zero_add]
    omega
  · refine st_aload_n (q := 93) dX11_count_92 rfl rfl ?_
    refine st_getR (q := 96) 11 8 dX11_count_93 fl_X11_63 (by decide) (by decide) rfl rfl (wfk w rfl) (wfR w rfl) ?_
    refine iV0i (q := 99) dX11_count_96 rfl ml_X11_387 mv_X0_heldOnes (Nat.le_of_ble_eq_true rfl) (wfk w rfl) ?_
    refine c_X0_heldOnes w nx qo ?_
    refine rt_i dX11_count_99 rfl ?_
    refine pq (h2 (by omega)) ?_ rfl
    unfold ctF
    rw [if_neg (by omega), cD2 (by omega), cA0 (by omega), cB0 (by omega), cC0 (by omega) (by omega), Nat.zero_add]
  · refine st_iconst (q := 101) dX11_count_100 ⟨by decide, by decide⟩ rfl ?_
    refine rt_i dX11_count_101 rfl ?_
    exact h1 (by omega)
theorem pr_count {d : Nat} {h : JH} {t : Int} (I : Inv h) : Two (d + 4) jX11_count jX12_count [vi t] h := by
  have w := I.1
  obtain ⟨u, ok, m, x⟩ := I.2.2.2.1
  obtain ⟨y, b, o, sm, sx⟩ := I.2.2.2.2.2.1
  obtain ⟨g, og, gm, gx⟩ := I.2.2.2.2.2.2.1
  obtain ⟨q, qo, nm, nx⟩ := I.2.2.2.2.2.2.2.1
  refine c_X11_count w I.2.1 I.2.2.1 m x sm sx gm gx nx qo (fun z => ?_) (fun z => ?_)
  · exact c_X12_count w nm qo (fun _ => ⟨rfl, I⟩) (fun t => absurd t z)
  · exact c_X12_count w nm qo (fun t => absurd z t) (fun _ => ⟨rfl, I⟩)

