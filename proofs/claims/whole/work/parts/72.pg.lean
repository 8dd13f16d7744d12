/-! the class: a scene, read -/
def ScC (c a k : Nat) : Prop := (a = 13 ∧ k = 4) ∨ a = c
theorem sC_D {c : Nat} : ∀ a k, ScC c a k → ScD c a k := by intro a k z; unfold ScC at z; unfold ScD; omega
theorem sH_C {c : Nat} : ∀ a k, ScH c a k → ScC c a k := by intro a k z; unfold ScH at z; unfold ScC; omega
theorem sC_4 {c : Nat} : ScC c 13 4 := Or.inl ⟨rfl, rfl⟩
theorem sC_c {c k : Nat} : ScC c c k := Or.inr rfl
def XM (h : JH) (c : Nat) (r : Bool × Nat × Nat × Nat × Int × Int × Int) : Prop := hI h c 0 = (r.2.2.1 : Int) ∧ hI h c 1 = (r.2.2.2.1 : Int) ∧ hI h c 2 = r.2.2.2.2.1 ∧ hI h c 3 = r.2.2.2.2.2.1 ∧ hI h c 4 = r.2.2.2.2.2.2 ∧ hI h c 5 = -9 ∧ hI h c 6 = -9 ∧ hI h c 7 = 0
/-- the fields that no reading touches after the emptying -/
def X57 (h : JH) (c : Nat) : Prop := hI h c 5 = -9 ∧ hI h c 6 = -9 ∧ hI h c 7 = 0
theorem X57.s {h : JH} {c a k : Nat} {v : Int} (x : X57 h c) (z : a ≠ c ∨ k < 5) : X57 (sI h a k v) c := by
  unfold X57 at *
  rw [sI_I, sI_I, sI_I, if_neg (by omega), if_neg (by omega), if_neg (by omega)]
  exact x
theorem c_X8_readScene {d : Nat} {h : JH} {P : Int → JH → Prop} {r n c p : Nat} {T : Nat → Int} (w : WF h) (hr4 : r < 4) (x : TD h r T n) (hn : n ≤ 60) (hc : 16 ≤ c ∧ c ≤ 39) (hk : kd h c = 5) (g4 : hI h 13 4 = (p : Int)) (hp : p ≤ n) (h0 : (scP (chT T n) p).1 = false → ∀ h', Fr (ScC c) h h' → hI h' 13 4 = ((scP (chT T n) p).2.1 : Int) → P 0 h') (h1 : (scP (chT T n) p).1 = true → ∀ h', Fr (ScC c) h h' → hI h' 13 4 = ((scP (chT T n) p).2.1 : Int) → XM h' c (scP (chT T n) p) → P 1 h') : JRi (d + 4) jX8_readScene [vr 13, vr ((109 + 2 * r : Nat)), vr c] h P := by
  have hr := hidP_n (T := T) (n := n) (61 - p) p 0 0 hp
  have hu := numP_b (T := T) (n := n) hr
  have hlt : ∀ q, chT T n q ≠ -9 → q < n := fun q z => chT_lt z
  have hnum : ∀ q, q ≤ n → _ := fun q z => numP_b (T := T) (n := n) (p := q) z
  have eS : scP (chT T n) p = (if (hidP (chT T n) (61 - p) p 0 0).1 = false then (false, (hidP (chT T n) (61 - p) p 0 0).2.1, 0, 0, 0, 0, 0) else if (numP (chT T n) (hidP (chT T n) (61 - p) p 0 0).2.1).2 < 1 then (false, (numP (chT T n) (hidP (chT T n) (61 - p) p 0 0).2.1).1, 0, 0, 0, 0, 0) else if (if chT T n (numP (chT T n) (hidP (chT T n) (61 - p) p 0 0).2.1).1 = 45 then (numP (chT T n) ((numP (chT T n) (hidP (chT T n) (61 - p) p 0 0).2.1).1 + 1)).2 else (numP (chT T n) (hidP (chT T n) (61 - p) p 0 0).2.1).2) < (numP (chT T n) (hidP (chT T n) (61 - p) p 0 0).2.1).2 then (false, (if chT T n (numP (chT T n) (hidP (chT T n) (61 - p) p 0 0).2.1).1 = 45 then (numP (chT T n) ((numP (chT T n) (hidP (chT T n) (61 - p) p 0 0).2.1).1 + 1)).1 else (numP (chT T n) (hidP (chT T n) (61 - p) p 0 0).2.1).1), 0, 0, 0, 0, 0) else (true, (if chT T n (numP (chT T n) (hidP (chT T n) (61 - p) p 0 0).2.1).1 = 45 then (numP (chT T n) ((numP (chT T n) (hidP (chT T n) (61 - p) p 0 0).2.1).1 + 1)).1 else (numP (chT T n) (hidP (chT T n) (61 - p) p 0 0).2.1).1) + (if chT T n (if chT T n (numP (chT T n) (hidP (chT T n) (61 - p) p 0 0).2.1).1 = 45 then (numP (chT T n) ((numP (chT T n) (hidP (chT T n) (61 - p) p 0 0).2.1).1 + 1)).1 else (numP (chT T n) (hidP (chT T n) (61 - p) p 0 0).2.1).1) = 33 then (1 : Int) else 0).toNat, (hidP (chT T n) (61 - p) p 0 0).2.2.1, (hidP (chT T n) (61 - p) p 0 0).2.2.2, (numP (chT T n) (hidP (chT T n) (61 - p) p 0 0).2.1).2, (if chT T n (numP (chT T n) (hidP (chT T n) (61 - p) p 0 0).2.1).1 = 45 then (numP (chT T n) ((numP (chT T n) (hidP (chT T n) (61 - p) p 0 0).2.1).1 + 1)).2 else (numP (chT T n) (hidP (chT T n) (61 - p) p 0 0).2.1).2), (if chT T n (if chT T n (numP (chT T n) (hidP (chT T n) (61 - p) p 0 0).2.1).1 = 45 then (numP (chT T n) ((numP (chT T n) (hidP (chT T n) (61 - p) p 0 0).2.1).1 + 1)).1 else (numP (chT T n) (hidP (chT T n) (61 - p) p 0 0).2.1).1) = 33 then (1 : Int) else 0))) := rfl
  generalize hR : hidP (chT T n) (61 - p) p 0 0 = b at *
  generalize hA : numP (chT T n) b.2.1 = a at *
  generalize hC : chT T n = C at *
  have hT : ∀ h' (q : Nat) (m : Int), q ≤ n → Fr (ScC c) h h' → hI h' 13 4 = (q : Int) → hI h' c 0 = (b.2.2.1 : Int) → hI h' c 1 = (b.2.2.2 : Int) → hI h' c 2 = a.2 → hI h' c 3 = m → hI h' c 4 = 0 → X57 h' c → scP C p = (true, q + (if C q = 33 then (1 : Int) else 0).toNat, b.2.2.1, b.2.2.2, a.2, m, if C q = 33 then (1 : Int) else 0) → JAt k0 (d + 4) jX8_readScene 83 [vr 13, vr ((109 + 2 * r : Nat)), vr c] [] h' (jqi P) := by
    intro h' q m hq f g4 k0' k1' k2' k3' k4' k5' e
    have w := f.wf w
    have x' := x.fr (f.up sC_D) hc.2
    have hk : kd h' c = 5 := by unfold kd; rw [f.1]; exact hk
    refine st_aload_n (q := 84) dX8_readScene_83 rfl rfl ?_
    refine st_aload_n (q := 85) dX8_readScene_84 rfl rfl ?_
    refine iV1i (q := 88) dX8_readScene_85 rfl ml_X8_46 mv_X8_sign (Nat.le_of_ble_eq_true rfl) (by first | exact hk | exact wfk w rfl) ?_
    refine c_X8_sign w hr4 x' hn g4 (fun v hv => ?_)
    rw [hC] at hv
    refine st_bipush (q := 90) dX8_readScene_88 ⟨by decide, by decide⟩ rfl ?_
    refine st_icmp_ne (q := 93) (tgt := 108) dX8_readScene_90 (by decide) rfl (fun c90 => ?_) (fun c90 => ?_)
    · refine st_iconst (q := 109) dX8_readScene_108 ⟨by decide, by decide⟩ rfl ?_
      refine rt_z dX8_readScene_109 rfl (by (repeat' split) <;> omega) ?_
      first | (rw [if_neg (by omega)] at e; exact h1 (by rw [e]) _ f (by rw [e, g4]; show (q : Int) = ((q + 0 : Nat) : Int); omega) (by rw [e]; exact ⟨k0', k1', k2', k3', k4', k5'⟩)) | (rw [if_pos (by omega)] at e; exact h1 (by rw [e]) _ ((f.sI _ sC_4).sI _ sC_c) (by rw [e, sI_o _ (by omega), sI_s]; show (q : Int) + 1 = ((q + 1 : Nat) : Int); omega) (by rw [e]; exact ⟨by rw [sI_k _ (by decide), sI_o _ (by omega)]; exact k0', by rw [sI_k _ (by decide), sI_o _ (by omega)]; exact k1', by rw [sI_k _ (by decide), sI_o _ (by omega)]; exact k2', by rw [sI_k _ (by decide), sI_o _ (by omega)]; exact k3', by rw [sI_s], (k5'.s (Or.inl (by omega))).s (Or.inr (by decide))⟩))
    · refine st_aload_n (q := 94) dX8_readScene_93 rfl rfl ?_
      refine st_dup (q := 95) dX8_readScene_94 rfl rfl ?_
      refine st_getI (q := 98) 8 4 dX8_readScene_95 fl_X8_27 (by decide) (by decide) rfl rfl (by first | exact hk | exact wfk w rfl) ?_
      refine j_top (q : Int) g4 ?_
      refine st_iconst (q := 99) dX8_readScene_98 ⟨by decide, by decide⟩ rfl ?_
      first | refine n_iadd (q := 100) dX8_readScene_99 rfl ⟨by omega, by omega⟩ ?_ | refine st_iadd (q := 100) dX8_readScene_99 rfl ?_
      refine st_putI (q := 103) 8 4 dX8_readScene_100 fl_X8_27 (by decide) (by decide) (Or.inl rfl) rfl (Or.inl rfl) (by first | exact hk | exact wfk w rfl) ?_
      refine st_aload_n (q := 104) dX8_readScene_103 rfl rfl ?_
      refine st_iconst (q := 105) dX8_readScene_104 ⟨by decide, by decide⟩ rfl ?_
      refine st_putI (q := 108) 5 4 dX8_readScene_105 fl_X8_76 (by decide) (by decide) (Or.inl rfl) rfl (Or.inr ⟨rfl, by omega⟩) (by first | exact hk | exact wfk w rfl) ?_
      refine st_iconst (q := 109) dX8_readScene_108 ⟨by decide, by decide⟩ rfl ?_
      refine rt_z dX8_readScene_109 rfl (by (repeat' split) <;> omega) ?_
      first | (rw [if_neg (by omega)] at e; exact h1 (by rw [e]) _ f (by rw [e, g4]; show (q : Int) = ((q + 0 : Nat) : Int); omega) (by rw [e]; exact ⟨k0', k1', k2', k3', k4', k5'⟩)) | (rw [if_pos (by omega)] at e; exact h1 (by rw [e]) _ ((f.sI _ sC_4).sI _ sC_c) (by rw [e, sI_o _ (by omega), sI_s]; show (q : Int) + 1 = ((q + 1 : Nat) : Int); omega) (by rw [e]; exact ⟨by rw [sI_k _ (by decide), sI_o _ (by omega)]; exact k0', by rw [sI_k _ (by decide), sI_o _ (by omega)]; exact k1', by rw [sI_k _ (by decide), sI_o _ (by omega)]; exact k2', by rw [sI_k _ (by decide), sI_o _ (by omega)]; exact k3', by rw [sI_s], (k5'.s (Or.inl (by omega))).s (Or.inr (by decide))⟩))
  have hU : ∀ h', b.1 = true → ¬ a.2 < 1 → Fr (ScC c) h h' → hI h' 13 4 = (a.1 : Int) → hI h' c 0 = (b.2.2.1 : Int) → hI h' c 1 = (b.2.2.2 : Int) → hI h' c 2 = a.2 → hI h' c 3 = a.2 → hI h' c 4 = 0 → X57 h' c → JAt k0 (d + 4) jX8_readScene 41 [vr 13, vr ((109 + 2 * r : Nat)), vr c] [] h' (jqi P) := by
    intro h' er ea f g4 k0' k1' k2' k3' k4' k5'
    have w0 := w
    have w := f.wf w0
    have x' := x.fr (f.up sC_D) hc.2
    have hk : kd h' c = 5 := by unfold kd; rw [f.1]; exact hk
    rw [if_neg (by rw [er]; decide), if_neg ea] at eS
    refine st_aload_n (q := 42) dX8_readScene_41 rfl rfl ?_
    refine st_aload_n (q := 43) dX8_readScene_42 rfl rfl ?_
    refine iV1i (q := 46) dX8_readScene_43 rfl ml_X8_46 mv_X8_sign (Nat.le_of_ble_eq_true rfl) (by first | exact hk | exact wfk w rfl) ?_
    refine c_X8_sign w hr4 x' hn g4 (fun v hv => ?_)
    rw [hC] at hv
    refine st_bipush (q := 48) dX8_readScene_46 ⟨by decide, by decide⟩ rfl ?_
    refine st_icmp_ne (q := 51) (tgt := 83) dX8_readScene_48 (by decide) rfl (fun c48 => ?_) (fun c48 => ?_)
    · first | exact hT _ e.1 e.2 hv.2.1 f6 ke (by rw [sI_k _ (by decide), sI_o _ (by omega)]; exact k0') (by rw [sI_k _ (by decide), sI_o _ (by omega)]; exact k1') (by rw [sI_k _ (by decide), sI_o _ (by omega)]; exact k2') (by rw [sI_s]) (by rw [sI_k _ (by decide), sI_o _ (by omega)]; exact k4') ((k5'.s (Or.inl (by omega))).s (Or.inr (by decide))) (by rw [eS, if_neg (by omega)]) | (have c51 : ¬ C a.1 = 45 := (by omega); exact hT _ a.1 a.2 hu.2.1 f g4 k0' k1' k2' k3' k4' k5' (by simp only [if_neg c51] at eS; rw [eS, if_neg (by omega)]))
    · refine st_aload_n (q := 52) dX8_readScene_51 rfl rfl ?_
      refine st_dup (q := 53) dX8_readScene_52 rfl rfl ?_
      refine st_getI (q := 56) 8 4 dX8_readScene_53 fl_X8_27 (by decide) (by decide) rfl rfl (by first | exact hk | exact wfk w rfl) ?_
      refine j_top (a.1 : Int) g4 ?_
      refine st_iconst (q := 57) dX8_readScene_56 ⟨by decide, by decide⟩ rfl ?_
      first | refine n_iadd (q := 58) dX8_readScene_57 rfl ⟨by omega, by omega⟩ ?_ | refine st_iadd (q := 58) dX8_readScene_57 rfl ?_
      refine st_putI (q := 61) 8 4 dX8_readScene_58 fl_X8_27 (by decide) (by decide) (Or.inl rfl) rfl (Or.inl rfl) (by first | exact hk | exact wfk w rfl) ?_
      refine st_aload_n (q := 62) dX8_readScene_61 rfl rfl ?_
      refine st_aload_n (q := 63) dX8_readScene_62 rfl rfl ?_
      refine st_aload_n (q := 64) dX8_readScene_63 rfl rfl ?_
      refine iV1i (q := 67) dX8_readScene_64 rfl ml_X8_67 mv_X8_readLength (Nat.le_of_ble_eq_true rfl) (by first | exact hk | exact wfk w rfl) ?_
      have han := hlt a.1 (by omega)
      have c51 : C a.1 = 45 := (by omega)
      have f5 : Fr (ScC c) h (sI h' 13 4 ((a.1 : Int) + 1)) := f.sI _ sC_4
      have hv := hnum (a.1 + 1) (by omega)
      simp only [if_pos c51] at eS
      refine c_X8_readLength (p := a.1 + 1) (f5.wf w0) hr4 (x.fr (f5.up sC_D) hc.2) hn (by rw [sI_s]; omega) (by omega) ?_
      rw [hC, sI_2]
      generalize numP C (a.1 + 1) = e at *
      have f6 : Fr (ScC c) h (sI (sI h' 13 4 (e.1 : Int)) c 3 e.2) := (f.sI _ sC_4).sI _ sC_c
      have ke : hI (sI (sI h' 13 4 (e.1 : Int)) c 3 e.2) 13 4 = (e.1 : Int) := (by rw [sI_o _ (by omega), sI_s])
      refine st_putI (q := 70) 5 3 dX8_readScene_67 fl_X8_73 (by decide) (by decide) (Or.inl rfl) rfl (Or.inl rfl) (by first | exact hk | exact wfk w rfl) ?_
      refine st_aload_n (q := 71) dX8_readScene_70 rfl rfl ?_
      refine st_getI (q := 74) 5 3 dX8_readScene_71 fl_X8_73 (by decide) (by decide) rfl rfl (by first | exact hk | exact wfk w rfl) ?_
      refine j_top e.2 (by rw [sI_s]) ?_
      refine st_aload_n (q := 75) dX8_readScene_74 rfl rfl ?_
      refine st_getI (q := 78) 5 2 dX8_readScene_75 fl_X8_70 (by decide) (by decide) rfl rfl (by first | exact hk | exact wfk w rfl) ?_
      refine j_top a.2 (by rw [sI_k _ (by decide), sI_o _ (by omega)]; exact k2') ?_
      refine st_icmp_ge (q := 81) (tgt := 83) dX8_readScene_78 (by decide) rfl (fun c78 => ?_) (fun c78 => ?_)
      · first | exact hT _ e.1 e.2 hv.2.1 f6 ke (by rw [sI_k _ (by decide), sI_o _ (by omega)]; exact k0') (by rw [sI_k _ (by decide), sI_o _ (by omega)]; exact k1') (by rw [sI_k _ (by decide), sI_o _ (by omega)]; exact k2') (by rw [sI_s]) (by rw [sI_k _ (by decide), sI_o _ (by omega)]; exact k4') ((k5'.s (Or.inl (by omega))).s (Or.inr (by decide))) (by rw [eS, if_neg (by omega)]) | (have c51 : ¬ C a.1 = 45 := (by omega); exact hT _ a.1 a.2 hu.2.1 f g4 k0' k1' k2' k3' k4' k5' (by simp only [if_neg c51] at eS; rw [eS, if_neg (by omega)]))
      · refine st_iconst (q := 82) dX8_readScene_81 ⟨by decide, by decide⟩ rfl ?_
        refine rt_z dX8_readScene_82 rfl (by (repeat' split) <;> omega) ?_
        exact h0 (by rw [eS, if_pos (by omega)]) _ f6 (by rw [eS, if_pos (by omega)]; exact ke)
  refine JRet.of rfl (Nat.le_of_ble_eq_true rfl) ?_
  refine st_aload_n (q := 1) dX8_readScene_0 rfl rfl ?_
  refine iV0v (q := 4) dX8_readScene_1 rfl ml_X8_61 mv_X5_empty (Nat.le_of_ble_eq_true rfl) (by first | exact hk | exact wfk w rfl) ?_
  refine c_X5_empty hk ?_
  have f1 : Fr (ScC c) h (sI (sI (sI (sI (sI (sI (sI (sI h c 0 0) c 1 0) c 2 0) c 3 0) c 4 0) c 5 (-9)) c 6 (-9)) c 7 0) := (((((((Fr.rf.sI _ sC_c).sI _ sC_c).sI _ sC_c).sI _ sC_c).sI _ sC_c).sI _ sC_c).sI _ sC_c).sI _ sC_c
  have w1 := f1.wf w
  have t4 : hI (sI (sI (sI (sI (sI (sI (sI (sI h c 0 0) c 1 0) c 2 0) c 3 0) c 4 0) c 5 (-9)) c 6 (-9)) c 7 0) c 4 = 0 := (by rw [sI_k _ (by decide), sI_k _ (by decide), sI_k _ (by decide), sI_s])
  have t0 : hI (sI (sI (sI (sI (sI (sI (sI (sI h c 0 0) c 1 0) c 2 0) c 3 0) c 4 0) c 5 (-9)) c 6 (-9)) c 7 0) c 0 = 0 := (by rw [sI_k _ (by decide), sI_k _ (by decide), sI_k _ (by decide), sI_k _ (by decide), sI_k _ (by decide), sI_k _ (by decide), sI_k _ (by decide), sI_s])
  have t1 : hI (sI (sI (sI (sI (sI (sI (sI (sI h c 0 0) c 1 0) c 2 0) c 3 0) c 4 0) c 5 (-9)) c 6 (-9)) c 7 0) c 1 = 0 := (by rw [sI_k _ (by decide), sI_k _ (by decide), sI_k _ (by decide), sI_k _ (by decide), sI_k _ (by decide), sI_k _ (by decide), sI_s])
  have t5 : X57 (sI (sI (sI (sI (sI (sI (sI (sI h c 0 0) c 1 0) c 2 0) c 3 0) c 4 0) c 5 (-9)) c 6 (-9)) c 7 0) c := ⟨(by rw [sI_k _ (by decide), sI_k _ (by decide), sI_s]), (by rw [sI_k _ (by decide), sI_s]), (by rw [sI_s])⟩
  have s4 : hI (sI (sI (sI (sI (sI (sI (sI (sI h c 0 0) c 1 0) c 2 0) c 3 0) c 4 0) c 5 (-9)) c 6 (-9)) c 7 0) 13 4 = (p : Int) := (by rw [sI_o _ (by omega), sI_o _ (by omega), sI_o _ (by omega), sI_o _ (by omega), sI_o _ (by omega), sI_o _ (by omega), sI_o _ (by omega), sI_o _ (by omega)]; exact g4)
  generalize sI (sI (sI (sI (sI (sI (sI (sI h c 0 0) c 1 0) c 2 0) c 3 0) c 4 0) c 5 (-9)) c 6 (-9)) c 7 0 = hh1 at *
  have w := w1
  have hk : kd hh1 c = 5 := (by unfold kd; rw [f1.1]; exact hk)
  refine st_aload_n (q := 5) dX8_readScene_4 rfl rfl ?_
  refine st_aload_n (q := 6) dX8_readScene_5 rfl rfl ?_
  refine st_aload_n (q := 7) dX8_readScene_6 rfl rfl ?_
  refine iV2i (q := 10) dX8_readScene_7 rfl ml_X8_64 mv_X8_readHides (Nat.le_of_ble_eq_true rfl) (by first | exact hk | exact wfk w rfl) ?_
  refine c_X8_readHides w hr4 (x.fr (f1.up sC_D) hc.2) hn hc hk s4 t0 t1 hp (fun h2 f2 k24 k20 k21 => ?_)
  rw [hC, hR] at k24 k20 k21
  rw [hC, hR]
  have f3 := f1.tr (f2.up sH_C)
  have w := f2.wf w
  have x2 := x.fr (f3.up sC_D) hc.2
  have hk : kd h2 c = 5 := (by unfold kd; rw [f2.1]; exact hk)
  have u4 : hI h2 c 4 = 0 := (f2.2.2 _ _ (by unfold ScH; omega)).trans t4
  have u5 : X57 h2 c := ⟨(f2.2.2 _ _ (by unfold ScH; omega)).trans t5.1, (f2.2.2 _ _ (by unfold ScH; omega)).trans t5.2.1, (f2.2.2 _ _ (by unfold ScH; omega)).trans t5.2.2⟩
  refine st_if_ne (q := 13) (tgt := 15) dX8_readScene_10 (by decide) rfl (fun c10 => ?_) (fun c10 => ?_)
  · refine st_aload_n (q := 16) dX8_readScene_15 rfl rfl ?_
    refine st_aload_n (q := 17) dX8_readScene_16 rfl rfl ?_
    refine st_aload_n (q := 18) dX8_readScene_17 rfl rfl ?_
    refine iV1i (q := 21) dX8_readScene_18 rfl ml_X8_67 mv_X8_readLength (Nat.le_of_ble_eq_true rfl) (by first | exact hk | exact wfk w rfl) ?_
    refine c_X8_readLength w hr4 x2 hn k24 hr ?_
    rw [hC, hA]
    refine st_putI (q := 24) 5 2 dX8_readScene_21 fl_X8_70 (by decide) (by decide) (Or.inl rfl) rfl (Or.inl rfl) (by first | exact hk | exact wfk w rfl) ?_
    refine st_aload_n (q := 25) dX8_readScene_24 rfl rfl ?_
    refine st_aload_n (q := 26) dX8_readScene_25 rfl rfl ?_
    refine st_getI (q := 29) 5 2 dX8_readScene_26 fl_X8_70 (by decide) (by decide) rfl rfl (by first | exact hk | exact wfk w rfl) ?_
    refine j_top a.2 (by rw [sI_s]) ?_
    refine st_putI (q := 32) 5 3 dX8_readScene_29 fl_X8_73 (by decide) (by decide) (Or.inl rfl) rfl (Or.inl rfl) (by first | exact hk | exact wfk w rfl) ?_
    refine st_aload_n (q := 33) dX8_readScene_32 rfl rfl ?_
    refine st_getI (q := 36) 5 2 dX8_readScene_33 fl_X8_70 (by decide) (by decide) rfl rfl (by first | exact hk | exact wfk w rfl) ?_
    refine j_top a.2 (by rw [sI_k _ (by decide), sI_s]) ?_
    refine st_if_ne (q := 39) (tgt := 41) dX8_readScene_36 (by decide) rfl (fun c36 => ?_) (fun c36 => ?_)
    · exact hU _ (show b.1 = true by (repeat' split at c10) <;> simp_all) (by omega) (((f3.sI _ sC_4).sI _ sC_c).sI _ sC_c) (by rw [sI_o _ (by omega), sI_o _ (by omega), sI_s]) (by rw [sI_k _ (by decide), sI_k _ (by decide), sI_o _ (by omega)]; exact k20) (by rw [sI_k _ (by decide), sI_k _ (by decide), sI_o _ (by omega)]; exact k21) (by rw [sI_k _ (by decide), sI_s]) (by rw [sI_s]) (by rw [sI_k _ (by decide), sI_k _ (by decide), sI_o _ (by omega)]; exact u4) (((u5.s (Or.inl (by omega))).s (Or.inr (by decide))).s (Or.inr (by decide)))
    · refine st_iconst (q := 40) dX8_readScene_39 ⟨by decide, by decide⟩ rfl ?_
      refine rt_z dX8_readScene_40 rfl (by (repeat' split) <;> omega) ?_
      rw [if_neg (show ¬ b.1 = false by (repeat' split at c10) <;> simp_all), if_pos (by omega)] at eS
      exact h0 (by rw [eS]) _ (((f3.sI _ sC_4).sI _ sC_c).sI _ sC_c) (by rw [eS, sI_o _ (by omega), sI_o _ (by omega), sI_s])
  · refine st_iconst (q := 14) dX8_readScene_13 ⟨by decide, by decide⟩ rfl ?_
    refine rt_z dX8_readScene_14 rfl (by (repeat' split) <;> omega) ?_
    rw [if_pos (show b.1 = false by (repeat' split at c10) <;> simp_all)] at eS
    exact h0 (by rw [eS]) _ f3 (by rw [eS]; exact k24)

