/-! the class: texts of scenes, read -/
def TD (h : JH) (r : Nat) (T : Nat → Int) (n : Nat) : Prop := hI h (109 + 2 * r) 1 = (n : Int) ∧ ∀ i, i < n → hI h (109 + 2 * r + 1) i = T i
def ScD (c a k : Nat) : Prop := (a = 13 ∧ (k = 3 ∨ k = 4)) ∨ a = c
theorem TD.fr {h h' : JH} {r n c : Nat} {T : Nat → Int} (x : TD h r T n) (f : Fr (ScD c) h h') (hc : c ≤ 39) : TD h' r T n := ⟨(f.2.2 _ _ (by unfold ScD; omega)).trans x.1, fun i hi => (f.2.2 _ _ (by unfold ScD; omega)).trans (x.2 i hi)⟩
theorem sD_3 {c : Nat} : ScD c 13 3 := Or.inl ⟨rfl, Or.inl rfl⟩
theorem sD_4 {c : Nat} : ScD c 13 4 := Or.inl ⟨rfl, Or.inr rfl⟩
theorem sD_c {c k : Nat} : ScD c c k := Or.inr rfl
theorem c_X8_sign {d : Nat} {h : JH} {P : Int → JH → Prop} {r n p : Nat} {T : Nat → Int} (w : WF h) (hr : r < 4) (x : TD h r T n) (hn : n ≤ 60) (hp : hI h 13 4 = (p : Int)) (hP : ∀ v, v = chT T n p ∨ (v = -999 ∧ chT T n p = -9) → P v h) : JRi (d + 2) jX8_sign [vr 13, vr ((109 + 2 * r : Nat))] h P := by
  have sp := sp_text w hr
  have x1 := x.1
  refine JRet.of rfl (Nat.le_of_ble_eq_true rfl) ?_
  refine st_aload_n (q := 1) dX8_sign_0 rfl rfl ?_
  refine st_aload_n (q := 2) dX8_sign_1 rfl rfl ?_
  refine st_getI (q := 5) 8 4 dX8_sign_2 fl_X8_27 (by decide) (by decide) rfl rfl (by first | exact sp.1 | exact wfk w rfl) ?_
  refine iV1i (q := 8) dX8_sign_5 rfl ml_X8_53 mv_X9_has (Nat.le_of_ble_eq_true rfl) (by first | exact sp.1 | exact wfk w rfl) ?_
  refine c_X9_has sp ?_
  rw [hp, x1]
  refine st_if_eq (q := 11) (tgt := 22) dX8_sign_8 (by decide) rfl (fun c8 => ?_) (fun c8 => ?_)
  · refine st_sipush (q := 25) dX8_sign_22 ⟨by decide, by decide⟩ rfl ?_
    refine rt_i dX8_sign_25 rfl ?_
    first | (refine hP _ (Or.inl ?_); unfold chT; rw [if_pos (by (repeat' split at c8) <;> omega), if_pos (by (repeat' split at c8) <;> omega)]; exact x.2 p (by (repeat' split at c8) <;> omega)) | (refine hP _ (Or.inr ⟨rfl, ?_⟩); unfold chT; rw [if_neg (by (repeat' split at c8) <;> omega)])
  · refine st_aload_n (q := 12) dX8_sign_11 rfl rfl ?_
    refine st_aload_n (q := 13) dX8_sign_12 rfl rfl ?_
    refine st_getI (q := 16) 8 4 dX8_sign_13 fl_X8_27 (by decide) (by decide) rfl rfl (by first | exact sp.1 | exact wfk w rfl) ?_
    refine iV1i (q := 19) dX8_sign_16 rfl ml_X8_57 mv_X9_get (Nat.le_of_ble_eq_true rfl) (by first | exact sp.1 | exact wfk w rfl) ?_
    refine c_X9_get sp (by omega) ?_
    rw [hp, x1]
    refine st_goto (q := 25) dX8_sign_19 (by decide) ?_
    refine rt_i dX8_sign_25 rfl ?_
    first | (refine hP _ (Or.inl ?_); unfold chT; rw [if_pos (by (repeat' split at c8) <;> omega), if_pos (by (repeat' split at c8) <;> omega)]; exact x.2 p (by (repeat' split at c8) <;> omega)) | (refine hP _ (Or.inr ⟨rfl, ?_⟩); unfold chT; rw [if_neg (by (repeat' split at c8) <;> omega)])
theorem lp_X8_skip {d : Nat} {h : JH} {P : JH → Prop} {r n s : Nat} {T : Nat → Int} (w0 : WF h) (hr : r < 4) (x0 : TD h r T n) (hn : n ≤ 60) (hP : P (sI h 13 4 s)) : ∀ (m q i : Nat), i + m = 60 → q ≤ n → blP (chT T n) m q = s → JAt k0 (d + 3) jX8_skipBlanks 2 [vr 13, vr ((109 + 2 * r : Nat)), vi i] [] (sI h 13 4 q) (jqv P) := by
  intro m
  induction m with
  | zero =>
    intro q i hm hq e
    have e : q = s := e
    have w : WF (sI h 13 4 q) := (Fr.sI (Sc := ScD 16) Fr.rf _ sD_4).wf w0
    have x : TD (sI h 13 4 q) r T n := x0.fr (Fr.sI (Sc := ScD 16) Fr.rf _ sD_4) (by decide)
    subst e
    refine st_iload_n (q := 3) dX8_skipBlanks_2 rfl rfl ?_
    refine st_bipush (q := 5) dX8_skipBlanks_3 ⟨by decide, by decide⟩ rfl ?_
    refine st_icmp_ge (q := 8) (tgt := 34) dX8_skipBlanks_5 (by decide) rfl (fun c5 => ?_) (fun c5 => ?_)
    · refine rt_v dX8_skipBlanks_34 rfl ?_
      exact hP
    · exfalso; omega
  | succ m ih =>
    intro q i hm hq e
    have w : WF (sI h 13 4 q) := (Fr.sI (Sc := ScD 16) Fr.rf _ sD_4).wf w0
    have x : TD (sI h 13 4 q) r T n := x0.fr (Fr.sI (Sc := ScD 16) Fr.rf _ sD_4) (by decide)
    unfold blP at e
    have lt : chT T n q ≠ -9 → q < n := chT_lt
    generalize hC : chT T n = C at *
    refine st_iload_n (q := 3) dX8_skipBlanks_2 rfl rfl ?_
    refine st_bipush (q := 5) dX8_skipBlanks_3 ⟨by decide, by decide⟩ rfl ?_
    refine st_icmp_ge (q := 8) (tgt := 34) dX8_skipBlanks_5 (by decide) rfl (fun c5 => ?_) (fun c5 => ?_)
    · refine rt_v dX8_skipBlanks_34 rfl ?_
      first | (exfalso; omega) | (rw [if_neg (by omega)] at e; subst e; exact hP)
    · refine st_aload_n (q := 9) dX8_skipBlanks_8 rfl rfl ?_
      refine st_aload_n (q := 10) dX8_skipBlanks_9 rfl rfl ?_
      refine iV1i (q := 13) dX8_skipBlanks_10 rfl ml_X8_46 mv_X8_sign (Nat.le_of_ble_eq_true rfl) (wfk w rfl) ?_
      refine c_X8_sign w hr x hn (by rw [sI_s]) (fun v hv => ?_)
      rw [hC] at hv
      refine st_bipush (q := 15) dX8_skipBlanks_13 ⟨by decide, by decide⟩ rfl ?_
      refine st_icmp_ne (q := 18) (tgt := 34) dX8_skipBlanks_15 (by decide) rfl (fun c15 => ?_) (fun c15 => ?_)
      · refine rt_v dX8_skipBlanks_34 rfl ?_
        first | (exfalso; omega) | (rw [if_neg (by omega)] at e; subst e; exact hP)
      · refine st_aload_n (q := 19) dX8_skipBlanks_18 rfl rfl ?_
        refine st_dup (q := 20) dX8_skipBlanks_19 rfl rfl ?_
        refine st_getI (q := 23) 8 4 dX8_skipBlanks_20 fl_X8_27 (by decide) (by decide) rfl rfl (wfk w rfl) ?_
        refine j_top (q : Int) (by rw [sI_s]) ?_
        refine st_iconst (q := 24) dX8_skipBlanks_23 ⟨by decide, by decide⟩ rfl ?_
        first | refine n_iadd (q := 25) dX8_skipBlanks_24 rfl ⟨by omega, by omega⟩ ?_ | refine st_iadd (q := 25) dX8_skipBlanks_24 rfl ?_
        refine st_putI (q := 28) 8 4 dX8_skipBlanks_25 fl_X8_27 (by decide) (by decide) (Or.inl rfl) rfl (Or.inl rfl) (wfk w rfl) ?_
        first | refine n_iinc (q := 31) dX8_skipBlanks_28 rfl (by decide) rfl ⟨by omega, by omega⟩ ?_ | refine st_iinc (q := 31) dX8_skipBlanks_28 rfl (by decide) rfl ?_
        refine st_goto (q := 2) dX8_skipBlanks_31 (by decide) ?_
        rw [if_pos (by omega)] at e
        have := lt (by omega)
        rw [sI_2]
        have tk := ih (q + 1) (i + 1) (by omega) (by omega) e
        rw [show ((q + 1 : Nat) : Int) = (q : Int) + 1 by omega] at tk
        exact tk
theorem c_X8_skipBlanks {d : Nat} {h : JH} {P : JH → Prop} {r n q : Nat} {T : Nat → Int} (w : WF h) (hr : r < 4) (x : TD h r T n) (hn : n ≤ 60) (hp : hI h 13 4 = (q : Int)) (hq : q ≤ n) (hP : P (sI h 13 4 (blP (chT T n) 60 q : Int))) : JRv (d + 3) jX8_skipBlanks [vr 13, vr ((109 + 2 * r : Nat))] h P := by
  have e2 : h = sI h 13 4 (q : Int) := by rw [← hp, sI_id]
  have tk := lp_X8_skip (d := d) w hr x hn hP 60 q 0 (by omega) hq rfl
  rw [← e2] at tk
  refine JRet.of rfl (Nat.le_of_ble_eq_true rfl) ?_
  refine st_iconst (q := 1) dX8_skipBlanks_0 ⟨by decide, by decide⟩ rfl ?_
  refine st_istore_n (q := 2) (i := 2) dX8_skipBlanks_1 rfl (by decide) rfl ?_
  exact tk
theorem c_X8_readLength {d : Nat} {h : JH} {P : Int → JH → Prop} {r n p : Nat} {T : Nat → Int} (w0 : WF h) (hr : r < 4) (x0 : TD h r T n) (hn : n ≤ 60) (hp : hI h 13 4 = (p : Int)) (hpn : p ≤ n) (hP : P (numP (chT T n) p).2 (sI h 13 4 ((numP (chT T n) p).1 : Int))) : JRi (d + 3) jX8_readLength [vr 13, vr ((109 + 2 * r : Nat))] h P := by
  have lt : ∀ q, chT T n q ≠ -9 → q < n := fun q z => chT_lt z
  generalize hC : chT T n = C at *
  have hQ : ∀ (q : Nat) (v : Int) (i : Nat), i ≤ 2 → q ≤ n → (0 ≤ v ∧ v ≤ 99) → (i = 2 ∨ ¬ (48 ≤ C q ∧ C q ≤ 57) → (q, v) = numP C p) → (i < 2 → 48 ≤ C q ∧ C q ≤ 57 → JAt k0 (d + 3) jX8_readLength 4 [vr 13, vr ((109 + 2 * r : Nat)), vi (10 * v + C q - 48), vi ((i + 1 : Nat) : Int)] [] (sI h 13 4 ((q + 1 : Nat) : Int)) (jqi P)) → JAt k0 (d + 3) jX8_readLength 4 [vr 13, vr ((109 + 2 * r : Nat)), vi v, vi i] [] (sI h 13 4 q) (jqi P) := by
    intro q v i hi hq hv k1 k3
    have w : WF (sI h 13 4 q) := (Fr.sI (Sc := ScD 16) Fr.rf _ sD_4).wf w0
    have x : TD (sI h 13 4 q) r T n := x0.fr (Fr.sI (Sc := ScD 16) Fr.rf _ sD_4) (by decide)
    have hL : (q, v) = numP C p → P v (sI h 13 4 q) := fun e => by
      have tk := hP
      rw [← e] at tk
      exact tk
    refine st_iload_n (q := 5) dX8_readLength_4 rfl rfl ?_
    refine st_iconst (q := 6) dX8_readLength_5 ⟨by decide, by decide⟩ rfl ?_
    refine st_icmp_ge (q := 9) (tgt := 54) dX8_readLength_6 (by decide) rfl (fun c6 => ?_) (fun c6 => ?_)
    · refine st_iload_n (q := 55) dX8_readLength_54 rfl rfl ?_
      refine rt_i dX8_readLength_55 rfl ?_
      exact hL (k1 (by first | omega | ((repeat' split at c21) <;> omega)))
    · refine st_aload_n (q := 10) dX8_readLength_9 rfl rfl ?_
      refine st_aload_n (q := 11) dX8_readLength_10 rfl rfl ?_
      refine iV1i (q := 14) dX8_readLength_11 rfl ml_X8_46 mv_X8_sign (Nat.le_of_ble_eq_true rfl) (wfk w rfl) ?_
      refine c_X8_sign w hr x hn (by rw [sI_s]) (fun u hu => ?_)
      rw [hC] at hu
      refine st_bipush (q := 16) dX8_readLength_14 ⟨by decide, by decide⟩ rfl ?_
      refine st_bipush (q := 18) dX8_readLength_16 ⟨by decide, by decide⟩ rfl ?_
      refine iN3i (q := 21) dX8_readLength_18 rfl mn_X8_80 ms_X11_isWithin (Nat.le_of_ble_eq_true rfl) ?_
      refine c_X11_isWithin ?_
      refine st_if_eq (q := 24) (tgt := 54) dX8_readLength_21 (by decide) rfl (fun c21 => ?_) (fun c21 => ?_)
      · refine st_iload_n (q := 55) dX8_readLength_54 rfl rfl ?_
        refine rt_i dX8_readLength_55 rfl ?_
        exact hL (k1 (by first | omega | ((repeat' split at c21) <;> omega)))
      · refine st_bipush (q := 26) dX8_readLength_24 ⟨by decide, by decide⟩ rfl ?_
        refine st_iload_n (q := 27) dX8_readLength_26 rfl rfl ?_
        first | refine n_imul (q := 28) dX8_readLength_27 rfl ⟨by omega, by omega⟩ ?_ | refine st_imul (q := 28) dX8_readLength_27 rfl ?_
        refine st_aload_n (q := 29) dX8_readLength_28 rfl rfl ?_
        refine st_aload_n (q := 30) dX8_readLength_29 rfl rfl ?_
        refine iV1i (q := 33) dX8_readLength_30 rfl ml_X8_46 mv_X8_sign (Nat.le_of_ble_eq_true rfl) (wfk w rfl) ?_
        have zc : 48 ≤ C q ∧ C q ≤ 57 := (by (repeat' split at c21) <;> omega)
        refine c_X8_sign w hr x hn (by rw [sI_s]) (fun u2 hu2 => ?_)
        rw [hC] at hu2
        have e2 : u2 = C q := (by omega)
        rw [e2]
        first | refine n_iadd (q := 34) dX8_readLength_33 rfl ⟨by omega, by omega⟩ ?_ | refine st_iadd (q := 34) dX8_readLength_33 rfl ?_
        refine st_bipush (q := 36) dX8_readLength_34 ⟨by decide, by decide⟩ rfl ?_
        first | refine n_isub (q := 37) dX8_readLength_36 rfl ⟨by omega, by omega⟩ ?_ | refine st_isub (q := 37) dX8_readLength_36 rfl ?_
        refine st_istore_n (q := 38) (i := 2) dX8_readLength_37 rfl (by decide) rfl ?_
        refine st_aload_n (q := 39) dX8_readLength_38 rfl rfl ?_
        refine st_dup (q := 40) dX8_readLength_39 rfl rfl ?_
        refine st_getI (q := 43) 8 4 dX8_readLength_40 fl_X8_27 (by decide) (by decide) rfl rfl (wfk w rfl) ?_
        refine j_top (q : Int) (by rw [sI_s]) ?_
        refine st_iconst (q := 44) dX8_readLength_43 ⟨by decide, by decide⟩ rfl ?_
        first | refine n_iadd (q := 45) dX8_readLength_44 rfl ⟨by omega, by omega⟩ ?_ | refine st_iadd (q := 45) dX8_readLength_44 rfl ?_
        refine st_putI (q := 48) 8 4 dX8_readLength_45 fl_X8_27 (by decide) (by decide) (Or.inl rfl) rfl (Or.inl rfl) (wfk w rfl) ?_
        first | refine n_iinc (q := 51) dX8_readLength_48 rfl (by decide) rfl ⟨by omega, by omega⟩ ?_ | refine st_iinc (q := 51) dX8_readLength_48 rfl (by decide) rfl ?_
        refine st_goto (q := 4) dX8_readLength_51 (by decide) ?_
        rw [sI_2]
        exact k3 (by omega) zc
  have e2 : h = sI h 13 4 (p : Int) := by rw [← hp, sI_id]
  have tk : JAt k0 (d + 3) jX8_readLength 4 [vr 13, vr ((109 + 2 * r : Nat)), vi 0, vi ((0 : Nat) : Int)] [] (sI h 13 4 p) (jqi P) := by
    refine hQ p 0 0 (by omega) hpn (by omega) (fun z => by unfold numP; rw [if_neg (by omega)]) (fun _ z => ?_)
    have := lt p (by omega)
    refine hQ (p + 1) (10 * 0 + C p - 48) 1 (by omega) (by omega) (by omega) (fun z2 => by unfold numP; rw [if_pos z, if_neg (by omega), show 10 * 0 + C p - 48 = C p - 48 by omega]) (fun _ z2 => ?_)
    have := lt (p + 1) (by omega)
    exact hQ (p + 2) (10 * (10 * 0 + C p - 48) + C (p + 1) - 48) 2 (by omega) (by omega) (by omega) (fun _ => by unfold numP; rw [if_pos z, if_pos z2, show 10 * (10 * 0 + C p - 48) + C (p + 1) - 48 = 10 * (C p - 48) + (C (p + 1) - 48) by omega]) (fun z3 => absurd z3 (by omega))
  rw [← e2] at tk
  refine JRet.of rfl (Nat.le_of_ble_eq_true rfl) ?_
  refine st_iconst (q := 1) dX8_readLength_0 ⟨by decide, by decide⟩ rfl ?_
  refine st_istore_n (q := 2) (i := 2) dX8_readLength_1 rfl (by decide) rfl ?_
  refine st_iconst (q := 3) dX8_readLength_2 ⟨by decide, by decide⟩ rfl ?_
  refine st_istore_n (q := 4) (i := 3) dX8_readLength_3 rfl (by decide) rfl ?_
  exact tk

