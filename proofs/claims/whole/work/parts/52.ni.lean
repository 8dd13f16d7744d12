/-! the class: the night -/
theorem SX.fr {Sc : Nat → Nat → Prop} {h h' : JH} {y : SY} {b : Nat} (m : SX h y b) (o : yOk y) (f : Fr Sc h h') (z : ∀ a k, (a = 13 ∧ k = 1) ∨ (16 ≤ a ∧ a ≤ 39) → ¬ Sc a k) : SX h' y b := by
  have o1 := o.1
  have b1 := m.1
  have eR : hR h' = hR h := by unfold hR; rw [f.2.1]
  refine ⟨m.1, by rw [eR]; exact m.2.1, by rw [eR]; exact m.2.2.1, (f.2.2 13 1 (z _ _ (by omega))).trans m.2.2.2.1, fun s hs => ?_⟩
  have e : ∀ k, hI h' (16 + 2 * s + b) k = hI h (16 + 2 * s + b) k := fun k => f.2.2 _ _ (z _ _ (by omega))
  have c := m.2.2.2.2 s hs
  unfold scX at c ⊢
  rw [e, e, e, e, e, e, e, e]
  exact c
def ScNt (a k : Nat) : Prop := a = 40 ∧ k < 2
theorem scNt_d : ∀ a k, (a = 13 ∧ k = 1) ∨ (16 ≤ a ∧ a ≤ 39) → ¬ ScNt a k := by intro a k z; unfold ScNt; omega
theorem scNt_i (k : Nat) (hk : k < 2 := by decide) : ScNt 40 k := ⟨rfl, hk⟩
theorem scNt_S : ∀ a k, ScNt a k → rgS a k := by intro a k z; unfold ScNt at z; unfold rgS; omega
theorem c_X8_hasAll {d : Nat} {h : JH} {P : Int → JH → Prop} {y : SY} {b : Nat} {c : Int} (w : WF h) (x : SX h y b) (o : yOk y) (hP : P (if 0 ≤ c ∧ c < (2 ^ y.1 : Nat) then 1 else 0) h) : JRi d jX8_hasAll [vr 13, vi c] h P := by
  have x1 := x.2.2.2.1
  have o1 := o.1
  have p1 := p31 (show y.1 < 31 by omega)
  refine JRet.of rfl (Nat.le_of_ble_eq_true rfl) ?_
  refine st_iload_n (q := 1) dX8_hasAll_0 rfl rfl ?_
  refine st_if_lt (q := 4) (tgt := 18) dX8_hasAll_1 (by decide) rfl (fun c1 => ?_) (fun c1 => ?_)
  · refine st_iconst (q := 19) dX8_hasAll_18 ⟨by decide, by decide⟩ rfl ?_
    refine rt_z dX8_hasAll_19 rfl (by (repeat' split) <;> omega) ?_
    first | exact pq hP (by (repeat' split) <;> omega) rfl | (generalize hg : 2 ^ y.1 = G at *; exact pq hP (by (repeat' split) <;> omega) rfl)
  · refine st_iload_n (q := 5) dX8_hasAll_4 rfl rfl ?_
    refine st_iconst (q := 6) dX8_hasAll_5 ⟨by decide, by decide⟩ rfl ?_
    refine st_aload_n (q := 7) dX8_hasAll_6 rfl rfl ?_
    refine st_getI (q := 10) 8 1 dX8_hasAll_7 fl_X8_17 (by decide) (by decide) rfl rfl (wfk w rfl) ?_
    refine st_ishl (q := 11) dX8_hasAll_10 rfl ?_
    rw [x1, show (1 : Int) = ((1 : Nat) : Int) from rfl, ishl_n (by omega) (by rw [Nat.one_mul]; exact p1), Nat.one_mul]
    generalize hg : 2 ^ y.1 = G at *
    refine st_icmp_ge (q := 14) (tgt := 18) dX8_hasAll_11 (by decide) rfl (fun c11 => ?_) (fun c11 => ?_)
    · refine st_iconst (q := 19) dX8_hasAll_18 ⟨by decide, by decide⟩ rfl ?_
      refine rt_z dX8_hasAll_19 rfl (by (repeat' split) <;> omega) ?_
      first | exact pq hP (by (repeat' split) <;> omega) rfl | (generalize hg : 2 ^ y.1 = G at *; exact pq hP (by (repeat' split) <;> omega) rfl)
    · refine st_iconst (q := 15) dX8_hasAll_14 ⟨by decide, by decide⟩ rfl ?_
      refine st_goto (q := 19) dX8_hasAll_15 (by decide) ?_
      refine rt_z dX8_hasAll_19 rfl (by (repeat' split) <;> omega) ?_
      first | exact pq hP (by (repeat' split) <;> omega) rfl | (generalize hg : 2 ^ y.1 = G at *; exact pq hP (by (repeat' split) <;> omega) rfl)
theorem c_X11_need {d : Nat} {h : JH} {P : Int → JH → Prop} {y : SY} {b : Nat} {s k : Int} (w : WF h) (x : SX h y b) (o : yOk y) (h1 : ¬ ((0 ≤ s ∧ s < y.1) ∧ (0 ≤ k ∧ k ≤ 7) ∧ (ySh y s.toNat).testBit k.toNat = true) → P (-1) h) (h2 : (0 ≤ s ∧ s < y.1) ∧ (0 ≤ k ∧ k ≤ 7) ∧ (ySh y s.toNat).testBit k.toNat = true → P 1 (sI h (16 + 2 * s.toNat + b) 7 ((yNd y s.toNat ||| 2 ^ k.toNat : Nat) : Int))) : JRi (d + 1) jX11_need [vr 0, vi s, vi k] h P := by
  have o1 := o.1
  refine JRet.of rfl (Nat.le_of_ble_eq_true rfl) ?_
  refine st_aload_n (q := 1) dX11_need_0 rfl rfl ?_
  refine st_getR (q := 4) 11 3 dX11_need_1 fl_X11_28 (by decide) (by decide) rfl rfl (by first | exact wfk w rfl | exact xsk (h := h) w x | exact xck (h := h) w x (by omega)) (by first | exact wfR w rfl | exact x.2.1) ?_
  refine st_iload_n (q := 5) dX11_need_4 rfl rfl ?_
  refine iV1i (q := 8) dX11_need_5 rfl ml_X11_204 mv_X8_has (Nat.le_of_ble_eq_true rfl) (by first | exact wfk w rfl | exact xsk (h := h) w x | exact xck (h := h) w x (by omega)) ?_
  refine c_X8_has w x ?_
  refine st_if_eq (q := 11) (tgt := 39) dX11_need_8 (by decide) rfl (fun c8 => ?_) (fun c8 => ?_)
  · refine st_iconst (q := 40) dX11_need_39 ⟨by decide, by decide⟩ rfl ?_
    refine rt_i dX11_need_40 rfl ?_
    first | exact h1 (by omega) | exact h1 (fun z => by have z2 := z.2.2; rw [tb0.mp c36] at z2; cases z2) | exact h1 (fun z => by have z2 := z.2.2; simp [z2] at c36) | exact h2 ⟨by omega, by omega, tb1.mp c36⟩
  · refine st_iload_n (q := 12) dX11_need_11 rfl rfl ?_
    refine st_bipush (q := 14) dX11_need_12 ⟨by decide, by decide⟩ rfl ?_
    refine iS2i (q := 17) dX11_need_14 rfl ml_X11_86 ms_X11_isNone (Nat.le_of_ble_eq_true rfl) ?_
    refine c_X11_isNone ?_
    refine st_if_ne (q := 20) (tgt := 39) dX11_need_17 (by decide) rfl (fun c17 => ?_) (fun c17 => ?_)
    · refine st_iconst (q := 40) dX11_need_39 ⟨by decide, by decide⟩ rfl ?_
      refine rt_i dX11_need_40 rfl ?_
      first | exact h1 (by omega) | exact h1 (fun z => by have z2 := z.2.2; rw [tb0.mp c36] at z2; cases z2) | exact h1 (fun z => by have z2 := z.2.2; simp [z2] at c36) | exact h2 ⟨by omega, by omega, tb1.mp c36⟩
    · refine st_aload_n (q := 21) dX11_need_20 rfl rfl ?_
      refine st_getR (q := 24) 11 3 dX11_need_21 fl_X11_28 (by decide) (by decide) rfl rfl (by first | exact wfk w rfl | exact xsk (h := h) w x | exact xck (h := h) w x (by omega)) (by first | exact wfR w rfl | exact x.2.1) ?_
      refine st_getR (q := 27) 8 0 dX11_need_24 fl_X11_208 (by decide) (by decide) rfl rfl (by first | exact wfk w rfl | exact xsk (h := h) w x | exact xck (h := h) w x (by omega)) (by first | exact wfR w rfl | exact x.2.1) ?_
      refine st_iload_n (q := 28) dX11_need_27 rfl rfl ?_
      refine st_aaload (q := 29) (t := 4) dX11_need_28 rfl ⟨by decide, by decide⟩ (by first | exact wfk w rfl | exact xsk (h := h) w x | exact xck (h := h) w x (by omega)) (by first | exact wfb w rfl ⟨by omega, by omega⟩ | exact xsb (h := h) w x ⟨by omega, by omega⟩) (xsc (h := h) w x (by omega)) ?_
      refine st_getI (q := 32) 5 0 dX11_need_29 fl_X11_219 (by decide) (by decide) rfl rfl (by first | exact wfk w rfl | exact xsk (h := h) w x | exact xck (h := h) w x (by omega)) ?_
      refine j_top _ (x.2.2.2.2 s.toNat (by omega)).1 ?_
      refine st_iload_n (q := 33) dX11_need_32 rfl rfl ?_
      refine st_ishr (q := 34) dX11_need_33 rfl ?_
      refine st_iconst (q := 35) dX11_need_34 ⟨by decide, by decide⟩ rfl ?_
      refine st_iand (q := 36) dX11_need_35 rfl ?_
      have hsh := (o.2 s.toNat (by omega)).1
      refine j_top (if (ySh y s.toNat).testBit k.toNat then 1 else 0) (by have hk : k = (k.toNat : Int) := (by omega); have := bit_n (a := ySh y s.toNat) (k := k.toNat) (by omega) (by omega); rw [← hk] at this; exact this) ?_
      refine st_if_ne (q := 39) (tgt := 41) dX11_need_36 (by decide) rfl (fun c36 => ?_) (fun c36 => ?_)
      · refine st_aload_n (q := 42) dX11_need_41 rfl rfl ?_
        refine st_getR (q := 45) 11 3 dX11_need_42 fl_X11_28 (by decide) (by decide) rfl rfl (by first | exact wfk w rfl | exact xsk (h := h) w x | exact xck (h := h) w x (by omega)) (by first | exact wfR w rfl | exact x.2.1) ?_
        refine st_getR (q := 48) 8 0 dX11_need_45 fl_X11_208 (by decide) (by decide) rfl rfl (by first | exact wfk w rfl | exact xsk (h := h) w x | exact xck (h := h) w x (by omega)) (by first | exact wfR w rfl | exact x.2.1) ?_
        refine st_iload_n (q := 49) dX11_need_48 rfl rfl ?_
        refine st_aaload (q := 50) (t := 4) dX11_need_49 rfl ⟨by decide, by decide⟩ (by first | exact wfk w rfl | exact xsk (h := h) w x | exact xck (h := h) w x (by omega)) (by first | exact wfb w rfl ⟨by omega, by omega⟩ | exact xsb (h := h) w x ⟨by omega, by omega⟩) (xsc (h := h) w x (by omega)) ?_
        refine st_dup (q := 51) dX11_need_50 rfl rfl ?_
        refine st_getI (q := 54) 5 7 dX11_need_51 fl_X11_259 (by decide) (by decide) rfl rfl (by first | exact wfk w rfl | exact xsk (h := h) w x | exact xck (h := h) w x (by omega)) ?_
        refine j_top _ (x.2.2.2.2 s.toNat (by omega)).2.2.2.2.2.2.2 ?_
        refine st_iconst (q := 55) dX11_need_54 ⟨by decide, by decide⟩ rfl ?_
        refine st_iload_n (q := 56) dX11_need_55 rfl rfl ?_
        refine st_ishl (q := 57) dX11_need_56 rfl ?_
        rw [show (1 : Int) = ((1 : Nat) : Int) from rfl, show k = (k.toNat : Int) by omega, ishl_n (by omega) (by rw [Nat.one_mul]; exact p31 (by omega)), Nat.one_mul]
        refine st_ior (q := 58) dX11_need_57 rfl ?_
        rw [ior_n (by have := (o.2 s.toNat (by omega)).2.2.2.2.2.2; omega) (p31 (by omega))]
        refine st_putI (q := 61) 5 7 dX11_need_58 fl_X11_259 (by decide) (by decide) (Or.inl rfl) rfl (Or.inl rfl) (by first | exact wfk w rfl | exact xsk (h := h) w x | exact xck (h := h) w x (by omega)) ?_
        refine st_iconst (q := 62) dX11_need_61 ⟨by decide, by decide⟩ rfl ?_
        refine rt_i dX11_need_62 rfl ?_
        first | exact h1 (by omega) | exact h1 (fun z => by have z2 := z.2.2; rw [tb0.mp c36] at z2; cases z2) | exact h1 (fun z => by have z2 := z.2.2; simp [z2] at c36) | exact h2 ⟨by omega, by omega, tb1.mp c36⟩
      · refine st_iconst (q := 40) dX11_need_39 ⟨by decide, by decide⟩ rfl ?_
        refine rt_i dX11_need_40 rfl ?_
        first | exact h1 (by omega) | exact h1 (fun z => by have z2 := z.2.2; rw [tb0.mp c36] at z2; cases z2) | exact h1 (fun z => by have z2 := z.2.2; simp [z2] at c36) | exact h2 ⟨by omega, by omega, tb1.mp c36⟩
theorem yNeed_sx {h : JH} {y : SY} {b s k : Nat} (x : SX h y b) (hs : s < y.1) : SX (sI h (16 + 2 * s + b) 7 ((yNd y s ||| 2 ^ k : Nat) : Int)) (yNeed y s k) b := by
  refine ⟨x.1, x.2.1, x.2.2.1, ?_, fun t ht => ?_⟩
  · have := x.1
    rw [sI_o _ (by omega)]
    exact x.2.2.2.1
  · have cx := x.2.2.2.2 t ht
    by_cases e : t = s
    · subst e
      have e1 : (yNeed y t k).2 t = (ySh y t, yHd y t, yLe y t, yMo y t, yKp y t, yMf y t, yMt y t, yNd y t ||| 2 ^ k) := if_pos rfl
      unfold scX ySh yHd yLe yMo yKp yMf yMt yNd at *
      rw [e1, sI_k _ (by decide), sI_k _ (by decide), sI_k _ (by decide), sI_k _ (by decide), sI_k _ (by decide), sI_k _ (by decide), sI_k _ (by decide), sI_s]
      exact ⟨cx.1, cx.2.1, cx.2.2.1, cx.2.2.2.1, cx.2.2.2.2.1, cx.2.2.2.2.2.1, cx.2.2.2.2.2.2.1, rfl⟩
    · have e1 : (yNeed y s k).2 t = y.2 t := if_neg e
      exact scX_s (y := y) cx e1 (by omega)
theorem yMk_need {y : SY} {s k : Nat} : ∀ n, yMk (yNeed y s k) n = yMk y n
  | 0 => rfl
  | n + 1 => by
    have e : yMf (yNeed y s k) n = yMf y n := by
      unfold yMf yNeed
      by_cases e : n = s
      · simp only [if_pos e]; rfl
      · simp only [if_neg e]
    show yMk (yNeed y s k) n + (if 0 ≤ yMf (yNeed y s k) n then 1 else 0) = yMk y n + (if 0 ≤ yMf y n then 1 else 0)
    rw [e, yMk_need n]
theorem pr_need {d : Nat} {h : JH} {s k : Int} (I : Inv h) : Two (d + 4) jX11_need jX12_need [vi s, vi k] h := by
  have w := I.1
  obtain ⟨y, b, ⟨o, o4⟩, m, x⟩ := I.2.2.2.2.2.1
  have o1 := o.1
  refine c_X11_need w x o (fun q => ?_) (fun q => ?_)
  · exact c_X12_need w m o (fun _ => ⟨rfl, I⟩) (fun z => absurd z q)
  · have hs : s.toNat < y.1 := by omega
    have m1 : SM (sI h (16 + 2 * s.toNat + b) 7 ((yNd y s.toNat ||| 2 ^ k.toNat : Nat) : Int)) y := SM_x m (by have := x.1; omega)
    refine c_X12_need (h := sI h (16 + 2 * s.toNat + b) 7 ((yNd y s.toNat ||| 2 ^ k.toNat : Nat) : Int)) w m1 o (fun z => absurd q z) (fun _ => ⟨rfl, ?_⟩)
    have f : Fq rgSy h (sI (sI h (16 + 2 * s.toNat + b) 7 ((yNd y s.toNat ||| 2 ^ k.toNat : Nat) : Int)) 139 s.toNat ((yNd y s.toNat ||| 2 ^ k.toNat : Nat) : Int)) := (Fq.rf.sI _ (ry1 (by omega) x.1 _)).sI _ (ry4 _)
    have ok2 : yOk (yNeed y s.toNat k.toNat) := yNeed_ok o (by omega)
    exact inv_sy I (f.up (fun _ _ z => Or.inl z)) ⟨yNeed y s.toNat k.toNat, b, ⟨ok2, by rw [show (yNeed y s.toNat k.toNat).1 = y.1 from rfl, yMk_need]; exact o4⟩, yNeed_sm m1, SX_x (yNeed_sx x hs) ok2 (by decide)⟩ (I.2.2.2.2.2.2.2.2.1.fr f sy_tl)
theorem c_X4_open {d : Nat} {h : JH} {P : JH → Prop} (w : WF h) (hP : P (sI (sI h 40 0 0) 40 1 0)) : JRv d jX4_open [vr 40] h P := by
  refine JRet.of rfl (Nat.le_of_ble_eq_true rfl) ?_
  refine st_aload_n (q := 1) dX4_open_0 rfl rfl ?_
  refine st_iconst (q := 2) dX4_open_1 ⟨by decide, by decide⟩ rfl ?_
  refine st_putI (q := 5) 4 0 dX4_open_2 fl_X4_9 (by decide) (by decide) (Or.inl rfl) rfl (Or.inl rfl) (wfk w rfl) ?_
  refine st_aload_n (q := 6) dX4_open_5 rfl rfl ?_
  refine st_iconst (q := 7) dX4_open_6 ⟨by decide, by decide⟩ rfl ?_
  refine st_putI (q := 10) 4 1 dX4_open_7 fl_X4_15 (by decide) (by decide) (Or.inl rfl) rfl (Or.inl rfl) (wfk w rfl) ?_
  refine rt_v dX4_open_10 rfl ?_
  exact hP
theorem c_X4_pass {d : Nat} {h : JH} {P : JH → Prop} {a c : Int} (w : WF h) (h0 : -1000000 ≤ hI h 40 0 ∧ hI h 40 0 ≤ 1000000) (h1 : -1000000 ≤ hI h 40 1 ∧ hI h 40 1 ≤ 1000000) (ha : 0 ≤ a ∧ a ≤ 1000) (hc : 0 ≤ c ∧ c ≤ 1000) (hP : P (sI (sI h 40 0 (hI h 40 0 + a)) 40 1 (hI h 40 1 + c))) : JRv d jX4_pass [vr 40, vi a, vi c] h P := by
  refine JRet.of rfl (Nat.le_of_ble_eq_true rfl) ?_
  refine st_aload_n (q := 1) dX4_pass_0 rfl rfl ?_
  refine st_dup (q := 2) dX4_pass_1 rfl rfl ?_
  refine st_getI (q := 5) 4 0 dX4_pass_2 fl_X4_9 (by decide) (by decide) rfl rfl (wfk w rfl) ?_
  refine st_iload_n (q := 6) dX4_pass_5 rfl rfl ?_
  first | refine n_iadd (q := 7) dX4_pass_6 rfl ⟨by omega, by omega⟩ ?_ | refine st_iadd (q := 7) dX4_pass_6 rfl ?_
  refine st_putI (q := 10) 4 0 dX4_pass_7 fl_X4_9 (by decide) (by decide) (Or.inl rfl) rfl (Or.inl rfl) (wfk w rfl) ?_
  refine st_aload_n (q := 11) dX4_pass_10 rfl rfl ?_
  refine st_dup (q := 12) dX4_pass_11 rfl rfl ?_
  refine st_getI (q := 15) 4 1 dX4_pass_12 fl_X4_15 (by decide) (by decide) rfl rfl (wfk w rfl) ?_
  refine j_top (hI h 40 1) rfl ?_
  refine st_iload_n (q := 16) dX4_pass_15 rfl rfl ?_
  first | refine n_iadd (q := 17) dX4_pass_16 rfl ⟨by omega, by omega⟩ ?_ | refine st_iadd (q := 17) dX4_pass_16 rfl ?_
  refine st_putI (q := 20) 4 1 dX4_pass_17 fl_X4_15 (by decide) (by decide) (Or.inl rfl) rfl (Or.inl rfl) (wfk w rfl) ?_
  refine rt_v dX4_pass_20 rfl ?_
  exact hP
theorem c_X4_meets {d : Nat} {h : JH} {P : Int → JH → Prop} {y : SY} {a s : Nat} {e l : Int} (w : WF h) (hk : kd h a = 5) (ha : a ≠ 40) (c : scX h a y s) (om : (yMf y s = -9 ∧ yMt y s = -9) ∨ (0 ≤ yMf y s ∧ yMf y s ≤ yMt y s ∧ yMt y s ≤ 999)) (he : hI h 40 0 = e) (hl : hI h 40 1 = l) (hP : ∀ h', Fr ScNt h h' → hI h' 40 0 = upF y s e → hI h' 40 1 = dnF y s l → P (if upF y s e ≤ dnF y s l then 1 else 0) h') : JRi (d + 1) jX4_meets [vr 40, vr a] h P := by
  have c5 := c.2.2.2.2.2.1
  have c6 := c.2.2.2.2.2.2.1
  refine JRet.of rfl (Nat.le_of_ble_eq_true rfl) ?_
  refine st_aload_n (q := 1) dX4_meets_0 rfl rfl ?_
  refine iV0i (q := 4) dX4_meets_1 rfl ml_X4_27 mv_X5_isMarked (Nat.le_of_ble_eq_true rfl) (by first | exact wfk w rfl | exact hk) ?_
  refine c_X5_isMarked hk c om ?_
  refine st_if_eq (q := 7) (tgt := 37) dX4_meets_4 (by decide) rfl (fun c4 => ?_) (fun c4 => ?_)
  · refine st_aload_n (q := 38) dX4_meets_37 rfl rfl ?_
    refine st_getI (q := 41) 4 0 dX4_meets_38 fl_X4_9 (by decide) (by decide) rfl rfl (by first | exact wfk w rfl | exact hk) ?_
    refine j_top (upF y s e) (by first | rw [sI_k _ (by decide), sI_s] | (rw [he]; unfold upF; rw [if_neg (by omega)])) ?_
    refine st_aload_n (q := 42) dX4_meets_41 rfl rfl ?_
    refine st_getI (q := 45) 4 1 dX4_meets_42 fl_X4_15 (by decide) (by decide) rfl rfl (by first | exact wfk w rfl | exact hk) ?_
    refine j_top (dnF y s l) (by first | rw [sI_s] | (rw [hl]; unfold dnF; rw [if_neg (by omega)])) ?_
    apply j_mg 53
    · intro K1 K2
      refine st_icmp_gt (q := 48) (tgt := 52) dX4_meets_45 (by decide) rfl (fun c45 => ?_) (fun c45 => ?_)
      · refine st_iconst (q := 53) dX4_meets_52 ⟨by decide, by decide⟩ rfl ?_
        exact K1 c45
      · refine st_iconst (q := 49) dX4_meets_48 ⟨by decide, by decide⟩ rfl ?_
        refine st_goto (q := 53) dX4_meets_49 (by decide) ?_
        exact K2 c45
    · simp only [jif_if]
      refine rt_z dX4_meets_53 rfl (by (repeat' split) <;> omega) ?_
      first | exact pq (hP _ ((Fr.rf.sI _ (scNt_i _)).sI _ (scNt_i _)) (by rw [sI_k _ (by decide), sI_s]) (by rw [sI_s])) (by (repeat' split) <;> omega) rfl | exact pq (hP _ Fr.rf (by rw [he]; unfold upF; rw [if_neg (by omega)]) (by rw [hl]; unfold dnF; rw [if_neg (by omega)])) (by (repeat' split) <;> omega) rfl
  · refine st_aload_n (q := 8) dX4_meets_7 rfl rfl ?_
    refine st_aload_n (q := 9) dX4_meets_8 rfl rfl ?_
    refine st_getI (q := 12) 4 0 dX4_meets_9 fl_X4_9 (by decide) (by decide) rfl rfl (by first | exact wfk w rfl | exact hk) ?_
    refine st_aload_n (q := 13) dX4_meets_12 rfl rfl ?_
    refine st_getI (q := 16) 5 5 dX4_meets_13 fl_X4_33 (by decide) (by decide) rfl rfl (by first | exact wfk w rfl | exact hk) ?_
    refine j_top _ c5 ?_
    refine st_mmax (q := 19) dX4_meets_16 rfl ml_X4_36 (Nat.le_of_ble_eq_true rfl) ?_
    refine j_top (upF y s e) (by rw [he]; unfold upF; (repeat' split) <;> omega) ?_
    refine st_putI (q := 22) 4 0 dX4_meets_19 fl_X4_9 (by decide) (by decide) (Or.inl rfl) rfl (Or.inl rfl) (by first | exact wfk w rfl | exact hk) ?_
    refine st_aload_n (q := 23) dX4_meets_22 rfl rfl ?_
    refine st_aload_n (q := 24) dX4_meets_23 rfl rfl ?_
    refine st_getI (q := 27) 4 1 dX4_meets_24 fl_X4_15 (by decide) (by decide) rfl rfl (by first | exact wfk w rfl | exact hk) ?_
    refine j_top l (by rw [sI_k _ (by decide)]; exact hl) ?_
    refine st_aload_n (q := 28) dX4_meets_27 rfl rfl ?_
    refine st_getI (q := 31) 5 6 dX4_meets_28 fl_X4_42 (by decide) (by decide) rfl rfl (by first | exact wfk w rfl | exact hk) ?_
    refine j_top (yMt y s) (by rw [sI_o _ ha]; exact c6) ?_
    refine st_mmin (q := 34) dX4_meets_31 rfl ml_X4_45 (Nat.le_of_ble_eq_true rfl) ?_
    refine j_top (dnF y s l) (by unfold dnF; (repeat' split) <;> omega) ?_
    refine st_putI (q := 37) 4 1 dX4_meets_34 fl_X4_15 (by decide) (by decide) (Or.inl rfl) rfl (Or.inl rfl) (by first | exact wfk w rfl | exact hk) ?_
    refine st_aload_n (q := 38) dX4_meets_37 rfl rfl ?_
    refine st_getI (q := 41) 4 0 dX4_meets_38 fl_X4_9 (by decide) (by decide) rfl rfl (by first | exact wfk w rfl | exact hk) ?_
    refine j_top (upF y s e) (by first | rw [sI_k _ (by decide), sI_s] | (rw [he]; unfold upF; rw [if_neg (by omega)])) ?_
    refine st_aload_n (q := 42) dX4_meets_41 rfl rfl ?_
    refine st_getI (q := 45) 4 1 dX4_meets_42 fl_X4_15 (by decide) (by decide) rfl rfl (by first | exact wfk w rfl | exact hk) ?_
    refine j_top (dnF y s l) (by first | rw [sI_s] | (rw [hl]; unfold dnF; rw [if_neg (by omega)])) ?_
    apply j_mg 53
    · intro K3 K4
      refine st_icmp_gt (q := 48) (tgt := 52) dX4_meets_45 (by decide) rfl (fun c45 => ?_) (fun c45 => ?_)
      · refine st_iconst (q := 53) dX4_meets_52 ⟨by decide, by decide⟩ rfl ?_
        exact K3 c45
      · refine st_iconst (q := 49) dX4_meets_48 ⟨by decide, by decide⟩ rfl ?_
        refine st_goto (q := 53) dX4_meets_49 (by decide) ?_
        exact K4 c45
    · simp only [jif_if]
      refine rt_z dX4_meets_53 rfl (by (repeat' split) <;> omega) ?_
      first | exact pq (hP _ ((Fr.rf.sI _ (scNt_i _)).sI _ (scNt_i _)) (by rw [sI_k _ (by decide), sI_s]) (by rw [sI_s])) (by (repeat' split) <;> omega) rfl | exact pq (hP _ Fr.rf (by rw [he]; unfold upF; rw [if_neg (by omega)]) (by rw [hl]; unfold dnF; rw [if_neg (by omega)])) (by (repeat' split) <;> omega) rfl
theorem c_X4_canStay {d : Nat} {h : JH} {P : Int → JH → Prop} {y : SY} {a s sh : Nat} {e l : Int} (w : WF h) (hk : kd h a = 5) (ha : a ≠ 40) (c : scX h a y s) (om : (yMf y s = -9 ∧ yMt y s = -9) ∨ (0 ≤ yMf y s ∧ yMf y s ≤ yMt y s ∧ yMt y s ≤ 999)) (hn : yNd y s < 256) (hsh : sh < 256) (he : hI h 40 0 = e) (hl : hI h 40 1 = l) (h0 : nandn (yNd y s) sh ≠ 0 → P 0 h) (hP : nandn (yNd y s) sh = 0 → ∀ h', Fr ScNt h h' → hI h' 40 0 = upF y s e → hI h' 40 1 = dnF y s l → P (if upF y s e ≤ dnF y s l then 1 else 0) h') : JRi (d + 2) jX4_canStay [vr 40, vr a, vi sh] h P := by
  refine JRet.of rfl (Nat.le_of_ble_eq_true rfl) ?_
  refine st_aload_n (q := 1) dX4_canStay_0 rfl rfl ?_
  refine st_getI (q := 4) 5 7 dX4_canStay_1 fl_X4_48 (by decide) (by decide) rfl rfl (by first | exact wfk w rfl | exact hk) ?_
  refine j_top _ c.2.2.2.2.2.2.2 ?_
  refine st_iload_n (q := 5) dX4_canStay_4 rfl rfl ?_
  refine st_iconst (q := 6) dX4_canStay_5 ⟨by decide, by decide⟩ rfl ?_
  refine st_ixor (q := 7) dX4_canStay_6 rfl ?_
  refine st_iand (q := 8) dX4_canStay_7 rfl ?_
  refine j_top _ (iandn_n (by omega) (by omega)) ?_
  refine st_if_ne (q := 11) (tgt := 23) dX4_canStay_8 (by decide) rfl (fun c8 => ?_) (fun c8 => ?_)
  · refine st_iconst (q := 24) dX4_canStay_23 ⟨by decide, by decide⟩ rfl ?_
    refine rt_z dX4_canStay_24 rfl (by (repeat' split) <;> omega) ?_
    first | exact h0 (by omega) | exact pq t (by (repeat' split) <;> omega) rfl
  · refine st_aload_n (q := 12) dX4_canStay_11 rfl rfl ?_
    refine st_aload_n (q := 13) dX4_canStay_12 rfl rfl ?_
    refine iV1i (q := 16) dX4_canStay_13 rfl ml_X4_51 mv_X4_meets (Nat.le_of_ble_eq_true rfl) (by first | exact wfk w rfl | exact hk) ?_
    refine c_X4_meets w hk ha c om he hl (fun h' f e1 e2 => ?_)
    have t := hP (by omega) h' f e1 e2
    refine st_if_eq (q := 19) (tgt := 23) dX4_canStay_16 (by decide) rfl (fun c16 => ?_) (fun c16 => ?_)
    · refine st_iconst (q := 24) dX4_canStay_23 ⟨by decide, by decide⟩ rfl ?_
      refine rt_z dX4_canStay_24 rfl (by (repeat' split) <;> omega) ?_
      first | exact h0 (by omega) | exact pq t (by (repeat' split) <;> omega) rfl
    · refine st_iconst (q := 20) dX4_canStay_19 ⟨by decide, by decide⟩ rfl ?_
      refine st_goto (q := 24) dX4_canStay_20 (by decide) ?_
      refine rt_z dX4_canStay_24 rfl (by (repeat' split) <;> omega) ?_
      first | exact h0 (by omega) | exact pq t (by (repeat' split) <;> omega) rfl
theorem c_X5_canBeCut {d : Nat} {h : JH} {P : Int → JH → Prop} {y : SY} {a s : Nat} (hk : kd h a = 5) (c : scX h a y s) (om : (yMf y s = -9 ∧ yMt y s = -9) ∨ (0 ≤ yMf y s ∧ yMf y s ≤ yMt y s ∧ yMt y s ≤ 999)) (hP : P (if yKp y s = 0 ∧ yMf y s < 0 then 1 else 0) h) : JRi (d + 1) jX5_canBeCut [vr a] h P := by
  have c4 := c.2.2.2.2.1
  refine JRet.of rfl (Nat.le_of_ble_eq_true rfl) ?_
  refine st_aload_n (q := 1) dX5_canBeCut_0 rfl rfl ?_
  refine st_getI (q := 4) 5 4 dX5_canBeCut_1 fl_X5_24 (by decide) (by decide) rfl rfl (hk) ?_
  refine st_if_ne (q := 7) (tgt := 18) dX5_canBeCut_4 (by decide) rfl (fun c4 => ?_) (fun c4 => ?_)
  · refine st_iconst (q := 19) dX5_canBeCut_18 ⟨by decide, by decide⟩ rfl ?_
    refine rt_z dX5_canBeCut_19 rfl (by (repeat' split) <;> omega) ?_
    exact pq hP (by (repeat' split) <;> omega) rfl
  · refine st_aload_n (q := 8) dX5_canBeCut_7 rfl rfl ?_
    refine iV0i (q := 11) dX5_canBeCut_8 rfl ml_X5_37 mv_X5_isMarked (Nat.le_of_ble_eq_true rfl) (hk) ?_
    refine c_X5_isMarked hk c om ?_
    refine st_if_ne (q := 14) (tgt := 18) dX5_canBeCut_11 (by decide) rfl (fun c11 => ?_) (fun c11 => ?_)
    · refine st_iconst (q := 19) dX5_canBeCut_18 ⟨by decide, by decide⟩ rfl ?_
      refine rt_z dX5_canBeCut_19 rfl (by (repeat' split) <;> omega) ?_
      exact pq hP (by (repeat' split) <;> omega) rfl
    · refine st_iconst (q := 15) dX5_canBeCut_14 ⟨by decide, by decide⟩ rfl ?_
      refine st_goto (q := 19) dX5_canBeCut_15 (by decide) ?_
      refine rt_z dX5_canBeCut_19 rfl (by (repeat' split) <;> omega) ?_
      exact pq hP (by (repeat' split) <;> omega) rfl
theorem ymc_f {y : SY} {c s : Nat} (h : (ymc y c s).2 = false) : ∀ n, s ≤ n → (ymc y c n).2 = false
  | 0, hn => by rw [show s = 0 by omega] at h; exact h
  | n + 1, hn => by
    by_cases e : s = n + 1
    · rw [← e]; exact h
    · have ih := ymc_f h n (by omega)
      show (if c.testBit n then ((ymc y c n).1, (ymc y c n).2 && decide (yKp y n = 0) && decide (yMf y n < 0)) else ((ymc y c n).1 ||| ySh y n, (ymc y c n).2 && decide (nandn (yNd y n) (ymc y c n).1 = 0))).2 = false
      split
      · show ((ymc y c n).2 && decide (yKp y n = 0) && decide (yMf y n < 0)) = false
        rw [ih]; rfl
      · show ((ymc y c n).2 && decide (nandn (yNd y n) (ymc y c n).1 = 0)) = false
        rw [ih]; rfl
set_option maxHeartbeats 4000000 in
theorem lp_X4_isGood {d : Nat} {h : JH} {P : Int → JH → Prop} {y : SY} {b c : Nat} {sc lb : Int} {R : Bool} (w0 : WF h) (x0 : SX h y b) (o : yOk y) (hc : c < 4096) (hb : 0 ≤ lb ∧ lb ≤ 99) (hP : ∀ h', Fr ScNt h h' → P (if R then 1 else 0) h') (s : Nat) (hs : s ≤ y.1) : ∀ (h' : JH) (fr ti : Int) (j7 j8 j9 j10 : JV), Fr ScNt h h' → hI h' 40 0 = fr → hI h' 40 1 = ti → (0 ≤ fr ∧ fr ≤ 1000 + 200 * s) → (0 ≤ ti ∧ ti ≤ 200 * s) → (ymc y c s).2 = true → ((ymc y c y.1).2 && (goS y c y.1 sc lb (13 - s) s fr ti).isSome) = R → JAt k0 (d + 3) jX4_isGood 10 [vr 40, vr 13, vi c, vi sc, vi lb, vi ((ymc y c s).1 : Nat), vi s, j7, j8, j9, j10] [] h' (jqi P) := by
  intro h' fr ti j7 j8 j9 j10 f e0 e1 bf bt ht he
  have w := f.wf w0
  have x := x0.fr o f scNt_d
  have x1 := x.2.2.2.1
  have o1 := o.1
  have b1 := x.1
  have n1 := ymc_lt o c s hs
  have g0 : s < y.1 → goS y c y.1 sc lb (13 - s) s fr ti = if c.testBit s then goS y c y.1 sc lb (13 - (s + 1)) (s + 1) fr ti else if dnF y s ti < upF y s fr then none else goS y c y.1 sc lb (13 - (s + 1)) (s + 1) (upF y s fr + ((yLe y s : Nat) + (if (s : Int) = sc then lb else 0))) (dnF y s ti + (if (s : Int) = sc then (yLe y s : Nat) + lb else (yMo y s : Nat))) := fun z => by
    rw [show 13 - s = (12 - s) + 1 by omega, goS, if_pos ⟨by omega, z⟩, show 13 - (s + 1) = 12 - s by omega]
    split
    · rfl
    · split
      · rfl
      · first | rfl | rw [if_pos z]
  have y0 : ymc y c (s + 1) = if c.testBit s then ((ymc y c s).1, (ymc y c s).2 && decide (yKp y s = 0) && decide (yMf y s < 0)) else ((ymc y c s).1 ||| ySh y s, (ymc y c s).2 && decide (nandn (yNd y s) (ymc y c s).1 = 0)) := rfl
  have hF : ∀ h2, Fr ScNt h h2 → R = false → P 0 h2 := fun h2 f2k z => by have t := hP h2 f2k; rw [z] at t; exact t
  refine st_iload (q := 12) dX4_isGood_10 rfl rfl ?_
  refine st_aload_n (q := 13) dX4_isGood_12 rfl rfl ?_
  refine st_getI (q := 16) 8 1 dX4_isGood_13 fl_X4_58 (by decide) (by decide) rfl rfl (by first | exact wfk w rfl | exact xsk (h := h') w x | exact xck (h := h') w x (by omega)) ?_
  refine st_icmp_ge (q := 19) (tgt := 146) dX4_isGood_16 (by decide) rfl (fun c16 => ?_) (fun c16 => ?_)
  · refine st_iconst (q := 147) dX4_isGood_146 ⟨by decide, by decide⟩ rfl ?_
    refine rt_z dX4_isGood_147 rfl (by (repeat' split) <;> omega) ?_
    have es : s = y.1 := by omega
    subst es
    have t := hP _ f
    have eg : goS y c y.1 sc lb (13 - y.1) y.1 fr ti = some (fr, ti) := (by rw [show 13 - y.1 = (12 - y.1) + 1 by omega, goS, if_neg (by omega)])
    rw [← he, ht, eg] at t
    exact t
  · refine st_aload_n (q := 20) dX4_isGood_19 rfl rfl ?_
    refine st_getR (q := 23) 8 0 dX4_isGood_20 fl_X4_63 (by decide) (by decide) rfl rfl (by first | exact wfk w rfl | exact xsk (h := h') w x | exact xck (h := h') w x (by omega)) (by first | exact wfR w rfl | exact x.2.1) ?_
    refine st_iload (q := 25) dX4_isGood_23 rfl rfl ?_
    refine st_aaload (q := 26) (t := 4) dX4_isGood_25 rfl ⟨by decide, by decide⟩ (by first | exact wfk w rfl | exact xsk (h := h') w x | exact xck (h := h') w x (by omega)) (by first | exact wfb w rfl ⟨by omega, by omega⟩ | exact xsb (h := h') w x ⟨by omega, by omega⟩) (xsc (h := h') w x (by omega)) ?_
    refine st_astore (q := 28) dX4_isGood_26 (by decide) rfl ?_
    have hlt : s < y.1 := by omega
    have cx := x.2.2.2.2 s hlt
    have os := o.2 s hlt
    have kx := xck (h := h') (s := s) w x (by omega)
    have g1 := g0 hlt
    refine st_iload_n (q := 29) dX4_isGood_28 rfl rfl ?_
    refine st_iload (q := 31) dX4_isGood_29 rfl rfl ?_
    refine st_ishr (q := 32) dX4_isGood_31 rfl ?_
    refine st_iconst (q := 33) dX4_isGood_32 ⟨by decide, by decide⟩ rfl ?_
    refine st_iand (q := 34) dX4_isGood_33 rfl ?_
    refine j_top (if c.testBit s then 1 else 0) (bit_n (by omega) (by omega)) ?_
    refine st_if_eq (q := 37) (tgt := 41) dX4_isGood_34 (by decide) rfl (fun c34 => ?_) (fun c34 => ?_)
    · refine st_iconst (q := 42) dX4_isGood_41 ⟨by decide, by decide⟩ rfl ?_
      refine st_istore (q := 44) dX4_isGood_42 (by decide) rfl ?_
      refine st_iload (q := 46) dX4_isGood_44 rfl rfl ?_
      refine st_if_eq (q := 49) (tgt := 60) dX4_isGood_46 (by decide) rfl (fun _ => ?_) (fun z => absurd z (by decide))
      refine st_aload_n (q := 61) dX4_isGood_60 rfl rfl ?_
      refine st_aload (q := 63) dX4_isGood_61 rfl rfl ?_
      refine st_iload (q := 65) dX4_isGood_63 rfl rfl ?_
      refine iV2i (q := 68) dX4_isGood_65 rfl ml_X4_70 mv_X4_canStay (Nat.le_of_ble_eq_true rfl) (by first | exact wfk w rfl | exact xsk (h := h') w x | exact xck (h := h') w x (by omega)) ?_
      have bt2k : c.testBit s = false := (by first | exact tb0.mp c34 | (cases z : c.testBit s; rfl; (simp [z] at c34)))
      rw [if_neg (by rw [bt2k]; decide)] at y0 g1
      refine c_X4_canStay w kx (by show 16 + 2 * s + b ≠ 40; omega) cx os.2.2.2.2.2.1 os.2.2.2.2.2.2 n1 e0 e1 (fun nzk => ?_) (fun nzk h2 f2k u0k u1k => ?_)
      rotate_left
      have w2k := f2k.wf w
      have x2k := x.fr o f2k scNt_d
      have cx2k := x2k.2.2.2.2 s hlt
      have kx2k := xck (h := h2) (s := s) w2k x2k (by omega)
      rotate_left
      · refine st_if_ne (q := 71) (tgt := 73) dX4_isGood_68 (by decide) rfl (fun z => absurd z (by decide)) (fun _ => ?_)
        refine st_iconst (q := 72) dX4_isGood_71 ⟨by decide, by decide⟩ rfl ?_
        refine rt_z dX4_isGood_72 rfl (by (repeat' split) <;> omega) ?_
        first | exact hF _ f (by rw [← he, ymc_f (y := y) (c := c) (s := s + 1) (by rw [y0]; show ((ymc y c s).2 && decide (yKp y s = 0) && decide (yMf y s < 0)) = false; rw [ht]; simp; omega) y.1 (by omega)]; rfl) | exact hF _ f (by rw [← he, ymc_f (y := y) (c := c) (s := s + 1) (by rw [y0]; show ((ymc y c s).2 && decide (nandn (yNd y s) (ymc y c s).1 = 0)) = false; rw [ht]; simp [nzk]) y.1 (by omega)]; rfl) | exact hF _ (f.tr f2k) (by rw [← he, g1, if_pos (show dnF y s ti < upF y s fr by omega)]; simp)
      · refine st_if_ne (q := 71) (tgt := 73) dX4_isGood_68 (by decide) rfl (fun c68 => ?_) (fun c68 => ?_)
        · refine st_iload (q := 75) dX4_isGood_73 rfl rfl ?_
          refine st_if_ne (q := 78) (tgt := 140) dX4_isGood_75 (by decide) rfl (fun z => absurd z (by decide)) (fun _ => ?_)
          refine st_iload (q := 80) dX4_isGood_78 rfl rfl ?_
          refine st_iload_n (q := 81) dX4_isGood_80 rfl rfl ?_
          apply j_mg 97
          · intro K1 K2
            refine st_icmp_ne (q := 84) (tgt := 92) dX4_isGood_81 (by decide) rfl (fun c81 => ?_) (fun c81 => ?_)
            · refine st_aload (q := 94) dX4_isGood_92 rfl rfl ?_
              refine st_getI (q := 97) 5 3 dX4_isGood_94 fl_X4_77 (by decide) (by decide) rfl rfl (kx2k) ?_
              exact K2 c81
            · refine st_aload (q := 86) dX4_isGood_84 rfl rfl ?_
              refine st_getI (q := 89) 5 2 dX4_isGood_86 fl_X4_74 (by decide) (by decide) rfl rfl (kx2k) ?_
              refine j_top ((yLe y s : Nat) : Int) cx2k.2.2.1 ?_
              refine st_goto (q := 97) dX4_isGood_89 (by decide) ?_
              exact K1 c81
          · simp only [jif_if]
            refine j_top (if (s : Int) = sc then ((yLe y s : Nat) : Int) else ((yMo y s : Nat) : Int)) (by have q1 : hI h2 (16 + 2 * ((s : Int)).toNat + b) 2 = (yLe y s : Nat) := cx2k.2.2.1; have q2 : hI h2 (16 + 2 * ((s : Int)).toNat + b) 3 = (yMo y s : Nat) := cx2k.2.2.2.1; (repeat' split) <;> first | rfl | omega) ?_
            refine st_istore (q := 99) dX4_isGood_97 (by decide) rfl ?_
            refine st_iload (q := 101) dX4_isGood_99 rfl rfl ?_
            refine st_iload_n (q := 102) dX4_isGood_101 rfl rfl ?_
            apply j_mg 111
            · intro K3 K4
              refine st_icmp_ne (q := 105) (tgt := 110) dX4_isGood_102 (by decide) rfl (fun c102 => ?_) (fun c102 => ?_)
              · refine st_iconst (q := 111) dX4_isGood_110 ⟨by decide, by decide⟩ rfl ?_
                exact K4 c102
              · refine st_iload (q := 107) dX4_isGood_105 rfl rfl ?_
                refine st_goto (q := 111) dX4_isGood_107 (by decide) ?_
                exact K3 c102
            · simp only [jif_if]
              refine j_top (if (s : Int) = sc then lb else 0) (by (repeat' split) <;> first | rfl | omega) ?_
              refine st_istore (q := 113) dX4_isGood_111 (by decide) rfl ?_
              refine st_aload_n (q := 114) dX4_isGood_113 rfl rfl ?_
              refine st_aload (q := 116) dX4_isGood_114 rfl rfl ?_
              refine st_getI (q := 119) 5 2 dX4_isGood_116 fl_X4_74 (by decide) (by decide) rfl rfl (kx2k) ?_
              refine j_top ((yLe y s : Nat) : Int) cx2k.2.2.1 ?_
              have b2 := upF_b o hlt (by omega) bf
              have b3 := dnF_b o hlt bt
              refine st_iload (q := 121) dX4_isGood_119 rfl rfl ?_
              first | refine n_iadd (q := 122) dX4_isGood_121 rfl ⟨by omega, by omega⟩ ?_ | refine st_iadd (q := 122) dX4_isGood_121 rfl ?_
              refine st_iload (q := 124) dX4_isGood_122 rfl rfl ?_
              refine st_iload (q := 126) dX4_isGood_124 rfl rfl ?_
              first | refine n_iadd (q := 127) dX4_isGood_126 rfl ⟨by omega, by omega⟩ ?_ | refine st_iadd (q := 127) dX4_isGood_126 rfl ?_
              refine iV2v (q := 130) dX4_isGood_127 rfl ml_X4_80 mv_X4_pass (Nat.le_of_ble_eq_true rfl) (wfk w2k rfl) ?_
              refine c_X4_pass w2k (by omega) (by omega) (by constructor <;> (repeat' split) <;> omega) (by constructor <;> (repeat' split) <;> omega) ?_
              refine st_iload (q := 132) dX4_isGood_130 rfl rfl ?_
              refine st_aload (q := 134) dX4_isGood_132 rfl rfl ?_
              refine st_getI (q := 137) 5 0 dX4_isGood_134 fl_X4_84 (by decide) (by decide) rfl rfl (kx2k) ?_
              refine j_top ((ySh y s : Nat) : Int) (by rw [sI_o _ (by omega), sI_o _ (by omega)]; exact cx2k.1) ?_
              refine st_ior (q := 138) dX4_isGood_137 rfl ?_
              rw [ior_n (by omega) (by omega)]
              refine st_istore (q := 140) dX4_isGood_138 (by decide) rfl ?_
              first | refine n_iinc (q := 143) dX4_isGood_140 rfl (by decide) rfl ⟨by omega, by omega⟩ ?_ | refine st_iinc (q := 143) dX4_isGood_140 rfl (by decide) rfl ?_
              refine st_goto (q := 10) dX4_isGood_143 (by decide) ?_
              first | (rw [show (ymc y c s).1 = (ymc y c (s + 1)).1 from (by rw [y0])]; exact lp_X4_isGood w0 x0 o hc hb hP (s + 1) (by omega) _ fr ti _ _ _ _ f e0 e1 (by omega) (by omega) (by rw [y0]; show ((ymc y c s).2 && decide (yKp y s = 0) && decide (yMf y s < 0)) = true; rw [ht]; simp; omega) (by rw [← he, g1])) | (rw [show (ymc y c s).1 ||| ySh y s = (ymc y c (s + 1)).1 from (by rw [y0])]; exact lp_X4_isGood w0 x0 o hc hb hP (s + 1) (by omega) _ (upF y s fr + ((yLe y s : Nat) + (if (s : Int) = sc then lb else 0))) (dnF y s ti + (if (s : Int) = sc then (yLe y s : Nat) + lb else (yMo y s : Nat))) _ _ _ _ (((f.tr f2k).sI _ (scNt_i _)).sI _ (scNt_i _)) (by rw [sI_k _ (by decide), sI_s, u0k]) (by rw [sI_s, u1k]; (repeat' split) <;> omega) (by constructor <;> (repeat' split) <;> omega) (by constructor <;> (repeat' split) <;> omega) (by rw [y0]; show ((ymc y c s).2 && decide (nandn (yNd y s) (ymc y c s).1 = 0)) = true; rw [ht, nzk]; rfl) (by rw [← he, g1, if_neg (show ¬ dnF y s ti < upF y s fr by omega)]))
        · refine st_iconst (q := 72) dX4_isGood_71 ⟨by decide, by decide⟩ rfl ?_
          refine rt_z dX4_isGood_72 rfl (by (repeat' split) <;> omega) ?_
          first | exact hF _ f (by rw [← he, ymc_f (y := y) (c := c) (s := s + 1) (by rw [y0]; show ((ymc y c s).2 && decide (yKp y s = 0) && decide (yMf y s < 0)) = false; rw [ht]; simp; omega) y.1 (by omega)]; rfl) | exact hF _ f (by rw [← he, ymc_f (y := y) (c := c) (s := s + 1) (by rw [y0]; show ((ymc y c s).2 && decide (nandn (yNd y s) (ymc y c s).1 = 0)) = false; rw [ht]; simp [nzk]) y.1 (by omega)]; rfl) | exact hF _ (f.tr f2k) (by rw [← he, g1, if_pos (show dnF y s ti < upF y s fr by omega)]; simp)
    · refine st_iconst (q := 38) dX4_isGood_37 ⟨by decide, by decide⟩ rfl ?_
      refine st_goto (q := 42) dX4_isGood_38 (by decide) ?_
      refine st_istore (q := 44) dX4_isGood_42 (by decide) rfl ?_
      refine st_iload (q := 46) dX4_isGood_44 rfl rfl ?_
      refine st_if_eq (q := 49) (tgt := 60) dX4_isGood_46 (by decide) rfl (fun z => absurd z (by decide)) (fun _ => ?_)
      refine st_aload (q := 51) dX4_isGood_49 rfl rfl ?_
      refine iV0i (q := 54) dX4_isGood_51 rfl ml_X4_67 mv_X5_canBeCut (Nat.le_of_ble_eq_true rfl) (by first | exact wfk w rfl | exact xsk (h := h') w x | exact xck (h := h') w x (by omega)) ?_
      refine c_X5_canBeCut kx cx os.2.2.2.2.2.1 ?_
      have bt2k : c.testBit s = true := (by first | exact tb1.mp c34 | (cases z : c.testBit s; (simp [z] at c34); rfl))
      rw [if_pos bt2k] at y0 g1
      refine st_if_ne (q := 57) (tgt := 73) dX4_isGood_54 (by decide) rfl (fun c54 => ?_) (fun c54 => ?_)
      · refine st_iload (q := 75) dX4_isGood_73 rfl rfl ?_
        refine st_if_ne (q := 78) (tgt := 140) dX4_isGood_75 (by decide) rfl (fun _ => ?_) (fun z => absurd z (by decide))
        first | refine n_iinc (q := 143) dX4_isGood_140 rfl (by decide) rfl ⟨by omega, by omega⟩ ?_ | refine st_iinc (q := 143) dX4_isGood_140 rfl (by decide) rfl ?_
        refine st_goto (q := 10) dX4_isGood_143 (by decide) ?_
        first | (rw [show (ymc y c s).1 = (ymc y c (s + 1)).1 from (by rw [y0])]; exact lp_X4_isGood w0 x0 o hc hb hP (s + 1) (by omega) _ fr ti _ _ _ _ f e0 e1 (by omega) (by omega) (by rw [y0]; show ((ymc y c s).2 && decide (yKp y s = 0) && decide (yMf y s < 0)) = true; rw [ht]; simp; omega) (by rw [← he, g1])) | (rw [show (ymc y c s).1 ||| ySh y s = (ymc y c (s + 1)).1 from (by rw [y0])]; exact lp_X4_isGood w0 x0 o hc hb hP (s + 1) (by omega) _ (upF y s fr + ((yLe y s : Nat) + (if (s : Int) = sc then lb else 0))) (dnF y s ti + (if (s : Int) = sc then (yLe y s : Nat) + lb else (yMo y s : Nat))) _ _ _ _ (((f.tr f2k).sI _ (scNt_i _)).sI _ (scNt_i _)) (by rw [sI_k _ (by decide), sI_s, u0k]) (by rw [sI_s, u1k]; (repeat' split) <;> omega) (by constructor <;> (repeat' split) <;> omega) (by constructor <;> (repeat' split) <;> omega) (by rw [y0]; show ((ymc y c s).2 && decide (nandn (yNd y s) (ymc y c s).1 = 0)) = true; rw [ht, nzk]; rfl) (by rw [← he, g1, if_neg (show ¬ dnF y s ti < upF y s fr by omega)]))
      · refine st_goto (q := 71) dX4_isGood_57 (by decide) ?_
        refine st_iconst (q := 72) dX4_isGood_71 ⟨by decide, by decide⟩ rfl ?_
        refine rt_z dX4_isGood_72 rfl (by (repeat' split) <;> omega) ?_
        first | exact hF _ f (by rw [← he, ymc_f (y := y) (c := c) (s := s + 1) (by rw [y0]; show ((ymc y c s).2 && decide (yKp y s = 0) && decide (yMf y s < 0)) = false; rw [ht]; simp; omega) y.1 (by omega)]; rfl) | exact hF _ f (by rw [← he, ymc_f (y := y) (c := c) (s := s + 1) (by rw [y0]; show ((ymc y c s).2 && decide (nandn (yNd y s) (ymc y c s).1 = 0)) = false; rw [ht]; simp [nzk]) y.1 (by omega)]; rfl) | exact hF _ (f.tr f2k) (by rw [← he, g1, if_pos (show dnF y s ti < upF y s fr by omega)]; simp)
termination_by y.1 - s
theorem c_X4_isGood {d : Nat} {h : JH} {P : Int → JH → Prop} {y : SY} {b c : Nat} {sc lb : Int} (w : WF h) (x : SX h y b) (o : yOk y) (hc : c < 4096) (hb : 0 ≤ lb ∧ lb ≤ 99) (hP : ∀ h', Fr ScNt h h' → P (if ((ymc y c y.1).2 && (goS y c y.1 sc lb 13 0 0 0).isSome) then 1 else 0) h') : JRi (d + 3) jX4_isGood [vr 40, vr 13, vi c, vi sc, vi lb] h P := by
  refine JRet.of rfl (Nat.le_of_ble_eq_true rfl) ?_
  refine st_aload_n (q := 1) dX4_isGood_0 rfl rfl ?_
  refine iV0v (q := 4) dX4_isGood_1 rfl ml_X4_55 mv_X4_open (Nat.le_of_ble_eq_true rfl) (wfk w rfl) ?_
  refine c_X4_open w ?_
  refine st_iconst (q := 5) dX4_isGood_4 ⟨by decide, by decide⟩ rfl ?_
  refine st_istore (q := 7) dX4_isGood_5 (by decide) rfl ?_
  refine st_iconst (q := 8) dX4_isGood_7 ⟨by decide, by decide⟩ rfl ?_
  refine st_istore (q := 10) dX4_isGood_8 (by decide) rfl ?_
  exact lp_X4_isGood w x o hc hb hP 0 (by omega) _ 0 0 _ _ _ _ ((Fr.rf.sI _ (scNt_i _)).sI _ (scNt_i _)) (by rw [sI_k _ (by decide), sI_s]) (by rw [sI_s]) (by omega) (by omega) rfl rfl
theorem p12 {y : SY} (o : yOk y) : 2 ^ y.1 ≤ 4096 := Nat.pow_le_pow_right (n := 2) (by omega) o.1
theorem pr_good {d : Nat} {h : JH} {c : Int} (I : Inv h) : Two (d + 4) jX11_good jX12_good [vi c] h := by
  have w := I.1
  obtain ⟨y, b, ⟨o, o4⟩, m, x⟩ := I.2.2.2.2.2.1
  have p1 := p12 o
  have hX : (¬ (0 ≤ c ∧ c < (2 ^ y.1 : Nat)) → JRi (d + 4) jX12_good [vr 117, vi c] h (fun v' h2 => -1 = v' ∧ Inv h2)) → (0 ≤ c ∧ c < (2 ^ y.1 : Nat) → ∀ h', Fr ScNt h h' → JRi (d + 4) jX12_good [vr 117, vi c] h' (fun v' h2 => (if ((ymc y c.toNat y.1).2 && (goS y c.toNat y.1 (-9) 0 13 0 0 0).isSome) then 1 else 0) = v' ∧ Inv h2)) → Two (d + 4) jX11_good jX12_good [vi c] h := by
    intro g1 g2
    generalize hG : 2 ^ y.1 = G at *
    refine JRet.of rfl (Nat.le_of_ble_eq_true rfl) ?_
    refine st_aload_n (q := 1) dX11_good_0 rfl rfl ?_
    refine st_getR (q := 4) 11 3 dX11_good_1 fl_X11_28 (by decide) (by decide) rfl rfl (wfk w rfl) (wfR w rfl) ?_
    refine st_iload_n (q := 5) dX11_good_4 rfl rfl ?_
    refine iV1i (q := 8) dX11_good_5 rfl ml_X11_262 mv_X8_hasAll (Nat.le_of_ble_eq_true rfl) (wfk w rfl) ?_
    refine c_X8_hasAll w x o ?_
    rw [hG]
    refine st_if_ne (q := 11) (tgt := 13) dX11_good_8 (by decide) rfl (fun c8 => ?_) (fun c8 => ?_)
    · refine st_aload_n (q := 14) dX11_good_13 rfl rfl ?_
      refine st_getR (q := 17) 11 4 dX11_good_14 fl_X11_35 (by decide) (by decide) rfl rfl (wfk w rfl) (wfR w rfl) ?_
      refine st_aload_n (q := 18) dX11_good_17 rfl rfl ?_
      refine st_getR (q := 21) 11 3 dX11_good_18 fl_X11_28 (by decide) (by decide) rfl rfl (wfk w rfl) (wfR w rfl) ?_
      refine st_iload_n (q := 22) dX11_good_21 rfl rfl ?_
      refine st_bipush (q := 24) dX11_good_22 ⟨by decide, by decide⟩ rfl ?_
      refine st_iconst (q := 25) dX11_good_24 ⟨by decide, by decide⟩ rfl ?_
      refine iV4i (q := 28) dX11_good_25 rfl ml_X11_265 mv_X4_isGood (Nat.le_of_ble_eq_true rfl) (wfk w rfl) ?_
      have ec : c = (c.toNat : Int) := by omega
      have gx := fun (Pz : Int → JH → Prop) => c_X4_isGood (d := d) (P := Pz) (c := c.toNat) (sc := -9) (lb := 0) w x o (by omega) (by omega)
      rw [← ec] at gx
      refine gx _ (fun h1z f1z => ?_)
      refine st_if_eq (q := 31) (tgt := 35) dX11_good_28 (by decide) rfl (fun c28 => ?_) (fun c28 => ?_)
      · refine st_iconst (q := 36) dX11_good_35 ⟨by decide, by decide⟩ rfl ?_
        refine rt_i dX11_good_36 rfl ?_
        first | exact g1 (by omega) | (have tq := g2 (by omega) _ f1z; rw [tb0.mp c28] at tq; exact tq) | (have tq := g2 (by omega) _ f1z; rw [tb1.mp c28] at tq; exact tq)
      · refine st_iconst (q := 32) dX11_good_31 ⟨by decide, by decide⟩ rfl ?_
        refine st_goto (q := 36) dX11_good_32 (by decide) ?_
        refine rt_i dX11_good_36 rfl ?_
        first | exact g1 (by omega) | (have tq := g2 (by omega) _ f1z; rw [tb0.mp c28] at tq; exact tq) | (have tq := g2 (by omega) _ f1z; rw [tb1.mp c28] at tq; exact tq)
    · refine st_iconst (q := 12) dX11_good_11 ⟨by decide, by decide⟩ rfl ?_
      refine rt_i dX11_good_12 rfl ?_
      first | exact g1 (by omega) | (have tq := g2 (by omega) _ f1z; rw [tb0.mp c28] at tq; exact tq) | (have tq := g2 (by omega) _ f1z; rw [tb1.mp c28] at tq; exact tq)
  refine hX (fun q => ?_) (fun q h1 f1 => ?_)
  · exact c_X12_good w m o (fun _ => ⟨rfl, I⟩) (fun z => absurd z q)
  · have F1 : Fq rgS h h1 := Fq.rf.fr f1 scNt_S
    have m1 : SM h1 y := m.fq (Fq.rf.fr (Sc := ScNt) f1 (fun _ _ z => z)) (by intro a k z; simp only [rgSy, ScNt] at z ⊢; omega)
    refine c_X12_good (F1.wf w) m1 o (fun z => absurd q z) (fun _ h2 f2 => ⟨?_, inv_s I (F1.fr f2 scM_S)⟩)
    cases (ymc y c.toNat y.1).2 <;> cases (goS y c.toNat y.1 (-9) 0 13 0 0 0).isSome <;> simp

