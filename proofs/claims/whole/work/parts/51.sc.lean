/-! the class: scenes of the story -/
theorem xsk {h : JH} {y : SY} {b : Nat} (w : WF h) (x : SX h y b) : kd h (14 + b) = 24 := by
  have := x.1
  rcases (show b = 0 ∨ b = 1 by omega) with e | e <;> subst e <;> exact wfk w rfl
theorem xsb {h : JH} {y : SY} {b : Nat} {i : Int} (w : WF h) (x : SX h y b) (hi : 0 ≤ i ∧ i < 12) : 0 ≤ i ∧ i < (ln h (14 + b) : Int) := by
  have := x.1
  have e : ln h (14 + b) = 12 := by
    rcases (show b = 0 ∨ b = 1 by omega) with e | e <;> subst e <;> exact wfl w rfl
  rw [e]; exact hi
theorem xsc {h : JH} {y : SY} {b s : Nat} (w : WF h) (x : SX h y b) (hs : s < 12) : hR h (14 + b) s = some (16 + 2 * s + b) := by
  have := x.1
  have q := sh_scenes s hs
  rcases (show b = 0 ∨ b = 1 by omega) with e | e
  · subst e; exact (w.2.1 14 s (fun z => absurd z.1 (by decide))).trans q.1
  · subst e; exact (w.2.1 15 s (fun z => absurd z.1 (by decide))).trans (by rw [q.2.1, show 16 + 2 * s + 1 = 17 + 2 * s by omega])
theorem xck {h : JH} {y : SY} {b s : Nat} (w : WF h) (x : SX h y b) (hs : s < 12) : kd h (16 + 2 * s + b) = 5 := by
  have := x.1
  have q := sh_scenes s hs
  rcases (show b = 0 ∨ b = 1 by omega) with e | e
  · subst e; exact wfk w (by rw [Nat.add_zero, q.2.2.1])
  · subst e; exact wfk w (by rw [show 16 + 2 * s + 1 = 17 + 2 * s by omega, q.2.2.2])
theorem c_X8_has {d : Nat} {h : JH} {P : Int → JH → Prop} {y : SY} {b : Nat} {s : Int} (w : WF h) (x : SX h y b) (hP : P (if 0 ≤ s ∧ s < y.1 then 1 else 0) h) : JRi d jX8_has [vr 13, vi s] h P := by
  have x1 := x.2.2.2.1
  refine JRet.of rfl (Nat.le_of_ble_eq_true rfl) ?_
  refine st_iload_n (q := 1) dX8_has_0 rfl rfl ?_
  apply j_mg 17
  · intro K1 K2
    refine st_if_lt (q := 4) (tgt := 16) dX8_has_1 (by decide) rfl (fun c1 => ?_) (fun c1 => ?_)
    · refine st_iconst (q := 17) dX8_has_16 ⟨by decide, by decide⟩ rfl ?_
      exact K1 c1
    · refine st_iload_n (q := 5) dX8_has_4 rfl rfl ?_
      refine st_aload_n (q := 6) dX8_has_5 rfl rfl ?_
      refine st_getI (q := 9) 8 1 dX8_has_6 fl_X8_17 (by decide) (by decide) rfl rfl (wfk w rfl) ?_
      apply j_mg 17
      · intro K3 K4
        refine st_icmp_ge (q := 12) (tgt := 16) dX8_has_9 (by decide) rfl (fun c9 => ?_) (fun c9 => ?_)
        · refine st_iconst (q := 17) dX8_has_16 ⟨by decide, by decide⟩ rfl ?_
          exact K3 c9
        · refine st_iconst (q := 13) dX8_has_12 ⟨by decide, by decide⟩ rfl ?_
          refine st_goto (q := 17) dX8_has_13 (by decide) ?_
          exact K4 c9
      · simp only [jif_if]
        exact K2 c1
  · simp only [jif_if]
    refine rt_z dX8_has_17 rfl (by (repeat' split) <;> omega) ?_
    exact pq hP (by (repeat' split) <;> omega) rfl
theorem c_X5_tells {d : Nat} {h : JH} {P : Int → JH → Prop} {y : SY} {a s : Nat} {what : Int} (hk : kd h a = 5) (c : scX h a y s) (hp : yKp y s ≤ 1) (hP : P (ytell y s what) h) : JRi d jX5_tells [vr a, vi what] h P := by
  refine JRet.of rfl (Nat.le_of_ble_eq_true rfl) ?_
  refine st_iload_n (q := 1) dX5_tells_0 rfl rfl ?_
  refine st_tsw4 dX5_tells_1 rfl (o0 := 31) (t0 := 32) rfl (by decide) (o1 := 36) (t1 := 37) rfl (by decide) (o2 := 41) (t2 := 42) rfl (by decide) (o3 := 46) (t3 := 47) rfl (by decide) (td := 52) (by decide) (fun c1 => ?_) (fun c1 => ?_) (fun c1 => ?_) (fun c1 => ?_) (fun c1 => ?_)
  · refine st_aload_n (q := 33) dX5_tells_32 rfl rfl ?_
    refine st_getI (q := 36) 5 0 dX5_tells_33 fl_X5_9 (by decide) (by decide) rfl rfl (hk) ?_
    refine rt_i dX5_tells_36 rfl ?_
    refine pq hP ?_ rfl
    unfold ytell
    simp only [c.1, c.2.1, c.2.2.1, c.2.2.2.1, c.2.2.2.2.1]
    (repeat' split) <;> omega
  · refine st_aload_n (q := 38) dX5_tells_37 rfl rfl ?_
    refine st_getI (q := 41) 5 1 dX5_tells_38 fl_X5_15 (by decide) (by decide) rfl rfl (hk) ?_
    refine rt_i dX5_tells_41 rfl ?_
    refine pq hP ?_ rfl
    unfold ytell
    simp only [c.1, c.2.1, c.2.2.1, c.2.2.2.1, c.2.2.2.2.1]
    (repeat' split) <;> omega
  · refine st_aload_n (q := 43) dX5_tells_42 rfl rfl ?_
    refine st_getI (q := 46) 5 2 dX5_tells_43 fl_X5_18 (by decide) (by decide) rfl rfl (hk) ?_
    refine rt_i dX5_tells_46 rfl ?_
    refine pq hP ?_ rfl
    unfold ytell
    simp only [c.1, c.2.1, c.2.2.1, c.2.2.2.1, c.2.2.2.2.1]
    (repeat' split) <;> omega
  · refine st_aload_n (q := 48) dX5_tells_47 rfl rfl ?_
    refine st_getI (q := 51) 5 3 dX5_tells_48 fl_X5_21 (by decide) (by decide) rfl rfl (hk) ?_
    refine rt_i dX5_tells_51 rfl ?_
    refine pq hP ?_ rfl
    unfold ytell
    simp only [c.1, c.2.1, c.2.2.1, c.2.2.2.1, c.2.2.2.2.1]
    (repeat' split) <;> omega
  · refine st_aload_n (q := 53) dX5_tells_52 rfl rfl ?_
    refine st_getI (q := 56) 5 4 dX5_tells_53 fl_X5_24 (by decide) (by decide) rfl rfl (hk) ?_
    apply j_mg 64
    · intro K1 K2
      refine st_if_eq (q := 59) (tgt := 63) dX5_tells_56 (by decide) rfl (fun c56 => ?_) (fun c56 => ?_)
      · refine st_iconst (q := 64) dX5_tells_63 ⟨by decide, by decide⟩ rfl ?_
        exact K1 c56
      · refine st_iconst (q := 60) dX5_tells_59 ⟨by decide, by decide⟩ rfl ?_
        refine st_goto (q := 64) dX5_tells_60 (by decide) ?_
        exact K2 c56
    · simp only [jif_if]
      refine rt_i dX5_tells_64 rfl ?_
      refine pq hP ?_ rfl
      unfold ytell
      simp only [c.1, c.2.1, c.2.2.1, c.2.2.2.1, c.2.2.2.2.1]
      (repeat' split) <;> omega
theorem c_X11_scene {d : Nat} {h : JH} {P : Int → JH → Prop} {y : SY} {b : Nat} {s what : Int} (w : WF h) (x : SX h y b) (o : yOk y) (h1 : ¬ ((0 ≤ s ∧ s < y.1) ∧ (0 ≤ what ∧ what ≤ 4)) → P (-1) h) (h2 : (0 ≤ s ∧ s < y.1) ∧ (0 ≤ what ∧ what ≤ 4) → P 1 (sI h 0 11 (ytell y s.toNat what))) : JRi (d + 2) jX11_scene [vr 0, vi s, vi what] h P := by
  have o1 := o.1
  refine JRet.of rfl (Nat.le_of_ble_eq_true rfl) ?_
  refine st_aload_n (q := 1) dX11_scene_0 rfl rfl ?_
  refine st_getR (q := 4) 11 3 dX11_scene_1 fl_X11_28 (by decide) (by decide) rfl rfl (by first | exact wfk w rfl | exact xsk (h := h) w x | exact xck (h := h) w x (by omega)) (by first | exact wfR w rfl | exact x.2.1) ?_
  refine st_iload_n (q := 5) dX11_scene_4 rfl rfl ?_
  refine iV1i (q := 8) dX11_scene_5 rfl ml_X11_204 mv_X8_has (Nat.le_of_ble_eq_true rfl) (by first | exact wfk w rfl | exact xsk (h := h) w x | exact xck (h := h) w x (by omega)) ?_
  refine c_X8_has w x ?_
  refine st_if_eq (q := 11) (tgt := 19) dX11_scene_8 (by decide) rfl (fun c8 => ?_) (fun c8 => ?_)
  · refine st_iconst (q := 20) dX11_scene_19 ⟨by decide, by decide⟩ rfl ?_
    refine rt_i dX11_scene_20 rfl ?_
    first | exact h1 (by omega) | exact h2 (by omega)
  · refine st_iload_n (q := 12) dX11_scene_11 rfl rfl ?_
    refine st_iconst (q := 13) dX11_scene_12 ⟨by decide, by decide⟩ rfl ?_
    refine iS2i (q := 16) dX11_scene_13 rfl ml_X11_86 ms_X11_isNone (Nat.le_of_ble_eq_true rfl) ?_
    refine c_X11_isNone ?_
    refine st_if_eq (q := 19) (tgt := 21) dX11_scene_16 (by decide) rfl (fun c16 => ?_) (fun c16 => ?_)
    · refine st_aload_n (q := 22) dX11_scene_21 rfl rfl ?_
      refine st_aload_n (q := 23) dX11_scene_22 rfl rfl ?_
      refine st_getR (q := 26) 11 3 dX11_scene_23 fl_X11_28 (by decide) (by decide) rfl rfl (by first | exact wfk w rfl | exact xsk (h := h) w x | exact xck (h := h) w x (by omega)) (by first | exact wfR w rfl | exact x.2.1) ?_
      refine st_getR (q := 29) 8 0 dX11_scene_26 fl_X11_208 (by decide) (by decide) rfl rfl (by first | exact wfk w rfl | exact xsk (h := h) w x | exact xck (h := h) w x (by omega)) (by first | exact wfR w rfl | exact x.2.1) ?_
      refine st_iload_n (q := 30) dX11_scene_29 rfl rfl ?_
      refine st_aaload (q := 31) (t := 4) dX11_scene_30 rfl ⟨by decide, by decide⟩ (by first | exact wfk w rfl | exact xsk (h := h) w x | exact xck (h := h) w x (by omega)) (by first | exact wfb w rfl ⟨by omega, by omega⟩ | exact xsb (h := h) w x ⟨by omega, by omega⟩) (xsc (h := h) w x (by omega)) ?_
      refine st_iload_n (q := 32) dX11_scene_31 rfl rfl ?_
      refine iV1i (q := 35) dX11_scene_32 rfl ml_X11_212 mv_X5_tells (Nat.le_of_ble_eq_true rfl) (by first | exact wfk w rfl | exact xsk (h := h) w x | exact xck (h := h) w x (by omega)) ?_
      refine c_X5_tells (xck w x (by omega)) (x.2.2.2.2 s.toNat (by omega)) (o.2 s.toNat (by omega)).2.2.2.2.1 ?_
      refine iV1i (q := 38) dX11_scene_35 rfl ml_X11_106 mv_X11_tell (Nat.le_of_ble_eq_true rfl) (by first | exact wfk w rfl | exact xsk (h := h) w x | exact xck (h := h) w x (by omega)) ?_
      refine c_X11_tell w ?_
      refine rt_i dX11_scene_38 rfl ?_
      first | exact h1 (by omega) | exact h2 (by omega)
    · refine st_iconst (q := 20) dX11_scene_19 ⟨by decide, by decide⟩ rfl ?_
      refine rt_i dX11_scene_20 rfl ?_
      first | exact h1 (by omega) | exact h2 (by omega)
theorem lp_X8_named {d : Nat} {h : JH} {P : Int → JH → Prop} {y : SY} {b : Nat} (w : WF h) (x : SX h y b) (o : yOk y) (hP : P (yNm y y.1 : Nat) h) (s : Nat) (hs : s ≤ y.1) : JAt k0 d jX8_named 4 [vr 13, vi (yNm y s : Nat), vi s] [] h (jqi P) := by
  have x1 := x.2.2.2.1
  have o1 := o.1
  have n1 := yNm_lt o s hs
  refine st_iload_n (q := 5) dX8_named_4 rfl rfl ?_
  refine st_aload_n (q := 6) dX8_named_5 rfl rfl ?_
  refine st_getI (q := 9) 8 1 dX8_named_6 fl_X8_17 (by decide) (by decide) rfl rfl (by first | exact wfk w rfl | exact xsk (h := h) w x | exact xck (h := h) w x (by omega)) ?_
  refine st_icmp_ge (q := 12) (tgt := 30) dX8_named_9 (by decide) rfl (fun c9 => ?_) (fun c9 => ?_)
  · refine st_iload_n (q := 31) dX8_named_30 rfl rfl ?_
    refine rt_i dX8_named_31 rfl ?_
    exact pq hP (by rw [show s = y.1 by omega]) rfl
  · refine st_iload_n (q := 13) dX8_named_12 rfl rfl ?_
    refine st_aload_n (q := 14) dX8_named_13 rfl rfl ?_
    refine st_getR (q := 17) 8 0 dX8_named_14 fl_X8_11 (by decide) (by decide) rfl rfl (by first | exact wfk w rfl | exact xsk (h := h) w x | exact xck (h := h) w x (by omega)) (by first | exact wfR w rfl | exact x.2.1) ?_
    refine st_iload_n (q := 18) dX8_named_17 rfl rfl ?_
    refine st_aaload (q := 19) (t := 4) dX8_named_18 rfl ⟨by decide, by decide⟩ (by first | exact wfk w rfl | exact xsk (h := h) w x | exact xck (h := h) w x (by omega)) (by first | exact wfb w rfl ⟨by omega, by omega⟩ | exact xsb (h := h) w x ⟨by omega, by omega⟩) (xsc (h := h) w x (by omega)) ?_
    refine st_getI (q := 22) 5 0 dX8_named_19 fl_X8_31 (by decide) (by decide) rfl rfl (by first | exact wfk w rfl | exact xsk (h := h) w x | exact xck (h := h) w x (by omega)) ?_
    refine st_ior (q := 23) dX8_named_22 rfl ?_
    refine st_istore_n (q := 24) (i := 1) dX8_named_23 rfl (by decide) rfl ?_
    first | refine n_iinc (q := 27) dX8_named_24 rfl (by decide) rfl ⟨by omega, by omega⟩ ?_ | refine st_iinc (q := 27) dX8_named_24 rfl (by decide) rfl ?_
    refine st_goto (q := 4) dX8_named_27 (by decide) ?_
    have hlt : s < y.1 := by omega
    have cx := x.2.2.2.2 s hlt
    rw [show ((s : Int)).toNat = s from rfl, cx.1, ior_n (by omega) (by have := (o.2 s hlt).1; omega)]
    exact lp_X8_named w x o hP (s + 1) (by omega)
termination_by y.1 - s
theorem c_X8_named {d : Nat} {h : JH} {P : Int → JH → Prop} {y : SY} {b : Nat} (w : WF h) (x : SX h y b) (o : yOk y) (hP : P (yNm y y.1 : Nat) h) : JRi d jX8_named [vr 13] h P := by
  refine JRet.of rfl (Nat.le_of_ble_eq_true rfl) ?_
  refine st_iconst (q := 1) dX8_named_0 ⟨by decide, by decide⟩ rfl ?_
  refine st_istore_n (q := 2) (i := 1) dX8_named_1 rfl (by decide) rfl ?_
  refine st_iconst (q := 3) dX8_named_2 ⟨by decide, by decide⟩ rfl ?_
  refine st_istore_n (q := 4) (i := 2) dX8_named_3 rfl (by decide) rfl ?_
  exact lp_X8_named w x o hP 0 (by omega)
theorem lp_X11_third {d : Nat} {h : JH} {P : Int → JH → Prop} {y : SY} {b : Nat} (w : WF h) (x : SX h y b) (o : yOk y) (hP : P (yThird y y.1 0) h) (s : Nat) (hs : s ≤ y.1) (he : yThird y (y.1 - s) s = yThird y y.1 0) : JAt k0 (d + 1) jX11_third 2 [vr 0, vi s] [] h (jqi P) := by
  have x1 := x.2.2.2.1
  have o1 := o.1
  refine st_iload_n (q := 3) dX11_third_2 rfl rfl ?_
  refine st_aload_n (q := 4) dX11_third_3 rfl rfl ?_
  refine st_getR (q := 7) 11 3 dX11_third_4 fl_X11_28 (by decide) (by decide) rfl rfl (by first | exact wfk w rfl | exact xsk (h := h) w x | exact xck (h := h) w x (by omega)) (by first | exact wfR w rfl | exact x.2.1) ?_
  refine st_getI (q := 10) 8 1 dX11_third_7 fl_X11_203 (by decide) (by decide) rfl rfl (by first | exact wfk w rfl | exact xsk (h := h) w x | exact xck (h := h) w x (by omega)) ?_
  refine st_icmp_ge (q := 13) (tgt := 40) dX11_third_10 (by decide) rfl (fun c10 => ?_) (fun c10 => ?_)
  · refine st_bipush (q := 42) dX11_third_40 ⟨by decide, by decide⟩ rfl ?_
    refine rt_i dX11_third_42 rfl ?_
    first | (rw [yThird, if_pos (by omega)] at he; exact pq hP (by rw [← he]) rfl) | (rw [show y.1 - s = 0 by omega] at he; exact pq hP (by rw [← he]; rfl) rfl)
  · refine st_aload_n (q := 14) dX11_third_13 rfl rfl ?_
    refine st_getR (q := 17) 11 3 dX11_third_14 fl_X11_28 (by decide) (by decide) rfl rfl (by first | exact wfk w rfl | exact xsk (h := h) w x | exact xck (h := h) w x (by omega)) (by first | exact wfR w rfl | exact x.2.1) ?_
    refine st_getR (q := 20) 8 0 dX11_third_17 fl_X11_208 (by decide) (by decide) rfl rfl (by first | exact wfk w rfl | exact xsk (h := h) w x | exact xck (h := h) w x (by omega)) (by first | exact wfR w rfl | exact x.2.1) ?_
    refine st_iload_n (q := 21) dX11_third_20 rfl rfl ?_
    refine st_aaload (q := 22) (t := 4) dX11_third_21 rfl ⟨by decide, by decide⟩ (by first | exact wfk w rfl | exact xsk (h := h) w x | exact xck (h := h) w x (by omega)) (by first | exact wfb w rfl ⟨by omega, by omega⟩ | exact xsb (h := h) w x ⟨by omega, by omega⟩) (xsc (h := h) w x (by omega)) ?_
    refine st_getI (q := 25) 5 0 dX11_third_22 fl_X11_219 (by decide) (by decide) rfl rfl (by first | exact wfk w rfl | exact xsk (h := h) w x | exact xck (h := h) w x (by omega)) ?_
    have hlt : s < y.1 := by omega
    have o2 := (o.2 s hlt).1
    refine j_top ((ySh y s : Nat) : Int) (x.2.2.2.2 s hlt).1 ?_
    rw [show y.1 - s = (y.1 - (s + 1)) + 1 by omega] at he
    refine iS1i (q := 28) dX11_third_25 rfl ml_X11_157 ms_J6_bitCount_0f7a4 (Nat.le_of_ble_eq_true rfl) ?_
    refine c_bitCount (by omega) ?_
    refine st_iconst (q := 29) dX11_third_28 ⟨by decide, by decide⟩ rfl ?_
    refine st_icmp_le (q := 32) (tgt := 34) dX11_third_29 (by decide) rfl (fun c29 => ?_) (fun c29 => ?_)
    · first | refine n_iinc (q := 37) dX11_third_34 rfl (by decide) rfl ⟨by omega, by omega⟩ ?_ | refine st_iinc (q := 37) dX11_third_34 rfl (by decide) rfl ?_
      refine st_goto (q := 2) dX11_third_37 (by decide) ?_
      rw [yThird, if_neg (by omega)] at he
      exact lp_X11_third w x o hP (s + 1) (by omega) he
    · refine st_iload_n (q := 33) dX11_third_32 rfl rfl ?_
      refine rt_i dX11_third_33 rfl ?_
      first | (rw [yThird, if_pos (by omega)] at he; exact pq hP (by rw [← he]) rfl) | (rw [show y.1 - s = 0 by omega] at he; exact pq hP (by rw [← he]; rfl) rfl)
termination_by y.1 - s
theorem c_X11_third {d : Nat} {h : JH} {P : Int → JH → Prop} {y : SY} {b : Nat} (w : WF h) (x : SX h y b) (o : yOk y) (hP : P (yThird y y.1 0) h) : JRi (d + 1) jX11_third [vr 0] h P := by
  refine JRet.of rfl (Nat.le_of_ble_eq_true rfl) ?_
  refine st_iconst (q := 1) dX11_third_0 ⟨by decide, by decide⟩ rfl ?_
  refine st_istore_n (q := 2) (i := 1) dX11_third_1 rfl (by decide) rfl ?_
  exact lp_X11_third w x o hP 0 (by omega) rfl
theorem c_X5_isMarked {d : Nat} {h : JH} {P : Int → JH → Prop} {y : SY} {a s : Nat} (hk : kd h a = 5) (c : scX h a y s) (om : (yMf y s = -9 ∧ yMt y s = -9) ∨ (0 ≤ yMf y s ∧ yMf y s ≤ yMt y s ∧ yMt y s ≤ 999)) (hP : P (if 0 ≤ yMf y s then 1 else 0) h) : JRi d jX5_isMarked [vr a] h P := by
  have c5 := c.2.2.2.2.2.1
  refine JRet.of rfl (Nat.le_of_ble_eq_true rfl) ?_
  refine st_aload_n (q := 1) dX5_isMarked_0 rfl rfl ?_
  refine st_getI (q := 4) 5 5 dX5_isMarked_1 fl_X5_28 (by decide) (by decide) rfl rfl (hk) ?_
  refine st_bipush (q := 6) dX5_isMarked_4 ⟨by decide, by decide⟩ rfl ?_
  apply j_mg 14
  · intro K1 K2
    refine st_icmp_eq (q := 9) (tgt := 13) dX5_isMarked_6 (by decide) rfl (fun c6 => ?_) (fun c6 => ?_)
    · refine st_iconst (q := 14) dX5_isMarked_13 ⟨by decide, by decide⟩ rfl ?_
      exact K1 c6
    · refine st_iconst (q := 10) dX5_isMarked_9 ⟨by decide, by decide⟩ rfl ?_
      refine st_goto (q := 14) dX5_isMarked_10 (by decide) ?_
      exact K2 c6
  · simp only [jif_if]
    refine rt_z dX5_isMarked_14 rfl (by (repeat' split) <;> omega) ?_
    exact pq hP (by (repeat' split) <;> omega) rfl
theorem lp_X8_marked {d : Nat} {h : JH} {P : Int → JH → Prop} {y : SY} {b : Nat} (w : WF h) (x : SX h y b) (o : yOk y) (hP : P (yMk y y.1 : Nat) h) (s : Nat) (hs : s ≤ y.1) : JAt k0 (d + 1) jX8_marked 4 [vr 13, vi (yMk y s : Nat), vi s] [] h (jqi P) := by
  have x1 := x.2.2.2.1
  have o1 := o.1
  have n1 := yMk_le y s
  have e0 : yMk y (s + 1) = yMk y s + (if 0 ≤ yMf y s then 1 else 0) := rfl
  refine st_iload_n (q := 5) dX8_marked_4 rfl rfl ?_
  refine st_aload_n (q := 6) dX8_marked_5 rfl rfl ?_
  refine st_getI (q := 9) 8 1 dX8_marked_6 fl_X8_17 (by decide) (by decide) rfl rfl (by first | exact wfk w rfl | exact xsk (h := h) w x | exact xck (h := h) w x (by omega)) ?_
  refine st_icmp_ge (q := 12) (tgt := 33) dX8_marked_9 (by decide) rfl (fun c9 => ?_) (fun c9 => ?_)
  · refine st_iload_n (q := 34) dX8_marked_33 rfl rfl ?_
    refine rt_i dX8_marked_34 rfl ?_
    exact pq hP (by rw [show s = y.1 by omega]) rfl
  · refine st_aload_n (q := 13) dX8_marked_12 rfl rfl ?_
    refine st_getR (q := 16) 8 0 dX8_marked_13 fl_X8_11 (by decide) (by decide) rfl rfl (by first | exact wfk w rfl | exact xsk (h := h) w x | exact xck (h := h) w x (by omega)) (by first | exact wfR w rfl | exact x.2.1) ?_
    refine st_iload_n (q := 17) dX8_marked_16 rfl rfl ?_
    refine st_aaload (q := 18) (t := 4) dX8_marked_17 rfl ⟨by decide, by decide⟩ (by first | exact wfk w rfl | exact xsk (h := h) w x | exact xck (h := h) w x (by omega)) (by first | exact wfb w rfl ⟨by omega, by omega⟩ | exact xsb (h := h) w x ⟨by omega, by omega⟩) (xsc (h := h) w x (by omega)) ?_
    refine iV0i (q := 21) dX8_marked_18 rfl ml_X8_34 mv_X5_isMarked (Nat.le_of_ble_eq_true rfl) (by first | exact wfk w rfl | exact xsk (h := h) w x | exact xck (h := h) w x (by omega)) ?_
    refine c_X5_isMarked (xck w x (by omega)) (x.2.2.2.2 ((s : Int)).toNat (by omega)) (o.2 s (by omega)).2.2.2.2.2.1 ?_
    rw [show ((s : Int)).toNat = s from rfl]
    refine st_if_eq (q := 24) (tgt := 27) dX8_marked_21 (by decide) rfl (fun c21 => ?_) (fun c21 => ?_)
    · first | refine n_iinc (q := 30) dX8_marked_27 rfl (by decide) rfl ⟨by omega, by omega⟩ ?_ | refine st_iinc (q := 30) dX8_marked_27 rfl (by decide) rfl ?_
      refine st_goto (q := 4) dX8_marked_30 (by decide) ?_
      have t := lp_X8_marked (d := d) w x o hP (s + 1) (by omega)
      first | (rw [if_pos (by omega)] at e0; rw [e0] at t; exact t) | (rw [if_neg (by omega), Nat.add_zero] at e0; rw [e0] at t; exact t)
    · first | refine n_iinc (q := 27) dX8_marked_24 rfl (by decide) rfl ⟨by omega, by omega⟩ ?_ | refine st_iinc (q := 27) dX8_marked_24 rfl (by decide) rfl ?_
      first | refine n_iinc (q := 30) dX8_marked_27 rfl (by decide) rfl ⟨by omega, by omega⟩ ?_ | refine st_iinc (q := 30) dX8_marked_27 rfl (by decide) rfl ?_
      refine st_goto (q := 4) dX8_marked_30 (by decide) ?_
      have t := lp_X8_marked (d := d) w x o hP (s + 1) (by omega)
      first | (rw [if_pos (by omega)] at e0; rw [e0] at t; exact t) | (rw [if_neg (by omega), Nat.add_zero] at e0; rw [e0] at t; exact t)
termination_by y.1 - s
theorem c_X8_marked {d : Nat} {h : JH} {P : Int → JH → Prop} {y : SY} {b : Nat} (w : WF h) (x : SX h y b) (o : yOk y) (hP : P (yMk y y.1 : Nat) h) : JRi (d + 1) jX8_marked [vr 13] h P := by
  refine JRet.of rfl (Nat.le_of_ble_eq_true rfl) ?_
  refine st_iconst (q := 1) dX8_marked_0 ⟨by decide, by decide⟩ rfl ?_
  refine st_istore_n (q := 2) (i := 1) dX8_marked_1 rfl (by decide) rfl ?_
  refine st_iconst (q := 3) dX8_marked_2 ⟨by decide, by decide⟩ rfl ?_
  refine st_istore_n (q := 4) (i := 2) dX8_marked_3 rfl (by decide) rfl ?_
  exact lp_X8_marked w x o hP 0 (by omega)
theorem scX_s {h : JH} {y y' : SY} {a s t k : Nat} {v : Int} (c : scX h a y s) (hy : y'.2 s = y.2 s) (ht : t ≠ a) : scX (sI h t k v) a y' s := by
  unfold scX ySh yHd yLe yMo yKp yMf yMt yNd at *
  rw [hy, sI_o _ (Ne.symm ht), sI_o _ (Ne.symm ht), sI_o _ (Ne.symm ht), sI_o _ (Ne.symm ht), sI_o _ (Ne.symm ht), sI_o _ (Ne.symm ht), sI_o _ (Ne.symm ht), sI_o _ (Ne.symm ht)]
  exact c
theorem yMark_sx {h : JH} {y : SY} {b s : Nat} {a c : Int} (x : SX h y b) (hs : s < y.1) : SX (sI (sI h (16 + 2 * s + b) 5 a) (16 + 2 * s + b) 6 c) (yMark y s a c) b := by
  refine ⟨x.1, x.2.1, x.2.2.1, ?_, fun t ht => ?_⟩
  · have := x.1
    rw [sI_o _ (by omega), sI_o _ (by omega)]
    exact x.2.2.2.1
  · have cx := x.2.2.2.2 t ht
    by_cases e : t = s
    · subst e
      have e1 : (yMark y t a c).2 t = (ySh y t, yHd y t, yLe y t, yMo y t, yKp y t, a, c, yNd y t) := if_pos rfl
      unfold scX ySh yHd yLe yMo yKp yMf yMt yNd at *
      rw [e1, sI_k _ (by decide), sI_k _ (by decide), sI_k _ (by decide), sI_k _ (by decide), sI_k _ (by decide), sI_k _ (by decide), sI_k _ (by decide), sI_k _ (by decide), sI_k _ (by decide), sI_k _ (by decide), sI_k _ (by decide), sI_s, sI_s, sI_k _ (by decide), sI_k _ (by decide)]
      exact ⟨cx.1, cx.2.1, cx.2.2.1, cx.2.2.2.1, cx.2.2.2.2.1, rfl, rfl, cx.2.2.2.2.2.2.2⟩
    · have e1 : (yMark y s a c).2 t = y.2 t := if_neg e
      exact scX_s (y := y) (scX_s (y := y) (y' := y) cx rfl (by omega)) e1 (by omega)
theorem c_X11_markScene {d : Nat} {h : JH} {P : Int → JH → Prop} {y : SY} {b : Nat} {s a c : Int} (w : WF h) (x : SX h y b) (o : yOk y) (h1 : ¬ ((0 ≤ s ∧ s < y.1) ∧ (0 ≤ a ∧ a ≤ c ∧ c ≤ 999)) → P (-1) h) (h2 : (0 ≤ s ∧ s < y.1) ∧ (0 ≤ a ∧ a ≤ c ∧ c ≤ 999) → yMf y s.toNat < 0 → 4 ≤ yMk y y.1 → P (-2) h) (h3 : (0 ≤ s ∧ s < y.1) ∧ (0 ≤ a ∧ a ≤ c ∧ c ≤ 999) → ¬ (yMf y s.toNat < 0 ∧ 4 ≤ yMk y y.1) → P (yMk (yMark y s.toNat a c) y.1 : Nat) (sI (sI h (16 + 2 * s.toNat + b) 5 a) (16 + 2 * s.toNat + b) 6 c)) : JRi (d + 2) jX11_markScene [vr 0, vi s, vi a, vi c] h P := by
  have o1 := o.1
  refine JRet.of rfl (Nat.le_of_ble_eq_true rfl) ?_
  refine st_aload_n (q := 1) dX11_markScene_0 rfl rfl ?_
  refine st_getR (q := 4) 11 3 dX11_markScene_1 fl_X11_28 (by decide) (by decide) rfl rfl (by first | exact wfk w rfl | exact xsk (h := h) w x | exact xck (h := h) w x (by omega)) (by first | exact wfR w rfl | exact x.2.1) ?_
  refine st_iload_n (q := 5) dX11_markScene_4 rfl rfl ?_
  refine iV1i (q := 8) dX11_markScene_5 rfl ml_X11_204 mv_X8_has (Nat.le_of_ble_eq_true rfl) (by first | exact wfk w rfl | exact xsk (h := h) w x | exact xck (h := h) w x (by omega)) ?_
  refine c_X8_has w x ?_
  refine st_if_eq (q := 11) (tgt := 38) dX11_markScene_8 (by decide) rfl (fun c8 => ?_) (fun c8 => ?_)
  · refine st_iconst (q := 39) dX11_markScene_38 ⟨by decide, by decide⟩ rfl ?_
    refine rt_i dX11_markScene_39 rfl ?_
    first | exact h1 (by omega) | exact h2 (by omega) (by omega) (by omega) | exact h3 (by omega) (by omega)
  · refine st_iload_n (q := 12) dX11_markScene_11 rfl rfl ?_
    refine st_iload_n (q := 13) dX11_markScene_12 rfl rfl ?_
    refine st_icmp_gt (q := 16) (tgt := 38) dX11_markScene_13 (by decide) rfl (fun c13 => ?_) (fun c13 => ?_)
    · refine st_iconst (q := 39) dX11_markScene_38 ⟨by decide, by decide⟩ rfl ?_
      refine rt_i dX11_markScene_39 rfl ?_
      first | exact h1 (by omega) | exact h2 (by omega) (by omega) (by omega) | exact h3 (by omega) (by omega)
    · refine st_iload_n (q := 17) dX11_markScene_16 rfl rfl ?_
      refine st_iconst (q := 18) dX11_markScene_17 ⟨by decide, by decide⟩ rfl ?_
      refine st_sipush (q := 21) dX11_markScene_18 ⟨by decide, by decide⟩ rfl ?_
      refine iS3i (q := 24) dX11_markScene_21 rfl ml_X11_142 ms_X11_isWithin (Nat.le_of_ble_eq_true rfl) ?_
      refine c_X11_isWithin ?_
      refine st_if_eq (q := 27) (tgt := 38) dX11_markScene_24 (by decide) rfl (fun c24 => ?_) (fun c24 => ?_)
      · refine st_iconst (q := 39) dX11_markScene_38 ⟨by decide, by decide⟩ rfl ?_
        refine rt_i dX11_markScene_39 rfl ?_
        first | exact h1 (by omega) | exact h2 (by omega) (by omega) (by omega) | exact h3 (by omega) (by omega)
      · refine st_iload_n (q := 28) dX11_markScene_27 rfl rfl ?_
        refine st_iconst (q := 29) dX11_markScene_28 ⟨by decide, by decide⟩ rfl ?_
        refine st_sipush (q := 32) dX11_markScene_29 ⟨by decide, by decide⟩ rfl ?_
        refine iS3i (q := 35) dX11_markScene_32 rfl ml_X11_142 ms_X11_isWithin (Nat.le_of_ble_eq_true rfl) ?_
        refine c_X11_isWithin ?_
        refine st_if_ne (q := 38) (tgt := 40) dX11_markScene_35 (by decide) rfl (fun c35 => ?_) (fun c35 => ?_)
        · refine st_aload_n (q := 41) dX11_markScene_40 rfl rfl ?_
          refine st_getR (q := 44) 11 3 dX11_markScene_41 fl_X11_28 (by decide) (by decide) rfl rfl (by first | exact wfk w rfl | exact xsk (h := h) w x | exact xck (h := h) w x (by omega)) (by first | exact wfR w rfl | exact x.2.1) ?_
          refine st_getR (q := 47) 8 0 dX11_markScene_44 fl_X11_208 (by decide) (by decide) rfl rfl (by first | exact wfk w rfl | exact xsk (h := h) w x | exact xck (h := h) w x (by omega)) (by first | exact wfR w rfl | exact x.2.1) ?_
          refine st_iload_n (q := 48) dX11_markScene_47 rfl rfl ?_
          refine st_aaload (q := 49) (t := 4) dX11_markScene_48 rfl ⟨by decide, by decide⟩ (by first | exact wfk w rfl | exact xsk (h := h) w x | exact xck (h := h) w x (by omega)) (by first | exact wfb w rfl ⟨by omega, by omega⟩ | exact xsb (h := h) w x ⟨by omega, by omega⟩) (xsc (h := h) w x (by omega)) ?_
          refine iV0i (q := 52) dX11_markScene_49 rfl ml_X11_247 mv_X5_isMarked (Nat.le_of_ble_eq_true rfl) (by first | exact wfk w rfl | exact xsk (h := h) w x | exact xck (h := h) w x (by omega)) ?_
          refine c_X5_isMarked (xck w x (by omega)) (x.2.2.2.2 s.toNat (by omega)) (o.2 s.toNat (by omega)).2.2.2.2.2.1 ?_
          refine st_if_ne (q := 55) (tgt := 69) dX11_markScene_52 (by decide) rfl (fun c52 => ?_) (fun c52 => ?_)
          · refine st_aload_n (q := 70) dX11_markScene_69 rfl rfl ?_
            refine st_getR (q := 73) 11 3 dX11_markScene_70 fl_X11_28 (by decide) (by decide) rfl rfl (by first | exact wfk w rfl | exact xsk (h := h) w x | exact xck (h := h) w x (by omega)) (by first | exact wfR w rfl | exact x.2.1) ?_
            refine st_getR (q := 76) 8 0 dX11_markScene_73 fl_X11_208 (by decide) (by decide) rfl rfl (by first | exact wfk w rfl | exact xsk (h := h) w x | exact xck (h := h) w x (by omega)) (by first | exact wfR w rfl | exact x.2.1) ?_
            refine st_iload_n (q := 77) dX11_markScene_76 rfl rfl ?_
            refine st_aaload (q := 78) (t := 4) dX11_markScene_77 rfl ⟨by decide, by decide⟩ (by first | exact wfk w rfl | exact xsk (h := h) w x | exact xck (h := h) w x (by omega)) (by first | exact wfb w rfl ⟨by omega, by omega⟩ | exact xsb (h := h) w x ⟨by omega, by omega⟩) (xsc (h := h) w x (by omega)) ?_
            refine st_iload_n (q := 79) dX11_markScene_78 rfl rfl ?_
            refine st_putI (q := 82) 5 5 dX11_markScene_79 fl_X11_253 (by decide) (by decide) (Or.inl rfl) rfl (Or.inl rfl) (by first | exact wfk w rfl | exact xsk (h := h) w x | exact xck (h := h) w x (by omega)) ?_
            refine st_aload_n (q := 83) dX11_markScene_82 rfl rfl ?_
            refine st_getR (q := 86) 11 3 dX11_markScene_83 fl_X11_28 (by decide) (by decide) rfl rfl (by first | exact wfk w rfl | exact xsk (h := h) w x | exact xck (h := h) w x (by omega)) (by first | exact wfR w rfl | exact x.2.1) ?_
            refine st_getR (q := 89) 8 0 dX11_markScene_86 fl_X11_208 (by decide) (by decide) rfl rfl (by first | exact wfk w rfl | exact xsk (h := h) w x | exact xck (h := h) w x (by omega)) (by first | exact wfR w rfl | exact x.2.1) ?_
            refine st_iload_n (q := 90) dX11_markScene_89 rfl rfl ?_
            refine st_aaload (q := 91) (t := 4) dX11_markScene_90 rfl ⟨by decide, by decide⟩ (by first | exact wfk w rfl | exact xsk (h := h) w x | exact xck (h := h) w x (by omega)) (by first | exact wfb w rfl ⟨by omega, by omega⟩ | exact xsb (h := h) w x ⟨by omega, by omega⟩) (xsc (h := h) w x (by omega)) ?_
            refine st_iload_n (q := 92) dX11_markScene_91 rfl rfl ?_
            refine st_putI (q := 95) 5 6 dX11_markScene_92 fl_X11_256 (by decide) (by decide) (Or.inl rfl) rfl (Or.inl rfl) (by first | exact wfk w rfl | exact xsk (h := h) w x | exact xck (h := h) w x (by omega)) ?_
            refine st_aload_n (q := 96) dX11_markScene_95 rfl rfl ?_
            refine st_getR (q := 99) 11 3 dX11_markScene_96 fl_X11_28 (by decide) (by decide) rfl rfl (by first | exact wfk w rfl | exact xsk (h := h) w x | exact xck (h := h) w x (by omega)) (by first | exact wfR w rfl | exact x.2.1) ?_
            refine iV0i (q := 102) dX11_markScene_99 rfl ml_X11_250 mv_X8_marked (Nat.le_of_ble_eq_true rfl) (by first | exact wfk w rfl | exact xsk (h := h) w x | exact xck (h := h) w x (by omega)) ?_
            refine c_X8_marked (y := yMark y s.toNat a c) (b := b) w (yMark_sx x (by omega)) (yMark_ok o (by omega)) ?_
            refine rt_i dX11_markScene_102 rfl ?_
            first | exact h1 (by omega) | exact h2 (by omega) (by omega) (by omega) | exact h3 (by omega) (by omega)
          · refine st_aload_n (q := 56) dX11_markScene_55 rfl rfl ?_
            refine st_getR (q := 59) 11 3 dX11_markScene_56 fl_X11_28 (by decide) (by decide) rfl rfl (by first | exact wfk w rfl | exact xsk (h := h) w x | exact xck (h := h) w x (by omega)) (by first | exact wfR w rfl | exact x.2.1) ?_
            refine iV0i (q := 62) dX11_markScene_59 rfl ml_X11_250 mv_X8_marked (Nat.le_of_ble_eq_true rfl) (by first | exact wfk w rfl | exact xsk (h := h) w x | exact xck (h := h) w x (by omega)) ?_
            refine c_X8_marked w x o ?_
            refine st_iconst (q := 63) dX11_markScene_62 ⟨by decide, by decide⟩ rfl ?_
            refine st_icmp_lt (q := 66) (tgt := 69) dX11_markScene_63 (by decide) rfl (fun c63 => ?_) (fun c63 => ?_)
            · refine st_aload_n (q := 70) dX11_markScene_69 rfl rfl ?_
              refine st_getR (q := 73) 11 3 dX11_markScene_70 fl_X11_28 (by decide) (by decide) rfl rfl (by first | exact wfk w rfl | exact xsk (h := h) w x | exact xck (h := h) w x (by omega)) (by first | exact wfR w rfl | exact x.2.1) ?_
              refine st_getR (q := 76) 8 0 dX11_markScene_73 fl_X11_208 (by decide) (by decide) rfl rfl (by first | exact wfk w rfl | exact xsk (h := h) w x | exact xck (h := h) w x (by omega)) (by first | exact wfR w rfl | exact x.2.1) ?_
              refine st_iload_n (q := 77) dX11_markScene_76 rfl rfl ?_
              refine st_aaload (q := 78) (t := 4) dX11_markScene_77 rfl ⟨by decide, by decide⟩ (by first | exact wfk w rfl | exact xsk (h := h) w x | exact xck (h := h) w x (by omega)) (by first | exact wfb w rfl ⟨by omega, by omega⟩ | exact xsb (h := h) w x ⟨by omega, by omega⟩) (xsc (h := h) w x (by omega)) ?_
              refine st_iload_n (q := 79) dX11_markScene_78 rfl rfl ?_
              refine st_putI (q := 82) 5 5 dX11_markScene_79 fl_X11_253 (by decide) (by decide) (Or.inl rfl) rfl (Or.inl rfl) (by first | exact wfk w rfl | exact xsk (h := h) w x | exact xck (h := h) w x (by omega)) ?_
              refine st_aload_n (q := 83) dX11_markScene_82 rfl rfl ?_
              refine st_getR (q := 86) 11 3 dX11_markScene_83 fl_X11_28 (by decide) (by decide) rfl rfl (by first | exact wfk w rfl | exact xsk (h := h) w x | exact xck (h := h) w x (by omega)) (by first | exact wfR w rfl | exact x.2.1) ?_
              refine st_getR (q := 89) 8 0 dX11_markScene_86 fl_X11_208 (by decide) (by decide) rfl rfl (by first | exact wfk w rfl | exact xsk (h := h) w x | exact xck (h := h) w x (by omega)) (by first | exact wfR w rfl | exact x.2.1) ?_
              refine st_iload_n (q := 90) dX11_markScene_89 rfl rfl ?_
              refine st_aaload (q := 91) (t := 4) dX11_markScene_90 rfl ⟨by decide, by decide⟩ (by first | exact wfk w rfl | exact xsk (h := h) w x | exact xck (h := h) w x (by omega)) (by first | exact wfb w rfl ⟨by omega, by omega⟩ | exact xsb (h := h) w x ⟨by omega, by omega⟩) (xsc (h := h) w x (by omega)) ?_
              refine st_iload_n (q := 92) dX11_markScene_91 rfl rfl ?_
              refine st_putI (q := 95) 5 6 dX11_markScene_92 fl_X11_256 (by decide) (by decide) (Or.inl rfl) rfl (Or.inl rfl) (by first | exact wfk w rfl | exact xsk (h := h) w x | exact xck (h := h) w x (by omega)) ?_
              refine st_aload_n (q := 96) dX11_markScene_95 rfl rfl ?_
              refine st_getR (q := 99) 11 3 dX11_markScene_96 fl_X11_28 (by decide) (by decide) rfl rfl (by first | exact wfk w rfl | exact xsk (h := h) w x | exact xck (h := h) w x (by omega)) (by first | exact wfR w rfl | exact x.2.1) ?_
              refine iV0i (q := 102) dX11_markScene_99 rfl ml_X11_250 mv_X8_marked (Nat.le_of_ble_eq_true rfl) (by first | exact wfk w rfl | exact xsk (h := h) w x | exact xck (h := h) w x (by omega)) ?_
              refine c_X8_marked (y := yMark y s.toNat a c) (b := b) w (yMark_sx x (by omega)) (yMark_ok o (by omega)) ?_
              refine rt_i dX11_markScene_102 rfl ?_
              first | exact h1 (by omega) | exact h2 (by omega) (by omega) (by omega) | exact h3 (by omega) (by omega)
            · refine st_bipush (q := 68) dX11_markScene_66 ⟨by decide, by decide⟩ rfl ?_
              refine rt_i dX11_markScene_68 rfl ?_
              first | exact h1 (by omega) | exact h2 (by omega) (by omega) (by omega) | exact h3 (by omega) (by omega)
        · refine st_iconst (q := 39) dX11_markScene_38 ⟨by decide, by decide⟩ rfl ?_
          refine rt_i dX11_markScene_39 rfl ?_
          first | exact h1 (by omega) | exact h2 (by omega) (by omega) (by omega) | exact h3 (by omega) (by omega)
theorem yMk_mark {y : SY} {s : Nat} {a c : Int} : ∀ n, yMk (yMark y s a c) n ≤ yMk y n + (if s < n ∧ yMf y s < 0 then 1 else 0)
  | 0 => Nat.zero_le _
  | n + 1 => by
    have ih := yMk_mark (y := y) (s := s) (a := a) (c := c) n
    have e0 : yMk y (n + 1) = yMk y n + (if 0 ≤ yMf y n then 1 else 0) := rfl
    have e1 : yMk (yMark y s a c) (n + 1) = yMk (yMark y s a c) n + (if 0 ≤ yMf (yMark y s a c) n then 1 else 0) := rfl
    rw [e0, e1]
    by_cases e : n = s
    · subst e
      rw [if_neg (by omega)] at ih
      have f1 : (if 0 ≤ yMf (yMark y n a c) n then 1 else 0 : Nat) ≤ 1 := by split <;> omega
      by_cases z : yMf y n < 0
      · rw [show (if n < n + 1 ∧ yMf y n < 0 then 1 else 0 : Nat) = 1 from if_pos ⟨by omega, z⟩]
        omega
      · rw [show (if n < n + 1 ∧ yMf y n < 0 then 1 else 0 : Nat) = 0 from if_neg (fun t => z t.2), show (if 0 ≤ yMf y n then 1 else 0 : Nat) = 1 from if_pos (by omega)]
        omega
    · have e2 : yMf (yMark y s a c) n = yMf y n := by unfold yMf yMark; simp only [if_neg e]
      rw [e2]
      have e3 : (if s < n + 1 ∧ yMf y s < 0 then 1 else 0) = (if s < n ∧ yMf y s < 0 then 1 else 0 : Nat) := by
        by_cases z : s < n ∧ yMf y s < 0
        · rw [if_pos z, if_pos ⟨by omega, z.2⟩]
        · rw [if_neg z, if_neg (fun t => z ⟨by omega, t.2⟩)]
      rw [e3]
      omega
theorem ry1 {s b : Nat} (hs : s < 12) (hb : b ≤ 1) (k : Nat) : rgSy (16 + 2 * s + b) k := by unfold rgSy; omega
theorem ry2 (k : Nat) : rgSy 137 k := by unfold rgSy; omega
theorem ry3 (k : Nat) : rgSy 138 k := by unfold rgSy; omega
theorem ry4 (k : Nat) : rgSy 139 k := by unfold rgSy; omega
theorem sy_tl : ∀ a k, rgTl a k → ¬ rgSy a k := by intro a k z; simp only [rgTl, rgSy] at z ⊢; omega
theorem SM_x {h : JH} {y : SY} {a k : Nat} {v : Int} (m : SM h y) (ha : a < 117) : SM (sI h a k v) y := by
  refine ⟨(sI_o _ (by omega)).trans m.1, fun s hs => ?_⟩
  have m2 := m.2 s hs
  rw [sI_o _ (by omega), sI_o _ (by omega), sI_o _ (by omega), sI_o _ (by omega), sI_o _ (by omega), sI_o _ (by omega), sI_o _ (by omega), sI_o _ (by omega)]
  exact m2
theorem SX_x {h : JH} {y : SY} {b a k : Nat} {v : Int} (x : SX h y b) (o : yOk y) (ha : 117 ≤ a) : SX (sI h a k v) y b := by
  have o1 := o.1
  have b1 := x.1
  refine ⟨x.1, x.2.1, x.2.2.1, (sI_o _ (by omega)).trans x.2.2.2.1, fun s hs => ?_⟩
  exact scX_s (y := y) (x.2.2.2.2 s hs) rfl (by omega)
theorem pr_scene {d : Nat} {h : JH} {s what : Int} (I : Inv h) : Two (d + 4) jX11_scene jX12_scene [vi s, vi what] h := by
  have w := I.1
  obtain ⟨y, b, o, m, x⟩ := I.2.2.2.2.2.1
  refine c_X11_scene w x o.1 (fun q => ?_) (fun q => ?_)
  · exact c_X12_scene w m o.1 (fun _ => ⟨rfl, I⟩) (fun z => absurd z q)
  · exact c_X12_scene (h := sI h 0 11 (ytell y s.toNat what)) w (SM_x m (by decide)) o.1 (fun z => absurd q z) (fun _ => ⟨rfl, inv_ask I _⟩)
theorem pr_third {d : Nat} {h : JH} (I : Inv h) : Two (d + 4) jX11_third jX12_third [] h := by
  obtain ⟨y, b, o, m, x⟩ := I.2.2.2.2.2.1
  exact c_X11_third I.1 x o.1 (c_X12_third I.1 m o.1 ⟨rfl, I⟩)
theorem pr_markScene {d : Nat} {h : JH} {s a c : Int} (I : Inv h) : Two (d + 4) jX11_markScene jX12_markScene [vi s, vi a, vi c] h := by
  have w := I.1
  obtain ⟨y, b, ⟨o, o4⟩, m, x⟩ := I.2.2.2.2.2.1
  have o1 := o.1
  refine c_X11_markScene w x o (fun q => ?_) (fun q q1 q2 => ?_) (fun q q1 => ?_)
  · exact c_X12_markScene w m o (fun _ => ⟨rfl, I⟩) (fun z _ _ => absurd z q) (fun z _ => absurd z q)
  · exact c_X12_markScene w m o (fun z => absurd q z) (fun _ _ _ => ⟨rfl, I⟩) (fun _ z => by exfalso; omega)
  · have hs : s.toNat < y.1 := by omega
    have m1 : SM (sI (sI h (16 + 2 * s.toNat + b) 5 a) (16 + 2 * s.toNat + b) 6 c) y := SM_x (SM_x m (by have := x.1; omega)) (by have := x.1; omega)
    refine c_X12_markScene (h := sI (sI h (16 + 2 * s.toNat + b) 5 a) (16 + 2 * s.toNat + b) 6 c) w m1 o (fun z => absurd q z) (fun _ _ _ => by exfalso; omega) (fun _ _ => ⟨rfl, ?_⟩)
    have f : Fq rgSy h (sI (sI (sI (sI h (16 + 2 * s.toNat + b) 5 a) (16 + 2 * s.toNat + b) 6 c) 137 s.toNat a) 138 s.toNat c) := (((Fq.rf.sI _ (ry1 (by omega) x.1 _)).sI _ (ry1 (by omega) x.1 _)).sI _ (ry2 _)).sI _ (ry3 _)
    have k4 := yMk_mark (y := y) (s := s.toNat) (a := a) (c := c) y.1
    have ok2 : yOk (yMark y s.toNat a c) := yMark_ok o (by omega)
    refine inv_sy I (f.up (fun _ _ z => Or.inl z)) ⟨yMark y s.toNat a c, b, ⟨ok2, ?_⟩, yMark_sm m1, SX_x (SX_x (yMark_sx x hs) ok2 (by decide)) ok2 (by decide)⟩ (I.2.2.2.2.2.2.2.2.1.fr f sy_tl)
    show yMk (yMark y s.toNat a c) y.1 ≤ 4
    by_cases z : yMf y s.toNat < 0
    · rw [if_pos ⟨hs, z⟩] at k4; omega
    · rw [if_neg (fun t => z t.2)] at k4; omega

