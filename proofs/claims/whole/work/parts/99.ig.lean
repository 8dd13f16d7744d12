/-! the constructors: the class itself, its walk -/
theorem lp_X11_b {d : Nat} {h : JH} {P : JH → Prop} (hP : ∀ h', Tk 117 h' → RF (FS 6 4) h' → GI 117 h' → (∀ k, hJ h' 0 k = hJ h 0 k) → P h') (i : Nat) (hi : i ≤ 4) : ∀ h', Tk (109 + 2 * i) h' → RF (FS 6 i) h' → GI (109 + 2 * i) h' → (∀ k, hJ h' 0 k = hJ h 0 k) → JAt (116, 3186, 108 + 2 * i, 2938 + 62 * i) (d + 3) jX11_init 158 [vr 0, vi i] [] h' (jqv P) := by
  intro h' t r g j
  have k0 : kd h' 0 = 11 := t.kd (by omega) (by decide +kernel)
  have k1 : kd h' 2 = 22 := t.kd (by omega) (by decide +kernel)
  have l1 : ln h' 2 = 4 := t.ln (by omega) (by decide +kernel)
  have r1 : hR h' 0 1 = some 2 := ((r 0 1).1 (Or.inl (Or.inl ⟨rfl, by decide⟩))).trans r0_x.2.1
  have nx : i < 4 → JAt (116, 3186, 108 + 2 * i + 1 + 1, 2938 + 62 * i + 2 + 60) (d + 3) jX11_init 179 [vr 0, vi i] [vr (109 + 2 * i), vi i, vr 2] (spI h' (109 + 2 * i)) (jqv P) := by
    intro i6
    have ex := ex_9 (s := 6 + i) (F := FS 6 i) (by omega) (fun x y q => by unfold FS FG; omega) (by rw [show 97 + 2 * (6 + i) = 109 + 2 * i by omega]; exact t) r (by rw [show 97 + 2 * (6 + i) = 109 + 2 * i by omega]; exact g)
    rw [show 97 + 2 * (6 + i) = 109 + 2 * i by omega, show 99 + 2 * (6 + i) = 111 + 2 * i by omega] at ex
    obtain ⟨t2, r2, g2, j2⟩ := ex
    generalize spI h' (109 + 2 * i) = H at *
    have q4 := t2.kd (a := 2) (c := 22) (by omega) (by decide +kernel)
    have q5 : kd H (109 + 2 * i) = 9 := by
      refine t2.kd (by omega) ?_
      have := (sh_strip (6 + i) (by omega)).1
      rw [show 97 + 2 * (6 + i) = 109 + 2 * i by omega] at this
      rw [this]
    have m4 := t2.ln (a := 2) (c := 4) (by omega) (by decide +kernel)
    have r3 : RF (FS 6 (i + 1)) (sR H 2 i (some (109 + 2 * i))) := (r2.sR (sh_texts i i6)).up (fun x y => by unfold FS FG; omega)
    have t3 : Tk (109 + 2 * (i + 1)) (sR H 2 i (some (109 + 2 * i))) := by rw [show 109 + 2 * (i + 1) = 111 + 2 * i by omega]; exact t2
    have g3 : GI (109 + 2 * (i + 1)) (sR H 2 i (some (109 + 2 * i))) := by rw [show 109 + 2 * (i + 1) = 111 + 2 * i by omega]; exact g2
    have j3 : ∀ k, hJ (sR H 2 i (some (109 + 2 * i))) 0 k = hJ h 0 k := fun k => (j2 k).trans (j k)
    refine st_aastore (q := 180) (t := 2) dX11_init_179 rfl ⟨by decide, by decide⟩ (q4) (q5) (⟨by omega, by rw [m4]; omega⟩) ?_
    first | refine n_iinc (q := 183) dX11_init_180 rfl (by decide) rfl ⟨by omega, by omega⟩ ?_ | refine st_iinc (q := 183) dX11_init_180 rfl (by decide) rfl ?_
    refine st_goto (q := 158) dX11_init_183 (by decide) ?_
    refine j_kap (kap_e (c' := 108 + 2 * (i + 1)) (e' := 2938 + 62 * (i + 1)) (by omega) (by omega)) ?_
    exact lp_X11_b hP (i + 1) (by omega) _ t3 r3 g3 j3
  refine st_iload_n (q := 159) dX11_init_158 rfl rfl ?_
  refine st_aload_n (q := 160) dX11_init_159 rfl rfl ?_
  refine st_getR (q := 163) 11 1 dX11_init_160 fl_X11_15 (by decide) (by decide) rfl rfl (by first | exact k0 | exact k1) (r1) ?_
  refine st_arraylength (q := 164) (t := 2) dX11_init_163 rfl (by decide) (by first | exact k0 | exact k1) ?_
  rw [l1]
  refine st_icmp_ge (q := 167) (tgt := 186) dX11_init_164 (by decide) rfl (fun c164 => ?_) (fun c164 => ?_)
  · refine st_return dX11_init_186 rfl ⟨by show 108 + 2 * i ≤ 116; omega, by show 2938 + 62 * i ≤ 3186; omega⟩ ⟨rfl, ?_⟩
    have e : i = 4 := by omega
    subst e
    exact hP _ t r g j
  · refine st_aload_n (q := 168) dX11_init_167 rfl rfl ?_
    refine st_getR (q := 171) 11 1 dX11_init_168 fl_X11_15 (by decide) (by decide) rfl rfl (by first | exact k0 | exact k1) (r1) ?_
    refine st_iload_n (q := 172) dX11_init_171 rfl rfl ?_
    refine st_new 9 (q := 175) dX11_init_172 rfl (by decide) cl_X11_9 ib_X9 in_X9 ⟨by omega, by show 2938 + 62 * i + 2 ≤ 3186; omega⟩ ?_
    have i6 : i < 4 := (by omega)
    have sh := sh_strip (6 + i) (by omega)
    rw [show 97 + 2 * (6 + i) = 109 + 2 * i by omega, show 98 + 2 * (6 + i) = 109 + 2 * i + 1 by omega] at sh
    have tn9 : Tk (109 + 2 * i + 1) (nw h' 9 2) := Tk_nw t (by omega) sh.1
    refine j_topr (109 + 2 * i) t.len ?_
    refine st_dup (q := 176) dX11_init_175 rfl rfl ?_
    refine iI0 (mc' := 1) (ms' := 60) (q := 179) dX11_init_176 rfl (Or.inr ⟨_, mn_X11_85⟩) mi_X9_init (Nat.le_of_ble_eq_true rfl) ⟨by omega, by show 2938 + 62 * i + 2 + 60 ≤ 3186; omega⟩ ?_
    refine c_X9_init tn9 (by omega) (by omega) (by rw [sh.1]) sh.2.1 ?_
    exact nx i6
termination_by 4 - i
theorem lp_X11_a {d : Nat} {h : JH} {P : JH → Prop} (hP : ∀ h', Tk 117 h' → RF (FS 6 4) h' → GI 117 h' → (∀ k, hJ h' 0 k = hJ h 0 k) → P h') (i : Nat) (hi : i ≤ 6) : ∀ h', Tk (97 + 2 * i) h' → RF (FS i 0) h' → GI (97 + 2 * i) h' → (∀ k, hJ h' 0 k = hJ h 0 k) → JAt (116, 3186, 96 + 2 * i, 2566 + 62 * i) (d + 3) jX11_init 128 [vr 0, vi i] [] h' (jqv P) := by
  intro h' t r g j
  have k0 : kd h' 0 = 11 := t.kd (by omega) (by decide +kernel)
  have k1 : kd h' 1 = 22 := t.kd (by omega) (by decide +kernel)
  have l1 : ln h' 1 = 6 := t.ln (by omega) (by decide +kernel)
  have r1 : hR h' 0 0 = some 1 := ((r 0 0).1 (Or.inl (Or.inl ⟨rfl, by decide⟩))).trans r0_x.1
  have nx : i < 6 → JAt (116, 3186, 96 + 2 * i + 1 + 1, 2566 + 62 * i + 2 + 60) (d + 3) jX11_init 149 [vr 0, vi i] [vr (97 + 2 * i), vi i, vr 1] (spI h' (97 + 2 * i)) (jqv P) := by
    intro i6
    have sh := (sh_strip i (by omega)).1
    obtain ⟨t2, r2, g2, j2⟩ := ex_9 (s := i) (F := FS i 0) (by omega) (fun x y q => by unfold FS FG; omega) t r g
    generalize spI h' (97 + 2 * i) = H at *
    have q4 := t2.kd (a := 1) (c := 22) (by omega) (by decide +kernel)
    have q5 : kd H (97 + 2 * i) = 9 := t2.kd (by omega) (by rw [sh])
    have m4 := t2.ln (a := 1) (c := 6) (by omega) (by decide +kernel)
    have r3 : RF (FS (i + 1) 0) (sR H 1 i (some (97 + 2 * i))) := (r2.sR (sh_rows i i6)).up (fun x y => by unfold FS FG; omega)
    have t3 : Tk (97 + 2 * (i + 1)) (sR H 1 i (some (97 + 2 * i))) := by rw [show 97 + 2 * (i + 1) = 99 + 2 * i by omega]; exact t2
    have g3 : GI (97 + 2 * (i + 1)) (sR H 1 i (some (97 + 2 * i))) := by rw [show 97 + 2 * (i + 1) = 99 + 2 * i by omega]; exact g2
    have j3 : ∀ k, hJ (sR H 1 i (some (97 + 2 * i))) 0 k = hJ h 0 k := fun k => (j2 k).trans (j k)
    refine st_aastore (q := 150) (t := 2) dX11_init_149 rfl ⟨by decide, by decide⟩ (q4) (q5) (⟨by omega, by rw [m4]; omega⟩) ?_
    first | refine n_iinc (q := 153) dX11_init_150 rfl (by decide) rfl ⟨by omega, by omega⟩ ?_ | refine st_iinc (q := 153) dX11_init_150 rfl (by decide) rfl ?_
    refine st_goto (q := 128) dX11_init_153 (by decide) ?_
    refine j_kap (kap_e (c' := 96 + 2 * (i + 1)) (e' := 2566 + 62 * (i + 1)) (by omega) (by omega)) ?_
    exact lp_X11_a hP (i + 1) (by omega) _ t3 r3 g3 j3
  refine st_iload_n (q := 129) dX11_init_128 rfl rfl ?_
  refine st_aload_n (q := 130) dX11_init_129 rfl rfl ?_
  refine st_getR (q := 133) 11 0 dX11_init_130 fl_X11_11 (by decide) (by decide) rfl rfl (by first | exact k0 | exact k1) (r1) ?_
  refine st_arraylength (q := 134) (t := 2) dX11_init_133 rfl (by decide) (by first | exact k0 | exact k1) ?_
  rw [l1]
  refine st_icmp_ge (q := 137) (tgt := 156) dX11_init_134 (by decide) rfl (fun c134 => ?_) (fun c134 => ?_)
  · refine st_iconst (q := 157) dX11_init_156 ⟨by decide, by decide⟩ rfl ?_
    refine st_istore_n (q := 158) (i := 1) dX11_init_157 rfl (by decide) rfl ?_
    have e : i = 6 := by omega
    subst e
    exact lp_X11_b hP 0 (by decide) _ t r g j
  · refine st_aload_n (q := 138) dX11_init_137 rfl rfl ?_
    refine st_getR (q := 141) 11 0 dX11_init_138 fl_X11_11 (by decide) (by decide) rfl rfl (by first | exact k0 | exact k1) (r1) ?_
    refine st_iload_n (q := 142) dX11_init_141 rfl rfl ?_
    refine st_new 9 (q := 145) dX11_init_142 rfl (by decide) cl_X11_9 ib_X9 in_X9 ⟨by omega, by show 2566 + 62 * i + 2 ≤ 3186; omega⟩ ?_
    have i6 : i < 6 := (by omega)
    have sh := sh_strip i (by omega)
    rw [show 98 + 2 * i = 97 + 2 * i + 1 by omega] at sh
    have tn9 : Tk (97 + 2 * i + 1) (nw h' 9 2) := Tk_nw t (by omega) sh.1
    refine j_topr (97 + 2 * i) t.len ?_
    refine st_dup (q := 146) dX11_init_145 rfl rfl ?_
    refine iI0 (mc' := 1) (ms' := 60) (q := 149) dX11_init_146 rfl (Or.inr ⟨_, mn_X11_85⟩) mi_X9_init (Nat.le_of_ble_eq_true rfl) ⟨by omega, by show 2566 + 62 * i + 2 + 60 ≤ 3186; omega⟩ ?_
    refine c_X9_init tn9 (by omega) (by omega) (by rw [sh.1]) sh.2.1 ?_
    exact nx i6
termination_by 6 - i
theorem c_X11_init {d : Nat} {h : JH} {P : JH → Prop} (t : Tk 1 h) (r : RF (fun _ _ => False) h) (g : GI 0 h) (hP : ∀ h', Tk 117 h' → RF (FS 6 4) h' → GI 117 h' → hJ h' 0 12 = 0 → hJ h' 0 13 = 1 → P h') : JRet 116 3186 (d + 3) jX11_init [vr 0] h (jqv P) := by
  have t1 : Tk 2 (nwR h 22 6 0 0 1) := nwR_T t (by decide) (by decide +kernel)
  have r1 := nwR_F (kind := 22) (n := 6) t r (fun k => fun z => z) r0_x.1
  have g1 : GI 0 (nwR h 22 6 0 0 1) := nwR_G t g (by decide)
  have t2 : Tk 3 (nwR (nwR h 22 6 0 0 1) 22 4 0 1 2) := nwR_T t1 (by decide) (by decide +kernel)
  have r2 := nwR_F (kind := 22) (n := 4) t1 r1 (fun k z => z.elim (fun z => z) (fun z => absurd z.1 (by decide))) r0_x.2.1
  have g2 : GI 0 (nwR (nwR h 22 6 0 0 1) 22 4 0 1 2) := nwR_G t1 g1 (by decide)
  have g2 := g2.up (D' := 3) (fun a k _ _ => I0_z (by omega)) (by decide)
  have r2 : RF (FG 2 3) (nwR (nwR h 22 6 0 0 1) 22 4 0 1 2) := r2.up (fun x y => by unfold FG; show _ ↔ ((False ∨ (x = 0 ∧ y = 0)) ∨ (x = 0 ∧ y = 1)); simp only [false_or]; omega)
  have k1 := t1.kd (a := 0) (c := 11) (by decide) (by decide +kernel)
  have k2 := t2.kd (a := 0) (c := 11) (by decide) (by decide +kernel)
  have t3 : Tk 4 (nw (nwR (nwR h 22 6 0 0 1) 22 4 0 1 2) 7 4) := Tk_nw t2 (by decide) (by decide +kernel)
  have r3 : RF (FG 2 3) (nw (nwR (nwR h 22 6 0 0 1) 22 4 0 1 2) 7 4) := RF_nw r2 t2 (fun k => by unfold FG; omega)
  have g3 : GI 3 (nw (nwR (nwR h 22 6 0 0 1) 22 4 0 1 2) 7 4) := GI_nw g2 t2 (by decide)
  refine JRet.of rfl (Nat.le_of_ble_eq_true rfl) ?_
  refine st_aload_n (q := 1) dX11_init_0 rfl rfl ?_
  refine st_objInit (q := 4) dX11_init_1 rfl ml_X11_1 ob_1 ob_2 (Nat.le_of_ble_eq_true rfl) ?_
  refine st_aload_n (q := 5) dX11_init_4 rfl rfl ?_
  refine st_bipush (q := 7) dX11_init_5 ⟨by decide, by decide⟩ rfl ?_
  refine st_anewarray 2 (q := 10) dX11_init_7 rfl ⟨by decide, by decide⟩ cl_X11_9 ⟨by decide, by decide⟩ ⟨by decide, by decide⟩ ?_
  refine j_topr 1 t.len ?_
  refine st_putR (q := 13) 11 0 dX11_init_10 fl_X11_11 (by decide) (by decide) (Or.inr ⟨rfl, rfl⟩) rfl rfl (k1) ?_
  refine st_aload_n (q := 14) dX11_init_13 rfl rfl ?_
  refine st_iconst (q := 15) dX11_init_14 ⟨by decide, by decide⟩ rfl ?_
  refine st_anewarray 2 (q := 18) dX11_init_15 rfl ⟨by decide, by decide⟩ cl_X11_9 ⟨by decide, by decide⟩ ⟨by decide, by decide⟩ ?_
  refine j_topr 2 t1.len ?_
  refine st_putR (q := 21) 11 1 dX11_init_18 fl_X11_15 (by decide) (by decide) (Or.inr ⟨rfl, rfl⟩) rfl rfl (k2) ?_
  refine st_aload_n (q := 22) dX11_init_21 rfl rfl ?_
  refine st_new 7 (q := 25) dX11_init_22 rfl (by decide) cl_X11_18 ib_X7 in_X7 ⟨by decide, by decide⟩ ?_
  refine j_topr 3 t2.len ?_
  refine st_dup (q := 26) dX11_init_25 rfl rfl ?_
  refine iI0 (mc' := 9) (ms' := 40) (q := 29) dX11_init_26 rfl (Or.inl ml_X11_20) mi_X7_init (Nat.le_of_ble_eq_true rfl) ⟨by decide, by decide⟩ ?_
  refine c_X7_init t3 r3 g3 (fun x y q => by unfold FG; omega) (fun a1 ta1 ra1 ga1 _ => ?_)
  have ka1 := ta1.kd (a := 0) (c := 11) (by decide) (by decide +kernel)
  have tb1 : Tk 13 (sR a1 0 2 (some 3)) := ta1
  have rb1 := RF_x0 (fl_7 ra1) r0_x.2.2.1
  have gb1 : GI 13 (sR a1 0 2 (some 3)) := ga1
  refine st_putR (q := 32) 11 2 dX11_init_29 fl_X11_21 (by decide) (by decide) (Or.inr ⟨rfl, rfl⟩) rfl rfl (ka1) ?_
  generalize sR a1 0 2 (some 3) = b1 at *
  have tc1 : Tk 14 (nw b1 8 5) := Tk_nw tb1 (by decide) (by decide +kernel)
  have rc1 : RF (FG 3 13) (nw b1 8 5) := RF_nw rb1 tb1 (fun k => by unfold FG; omega)
  have gc1 : GI 13 (nw b1 8 5) := GI_nw gb1 tb1 (by decide)
  refine st_aload_n (q := 33) dX11_init_32 rfl rfl ?_
  refine st_new 8 (q := 36) dX11_init_33 rfl (by decide) cl_X11_25 ib_X8 in_X8 ⟨by decide, by decide⟩ ?_
  refine j_topr 13 tb1.len ?_
  refine st_dup (q := 37) dX11_init_36 rfl rfl ?_
  refine iI0 (mc' := 26) (ms' := 216) (q := 40) dX11_init_37 rfl (Or.inl ml_X11_27) mi_X8_init (Nat.le_of_ble_eq_true rfl) ⟨by decide, by decide⟩ ?_
  refine c_X8_init tc1 rc1 gc1 (fun x y q => by unfold FG; omega) (fun a2 ta2 ra2 ga2 _ => ?_)
  have ka2 := ta2.kd (a := 0) (c := 11) (by decide) (by decide +kernel)
  have tb2 : Tk 40 (sR a2 0 3 (some 13)) := ta2
  have rb2 := RF_x0 (fl_8 ra2) r0_x.2.2.2.1
  have gb2 : GI 40 (sR a2 0 3 (some 13)) := ga2
  refine st_putR (q := 43) 11 3 dX11_init_40 fl_X11_28 (by decide) (by decide) (Or.inr ⟨rfl, rfl⟩) rfl rfl (ka2) ?_
  generalize sR a2 0 3 (some 13) = b2 at *
  have tc2 : Tk 41 (nw b2 4 5) := Tk_nw tb2 (by decide) (by decide +kernel)
  obtain ⟨ta3, ra3, ga3⟩ := ex_4 tb2 rb2 gb2
  refine st_aload_n (q := 44) dX11_init_43 rfl rfl ?_
  refine st_new 4 (q := 47) dX11_init_44 rfl (by decide) cl_X11_32 ib_X4 in_X4 ⟨by decide, by decide⟩ ?_
  refine j_topr 40 tb2.len ?_
  refine st_dup (q := 48) dX11_init_47 rfl rfl ?_
  refine iI0 (mc' := 0) (ms' := 0) (q := 51) dX11_init_48 rfl (Or.inr ⟨_, mn_X11_34⟩) mi_X4_init (Nat.le_of_ble_eq_true rfl) ⟨by decide, by decide⟩ ?_
  refine c_X4_init tc2 (by decide) (by decide +kernel) ?_
  have ka3 := ta3.kd (a := 0) (c := 11) (by decide) (by decide +kernel)
  refine j_hp (sI (sI (sI (sI (sI (nw b2 4 5) 40 0 0) 40 1 0) 40 2 0) 40 3 (-9)) 40 4 0) rfl ?_
  generalize sI (sI (sI (sI (sI (nw b2 4 5) 40 0 0) 40 1 0) 40 2 0) 40 3 (-9)) 40 4 0 = a3 at *
  have tb3 : Tk 41 (sR a3 0 4 (some 40)) := ta3
  have rb3 := RF_x0 ra3 r0_x.2.2.2.2.1
  have gb3 : GI 41 (sR a3 0 4 (some 40)) := ga3
  refine st_putR (q := 54) 11 4 dX11_init_51 fl_X11_35 (by decide) (by decide) (Or.inr ⟨rfl, rfl⟩) rfl rfl (ka3) ?_
  generalize sR a3 0 4 (some 40) = b3 at *
  have tc3 : Tk 42 (nw b3 1 2) := Tk_nw tb3 (by decide) (by decide +kernel)
  have rc3 : RF (FG 5 41) (nw b3 1 2) := RF_nw rb3 tb3 (fun k => by unfold FG; omega)
  have gc3 : GI 41 (nw b3 1 2) := GI_nw gb3 tb3 (by decide)
  refine st_aload_n (q := 55) dX11_init_54 rfl rfl ?_
  refine st_new 1 (q := 58) dX11_init_55 rfl (by decide) cl_X11_39 ib_X1 in_X1 ⟨by decide, by decide⟩ ?_
  refine j_topr 41 tb3.len ?_
  refine st_dup (q := 59) dX11_init_58 rfl rfl ?_
  refine iI0 (mc' := 2) (ms' := 1458) (q := 62) dX11_init_59 rfl (Or.inl ml_X11_41) mi_X1_init (Nat.le_of_ble_eq_true rfl) ⟨by decide, by decide⟩ ?_
  refine c_X1_init tc3 rc3 gc3 (fun x y q => by unfold FG; omega) (fun a4 ta4 ra4 ga4 _ => ?_)
  have ka4 := ta4.kd (a := 0) (c := 11) (by decide) (by decide +kernel)
  have tb4 : Tk 44 (sR a4 0 5 (some 41)) := ta4
  have rb4 := RF_x0 (fl_1 ra4) r0_x.2.2.2.2.2.1
  have gb4 : GI 44 (sR a4 0 5 (some 41)) := ga4
  refine st_putR (q := 65) 11 5 dX11_init_62 fl_X11_42 (by decide) (by decide) (Or.inr ⟨rfl, rfl⟩) rfl rfl (ka4) ?_
  generalize sR a4 0 5 (some 41) = b4 at *
  have tc4 : Tk 45 (nw b4 10 4) := Tk_nw tb4 (by decide) (by decide +kernel)
  have rc4 : RF (FG 6 44) (nw b4 10 4) := RF_nw rb4 tb4 (fun k => by unfold FG; omega)
  have gc4 : GI 44 (nw b4 10 4) := GI_nw gb4 tb4 (by decide)
  obtain ⟨ta5, ra5, ga5⟩ := ex_10 tc4 rc4 gc4
  refine st_aload_n (q := 66) dX11_init_65 rfl rfl ?_
  refine st_new 10 (q := 69) dX11_init_66 rfl (by decide) cl_X11_46 ib_X10 in_X10 ⟨by decide, by decide⟩ ?_
  refine j_topr 44 tb4.len ?_
  refine st_dup (q := 70) dX11_init_69 rfl rfl ?_
  refine iI0 (mc' := 3) (ms' := 360) (q := 73) dX11_init_70 rfl (Or.inr ⟨_, mn_X11_48⟩) mi_X10_init (Nat.le_of_ble_eq_true rfl) ⟨by decide, by decide⟩ ?_
  refine c_X10_init tc4 ?_
  have ka5 := ta5.kd (a := 0) (c := 11) (by decide) (by decide +kernel)
  refine j_hp (sR (nw (sR (nw (sI (sR (nw (nw b4 10 4) 20 96) 44 0 (some 45)) 44 1 0) 20 8) 44 2 (some 46)) 20 256) 44 3 (some 47)) rfl ?_
  generalize sR (nw (sR (nw (sI (sR (nw (nw b4 10 4) 20 96) 44 0 (some 45)) 44 1 0) 20 8) 44 2 (some 46)) 20 256) 44 3 (some 47) = a5 at *
  have tb5 : Tk 48 (sR a5 0 6 (some 44)) := ta5
  have rb5 := RF_x0 ra5 r0_x.2.2.2.2.2.2.1
  have gb5 : GI 48 (sR a5 0 6 (some 44)) := ga5
  refine st_putR (q := 76) 11 6 dX11_init_73 fl_X11_49 (by decide) (by decide) (Or.inr ⟨rfl, rfl⟩) rfl rfl (ka5) ?_
  generalize sR a5 0 6 (some 44) = b5 at *
  have tc5 : Tk 49 (nw b5 6 6) := Tk_nw tb5 (by decide) (by decide +kernel)
  have rc5 : RF (FG 7 48) (nw b5 6 6) := RF_nw rb5 tb5 (fun k => by unfold FG; omega)
  have gc5 : GI 48 (nw b5 6 6) := GI_nw gb5 tb5 (by decide)
  obtain ⟨ta6, ra6, ga6⟩ := ex_6 tc5 rc5 gc5
  refine st_aload_n (q := 77) dX11_init_76 rfl rfl ?_
  refine st_new 6 (q := 80) dX11_init_77 rfl (by decide) cl_X11_53 ib_X6 in_X6 ⟨by decide, by decide⟩ ?_
  refine j_topr 48 tb5.len ?_
  refine st_dup (q := 81) dX11_init_80 rfl rfl ?_
  refine iI0 (mc' := 5) (ms' := 208) (q := 84) dX11_init_81 rfl (Or.inr ⟨_, mn_X11_55⟩) mi_X6_init (Nat.le_of_ble_eq_true rfl) ⟨by decide, by decide⟩ ?_
  refine c_X6_init tc5 ?_
  have ka6 := ta6.kd (a := 0) (c := 11) (by decide) (by decide +kernel)
  refine j_hp (sI (nwR (nwR (nwR (nwR (nwR (nw b5 6 6) 20 8 48 0 49) 20 64 48 1 50) 20 8 48 2 51) 20 64 48 3 52) 21 64 48 4 53) 48 5 0) rfl ?_
  generalize sI (nwR (nwR (nwR (nwR (nwR (nw b5 6 6) 20 8 48 0 49) 20 64 48 1 50) 20 8 48 2 51) 20 64 48 3 52) 21 64 48 4 53) 48 5 0 = a6 at *
  have tb6 : Tk 54 (sR a6 0 7 (some 48)) := ta6
  have rb6 := RF_x0 ra6 r0_x.2.2.2.2.2.2.2.1
  have gb6 : GI 54 (sR a6 0 7 (some 48)) := ga6
  refine st_putR (q := 87) 11 7 dX11_init_84 fl_X11_56 (by decide) (by decide) (Or.inr ⟨rfl, rfl⟩) rfl rfl (ka6) ?_
  generalize sR a6 0 7 (some 48) = b6 at *
  have tc6 : Tk 55 (nw b6 0 2) := Tk_nw tb6 (by decide) (by decide +kernel)
  have rc6 : RF (FG 8 54) (nw b6 0 2) := RF_nw rb6 tb6 (fun k => by unfold FG; omega)
  have gc6 : GI 54 (nw b6 0 2) := GI_nw gb6 tb6 (by decide)
  refine st_aload_n (q := 88) dX11_init_87 rfl rfl ?_
  refine st_new 0 (q := 91) dX11_init_88 rfl (by decide) cl_X11_60 ib_X0 in_X0 ⟨by decide, by decide⟩ ?_
  refine j_topr 54 tb6.len ?_
  refine st_dup (q := 92) dX11_init_91 rfl rfl ?_
  refine iI0 (mc' := 41) (ms' := 240) (q := 95) dX11_init_92 rfl (Or.inl ml_X11_62) mi_X0_init (Nat.le_of_ble_eq_true rfl) ⟨by decide, by decide⟩ ?_
  refine c_X0_init tc6 rc6 gc6 (fun x y q => by unfold FG; omega) (fun a7 ta7 ra7 ga7 _ => ?_)
  have ka7 := ta7.kd (a := 0) (c := 11) (by decide) (by decide +kernel)
  have tb7 : Tk 96 (sR a7 0 8 (some 54)) := ta7
  have rb7 := RF_x0 (fl_0 ra7) r0_x.2.2.2.2.2.2.2.2.1
  have gb7 : GI 96 (sR a7 0 8 (some 54)) := ga7
  refine st_putR (q := 98) 11 8 dX11_init_95 fl_X11_63 (by decide) (by decide) (Or.inr ⟨rfl, rfl⟩) rfl rfl (ka7) ?_
  generalize sR a7 0 8 (some 54) = b7 at *
  have tc7 : Tk 97 (nwR b7 20 6 0 9 96) := nwR_T tb7 (by decide) (by decide +kernel)
  have rc7 := fl_9 ((nwR_F (kind := 20) (n := 6) tb7 rb7 (fun k => by unfold FG; omega) r0_x.2.2.2.2.2.2.2.2.2).up (F' := FG 10 96) (fun x y => by unfold FG; omega))
  have gc7 : GI 96 (nwR b7 20 6 0 9 96) := nwR_G tb7 gb7 (by decide)
  have kc7 := tc7.kd (a := 0) (c := 11) (by decide) (by decide +kernel)
  refine st_aload_n (q := 99) dX11_init_98 rfl rfl ?_
  refine st_bipush (q := 101) dX11_init_99 ⟨by decide, by decide⟩ rfl ?_
  refine st_newarray 0 (q := 103) dX11_init_101 rfl (by decide) rfl ac_0 ⟨by decide, by decide⟩ ⟨by decide, by decide⟩ ?_
  refine j_topr 96 tb7.len ?_
  refine st_putR (q := 106) 11 9 dX11_init_103 fl_X11_67 (by decide) (by decide) (Or.inr ⟨rfl, rfl⟩) rfl rfl (kc7) ?_
  refine j_hp (nwR b7 20 6 0 9 96) rfl ?_
  generalize nwR b7 20 6 0 9 96 = b8 at *
  refine st_aload_n (q := 107) dX11_init_106 rfl rfl ?_
  refine st_iconst (q := 108) dX11_init_107 ⟨by decide, by decide⟩ rfl ?_
  refine st_putI (q := 111) 11 10 dX11_init_108 fl_X11_71 (by decide) (by decide) (Or.inl rfl) rfl (Or.inl rfl) (kc7) ?_
  refine st_aload_n (q := 112) dX11_init_111 rfl rfl ?_
  refine st_iconst (q := 113) dX11_init_112 ⟨by decide, by decide⟩ rfl ?_
  refine st_putI (q := 116) 11 11 dX11_init_113 fl_X11_75 (by decide) (by decide) (Or.inl rfl) rfl (Or.inl rfl) (kc7) ?_
  refine st_aload_n (q := 117) dX11_init_116 rfl rfl ?_
  refine st_lconst (q := 118) (x := 0) dX11_init_117 ⟨by decide, by decide, by decide⟩ rfl ?_
  refine st_putJ (q := 121) 11 12 dX11_init_118 fl_X11_78 (by decide) (by decide) (Or.inl rfl) rfl rfl (kc7) ?_
  refine st_aload_n (q := 122) dX11_init_121 rfl rfl ?_
  refine st_lconst (q := 123) (x := 1) dX11_init_122 ⟨by decide, by decide, by decide⟩ rfl ?_
  refine st_putJ (q := 126) 11 13 dX11_init_123 fl_X11_82 (by decide) (by decide) (Or.inl rfl) rfl rfl (kc7) ?_
  refine st_iconst (q := 127) dX11_init_126 ⟨by decide, by decide⟩ rfl ?_
  refine st_istore_n (q := 128) (i := 1) dX11_init_127 rfl (by decide) rfl ?_
  refine j_kap (kap_e (c' := 96 + 2 * 0) (e' := 2566 + 62 * 0) (by decide +kernel) (by decide +kernel)) ?_
  exact lp_X11_a (h := sJ (sJ (sI (sI b8 0 10 0) 0 11 0) 0 12 0) 0 13 1) (fun h' x1 x2 x3 x4 => hP h' x1 x2 x3 ((x4 12).trans rfl) ((x4 13).trans rfl)) 0 (by decide) _ tc7 (rc7.up (fun x y => by unfold FS FG; omega)) (((gc7.up (D' := 97) (fun a k h1 h2 => I0_z (by omega)) (by decide)).zz (a := 0) (k := 10) (I0_z (by omega))).zz (a := 0) (k := 11) (I0_z (by omega))) (fun _ => rfl)

