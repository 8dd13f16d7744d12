/-! the constructors: the story -/
def FX8 (F : Nat → Nat → Prop) (i j x y : Nat) : Prop := F x y ∨ (x = 13 ∧ (y = 0 ∨ y = 2)) ∨ (x = 14 ∧ y < i) ∨ (x = 15 ∧ y < j)
theorem r0_8 : R0 13 0 = some 14 ∧ R0 13 2 = some 15 := by decide +kernel
def scI (h : JH) (a : Nat) : JH := sI (sI (sI (sI (sI (sI (sI (sI h a 0 0) a 1 0) a 2 0) a 3 0) a 4 0) a 5 (-9)) a 6 (-9)) a 7 0
theorem scI_G {D a : Nat} {h : JH} (g : GI D h) (z : ∀ k, Irr a k) : GI D (scI h a) := (((((((g.ir (z _)).ir (z _)).ir (z _)).ir (z _)).ir (z _)).ir (z _)).ir (z _)).ir (z _)
theorem lp_X8_init {d : Nat} {h : JH} {P : JH → Prop} {F : Nat → Nat → Prop} (hF : ∀ x y, 14 ≤ x → ¬ F x y) (hP : ∀ h', Tk 40 h' → RF (FX8 F 12 12) h' → GI 13 h' → JE 14 h h' → P h') (i : Nat) (hi : i ≤ 12) : ∀ h', Tk (16 + 2 * i) h' → RF (FX8 F i i) h' → GI 13 h' → JE 14 h h' → JAt (26, 216, 2 + 2 * i, 24 + 16 * i) (d + 2) jX8_init 39 [vr 13, vi i] [] h' (jqv P) := by
  intro h' t r g j
  have ir : ∀ a, 16 ≤ a → a ≤ 39 → ∀ k, Irr a k := fun a h1 h2 k => Or.inr (Or.inl (by omega))
  have nF : ∀ a i j y, 16 ≤ a → ¬ FX8 F i j a y := fun a i j y ha z => by
    rcases z with z | z | z | z
    · exact hF _ _ (by omega) z
    · omega
    · omega
    · omega
  have two : i < 12 → ∀ H, Tk (17 + 2 * i) H → RF (FX8 F (i + 1) i) H → GI 13 H → JE 14 h H → JAt (26, 216, 2 + 2 * i + 1 + 0, 24 + 16 * i + 8 + 0) (d + 2) jX8_init 58 [vr 13, vi i] [] H (jqv P) := by
    intro i12 H t r g j
    have sh := sh_scenes i i12
    have k3 : kd H 13 = 8 := t.kd (by omega) (by decide +kernel)
    have r3 : hR H 13 2 = some 15 := ((r 13 2).1 (Or.inr (Or.inl ⟨rfl, Or.inr rfl⟩))).trans r0_8.2
    have nx : JAt (26, 216, 2 + 2 * i + 1 + 0 + 1 + 0, 24 + 16 * i + 8 + 0 + 8 + 0) (d + 2) jX8_init 70 [vr 13, vi i] [vr (17 + 2 * i), vi i, vr 15] (scI (nw H 5 8) (17 + 2 * i)) (jqv P) := by
      have t2 : Tk (18 + 2 * i) (scI (nw H 5 8) (17 + 2 * i)) := by rw [show 18 + 2 * i = 17 + 2 * i + 1 by omega]; exact Tk_nw t (by omega) sh.2.2.2
      have q4 := t2.kd (a := 15) (c := 24) (by omega) (by decide +kernel)
      have q5 := t2.kd (a := 17 + 2 * i) (c := 5) (by omega) (by rw [sh.2.2.2])
      have m4 := t2.ln (a := 15) (c := 12) (by omega) (by decide +kernel)
      have r2 : RF (FX8 F (i + 1) i) (scI (nw H 5 8) (17 + 2 * i)) := RF_nw (k := 5) (n := 8) r t (fun k => nF _ _ _ _ (by omega))
      have g2 : GI 13 (scI (nw H 5 8) (17 + 2 * i)) := scI_G (GI_nw (k := 5) (n := 8) g t (by omega)) (ir _ (by omega) (by omega))
      have j2 : JE 14 h (scI (nw H 5 8) (17 + 2 * i)) := JE_nw (k := 5) (n := 8) j t (by omega)
      generalize scI (nw H 5 8) (17 + 2 * i) = H2 at *
      have r3' : RF (FX8 F (i + 1) (i + 1)) (sR H2 15 i (some (17 + 2 * i))) := (r2.sR sh.2.1).up (fun x y => by
        unfold FX8
        by_cases z : F x y
        · exact ⟨fun _ => Or.inl (Or.inl z), fun _ => Or.inl z⟩
        · simp only [z, false_or]; omega)
      have t3 : Tk (16 + 2 * (i + 1)) (sR H2 15 i (some (17 + 2 * i))) := by rw [show 16 + 2 * (i + 1) = 18 + 2 * i by omega]; exact t2
      refine st_aastore (q := 71) (t := 4) dX8_init_70 rfl ⟨by decide, by decide⟩ (q4) (q5) (⟨by omega, by rw [m4]; omega⟩) ?_
      first | refine n_iinc (q := 74) dX8_init_71 rfl (by decide) rfl ⟨by omega, by omega⟩ ?_ | refine st_iinc (q := 74) dX8_init_71 rfl (by decide) rfl ?_
      refine st_goto (q := 39) dX8_init_74 (by decide) ?_
      refine j_kap (kap_e (c' := 2 + 2 * (i + 1)) (e' := 24 + 16 * (i + 1)) (by omega) (by omega)) ?_
      exact lp_X8_init hF hP (i + 1) (by omega) _ t3 r3' g2 j2
    refine st_aload_n (q := 59) dX8_init_58 rfl rfl ?_
    refine st_getR (q := 62) 8 2 dX8_init_59 fl_X8_21 (by decide) (by decide) rfl rfl (k3) (r3) ?_
    refine st_iload_n (q := 63) dX8_init_62 rfl rfl ?_
    refine st_new 5 (q := 66) dX8_init_63 rfl (by decide) cl_X8_9 ib_X5 in_X5 ⟨by omega, by show 24 + 16 * i + 8 + 0 + 8 ≤ 216; omega⟩ ?_
    have tn9 : Tk (17 + 2 * i + 1) (nw H 5 8) := Tk_nw t (by omega) sh.2.2.2
    refine j_topr (17 + 2 * i) t.len ?_
    refine st_dup (q := 67) dX8_init_66 rfl rfl ?_
    refine iI0 (mc' := 0) (ms' := 0) (q := 70) dX8_init_67 rfl (Or.inr ⟨_, mn_X8_30⟩) mi_X5_init (Nat.le_of_ble_eq_true rfl) ⟨by omega, by show 24 + 16 * i + 8 + 0 + 8 + 0 ≤ 216; omega⟩ ?_
    refine c_X5_init tn9 (by omega) (by rw [sh.2.2.2]) ?_
    exact nx
  have k3 : kd h' 13 = 8 := t.kd (by omega) (by decide +kernel)
  have r3 : hR h' 13 0 = some 14 := ((r 13 0).1 (Or.inr (Or.inl ⟨rfl, Or.inl rfl⟩))).trans r0_8.1
  have nx : i < 12 → JAt (26, 216, 2 + 2 * i + 1 + 0, 24 + 16 * i + 8 + 0) (d + 2) jX8_init 57 [vr 13, vi i] [vr (16 + 2 * i), vi i, vr 14] (scI (nw h' 5 8) (16 + 2 * i)) (jqv P) := by
    intro i12
    have sh := sh_scenes i i12
    have t2 : Tk (17 + 2 * i) (scI (nw h' 5 8) (16 + 2 * i)) := by rw [show 17 + 2 * i = 16 + 2 * i + 1 by omega]; exact Tk_nw t (by omega) sh.2.2.1
    have q4 := t2.kd (a := 14) (c := 24) (by omega) (by decide +kernel)
    have q5 := t2.kd (a := 16 + 2 * i) (c := 5) (by omega) (by rw [sh.2.2.1])
    have m4 := t2.ln (a := 14) (c := 12) (by omega) (by decide +kernel)
    have r2 : RF (FX8 F i i) (scI (nw h' 5 8) (16 + 2 * i)) := RF_nw (k := 5) (n := 8) r t (fun k => nF _ _ _ _ (by omega))
    have g2 : GI 13 (scI (nw h' 5 8) (16 + 2 * i)) := scI_G (GI_nw (k := 5) (n := 8) g t (by omega)) (ir _ (by omega) (by omega))
    have j2 : JE 14 h (scI (nw h' 5 8) (16 + 2 * i)) := JE_nw (k := 5) (n := 8) j t (by omega)
    generalize scI (nw h' 5 8) (16 + 2 * i) = H2 at *
    have r3' : RF (FX8 F (i + 1) i) (sR H2 14 i (some (16 + 2 * i))) := (r2.sR sh.1).up (fun x y => by
      unfold FX8
      by_cases z : F x y
      · exact ⟨fun _ => Or.inl (Or.inl z), fun _ => Or.inl z⟩
      · simp only [z, false_or]; omega)
    refine st_aastore (q := 58) (t := 4) dX8_init_57 rfl ⟨by decide, by decide⟩ (q4) (q5) (⟨by omega, by rw [m4]; omega⟩) ?_
    exact two i12 _ t2 r3' g2 j2
  refine st_iload_n (q := 40) dX8_init_39 rfl rfl ?_
  refine st_bipush (q := 42) dX8_init_40 ⟨by decide, by decide⟩ rfl ?_
  refine st_icmp_ge (q := 45) (tgt := 77) dX8_init_42 (by decide) rfl (fun c42 => ?_) (fun c42 => ?_)
  · refine st_return dX8_init_77 rfl ⟨by show 2 + 2 * i ≤ 26; omega, by show 24 + 16 * i ≤ 216; omega⟩ ⟨rfl, ?_⟩
    have e : i = 12 := by omega
    subst e
    exact hP _ t r g j
  · refine st_aload_n (q := 46) dX8_init_45 rfl rfl ?_
    refine st_getR (q := 49) 8 0 dX8_init_46 fl_X8_11 (by decide) (by decide) rfl rfl (k3) (r3) ?_
    refine st_iload_n (q := 50) dX8_init_49 rfl rfl ?_
    refine st_new 5 (q := 53) dX8_init_50 rfl (by decide) cl_X8_9 ib_X5 in_X5 ⟨by omega, by show 24 + 16 * i + 8 ≤ 216; omega⟩ ?_
    have i12 : i < 12 := (by omega)
    have tn9 : Tk (16 + 2 * i + 1) (nw h' 5 8) := Tk_nw t (by omega) (sh_scenes i i12).2.2.1
    refine j_topr (16 + 2 * i) t.len ?_
    refine st_dup (q := 54) dX8_init_53 rfl rfl ?_
    refine iI0 (mc' := 0) (ms' := 0) (q := 57) dX8_init_54 rfl (Or.inr ⟨_, mn_X8_30⟩) mi_X5_init (Nat.le_of_ble_eq_true rfl) ⟨by omega, by show 24 + 16 * i + 8 + 0 ≤ 216; omega⟩ ?_
    refine c_X5_init tn9 (by omega) (by rw [(sh_scenes i i12).2.2.1]) ?_
    exact nx i12
termination_by 12 - i
theorem c_X8_init {d : Nat} {h : JH} {P : JH → Prop} {F : Nat → Nat → Prop} (t : Tk 14 h) (r : RF F h) (g : GI 13 h) (hF : ∀ x y, 14 ≤ x → ¬ F x y) (hP : ∀ h', Tk 40 h' → RF (FX8 F 12 12) h' → GI 40 h' → JE 14 h h' → P h') : JRet 26 216 (d + 2) jX8_init [vr 13] h (jqv P) := by
  have t1 : Tk 15 (sI (nwR h 24 12 13 0 14) 13 1 0) := nwR_T (a := 13) (k := 0) t (by decide) (by decide +kernel)
  have r1 := nwR_F (kind := 24) (n := 12) t r (fun k => hF 14 k (by decide)) r0_8.1
  have g1 : GI 13 (sI (nwR h 24 12 13 0 14) 13 1 0) := (nwR_G (kind := 24) (n := 12) (a := 13) (k := 0) t g (by decide)).z (by decide)
  have j1 : JE 14 h (sI (nwR h 24 12 13 0 14) 13 1 0) := nwR_J (kind := 24) (n := 12) (a := 13) (k := 0) (x := 14) t JE.rf (by decide)
  have r1 : RF (fun x y => F x y ∨ (x = 13 ∧ y = 0)) (sI (nwR h 24 12 13 0 14) 13 1 0) := r1
  have k1 := t1.kd (a := 13) (c := 8) (by decide) (by decide +kernel)
  have t2 : Tk 16 (sI (sI (nwR (sI (nwR h 24 12 13 0 14) 13 1 0) 24 12 13 2 15) 13 3 0) 13 4 0) := nwR_T (a := 13) (k := 2) t1 (by decide) (by decide +kernel)
  have k2 := t2.kd (a := 13) (c := 8) (by decide) (by decide +kernel)
  have r2 : RF (FX8 F 0 0) (sI (sI (nwR (sI (nwR h 24 12 13 0 14) 13 1 0) 24 12 13 2 15) 13 3 0) 13 4 0) := (nwR_F (kind := 24) (n := 12) t1 r1 (fun k z => z.elim (hF 15 k (by decide)) (fun z => absurd z.1 (by decide))) r0_8.2).up (fun x y => by
      unfold FX8
      by_cases z : F x y
      · exact ⟨fun _ => Or.inl (Or.inl z), fun _ => Or.inl z⟩
      · simp only [z, false_or]; omega)
  have g2 : GI 13 (sI (sI (nwR (sI (nwR h 24 12 13 0 14) 13 1 0) 24 12 13 2 15) 13 3 0) 13 4 0) := ((nwR_G (kind := 24) (n := 12) (a := 13) (k := 2) t1 g1 (by decide)).z (by decide)).z (by decide)
  have j2 : JE 14 h (sI (sI (nwR (sI (nwR h 24 12 13 0 14) 13 1 0) 24 12 13 2 15) 13 3 0) 13 4 0) := nwR_J (kind := 24) (n := 12) (a := 13) (k := 2) (x := 15) t1 j1 (by decide)
  refine JRet.of rfl (Nat.le_of_ble_eq_true rfl) ?_
  refine st_aload_n (q := 1) dX8_init_0 rfl rfl ?_
  refine st_objInit (q := 4) dX8_init_1 rfl ml_X8_3 ob_1 ob_2 (Nat.le_of_ble_eq_true rfl) ?_
  refine st_aload_n (q := 5) dX8_init_4 rfl rfl ?_
  refine st_bipush (q := 7) dX8_init_5 ⟨by decide, by decide⟩ rfl ?_
  refine st_anewarray 4 (q := 10) dX8_init_7 rfl ⟨by decide, by decide⟩ cl_X8_9 ⟨by decide, by decide⟩ ⟨by decide, by decide⟩ ?_
  refine j_topr _ t.len ?_
  refine st_putR (q := 13) 8 0 dX8_init_10 fl_X8_11 (by decide) (by decide) (Or.inl rfl) rfl rfl (by first | exact k1 | exact k2) ?_
  refine st_aload_n (q := 14) dX8_init_13 rfl rfl ?_
  refine st_iconst (q := 15) dX8_init_14 ⟨by decide, by decide⟩ rfl ?_
  refine st_putI (q := 18) 8 1 dX8_init_15 fl_X8_17 (by decide) (by decide) (Or.inl rfl) rfl (Or.inl rfl) (by first | exact k1 | exact k2) ?_
  refine st_aload_n (q := 19) dX8_init_18 rfl rfl ?_
  refine st_bipush (q := 21) dX8_init_19 ⟨by decide, by decide⟩ rfl ?_
  refine st_anewarray 4 (q := 24) dX8_init_21 rfl ⟨by decide, by decide⟩ cl_X8_9 ⟨by decide, by decide⟩ ⟨by decide, by decide⟩ ?_
  refine j_topr 15 t1.len ?_
  refine st_putR (q := 27) 8 2 dX8_init_24 fl_X8_21 (by decide) (by decide) (Or.inl rfl) rfl rfl (by first | exact k1 | exact k2) ?_
  refine st_aload_n (q := 28) dX8_init_27 rfl rfl ?_
  refine st_iconst (q := 29) dX8_init_28 ⟨by decide, by decide⟩ rfl ?_
  refine st_putI (q := 32) 8 3 dX8_init_29 fl_X8_24 (by decide) (by decide) (Or.inl rfl) rfl (Or.inl rfl) (by first | exact k1 | exact k2) ?_
  refine st_aload_n (q := 33) dX8_init_32 rfl rfl ?_
  refine st_iconst (q := 34) dX8_init_33 ⟨by decide, by decide⟩ rfl ?_
  refine st_putI (q := 37) 8 4 dX8_init_34 fl_X8_27 (by decide) (by decide) (Or.inl rfl) rfl (Or.inl rfl) (by first | exact k1 | exact k2) ?_
  refine st_iconst (q := 38) dX8_init_37 ⟨by decide, by decide⟩ rfl ?_
  refine st_istore_n (q := 39) (i := 1) dX8_init_38 rfl (by decide) rfl ?_
  exact lp_X8_init hF (fun h' a b c e => hP h' a b (c.up (fun x y h1 h2 => by unfold I0; (repeat' split) <;> omega) (by decide)) e) 0 (by decide) _ t2 r2 g2 j2

