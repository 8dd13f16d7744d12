/-! the constructors: the stage, the story, the chronicle -/
def FX7 (F : Nat → Nat → Prop) (i x y : Nat) : Prop := F x y ∨ (x = 3 ∧ y = 0) ∨ (x = 4 ∧ y < i)
theorem r0_7 : R0 3 0 = some 4 := by decide +kernel
theorem lp_X7_init {d : Nat} {h : JH} {P : JH → Prop} {F : Nat → Nat → Prop} (hF : ∀ x y, 4 ≤ x → ¬ F x y) (hP : ∀ h', Tk 13 h' → RF (FX7 F 8) h' → GI 4 h' → JE 4 h h' → P h') (i : Nat) (hi : i ≤ 8) : ∀ h', Tk (5 + i) h' → RF (FX7 F i) h' → GI 4 h' → JE 4 h h' → JAt (9, 40, 1 + i, 8 + 4 * i) (d + 2) jX7_init 32 [vr 3, vi i] [] h' (jqv P) := by
  intro h' t r g j
  have k3 : kd h' 3 = 7 := t.kd (by omega) (by decide +kernel)
  have k4 : kd h' 4 = 23 := t.kd (by omega) (by decide +kernel)
  have l4 : ln h' 4 = 8 := t.ln (by omega) (by decide +kernel)
  have r3 : hR h' 3 0 = some 4 := ((r 3 0).1 (Or.inr (Or.inl ⟨rfl, rfl⟩))).trans r0_7
  have nx : i < 8 → ∀ j1 : JV, j1 = vi i → JAt (9, 40, 1 + i + 1 + 0, 8 + 4 * i + 4 + 0) (d + 2) jX7_init 53 [vr 3, vi i] [vr (5 + i), vi i, vr 4] (sI (sI (sI (sI (nw h' 2 4) (5 + i) 0 0) (5 + i) 1 0) (5 + i) 2 0) (5 + i) 3 0) (jqv P) := by
    intro i8 j1 _
    have sh := sh_hides i i8
    have t2 : Tk (6 + i) (sI (sI (sI (sI (nw h' 2 4) (5 + i) 0 0) (5 + i) 1 0) (5 + i) 2 0) (5 + i) 3 0) := by rw [show 6 + i = 5 + i + 1 by omega]; exact Tk_nw t (by omega) sh.2
    have q4 := t2.kd (a := 4) (c := 23) (by omega) (by decide +kernel)
    have q5 := t2.kd (a := 5 + i) (c := 2) (by omega) (by rw [sh.2])
    have m4 := t2.ln (a := 4) (c := 8) (by omega) (by decide +kernel)
    have r2 : RF (FX7 F i) (sI (sI (sI (sI (nw h' 2 4) (5 + i) 0 0) (5 + i) 1 0) (5 + i) 2 0) (5 + i) 3 0) := RF_nw (k := 2) (n := 4) r t (fun k z => by rcases z with z | z | z; exact hF _ _ (by omega) z; omega; omega)
    have g2 : GI 4 (sI (sI (sI (sI (nw h' 2 4) (5 + i) 0 0) (5 + i) 1 0) (5 + i) 2 0) (5 + i) 3 0) := ((((GI_nw (k := 2) (n := 4) g t (by omega)).z (by omega)).z (by omega)).z (by omega)).z (by omega)
    have j2 : JE 4 h (sI (sI (sI (sI (nw h' 2 4) (5 + i) 0 0) (5 + i) 1 0) (5 + i) 2 0) (5 + i) 3 0) := JE_nw (k := 2) (n := 4) j t (by omega)
    generalize (sI (sI (sI (sI (nw h' 2 4) (5 + i) 0 0) (5 + i) 1 0) (5 + i) 2 0) (5 + i) 3 0) = H at *
    have r3' : RF (FX7 F (i + 1)) (sR H 4 i (some (5 + i))) := (r2.sR sh.1).up (fun x y => by
      unfold FX7
      by_cases z : F x y
      · exact ⟨fun _ => Or.inl (Or.inl z), fun _ => Or.inl z⟩
      · simp only [z, false_or]; omega)
    have t3 : Tk (5 + (i + 1)) (sR H 4 i (some (5 + i))) := by rw [show 5 + (i + 1) = 6 + i by omega]; exact t2
    refine st_aastore (q := 54) (t := 3) dX7_init_53 rfl ⟨by decide, by decide⟩ (q4) (q5) (⟨by omega, by rw [m4]; omega⟩) ?_
    first | refine n_iinc (q := 57) dX7_init_54 rfl (by decide) rfl ⟨by omega, by omega⟩ ?_ | refine st_iinc (q := 57) dX7_init_54 rfl (by decide) rfl ?_
    refine st_goto (q := 32) dX7_init_57 (by decide) ?_
    refine j_kap (kap_e (c' := 1 + (i + 1)) (e' := 8 + 4 * (i + 1)) (by omega) (by omega)) ?_
    exact lp_X7_init hF hP (i + 1) (by omega) _ t3 r3' g2 j2
  refine st_iload_n (q := 33) dX7_init_32 rfl rfl ?_
  refine st_aload_n (q := 34) dX7_init_33 rfl rfl ?_
  refine st_getR (q := 37) 7 0 dX7_init_34 fl_X7_11 (by decide) (by decide) rfl rfl (by first | exact k3 | exact k4) (r3) ?_
  refine st_arraylength (q := 38) (t := 3) dX7_init_37 rfl (by decide) (by first | exact k3 | exact k4) ?_
  rw [l4]
  refine st_icmp_ge (q := 41) (tgt := 60) dX7_init_38 (by decide) rfl (fun c38 => ?_) (fun c38 => ?_)
  · refine st_return dX7_init_60 rfl ⟨by show 1 + i ≤ 9; omega, by show 8 + 4 * i ≤ 40; omega⟩ ⟨rfl, ?_⟩
    have e : i = 8 := by omega
    subst e
    exact hP _ t r g j
  · refine st_aload_n (q := 42) dX7_init_41 rfl rfl ?_
    refine st_getR (q := 45) 7 0 dX7_init_42 fl_X7_11 (by decide) (by decide) rfl rfl (by first | exact k3 | exact k4) (r3) ?_
    refine st_iload_n (q := 46) dX7_init_45 rfl rfl ?_
    refine st_new 2 (q := 49) dX7_init_46 rfl (by decide) cl_X7_9 ib_X2 in_X2 ⟨by omega, by show 8 + 4 * i + 4 ≤ 40; omega⟩ ?_
    have i8 : i < 8 := (by omega)
    have tn9 : Tk (5 + i + 1) (nw h' 2 4) := Tk_nw t (by omega) (sh_hides i i8).2
    refine j_topr (5 + i) t.len ?_
    refine st_dup (q := 50) dX7_init_49 rfl rfl ?_
    refine iI0 (mc' := 0) (ms' := 0) (q := 53) dX7_init_50 rfl (Or.inr ⟨_, mn_X7_27⟩) mi_X2_init (Nat.le_of_ble_eq_true rfl) ⟨by omega, by show 8 + 4 * i + 4 + 0 ≤ 40; omega⟩ ?_
    refine c_X2_init tn9 (by omega) (by rw [(sh_hides i i8).2]) ?_
    exact nx i8 _ rfl
termination_by 8 - i
theorem c_X7_init {d : Nat} {h : JH} {P : JH → Prop} {F : Nat → Nat → Prop} (t : Tk 4 h) (r : RF F h) (g : GI 3 h) (hF : ∀ x y, 4 ≤ x → ¬ F x y) (hP : ∀ h', Tk 13 h' → RF (FX7 F 8) h' → GI 13 h' → JE 4 h h' → P h') : JRet 9 40 (d + 2) jX7_init [vr 3] h (jqv P) := by
  have t1 : Tk 5 (sI (sI (sI (nwR h 23 8 3 0 4) 3 1 30) 3 2 2) 3 3 (-9)) := nwR_T (a := 3) (k := 0) t (by decide) (by decide +kernel)
  have k1 := t1.kd (a := 3) (c := 7) (by decide) (by decide +kernel)
  have r1 : RF (FX7 F 0) (sI (sI (sI (nwR h 23 8 3 0 4) 3 1 30) 3 2 2) 3 3 (-9)) := (nwR_F (kind := 23) (n := 8) t r (fun k => hF 4 k (by decide)) r0_7).up (fun x y => by
      unfold FX7
      by_cases z : F x y
      · exact ⟨fun _ => Or.inl z, fun _ => Or.inl z⟩
      · simp only [z, false_or]; omega)
  have g0 : GI 3 (nwR h 23 8 3 0 4) := nwR_G t g (by decide)
  have g1 : GI 4 (sI (sI (sI (nwR h 23 8 3 0 4) 3 1 30) 3 2 2) 3 3 (-9)) := by
    generalize nwR h 23 8 3 0 4 = H at *
    intro x y w
    have gx := g0 x y w
    by_cases e : x = 3
    · subst e
      rw [if_neg (by decide)] at gx
      rw [if_pos (by decide)]
      by_cases e3 : y = 3
      · exact absurd (Or.inl ⟨rfl, e3⟩) w
      · rw [sI_k _ e3]
        by_cases e2 : y = 2
        · subst e2; rw [sI_s]; rfl
        · rw [sI_k _ e2]
          by_cases e1 : y = 1
          · subst e1; rw [sI_s]; rfl
          · rw [sI_k _ e1, gx]
            unfold I0
            rw [if_pos rfl, if_neg e1, if_neg e2]
    · rw [sI_o _ e, sI_o _ e, sI_o _ e, gx]
      by_cases q : x < 3
      · rw [if_pos q, if_pos (by omega)]
      · rw [if_neg q, if_neg (by omega)]
  have j1 : JE 4 h (sI (sI (sI (nwR h 23 8 3 0 4) 3 1 30) 3 2 2) 3 3 (-9)) := nwR_J (kind := 23) (n := 8) (a := 3) (k := 0) (x := 4) t JE.rf (by decide)
  refine JRet.of rfl (Nat.le_of_ble_eq_true rfl) ?_
  refine st_aload_n (q := 1) dX7_init_0 rfl rfl ?_
  refine st_objInit (q := 4) dX7_init_1 rfl ml_X7_3 ob_1 ob_2 (Nat.le_of_ble_eq_true rfl) ?_
  refine st_aload_n (q := 5) dX7_init_4 rfl rfl ?_
  refine st_bipush (q := 7) dX7_init_5 ⟨by decide, by decide⟩ rfl ?_
  refine st_anewarray 3 (q := 10) dX7_init_7 rfl ⟨by decide, by decide⟩ cl_X7_9 ⟨by decide, by decide⟩ ⟨by decide, by decide⟩ ?_
  refine j_topr _ t.len ?_
  refine st_putR (q := 13) 7 0 dX7_init_10 fl_X7_11 (by decide) (by decide) (Or.inr ⟨rfl, rfl⟩) rfl rfl (k1) ?_
  refine st_aload_n (q := 14) dX7_init_13 rfl rfl ?_
  refine st_bipush (q := 16) dX7_init_14 ⟨by decide, by decide⟩ rfl ?_
  refine st_putI (q := 19) 7 1 dX7_init_16 fl_X7_17 (by decide) (by decide) (Or.inl rfl) rfl (Or.inl rfl) (k1) ?_
  refine st_aload_n (q := 20) dX7_init_19 rfl rfl ?_
  refine st_iconst (q := 21) dX7_init_20 ⟨by decide, by decide⟩ rfl ?_
  refine st_putI (q := 24) 7 2 dX7_init_21 fl_X7_21 (by decide) (by decide) (Or.inl rfl) rfl (Or.inl rfl) (k1) ?_
  refine st_aload_n (q := 25) dX7_init_24 rfl rfl ?_
  refine st_bipush (q := 27) dX7_init_25 ⟨by decide, by decide⟩ rfl ?_
  refine st_putI (q := 30) 7 3 dX7_init_27 fl_X7_24 (by decide) (by decide) (Or.inl rfl) rfl (Or.inl rfl) (k1) ?_
  refine st_iconst (q := 31) dX7_init_30 ⟨by decide, by decide⟩ rfl ?_
  refine st_istore_n (q := 32) (i := 1) dX7_init_31 rfl (by decide) rfl ?_
  exact lp_X7_init hF (fun h' a b c e => hP h' a b (c.up (fun x y h1 h2 => by unfold I0; (repeat' split) <;> omega) (by decide)) e) 0 (by decide) _ t1 r1 g1 j1
def FX0 (F : Nat → Nat → Prop) (i x y : Nat) : Prop := F x y ∨ (x = 54 ∧ y = 0) ∨ (x = 55 ∧ y < i)
theorem r0_0 : R0 54 0 = some 55 := by decide +kernel
theorem lp_X0_init {d : Nat} {h : JH} {P : JH → Prop} {F : Nat → Nat → Prop} (hF : ∀ x y, 55 ≤ x → ¬ F x y) (hP : ∀ h', Tk 96 h' → RF (FX0 F 40) h' → GI 54 h' → JE 55 h h' → P h') (i : Nat) (hi : i ≤ 40) : ∀ h', Tk (56 + i) h' → RF (FX0 F i) h' → GI 54 h' → JE 55 h h' → JAt (41, 240, 1 + i, 40 + 5 * i) (d + 2) jX0_init 20 [vr 54, vi i] [] h' (jqv P) := by
  intro h' t r g j
  have k3 : kd h' 54 = 0 := t.kd (by omega) (by decide +kernel)
  have k4 : kd h' 55 = 25 := t.kd (by omega) (by decide +kernel)
  have l4 : ln h' 55 = 40 := t.ln (by omega) (by decide +kernel)
  have r3 : hR h' 54 0 = some 55 := ((r 54 0).1 (Or.inr (Or.inl ⟨rfl, rfl⟩))).trans r0_0
  have nx : i < 40 → JAt (41, 240, 1 + i + 1 + 0, 40 + 5 * i + 5 + 0) (d + 2) jX0_init 41 [vr 54, vi i] [vr (56 + i), vi i, vr 55] (sI (sI (sI (sI (sI (nw h' 3 5) (56 + i) 0 0) (56 + i) 1 0) (56 + i) 2 (-9)) (56 + i) 3 0) (56 + i) 4 0) (jqv P) := by
    intro i8
    have sh := sh_moments i i8
    have t2 : Tk (57 + i) (sI (sI (sI (sI (sI (nw h' 3 5) (56 + i) 0 0) (56 + i) 1 0) (56 + i) 2 (-9)) (56 + i) 3 0) (56 + i) 4 0) := by rw [show 57 + i = 56 + i + 1 by omega]; exact Tk_nw t (by omega) sh.2
    have q4 := t2.kd (a := 55) (c := 25) (by omega) (by decide +kernel)
    have q5 := t2.kd (a := 56 + i) (c := 3) (by omega) (by rw [sh.2])
    have m4 := t2.ln (a := 55) (c := 40) (by omega) (by decide +kernel)
    have r2 : RF (FX0 F i) (sI (sI (sI (sI (sI (nw h' 3 5) (56 + i) 0 0) (56 + i) 1 0) (56 + i) 2 (-9)) (56 + i) 3 0) (56 + i) 4 0) := RF_nw (k := 3) (n := 5) r t (fun k z => by rcases z with z | z | z; exact hF _ _ (by omega) z; omega; omega)
    have ir : ∀ k, Irr (56 + i) k := fun k => Or.inr (Or.inr (by omega))
    have g2 : GI 54 (sI (sI (sI (sI (sI (nw h' 3 5) (56 + i) 0 0) (56 + i) 1 0) (56 + i) 2 (-9)) (56 + i) 3 0) (56 + i) 4 0) := (((((GI_nw (k := 3) (n := 5) g t (by omega)).ir (ir _)).ir (ir _)).ir (ir _)).ir (ir _)).ir (ir _)
    have j2 : JE 55 h (sI (sI (sI (sI (sI (nw h' 3 5) (56 + i) 0 0) (56 + i) 1 0) (56 + i) 2 (-9)) (56 + i) 3 0) (56 + i) 4 0) := JE_nw (k := 3) (n := 5) j t (by omega)
    generalize (sI (sI (sI (sI (sI (nw h' 3 5) (56 + i) 0 0) (56 + i) 1 0) (56 + i) 2 (-9)) (56 + i) 3 0) (56 + i) 4 0) = H at *
    have r3' : RF (FX0 F (i + 1)) (sR H 55 i (some (56 + i))) := (r2.sR sh.1).up (fun x y => by
      unfold FX0
      by_cases z : F x y
      · exact ⟨fun _ => Or.inl (Or.inl z), fun _ => Or.inl z⟩
      · simp only [z, false_or]; omega)
    have t3 : Tk (56 + (i + 1)) (sR H 55 i (some (56 + i))) := by rw [show 56 + (i + 1) = 57 + i by omega]; exact t2
    refine st_aastore (q := 42) (t := 5) dX0_init_41 rfl ⟨by decide, by decide⟩ (q4) (q5) (⟨by omega, by rw [m4]; omega⟩) ?_
    first | refine n_iinc (q := 45) dX0_init_42 rfl (by decide) rfl ⟨by omega, by omega⟩ ?_ | refine st_iinc (q := 45) dX0_init_42 rfl (by decide) rfl ?_
    refine st_goto (q := 20) dX0_init_45 (by decide) ?_
    refine j_kap (kap_e (c' := 1 + (i + 1)) (e' := 40 + 5 * (i + 1)) (by omega) (by omega)) ?_
    exact lp_X0_init hF hP (i + 1) (by omega) _ t3 r3' g2 j2
  refine st_iload_n (q := 21) dX0_init_20 rfl rfl ?_
  refine st_aload_n (q := 22) dX0_init_21 rfl rfl ?_
  refine st_getR (q := 25) 0 0 dX0_init_22 fl_X0_11 (by decide) (by decide) rfl rfl (by first | exact k3 | exact k4) (r3) ?_
  refine st_arraylength (q := 26) (t := 5) dX0_init_25 rfl (by decide) (by first | exact k3 | exact k4) ?_
  rw [l4]
  refine st_icmp_ge (q := 29) (tgt := 48) dX0_init_26 (by decide) rfl (fun c26 => ?_) (fun c26 => ?_)
  · refine st_return dX0_init_48 rfl ⟨by show 1 + i ≤ 41; omega, by show 40 + 5 * i ≤ 240; omega⟩ ⟨rfl, ?_⟩
    have e : i = 40 := by omega
    subst e
    exact hP _ t r g j
  · refine st_aload_n (q := 30) dX0_init_29 rfl rfl ?_
    refine st_getR (q := 33) 0 0 dX0_init_30 fl_X0_11 (by decide) (by decide) rfl rfl (by first | exact k3 | exact k4) (r3) ?_
    refine st_iload_n (q := 34) dX0_init_33 rfl rfl ?_
    refine st_new 3 (q := 37) dX0_init_34 rfl (by decide) cl_X0_9 ib_X3 in_X3 ⟨by omega, by show 40 + 5 * i + 5 ≤ 240; omega⟩ ?_
    have i8 : i < 40 := (by omega)
    have tn9 : Tk (56 + i + 1) (nw h' 3 5) := Tk_nw t (by omega) (sh_moments i i8).2
    refine j_topr (56 + i) t.len ?_
    refine st_dup (q := 38) dX0_init_37 rfl rfl ?_
    refine iI0 (mc' := 0) (ms' := 0) (q := 41) dX0_init_38 rfl (Or.inr ⟨_, mn_X0_21⟩) mi_X3_init (Nat.le_of_ble_eq_true rfl) ⟨by omega, by show 40 + 5 * i + 5 + 0 ≤ 240; omega⟩ ?_
    refine c_X3_init tn9 (by omega) (by rw [(sh_moments i i8).2]) ?_
    exact nx i8
termination_by 40 - i
theorem c_X0_init {d : Nat} {h : JH} {P : JH → Prop} {F : Nat → Nat → Prop} (t : Tk 55 h) (r : RF F h) (g : GI 54 h) (hF : ∀ x y, 55 ≤ x → ¬ F x y) (hP : ∀ h', Tk 96 h' → RF (FX0 F 40) h' → GI 96 h' → JE 55 h h' → P h') : JRet 41 240 (d + 2) jX0_init [vr 54] h (jqv P) := by
  have t1 : Tk 56 (sI (nwR h 25 40 54 0 55) 54 1 0) := nwR_T (a := 54) (k := 0) t (by decide) (by decide +kernel)
  have k1 := t1.kd (a := 54) (c := 0) (by decide) (by decide +kernel)
  have r1 : RF (FX0 F 0) (sI (nwR h 25 40 54 0 55) 54 1 0) := (nwR_F (kind := 25) (n := 40) t r (fun k => hF 55 k (by decide)) r0_0).up (fun x y => by
      unfold FX0
      by_cases z : F x y
      · exact ⟨fun _ => Or.inl z, fun _ => Or.inl z⟩
      · simp only [z, false_or]; omega)
  have g1 : GI 54 (sI (nwR h 25 40 54 0 55) 54 1 0) := (nwR_G (kind := 25) (n := 40) (a := 54) (k := 0) t g (by decide)).z (by decide)
  have j1 : JE 55 h (sI (nwR h 25 40 54 0 55) 54 1 0) := nwR_J (kind := 25) (n := 40) (a := 54) (k := 0) (x := 55) t JE.rf (by decide)
  refine JRet.of rfl (Nat.le_of_ble_eq_true rfl) ?_
  refine st_aload_n (q := 1) dX0_init_0 rfl rfl ?_
  refine st_objInit (q := 4) dX0_init_1 rfl ml_X0_3 ob_1 ob_2 (Nat.le_of_ble_eq_true rfl) ?_
  refine st_aload_n (q := 5) dX0_init_4 rfl rfl ?_
  refine st_bipush (q := 7) dX0_init_5 ⟨by decide, by decide⟩ rfl ?_
  refine st_anewarray 5 (q := 10) dX0_init_7 rfl ⟨by decide, by decide⟩ cl_X0_9 ⟨by decide, by decide⟩ ⟨by decide, by decide⟩ ?_
  refine j_topr _ t.len ?_
  refine st_putR (q := 13) 0 0 dX0_init_10 fl_X0_11 (by decide) (by decide) (Or.inr ⟨rfl, rfl⟩) rfl rfl (k1) ?_
  refine st_aload_n (q := 14) dX0_init_13 rfl rfl ?_
  refine st_iconst (q := 15) dX0_init_14 ⟨by decide, by decide⟩ rfl ?_
  refine st_putI (q := 18) 0 1 dX0_init_15 fl_X0_17 (by decide) (by decide) (Or.inl rfl) rfl (Or.inl rfl) (k1) ?_
  refine st_iconst (q := 19) dX0_init_18 ⟨by decide, by decide⟩ rfl ?_
  refine st_istore_n (q := 20) (i := 1) dX0_init_19 rfl (by decide) rfl ?_
  exact lp_X0_init hF (fun h' a b c e => hP h' a b (c.up (fun x y h1 h2 => by unfold I0; (repeat' split) <;> omega) (by decide)) e) 0 (by decide) _ t1 r1 g1 j1

