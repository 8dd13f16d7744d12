/-! the constructors: the stage, the story, the chronicle -/
def FX7 (F : Nat → Nat → Prop) (i x y : Nat) : Prop := F x y ∨ (x = 3 ∧ y = 0) ∨ (x = 4 ∧ y < i)
theorem r0_7 : R0 3 0 = some 4 := by decide +kernel
theorem lp_X7_init {d : Nat} {h : JH} {P : JH → Prop} {F : Nat → Nat → Prop} (hF : ∀ x y, 4 ≤ x → ¬ F x y) (hP : ∀ h', Tk 13 h' → RF (FX7 F 8) h' → GI 4 h' → JE 4 h h' → P h') (i : Nat) (hi : i ≤ 8) : ∀ h', Tk (5 + i) h' → RF (FX7 F i) h' → GI 4 h' → JE 4 h h' → JAt (9, 40, 1 + i, 8 + 4 * i) (d + 2) jX7_init 32 [vr 3, vi i] [] h' (jqv P) := by
  intro h' t r g j
  have k3 : kd h' 3 = 7 := t.kd (by omega) (by decide +kernel)
  have k4 : kd h' 4 = 23 := t.kd (by omega) (by decide +kernel)
  have l4 : ln h' 4 = 8 := t.ln (by omega) (by decide +kernel)
  have r3 : hR h' 3 0 = some 4 := ((r 3 0).1 (Or.inr (Or.inl ⟨rfl, rfl⟩))).trans r0_7
  have nx : i < 8 → ∀ j1 : JV, j1 = vi i → JAt (9, 40, 1 + i + 1 + 0, 8 + 4 * i + 4 + 0) (d + 2) jX7_init 53 [vr 3, vi i] [vr (5 + i), vi i, vr 4] (sI (sI (sI (sI (nw h' 2 4) (5 + i) 0 0) (5 + i) 1 0) (5 + i) 2 0) (5 + i) 3 0) (jqv P) := by
    intro i8 j1 _
    have sh := sh_hides i i8
    have t2 : Tk (6 + i) (sI (sI (sI (sI (nw h' 2 4) (5 + i) 0 0) (5 + i) 1 0) (5 + i) 2 0) (5 + i) 3 0) := by rw [show 6 + i = 5 + i + 1 by omega]; exact Tk_nw t (by omega) sh.2
    have q4 := t2.kd (a := 4) (c := 23) (by omega) (by decide +kernel)
    have q5 := t2.kd (a := 5 + i) (c := 2) (by omega) (by rw [sh.2])
    have m4 := t2.ln (a := 4) (c := 8) (by omega) (by decide +kernel)
    have r2 : RF (FX7 F i) (sI (sI (sI (sI (nw h' 2 4) (5 + i) 0 0) (5 + i) 1 0) (5 + i) 2 0) (5 + i) 3 0) := RF_nw (k := 2) (n := 4) r t (fun k z => by rcases z with z | z | z; exact hF _ _ (by omega) z; omega; omega)
    have g2 : GI 4 (sI (sI (sI (sI (nw h' 2 4) (5 + i) 0 0) (5 + i) 1 0) (5 + i) 2 0) (5 + i) 3 0) := ((((GI_nw (k := 2) (n := 4) g t (by omega)).z (by omega)).z (by omega)).z (by omega)).z (by omega)
    have j2 : JE 4 h (sI (sI (sI (sI (nw h' 2 4) (5 + i) 0 0) (5 + i) 1 0) (5 + i) 2 0) (5 + i) 3 0) := JE_nw (k := 2) (n := 4) j t (by omega)
    generalize (sI (sI (sI (sI (nw h' 2 4) (5 + i) 0 0) (5 + i) 1 0) (5 + i) 2 0) (5 + i) 3 0) = H at *
    have r3' : RF (FX7 F (i + 1)) (sR H 4 i (some (5 + i))) := (r2.sR sh.1).up (fun x y => by
      unfold FX7
      by_cases z : F x y
      · exact ⟨fun _ => Or.inl (Or.inl z), fun _ => Or.inl z⟩
      · simp only [z, false_or]; omega)
    have t3 : Tk (5 + (i + 1)) (sR H 4 i (some (5 + i))) := by rw [show 5 + (i + 1) = 6 + i by omega]; exact t2
    refine st_aastore (q := 54) (t := 3) dX7_init_53 rfl ⟨by decide, by decide⟩ (q4) (q5) (⟨by omega, by rw [m4]; omega⟩) ?_
    first | refine n_iinc (q := 57) dX7_init_54 rfl (by decide) rfl ⟨by omega, by omega⟩ ?_ | refine st_iinc (q := 57) dX7_init_54 rfl (by decide) rfl ?_
    refine st_goto (q := 32) dX7_init_57 (by decide) ?_
    refine j_kap (kap_e (c' := 1 + (i + 1)) (e' := 8 + 4 * (i + 1)) (by omega) (by omega)) ?_
    exact lp_X7_init hF hP (i + 1) (by omega) _ t3 r3' g2 j2
  refine st_iload_n (q := 33) dX7_init_32 rfl rfl ?_
  refine st_aload_n (q := 34) dX7_init_33 rfl rfl ?_
  refine st_getR (q := 37) 7 0 dX7_init_34 fl_X7_11 (by decide) (by decide) rfl rfl (by first | exact k3 | exact k4) (r3) ?_
  refine st_arraylength (q := 38) (t := 3) dX7_init_37 rfl (by decide) (by first | exact k3 | exact k4) ?_
  rw [l4]
  refine st_icmp_ge (q := 41) (tgt := 60) dX7_init_38 (by decide) rfl (fun c38 => ?_) (fun c38 => ?_)
  · refine st_return dX7_init_60 rfl ⟨by show 1 + i ≤ 9; omega, by show 8 + 4 * i ≤ 40; omega⟩ ⟨rfl, ?_⟩
    have e : i = 8 := by omega
    subst e
    exact hP _ t r g j
  · refine st_aload_n (q := 42) dX7_init_41 rfl rfl ?_
    refine st_getR (q := 45) 7 0 dX7_init_42 fl_X7_11 (by decide) (by decide) rfl rfl (by first | exact k3 | exact k4) (r3) ?_
    refine st_iload_n (q := 46) dX7_init_45 rfl rfl ?_
    refine st_new 2 (q := 49) dX7_init_46 rfl (by decide) cl_X7_9 ib_X2 in_X2 ⟨by omega, by show 8 + 4 * i + 4 ≤ 40; omega⟩ ?_
    have i8 : i < 8 := (by omega)
    have tn9 : Tk (5 + i + 1) (nw h' 2 4) := Tk_nw t (by omega) (sh_hides i i8).2
    refine j_topr (5 + i) t.len ?_
    refine st_dup (q := 50) dX7_init_49 rfl rfl ?_
    refine iI0 (mc' := 0) (ms' := 0) (q := 53) dX7_init_50 rfl (Or.inr ⟨_, mn_X7_27⟩) mi_X2_init (Nat.le_of_ble_eq_true rfl) ⟨by omega, by show 8 + 4 * i + 4 + 0 ≤ 40; omega⟩ ?_
    refine c_X2_init tn9 (by omega) (by rw [(sh_hides i i8).2]) ?_
    exact nx i8 _ rfl
termination_by 8 - i

