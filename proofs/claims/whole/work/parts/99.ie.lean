/-! the constructors: the hands -/
theorem outN_b (s : Nat) : ∀ k, k ≤ 6 → outN s k < 64
  | 0, _ => by show 0 < 64; decide
  | k + 1, h => by
    refine Nat.or_lt_two_pow (n := 6) (outN_b s k (by omega)) ?_
    split
    · exact Nat.pow_lt_pow_right (by decide) (by omega)
    · decide
theorem helN_b (s : Nat) : ∀ k, k ≤ 6 → helN s k < 64
  | 0, _ => by show 0 < 64; decide
  | k + 1, h => by
    refine Nat.or_lt_two_pow (n := 6) (helN_b s k (by omega)) ?_
    split
    · exact Nat.pow_lt_pow_right (by decide) (by omega)
    · decide
theorem lp_X1_in {d : Nat} {h : JH} {Q : Option JV → JH → Prop} {s : Nat} (hs : s < 729) (hK : ∀ j2 j5, JAt (2, 1458, 2, 1458) (d + 1) jX1_init 95 [vr 41, vi s, j2, vi (outN s 6 : Nat), vi (helN s 6 : Nat), j5] [] h Q) (k : Nat) (hk : k ≤ 6) : JAt (2, 1458, 2, 1458) (d + 1) jX1_init 41 [vr 41, vi s, vi (s / 3 ^ k : Nat), vi (outN s k : Nat), vi (helN s k : Nat), vi k] [] h Q := by
  have b1 := outN_b s k hk
  have b2 := helN_b s k hk
  have b3 : s / 3 ^ k ≤ s := Nat.div_le_self _ _
  have p6 : k < 6 → 2 ^ k < 64 := fun z => show 2 ^ k < 2 ^ 6 from Nat.pow_lt_pow_right (by decide) z
  have e1 : outN s (k + 1) = outN s k ||| (if 0 < dg3 s k then 2 ^ k else 0) := rfl
  have e2 : helN s (k + 1) = helN s k ||| (if 1 < dg3 s k then 2 ^ k else 0) := rfl
  have e3 : s / 3 ^ (k + 1) = s / 3 ^ k / 3 := by rw [Nat.pow_succ, Nat.div_div_eq_div_mul]
  have d3 : dg3 s k < 3 := Nat.mod_lt _ (by decide)
  refine st_iload (q := 43) dX1_init_41 rfl rfl ?_
  refine st_bipush (q := 45) dX1_init_43 ⟨by decide, by decide⟩ rfl ?_
  refine st_icmp_ge (q := 48) (tgt := 95) dX1_init_45 (by decide) rfl (fun c45 => ?_) (fun c45 => ?_)
  · have ek : k = 6 := by omega
    subst ek
    exact hK _ _
  · have k6 : k < 6 := (by omega)
    have p6 := p6 k6
    refine st_iload_n (q := 49) dX1_init_48 rfl rfl ?_
    refine st_iload_n (q := 50) dX1_init_49 rfl rfl ?_
    refine st_iconst (q := 51) dX1_init_50 ⟨by decide, by decide⟩ rfl ?_
    refine st_irem (q := 52) dX1_init_51 (by omega) rfl ?_
    refine j_top ((dg3 s k : Nat) : Int) rfl ?_
    apply j_mg 63
    · intro K1 K2
      refine st_if_le (q := 55) (tgt := 62) dX1_init_52 (by decide) rfl (fun c52 => ?_) (fun c52 => ?_)
      · refine st_iconst (q := 63) dX1_init_62 ⟨by decide, by decide⟩ rfl ?_
        exact K1 c52
      · refine st_iconst (q := 56) dX1_init_55 ⟨by decide, by decide⟩ rfl ?_
        refine st_iload (q := 58) dX1_init_56 rfl rfl ?_
        refine st_ishl (q := 59) dX1_init_58 rfl ?_
        refine j_top ((2 ^ k : Nat) : Int) (p2k (by omega)) ?_
        refine st_goto (q := 63) dX1_init_59 (by decide) ?_
        exact K2 c52
    · simp only [jif_if]
      refine j_top ((if 0 < dg3 s k then 2 ^ k else 0 : Nat) : Int) (by (repeat' split) <;> omega) ?_
      refine st_ior (q := 64) dX1_init_63 rfl ?_
      refine j_top ((outN s (k + 1) : Nat) : Int) (by rw [e1]; exact ior_n (by omega) (by split <;> omega)) ?_
      refine st_istore_n (q := 65) (i := 3) dX1_init_64 rfl (by decide) rfl ?_
      refine st_iload (q := 67) dX1_init_65 rfl rfl ?_
      refine st_iload_n (q := 68) dX1_init_67 rfl rfl ?_
      refine st_iconst (q := 69) dX1_init_68 ⟨by decide, by decide⟩ rfl ?_
      refine st_irem (q := 70) dX1_init_69 (by omega) rfl ?_
      refine j_top ((dg3 s k : Nat) : Int) rfl ?_
      refine st_iconst (q := 71) dX1_init_70 ⟨by decide, by decide⟩ rfl ?_
      apply j_mg 82
      · intro K3 K4
        refine st_icmp_le (q := 74) (tgt := 81) dX1_init_71 (by decide) rfl (fun c71 => ?_) (fun c71 => ?_)
        · refine st_iconst (q := 82) dX1_init_81 ⟨by decide, by decide⟩ rfl ?_
          exact K3 c71
        · refine st_iconst (q := 75) dX1_init_74 ⟨by decide, by decide⟩ rfl ?_
          refine st_iload (q := 77) dX1_init_75 rfl rfl ?_
          refine st_ishl (q := 78) dX1_init_77 rfl ?_
          refine j_top ((2 ^ k : Nat) : Int) (p2k (by omega)) ?_
          refine st_goto (q := 82) dX1_init_78 (by decide) ?_
          exact K4 c71
      · simp only [jif_if]
        refine j_top ((if 1 < dg3 s k then 2 ^ k else 0 : Nat) : Int) (by (repeat' split) <;> omega) ?_
        refine st_ior (q := 83) dX1_init_82 rfl ?_
        refine j_top ((helN s (k + 1) : Nat) : Int) (by rw [e2]; exact ior_n (by omega) (by split <;> omega)) ?_
        refine st_istore (q := 85) dX1_init_83 (by decide) rfl ?_
        refine st_iload_n (q := 86) dX1_init_85 rfl rfl ?_
        refine st_iconst (q := 87) dX1_init_86 ⟨by decide, by decide⟩ rfl ?_
        refine st_idiv (q := 88) dX1_init_87 (by omega) rfl ?_
        refine j_top ((s / 3 ^ (k + 1) : Nat) : Int) (by rw [e3]; exact idiv_n (b := 3) (by omega)) ?_
        refine st_istore_n (q := 89) (i := 2) dX1_init_88 rfl (by decide) rfl ?_
        first | refine n_iinc (q := 92) dX1_init_89 rfl (by decide) rfl ⟨by omega, by omega⟩ ?_ | refine st_iinc (q := 92) dX1_init_89 rfl (by decide) rfl ?_
        refine st_goto (q := 41) dX1_init_92 (by decide) ?_
        exact lp_X1_in hs hK (k + 1) (by omega)
termination_by 6 - k
theorem lp_X1_init {d : Nat} {h : JH} {P : JH → Prop} {F : Nat → Nat → Prop} (hP : ∀ h', Tk 44 h' → RF F h' → GI 44 h' → JE 42 h h' → P h') (r0 : R0 41 0 = some 42) (hF : F 41 0) (s : Nat) (hs : s ≤ 729) : ∀ h' j2 j3 j4 j5, Tk 44 h' → RF F h' → JE 42 h h' → (∀ x y, ¬ Irr x y → hI h' x y = if x < 42 ∨ (x = 42 ∧ y < s) then I0 x y else 0) → JAt (2, 1458, 2, 1458) (d + 1) jX1_init 24 [vr 41, vi s, j2, j3, j4, j5] [] h' (jqv P) := by
  intro h' j2 j3 j4 j5 t r j g
  have k1 := t.kd (a := 41) (c := 1) (by decide) (by decide +kernel)
  have k2 := t.kd (a := 42) (c := 20) (by decide) (by decide +kernel)
  have l2 := t.ln (a := 42) (c := 729) (by decide) (by decide +kernel)
  have rr : hR h' 41 0 = some 42 := ((r 41 0).1 hF).trans r0
  have b1 := outN_b s 6 (by decide)
  have b2 := helN_b s 6 (by decide)
  have nx : s < 729 → ∀ j2 j5, JAt (2, 1458, 2, 1458) (d + 1) jX1_init 95 [vr 41, vi s, j2, vi (outN s 6 : Nat), vi (helN s 6 : Nat), j5] [] h' (jqv P) := by
    intro hs7 j2 j5
    refine st_aload_n (q := 96) dX1_init_95 rfl rfl ?_
    refine st_getR (q := 99) 1 0 dX1_init_96 fl_X1_11 (by decide) (by decide) rfl rfl (by first | exact k1 | exact k2) (rr) ?_
    refine st_iload_n (q := 100) dX1_init_99 rfl rfl ?_
    refine st_iload (q := 102) dX1_init_100 rfl rfl ?_
    refine st_bipush (q := 104) dX1_init_102 ⟨by decide, by decide⟩ rfl ?_
    refine st_ishl (q := 105) dX1_init_104 rfl ?_
    refine j_top ((helN s 6 * 64 : Nat) : Int) (ishl_n (k := 6) (by decide) (by omega)) ?_
    refine st_iload_n (q := 106) dX1_init_105 rfl rfl ?_
    refine st_ior (q := 107) dX1_init_106 rfl ?_
    refine j_top ((helN s 6 * 64 ||| outN s 6 : Nat) : Int) (ior_n (by omega) (by omega)) ?_
    refine st_iastore (q := 108) dX1_init_107 rfl (by first | exact k1 | exact k2) (⟨by omega, by rw [l2]; omega⟩) ?_
    first | refine n_iinc (q := 111) dX1_init_108 rfl (by decide) rfl ⟨by omega, by omega⟩ ?_ | refine st_iinc (q := 111) dX1_init_108 rfl (by decide) rfl ?_
    refine st_goto (q := 24) dX1_init_111 (by decide) ?_
    exact lp_X1_init hP r0 hF (s + 1) (by omega) _ _ _ _ _ t r j (fun x y w => by rw [show ((s : Int)).toNat = s from rfl]; by_cases e : x = 42 ∧ y = s; (rw [sI_I, if_pos e, if_pos (by omega)]; unfold I0; rw [if_neg (by omega), if_pos (by omega), e.2]); (rw [sI_I, if_neg e, g x y w]; by_cases q : x < 42 ∨ (x = 42 ∧ y < s); (rw [if_pos q, if_pos (by omega)]); (rw [if_neg q, if_neg (by omega)])))
  refine st_iload_n (q := 25) dX1_init_24 rfl rfl ?_
  refine st_sipush (q := 28) dX1_init_25 ⟨by decide, by decide⟩ rfl ?_
  refine st_icmp_ge (q := 31) (tgt := 114) dX1_init_28 (by decide) rfl (fun c28 => ?_) (fun c28 => ?_)
  · refine st_return dX1_init_114 rfl ⟨by decide, by decide⟩ ⟨rfl, ?_⟩
    have e : s = 729 := by omega
    subst e
    exact hP _ t r (fun x y w => by rw [g x y w]; by_cases q : x < 42 ∨ (x = 42 ∧ y < 729); (rw [if_pos q, if_pos (by omega)]); (rw [if_neg q]; by_cases q2 : x < 44; (rw [if_pos q2]; unfold I0; (repeat' split) <;> omega); rw [if_neg q2])) j
  · refine st_iload_n (q := 32) dX1_init_31 rfl rfl ?_
    refine st_istore_n (q := 33) (i := 2) dX1_init_32 rfl (by decide) rfl ?_
    refine st_iconst (q := 34) dX1_init_33 ⟨by decide, by decide⟩ rfl ?_
    refine st_istore_n (q := 35) (i := 3) dX1_init_34 rfl (by decide) rfl ?_
    refine st_iconst (q := 36) dX1_init_35 ⟨by decide, by decide⟩ rfl ?_
    refine st_istore (q := 38) dX1_init_36 (by decide) rfl ?_
    refine st_iconst (q := 39) dX1_init_38 ⟨by decide, by decide⟩ rfl ?_
    refine st_istore (q := 41) dX1_init_39 (by decide) rfl ?_
    have t9 := lp_X1_in (d := d) (by omega) (nx (by omega)) 0 (by decide)
    rw [show s / 3 ^ 0 = s by rw [Nat.pow_zero, Nat.div_one]] at t9
    exact t9
termination_by 729 - s
theorem c_X1_init {d : Nat} {h : JH} {P : JH → Prop} {F : Nat → Nat → Prop} (t : Tk 42 h) (r : RF F h) (g : GI 41 h) (hF : ∀ x y, 42 ≤ x → ¬ F x y) (hP : ∀ h', Tk 44 h' → RF (fun x y => (F x y ∨ (x = 41 ∧ y = 0)) ∨ (x = 41 ∧ y = 1)) h' → GI 44 h' → JE 42 h h' → P h') : JRet 2 1458 (d + 1) jX1_init [vr 41] h (jqv P) := by
  have r0 : R0 41 0 = some 42 ∧ R0 41 1 = some 43 := by decide +kernel
  have t1 : Tk 43 (nwR h 20 729 41 0 42) := nwR_T t (by decide) (by decide +kernel)
  have r1 := nwR_F (kind := 20) (n := 729) t r (fun k => hF 42 k (by decide)) r0.1
  have g1 : GI 41 (nwR h 20 729 41 0 42) := nwR_G t g (by decide)
  have j1 : JE 42 h (nwR h 20 729 41 0 42) := nwR_J t JE.rf (by decide)
  have t2 : Tk 44 (nwR (nwR h 20 729 41 0 42) 20 729 41 1 43) := nwR_T t1 (by decide) (by decide +kernel)
  have r2 := nwR_F (kind := 20) (n := 729) t1 r1 (fun k z => z.elim (hF 43 k (by decide)) (fun z => absurd z.1 (by decide))) r0.2
  have g2 : GI 41 (nwR (nwR h 20 729 41 0 42) 20 729 41 1 43) := nwR_G t1 g1 (by decide)
  have j2 : JE 42 h (nwR (nwR h 20 729 41 0 42) 20 729 41 1 43) := nwR_J t1 j1 (by decide)
  have k1 := t1.kd (a := 41) (c := 1) (by decide) (by decide +kernel)
  have k2 := t2.kd (a := 41) (c := 1) (by decide) (by decide +kernel)
  have g3 : ∀ x y, ¬ Irr x y → hI (nwR (nwR h 20 729 41 0 42) 20 729 41 1 43) x y = if x < 42 ∨ (x = 42 ∧ y < 0) then I0 x y else 0 := fun x y w => by
    rw [g2 x y w]
    by_cases q : x < 41
    · rw [if_pos q, if_pos (by omega)]
    · rw [if_neg q]
      by_cases q2 : x = 41
      · rw [if_pos (by omega)]
        unfold I0
        (repeat' split) <;> omega
      · rw [if_neg (by omega)]
  refine JRet.of rfl (Nat.le_of_ble_eq_true rfl) ?_
  refine st_aload_n (q := 1) dX1_init_0 rfl rfl ?_
  refine st_objInit (q := 4) dX1_init_1 rfl ml_X1_3 ob_1 ob_2 (Nat.le_of_ble_eq_true rfl) ?_
  refine st_aload_n (q := 5) dX1_init_4 rfl rfl ?_
  refine st_sipush (q := 8) dX1_init_5 ⟨by decide, by decide⟩ rfl ?_
  refine st_newarray 0 (q := 10) dX1_init_8 rfl (by decide) rfl ac_0 ⟨by decide, by decide⟩ ⟨by decide, by decide⟩ ?_
  refine j_topr _ t.len ?_
  refine st_putR (q := 13) 1 0 dX1_init_10 fl_X1_11 (by decide) (by decide) (Or.inr ⟨rfl, rfl⟩) rfl rfl (by first | exact k1 | exact k2) ?_
  refine st_aload_n (q := 14) dX1_init_13 rfl rfl ?_
  refine st_sipush (q := 17) dX1_init_14 ⟨by decide, by decide⟩ rfl ?_
  refine st_newarray 0 (q := 19) dX1_init_17 rfl (by decide) rfl ac_0 ⟨by decide, by decide⟩ ⟨by decide, by decide⟩ ?_
  refine j_topr 43 t1.len ?_
  refine st_putR (q := 22) 1 1 dX1_init_19 fl_X1_15 (by decide) (by decide) (Or.inr ⟨rfl, rfl⟩) rfl rfl (by first | exact k1 | exact k2) ?_
  refine st_iconst (q := 23) dX1_init_22 ⟨by decide, by decide⟩ rfl ?_
  refine st_istore_n (q := 24) (i := 1) dX1_init_23 rfl (by decide) rfl ?_
  exact lp_X1_init hP r0.1 (Or.inl (Or.inr ⟨rfl, rfl⟩)) 0 (by decide) _ _ _ _ _ t2 r2 j2 g3

