/-! the constructors: the reference -/
def FM (k x y : Nat) : Prop := FS 6 4 x y ∨ (x = 117 ∧ y < k)
def GJ (f : Nat → Nat → Prop) (h : JH) : Prop := ∀ a k, ¬ Irr a k → (f a k → hI h a k = I0 a k) ∧ (¬ f a k → hI h a k = 0)
def IMt (m k : Nat) (f : Nat → Nat → Prop) (v : Int) (h : JH) : Prop := Tk m h ∧ RF (FM k) h ∧ GJ f h ∧ hJ h 0 12 = 0 ∧ hJ h 0 13 = 1 ∧ hJ h 117 3 = 0 ∧ hJ h 117 4 = v
theorem GJ.up {f f' : Nat → Nat → Prop} {h : JH} (g : GJ f h) (z1 : ∀ a k, f a k → f' a k) (z2 : ∀ a k, f' a k → ¬ f a k → I0 a k = 0) : GJ f' h := fun a k w => by
  by_cases q : f a k
  · exact ⟨fun _ => (g a k w).1 q, fun t => absurd (z1 a k q) t⟩
  · exact ⟨fun t => ((g a k w).2 q).trans (z2 a k t q).symm, fun _ => (g a k w).2 q⟩
theorem GJ_sI {f : Nat → Nat → Prop} {h : JH} {a k : Nat} (v : Int) (g : GJ f h) (e : I0 a k = v) : GJ (fun x y => f x y ∨ (x = a ∧ y = k)) (sI h a k v) := fun x y w => by
  by_cases q : x = a ∧ y = k
  · refine ⟨fun _ => ?_, fun t => absurd (Or.inr q) t⟩
    rw [sI_I, if_pos q, q.1, q.2, e]
  · rw [sI_I, if_neg q]
    exact ⟨fun t => (g x y w).1 (t.elim id (fun t => absurd t q)), fun t => (g x y w).2 (fun u => t (Or.inl u))⟩
theorem IMt_nw {m k k' kind n : Nat} {f : Nat → Nat → Prop} {v : Int} {h : JH} (i : IMt m k f v h) (hm : 118 ≤ m ∧ m < 151) (e : S0.getD m (99, 0) = (kind, n)) (e2 : R0 117 k' = some m) (hk : k ≤ k') (z : ∀ y, y < k' → k ≤ y → R0 117 y = none) (fz : ∀ y, ¬ f m y) : IMt (m + 1) (k' + 1) f v (nwR h kind n 117 k' m) := by
  obtain ⟨t, r, g, j1, j2, j3, j4⟩ := i
  have ej : ∀ b y, b < 118 → hJ (nwR h kind n 117 k' m) b y = hJ h b y := fun b y hb => by
    have e : hJ (nwR h kind n 117 k' m) b y = if b = h.1.length then 0 else hJ h b y := rfl
    rw [e, t.len, if_neg (by omega)]
  refine ⟨nwR_T t hm.2 e, ?_, ?_, (ej _ _ (by decide)).trans j1, (ej _ _ (by decide)).trans j2, (ej _ _ (by decide)).trans j3, (ej _ _ (by decide)).trans j4⟩
  · refine (nwR_F (kind := kind) (n := n) t r (fun y => by unfold FM FS FG; omega) e2).fill (fun a y q => ?_) (fun a y q w => ?_)
    · unfold FM at *
      rcases q with (q | q) | q
      · exact Or.inl q
      · exact Or.inr (by omega)
      · exact Or.inr (by omega)
    · rcases q with q | q
      · exact absurd (Or.inl (Or.inl q)) w
      · have w1 : ¬ (a = 117 ∧ y < k) := fun u => w (Or.inl (Or.inr u))
        have w2 : ¬ (a = 117 ∧ y = k') := fun u => w (Or.inr u)
        rw [q.1]
        exact z y (by omega) (by omega)
  · intro x y w
    have e : hI (nwR h kind n 117 k' m) x y = if x = h.1.length then 0 else hI h x y := rfl
    rw [e, t.len]
    by_cases q : x = m
    · subst q
      rw [if_pos rfl]
      exact ⟨fun u => absurd u (fz y), fun _ => rfl⟩
    · rw [if_neg q]; exact g x y w
theorem IMt.ob {m k kind n : Nat} {f : Nat → Nat → Prop} {v : Int} {h : JH} (i : IMt m k f v h) (hm : 118 ≤ m ∧ m < 151) (e : S0.getD m (99, 0) = (kind, n)) : kd (nw h kind n) 117 = 12 := (Tk_nw i.1 hm.2 e).kd (by omega) (by decide +kernel)
theorem IMt.ob0 {m k : Nat} {f : Nat → Nat → Prop} {v : Int} {h : JH} (i : IMt m k f v h) (hm : 118 ≤ m) : kd h 117 = 12 := i.1.kd (by omega) (by decide +kernel)
theorem zR_0 : R0 117 1 = some 118 ∧ ∀ y, y < 1 → 0 ≤ y → R0 117 y = none := by decide +kernel
theorem zR_1 : R0 117 5 = some 119 ∧ ∀ y, y < 5 → 2 ≤ y → R0 117 y = none := by decide +kernel
theorem zR_2 : R0 117 6 = some 120 ∧ ∀ y, y < 6 → 6 ≤ y → R0 117 y = none := by decide +kernel
theorem zR_3 : R0 117 7 = some 121 ∧ ∀ y, y < 7 → 7 ≤ y → R0 117 y = none := by decide +kernel
theorem zR_4 : R0 117 8 = some 122 ∧ ∀ y, y < 8 → 8 ≤ y → R0 117 y = none := by decide +kernel
theorem zR_5 : R0 117 9 = some 123 ∧ ∀ y, y < 9 → 9 ≤ y → R0 117 y = none := by decide +kernel
theorem zR_6 : R0 117 10 = some 124 ∧ ∀ y, y < 10 → 10 ≤ y → R0 117 y = none := by decide +kernel
theorem zR_7 : R0 117 11 = some 125 ∧ ∀ y, y < 11 → 11 ≤ y → R0 117 y = none := by decide +kernel
theorem zR_8 : R0 117 12 = some 126 ∧ ∀ y, y < 12 → 12 ≤ y → R0 117 y = none := by decide +kernel
theorem zR_9 : R0 117 16 = some 127 ∧ ∀ y, y < 16 → 13 ≤ y → R0 117 y = none := by decide +kernel
theorem zR_10 : R0 117 17 = some 128 ∧ ∀ y, y < 17 → 17 ≤ y → R0 117 y = none := by decide +kernel
theorem zR_11 : R0 117 18 = some 129 ∧ ∀ y, y < 18 → 18 ≤ y → R0 117 y = none := by decide +kernel
theorem zR_12 : R0 117 19 = some 130 ∧ ∀ y, y < 19 → 19 ≤ y → R0 117 y = none := by decide +kernel
theorem zR_13 : R0 117 20 = some 131 ∧ ∀ y, y < 20 → 20 ≤ y → R0 117 y = none := by decide +kernel
theorem zR_14 : R0 117 22 = some 132 ∧ ∀ y, y < 22 → 21 ≤ y → R0 117 y = none := by decide +kernel
theorem zR_15 : R0 117 23 = some 133 ∧ ∀ y, y < 23 → 23 ≤ y → R0 117 y = none := by decide +kernel
theorem zR_16 : R0 117 24 = some 134 ∧ ∀ y, y < 24 → 24 ≤ y → R0 117 y = none := by decide +kernel
theorem zR_17 : R0 117 25 = some 135 ∧ ∀ y, y < 25 → 25 ≤ y → R0 117 y = none := by decide +kernel
theorem zR_18 : R0 117 26 = some 136 ∧ ∀ y, y < 26 → 26 ≤ y → R0 117 y = none := by decide +kernel
theorem zR_19 : R0 117 29 = some 137 ∧ ∀ y, y < 29 → 27 ≤ y → R0 117 y = none := by decide +kernel
theorem zR_20 : R0 117 30 = some 138 ∧ ∀ y, y < 30 → 30 ≤ y → R0 117 y = none := by decide +kernel
theorem zR_21 : R0 117 31 = some 139 ∧ ∀ y, y < 31 → 31 ≤ y → R0 117 y = none := by decide +kernel
theorem zR_22 : R0 117 32 = some 140 ∧ ∀ y, y < 32 → 32 ≤ y → R0 117 y = none := by decide +kernel
theorem zR_23 : R0 117 33 = some 141 ∧ ∀ y, y < 33 → 33 ≤ y → R0 117 y = none := by decide +kernel
theorem zR_24 : R0 117 34 = some 142 ∧ ∀ y, y < 34 → 34 ≤ y → R0 117 y = none := by decide +kernel
theorem zR_25 : R0 117 36 = some 143 ∧ ∀ y, y < 36 → 35 ≤ y → R0 117 y = none := by decide +kernel
theorem zR_26 : R0 117 37 = some 144 ∧ ∀ y, y < 37 → 37 ≤ y → R0 117 y = none := by decide +kernel
theorem zR_27 : R0 117 38 = some 145 ∧ ∀ y, y < 38 → 38 ≤ y → R0 117 y = none := by decide +kernel
theorem zR_28 : R0 117 41 = some 146 ∧ ∀ y, y < 41 → 39 ≤ y → R0 117 y = none := by decide +kernel
theorem zR_29 : R0 117 42 = some 147 ∧ ∀ y, y < 42 → 42 ≤ y → R0 117 y = none := by decide +kernel
theorem zR_30 : R0 117 43 = some 148 ∧ ∀ y, y < 43 → 43 ≤ y → R0 117 y = none := by decide +kernel
theorem zR_31 : R0 117 44 = some 149 ∧ ∀ y, y < 44 → 44 ≤ y → R0 117 y = none := by decide +kernel
theorem zR_32 : R0 117 48 = some 150 ∧ ∀ y, y < 48 → 45 ≤ y → R0 117 y = none := by decide +kernel
def fM0 (a _k : Nat) : Prop := a < 117
def fM1 (a k : Nat) : Prop := a < 117 ∨ (a = 117 ∧ k ≤ 13)
def fM2 (a _k : Nat) : Prop := a < 118
def fM3 (i a k : Nat) : Prop := a < 118 ∨ (a = 119 ∧ k < i)
def fM4 (i a k : Nat) : Prop := a < 122 ∨ (a = 122 ∧ k < i)
theorem IMt.li {m k k' : Nat} {f f' : Nat → Nat → Prop} {v x : Int} {h : JH} {a b : Nat} (i : IMt m k f v h) (e : I0 a b = x) (z1 : ∀ a' k', f a' k' ∨ (a' = a ∧ k' = b) → f' a' k') (z2 : ∀ a' k', f' a' k' → ¬ (f a' k' ∨ (a' = a ∧ k' = b)) → I0 a' k' = 0) : IMt m k f' v (sI h a b x) := ⟨i.1, i.2.1, (GJ_sI x i.2.2.1 e).up z1 z2, i.2.2.2⟩
theorem I0_m {k : Nat} (h : k ≠ 13 ∧ k ≠ 14) : I0 117 k = 0 := by
  unfold I0
  (repeat' split) <;> omega
theorem I0_l : I0 117 13 = 30 ∧ I0 117 14 = 2 := by decide +kernel
theorem I0_s {k : Nat} : (k < 6 → I0 119 k = -9) ∧ (6 ≤ k → I0 119 k = 0) ∧ (k < 4 → I0 122 k = -9) ∧ (4 ≤ k → I0 122 k = 0) := by
  unfold I0
  refine ⟨fun h => ?_, fun h => ?_, fun h => ?_, fun h => ?_⟩ <;> (repeat' split) <;> omega
theorem lp_X12_b {d : Nat} {P : JH → Prop} (hP : ∀ h', IMt 151 49 (fM4 4) 1 h' → P h') (i : Nat) (hi : i ≤ 4) : ∀ h', IMt 151 49 (fM4 i) 1 h' → JAt (33, 10268, 33, 10268) (d + 1) jX12_init 314 [vr 117, vi i] [] h' (jqv P) := by
  intro h' I
  have k0 := I.ob0 (by decide)
  have k1 : kd h' 122 = 20 := I.1.kd (by omega) (by decide +kernel)
  have l1 : ln h' 122 = 4 := I.1.ln (by omega) (by decide +kernel)
  have r1 : hR h' 117 8 = some 122 := ((I.2.1 117 8).1 (Or.inr ⟨rfl, by decide⟩)).trans zR_4.1
  refine st_iload_n (q := 315) dX12_init_314 rfl rfl ?_
  refine st_iconst (q := 316) dX12_init_315 ⟨by decide, by decide⟩ rfl ?_
  refine st_icmp_ge (q := 319) (tgt := 333) dX12_init_316 (by decide) rfl (fun c316 => ?_) (fun c316 => ?_)
  · refine st_return dX12_init_333 rfl ⟨by decide, by decide⟩ ⟨rfl, ?_⟩
    have e : i = 4 := by omega
    subst e
    exact hP _ I
  · refine st_aload_n (q := 320) dX12_init_319 rfl rfl ?_
    refine st_getR (q := 323) 12 8 dX12_init_320 fl_X12_26 (by decide) (by decide) rfl rfl (by first | exact k0 | exact k1) (r1) ?_
    refine st_iload_n (q := 324) dX12_init_323 rfl rfl ?_
    refine st_bipush (q := 326) dX12_init_324 ⟨by decide, by decide⟩ rfl ?_
    refine st_iastore (q := 327) dX12_init_326 rfl (by first | exact k0 | exact k1) (⟨by omega, by rw [l1]; omega⟩) ?_
    first | refine n_iinc (q := 330) dX12_init_327 rfl (by decide) rfl ⟨by omega, by omega⟩ ?_ | refine st_iinc (q := 330) dX12_init_327 rfl (by decide) rfl ?_
    refine st_goto (q := 314) dX12_init_330 (by decide) ?_
    exact lp_X12_b hP (i + 1) (by omega) _ (I.li (k' := 0) (I0_s.2.2.1 (by omega)) (fun x y z => by unfold fM4 at *; omega) (fun x y z w => by unfold fM4 at *; omega))
termination_by 4 - i
theorem lp_X12_a {d : Nat} {P : JH → Prop} (hP : ∀ h', IMt 151 49 (fM4 4) 1 h' → P h') (i : Nat) (hi : i ≤ 6) : ∀ h', IMt 151 49 (fM3 i) 1 h' → JAt (33, 10268, 33, 10268) (d + 1) jX12_init 292 [vr 117, vi i] [] h' (jqv P) := by
  intro h' I
  have k0 := I.ob0 (by decide)
  have k1 : kd h' 119 = 20 := I.1.kd (by omega) (by decide +kernel)
  have l1 : ln h' 119 = 6 := I.1.ln (by omega) (by decide +kernel)
  have r1 : hR h' 117 5 = some 119 := ((I.2.1 117 5).1 (Or.inr ⟨rfl, by decide⟩)).trans zR_1.1
  have nx : i = 6 → IMt 151 49 (fM4 0) 1 h' := fun e => ⟨I.1, I.2.1, I.2.2.1.up (fun x y z => by unfold fM3 fM4 at *; omega) (fun x y z w => by
    unfold fM3 fM4 at *
    by_cases q : x = 119
    · rw [q]; exact I0_s.2.1 (by omega)
    · exact I0_z (by omega)), I.2.2.2⟩
  refine st_iload_n (q := 293) dX12_init_292 rfl rfl ?_
  refine st_bipush (q := 295) dX12_init_293 ⟨by decide, by decide⟩ rfl ?_
  refine st_icmp_ge (q := 298) (tgt := 312) dX12_init_295 (by decide) rfl (fun c295 => ?_) (fun c295 => ?_)
  · refine st_iconst (q := 313) dX12_init_312 ⟨by decide, by decide⟩ rfl ?_
    refine st_istore_n (q := 314) (i := 1) dX12_init_313 rfl (by decide) rfl ?_
    exact lp_X12_b hP 0 (by decide) _ (nx (by omega))
  · refine st_aload_n (q := 299) dX12_init_298 rfl rfl ?_
    refine st_getR (q := 302) 12 5 dX12_init_299 fl_X12_17 (by decide) (by decide) rfl rfl (by first | exact k0 | exact k1) (r1) ?_
    refine st_iload_n (q := 303) dX12_init_302 rfl rfl ?_
    refine st_bipush (q := 305) dX12_init_303 ⟨by decide, by decide⟩ rfl ?_
    refine st_iastore (q := 306) dX12_init_305 rfl (by first | exact k0 | exact k1) (⟨by omega, by rw [l1]; omega⟩) ?_
    first | refine n_iinc (q := 309) dX12_init_306 rfl (by decide) rfl ⟨by omega, by omega⟩ ?_ | refine st_iinc (q := 309) dX12_init_306 rfl (by decide) rfl ?_
    refine st_goto (q := 292) dX12_init_309 (by decide) ?_
    exact lp_X12_a hP (i + 1) (by omega) _ (I.li (k' := 0) (I0_s.1 (by omega)) (fun x y z => by unfold fM3 at *; omega) (fun x y z w => by unfold fM3 at *; omega))
termination_by 6 - i
theorem c_X12_init {d : Nat} {h : JH} {P : JH → Prop} (I : IMt 118 0 fM0 0 h) (hP : ∀ h', IMt 151 49 (fM4 4) 1 h' → P h') : JRet 33 10268 (d + 1) jX12_init [vr 117] h (jqv P) := by
  refine JRet.of rfl (Nat.le_of_ble_eq_true rfl) ?_
  refine st_aload_n (q := 1) dX12_init_0 rfl rfl ?_
  refine st_objInit (q := 4) dX12_init_1 rfl ml_X12_1 ob_1 ob_2 (Nat.le_of_ble_eq_true rfl) ?_
  refine st_aload_n (q := 5) dX12_init_4 rfl rfl ?_
  refine st_bipush (q := 7) dX12_init_5 ⟨by decide, by decide⟩ rfl ?_
  refine st_newarray 0 (q := 9) dX12_init_7 rfl (by decide) rfl ac_0 ⟨by decide, by decide⟩ ⟨by decide, by decide⟩ ?_
  refine j_topr 118 I.1.len ?_
  refine st_putR (q := 12) 12 1 dX12_init_9 fl_X12_7 (by decide) (by decide) (Or.inr ⟨rfl, rfl⟩) rfl rfl (I.ob (kind := 20) (n := 6) (by decide) (by decide +kernel)) ?_
  refine j_hp (nwR h 20 6 117 1 118) rfl ?_
  have I1v := IMt_nw (kind := 20) (n := 6) I (by decide) (by decide +kernel) zR_0.1 (by decide) zR_0.2 (fun y => by unfold fM0; omega)
  generalize nwR h 20 6 117 1 118 = h1v at *
  refine st_aload_n (q := 13) dX12_init_12 rfl rfl ?_
  refine st_lconst (q := 14) (x := 1) dX12_init_13 ⟨by decide, by decide, by decide⟩ rfl ?_
  refine st_putJ (q := 17) 12 4 dX12_init_14 fl_X12_13 (by decide) (by decide) (Or.inl rfl) rfl rfl (I1v.ob0 (by decide)) ?_
  have Ilw : IMt 119 2 fM0 1 (sJ h1v 117 4 1) := ⟨I1v.1, I1v.2.1, I1v.2.2.1, I1v.2.2.2.1, I1v.2.2.2.2.1, I1v.2.2.2.2.2.1, rfl⟩
  generalize sJ h1v 117 4 1 = hlw at *
  refine st_aload_n (q := 18) dX12_init_17 rfl rfl ?_
  refine st_bipush (q := 20) dX12_init_18 ⟨by decide, by decide⟩ rfl ?_
  refine st_newarray 0 (q := 22) dX12_init_20 rfl (by decide) rfl ac_0 ⟨by decide, by decide⟩ ⟨by decide, by decide⟩ ?_
  refine j_topr 119 Ilw.1.len ?_
  refine st_putR (q := 25) 12 5 dX12_init_22 fl_X12_17 (by decide) (by decide) (Or.inr ⟨rfl, rfl⟩) rfl rfl (Ilw.ob (kind := 20) (n := 6) (by decide) (by decide +kernel)) ?_
  refine j_hp (nwR hlw 20 6 117 5 119) rfl ?_
  have I2v := IMt_nw (kind := 20) (n := 6) Ilw (by decide) (by decide +kernel) zR_1.1 (by decide) zR_1.2 (fun y => by unfold fM0; omega)
  generalize nwR hlw 20 6 117 5 119 = h2v at *
  refine st_aload_n (q := 26) dX12_init_25 rfl rfl ?_
  refine st_sipush (q := 29) dX12_init_26 ⟨by decide, by decide⟩ rfl ?_
  refine st_newarray 0 (q := 31) dX12_init_29 rfl (by decide) rfl ac_0 ⟨by decide, by decide⟩ ⟨by decide, by decide⟩ ?_
  refine j_topr 120 I2v.1.len ?_
  refine st_putR (q := 34) 12 6 dX12_init_31 fl_X12_20 (by decide) (by decide) (Or.inr ⟨rfl, rfl⟩) rfl rfl (I2v.ob (kind := 20) (n := 240) (by decide) (by decide +kernel)) ?_
  refine j_hp (nwR h2v 20 240 117 6 120) rfl ?_
  have I3v := IMt_nw (kind := 20) (n := 240) I2v (by decide) (by decide +kernel) zR_2.1 (by decide) zR_2.2 (fun y => by unfold fM0; omega)
  generalize nwR h2v 20 240 117 6 120 = h3v at *
  refine st_aload_n (q := 35) dX12_init_34 rfl rfl ?_
  refine st_bipush (q := 37) dX12_init_35 ⟨by decide, by decide⟩ rfl ?_
  refine st_newarray 0 (q := 39) dX12_init_37 rfl (by decide) rfl ac_0 ⟨by decide, by decide⟩ ⟨by decide, by decide⟩ ?_
  refine j_topr 121 I3v.1.len ?_
  refine st_putR (q := 42) 12 7 dX12_init_39 fl_X12_23 (by decide) (by decide) (Or.inr ⟨rfl, rfl⟩) rfl rfl (I3v.ob (kind := 20) (n := 40) (by decide) (by decide +kernel)) ?_
  refine j_hp (nwR h3v 20 40 117 7 121) rfl ?_
  have I4v := IMt_nw (kind := 20) (n := 40) I3v (by decide) (by decide +kernel) zR_3.1 (by decide) zR_3.2 (fun y => by unfold fM0; omega)
  generalize nwR h3v 20 40 117 7 121 = h4v at *
  refine st_aload_n (q := 43) dX12_init_42 rfl rfl ?_
  refine st_iconst (q := 44) dX12_init_43 ⟨by decide, by decide⟩ rfl ?_
  refine st_newarray 0 (q := 46) dX12_init_44 rfl (by decide) rfl ac_0 ⟨by decide, by decide⟩ ⟨by decide, by decide⟩ ?_
  refine j_topr 122 I4v.1.len ?_
  refine st_putR (q := 49) 12 8 dX12_init_46 fl_X12_26 (by decide) (by decide) (Or.inr ⟨rfl, rfl⟩) rfl rfl (I4v.ob (kind := 20) (n := 4) (by decide) (by decide +kernel)) ?_
  refine j_hp (nwR h4v 20 4 117 8 122) rfl ?_
  have I5v := IMt_nw (kind := 20) (n := 4) I4v (by decide) (by decide +kernel) zR_4.1 (by decide) zR_4.2 (fun y => by unfold fM0; omega)
  generalize nwR h4v 20 4 117 8 122 = h5v at *
  refine st_aload_n (q := 50) dX12_init_49 rfl rfl ?_
  refine st_sipush (q := 53) dX12_init_50 ⟨by decide, by decide⟩ rfl ?_
  refine st_newarray 0 (q := 55) dX12_init_53 rfl (by decide) rfl ac_0 ⟨by decide, by decide⟩ ⟨by decide, by decide⟩ ?_
  refine j_topr 123 I5v.1.len ?_
  refine st_putR (q := 58) 12 9 dX12_init_55 fl_X12_29 (by decide) (by decide) (Or.inr ⟨rfl, rfl⟩) rfl rfl (I5v.ob (kind := 20) (n := 240) (by decide) (by decide +kernel)) ?_
  refine j_hp (nwR h5v 20 240 117 9 123) rfl ?_
  have I6v := IMt_nw (kind := 20) (n := 240) I5v (by decide) (by decide +kernel) zR_5.1 (by decide) zR_5.2 (fun y => by unfold fM0; omega)
  generalize nwR h5v 20 240 117 9 123 = h6v at *
  refine st_aload_n (q := 59) dX12_init_58 rfl rfl ?_
  refine st_bipush (q := 61) dX12_init_59 ⟨by decide, by decide⟩ rfl ?_
  refine st_newarray 0 (q := 63) dX12_init_61 rfl (by decide) rfl ac_0 ⟨by decide, by decide⟩ ⟨by decide, by decide⟩ ?_
  refine j_topr 124 I6v.1.len ?_
  refine st_putR (q := 66) 12 10 dX12_init_63 fl_X12_32 (by decide) (by decide) (Or.inr ⟨rfl, rfl⟩) rfl rfl (I6v.ob (kind := 20) (n := 8) (by decide) (by decide +kernel)) ?_
  refine j_hp (nwR h6v 20 8 117 10 124) rfl ?_
  have I7v := IMt_nw (kind := 20) (n := 8) I6v (by decide) (by decide +kernel) zR_6.1 (by decide) zR_6.2 (fun y => by unfold fM0; omega)
  generalize nwR h6v 20 8 117 10 124 = h7v at *
  refine st_aload_n (q := 67) dX12_init_66 rfl rfl ?_
  refine st_bipush (q := 69) dX12_init_67 ⟨by decide, by decide⟩ rfl ?_
  refine st_newarray 0 (q := 71) dX12_init_69 rfl (by decide) rfl ac_0 ⟨by decide, by decide⟩ ⟨by decide, by decide⟩ ?_
  refine j_topr 125 I7v.1.len ?_
  refine st_putR (q := 74) 12 11 dX12_init_71 fl_X12_35 (by decide) (by decide) (Or.inr ⟨rfl, rfl⟩) rfl rfl (I7v.ob (kind := 20) (n := 8) (by decide) (by decide +kernel)) ?_
  refine j_hp (nwR h7v 20 8 117 11 125) rfl ?_
  have I8v := IMt_nw (kind := 20) (n := 8) I7v (by decide) (by decide +kernel) zR_7.1 (by decide) zR_7.2 (fun y => by unfold fM0; omega)
  generalize nwR h7v 20 8 117 11 125 = h8v at *
  refine st_aload_n (q := 75) dX12_init_74 rfl rfl ?_
  refine st_bipush (q := 77) dX12_init_75 ⟨by decide, by decide⟩ rfl ?_
  refine st_newarray 0 (q := 79) dX12_init_77 rfl (by decide) rfl ac_0 ⟨by decide, by decide⟩ ⟨by decide, by decide⟩ ?_
  refine j_topr 126 I8v.1.len ?_
  refine st_putR (q := 82) 12 12 dX12_init_79 fl_X12_38 (by decide) (by decide) (Or.inr ⟨rfl, rfl⟩) rfl rfl (I8v.ob (kind := 20) (n := 8) (by decide) (by decide +kernel)) ?_
  refine j_hp (nwR h8v 20 8 117 12 126) rfl ?_
  have I9v := IMt_nw (kind := 20) (n := 8) I8v (by decide) (by decide +kernel) zR_8.1 (by decide) zR_8.2 (fun y => by unfold fM0; omega)
  generalize nwR h8v 20 8 117 12 126 = h9v at *
  refine st_aload_n (q := 83) dX12_init_82 rfl rfl ?_
  refine st_bipush (q := 85) dX12_init_83 ⟨by decide, by decide⟩ rfl ?_
  refine st_putI (q := 88) 12 13 dX12_init_85 fl_X12_41 (by decide) (by decide) (Or.inl rfl) rfl (Or.inl rfl) (I9v.ob0 (by decide)) ?_
  have Ilf : IMt 127 13 fM1 1 (sI h9v 117 13 30) := I9v.li (k' := 0) I0_l.1 (fun x y z => by unfold fM0 at z; unfold fM1; omega) (fun x y z w => by unfold fM0 at w; unfold fM1 at z; rw [show x = 117 by omega]; exact I0_m (by omega))
  generalize sI h9v 117 13 30 = hlf at *
  refine st_aload_n (q := 89) dX12_init_88 rfl rfl ?_
  refine st_iconst (q := 90) dX12_init_89 ⟨by decide, by decide⟩ rfl ?_
  refine st_putI (q := 93) 12 14 dX12_init_90 fl_X12_45 (by decide) (by decide) (Or.inl rfl) rfl (Or.inl rfl) (Ilf.ob0 (by decide)) ?_
  have Ilg : IMt 127 13 fM2 1 (sI hlf 117 14 2) := Ilf.li (k' := 0) I0_l.2 (fun x y z => by unfold fM1 at z; unfold fM2; omega) (fun x y z w => by unfold fM1 at w; unfold fM2 at z; rw [show x = 117 by omega]; exact I0_m (by omega))
  generalize sI hlf 117 14 2 = hlg at *
  refine st_aload_n (q := 94) dX12_init_93 rfl rfl ?_
  refine st_bipush (q := 96) dX12_init_94 ⟨by decide, by decide⟩ rfl ?_
  refine st_newarray 0 (q := 98) dX12_init_96 rfl (by decide) rfl ac_0 ⟨by decide, by decide⟩ ⟨by decide, by decide⟩ ?_
  refine j_topr 127 Ilg.1.len ?_
  refine st_putR (q := 101) 12 16 dX12_init_98 fl_X12_48 (by decide) (by decide) (Or.inr ⟨rfl, rfl⟩) rfl rfl (Ilg.ob (kind := 20) (n := 12) (by decide) (by decide +kernel)) ?_
  refine j_hp (nwR hlg 20 12 117 16 127) rfl ?_
  have I10v := IMt_nw (kind := 20) (n := 12) Ilg (by decide) (by decide +kernel) zR_9.1 (by decide) zR_9.2 (fun y => by unfold fM2; omega)
  generalize nwR hlg 20 12 117 16 127 = h10v at *
  refine st_aload_n (q := 102) dX12_init_101 rfl rfl ?_
  refine st_bipush (q := 104) dX12_init_102 ⟨by decide, by decide⟩ rfl ?_
  refine st_newarray 0 (q := 106) dX12_init_104 rfl (by decide) rfl ac_0 ⟨by decide, by decide⟩ ⟨by decide, by decide⟩ ?_
  refine j_topr 128 I10v.1.len ?_
  refine st_putR (q := 109) 12 17 dX12_init_106 fl_X12_51 (by decide) (by decide) (Or.inr ⟨rfl, rfl⟩) rfl rfl (I10v.ob (kind := 20) (n := 12) (by decide) (by decide +kernel)) ?_
  refine j_hp (nwR h10v 20 12 117 17 128) rfl ?_
  have I11v := IMt_nw (kind := 20) (n := 12) I10v (by decide) (by decide +kernel) zR_10.1 (by decide) zR_10.2 (fun y => by unfold fM2; omega)
  generalize nwR h10v 20 12 117 17 128 = h11v at *
  refine st_aload_n (q := 110) dX12_init_109 rfl rfl ?_
  refine st_bipush (q := 112) dX12_init_110 ⟨by decide, by decide⟩ rfl ?_
  refine st_newarray 0 (q := 114) dX12_init_112 rfl (by decide) rfl ac_0 ⟨by decide, by decide⟩ ⟨by decide, by decide⟩ ?_
  refine j_topr 129 I11v.1.len ?_
  refine st_putR (q := 117) 12 18 dX12_init_114 fl_X12_54 (by decide) (by decide) (Or.inr ⟨rfl, rfl⟩) rfl rfl (I11v.ob (kind := 20) (n := 12) (by decide) (by decide +kernel)) ?_
  refine j_hp (nwR h11v 20 12 117 18 129) rfl ?_
  have I12v := IMt_nw (kind := 20) (n := 12) I11v (by decide) (by decide +kernel) zR_11.1 (by decide) zR_11.2 (fun y => by unfold fM2; omega)
  generalize nwR h11v 20 12 117 18 129 = h12v at *
  refine st_aload_n (q := 118) dX12_init_117 rfl rfl ?_
  refine st_bipush (q := 120) dX12_init_118 ⟨by decide, by decide⟩ rfl ?_
  refine st_newarray 0 (q := 122) dX12_init_120 rfl (by decide) rfl ac_0 ⟨by decide, by decide⟩ ⟨by decide, by decide⟩ ?_
  refine j_topr 130 I12v.1.len ?_
  refine st_putR (q := 125) 12 19 dX12_init_122 fl_X12_57 (by decide) (by decide) (Or.inr ⟨rfl, rfl⟩) rfl rfl (I12v.ob (kind := 20) (n := 12) (by decide) (by decide +kernel)) ?_
  refine j_hp (nwR h12v 20 12 117 19 130) rfl ?_
  have I13v := IMt_nw (kind := 20) (n := 12) I12v (by decide) (by decide +kernel) zR_12.1 (by decide) zR_12.2 (fun y => by unfold fM2; omega)
  generalize nwR h12v 20 12 117 19 130 = h13v at *
  refine st_aload_n (q := 126) dX12_init_125 rfl rfl ?_
  refine st_bipush (q := 128) dX12_init_126 ⟨by decide, by decide⟩ rfl ?_
  refine st_newarray 0 (q := 130) dX12_init_128 rfl (by decide) rfl ac_0 ⟨by decide, by decide⟩ ⟨by decide, by decide⟩ ?_
  refine j_topr 131 I13v.1.len ?_
  refine st_putR (q := 133) 12 20 dX12_init_130 fl_X12_60 (by decide) (by decide) (Or.inr ⟨rfl, rfl⟩) rfl rfl (I13v.ob (kind := 20) (n := 12) (by decide) (by decide +kernel)) ?_
  refine j_hp (nwR h13v 20 12 117 20 131) rfl ?_
  have I14v := IMt_nw (kind := 20) (n := 12) I13v (by decide) (by decide +kernel) zR_13.1 (by decide) zR_13.2 (fun y => by unfold fM2; omega)
  generalize nwR h13v 20 12 117 20 131 = h14v at *
  refine st_aload_n (q := 134) dX12_init_133 rfl rfl ?_
  refine st_bipush (q := 136) dX12_init_134 ⟨by decide, by decide⟩ rfl ?_
  refine st_newarray 0 (q := 138) dX12_init_136 rfl (by decide) rfl ac_0 ⟨by decide, by decide⟩ ⟨by decide, by decide⟩ ?_
  refine j_topr 132 I14v.1.len ?_
  refine st_putR (q := 141) 12 22 dX12_init_138 fl_X12_63 (by decide) (by decide) (Or.inr ⟨rfl, rfl⟩) rfl rfl (I14v.ob (kind := 20) (n := 12) (by decide) (by decide +kernel)) ?_
  refine j_hp (nwR h14v 20 12 117 22 132) rfl ?_
  have I15v := IMt_nw (kind := 20) (n := 12) I14v (by decide) (by decide +kernel) zR_14.1 (by decide) zR_14.2 (fun y => by unfold fM2; omega)
  generalize nwR h14v 20 12 117 22 132 = h15v at *
  refine st_aload_n (q := 142) dX12_init_141 rfl rfl ?_
  refine st_bipush (q := 144) dX12_init_142 ⟨by decide, by decide⟩ rfl ?_
  refine st_newarray 0 (q := 146) dX12_init_144 rfl (by decide) rfl ac_0 ⟨by decide, by decide⟩ ⟨by decide, by decide⟩ ?_
  refine j_topr 133 I15v.1.len ?_
  refine st_putR (q := 149) 12 23 dX12_init_146 fl_X12_66 (by decide) (by decide) (Or.inr ⟨rfl, rfl⟩) rfl rfl (I15v.ob (kind := 20) (n := 12) (by decide) (by decide +kernel)) ?_
  refine j_hp (nwR h15v 20 12 117 23 133) rfl ?_
  have I16v := IMt_nw (kind := 20) (n := 12) I15v (by decide) (by decide +kernel) zR_15.1 (by decide) zR_15.2 (fun y => by unfold fM2; omega)
  generalize nwR h15v 20 12 117 23 133 = h16v at *
  refine st_aload_n (q := 150) dX12_init_149 rfl rfl ?_
  refine st_bipush (q := 152) dX12_init_150 ⟨by decide, by decide⟩ rfl ?_
  refine st_newarray 0 (q := 154) dX12_init_152 rfl (by decide) rfl ac_0 ⟨by decide, by decide⟩ ⟨by decide, by decide⟩ ?_
  refine j_topr 134 I16v.1.len ?_
  refine st_putR (q := 157) 12 24 dX12_init_154 fl_X12_69 (by decide) (by decide) (Or.inr ⟨rfl, rfl⟩) rfl rfl (I16v.ob (kind := 20) (n := 12) (by decide) (by decide +kernel)) ?_
  refine j_hp (nwR h16v 20 12 117 24 134) rfl ?_
  have I17v := IMt_nw (kind := 20) (n := 12) I16v (by decide) (by decide +kernel) zR_16.1 (by decide) zR_16.2 (fun y => by unfold fM2; omega)
  generalize nwR h16v 20 12 117 24 134 = h17v at *
  refine st_aload_n (q := 158) dX12_init_157 rfl rfl ?_
  refine st_bipush (q := 160) dX12_init_158 ⟨by decide, by decide⟩ rfl ?_
  refine st_newarray 0 (q := 162) dX12_init_160 rfl (by decide) rfl ac_0 ⟨by decide, by decide⟩ ⟨by decide, by decide⟩ ?_
  refine j_topr 135 I17v.1.len ?_
  refine st_putR (q := 165) 12 25 dX12_init_162 fl_X12_72 (by decide) (by decide) (Or.inr ⟨rfl, rfl⟩) rfl rfl (I17v.ob (kind := 20) (n := 12) (by decide) (by decide +kernel)) ?_
  refine j_hp (nwR h17v 20 12 117 25 135) rfl ?_
  have I18v := IMt_nw (kind := 20) (n := 12) I17v (by decide) (by decide +kernel) zR_17.1 (by decide) zR_17.2 (fun y => by unfold fM2; omega)
  generalize nwR h17v 20 12 117 25 135 = h18v at *
  refine st_aload_n (q := 166) dX12_init_165 rfl rfl ?_
  refine st_bipush (q := 168) dX12_init_166 ⟨by decide, by decide⟩ rfl ?_
  refine st_newarray 0 (q := 170) dX12_init_168 rfl (by decide) rfl ac_0 ⟨by decide, by decide⟩ ⟨by decide, by decide⟩ ?_
  refine j_topr 136 I18v.1.len ?_
  refine st_putR (q := 173) 12 26 dX12_init_170 fl_X12_75 (by decide) (by decide) (Or.inr ⟨rfl, rfl⟩) rfl rfl (I18v.ob (kind := 20) (n := 12) (by decide) (by decide +kernel)) ?_
  refine j_hp (nwR h18v 20 12 117 26 136) rfl ?_
  have I19v := IMt_nw (kind := 20) (n := 12) I18v (by decide) (by decide +kernel) zR_18.1 (by decide) zR_18.2 (fun y => by unfold fM2; omega)
  generalize nwR h18v 20 12 117 26 136 = h19v at *
  refine st_aload_n (q := 174) dX12_init_173 rfl rfl ?_
  refine st_bipush (q := 176) dX12_init_174 ⟨by decide, by decide⟩ rfl ?_
  refine st_newarray 0 (q := 178) dX12_init_176 rfl (by decide) rfl ac_0 ⟨by decide, by decide⟩ ⟨by decide, by decide⟩ ?_
  refine j_topr 137 I19v.1.len ?_
  refine st_putR (q := 181) 12 29 dX12_init_178 fl_X12_78 (by decide) (by decide) (Or.inr ⟨rfl, rfl⟩) rfl rfl (I19v.ob (kind := 20) (n := 12) (by decide) (by decide +kernel)) ?_
  refine j_hp (nwR h19v 20 12 117 29 137) rfl ?_
  have I20v := IMt_nw (kind := 20) (n := 12) I19v (by decide) (by decide +kernel) zR_19.1 (by decide) zR_19.2 (fun y => by unfold fM2; omega)
  generalize nwR h19v 20 12 117 29 137 = h20v at *
  refine st_aload_n (q := 182) dX12_init_181 rfl rfl ?_
  refine st_bipush (q := 184) dX12_init_182 ⟨by decide, by decide⟩ rfl ?_
  refine st_newarray 0 (q := 186) dX12_init_184 rfl (by decide) rfl ac_0 ⟨by decide, by decide⟩ ⟨by decide, by decide⟩ ?_
  refine j_topr 138 I20v.1.len ?_
  refine st_putR (q := 189) 12 30 dX12_init_186 fl_X12_81 (by decide) (by decide) (Or.inr ⟨rfl, rfl⟩) rfl rfl (I20v.ob (kind := 20) (n := 12) (by decide) (by decide +kernel)) ?_
  refine j_hp (nwR h20v 20 12 117 30 138) rfl ?_
  have I21v := IMt_nw (kind := 20) (n := 12) I20v (by decide) (by decide +kernel) zR_20.1 (by decide) zR_20.2 (fun y => by unfold fM2; omega)
  generalize nwR h20v 20 12 117 30 138 = h21v at *
  refine st_aload_n (q := 190) dX12_init_189 rfl rfl ?_
  refine st_bipush (q := 192) dX12_init_190 ⟨by decide, by decide⟩ rfl ?_
  refine st_newarray 0 (q := 194) dX12_init_192 rfl (by decide) rfl ac_0 ⟨by decide, by decide⟩ ⟨by decide, by decide⟩ ?_
  refine j_topr 139 I21v.1.len ?_
  refine st_putR (q := 197) 12 31 dX12_init_194 fl_X12_84 (by decide) (by decide) (Or.inr ⟨rfl, rfl⟩) rfl rfl (I21v.ob (kind := 20) (n := 12) (by decide) (by decide +kernel)) ?_
  refine j_hp (nwR h21v 20 12 117 31 139) rfl ?_
  have I22v := IMt_nw (kind := 20) (n := 12) I21v (by decide) (by decide +kernel) zR_21.1 (by decide) zR_21.2 (fun y => by unfold fM2; omega)
  generalize nwR h21v 20 12 117 31 139 = h22v at *
  refine st_aload_n (q := 198) dX12_init_197 rfl rfl ?_
  refine st_sipush (q := 201) dX12_init_198 ⟨by decide, by decide⟩ rfl ?_
  refine st_newarray 0 (q := 203) dX12_init_201 rfl (by decide) rfl ac_0 ⟨by decide, by decide⟩ ⟨by decide, by decide⟩ ?_
  refine j_topr 140 I22v.1.len ?_
  refine st_putR (q := 206) 12 32 dX12_init_203 fl_X12_87 (by decide) (by decide) (Or.inr ⟨rfl, rfl⟩) rfl rfl (I22v.ob (kind := 20) (n := 4096) (by decide) (by decide +kernel)) ?_
  refine j_hp (nwR h22v 20 4096 117 32 140) rfl ?_
  have I23v := IMt_nw (kind := 20) (n := 4096) I22v (by decide) (by decide +kernel) zR_22.1 (by decide) zR_22.2 (fun y => by unfold fM2; omega)
  generalize nwR h22v 20 4096 117 32 140 = h23v at *
  refine st_aload_n (q := 207) dX12_init_206 rfl rfl ?_
  refine st_sipush (q := 210) dX12_init_207 ⟨by decide, by decide⟩ rfl ?_
  refine st_newarray 0 (q := 212) dX12_init_210 rfl (by decide) rfl ac_0 ⟨by decide, by decide⟩ ⟨by decide, by decide⟩ ?_
  refine j_topr 141 I23v.1.len ?_
  refine st_putR (q := 215) 12 33 dX12_init_212 fl_X12_90 (by decide) (by decide) (Or.inr ⟨rfl, rfl⟩) rfl rfl (I23v.ob (kind := 20) (n := 4096) (by decide) (by decide +kernel)) ?_
  refine j_hp (nwR h23v 20 4096 117 33 141) rfl ?_
  have I24v := IMt_nw (kind := 20) (n := 4096) I23v (by decide) (by decide +kernel) zR_23.1 (by decide) zR_23.2 (fun y => by unfold fM2; omega)
  generalize nwR h23v 20 4096 117 33 141 = h24v at *
  refine st_aload_n (q := 216) dX12_init_215 rfl rfl ?_
  refine st_bipush (q := 218) dX12_init_216 ⟨by decide, by decide⟩ rfl ?_
  refine st_newarray 0 (q := 220) dX12_init_218 rfl (by decide) rfl ac_0 ⟨by decide, by decide⟩ ⟨by decide, by decide⟩ ?_
  refine j_topr 142 I24v.1.len ?_
  refine st_putR (q := 223) 12 34 dX12_init_220 fl_X12_93 (by decide) (by decide) (Or.inr ⟨rfl, rfl⟩) rfl rfl (I24v.ob (kind := 20) (n := 8) (by decide) (by decide +kernel)) ?_
  refine j_hp (nwR h24v 20 8 117 34 142) rfl ?_
  have I25v := IMt_nw (kind := 20) (n := 8) I24v (by decide) (by decide +kernel) zR_24.1 (by decide) zR_24.2 (fun y => by unfold fM2; omega)
  generalize nwR h24v 20 8 117 34 142 = h25v at *
  refine st_aload_n (q := 224) dX12_init_223 rfl rfl ?_
  refine st_bipush (q := 226) dX12_init_224 ⟨by decide, by decide⟩ rfl ?_
  refine st_newarray 0 (q := 228) dX12_init_226 rfl (by decide) rfl ac_0 ⟨by decide, by decide⟩ ⟨by decide, by decide⟩ ?_
  refine j_topr 143 I25v.1.len ?_
  refine st_putR (q := 231) 12 36 dX12_init_228 fl_X12_96 (by decide) (by decide) (Or.inr ⟨rfl, rfl⟩) rfl rfl (I25v.ob (kind := 20) (n := 96) (by decide) (by decide +kernel)) ?_
  refine j_hp (nwR h25v 20 96 117 36 143) rfl ?_
  have I26v := IMt_nw (kind := 20) (n := 96) I25v (by decide) (by decide +kernel) zR_25.1 (by decide) zR_25.2 (fun y => by unfold fM2; omega)
  generalize nwR h25v 20 96 117 36 143 = h26v at *
  refine st_aload_n (q := 232) dX12_init_231 rfl rfl ?_
  refine st_bipush (q := 234) dX12_init_232 ⟨by decide, by decide⟩ rfl ?_
  refine st_newarray 0 (q := 236) dX12_init_234 rfl (by decide) rfl ac_0 ⟨by decide, by decide⟩ ⟨by decide, by decide⟩ ?_
  refine j_topr 144 I26v.1.len ?_
  refine st_putR (q := 239) 12 37 dX12_init_236 fl_X12_99 (by decide) (by decide) (Or.inr ⟨rfl, rfl⟩) rfl rfl (I26v.ob (kind := 20) (n := 8) (by decide) (by decide +kernel)) ?_
  refine j_hp (nwR h26v 20 8 117 37 144) rfl ?_
  have I27v := IMt_nw (kind := 20) (n := 8) I26v (by decide) (by decide +kernel) zR_26.1 (by decide) zR_26.2 (fun y => by unfold fM2; omega)
  generalize nwR h26v 20 8 117 37 144 = h27v at *
  refine st_aload_n (q := 240) dX12_init_239 rfl rfl ?_
  refine st_bipush (q := 242) dX12_init_240 ⟨by decide, by decide⟩ rfl ?_
  refine st_newarray 0 (q := 244) dX12_init_242 rfl (by decide) rfl ac_0 ⟨by decide, by decide⟩ ⟨by decide, by decide⟩ ?_
  refine j_topr 145 I27v.1.len ?_
  refine st_putR (q := 247) 12 38 dX12_init_244 fl_X12_102 (by decide) (by decide) (Or.inr ⟨rfl, rfl⟩) rfl rfl (I27v.ob (kind := 20) (n := 8) (by decide) (by decide +kernel)) ?_
  refine j_hp (nwR h27v 20 8 117 38 145) rfl ?_
  have I28v := IMt_nw (kind := 20) (n := 8) I27v (by decide) (by decide +kernel) zR_27.1 (by decide) zR_27.2 (fun y => by unfold fM2; omega)
  generalize nwR h27v 20 8 117 38 145 = h28v at *
  refine st_aload_n (q := 248) dX12_init_247 rfl rfl ?_
  refine st_bipush (q := 250) dX12_init_248 ⟨by decide, by decide⟩ rfl ?_
  refine st_newarray 0 (q := 252) dX12_init_250 rfl (by decide) rfl ac_0 ⟨by decide, by decide⟩ ⟨by decide, by decide⟩ ?_
  refine j_topr 146 I28v.1.len ?_
  refine st_putR (q := 255) 12 41 dX12_init_252 fl_X12_105 (by decide) (by decide) (Or.inr ⟨rfl, rfl⟩) rfl rfl (I28v.ob (kind := 20) (n := 8) (by decide) (by decide +kernel)) ?_
  refine j_hp (nwR h28v 20 8 117 41 146) rfl ?_
  have I29v := IMt_nw (kind := 20) (n := 8) I28v (by decide) (by decide +kernel) zR_28.1 (by decide) zR_28.2 (fun y => by unfold fM2; omega)
  generalize nwR h28v 20 8 117 41 146 = h29v at *
  refine st_aload_n (q := 256) dX12_init_255 rfl rfl ?_
  refine st_bipush (q := 258) dX12_init_256 ⟨by decide, by decide⟩ rfl ?_
  refine st_newarray 0 (q := 260) dX12_init_258 rfl (by decide) rfl ac_0 ⟨by decide, by decide⟩ ⟨by decide, by decide⟩ ?_
  refine j_topr 147 I29v.1.len ?_
  refine st_putR (q := 263) 12 42 dX12_init_260 fl_X12_108 (by decide) (by decide) (Or.inr ⟨rfl, rfl⟩) rfl rfl (I29v.ob (kind := 20) (n := 8) (by decide) (by decide +kernel)) ?_
  refine j_hp (nwR h29v 20 8 117 42 147) rfl ?_
  have I30v := IMt_nw (kind := 20) (n := 8) I29v (by decide) (by decide +kernel) zR_29.1 (by decide) zR_29.2 (fun y => by unfold fM2; omega)
  generalize nwR h29v 20 8 117 42 147 = h30v at *
  refine st_aload_n (q := 264) dX12_init_263 rfl rfl ?_
  refine st_sipush (q := 267) dX12_init_264 ⟨by decide, by decide⟩ rfl ?_
  refine st_newarray 1 (q := 269) dX12_init_267 rfl (by decide) rfl ac_1 ⟨by decide, by decide⟩ ⟨by decide, by decide⟩ ?_
  refine j_topr 148 I30v.1.len ?_
  refine st_putR (q := 272) 12 43 dX12_init_269 fl_X12_111 (by decide) (by decide) (Or.inr ⟨rfl, rfl⟩) rfl rfl (I30v.ob (kind := 21) (n := 512) (by decide) (by decide +kernel)) ?_
  refine j_hp (nwR h30v 21 512 117 43 148) rfl ?_
  have I31v := IMt_nw (kind := 21) (n := 512) I30v (by decide) (by decide +kernel) zR_30.1 (by decide) zR_30.2 (fun y => by unfold fM2; omega)
  generalize nwR h30v 21 512 117 43 148 = h31v at *
  refine st_aload_n (q := 273) dX12_init_272 rfl rfl ?_
  refine st_sipush (q := 276) dX12_init_273 ⟨by decide, by decide⟩ rfl ?_
  refine st_newarray 0 (q := 278) dX12_init_276 rfl (by decide) rfl ac_0 ⟨by decide, by decide⟩ ⟨by decide, by decide⟩ ?_
  refine j_topr 149 I31v.1.len ?_
  refine st_putR (q := 281) 12 44 dX12_init_278 fl_X12_115 (by decide) (by decide) (Or.inr ⟨rfl, rfl⟩) rfl rfl (I31v.ob (kind := 20) (n := 512) (by decide) (by decide +kernel)) ?_
  refine j_hp (nwR h31v 20 512 117 44 149) rfl ?_
  have I32v := IMt_nw (kind := 20) (n := 512) I31v (by decide) (by decide +kernel) zR_31.1 (by decide) zR_31.2 (fun y => by unfold fM2; omega)
  generalize nwR h31v 20 512 117 44 149 = h32v at *
  refine st_aload_n (q := 282) dX12_init_281 rfl rfl ?_
  refine st_sipush (q := 285) dX12_init_282 ⟨by decide, by decide⟩ rfl ?_
  refine st_newarray 0 (q := 287) dX12_init_285 rfl (by decide) rfl ac_0 ⟨by decide, by decide⟩ ⟨by decide, by decide⟩ ?_
  refine j_topr 150 I32v.1.len ?_
  refine st_putR (q := 290) 12 48 dX12_init_287 fl_X12_118 (by decide) (by decide) (Or.inr ⟨rfl, rfl⟩) rfl rfl (I32v.ob (kind := 20) (n := 200) (by decide) (by decide +kernel)) ?_
  refine j_hp (nwR h32v 20 200 117 48 150) rfl ?_
  have I33v := IMt_nw (kind := 20) (n := 200) I32v (by decide) (by decide +kernel) zR_32.1 (by decide) zR_32.2 (fun y => by unfold fM2; omega)
  generalize nwR h32v 20 200 117 48 150 = h33v at *
  refine st_iconst (q := 291) dX12_init_290 ⟨by decide, by decide⟩ rfl ?_
  refine st_istore_n (q := 292) (i := 1) dX12_init_291 rfl (by decide) rfl ?_
  refine j_kap (kap_e (c' := 33) (e' := 10268) (by decide +kernel) (by decide +kernel)) ?_
  exact lp_X12_a hP 0 (by decide) _ ⟨I33v.1, I33v.2.1, I33v.2.2.1.up (fun x y z => by unfold fM2 at z; unfold fM3; omega) (fun x y z w => by unfold fM2 at w; unfold fM3 at z; omega), I33v.2.2.2⟩

