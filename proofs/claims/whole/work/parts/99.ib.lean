/-! the constructors: strips, the trunk, the signs, the stage -/
theorem j_kap {κ κ' : JK} {d : Nat} {y : JM} {pc : Nat} {ls st : List JV} {h : JH} {Q : Option JV → JH → Prop} (e : κ = κ') (k : JAt κ' d y pc ls st h Q) : JAt κ d y pc ls st h Q := by rw [e]; exact k
theorem j_topr {κ : JK} {d : Nat} {y : JM} {pc : Nat} {ls st : List JV} {h : JH} {Q : Option JV → JH → Prop} {x : Nat} (x' : Nat) (e : x = x') (k : JAt κ d y pc ls (vr x' :: st) h Q) : JAt κ d y pc ls (vr x :: st) h Q := by subst e; exact k
theorem kap_e {a b c c' e e' : Nat} (h1 : c = c') (h2 : e = e') : ((a, b, c, e) : JK) = (a, b, c', e') := by rw [h1, h2]
theorem c_X9_init {d : Nat} {h : JH} {P : JH → Prop} {m a : Nat} (t : Tk m h) (hm : m < 151) (ha : a < m) (hk : (S0.getD a (99, 0)).1 = 9) (hs : S0.getD m (99, 0) = (20, 60)) (hP : P (sI (sR (nw h 20 60) a 0 (some m)) a 1 (-1))) : JRet 1 60 (d + 1) jX9_init [vr a] h (jqv P) := by
  have t1 := Tk_nw t hm hs
  have ob := t1.kd (show a < m + 1 by omega) hk
  refine JRet.of rfl (Nat.le_of_ble_eq_true rfl) ?_
  refine st_aload_n (q := 1) dX9_init_0 rfl rfl ?_
  refine st_objInit (q := 4) dX9_init_1 rfl ml_X9_3 ob_1 ob_2 (Nat.le_of_ble_eq_true rfl) ?_
  refine st_aload_n (q := 5) dX9_init_4 rfl rfl ?_
  refine st_bipush (q := 7) dX9_init_5 ⟨by decide, by decide⟩ rfl ?_
  refine st_newarray 0 (q := 9) dX9_init_7 rfl (by decide) rfl ac_0 ⟨by decide, by decide⟩ ⟨by decide, by decide⟩ ?_
  refine j_topr _ t.len ?_
  refine st_putR (q := 12) 9 0 dX9_init_9 fl_X9_9 (by decide) (by decide) (Or.inr ⟨rfl, rfl⟩) rfl rfl (ob) ?_
  refine st_aload_n (q := 13) dX9_init_12 rfl rfl ?_
  refine st_iconst (q := 14) dX9_init_13 ⟨by decide, by decide⟩ rfl ?_
  refine st_putI (q := 17) 9 1 dX9_init_14 fl_X9_15 (by decide) (by decide) (Or.inl rfl) rfl (Or.inl rfl) (ob) ?_
  refine st_return dX9_init_17 rfl ⟨by decide, by decide⟩ ⟨rfl, ?_⟩
  exact hP
theorem c_X10_init {d : Nat} {h : JH} {P : JH → Prop} (t : Tk 45 h) (hP : P (sR (nw (sR (nw (sI (sR (nw h 20 96) 44 0 (some 45)) 44 1 0) 20 8) 44 2 (some 46)) 20 256) 44 3 (some 47))) : JRet 3 360 (d + 1) jX10_init [vr 44] h (jqv P) := by
  have t1 : Tk 46 (nw h 20 96) := Tk_nw t (by decide) (by decide +kernel)
  have t2 : Tk 46 (sI (sR (nw h 20 96) 44 0 (some 45)) 44 1 0) := t1
  have t3 : Tk 47 (nw (sI (sR (nw h 20 96) 44 0 (some 45)) 44 1 0) 20 8) := Tk_nw t2 (by decide) (by decide +kernel)
  have t4 : Tk 47 (sR (nw (sI (sR (nw h 20 96) 44 0 (some 45)) 44 1 0) 20 8) 44 2 (some 46)) := t3
  have t5 := Tk_nw t4 (k := 20) (n := 256) (by decide) (by decide +kernel)
  have o1 := t1.kd (a := 44) (c := 10) (by decide) (by decide +kernel)
  have o3 := t3.kd (a := 44) (c := 10) (by decide) (by decide +kernel)
  have o5 := t5.kd (a := 44) (c := 10) (by decide) (by decide +kernel)
  refine JRet.of rfl (Nat.le_of_ble_eq_true rfl) ?_
  refine st_aload_n (q := 1) dX10_init_0 rfl rfl ?_
  refine st_objInit (q := 4) dX10_init_1 rfl ml_X10_3 ob_1 ob_2 (Nat.le_of_ble_eq_true rfl) ?_
  refine st_aload_n (q := 5) dX10_init_4 rfl rfl ?_
  refine st_bipush (q := 7) dX10_init_5 ⟨by decide, by decide⟩ rfl ?_
  refine st_newarray 0 (q := 9) dX10_init_7 rfl (by decide) rfl ac_0 ⟨by decide, by decide⟩ ⟨by decide, by decide⟩ ?_
  refine j_topr _ t.len ?_
  refine st_putR (q := 12) 10 0 dX10_init_9 fl_X10_9 (by decide) (by decide) (Or.inr ⟨rfl, rfl⟩) rfl rfl (by first | exact o1 | exact o3 | exact o5) ?_
  refine st_aload_n (q := 13) dX10_init_12 rfl rfl ?_
  refine st_iconst (q := 14) dX10_init_13 ⟨by decide, by decide⟩ rfl ?_
  refine st_putI (q := 17) 10 1 dX10_init_14 fl_X10_15 (by decide) (by decide) (Or.inl rfl) rfl (Or.inl rfl) (by first | exact o1 | exact o3 | exact o5) ?_
  refine st_aload_n (q := 18) dX10_init_17 rfl rfl ?_
  refine st_bipush (q := 20) dX10_init_18 ⟨by decide, by decide⟩ rfl ?_
  refine st_newarray 0 (q := 22) dX10_init_20 rfl (by decide) rfl ac_0 ⟨by decide, by decide⟩ ⟨by decide, by decide⟩ ?_
  refine j_topr 46 t2.len ?_
  refine st_putR (q := 25) 10 2 dX10_init_22 fl_X10_19 (by decide) (by decide) (Or.inr ⟨rfl, rfl⟩) rfl rfl (by first | exact o1 | exact o3 | exact o5) ?_
  refine st_aload_n (q := 26) dX10_init_25 rfl rfl ?_
  refine st_sipush (q := 29) dX10_init_26 ⟨by decide, by decide⟩ rfl ?_
  refine st_newarray 0 (q := 31) dX10_init_29 rfl (by decide) rfl ac_0 ⟨by decide, by decide⟩ ⟨by decide, by decide⟩ ?_
  refine j_topr 47 t4.len ?_
  refine st_putR (q := 34) 10 3 dX10_init_31 fl_X10_22 (by decide) (by decide) (Or.inr ⟨rfl, rfl⟩) rfl rfl (by first | exact o1 | exact o3 | exact o5) ?_
  refine st_return dX10_init_34 rfl ⟨by decide, by decide⟩ ⟨rfl, ?_⟩
  exact hP
/-- a row of new arrays, each put into a field -/
def nwR (h : JH) (kind n a k m : Nat) : JH := sR (nw h kind n) a k (some m)
theorem nwR_T {m kind n a k : Nat} {h : JH} (t : Tk m h) (hm : m < 151) (e : S0.getD m (99, 0) = (kind, n)) : Tk (m + 1) (nwR h kind n a k m) := Tk_nw t hm e
theorem nwR_F {F : Nat → Nat → Prop} {m kind n a k : Nat} {h : JH} (t : Tk m h) (r : RF F h) (z : ∀ k, ¬ F m k) (e : R0 a k = some m) : RF (fun x y => F x y ∨ (x = a ∧ y = k)) (nwR h kind n a k m) := (RF_nw r t z).sR e
theorem nwR_G {D m kind n a k : Nat} {h : JH} (t : Tk m h) (g : GI D h) (z : D ≤ m) : GI D (nwR h kind n a k m) := GI_nw (k := kind) (n := n) g t z
theorem nwR_J {m m' kind n a k x : Nat} {h h' : JH} (t : Tk m' h') (j : JE m h h') (z : m ≤ m') : JE m h (nwR h' kind n a k x) := JE_nw (k := kind) (n := n) j t z
theorem c_X6_init {d : Nat} {h : JH} {P : JH → Prop} (t : Tk 49 h) (hP : P (sI (nwR (nwR (nwR (nwR (nwR h 20 8 48 0 49) 20 64 48 1 50) 20 8 48 2 51) 20 64 48 3 52) 21 64 48 4 53) 48 5 0)) : JRet 5 208 (d + 1) jX6_init [vr 48] h (jqv P) := by
  have t1 : Tk 50 (nwR h 20 8 48 0 49) := nwR_T t (by decide) (by decide +kernel)
  have t2 : Tk 51 (nwR (nwR h 20 8 48 0 49) 20 64 48 1 50) := nwR_T t1 (by decide) (by decide +kernel)
  have t3 : Tk 52 (nwR (nwR (nwR h 20 8 48 0 49) 20 64 48 1 50) 20 8 48 2 51) := nwR_T t2 (by decide) (by decide +kernel)
  have t4 : Tk 53 (nwR (nwR (nwR (nwR h 20 8 48 0 49) 20 64 48 1 50) 20 8 48 2 51) 20 64 48 3 52) := nwR_T t3 (by decide) (by decide +kernel)
  have t5 : Tk 54 (nwR (nwR (nwR (nwR (nwR h 20 8 48 0 49) 20 64 48 1 50) 20 8 48 2 51) 20 64 48 3 52) 21 64 48 4 53) := nwR_T t4 (by decide) (by decide +kernel)
  have o1 := t1.kd (a := 48) (c := 6) (by decide) (by decide +kernel)
  have o2 := t2.kd (a := 48) (c := 6) (by decide) (by decide +kernel)
  have o3 := t3.kd (a := 48) (c := 6) (by decide) (by decide +kernel)
  have o4 := t4.kd (a := 48) (c := 6) (by decide) (by decide +kernel)
  have o5 := t5.kd (a := 48) (c := 6) (by decide) (by decide +kernel)
  refine JRet.of rfl (Nat.le_of_ble_eq_true rfl) ?_
  refine st_aload_n (q := 1) dX6_init_0 rfl rfl ?_
  refine st_objInit (q := 4) dX6_init_1 rfl ml_X6_3 ob_1 ob_2 (Nat.le_of_ble_eq_true rfl) ?_
  refine st_aload_n (q := 5) dX6_init_4 rfl rfl ?_
  refine st_bipush (q := 7) dX6_init_5 ⟨by decide, by decide⟩ rfl ?_
  refine st_newarray 0 (q := 9) dX6_init_7 rfl (by decide) rfl ac_0 ⟨by decide, by decide⟩ ⟨by decide, by decide⟩ ?_
  refine j_topr _ t.len ?_
  refine st_putR (q := 12) 6 0 dX6_init_9 fl_X6_9 (by decide) (by decide) (Or.inr ⟨rfl, rfl⟩) rfl rfl (by first | exact o1 | exact o2 | exact o3 | exact o4 | exact o5) ?_
  refine st_aload_n (q := 13) dX6_init_12 rfl rfl ?_
  refine st_bipush (q := 15) dX6_init_13 ⟨by decide, by decide⟩ rfl ?_
  refine st_newarray 0 (q := 17) dX6_init_15 rfl (by decide) rfl ac_0 ⟨by decide, by decide⟩ ⟨by decide, by decide⟩ ?_
  refine j_topr 50 t1.len ?_
  refine st_putR (q := 20) 6 1 dX6_init_17 fl_X6_15 (by decide) (by decide) (Or.inr ⟨rfl, rfl⟩) rfl rfl (by first | exact o1 | exact o2 | exact o3 | exact o4 | exact o5) ?_
  refine st_aload_n (q := 21) dX6_init_20 rfl rfl ?_
  refine st_bipush (q := 23) dX6_init_21 ⟨by decide, by decide⟩ rfl ?_
  refine st_newarray 0 (q := 25) dX6_init_23 rfl (by decide) rfl ac_0 ⟨by decide, by decide⟩ ⟨by decide, by decide⟩ ?_
  refine j_topr 51 t2.len ?_
  refine st_putR (q := 28) 6 2 dX6_init_25 fl_X6_18 (by decide) (by decide) (Or.inr ⟨rfl, rfl⟩) rfl rfl (by first | exact o1 | exact o2 | exact o3 | exact o4 | exact o5) ?_
  refine st_aload_n (q := 29) dX6_init_28 rfl rfl ?_
  refine st_bipush (q := 31) dX6_init_29 ⟨by decide, by decide⟩ rfl ?_
  refine st_newarray 0 (q := 33) dX6_init_31 rfl (by decide) rfl ac_0 ⟨by decide, by decide⟩ ⟨by decide, by decide⟩ ?_
  refine j_topr 52 t3.len ?_
  refine st_putR (q := 36) 6 3 dX6_init_33 fl_X6_21 (by decide) (by decide) (Or.inr ⟨rfl, rfl⟩) rfl rfl (by first | exact o1 | exact o2 | exact o3 | exact o4 | exact o5) ?_
  refine st_aload_n (q := 37) dX6_init_36 rfl rfl ?_
  refine st_bipush (q := 39) dX6_init_37 ⟨by decide, by decide⟩ rfl ?_
  refine st_newarray 1 (q := 41) dX6_init_39 rfl (by decide) rfl ac_1 ⟨by decide, by decide⟩ ⟨by decide, by decide⟩ ?_
  refine j_topr 53 t4.len ?_
  refine st_putR (q := 44) 6 4 dX6_init_41 fl_X6_24 (by decide) (by decide) (Or.inr ⟨rfl, rfl⟩) rfl rfl (by first | exact o1 | exact o2 | exact o3 | exact o4 | exact o5) ?_
  refine st_aload_n (q := 45) dX6_init_44 rfl rfl ?_
  refine st_iconst (q := 46) dX6_init_45 ⟨by decide, by decide⟩ rfl ?_
  refine st_putI (q := 49) 6 5 dX6_init_46 fl_X6_28 (by decide) (by decide) (Or.inl rfl) rfl (Or.inl rfl) (by first | exact o1 | exact o2 | exact o3 | exact o4 | exact o5) ?_
  refine st_return dX6_init_49 rfl ⟨by decide, by decide⟩ ⟨rfl, ?_⟩
  exact hP

