/-! the constructors: what is made so far -/
theorem iI0 {d : Nat} {y : JM} {pc q : Nat} {ls st : List JV} {h : JH} {Q : Option JV → JH → Prop} {mc ms cu su mc' ms' : Nat} {y' : JM} {idx a : Nat} (hd : decode y.2.1 pc = .ok (.invokespecial idx, 3)) (hq : pc + 3 = q) (hw : Cond.methodLink y.1.cls idx y'.1 ∈ wsG ∨ ∃ host, (y.1.cls, idx, y'.1, host) ∈ jnest) (hy : jMI y' 0) (hrest : (st.map jcat).sum ≤ 8) (hm : cu + mc' ≤ mc ∧ su + ms' ≤ ms) (hR : JRet mc' ms' d y' [vr a] h (jqv (fun h' => JAt (mc, ms, cu + mc', su + ms') (d + 1) y q ls st h' Q))) : JAt (mc, ms, cu, su) (d + 1) y pc ls (vr a :: st) h Q := st_invI (vs := []) hd hq hw hy rfl rfl hrest hm hR (fun r h' hq => by obtain ⟨e, hk⟩ := hq; subst e; exact hk)
/-- the first m cells are made -/
def Tk (m : Nat) (h : JH) : Prop := m ≤ 151 ∧ h.1 = S0.take m
theorem S0_len : S0.length = 151 := by decide +kernel
theorem Tk.len {m : Nat} {h : JH} (t : Tk m h) : h.1.length = m := by
  rw [t.2, List.length_take, S0_len]
  have := t.1
  omega
theorem Tk.at {m a : Nat} {h : JH} (t : Tk m h) (ha : a < m) : h.1.getD a (99, 0) = S0.getD a (99, 0) := by
  rw [t.2, List.getD_eq_getElem?_getD, List.getD_eq_getElem?_getD, List.getElem?_take, if_pos ha]
theorem Tk.kd {m a c : Nat} {h : JH} (t : Tk m h) (ha : a < m) (e : (S0.getD a (99, 0)).1 = c) : kd h a = c := by
  show (h.1.getD a (99, 0)).1 = c
  rw [t.at ha]; exact e
theorem Tk.ln {m a c : Nat} {h : JH} (t : Tk m h) (ha : a < m) (e : (S0.getD a (99, 0)).2 = c) : ln h a = c := by
  show (h.1.getD a (99, 0)).2 = c
  rw [t.at ha]; exact e
theorem Tk_nw {m k n : Nat} {h : JH} (t : Tk m h) (hm : m < 151) (e : S0.getD m (99, 0) = (k, n)) : Tk (m + 1) (nw h k n) := by
  refine ⟨by omega, ?_⟩
  show h.1 ++ [(k, n)] = S0.take (m + 1)
  have e2 : S0[m]? = some (k, n) := by
    rw [List.getD_eq_getElem?_getD] at e
    have hl : m < S0.length := by rw [S0_len]; exact hm
    rw [List.getElem?_eq_getElem hl] at e ⊢
    exact congrArg some e
  rw [t.2, List.take_add_one, e2]
  rfl
/-- references lie as they will, where F; elsewhere none -/
def RF (F : Nat → Nat → Prop) (h : JH) : Prop := ∀ a k, (F a k → hR h a k = R0 a k) ∧ (¬ F a k → hR h a k = none)
theorem RF.sR {F : Nat → Nat → Prop} {h : JH} {a k b : Nat} (r : RF F h) (e : R0 a k = some b) : RF (fun x y => F x y ∨ (x = a ∧ y = k)) (sR h a k (some b)) := fun x y => by
  by_cases z : x = a ∧ y = k
  · refine ⟨fun _ => ?_, fun q => absurd (Or.inr z) q⟩
    rw [sR_R, if_pos z, z.1, z.2, e]
  · refine ⟨fun q => ?_, fun q => ?_⟩
    · rw [sR_R, if_neg z]
      exact (r x y).1 (q.elim id (fun w => absurd w z))
    · rw [sR_R, if_neg z]
      exact (r x y).2 (fun w => q (Or.inl w))
theorem RF.sI {F : Nat → Nat → Prop} {h : JH} {a k : Nat} {v : Int} (r : RF F h) : RF F (sI h a k v) := r
theorem RF_nw {F : Nat → Nat → Prop} {h : JH} {k n m : Nat} (r : RF F h) (t : Tk m h) (z : ∀ k, ¬ F m k) : RF F (nw h k n) := fun x y => by
  have e : hR (nw h k n) x y = if x = h.1.length then none else hR h x y := rfl
  rw [e, t.len]
  by_cases q : x = m
  · subst q
    exact ⟨fun w => absurd w (z y), fun _ => if_pos rfl⟩
  · rw [if_neg q]; exact r x y
theorem RF.up {F F' : Nat → Nat → Prop} {h : JH} (r : RF F h) (z : ∀ a k, F' a k ↔ F a k) : RF F' h := fun a k => ⟨fun q => (r a k).1 ((z a k).mp q), fun q => (r a k).2 (fun w => q ((z a k).mpr w))⟩
/-- cells whose ints nobody asks for at the start -/
def Irr (a k : Nat) : Prop := (a = 3 ∧ k = 3) ∨ (16 ≤ a ∧ a ≤ 40) ∨ (56 ≤ a ∧ a ≤ 95)
/-- the ints behind the constructors -/
def I0 (a k : Nat) : Int := if a = 3 then (if k = 1 then 30 else if k = 2 then 2 else 0) else if a = 42 ∧ k < 729 then ((helN k 6 * 64 ||| outN k 6 : Nat) : Int) else if (97 ≤ a ∧ a ≤ 115 ∧ a % 2 = 1 ∧ k = 1) then -1 else if a = 117 ∧ k = 13 then 30 else if a = 117 ∧ k = 14 then 2 else if (a = 119 ∧ k < 6) ∨ (a = 122 ∧ k < 4) then -9 else 0
def GI (D : Nat) (h : JH) : Prop := ∀ a k, ¬ Irr a k → hI h a k = if a < D then I0 a k else 0
theorem GI_nw {D k n m : Nat} {h : JH} (g : GI D h) (t : Tk m h) (z : D ≤ m) : GI D (nw h k n) := fun x y w => by
  have e : hI (nw h k n) x y = if x = h.1.length then 0 else hI h x y := rfl
  rw [e, t.len]
  by_cases q : x = m
  · rw [if_pos q, if_neg (by omega)]
  · rw [if_neg q]; exact g x y w
theorem GI.ir {D a k : Nat} {v : Int} {h : JH} (g : GI D h) (z : Irr a k) : GI D (sI h a k v) := fun x y w => by
  by_cases q : x = a ∧ y = k
  · rw [q.1, q.2] at w; exact absurd z w
  · rw [sI_I, if_neg q]; exact g x y w
theorem GI.z {D a k : Nat} {h : JH} (g : GI D h) (z : D ≤ a) : GI D (sI h a k 0) := fun x y w => by
  by_cases q : x = a ∧ y = k
  · rw [sI_I, if_pos q, if_neg (by omega)]
  · rw [sI_I, if_neg q]; exact g x y w
theorem GI.up {D D' : Nat} {h : JH} (g : GI D h) (z : ∀ a k, D ≤ a → a < D' → I0 a k = 0) (hD : D ≤ D') : GI D' h := fun x y w => by
  rw [g x y w]
  by_cases q : x < D
  · rw [if_pos q, if_pos (by omega)]
  · by_cases q2 : x < D'
    · rw [if_neg q, if_pos q2, z x y (by omega) q2]
    · rw [if_neg q, if_neg q2]
def JE (m : Nat) (h h' : JH) : Prop := ∀ b k, b < m → hJ h' b k = hJ h b k
theorem JE.rf {m : Nat} {h : JH} : JE m h h := fun _ _ _ => rfl
theorem JE.tr {m m' : Nat} {h h' h'' : JH} (a : JE m h h') (b : JE m' h' h'') (z : m ≤ m') : JE m h h'' := fun x k q => (b x k (by omega)).trans (a x k q)
theorem JE_nw {m m' k n : Nat} {h h' : JH} (a : JE m h h') (t : Tk m' h') (z : m ≤ m') : JE m h (nw h' k n) := fun x y q => by
  have e : hJ (nw h' k n) x y = if x = h'.1.length then 0 else hJ h' x y := rfl
  rw [e, t.len, if_neg (by omega)]
  exact a x y q
/-- objects without references -/
theorem c_X2_init {d : Nat} {h : JH} {P : JH → Prop} {m a : Nat} (t : Tk m h) (ha : a < m) (hk : (S0.getD a (99, 0)).1 = 2) (hP : P (sI (sI (sI (sI h a 0 0) a 1 0) a 2 0) a 3 0)) : JRet 0 0 (d + 1) jX2_init [vr a] h (jqv P) := by
  have ob := t.kd ha hk
  refine JRet.of rfl (Nat.le_of_ble_eq_true rfl) ?_
  refine st_aload_n (q := 1) dX2_init_0 rfl rfl ?_
  refine st_objInit (q := 4) dX2_init_1 rfl ml_X2_1 ob_1 ob_2 (Nat.le_of_ble_eq_true rfl) ?_
  refine st_aload_n (q := 5) dX2_init_4 rfl rfl ?_
  refine st_iconst (q := 6) dX2_init_5 ⟨by decide, by decide⟩ rfl ?_
  refine st_putI (q := 9) 2 0 dX2_init_6 fl_X2_7 (by decide) (by decide) (Or.inl rfl) rfl (Or.inr ⟨rfl, by omega⟩) (ob) ?_
  refine st_aload_n (q := 10) dX2_init_9 rfl rfl ?_
  refine st_iconst (q := 11) dX2_init_10 ⟨by decide, by decide⟩ rfl ?_
  refine st_putI (q := 14) 2 1 dX2_init_11 fl_X2_13 (by decide) (by decide) (Or.inl rfl) rfl (Or.inl rfl) (ob) ?_
  refine st_aload_n (q := 15) dX2_init_14 rfl rfl ?_
  refine st_iconst (q := 16) dX2_init_15 ⟨by decide, by decide⟩ rfl ?_
  refine st_putI (q := 19) 2 2 dX2_init_16 fl_X2_17 (by decide) (by decide) (Or.inl rfl) rfl (Or.inl rfl) (ob) ?_
  refine st_aload_n (q := 20) dX2_init_19 rfl rfl ?_
  refine st_iconst (q := 21) dX2_init_20 ⟨by decide, by decide⟩ rfl ?_
  refine st_putI (q := 24) 2 3 dX2_init_21 fl_X2_20 (by decide) (by decide) (Or.inl rfl) rfl (Or.inl rfl) (ob) ?_
  refine st_return dX2_init_24 rfl ⟨by decide, by decide⟩ ⟨rfl, ?_⟩
  exact hP
theorem c_X5_init {d : Nat} {h : JH} {P : JH → Prop} {m a : Nat} (t : Tk m h) (ha : a < m) (hk : (S0.getD a (99, 0)).1 = 5) (hP : P (sI (sI (sI (sI (sI (sI (sI (sI h a 0 0) a 1 0) a 2 0) a 3 0) a 4 0) a 5 (-9)) a 6 (-9)) a 7 0)) : JRet 0 0 (d + 1) jX5_init [vr a] h (jqv P) := by
  have ob := t.kd ha hk
  refine JRet.of rfl (Nat.le_of_ble_eq_true rfl) ?_
  refine st_aload_n (q := 1) dX5_init_0 rfl rfl ?_
  refine st_objInit (q := 4) dX5_init_1 rfl ml_X5_3 ob_1 ob_2 (Nat.le_of_ble_eq_true rfl) ?_
  refine st_aload_n (q := 5) dX5_init_4 rfl rfl ?_
  refine st_iconst (q := 6) dX5_init_5 ⟨by decide, by decide⟩ rfl ?_
  refine st_putI (q := 9) 5 0 dX5_init_6 fl_X5_9 (by decide) (by decide) (Or.inl rfl) rfl (Or.inl rfl) (ob) ?_
  refine st_aload_n (q := 10) dX5_init_9 rfl rfl ?_
  refine st_iconst (q := 11) dX5_init_10 ⟨by decide, by decide⟩ rfl ?_
  refine st_putI (q := 14) 5 1 dX5_init_11 fl_X5_15 (by decide) (by decide) (Or.inl rfl) rfl (Or.inl rfl) (ob) ?_
  refine st_aload_n (q := 15) dX5_init_14 rfl rfl ?_
  refine st_iconst (q := 16) dX5_init_15 ⟨by decide, by decide⟩ rfl ?_
  refine st_putI (q := 19) 5 2 dX5_init_16 fl_X5_18 (by decide) (by decide) (Or.inl rfl) rfl (Or.inl rfl) (ob) ?_
  refine st_aload_n (q := 20) dX5_init_19 rfl rfl ?_
  refine st_iconst (q := 21) dX5_init_20 ⟨by decide, by decide⟩ rfl ?_
  refine st_putI (q := 24) 5 3 dX5_init_21 fl_X5_21 (by decide) (by decide) (Or.inl rfl) rfl (Or.inl rfl) (ob) ?_
  refine st_aload_n (q := 25) dX5_init_24 rfl rfl ?_
  refine st_iconst (q := 26) dX5_init_25 ⟨by decide, by decide⟩ rfl ?_
  refine st_putI (q := 29) 5 4 dX5_init_26 fl_X5_24 (by decide) (by decide) (Or.inl rfl) rfl (Or.inr ⟨rfl, by omega⟩) (ob) ?_
  refine st_aload_n (q := 30) dX5_init_29 rfl rfl ?_
  refine st_bipush (q := 32) dX5_init_30 ⟨by decide, by decide⟩ rfl ?_
  refine st_putI (q := 35) 5 5 dX5_init_32 fl_X5_28 (by decide) (by decide) (Or.inl rfl) rfl (Or.inl rfl) (ob) ?_
  refine st_aload_n (q := 36) dX5_init_35 rfl rfl ?_
  refine st_bipush (q := 38) dX5_init_36 ⟨by decide, by decide⟩ rfl ?_
  refine st_putI (q := 41) 5 6 dX5_init_38 fl_X5_31 (by decide) (by decide) (Or.inl rfl) rfl (Or.inl rfl) (ob) ?_
  refine st_aload_n (q := 42) dX5_init_41 rfl rfl ?_
  refine st_iconst (q := 43) dX5_init_42 ⟨by decide, by decide⟩ rfl ?_
  refine st_putI (q := 46) 5 7 dX5_init_43 fl_X5_34 (by decide) (by decide) (Or.inl rfl) rfl (Or.inl rfl) (ob) ?_
  refine st_return dX5_init_46 rfl ⟨by decide, by decide⟩ ⟨rfl, ?_⟩
  exact hP
theorem c_X3_init {d : Nat} {h : JH} {P : JH → Prop} {m a : Nat} (t : Tk m h) (ha : a < m) (hk : (S0.getD a (99, 0)).1 = 3) (hP : P (sI (sI (sI (sI (sI h a 0 0) a 1 0) a 2 (-9)) a 3 0) a 4 0)) : JRet 0 0 (d + 1) jX3_init [vr a] h (jqv P) := by
  have ob := t.kd ha hk
  refine JRet.of rfl (Nat.le_of_ble_eq_true rfl) ?_
  refine st_aload_n (q := 1) dX3_init_0 rfl rfl ?_
  refine st_objInit (q := 4) dX3_init_1 rfl ml_X3_3 ob_1 ob_2 (Nat.le_of_ble_eq_true rfl) ?_
  refine st_aload_n (q := 5) dX3_init_4 rfl rfl ?_
  refine st_iconst (q := 6) dX3_init_5 ⟨by decide, by decide⟩ rfl ?_
  refine st_putI (q := 9) 3 0 dX3_init_6 fl_X3_9 (by decide) (by decide) (Or.inl rfl) rfl (Or.inl rfl) (ob) ?_
  refine st_aload_n (q := 10) dX3_init_9 rfl rfl ?_
  refine st_iconst (q := 11) dX3_init_10 ⟨by decide, by decide⟩ rfl ?_
  refine st_putI (q := 14) 3 1 dX3_init_11 fl_X3_15 (by decide) (by decide) (Or.inl rfl) rfl (Or.inl rfl) (ob) ?_
  refine st_aload_n (q := 15) dX3_init_14 rfl rfl ?_
  refine st_bipush (q := 17) dX3_init_15 ⟨by decide, by decide⟩ rfl ?_
  refine st_putI (q := 20) 3 2 dX3_init_17 fl_X3_18 (by decide) (by decide) (Or.inl rfl) rfl (Or.inl rfl) (ob) ?_
  refine st_aload_n (q := 21) dX3_init_20 rfl rfl ?_
  refine st_iconst (q := 22) dX3_init_21 ⟨by decide, by decide⟩ rfl ?_
  refine st_putI (q := 25) 3 3 dX3_init_22 fl_X3_21 (by decide) (by decide) (Or.inl rfl) rfl (Or.inl rfl) (ob) ?_
  refine st_aload_n (q := 26) dX3_init_25 rfl rfl ?_
  refine st_iconst (q := 27) dX3_init_26 ⟨by decide, by decide⟩ rfl ?_
  refine st_putI (q := 30) 3 4 dX3_init_27 fl_X3_24 (by decide) (by decide) (Or.inl rfl) rfl (Or.inl rfl) (ob) ?_
  refine st_return dX3_init_30 rfl ⟨by decide, by decide⟩ ⟨rfl, ?_⟩
  exact hP
theorem c_X4_init {d : Nat} {h : JH} {P : JH → Prop} {m a : Nat} (t : Tk m h) (ha : a < m) (hk : (S0.getD a (99, 0)).1 = 4) (hP : P (sI (sI (sI (sI (sI h a 0 0) a 1 0) a 2 0) a 3 (-9)) a 4 0)) : JRet 0 0 (d + 1) jX4_init [vr a] h (jqv P) := by
  have ob := t.kd ha hk
  refine JRet.of rfl (Nat.le_of_ble_eq_true rfl) ?_
  refine st_aload_n (q := 1) dX4_init_0 rfl rfl ?_
  refine st_objInit (q := 4) dX4_init_1 rfl ml_X4_3 ob_1 ob_2 (Nat.le_of_ble_eq_true rfl) ?_
  refine st_aload_n (q := 5) dX4_init_4 rfl rfl ?_
  refine st_iconst (q := 6) dX4_init_5 ⟨by decide, by decide⟩ rfl ?_
  refine st_putI (q := 9) 4 0 dX4_init_6 fl_X4_9 (by decide) (by decide) (Or.inl rfl) rfl (Or.inl rfl) (ob) ?_
  refine st_aload_n (q := 10) dX4_init_9 rfl rfl ?_
  refine st_iconst (q := 11) dX4_init_10 ⟨by decide, by decide⟩ rfl ?_
  refine st_putI (q := 14) 4 1 dX4_init_11 fl_X4_15 (by decide) (by decide) (Or.inl rfl) rfl (Or.inl rfl) (ob) ?_
  refine st_aload_n (q := 15) dX4_init_14 rfl rfl ?_
  refine st_iconst (q := 16) dX4_init_15 ⟨by decide, by decide⟩ rfl ?_
  refine st_putI (q := 19) 4 2 dX4_init_16 fl_X4_18 (by decide) (by decide) (Or.inl rfl) rfl (Or.inl rfl) (ob) ?_
  refine st_aload_n (q := 20) dX4_init_19 rfl rfl ?_
  refine st_bipush (q := 22) dX4_init_20 ⟨by decide, by decide⟩ rfl ?_
  refine st_putI (q := 25) 4 3 dX4_init_22 fl_X4_21 (by decide) (by decide) (Or.inl rfl) rfl (Or.inl rfl) (ob) ?_
  refine st_aload_n (q := 26) dX4_init_25 rfl rfl ?_
  refine st_iconst (q := 27) dX4_init_26 ⟨by decide, by decide⟩ rfl ?_
  refine st_putI (q := 30) 4 4 dX4_init_27 fl_X4_24 (by decide) (by decide) (Or.inl rfl) rfl (Or.inl rfl) (ob) ?_
  refine st_return dX4_init_30 rfl ⟨by decide, by decide⟩ ⟨rfl, ?_⟩
  exact hP

