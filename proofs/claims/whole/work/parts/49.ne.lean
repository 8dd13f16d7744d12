/-! outlines that are apart: the nearest, from both sides -/
theorem apN_sy {a b : Nat} (ha : a < 65536) (hb : b < 65536) : apN a b = apN b a := by
  have e := pc_tx ha hb
  have e2 : pcN (b ^^^ tnN a 16) 16 = pcN (a ^^^ tnN b 16) 16 := by rw [Nat.xor_comm, e]
  unfold apN
  rw [Nat.xor_comm b a, e2]
def lsZ (st : Int × Int) : Prop := st.1 = -9 ∨ 0 ≤ st.1
theorem lsS_z {u : HD} {i j : Nat} {st : Int × Int} (h : lsZ st) : lsZ (lsS u i j st) := by
  unfold lsS
  split
  · exact Or.inr (by show (0 : Int) ≤ (apN (uO u i) (uO u j) : Int); omega)
  · exact h
/-- the least of a set of pairs (-9: of none) -/
def LB (u : HD) (v : Int) (S : Nat → Nat → Prop) : Prop := (∀ i j, S i j → 0 ≤ v ∧ v ≤ apN (uO u i) (uO u j)) ∧ (v = -9 ∨ ∃ i j, S i j ∧ v = apN (uO u i) (uO u j))
theorem LB.cg {u : HD} {v : Int} {S S' : Nat → Nat → Prop} (h : LB u v S) (e : ∀ i j, S i j ↔ S' i j) : LB u v S' := ⟨fun i j z => h.1 i j ((e i j).mpr z), h.2.elim Or.inl (fun ⟨i, j, z, t⟩ => Or.inr ⟨i, j, (e i j).mp z, t⟩)⟩
theorem LB.stp {u : HD} {st : Int × Int} {S : Nat → Nat → Prop} (h : LB u st.1 S) (i j : Nat) : LB u (lsS u i j st).1 (fun a b => S a b ∨ (a = i ∧ b = j ∧ uO u i ≠ 0 ∧ uO u j ≠ 0)) := by
  have z : lsZ st := h.2.elim Or.inl (fun ⟨i, j, z, _⟩ => Or.inr (h.1 i j z).1)
  unfold lsS
  by_cases c : uO u i ≠ 0 ∧ uO u j ≠ 0 ∧ (st.1 < 0 ∨ (apN (uO u i) (uO u j) : Int) < st.1)
  · rw [if_pos c]
    refine ⟨fun a b t => ?_, Or.inr ⟨i, j, Or.inr ⟨rfl, rfl, c.1, c.2.1⟩, rfl⟩⟩
    show 0 ≤ (apN (uO u i) (uO u j) : Int) ∧ (apN (uO u i) (uO u j) : Int) ≤ apN (uO u a) (uO u b)
    rcases t with t | ⟨rfl, rfl, _⟩
    · have := h.1 a b t
      omega
    · omega
  · rw [if_neg c]
    refine ⟨fun a b t => ?_, h.2.elim Or.inl (fun ⟨a, b, t, e⟩ => Or.inr ⟨a, b, Or.inl t, e⟩)⟩
    rcases t with t | ⟨rfl, rfl, t1, t2⟩
    · exact h.1 a b t
    · have c2 : ¬ (st.1 < 0 ∨ (apN (uO u a) (uO u b) : Int) < st.1) := fun q => c ⟨t1, t2, q⟩
      omega
theorem LB.row {u : HD} (i : Nat) : ∀ (m j : Nat) {st : Int × Int} {S : Nat → Nat → Prop}, LB u st.1 S → LB u (lsJ u i m j st).1 (fun a b => S a b ∨ (a = i ∧ j ≤ b ∧ b < j + m ∧ uO u i ≠ 0 ∧ uO u b ≠ 0))
  | 0, j, st, S, h => h.cg (fun a b => ⟨Or.inl, fun t => t.elim id (fun z => by omega)⟩)
  | m + 1, j, st, S, h => (LB.row i m (j + 1) (h.stp i j)).cg (fun a b => by
      constructor
      · rintro ((t | ⟨t1, t2, t3, t4⟩) | ⟨t1, t2, t3, t4⟩)
        · exact Or.inl t
        · exact Or.inr ⟨t1, by omega, by omega, t3, by rw [t2]; exact t4⟩
        · exact Or.inr ⟨t1, by omega, by omega, t4⟩
      · rintro (t | ⟨t1, t2, t3, t4, t5⟩)
        · exact Or.inl (Or.inl t)
        · by_cases e : b = j
          · exact Or.inl (Or.inr ⟨t1, e, t4, by rw [← e]; exact t5⟩)
          · exact Or.inr ⟨t1, by omega, by omega, t4, t5⟩)
theorem LB.all {u : HD} : ∀ (m i : Nat) {st : Int × Int} {S : Nat → Nat → Prop}, i + m = 8 → LB u st.1 S → LB u (lsI u m i st).1 (fun a b => S a b ∨ (i ≤ a ∧ a < b ∧ b < 8 ∧ uO u a ≠ 0 ∧ uO u b ≠ 0))
  | 0, i, st, S, e, h => h.cg (fun a b => ⟨Or.inl, fun t => t.elim id (fun z => by omega)⟩)
  | m + 1, i, st, S, e, h => (LB.all m (i + 1) (by omega) (LB.row i (7 - i) (i + 1) h)).cg (fun a b => by
      constructor
      · rintro ((t | ⟨t1, t2, t3, t4, t5⟩) | ⟨t1, t2, t3, t4⟩)
        · exact Or.inl t
        · exact Or.inr ⟨by omega, by omega, by omega, by rw [t1]; exact t4, t5⟩
        · exact Or.inr ⟨by omega, t2, t3, t4⟩
      · rintro (t | ⟨t1, t2, t3, t4, t5⟩)
        · exact Or.inl (Or.inl t)
        · by_cases q : a = i
          · exact Or.inl (Or.inr ⟨q, by omega, by omega, by rw [← q]; exact t4, t5⟩)
          · exact Or.inr ⟨by omega, t2, t3, t4, t5⟩)
def prS (u : HD) (a b : Nat) : Prop := a < b ∧ b < 8 ∧ uO u a ≠ 0 ∧ uO u b ≠ 0
theorem lsV_LB (u : HD) : LB u (lsV u) (prS u) := (LB.all (u := u) 8 0 (st := (-9, 0)) (S := fun _ _ => False) rfl ⟨fun _ _ z => z.elim, Or.inl rfl⟩).cg (fun a b => by
  unfold prS
  constructor
  · rintro (t | ⟨_, t⟩)
    · exact t.elim
    · exact t
  · intro t
    exact Or.inr ⟨Nat.zero_le _, t⟩)
theorem lsS_2 {u : HD} {i j : Nat} {a b : Int × Int} (e : a.1 = b.1 ∧ (a.1 < 0 ∨ a.2 = b.2)) : (lsS u i j a).1 = (lsS u i j b).1 ∧ ((lsS u i j a).1 < 0 ∨ (lsS u i j a).2 = (lsS u i j b).2) := by
  unfold lsS
  rw [e.1]
  split
  · exact ⟨rfl, Or.inr rfl⟩
  · exact e
theorem lsJ_2 {u : HD} {i : Nat} : ∀ (m j : Nat) {a b : Int × Int}, (a.1 = b.1 ∧ (a.1 < 0 ∨ a.2 = b.2)) → (lsJ u i m j a).1 = (lsJ u i m j b).1 ∧ ((lsJ u i m j a).1 < 0 ∨ (lsJ u i m j a).2 = (lsJ u i m j b).2)
  | 0, _, _, _, e => e
  | m + 1, j, _, _, e => lsJ_2 m (j + 1) (lsS_2 e)
theorem lsI_2 {u : HD} : ∀ (m i : Nat) {a b : Int × Int}, (a.1 = b.1 ∧ (a.1 < 0 ∨ a.2 = b.2)) → (lsI u m i a).1 = (lsI u m i b).1 ∧ ((lsI u m i a).1 < 0 ∨ (lsI u m i a).2 = (lsI u m i b).2)
  | 0, _, _, _, e => e
  | m + 1, i, _, _, e => lsI_2 m (i + 1) (lsJ_2 _ _ e)
theorem lsN_2 {u : HD} {p p' : Int} (h : 0 ≤ lsV u) : (lsN u p).2 = (lsN u p').2 := by
  have := (lsI_2 (u := u) 8 0 (a := (-9, p)) (b := (-9, p')) ⟨rfl, Or.inl (by show (-9 : Int) < 0; decide)⟩).2
  have e := lsN_1 u p
  unfold lsN at e ⊢
  rcases this with t | t
  · omega
  · exact t
def ScN (a k : Nat) : Prop := a = 3 ∧ k = 3
theorem scN_3 : ScN 3 3 := ⟨rfl, rfl⟩
theorem HX.fr {Sc : Nat → Nat → Prop} {h h' : JH} {u : HD} (m : HX h u) (f : Fr Sc h h') (z : ∀ a k, 5 ≤ a ∧ a ≤ 12 → ¬ Sc a k) : HX h' u := fun k hk => by
  have e : ∀ x, hI h' (5 + k) x = hI h (5 + k) x := fun x => f.2.2 _ _ (z _ _ (by omega))
  rw [e, e, e, e]
  exact m k hk
theorem scN_d : ∀ a k, 5 ≤ a ∧ a ≤ 12 → ¬ ScN a k := by intro a k z; unfold ScN; omega
theorem lp_X7_findNearest {d : Nat} {h : JH} {P : Int → JH → Prop} {u : HD} {R : Int × Int} (w0 : WF h) (x0 : HX h u) (o : uOk u) (hP : ∀ h', Fr ScN h h' → hI h' 3 3 = R.2 → P R.1 h') (i j : Nat) (hi : i < 8) (hj : j ≤ 8) : ∀ (h' : JH) (st : Int × Int) (j4 : JV), Fr ScN h h' → hI h' 3 3 = st.2 → lsR st → lsZ st → lsI u (7 - i) (i + 1) (lsJ u i (8 - j) j st) = R → JAt k0 (d + 2) jX7_findNearest 18 [vr 3, vi st.1, vi i, vi j, j4] [] h' (jqi P) := by
  intro h' st j4 f e3 r zz he
  have w := f.wf w0
  have x := x0.fr f scN_d
  have r2 := lsS_r (u := u) (i := i) (j := j) r
  have z2 := lsS_z (u := u) (i := i) (j := j) zz
  have r1 := r
  unfold lsR at r1
  unfold lsZ at zz
  have xi := x i hi
  have oi := (o i hi).2.2
  have xi0 : hI h' (5 + ((i : Int)).toNat) 0 = 0 ↔ uO u i = 0 := by rw [show ((i : Int)).toNat = i from rfl, xi.1]; split <;> simp_all
  have xj0 : j < 8 → (hI h' (5 + ((j : Int)).toNat) 0 = 0 ↔ uO u j = 0) := fun z => by rw [show ((j : Int)).toNat = j from rfl, (x j z).1]; split <;> simp_all
  have eS0 : uO u i = 0 ∨ uO u j = 0 → lsS u i j st = st := fun z => by unfold lsS; rw [if_neg (fun t => by omega)]
  have eS1 : uO u i ≠ 0 → uO u j ≠ 0 → lsS u i j st = if (st.1 < 0 ∨ (apN (uO u i) (uO u j) : Int) < st.1) then ((apN (uO u i) (uO u j) : Int), ((10 * i + j : Nat) : Int)) else st := fun n1 n2 => by unfold lsS; simp only [n1, n2, true_and, ne_eq, not_false_eq_true]
  have eJ : j < 8 → lsI u (7 - i) (i + 1) (lsJ u i (8 - (j + 1)) (j + 1) (lsS u i j st)) = R := fun z => by
    rw [← he, show 8 - j = (8 - (j + 1)) + 1 by omega]
    rfl
  have eI : j = 8 → i + 1 < 8 → lsI u (7 - (i + 1)) (i + 1 + 1) (lsJ u (i + 1) (8 - (i + 1 + 1)) (i + 1 + 1) st) = R := fun z z2 => by
    rw [← he, z, show 7 - i = (7 - (i + 1)) + 1 by omega, show 8 - (i + 1 + 1) = 7 - (i + 1) by omega]
    rfl
  have eE : j = 8 → i + 1 = 8 → st = R := fun z z2 => by
    rw [← he, z, show 7 - i = 0 by omega]
    rfl
  refine st_iload_n (q := 19) dX7_findNearest_18 rfl rfl ?_
  refine st_aload_n (q := 20) dX7_findNearest_19 rfl rfl ?_
  refine st_getR (q := 23) 7 0 dX7_findNearest_20 fl_X7_11 (by decide) (by decide) rfl rfl (wfk w rfl) (wfR w rfl) ?_
  refine st_arraylength (q := 24) (t := 3) dX7_findNearest_23 rfl (by decide) (wfk w rfl) ?_
  rw [wfl w (n := 8) rfl]
  refine st_icmp_ge (q := 27) (tgt := 105) dX7_findNearest_24 (by decide) rfl (fun c24 => ?_) (fun c24 => ?_)
  · first | refine n_iinc (q := 108) dX7_findNearest_105 rfl (by decide) rfl ⟨by omega, by omega⟩ ?_ | refine st_iinc (q := 108) dX7_findNearest_105 rfl (by decide) rfl ?_
    refine st_goto (q := 5) dX7_findNearest_108 (by decide) ?_
    refine st_iload_n (q := 6) dX7_findNearest_5 rfl rfl ?_
    refine st_aload_n (q := 7) dX7_findNearest_6 rfl rfl ?_
    refine st_getR (q := 10) 7 0 dX7_findNearest_7 fl_X7_11 (by decide) (by decide) rfl rfl (wfk w rfl) (wfR w rfl) ?_
    refine st_arraylength (q := 11) (t := 3) dX7_findNearest_10 rfl (by decide) (wfk w rfl) ?_
    rw [wfl w (n := 8) rfl]
    refine st_icmp_ge (q := 14) (tgt := 111) dX7_findNearest_11 (by decide) rfl (fun c11 => ?_) (fun c11 => ?_)
    · refine st_iload_n (q := 112) dX7_findNearest_111 rfl rfl ?_
      refine rt_i dX7_findNearest_112 rfl ?_
      have e := eE (by omega) (by omega)
      subst e
      exact hP _ f e3
    · refine st_iload_n (q := 15) dX7_findNearest_14 rfl rfl ?_
      refine st_iconst (q := 16) dX7_findNearest_15 ⟨by decide, by decide⟩ rfl ?_
      first | refine n_iadd (q := 17) dX7_findNearest_16 rfl ⟨by omega, by omega⟩ ?_ | refine st_iadd (q := 17) dX7_findNearest_16 rfl ?_
      refine st_istore_n (q := 18) (i := 3) dX7_findNearest_17 rfl (by decide) rfl ?_
      first | (rw [if_pos (by omega)] at eS; refine lp_X7_findNearest w0 x0 o hP i (j + 1) hi (by omega) _ (apN (uO u i) (uO u j), ((10 * i + j : Nat) : Int)) _ (f.sI _ scN_3) (by rw [sI_s]; omega) ?_ ?_ ?_; (rw [← eS]; exact r2); (rw [← eS]; exact z2); (rw [← eS]; exact tJ)) | (rw [if_neg (by omega)] at eS; rw [eS] at tJ; exact lp_X7_findNearest w0 x0 o hP i (j + 1) hi (by omega) _ st _ f e3 r zz tJ) | exact lp_X7_findNearest w0 x0 o hP (i + 1) (i + 1 + 1) (by omega) (by omega) _ st _ f e3 r zz (eI (by omega) (by omega)) | (have eS := eS0 (by first | exact Or.inl (xi0.mp c36) | exact Or.inr ((xj0 (by omega)).mp c48)); have t := eJ (by omega); rw [eS] at t; exact lp_X7_findNearest w0 x0 o hP i (j + 1) hi (by omega) _ st _ f e3 r zz t)
  · refine st_aload_n (q := 28) dX7_findNearest_27 rfl rfl ?_
    refine st_getR (q := 31) 7 0 dX7_findNearest_28 fl_X7_11 (by decide) (by decide) rfl rfl (wfk w rfl) (wfR w rfl) ?_
    refine st_iload_n (q := 32) dX7_findNearest_31 rfl rfl ?_
    refine st_aaload (q := 33) (t := 3) dX7_findNearest_32 rfl ⟨by decide, by decide⟩ (wfk w rfl) (wfb w (n := 8) rfl ⟨by omega, by omega⟩) (xhide w (by omega)) ?_
    refine st_getI (q := 36) 2 0 dX7_findNearest_33 fl_X7_28 (by decide) (by decide) rfl rfl (xhk w (by omega)) ?_
    refine st_if_eq (q := 39) (tgt := 99) dX7_findNearest_36 (by decide) rfl (fun c36 => ?_) (fun c36 => ?_)
    · first | refine n_iinc (q := 102) dX7_findNearest_99 rfl (by decide) rfl ⟨by omega, by omega⟩ ?_ | refine st_iinc (q := 102) dX7_findNearest_99 rfl (by decide) rfl ?_
      refine st_goto (q := 18) dX7_findNearest_102 (by decide) ?_
      first | (rw [if_pos (by omega)] at eS; refine lp_X7_findNearest w0 x0 o hP i (j + 1) hi (by omega) _ (apN (uO u i) (uO u j), ((10 * i + j : Nat) : Int)) _ (f.sI _ scN_3) (by rw [sI_s]; omega) ?_ ?_ ?_; (rw [← eS]; exact r2); (rw [← eS]; exact z2); (rw [← eS]; exact tJ)) | (rw [if_neg (by omega)] at eS; rw [eS] at tJ; exact lp_X7_findNearest w0 x0 o hP i (j + 1) hi (by omega) _ st _ f e3 r zz tJ) | exact lp_X7_findNearest w0 x0 o hP (i + 1) (i + 1 + 1) (by omega) (by omega) _ st _ f e3 r zz (eI (by omega) (by omega)) | (have eS := eS0 (by first | exact Or.inl (xi0.mp c36) | exact Or.inr ((xj0 (by omega)).mp c48)); have t := eJ (by omega); rw [eS] at t; exact lp_X7_findNearest w0 x0 o hP i (j + 1) hi (by omega) _ st _ f e3 r zz t)
    · refine st_aload_n (q := 40) dX7_findNearest_39 rfl rfl ?_
      refine st_getR (q := 43) 7 0 dX7_findNearest_40 fl_X7_11 (by decide) (by decide) rfl rfl (wfk w rfl) (wfR w rfl) ?_
      refine st_iload_n (q := 44) dX7_findNearest_43 rfl rfl ?_
      refine st_aaload (q := 45) (t := 3) dX7_findNearest_44 rfl ⟨by decide, by decide⟩ (wfk w rfl) (wfb w (n := 8) rfl ⟨by omega, by omega⟩) (xhide w (by omega)) ?_
      refine st_getI (q := 48) 2 0 dX7_findNearest_45 fl_X7_28 (by decide) (by decide) rfl rfl (xhk w (by omega)) ?_
      refine st_if_eq (q := 51) (tgt := 99) dX7_findNearest_48 (by decide) rfl (fun c48 => ?_) (fun c48 => ?_)
      · first | refine n_iinc (q := 102) dX7_findNearest_99 rfl (by decide) rfl ⟨by omega, by omega⟩ ?_ | refine st_iinc (q := 102) dX7_findNearest_99 rfl (by decide) rfl ?_
        refine st_goto (q := 18) dX7_findNearest_102 (by decide) ?_
        first | (rw [if_pos (by omega)] at eS; refine lp_X7_findNearest w0 x0 o hP i (j + 1) hi (by omega) _ (apN (uO u i) (uO u j), ((10 * i + j : Nat) : Int)) _ (f.sI _ scN_3) (by rw [sI_s]; omega) ?_ ?_ ?_; (rw [← eS]; exact r2); (rw [← eS]; exact z2); (rw [← eS]; exact tJ)) | (rw [if_neg (by omega)] at eS; rw [eS] at tJ; exact lp_X7_findNearest w0 x0 o hP i (j + 1) hi (by omega) _ st _ f e3 r zz tJ) | exact lp_X7_findNearest w0 x0 o hP (i + 1) (i + 1 + 1) (by omega) (by omega) _ st _ f e3 r zz (eI (by omega) (by omega)) | (have eS := eS0 (by first | exact Or.inl (xi0.mp c36) | exact Or.inr ((xj0 (by omega)).mp c48)); have t := eJ (by omega); rw [eS] at t; exact lp_X7_findNearest w0 x0 o hP i (j + 1) hi (by omega) _ st _ f e3 r zz t)
      · refine st_aload_n (q := 52) dX7_findNearest_51 rfl rfl ?_
        refine st_getR (q := 55) 7 0 dX7_findNearest_52 fl_X7_11 (by decide) (by decide) rfl rfl (wfk w rfl) (wfR w rfl) ?_
        refine st_iload_n (q := 56) dX7_findNearest_55 rfl rfl ?_
        refine st_aaload (q := 57) (t := 3) dX7_findNearest_56 rfl ⟨by decide, by decide⟩ (wfk w rfl) (wfb w (n := 8) rfl ⟨by omega, by omega⟩) (xhide w (by omega)) ?_
        refine st_getI (q := 60) 2 3 dX7_findNearest_57 fl_X7_42 (by decide) (by decide) rfl rfl (xhk w (by omega)) ?_
        refine j_top _ ((x i hi).2 (by omega)).2.2 ?_
        refine st_aload_n (q := 61) dX7_findNearest_60 rfl rfl ?_
        refine st_getR (q := 64) 7 0 dX7_findNearest_61 fl_X7_11 (by decide) (by decide) rfl rfl (wfk w rfl) (wfR w rfl) ?_
        refine st_iload_n (q := 65) dX7_findNearest_64 rfl rfl ?_
        refine st_aaload (q := 66) (t := 3) dX7_findNearest_65 rfl ⟨by decide, by decide⟩ (wfk w rfl) (wfb w (n := 8) rfl ⟨by omega, by omega⟩) (xhide w (by omega)) ?_
        refine st_getI (q := 69) 2 3 dX7_findNearest_66 fl_X7_42 (by decide) (by decide) rfl rfl (xhk w (by omega)) ?_
        have hj8 : j < 8 := by omega
        have nj : uO u j ≠ 0 := fun z => c48 ((xj0 hj8).mpr z)
        have ni : uO u i ≠ 0 := fun z => c36 (xi0.mpr z)
        refine j_top _ ((x j hj8).2 nj).2.2 ?_
        refine iS2i (q := 72) dX7_findNearest_69 rfl ml_X7_45 ms_X2_between (Nat.le_of_ble_eq_true rfl) ?_
        refine c_X2_between oi (o j hj8).2.2 ?_
        have eS := eS1 ni nj
        have tJ := eJ hj8
        refine st_istore (q := 74) dX7_findNearest_72 (by decide) rfl ?_
        refine st_iload_n (q := 75) dX7_findNearest_74 rfl rfl ?_
        refine st_bipush (q := 77) dX7_findNearest_75 ⟨by decide, by decide⟩ rfl ?_
        refine st_icmp_eq (q := 80) (tgt := 86) dX7_findNearest_77 (by decide) rfl (fun c77 => ?_) (fun c77 => ?_)
        · refine st_iload (q := 88) dX7_findNearest_86 rfl rfl ?_
          refine st_istore_n (q := 89) (i := 1) dX7_findNearest_88 rfl (by decide) rfl ?_
          refine st_aload_n (q := 90) dX7_findNearest_89 rfl rfl ?_
          refine st_bipush (q := 92) dX7_findNearest_90 ⟨by decide, by decide⟩ rfl ?_
          refine st_iload_n (q := 93) dX7_findNearest_92 rfl rfl ?_
          first | refine n_imul (q := 94) dX7_findNearest_93 rfl ⟨by omega, by omega⟩ ?_ | refine st_imul (q := 94) dX7_findNearest_93 rfl ?_
          refine st_iload_n (q := 95) dX7_findNearest_94 rfl rfl ?_
          first | refine n_iadd (q := 96) dX7_findNearest_95 rfl ⟨by omega, by omega⟩ ?_ | refine st_iadd (q := 96) dX7_findNearest_95 rfl ?_
          refine st_putI (q := 99) 7 3 dX7_findNearest_96 fl_X7_24 (by decide) (by decide) (Or.inl rfl) rfl (Or.inl rfl) (wfk w rfl) ?_
          first | refine n_iinc (q := 102) dX7_findNearest_99 rfl (by decide) rfl ⟨by omega, by omega⟩ ?_ | refine st_iinc (q := 102) dX7_findNearest_99 rfl (by decide) rfl ?_
          refine st_goto (q := 18) dX7_findNearest_102 (by decide) ?_
          first | (rw [if_pos (by omega)] at eS; refine lp_X7_findNearest w0 x0 o hP i (j + 1) hi (by omega) _ (apN (uO u i) (uO u j), ((10 * i + j : Nat) : Int)) _ (f.sI _ scN_3) (by rw [sI_s]; omega) ?_ ?_ ?_; (rw [← eS]; exact r2); (rw [← eS]; exact z2); (rw [← eS]; exact tJ)) | (rw [if_neg (by omega)] at eS; rw [eS] at tJ; exact lp_X7_findNearest w0 x0 o hP i (j + 1) hi (by omega) _ st _ f e3 r zz tJ) | exact lp_X7_findNearest w0 x0 o hP (i + 1) (i + 1 + 1) (by omega) (by omega) _ st _ f e3 r zz (eI (by omega) (by omega)) | (have eS := eS0 (by first | exact Or.inl (xi0.mp c36) | exact Or.inr ((xj0 (by omega)).mp c48)); have t := eJ (by omega); rw [eS] at t; exact lp_X7_findNearest w0 x0 o hP i (j + 1) hi (by omega) _ st _ f e3 r zz t)
        · refine st_iload (q := 82) dX7_findNearest_80 rfl rfl ?_
          refine st_iload_n (q := 83) dX7_findNearest_82 rfl rfl ?_
          refine st_icmp_ge (q := 86) (tgt := 99) dX7_findNearest_83 (by decide) rfl (fun c83 => ?_) (fun c83 => ?_)
          · first | refine n_iinc (q := 102) dX7_findNearest_99 rfl (by decide) rfl ⟨by omega, by omega⟩ ?_ | refine st_iinc (q := 102) dX7_findNearest_99 rfl (by decide) rfl ?_
            refine st_goto (q := 18) dX7_findNearest_102 (by decide) ?_
            first | (rw [if_pos (by omega)] at eS; refine lp_X7_findNearest w0 x0 o hP i (j + 1) hi (by omega) _ (apN (uO u i) (uO u j), ((10 * i + j : Nat) : Int)) _ (f.sI _ scN_3) (by rw [sI_s]; omega) ?_ ?_ ?_; (rw [← eS]; exact r2); (rw [← eS]; exact z2); (rw [← eS]; exact tJ)) | (rw [if_neg (by omega)] at eS; rw [eS] at tJ; exact lp_X7_findNearest w0 x0 o hP i (j + 1) hi (by omega) _ st _ f e3 r zz tJ) | exact lp_X7_findNearest w0 x0 o hP (i + 1) (i + 1 + 1) (by omega) (by omega) _ st _ f e3 r zz (eI (by omega) (by omega)) | (have eS := eS0 (by first | exact Or.inl (xi0.mp c36) | exact Or.inr ((xj0 (by omega)).mp c48)); have t := eJ (by omega); rw [eS] at t; exact lp_X7_findNearest w0 x0 o hP i (j + 1) hi (by omega) _ st _ f e3 r zz t)
          · refine st_iload (q := 88) dX7_findNearest_86 rfl rfl ?_
            refine st_istore_n (q := 89) (i := 1) dX7_findNearest_88 rfl (by decide) rfl ?_
            refine st_aload_n (q := 90) dX7_findNearest_89 rfl rfl ?_
            refine st_bipush (q := 92) dX7_findNearest_90 ⟨by decide, by decide⟩ rfl ?_
            refine st_iload_n (q := 93) dX7_findNearest_92 rfl rfl ?_
            first | refine n_imul (q := 94) dX7_findNearest_93 rfl ⟨by omega, by omega⟩ ?_ | refine st_imul (q := 94) dX7_findNearest_93 rfl ?_
            refine st_iload_n (q := 95) dX7_findNearest_94 rfl rfl ?_
            first | refine n_iadd (q := 96) dX7_findNearest_95 rfl ⟨by omega, by omega⟩ ?_ | refine st_iadd (q := 96) dX7_findNearest_95 rfl ?_
            refine st_putI (q := 99) 7 3 dX7_findNearest_96 fl_X7_24 (by decide) (by decide) (Or.inl rfl) rfl (Or.inl rfl) (wfk w rfl) ?_
            first | refine n_iinc (q := 102) dX7_findNearest_99 rfl (by decide) rfl ⟨by omega, by omega⟩ ?_ | refine st_iinc (q := 102) dX7_findNearest_99 rfl (by decide) rfl ?_
            refine st_goto (q := 18) dX7_findNearest_102 (by decide) ?_
            first | (rw [if_pos (by omega)] at eS; refine lp_X7_findNearest w0 x0 o hP i (j + 1) hi (by omega) _ (apN (uO u i) (uO u j), ((10 * i + j : Nat) : Int)) _ (f.sI _ scN_3) (by rw [sI_s]; omega) ?_ ?_ ?_; (rw [← eS]; exact r2); (rw [← eS]; exact z2); (rw [← eS]; exact tJ)) | (rw [if_neg (by omega)] at eS; rw [eS] at tJ; exact lp_X7_findNearest w0 x0 o hP i (j + 1) hi (by omega) _ st _ f e3 r zz tJ) | exact lp_X7_findNearest w0 x0 o hP (i + 1) (i + 1 + 1) (by omega) (by omega) _ st _ f e3 r zz (eI (by omega) (by omega)) | (have eS := eS0 (by first | exact Or.inl (xi0.mp c36) | exact Or.inr ((xj0 (by omega)).mp c48)); have t := eJ (by omega); rw [eS] at t; exact lp_X7_findNearest w0 x0 o hP i (j + 1) hi (by omega) _ st _ f e3 r zz t)
termination_by (8 - i) * 9 + (8 - j)
decreasing_by all_goals omega
theorem c_X7_findNearest {d : Nat} {h : JH} {P : Int → JH → Prop} {u : HD} (w : WF h) (x : HX h u) (o : uOk u) (hP : ∀ h', Fr ScN h h' → hI h' 3 3 = (lsN u (hI h 3 3)).2 → P (lsV u) h') : JRi (d + 2) jX7_findNearest [vr 3] h P := by
  have hP2 : ∀ h', Fr ScN h h' → hI h' 3 3 = (lsN u (hI h 3 3)).2 → P (lsN u (hI h 3 3)).1 h' := fun h' f e => by rw [lsN_1]; exact hP h' f e
  refine JRet.of rfl (Nat.le_of_ble_eq_true rfl) ?_
  refine st_bipush (q := 2) dX7_findNearest_0 ⟨by decide, by decide⟩ rfl ?_
  refine st_istore_n (q := 3) (i := 1) dX7_findNearest_2 rfl (by decide) rfl ?_
  refine st_iconst (q := 4) dX7_findNearest_3 ⟨by decide, by decide⟩ rfl ?_
  refine st_istore_n (q := 5) (i := 2) dX7_findNearest_4 rfl (by decide) rfl ?_
  refine st_iload_n (q := 6) dX7_findNearest_5 rfl rfl ?_
  refine st_aload_n (q := 7) dX7_findNearest_6 rfl rfl ?_
  refine st_getR (q := 10) 7 0 dX7_findNearest_7 fl_X7_11 (by decide) (by decide) rfl rfl (wfk w rfl) (wfR w rfl) ?_
  refine st_arraylength (q := 11) (t := 3) dX7_findNearest_10 rfl (by decide) (wfk w rfl) ?_
  rw [wfl w (n := 8) rfl]
  refine st_icmp_ge (q := 14) (tgt := 111) dX7_findNearest_11 (by decide) rfl (fun z => absurd z (by decide)) (fun _ => ?_)
  refine st_iload_n (q := 15) dX7_findNearest_14 rfl rfl ?_
  refine st_iconst (q := 16) dX7_findNearest_15 ⟨by decide, by decide⟩ rfl ?_
  first | refine n_iadd (q := 17) dX7_findNearest_16 rfl ⟨by omega, by omega⟩ ?_ | refine st_iadd (q := 17) dX7_findNearest_16 rfl ?_
  refine st_istore_n (q := 18) (i := 3) dX7_findNearest_17 rfl (by decide) rfl ?_
  exact lp_X7_findNearest w x o hP2 0 1 (by omega) (by omega) _ (-9, hI h 3 3) _ Fr.rf rfl ⟨by show (-9 : Int) ≤ -9; decide, by show (-9 : Int) ≤ 16; decide⟩ (Or.inl rfl) rfl
theorem c_X11_apart {d : Nat} {h : JH} {P : Int → JH → Prop} {u : HD} {k o : Int} (w : WF h) (x : HX h u) (ok : uOk u) (h1 : ¬ ((0 ≤ k ∧ k ≤ 7) ∧ (0 ≤ o ∧ o ≤ 7)) → P (-1) h) (h2 : (0 ≤ k ∧ k ≤ 7) ∧ (0 ≤ o ∧ o ≤ 7) → uO u k.toNat = 0 ∨ uO u o.toNat = 0 → P (-3) (fnH h 1)) (h3 : (0 ≤ k ∧ k ≤ 7) ∧ (0 ≤ o ∧ o ≤ 7) → uO u k.toNat ≠ 0 → uO u o.toNat ≠ 0 → P (apN (uO u k.toNat) (uO u o.toNat) : Nat) h) : JRi (d + 3) jX11_apart [vr 0, vi k, vi o] h P := by
  refine JRet.of rfl (Nat.le_of_ble_eq_true rfl) ?_
  refine st_aload_n (q := 1) dX11_apart_0 rfl rfl ?_
  refine st_iload_n (q := 2) dX11_apart_1 rfl rfl ?_
  refine st_iload_n (q := 3) dX11_apart_2 rfl rfl ?_
  refine iV2i (q := 6) dX11_apart_3 rfl ml_X11_189 mv_X11_refusesHides (Nat.le_of_ble_eq_true rfl) (wfk w rfl) ?_
  refine c_X11_refusesHides w x (fun a1 => ?_) (fun a1 a2 => ?_) (fun a1 a2 a3 => ?_)
  · refine st_istore_n (q := 7) (i := 3) dX11_apart_6 rfl (by decide) rfl ?_
    refine st_iload_n (q := 8) dX11_apart_7 rfl rfl ?_
    refine st_if_eq (q := 11) (tgt := 13) dX11_apart_8 (by decide) rfl (fun z => absurd z (by decide)) (fun _ => ?_)
    refine st_iload_n (q := 12) dX11_apart_11 rfl rfl ?_
    refine rt_i dX11_apart_12 rfl ?_
    first | exact h1 (by omega) | exact h2 (by omega) (by omega) | exact h3 (by omega) (by omega) (by omega)
  · refine st_istore_n (q := 7) (i := 3) dX11_apart_6 rfl (by decide) rfl ?_
    refine st_iload_n (q := 8) dX11_apart_7 rfl rfl ?_
    refine st_if_eq (q := 11) (tgt := 13) dX11_apart_8 (by decide) rfl (fun z => absurd z (by decide)) (fun _ => ?_)
    refine st_iload_n (q := 12) dX11_apart_11 rfl rfl ?_
    refine rt_i dX11_apart_12 rfl ?_
    first | exact h1 (by omega) | exact h2 (by omega) (by omega) | exact h3 (by omega) (by omega) (by omega)
  · refine st_istore_n (q := 7) (i := 3) dX11_apart_6 rfl (by decide) rfl ?_
    refine st_iload_n (q := 8) dX11_apart_7 rfl rfl ?_
    refine st_if_eq (q := 11) (tgt := 13) dX11_apart_8 (by decide) rfl (fun _ => ?_) (fun z => absurd z (by decide))
    refine st_aload_n (q := 14) dX11_apart_13 rfl rfl ?_
    refine st_getR (q := 17) 11 2 dX11_apart_14 fl_X11_21 (by decide) (by decide) rfl rfl (wfk w rfl) (wfR w rfl) ?_
    refine st_getR (q := 20) 7 0 dX11_apart_17 fl_X11_147 (by decide) (by decide) rfl rfl (wfk w rfl) (wfR w rfl) ?_
    refine st_iload_n (q := 21) dX11_apart_20 rfl rfl ?_
    refine st_aaload (q := 22) (t := 3) dX11_apart_21 rfl ⟨by decide, by decide⟩ (wfk w rfl) (wfb w (n := 8) rfl ⟨by omega, by omega⟩) (xhide w (by omega)) ?_
    refine st_getI (q := 25) 2 3 dX11_apart_22 fl_X11_308 (by decide) (by decide) rfl rfl (xhk w (by omega)) ?_
    refine j_top _ ((x k.toNat (by omega)).2 a2).2.2 ?_
    refine st_aload_n (q := 26) dX11_apart_25 rfl rfl ?_
    refine st_getR (q := 29) 11 2 dX11_apart_26 fl_X11_21 (by decide) (by decide) rfl rfl (wfk w rfl) (wfR w rfl) ?_
    refine st_getR (q := 32) 7 0 dX11_apart_29 fl_X11_147 (by decide) (by decide) rfl rfl (wfk w rfl) (wfR w rfl) ?_
    refine st_iload_n (q := 33) dX11_apart_32 rfl rfl ?_
    refine st_aaload (q := 34) (t := 3) dX11_apart_33 rfl ⟨by decide, by decide⟩ (wfk w rfl) (wfb w (n := 8) rfl ⟨by omega, by omega⟩) (xhide w (by omega)) ?_
    refine st_getI (q := 37) 2 3 dX11_apart_34 fl_X11_308 (by decide) (by decide) rfl rfl (xhk w (by omega)) ?_
    refine j_top _ ((x o.toNat (by omega)).2 a3).2.2 ?_
    refine iS2i (q := 40) dX11_apart_37 rfl ml_X11_311 ms_X2_between (Nat.le_of_ble_eq_true rfl) ?_
    refine c_X2_between (ok k.toNat (by omega)).2.2 (ok o.toNat (by omega)).2.2 ?_
    refine rt_i dX11_apart_40 rfl ?_
    first | exact h1 (by omega) | exact h2 (by omega) (by omega) | exact h3 (by omega) (by omega) (by omega)
theorem pr_apart {d : Nat} {h : JH} {k o : Int} (I : Inv h) : Two (d + 4) jX11_apart jX12_apart [vi k, vi o] h := by
  have w := I.1
  obtain ⟨u, ok, m, x⟩ := I.2.2.2.1
  refine c_X11_apart w x ok (fun q => ?_) (fun q q2 => ?_) (fun q q2 q3 => ?_)
  · exact c_X12_apart w m ok (fun _ => ⟨rfl, I⟩) (fun _ _ => by exfalso; omega) (fun _ _ _ => by exfalso; omega)
  · exact c_X12_apart (h := fnH h 1) w m ok (fun _ => by exfalso; omega) (fun _ _ => ⟨rfl, inv_find I (by decide)⟩) (fun _ _ _ => by exfalso; omega)
  · exact c_X12_apart w m ok (fun _ => by exfalso; omega) (fun _ _ => by exfalso; omega) (fun _ _ _ => ⟨rfl, I⟩)
theorem fq_re {Sc : Nat → Nat → Prop} {h h' : JH} (f : Fq Sc h h') (a k : Nat) (v : Int) : Fq Sc (sI h a k v) (sI h' a k v) := ⟨f.1, f.2.1, fun b j z => by rw [sI_I, sI_I]; split; rfl; exact f.2.2.1 b j z, f.2.2.2⟩
theorem inv_ask2 {h h2 : JH} {v : Int} (I : Inv h) (f : Fq rgS (sI h 0 11 v) h2) : Inv (sI h2 117 2 v) := inv_s (inv_ask I v) (fq_re f 117 2 v)
theorem scN_S : ∀ a k, ScN a k → rgS a k := by intro a k z; unfold ScN at z; unfold rgS; omega
theorem scM_S : ∀ a k, ScM a k → rgS a k := fun _ _ z => Or.inl z
theorem c_X11_leastApart {d : Nat} {h : JH} {P : Int → JH → Prop} {u : HD} (w : WF h) (x : HX h u) (o : uOk u) (h1 : lsV u < 0 → ∀ h', Fr ScN h h' → P (-9) h') (h2 : 0 ≤ lsV u → ∀ h', Fr ScN h h' → P (lsV u) (sI h' 0 11 (lsN u 0).2)) : JRi (d + 3) jX11_leastApart [vr 0] h P := by
  have zz : lsZ (lsN u 0) := (lsV_LB u).2.elim Or.inl (fun ⟨i, j, z, e⟩ => Or.inr ((lsV_LB u).1 i j z).1)
  unfold lsZ at zz
  rw [show (lsN u 0).1 = lsV u from rfl] at zz
  refine JRet.of rfl (Nat.le_of_ble_eq_true rfl) ?_
  refine st_aload_n (q := 1) dX11_leastApart_0 rfl rfl ?_
  refine st_getR (q := 4) 11 2 dX11_leastApart_1 fl_X11_21 (by decide) (by decide) rfl rfl (wfk w rfl) (wfR w rfl) ?_
  refine iV0i (q := 7) dX11_leastApart_4 rfl ml_X11_314 mv_X7_findNearest (Nat.le_of_ble_eq_true rfl) (wfk w rfl) ?_
  refine c_X7_findNearest w x o (fun h' f e3 => ?_)
  have w2 := f.wf w
  refine st_istore_n (q := 8) (i := 1) dX11_leastApart_7 rfl (by decide) rfl ?_
  refine st_iload_n (q := 9) dX11_leastApart_8 rfl rfl ?_
  refine st_bipush (q := 11) dX11_leastApart_9 ⟨by decide, by decide⟩ rfl ?_
  refine st_icmp_eq (q := 14) (tgt := 26) dX11_leastApart_11 (by decide) rfl (fun c11 => ?_) (fun c11 => ?_)
  · refine st_iload_n (q := 27) dX11_leastApart_26 rfl rfl ?_
    refine rt_i dX11_leastApart_27 rfl ?_
    first | (have t := h1 (by omega) _ f; exact pq t (by omega) rfl) | exact h2 (by omega) _ f
  · refine st_aload_n (q := 15) dX11_leastApart_14 rfl rfl ?_
    refine st_aload_n (q := 16) dX11_leastApart_15 rfl rfl ?_
    refine st_getR (q := 19) 11 2 dX11_leastApart_16 fl_X11_21 (by decide) (by decide) rfl rfl (wfk w2 rfl) (wfR w2 rfl) ?_
    refine st_getI (q := 22) 7 3 dX11_leastApart_19 fl_X11_317 (by decide) (by decide) rfl rfl (wfk w2 rfl) ?_
    refine j_top (lsN u 0).2 (by rw [e3]; exact lsN_2 (by omega)) ?_
    refine iV1i (q := 25) dX11_leastApart_22 rfl ml_X11_106 mv_X11_tell (Nat.le_of_ble_eq_true rfl) (wfk w2 rfl) ?_
    refine c_X11_tell w2 ?_
    refine st_pop (q := 26) dX11_leastApart_25 rfl rfl ?_
    refine st_iload_n (q := 27) dX11_leastApart_26 rfl rfl ?_
    refine rt_i dX11_leastApart_27 rfl ?_
    first | (have t := h1 (by omega) _ f; exact pq t (by omega) rfl) | exact h2 (by omega) _ f
theorem pr_leastApart {d : Nat} {h : JH} (I : Inv h) : Two (d + 4) jX11_leastApart jX12_leastApart [] h := by
  have w := I.1
  obtain ⟨u, ok, m, x⟩ := I.2.2.2.1
  refine c_X11_leastApart w x ok (fun q h1 f1 => ?_) (fun q h1 f1 => ?_)
  · have F1 : Fq rgS h h1 := Fq.rf.fr f1 scN_S
    have m1 : HM h1 u := fun k hk => ⟨(f1.2.2 _ _ (by unfold ScN; omega)).trans (m k hk).1, (f1.2.2 _ _ (by unfold ScN; omega)).trans (m k hk).2.1, (f1.2.2 _ _ (by unfold ScN; omega)).trans (m k hk).2.2⟩
    refine c_X12_leastApart (F1.wf w) m1 ok (fun _ h2 f2 => ⟨rfl, inv_s I (F1.fr f2 scM_S)⟩) (fun z => by rw [lsN_1] at z; exfalso; omega)
  · have F1 : Fq rgS h h1 := Fq.rf.fr f1 scN_S
    have m1 : HM (sI h1 0 11 (lsN u 0).2) u := fun k hk => ⟨(f1.2.2 _ _ (by unfold ScN; omega)).trans (m k hk).1, (f1.2.2 _ _ (by unfold ScN; omega)).trans (m k hk).2.1, (f1.2.2 _ _ (by unfold ScN; omega)).trans (m k hk).2.2⟩
    have w1 : WF (sI h1 0 11 (lsN u 0).2) := F1.wf w
    refine c_X12_leastApart w1 m1 ok (fun z => by rw [lsN_1] at z; exfalso; omega) (fun _ h2 f2 => ⟨(lsN_1 u _).symm, ?_⟩)
    rw [show (lsN u (hI (sI h1 0 11 (lsN u 0).2) 117 46)).2 = (lsN u 0).2 from lsN_2 q]
    have I1 : Inv h1 := inv_s I F1
    generalize (lsN u 0).2 = v at *
    exact inv_ask2 I1 (Fq.rf.fr f2 scM_S)

