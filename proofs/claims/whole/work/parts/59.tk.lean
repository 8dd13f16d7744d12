/-! the class: takings, reaching; both sides answer alike -/
def TX (h : JH) (l : List Nat) : Prop := hI h 44 1 = (l.length : Int) ∧ ∀ (i x : Nat), l[i]? = some x → hI h 45 i = (x : Int)
def ScTx (a k : Nat) : Prop := (a = 44 ∧ k = 1) ∨ a = 45
theorem scX_1 : ScTx 44 1 := Or.inl ⟨rfl, rfl⟩
theorem scX_k (k : Nat) : ScTx 45 k := Or.inr rfl
theorem scTx_d : ∀ a k, (a = 13 ∧ k = 1) ∨ (16 ≤ a ∧ a ≤ 39) → ¬ ScTx a k := by intro a k z; unfold ScTx; omega
theorem scTx_S : ∀ a k, ScTx a k → rgS a k := by intro a k z; unfold ScTx at z; unfold rgS; omega
theorem TX.add {h : JH} {l : List Nat} (t : TX h l) (x : Nat) : TX (sI (sI h 45 l.length x) 44 1 ((l.length : Int) + 1)) (l ++ [x]) := by
  refine ⟨by rw [sI_s, List.length_append, List.length_singleton]; omega, fun i z hz => ?_⟩
  rw [sI_o _ (by decide)]
  by_cases e : i = l.length
  · subst e
    rw [List.getElem?_append_right (Nat.le_refl _), Nat.sub_self] at hz
    cases hz
    rw [sI_s]
  · rw [sI_k _ e]
    have hl : i < (l ++ [x]).length := (List.getElem?_eq_some_iff.mp hz).1
    rw [List.length_append, List.length_singleton] at hl
    rw [List.getElem?_append_left (by omega)] at hz
    exact t.2 i z hz
theorem and_p2 (f k : Nat) : f &&& 2 ^ k = if f.testBit k then 2 ^ k else 0 := by
  apply Nat.eq_of_testBit_eq
  intro i
  rw [Nat.testBit_and, Nat.testBit_two_pow]
  by_cases e : k = i
  · subst e
    cases h : f.testBit k
    · simp
    · simp
  · cases h : f.testBit k
    · simp [e]
    · simp [e]
def yAh (y : SY) (s : Nat) : Nat := if s = 0 then 0 else ySh y (s - 1)
theorem nandn_a0 {a : Nat} (ha : a < 256) : nandn a 0 = a := by
  apply Nat.eq_of_testBit_eq
  intro i
  rw [nandn_tb (by omega), Nat.zero_testBit]
  simp
theorem yFr_e {y : SY} (o : yOk y) {s : Nat} (hs : s < y.1) : nandn (ySh y s) (yAh y s) = yFr y s := by
  unfold yAh yFr
  by_cases e : s = 0
  · subst e; rw [if_pos rfl, if_pos rfl]; exact nandn_a0 (o.2 0 hs).1
  · rw [if_neg e, if_neg e]
theorem yAh_lt {y : SY} (o : yOk y) {s : Nat} (hs : s < y.1) : yAh y s < 256 := by
  unfold yAh
  split
  · decide
  · exact (o.2 (s - 1) (by omega)).1
theorem lp2_X10_gather {d : Nat} {h : JH} {P : JH → Prop} {y : SY} {s : Nat} (w0 : WF h) (o : yOk y) (hs : s < y.1) (hK : ∀ h' j, Fr ScTx h h' → TX h' (tks y (s + 1)) → JAt k0 (d + 1) jX10_gather 91 [vr 44, vr 13, vi (yAh y s : Nat), vi s, vi (ySh y s : Nat), j] [] h' (jqv P)) (k : Nat) (hk : k ≤ 8) : ∀ h', Fr ScTx h h' → TX h' (tks y s ++ frs (yFr y s) k) → JAt k0 (d + 1) jX10_gather 31 [vr 44, vr 13, vi (yAh y s : Nat), vi s, vi (ySh y s : Nat), vi k] [] h' (jqv P) := by
  intro h' f t
  have w := f.wf w0
  have o1 := o.1
  have l1 := yFr_lt o hs
  have l2 := yAh_lt o hs
  have l3 := (o.2 s hs).1
  have b1 := tks_len y s
  have b2 := frs_len (yFr y s) k
  have b3 : (tks y s ++ frs (yFr y s) k).length ≤ 8 * s + k := by rw [List.length_append]; omega
  have t1 := t.1
  have e0 : frs (yFr y s) (k + 1) = frs (yFr y s) k ++ (if (yFr y s).testBit k then [k] else []) := rfl
  have ef := yFr_e o hs
  generalize hl : tks y s ++ frs (yFr y s) k = l at *
  refine st_iload (q := 33) dX10_gather_31 rfl rfl ?_
  refine st_bipush (q := 35) dX10_gather_33 ⟨by decide, by decide⟩ rfl ?_
  refine st_icmp_ge (q := 38) (tgt := 91) dX10_gather_35 (by decide) rfl (fun c35 => ?_) (fun c35 => ?_)
  · have ek : k = 8 := by omega
    subst ek
    exact hK _ _ f (by rw [show tks y (s + 1) = tks y s ++ frs (yFr y s) 8 from rfl, hl]; exact t)
  · refine st_iload (q := 40) dX10_gather_38 rfl rfl ?_
    refine st_iload_n (q := 41) dX10_gather_40 rfl rfl ?_
    refine st_iconst (q := 42) dX10_gather_41 ⟨by decide, by decide⟩ rfl ?_
    refine st_ixor (q := 43) dX10_gather_42 rfl ?_
    refine st_iand (q := 44) dX10_gather_43 rfl ?_
    refine j_top ((yFr y s : Nat) : Int) (by rw [← ef]; exact iandn_n (by omega) (by omega)) ?_
    refine st_iconst (q := 45) dX10_gather_44 ⟨by decide, by decide⟩ rfl ?_
    refine st_iload (q := 47) dX10_gather_45 rfl rfl ?_
    refine st_ishl (q := 48) dX10_gather_47 rfl ?_
    rw [show (1 : Int) = ((1 : Nat) : Int) from rfl, ishl_n (by omega) (by rw [Nat.one_mul]; exact p31 (by omega)), Nat.one_mul]
    refine st_iand (q := 49) dX10_gather_48 rfl ?_
    refine j_top ((yFr y s &&& 2 ^ k : Nat) : Int) (iand_n (by omega)) ?_
    rw [and_p2]
    refine st_if_eq (q := 52) (tgt := 85) dX10_gather_49 (by decide) rfl (fun c49 => ?_) (fun c49 => ?_)
    · first | refine n_iinc (q := 88) dX10_gather_85 rfl (by decide) rfl ⟨by omega, by omega⟩ ?_ | refine st_iinc (q := 88) dX10_gather_85 rfl (by decide) rfl ?_
      refine st_goto (q := 31) dX10_gather_88 (by decide) ?_
      first | (rw [if_pos btk] at e0; have t2 := t.add k; refine lp2_X10_gather w0 o hs hK (k + 1) (by omega) _ ((f.sI _ (scX_k _)).sI _ scX_1) ?_; rw [e0, ← List.append_assoc, hl, show hI h' 44 1 = (l.length : Int) from t1]; exact t2) | (exfalso; omega) | (have btz : (yFr y s).testBit k = false := (by cases z : (yFr y s).testBit k; rfl; (rw [z, if_pos rfl] at c49; have := Nat.two_pow_pos k; omega)); rw [if_neg (by rw [btz]; decide), List.append_nil] at e0; exact lp2_X10_gather w0 o hs hK (k + 1) (by omega) _ f (by rw [e0, hl]; exact t))
    · have btk : (yFr y s).testBit k = true := (by cases z : (yFr y s).testBit k; (rw [z] at c49; exact absurd rfl c49); rfl)
      refine st_aload_n (q := 53) dX10_gather_52 rfl rfl ?_
      refine st_getI (q := 56) 10 1 dX10_gather_53 fl_X10_15 (by decide) (by decide) rfl rfl (wfk w rfl) ?_
      refine st_aload_n (q := 57) dX10_gather_56 rfl rfl ?_
      refine st_getR (q := 60) 10 0 dX10_gather_57 fl_X10_9 (by decide) (by decide) rfl rfl (wfk w rfl) (wfR w rfl) ?_
      refine st_arraylength (q := 61) (t := 0) dX10_gather_60 rfl (by decide) (wfk w rfl) ?_
      rw [wfl w (n := 96) rfl]
      refine st_icmp_ge (q := 64) (tgt := 85) dX10_gather_61 (by decide) rfl (fun c61 => ?_) (fun c61 => ?_)
      · first | refine n_iinc (q := 88) dX10_gather_85 rfl (by decide) rfl ⟨by omega, by omega⟩ ?_ | refine st_iinc (q := 88) dX10_gather_85 rfl (by decide) rfl ?_
        refine st_goto (q := 31) dX10_gather_88 (by decide) ?_
        first | (rw [if_pos btk] at e0; have t2 := t.add k; refine lp2_X10_gather w0 o hs hK (k + 1) (by omega) _ ((f.sI _ (scX_k _)).sI _ scX_1) ?_; rw [e0, ← List.append_assoc, hl, show hI h' 44 1 = (l.length : Int) from t1]; exact t2) | (exfalso; omega) | (have btz : (yFr y s).testBit k = false := (by cases z : (yFr y s).testBit k; rfl; (rw [z, if_pos rfl] at c49; have := Nat.two_pow_pos k; omega)); rw [if_neg (by rw [btz]; decide), List.append_nil] at e0; exact lp2_X10_gather w0 o hs hK (k + 1) (by omega) _ f (by rw [e0, hl]; exact t))
      · refine st_aload_n (q := 65) dX10_gather_64 rfl rfl ?_
        refine st_getR (q := 68) 10 0 dX10_gather_65 fl_X10_9 (by decide) (by decide) rfl rfl (wfk w rfl) (wfR w rfl) ?_
        refine st_aload_n (q := 69) dX10_gather_68 rfl rfl ?_
        refine st_getI (q := 72) 10 1 dX10_gather_69 fl_X10_15 (by decide) (by decide) rfl rfl (wfk w rfl) ?_
        refine st_iload (q := 74) dX10_gather_72 rfl rfl ?_
        refine st_iastore (q := 75) dX10_gather_74 rfl (wfk w rfl) (wfb w (n := 96) rfl ⟨by omega, by omega⟩) ?_
        refine st_aload_n (q := 76) dX10_gather_75 rfl rfl ?_
        refine st_dup (q := 77) dX10_gather_76 rfl rfl ?_
        refine st_getI (q := 80) 10 1 dX10_gather_77 fl_X10_15 (by decide) (by decide) rfl rfl (wfk w rfl) ?_
        refine j_top (l.length : Int) (by rw [sI_o _ (by decide)]; exact t1) ?_
        refine st_iconst (q := 81) dX10_gather_80 ⟨by decide, by decide⟩ rfl ?_
        first | refine n_iadd (q := 82) dX10_gather_81 rfl ⟨by omega, by omega⟩ ?_ | refine st_iadd (q := 82) dX10_gather_81 rfl ?_
        refine st_putI (q := 85) 10 1 dX10_gather_82 fl_X10_15 (by decide) (by decide) (Or.inl rfl) rfl (Or.inl rfl) (wfk w rfl) ?_
        first | refine n_iinc (q := 88) dX10_gather_85 rfl (by decide) rfl ⟨by omega, by omega⟩ ?_ | refine st_iinc (q := 88) dX10_gather_85 rfl (by decide) rfl ?_
        refine st_goto (q := 31) dX10_gather_88 (by decide) ?_
        first | (rw [if_pos btk] at e0; have t2 := t.add k; refine lp2_X10_gather w0 o hs hK (k + 1) (by omega) _ ((f.sI _ (scX_k _)).sI _ scX_1) ?_; rw [e0, ← List.append_assoc, hl, show hI h' 44 1 = (l.length : Int) from t1]; exact t2) | (exfalso; omega) | (have btz : (yFr y s).testBit k = false := (by cases z : (yFr y s).testBit k; rfl; (rw [z, if_pos rfl] at c49; have := Nat.two_pow_pos k; omega)); rw [if_neg (by rw [btz]; decide), List.append_nil] at e0; exact lp2_X10_gather w0 o hs hK (k + 1) (by omega) _ f (by rw [e0, hl]; exact t))
termination_by 8 - k
theorem lp1_X10_gather {d : Nat} {h : JH} {P : JH → Prop} {y : SY} {b : Nat} (w0 : WF h) (x0 : SX h y b) (o : yOk y) (hP : ∀ h', Fr ScTx h h' → TX h' (tks y y.1) → P h') (s : Nat) (hs : s ≤ y.1) : ∀ h' j4 j5, Fr ScTx h h' → TX h' (tks y s) → JAt k0 (d + 1) jX10_gather 9 [vr 44, vr 13, vi (yAh y s : Nat), vi s, j4, j5] [] h' (jqv P) := by
  intro h' j4 j5 f t
  have w := f.wf w0
  have x := x0.fr o f scTx_d
  have x1 := x.2.2.2.1
  have o1 := o.1
  refine st_iload_n (q := 10) dX10_gather_9 rfl rfl ?_
  refine st_aload_n (q := 11) dX10_gather_10 rfl rfl ?_
  refine st_getI (q := 14) 8 1 dX10_gather_11 fl_X10_25 (by decide) (by decide) rfl rfl (by first | exact wfk w rfl | exact xsk (h := h') w x | exact xck (h := h') w x (by omega)) ?_
  refine st_icmp_ge (q := 17) (tgt := 100) dX10_gather_14 (by decide) rfl (fun c14 => ?_) (fun c14 => ?_)
  · refine rt_v dX10_gather_100 rfl ?_
    have es : s = y.1 := by omega
    subst es
    exact hP _ f t
  · refine st_aload_n (q := 18) dX10_gather_17 rfl rfl ?_
    refine st_getR (q := 21) 8 0 dX10_gather_18 fl_X10_30 (by decide) (by decide) rfl rfl (by first | exact wfk w rfl | exact xsk (h := h') w x | exact xck (h := h') w x (by omega)) (by first | exact wfR w rfl | exact x.2.1) ?_
    refine st_iload_n (q := 22) dX10_gather_21 rfl rfl ?_
    refine st_aaload (q := 23) (t := 4) dX10_gather_22 rfl ⟨by decide, by decide⟩ (by first | exact wfk w rfl | exact xsk (h := h') w x | exact xck (h := h') w x (by omega)) (by first | exact wfb w rfl ⟨by omega, by omega⟩ | exact xsb (h := h') w x ⟨by omega, by omega⟩) (xsc (h := h') w x (by omega)) ?_
    refine st_getI (q := 26) 5 0 dX10_gather_23 fl_X10_34 (by decide) (by decide) rfl rfl (by first | exact wfk w rfl | exact xsk (h := h') w x | exact xck (h := h') w x (by omega)) ?_
    refine j_top ((ySh y s : Nat) : Int) (x.2.2.2.2 s (by omega)).1 ?_
    refine st_istore (q := 28) dX10_gather_26 (by decide) rfl ?_
    refine st_iconst (q := 29) dX10_gather_28 ⟨by decide, by decide⟩ rfl ?_
    refine st_istore (q := 31) dX10_gather_29 (by decide) rfl ?_
    refine lp2_X10_gather w0 o (by omega) (fun h2 j f2 t2 => ?_) 0 (by omega) _ f (by rw [show frs (yFr y s) 0 = [] from rfl, List.append_nil]; exact t)
    refine st_iload (q := 93) dX10_gather_91 rfl rfl ?_
    refine st_istore_n (q := 94) (i := 2) dX10_gather_93 rfl (by decide) rfl ?_
    refine n_iinc (q := 97) dX10_gather_94 rfl (by decide) rfl ⟨by omega, by omega⟩ ?_
    refine st_goto (q := 9) dX10_gather_97 (by decide) ?_
    exact lp1_X10_gather w0 x0 o hP (s + 1) (by omega) _ _ _ f2 t2
termination_by y.1 - s
theorem c_X10_gather {d : Nat} {h : JH} {P : JH → Prop} {y : SY} {b : Nat} (w : WF h) (x : SX h y b) (o : yOk y) (hP : ∀ h', Fr ScTx h h' → TX h' (tks y y.1) → P h') : JRv (d + 1) jX10_gather [vr 44, vr 13] h P := by
  refine JRet.of rfl (Nat.le_of_ble_eq_true rfl) ?_
  refine st_aload_n (q := 1) dX10_gather_0 rfl rfl ?_
  refine st_iconst (q := 2) dX10_gather_1 ⟨by decide, by decide⟩ rfl ?_
  refine st_putI (q := 5) 10 1 dX10_gather_2 fl_X10_15 (by decide) (by decide) (Or.inl rfl) rfl (Or.inl rfl) (wfk w rfl) ?_
  refine st_iconst (q := 6) dX10_gather_5 ⟨by decide, by decide⟩ rfl ?_
  refine st_istore_n (q := 7) (i := 2) dX10_gather_6 rfl (by decide) rfl ?_
  refine st_iconst (q := 8) dX10_gather_7 ⟨by decide, by decide⟩ rfl ?_
  refine st_istore_n (q := 9) (i := 3) dX10_gather_8 rfl (by decide) rfl ?_
  exact lp1_X10_gather w x o hP 0 (by omega) _ _ _ (Fr.rf.sI _ scX_1) ⟨by rw [sI_s]; rfl, fun i x z => by cases z⟩
theorem c_X10_last {d : Nat} {h : JH} {P : Int → JH → Prop} {l : List Nat} (w : WF h) (t : TX h l) (hl : l.length ≤ 96) (hP : P (if l.length = 0 then -9 else (l.getD (l.length - 1) 0 : Nat)) h) : JRi d jX10_last [vr 44] h P := by
  have t1 := t.1
  refine JRet.of rfl (Nat.le_of_ble_eq_true rfl) ?_
  refine st_aload_n (q := 1) dX10_last_0 rfl rfl ?_
  refine st_getI (q := 4) 10 1 dX10_last_1 fl_X10_15 (by decide) (by decide) rfl rfl (wfk w rfl) ?_
  refine st_if_le (q := 7) (tgt := 21) dX10_last_4 (by decide) rfl (fun c4 => ?_) (fun c4 => ?_)
  · refine st_bipush (q := 23) dX10_last_21 ⟨by decide, by decide⟩ rfl ?_
    refine rt_i dX10_last_23 rfl ?_
    first | (refine pq hP ?_ rfl; rw [if_pos (by omega)]; done) | (refine pq hP ?_ rfl; rw [if_neg (by omega), t1, show (((l.length : Nat) : Int) - 1).toNat = l.length - 1 by omega]; exact (t.2 _ _ (getD_some (by omega))).symm)
  · refine st_aload_n (q := 8) dX10_last_7 rfl rfl ?_
    refine st_getR (q := 11) 10 0 dX10_last_8 fl_X10_9 (by decide) (by decide) rfl rfl (wfk w rfl) (wfR w rfl) ?_
    refine st_aload_n (q := 12) dX10_last_11 rfl rfl ?_
    refine st_getI (q := 15) 10 1 dX10_last_12 fl_X10_15 (by decide) (by decide) rfl rfl (wfk w rfl) ?_
    refine st_iconst (q := 16) dX10_last_15 ⟨by decide, by decide⟩ rfl ?_
    first | refine n_isub (q := 17) dX10_last_16 rfl ⟨by omega, by omega⟩ ?_ | refine st_isub (q := 17) dX10_last_16 rfl ?_
    refine st_iaload (q := 18) dX10_last_17 rfl (wfk w rfl) (wfb w (n := 96) rfl ⟨by omega, by omega⟩) ?_
    refine st_goto (q := 23) dX10_last_18 (by decide) ?_
    refine rt_i dX10_last_23 rfl ?_
    first | (refine pq hP ?_ rfl; rw [if_pos (by omega)]; done) | (refine pq hP ?_ rfl; rw [if_neg (by omega), t1, show (((l.length : Nat) : Int) - 1).toNat = l.length - 1 by omega]; exact (t.2 _ _ (getD_some (by omega))).symm)
theorem pr_takings {d : Nat} {h : JH} (I : Inv h) : Two (d + 4) jX11_takings jX12_takings [] h := by
  have w := I.1
  obtain ⟨y, b, ⟨o, o4⟩, m, x⟩ := I.2.2.2.2.2.1
  have o1 := o.1
  have b1 := tks_len y y.1
  have g : ∀ h1, Fr ScTx h h1 → JRi (d + 4) jX12_takings [vr 117] (sI h1 0 11 (if (tks y y.1).length = 0 then -9 else ((tks y y.1).getD ((tks y y.1).length - 1) 0 : Nat))) (fun v' h2 => (((tks y y.1).length : Nat) : Int) = v' ∧ Inv h2) := fun h1 f1 => by
    have F1 : Fq rgS h h1 := Fq.rf.fr f1 scTx_S
    have I1 : Inv h1 := inv_s I F1
    have m1 : SM h1 y := m.fq (Fq.rf.fr (Sc := ScTx) f1 (fun _ _ z => z)) (by intro a k z; simp only [rgSy, ScTx] at z ⊢; omega)
    exact c_X12_takings I1.1 (SM_x m1 (by decide)) o (fun h2 f2 => ⟨rfl, inv_ask2 I1 (Fq.rf.fr f2 scM_S)⟩)
  refine JRet.of rfl (Nat.le_of_ble_eq_true rfl) ?_
  refine st_aload_n (q := 1) dX11_takings_0 rfl rfl ?_
  refine st_getR (q := 4) 11 6 dX11_takings_1 fl_X11_49 (by decide) (by decide) rfl rfl (wfk w rfl) (wfR w rfl) ?_
  refine st_aload_n (q := 5) dX11_takings_4 rfl rfl ?_
  refine st_getR (q := 8) 11 3 dX11_takings_5 fl_X11_28 (by decide) (by decide) rfl rfl (wfk w rfl) (wfR w rfl) ?_
  refine iV1v (q := 11) dX11_takings_8 rfl ml_X11_222 mv_X10_gather (Nat.le_of_ble_eq_true rfl) (wfk w rfl) ?_
  refine c_X10_gather w x o (fun h1 f1 t1 => ?_)
  have w1 := f1.wf w
  refine st_aload_n (q := 12) dX11_takings_11 rfl rfl ?_
  refine st_aload_n (q := 13) dX11_takings_12 rfl rfl ?_
  refine st_getR (q := 16) 11 6 dX11_takings_13 fl_X11_49 (by decide) (by decide) rfl rfl (wfk w1 rfl) (wfR w1 rfl) ?_
  refine iV0i (q := 19) dX11_takings_16 rfl ml_X11_226 mv_X10_last (Nat.le_of_ble_eq_true rfl) (wfk w1 rfl) ?_
  refine c_X10_last w1 t1 (by omega) ?_
  refine iV1i (q := 22) dX11_takings_19 rfl ml_X11_106 mv_X11_tell (Nat.le_of_ble_eq_true rfl) (wfk w1 rfl) ?_
  refine c_X11_tell w1 ?_
  refine st_pop (q := 23) dX11_takings_22 rfl rfl ?_
  refine st_aload_n (q := 24) dX11_takings_23 rfl rfl ?_
  refine st_getR (q := 27) 11 6 dX11_takings_24 fl_X11_49 (by decide) (by decide) rfl rfl (wfk w1 rfl) (wfR w1 rfl) ?_
  refine st_getI (q := 30) 10 1 dX11_takings_27 fl_X11_230 (by decide) (by decide) rfl rfl (wfk w1 rfl) ?_
  refine j_top (((tks y y.1).length : Nat) : Int) t1.1 ?_
  refine rt_i dX11_takings_30 rfl ?_
  exact g h1 f1
theorem lp_X10_reach {d : Nat} {h : JH} {P : Int → JH → Prop} {l : List Nat} (w : WF h) (t : TX h l) (hl : l.length ≤ 96) (hx : ∀ x ∈ l, x < 8) (hb : ∀ x ∈ l, 0 ≤ hI h 46 x ∧ hI h 46 x ≤ 7) (hP : P (rcF (hI h 46) l l.length).1 h) (k : Nat) (hk : k ≤ l.length) : ∀ j, JAt k0 (d + 1) jX10_reach 6 [vr 44, vi (rcF (hI h 46) l k).1, vi (rcF (hI h 46) l k).2, vi k, j] [] h (jqi P) := by
  intro j
  have t1 := t.1
  have b1 := rcF_b hb k hk
  have q : k < l.length → hI h 45 ((k : Int)).toNat = (l.getD k 0 : Nat) ∧ l.getD k 0 < 8 ∧ 0 ≤ hI h 46 (l.getD k 0) ∧ hI h 46 (l.getD k 0) ≤ 7 := fun z => by
    have e := getD_some z
    have hm := List.mem_of_getElem? e
    exact ⟨t.2 k _ e, hx _ hm, hb _ hm⟩
  refine st_iload_n (q := 7) dX10_reach_6 rfl rfl ?_
  refine st_aload_n (q := 8) dX10_reach_7 rfl rfl ?_
  refine st_getI (q := 11) 10 1 dX10_reach_8 fl_X10_15 (by decide) (by decide) rfl rfl (wfk w rfl) ?_
  refine st_icmp_ge (q := 14) (tgt := 46) dX10_reach_11 (by decide) rfl (fun c11 => ?_) (fun c11 => ?_)
  · refine st_iload_n (q := 47) dX10_reach_46 rfl rfl ?_
    refine rt_i dX10_reach_47 rfl ?_
    exact pq hP (by rw [show k = l.length by omega]) rfl
  · refine st_aload_n (q := 15) dX10_reach_14 rfl rfl ?_
    refine st_getR (q := 18) 10 2 dX10_reach_15 fl_X10_19 (by decide) (by decide) rfl rfl (wfk w rfl) (wfR w rfl) ?_
    refine st_aload_n (q := 19) dX10_reach_18 rfl rfl ?_
    refine st_getR (q := 22) 10 0 dX10_reach_19 fl_X10_9 (by decide) (by decide) rfl rfl (wfk w rfl) (wfR w rfl) ?_
    refine st_iload_n (q := 23) dX10_reach_22 rfl rfl ?_
    refine st_iaload (q := 24) dX10_reach_23 rfl (wfk w rfl) (wfb w (n := 96) rfl ⟨by omega, by omega⟩) ?_
    have q2 := q (by omega)
    refine j_top _ q2.1 ?_
    refine st_iaload (q := 25) dX10_reach_24 rfl (wfk w rfl) (wfb w (n := 8) rfl ⟨by omega, by omega⟩) ?_
    rw [show (((l.getD k 0 : Nat) : Int)).toNat = l.getD k 0 from rfl]
    refine st_istore (q := 27) dX10_reach_25 (by decide) rfl ?_
    refine st_iload_n (q := 28) dX10_reach_27 rfl rfl ?_
    refine st_iload (q := 30) dX10_reach_28 rfl rfl ?_
    refine st_iload_n (q := 31) dX10_reach_30 rfl rfl ?_
    first | refine n_isub (q := 32) dX10_reach_31 rfl ⟨by omega, by omega⟩ ?_ | refine st_isub (q := 32) dX10_reach_31 rfl ?_
    refine st_mabs (q := 35) dX10_reach_32 rfl ml_X10_50 (Nat.le_of_ble_eq_true rfl) (by omega) ?_
    first | refine n_iadd (q := 36) dX10_reach_35 rfl ⟨by omega, by omega⟩ ?_ | refine st_iadd (q := 36) dX10_reach_35 rfl ?_
    refine st_istore_n (q := 37) (i := 1) dX10_reach_36 rfl (by decide) rfl ?_
    refine st_iload (q := 39) dX10_reach_37 rfl rfl ?_
    refine st_istore_n (q := 40) (i := 2) dX10_reach_39 rfl (by decide) rfl ?_
    first | refine n_iinc (q := 43) dX10_reach_40 rfl (by decide) rfl ⟨by omega, by omega⟩ ?_ | refine st_iinc (q := 43) dX10_reach_40 rfl (by decide) rfl ?_
    refine st_goto (q := 6) dX10_reach_43 (by decide) ?_
    exact lp_X10_reach w t hl hx hb hP (k + 1) (by omega) _
termination_by l.length - k
theorem c_X10_reach {d : Nat} {h : JH} {P : Int → JH → Prop} {l : List Nat} (w : WF h) (t : TX h l) (hl : l.length ≤ 96) (hx : ∀ x ∈ l, x < 8) (hb : ∀ x ∈ l, 0 ≤ hI h 46 x ∧ hI h 46 x ≤ 7) (hP : P (rcF (hI h 46) l l.length).1 h) : JRi (d + 1) jX10_reach [vr 44] h P := by
  refine JRet.of rfl (Nat.le_of_ble_eq_true rfl) ?_
  refine st_iconst (q := 1) dX10_reach_0 ⟨by decide, by decide⟩ rfl ?_
  refine st_istore_n (q := 2) (i := 1) dX10_reach_1 rfl (by decide) rfl ?_
  refine st_iconst (q := 3) dX10_reach_2 ⟨by decide, by decide⟩ rfl ?_
  refine st_istore_n (q := 4) (i := 2) dX10_reach_3 rfl (by decide) rfl ?_
  refine st_iconst (q := 5) dX10_reach_4 ⟨by decide, by decide⟩ rfl ?_
  refine st_istore_n (q := 6) (i := 3) dX10_reach_5 rfl (by decide) rfl ?_
  exact lp_X10_reach w t hl hx hb hP 0 (by omega) _
theorem pcN_set {a x : Nat} (ha : a < 256) (h : a.testBit x = true) : a ||| 2 ^ x = a := by
  apply Nat.eq_of_testBit_eq
  intro i
  rw [Nat.testBit_or, Nat.testBit_two_pow]
  by_cases e : x = i
  · subst e; rw [h]; rfl
  · simp [e]
/-- a row that names as many hides as it has places names none twice -/
theorem snF_pc2 {f : Nat → Int} : ∀ n, pcN (snF f n) 16 = n → ∀ i, i < n → (snF f i).testBit (f i).toNat = false
  | 0, _, i, hi => absurd hi (Nat.not_lt_zero i)
  | n + 1, h, i, hi => by
    have hv := (snF_pc f (n + 1)).2 h
    have e : snF f (n + 1) = snF f n ||| (if 0 ≤ f n ∧ f n ≤ 7 then 2 ^ (f n).toNat else 0) := rfl
    rw [if_pos (hv n (by omega))] at e
    have h1 := (snF_pc f n).1
    have h2 := pcN_or (snF f n) (2 ^ (f n).toNat) 16
    rw [← e, pcN_pow _ (by have := hv n (by omega); omega)] at h2
    by_cases z : i = n
    · subst z
      cases t : (snF f i).testBit (f i).toNat
      · rfl
      · rw [pcN_set (snF_lt f i) t] at e
        rw [e] at h; omega
    · exact snF_pc2 n (by omega) i (by omega)
theorem nandn_sn {N a x : Nat} (hN : N < 256) : nandn (nandn N a) (2 ^ x) = nandn N (a ||| 2 ^ x) := by
  apply Nat.eq_of_testBit_eq
  intro i
  have := nandn_le N a
  rw [nandn_tb (by omega), nandn_tb (by omega), nandn_tb (by omega), Nat.testBit_or]
  cases N.testBit i <;> cases a.testBit i <;> simp
theorem nandn_self {N : Nat} (hN : N < 256) : nandn N N = 0 := (nandn_0 (by omega)).mpr (fun _ h => h)
def ScPl (a _k : Nat) : Prop := a = 46
theorem lp_X10_putInOrder {d : Nat} {h : JH} {P : Int → JH → Prop} {a n N : Nat} (w : WF h) (s : SP h a) (ha : 97 ≤ a ∧ a ≤ 107) (hz : hI h a 1 = (n : Int)) (hn : n ≤ 8) (hN : N < 256) (hpc : pcN N 16 = n) (h1 : snF (hI h (a + 1)) n = N → P 1 (wI h 46 (plF (hI h 46) (fun i => (hI h (a + 1) i).toNat) n))) (h0 : snF (hI h (a + 1)) n ≠ N → ∀ h', Fr ScPl h h' → P 0 h') (i : Nat) (hi : i ≤ n) (hk : ∀ k, k < i → (0 ≤ hI h (a + 1) k ∧ hI h (a + 1) k ≤ 7) ∧ N.testBit (hI h (a + 1) k).toNat = true) : ∀ j, JAt k0 (d + 2) jX10_putInOrder 5 [vr 44, vr a, vi N, vi (nandn N (snF (hI h (a + 1)) i) : Nat), vi i, j] [] (wI h 46 (plF (hI h 46) (fun i => (hI h (a + 1) i).toNat) i)) (jqi P) := by
  intro j
  generalize hF : hI h (a + 1) = F at *
  have z1 : hI (wI h 46 (plF (hI h 46) (fun i => (F i).toNat) i)) a 1 = (n : Int) := by rw [wI_ne _ _ (by omega)]; exact hz
  have z2 : hI (wI h 46 (plF (hI h 46) (fun i => (F i).toNat) i)) (a + 1) = F := by rw [wI_ne _ _ (by omega)]; exact hF
  have nl := nandn_le N (snF F i)
  have e0 : snF F (i + 1) = snF F i ||| (if 0 ≤ F i ∧ F i ≤ 7 then 2 ^ (F i).toNat else 0) := rfl
  have fr : Fr ScPl h (wI h 46 (plF (hI h 46) (fun i => (F i).toNat) i)) := wI_fr (fun k => rfl)
  have hv := (snF_pc F n).2
  have hd := snF_pc2 (f := F) n
  have tb := nandn_tb (a := N) (b := snF F i) (by omega)
  have nG : snF F n = N → ∀ k, k < n → (0 ≤ F k ∧ F k ≤ 7) ∧ N.testBit (F k).toNat = true ∧ (snF F k).testBit (F k).toNat = false := fun e k hkn => by
    have v := hv (by rw [e]; exact hpc) k hkn
    exact ⟨v, by rw [← e]; exact (snF_tb F _ n).mpr ⟨k, hkn, v.1, v.2, rfl⟩, hd (by rw [e]; exact hpc) k hkn⟩
  refine st_iload (q := 7) dX10_putInOrder_5 rfl rfl ?_
  refine st_aload_n (q := 8) dX10_putInOrder_7 rfl rfl ?_
  refine st_getI (q := 11) 9 1 dX10_putInOrder_8 fl_X10_39 (by decide) (by decide) rfl rfl (by first | exact wfk w rfl | exact s.1) ?_
  refine j_top _ z1 ?_
  refine st_icmp_ge (q := 14) (tgt := 67) dX10_putInOrder_11 (by decide) rfl (fun c11 => ?_) (fun c11 => ?_)
  · refine st_iload_n (q := 68) dX10_putInOrder_67 rfl rfl ?_
    refine st_if_ne (q := 71) (tgt := 75) dX10_putInOrder_68 (by decide) rfl (fun c68 => ?_) (fun c68 => ?_)
    · refine st_iconst (q := 76) dX10_putInOrder_75 ⟨by decide, by decide⟩ rfl ?_
      refine rt_z dX10_putInOrder_76 rfl (by (repeat' split) <;> omega) ?_
      have ei : i = n := (by omega)
      subst ei
      have es : nandn N (snF F i) = 0 → snF F i = N := fun z0 => (by apply Nat.eq_of_testBit_eq; intro b; cases hb : N.testBit b; (cases hc : (snF F i).testBit b; rfl; (obtain ⟨k, k1, k2, k3, k4⟩ := (snF_tb F b i).mp hc; have g := (hk k k1).2; rw [k4, hb] at g; cases g)); exact (nandn_0 (by omega)).mp z0 b hb)
      first | exact h1 (es (by omega)) | exact h0 (fun e => by rw [e, nandn_self hN] at c68; exact absurd c68 (by decide)) _ fr
    · refine st_iconst (q := 72) dX10_putInOrder_71 ⟨by decide, by decide⟩ rfl ?_
      refine st_goto (q := 76) dX10_putInOrder_72 (by decide) ?_
      refine rt_z dX10_putInOrder_76 rfl (by (repeat' split) <;> omega) ?_
      have ei : i = n := (by omega)
      subst ei
      have es : nandn N (snF F i) = 0 → snF F i = N := fun z0 => (by apply Nat.eq_of_testBit_eq; intro b; cases hb : N.testBit b; (cases hc : (snF F i).testBit b; rfl; (obtain ⟨k, k1, k2, k3, k4⟩ := (snF_tb F b i).mp hc; have g := (hk k k1).2; rw [k4, hb] at g; cases g)); exact (nandn_0 (by omega)).mp z0 b hb)
      first | exact h1 (es (by omega)) | exact h0 (fun e => by rw [e, nandn_self hN] at c68; exact absurd c68 (by decide)) _ fr
  · refine st_aload_n (q := 15) dX10_putInOrder_14 rfl rfl ?_
    refine st_iload (q := 17) dX10_putInOrder_15 rfl rfl ?_
    refine iV1i (q := 20) dX10_putInOrder_17 rfl ml_X10_42 mv_X9_get (Nat.le_of_ble_eq_true rfl) (by first | exact wfk w rfl | exact s.1) ?_
    refine c_X9_get (h := wI h 46 (plF (hI h 46) (fun i => (F i).toNat) i)) s (by omega) ?_
    rw [z1, z2, if_pos (by omega), show ((i : Int)).toNat = i from rfl]
    refine st_istore (q := 22) dX10_putInOrder_20 (by decide) rfl ?_
    refine st_iload (q := 24) dX10_putInOrder_22 rfl rfl ?_
    refine st_bipush (q := 26) dX10_putInOrder_24 ⟨by decide, by decide⟩ rfl ?_
    refine iN2i (q := 29) dX10_putInOrder_26 rfl mn_X10_46 ms_X11_isNone (Nat.le_of_ble_eq_true rfl) ?_
    refine c_X11_isNone ?_
    refine st_if_ne (q := 32) (tgt := 41) dX10_putInOrder_29 (by decide) rfl (fun c29 => ?_) (fun c29 => ?_)
    · refine st_iconst (q := 42) dX10_putInOrder_41 ⟨by decide, by decide⟩ rfl ?_
      refine rt_z dX10_putInOrder_42 rfl (by (repeat' split) <;> omega) ?_
      first | exact h0 (fun e => by have g := (nG e i (by omega)).1; omega) _ fr | exact h0 (fun e => by have g := (nG e i (by omega)).2; have q := tb (F i).toNat; rw [g.1, g.2] at q; rw [q] at c38; exact absurd c38 (by decide)) _ fr
    · refine st_iload_n (q := 33) dX10_putInOrder_32 rfl rfl ?_
      refine st_iload (q := 35) dX10_putInOrder_33 rfl rfl ?_
      refine st_ishr (q := 36) dX10_putInOrder_35 rfl ?_
      refine st_iconst (q := 37) dX10_putInOrder_36 ⟨by decide, by decide⟩ rfl ?_
      refine st_iand (q := 38) dX10_putInOrder_37 rfl ?_
      refine j_top (if (nandn N (snF F i)).testBit (F i).toNat then 1 else 0) (by have hq : F i = ((F i).toNat : Int) := (by omega); have := bit_n (a := nandn N (snF F i)) (k := (F i).toNat) (by omega) (by omega); rw [← hq] at this; exact this) ?_
      refine st_if_ne (q := 41) (tgt := 43) dX10_putInOrder_38 (by decide) rfl (fun c38 => ?_) (fun c38 => ?_)
      · refine st_iload_n (q := 44) dX10_putInOrder_43 rfl rfl ?_
        refine st_iconst (q := 45) dX10_putInOrder_44 ⟨by decide, by decide⟩ rfl ?_
        refine st_iload (q := 47) dX10_putInOrder_45 rfl rfl ?_
        refine st_ishl (q := 48) dX10_putInOrder_47 rfl ?_
        rw [show ishl 1 (F i) = ((2 ^ (F i).toNat : Nat) : Int) from (by have hq : F i = ((F i).toNat : Int) := (by omega); have := ishl_n (a := 1) (k := (F i).toNat) (by omega) (by rw [Nat.one_mul]; exact p31 (by omega)); rw [← hq, Nat.one_mul] at this; exact this)]
        refine st_iconst (q := 49) dX10_putInOrder_48 ⟨by decide, by decide⟩ rfl ?_
        refine st_ixor (q := 50) dX10_putInOrder_49 rfl ?_
        refine st_iand (q := 51) dX10_putInOrder_50 rfl ?_
        refine j_top ((nandn (nandn N (snF F i)) (2 ^ (F i).toNat) : Nat) : Int) (iandn_n (by omega) (by have := p8 (show (F i).toNat < 8 by omega); omega)) ?_
        refine st_istore_n (q := 52) (i := 3) dX10_putInOrder_51 rfl (by decide) rfl ?_
        refine st_aload_n (q := 53) dX10_putInOrder_52 rfl rfl ?_
        refine st_getR (q := 56) 10 2 dX10_putInOrder_53 fl_X10_19 (by decide) (by decide) rfl rfl (by first | exact wfk w rfl | exact s.1) (wfR w rfl) ?_
        refine st_iload (q := 58) dX10_putInOrder_56 rfl rfl ?_
        refine st_iload (q := 60) dX10_putInOrder_58 rfl rfl ?_
        refine st_iastore (q := 61) dX10_putInOrder_60 rfl (by first | exact wfk w rfl | exact s.1) (wfb w (n := 8) rfl ⟨by omega, by omega⟩) ?_
        first | refine n_iinc (q := 64) dX10_putInOrder_61 rfl (by decide) rfl ⟨by omega, by omega⟩ ?_ | refine st_iinc (q := 64) dX10_putInOrder_61 rfl (by decide) rfl ?_
        refine st_goto (q := 5) dX10_putInOrder_64 (by decide) ?_
        have btk := tb1.mp c38
        rw [tb, Bool.and_eq_true] at btk
        rw [if_pos (by omega)] at e0
        rw [nandn_sn hN, ← e0, sI_wI]
        subst hF
        exact lp_X10_putInOrder w s ha hz hn hN hpc h1 h0 (i + 1) (by omega) (fun k hkk => by by_cases e : k = i; (subst e; exact ⟨by omega, btk.1⟩); exact hk k (by omega)) _
      · refine st_iconst (q := 42) dX10_putInOrder_41 ⟨by decide, by decide⟩ rfl ?_
        refine rt_z dX10_putInOrder_42 rfl (by (repeat' split) <;> omega) ?_
        first | exact h0 (fun e => by have g := (nG e i (by omega)).1; omega) _ fr | exact h0 (fun e => by have g := (nG e i (by omega)).2; have q := tb (F i).toNat; rw [g.1, g.2] at q; rw [q] at c38; exact absurd c38 (by decide)) _ fr
termination_by n - i
theorem c_X10_putInOrder {d : Nat} {h : JH} {P : Int → JH → Prop} {a n N : Nat} (w : WF h) (s : SP h a) (ha : 97 ≤ a ∧ a ≤ 107) (hz : hI h a 1 = (n : Int)) (hn : n ≤ 8) (hN : N < 256) (hpc : pcN N 16 = n) (h1 : snF (hI h (a + 1)) n = N → P 1 (wI h 46 (plF (hI h 46) (fun i => (hI h (a + 1) i).toNat) n))) (h0 : snF (hI h (a + 1)) n ≠ N → ∀ h', Fr ScPl h h' → P 0 h') : JRi (d + 2) jX10_putInOrder [vr 44, vr a, vi N] h P := by
  refine JRet.of rfl (Nat.le_of_ble_eq_true rfl) ?_
  refine st_iload_n (q := 1) dX10_putInOrder_0 rfl rfl ?_
  refine st_istore_n (q := 2) (i := 3) dX10_putInOrder_1 rfl (by decide) rfl ?_
  refine st_iconst (q := 3) dX10_putInOrder_2 ⟨by decide, by decide⟩ rfl ?_
  refine st_istore (q := 5) dX10_putInOrder_3 (by decide) rfl ?_
  have t := lp_X10_putInOrder (d := d) w s ha hz hn hN hpc h1 h0 0 (by omega) (fun k hk => absurd hk (Nat.not_lt_zero k)) vn
  rw [show snF (hI h (a + 1)) 0 = 0 from rfl, nandn_a0 hN, show plF (hI h 46) (fun i => (hI h (a + 1) i).toNat) 0 = hI h 46 from rfl, wI_self] at t
  exact t

