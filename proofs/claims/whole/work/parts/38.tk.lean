/-! the model: takings, reaching -/
def frs (f : Nat) : Nat → List Nat
  | 0 => []
  | k + 1 => frs f k ++ (if f.testBit k then [k] else [])
def yFr (y : SY) (s : Nat) : Nat := if s = 0 then ySh y 0 else nandn (ySh y s) (ySh y (s - 1))
def tks (y : SY) : Nat → List Nat
  | 0 => []
  | s + 1 => tks y s ++ frs (yFr y s) 8
theorem frs_len (f : Nat) : ∀ k, (frs f k).length ≤ k
  | 0 => Nat.le_refl _
  | k + 1 => by
    have := frs_len f k
    show (frs f k ++ (if f.testBit k then [k] else [])).length ≤ k + 1
    rw [List.length_append]
    split <;> simp <;> omega
theorem frs_mem {f : Nat} : ∀ {k x : Nat}, x ∈ frs f k → x < k ∧ f.testBit x = true
  | 0, x, h => by simp [frs] at h
  | k + 1, x, h => by
    rcases List.mem_append.mp h with h | h
    · have := frs_mem h
      exact ⟨by omega, this.2⟩
    · split at h
      · rename_i t
        rw [List.mem_singleton] at h
        subst h
        exact ⟨by omega, t⟩
      · simp at h
theorem tks_len (y : SY) : ∀ s, (tks y s).length ≤ 8 * s
  | 0 => Nat.le_refl _
  | s + 1 => by
    have h1 := tks_len y s
    have h2 := frs_len (yFr y s) 8
    show (tks y s ++ frs (yFr y s) 8).length ≤ 8 * (s + 1)
    rw [List.length_append]
    omega
theorem tks_lt (y : SY) : ∀ {s x : Nat}, x ∈ tks y s → x < 8
  | 0, x, h => by simp [tks] at h
  | s + 1, x, h => by
    rcases List.mem_append.mp h with h | h
    · exact tks_lt y h
    · exact (frs_mem h).1
/-- the takings lie in the array -/
def TK (h : JH) (l : List Nat) : Prop := hI h 117 35 = (l.length : Int) ∧ ∀ (i x : Nat), l[i]? = some x → hI h 143 i = (x : Int)
def ScT (a k : Nat) : Prop := (a = 117 ∧ k = 35) ∨ a = 143
theorem scT_35 : ScT 117 35 := Or.inl ⟨rfl, rfl⟩
theorem scT_tk (k : Nat) : ScT 143 k := Or.inr rfl
theorem scT_M {a k : Nat} (h : ScT a k) : ScM a k := by unfold ScT at h; unfold ScM; omega
theorem TK.add {h : JH} {l : List Nat} (t : TK h l) (x : Nat) : TK (sI (sI h 143 l.length x) 117 35 ((l.length : Int) + 1)) (l ++ [x]) := by
  refine ⟨by rw [sI_s, List.length_append, List.length_singleton]; omega, fun i z hz => ?_⟩
  rw [sI_o _ (by decide)]
  by_cases e : i = l.length
  · subst e
    rw [List.getElem?_append_right (Nat.le_refl _), Nat.sub_self] at hz
    cases hz
    rw [sI_s]
  · rw [sI_k _ e]
    have hl : i < (l ++ [x]).length := (List.getElem?_eq_some_iff.mp hz).1
    rw [List.length_append, List.length_singleton] at hl
    rw [List.getElem?_append_left (by omega)] at hz
    exact t.2 i z hz
theorem yFr_lt {y : SY} (o : yOk y) {s : Nat} (hs : s < y.1) : yFr y s < 256 := by
  unfold yFr
  split
  · exact (o.2 0 (by omega)).1
  · exact Nat.lt_of_le_of_lt (nandn_le _ _) (o.2 s hs).1
theorem lp2_X12_setTakes {d : Nat} {h : JH} {P : JH → Prop} {y : SY} {s : Nat} (w0 : WF h) (o : yOk y) (hs : s < y.1) (hK : ∀ h' j, Fr ScT h h' → TK h' (tks y (s + 1)) → JAt k0 (d + 1) jX12_setTakes 88 [vr 117, vi s, vi (yFr y s), j] [] h' (jqv P)) (k : Nat) (hk : k ≤ 8) : ∀ h', Fr ScT h h' → TK h' (tks y s ++ frs (yFr y s) k) → JAt k0 (d + 1) jX12_setTakes 48 [vr 117, vi s, vi (yFr y s), vi k] [] h' (jqv P) := by
  intro h' f t
  have w := f.wf w0
  have o1 := o.1
  have l1 := yFr_lt o hs
  have b1 := tks_len y s
  have b2 := frs_len (yFr y s) k
  have b3 : (tks y s ++ frs (yFr y s) k).length ≤ 8 * s + k := by rw [List.length_append]; omega
  have t1 := t.1
  have e0 : frs (yFr y s) (k + 1) = frs (yFr y s) k ++ (if (yFr y s).testBit k then [k] else []) := rfl
  generalize hl : tks y s ++ frs (yFr y s) k = l at *
  refine st_iload_n (q := 49) dX12_setTakes_48 rfl rfl ?_
  refine st_bipush (q := 51) dX12_setTakes_49 ⟨by decide, by decide⟩ rfl ?_
  refine st_icmp_ge (q := 54) (tgt := 88) dX12_setTakes_51 (by decide) rfl (fun c51 => ?_) (fun c51 => ?_)
  · have ek : k = 8 := by omega
    subst ek
    exact hK _ _ f (by rw [show tks y (s + 1) = tks y s ++ frs (yFr y s) 8 from rfl, hl]; exact t)
  · refine st_iload_n (q := 55) dX12_setTakes_54 rfl rfl ?_
    refine st_iload_n (q := 56) dX12_setTakes_55 rfl rfl ?_
    refine iS2i (q := 59) dX12_setTakes_56 rfl ml_X12_174 ms_X12_has (Nat.le_of_ble_eq_true rfl) ?_
    refine c_X12_hasN (by omega) (by omega) ?_
    refine st_if_eq (q := 62) (tgt := 82) dX12_setTakes_59 (by decide) rfl (fun c59 => ?_) (fun c59 => ?_)
    · first | refine n_iinc (q := 85) dX12_setTakes_82 rfl (by decide) rfl ⟨by omega, by omega⟩ ?_ | refine st_iinc (q := 85) dX12_setTakes_82 rfl (by decide) rfl ?_
      refine st_goto (q := 48) dX12_setTakes_85 (by decide) ?_
      first | (have e1 := tb1.mp c59; rw [if_pos e1, ← List.append_assoc, ← hl] at *) | skip
      first | (have e1 := tb0.mp c59; rw [if_neg (by rw [e1]; decide), List.append_nil] at e0; exact lp2_X12_setTakes w0 o hs hK (k + 1) (by omega) _ f (by rw [e0, hl]; exact t)) | (have e1 := tb1.mp c59; rw [if_pos e1] at e0; have t2 := t.add k; refine lp2_X12_setTakes w0 o hs hK (k + 1) (by omega) _ ((f.sI _ (scT_tk _)).sI _ scT_35) ?_; rw [e0, ← List.append_assoc, hl, show hI h' 117 35 = (l.length : Int) from t1]; exact t2)
    · refine st_aload_n (q := 63) dX12_setTakes_62 rfl rfl ?_
      refine st_getR (q := 66) 12 36 dX12_setTakes_63 fl_X12_96 (by decide) (by decide) rfl rfl (wfk w rfl) (wfR w rfl) ?_
      refine st_aload_n (q := 67) dX12_setTakes_66 rfl rfl ?_
      refine st_getI (q := 70) 12 35 dX12_setTakes_67 fl_X12_239 (by decide) (by decide) rfl rfl (wfk w rfl) ?_
      refine st_iload_n (q := 71) dX12_setTakes_70 rfl rfl ?_
      refine st_iastore (q := 72) dX12_setTakes_71 rfl (wfk w rfl) (wfb w (n := 96) rfl ⟨by omega, by omega⟩) ?_
      refine st_aload_n (q := 73) dX12_setTakes_72 rfl rfl ?_
      refine st_dup (q := 74) dX12_setTakes_73 rfl rfl ?_
      refine st_getI (q := 77) 12 35 dX12_setTakes_74 fl_X12_239 (by decide) (by decide) rfl rfl (wfk w rfl) ?_
      refine j_top (l.length : Int) (by rw [sI_o _ (by decide)]; exact t1) ?_
      refine st_iconst (q := 78) dX12_setTakes_77 ⟨by decide, by decide⟩ rfl ?_
      first | refine n_iadd (q := 79) dX12_setTakes_78 rfl ⟨by omega, by omega⟩ ?_ | refine st_iadd (q := 79) dX12_setTakes_78 rfl ?_
      refine st_putI (q := 82) 12 35 dX12_setTakes_79 fl_X12_239 (by decide) (by decide) (Or.inl rfl) rfl (Or.inl rfl) (wfk w rfl) ?_
      first | refine n_iinc (q := 85) dX12_setTakes_82 rfl (by decide) rfl ⟨by omega, by omega⟩ ?_ | refine st_iinc (q := 85) dX12_setTakes_82 rfl (by decide) rfl ?_
      refine st_goto (q := 48) dX12_setTakes_85 (by decide) ?_
      first | (have e1 := tb1.mp c59; rw [if_pos e1, ← List.append_assoc, ← hl] at *) | skip
      first | (have e1 := tb0.mp c59; rw [if_neg (by rw [e1]; decide), List.append_nil] at e0; exact lp2_X12_setTakes w0 o hs hK (k + 1) (by omega) _ f (by rw [e0, hl]; exact t)) | (have e1 := tb1.mp c59; rw [if_pos e1] at e0; have t2 := t.add k; refine lp2_X12_setTakes w0 o hs hK (k + 1) (by omega) _ ((f.sI _ (scT_tk _)).sI _ scT_35) ?_; rw [e0, ← List.append_assoc, hl, show hI h' 117 35 = (l.length : Int) from t1]; exact t2)
termination_by 8 - k
theorem lp1_X12_setTakes {d : Nat} {h : JH} {P : JH → Prop} {y : SY} (w0 : WF h) (m0 : SM h y) (o : yOk y) (hP : ∀ h', Fr ScT h h' → TK h' (tks y y.1) → P h') (s : Nat) (hs : s ≤ y.1) : ∀ h' j2 j3, Fr ScT h h' → TK h' (tks y s) → JAt k0 (d + 1) jX12_setTakes 7 [vr 117, vi s, j2, j3] [] h' (jqv P) := by
  intro h' j2 j3 f t
  have w := f.wf w0
  have m := m0.fr (f.up (fun _ _ => scT_M))
  have m1 := m.1
  have o1 := o.1
  refine st_iload_n (q := 8) dX12_setTakes_7 rfl rfl ?_
  refine st_aload_n (q := 9) dX12_setTakes_8 rfl rfl ?_
  refine st_getI (q := 12) 12 15 dX12_setTakes_9 fl_X12_215 (by decide) (by decide) rfl rfl (wfk w rfl) ?_
  refine st_icmp_ge (q := 15) (tgt := 94) dX12_setTakes_12 (by decide) rfl (fun c12 => ?_) (fun c12 => ?_)
  · refine rt_v dX12_setTakes_94 rfl ?_
    have es : s = y.1 := by omega
    subst es
    exact hP _ f t
  · refine st_iload_n (q := 16) dX12_setTakes_15 rfl rfl ?_
    apply j_mg 45
    · intro K1 K2
      refine st_if_ne (q := 19) (tgt := 28) dX12_setTakes_16 (by decide) rfl (fun c16 => ?_) (fun c16 => ?_)
      · refine st_aload_n (q := 29) dX12_setTakes_28 rfl rfl ?_
        refine st_getR (q := 32) 12 16 dX12_setTakes_29 fl_X12_48 (by decide) (by decide) rfl rfl (wfk w rfl) (wfR w rfl) ?_
        refine st_iload_n (q := 33) dX12_setTakes_32 rfl rfl ?_
        refine st_iaload (q := 34) dX12_setTakes_33 rfl (wfk w rfl) (wfb w (n := 12) rfl ⟨by omega, by omega⟩) ?_
        refine st_aload_n (q := 35) dX12_setTakes_34 rfl rfl ?_
        refine st_getR (q := 38) 12 16 dX12_setTakes_35 fl_X12_48 (by decide) (by decide) rfl rfl (wfk w rfl) (wfR w rfl) ?_
        refine st_iload_n (q := 39) dX12_setTakes_38 rfl rfl ?_
        refine st_iconst (q := 40) dX12_setTakes_39 ⟨by decide, by decide⟩ rfl ?_
        first | refine n_isub (q := 41) dX12_setTakes_40 rfl ⟨by omega, by omega⟩ ?_ | refine st_isub (q := 41) dX12_setTakes_40 rfl ?_
        refine st_iaload (q := 42) dX12_setTakes_41 rfl (wfk w rfl) (wfb w (n := 12) rfl ⟨by omega, by omega⟩) ?_
        refine st_iconst (q := 43) dX12_setTakes_42 ⟨by decide, by decide⟩ rfl ?_
        refine st_ixor (q := 44) dX12_setTakes_43 rfl ?_
        refine st_iand (q := 45) dX12_setTakes_44 rfl ?_
        exact K2 c16
      · refine st_aload_n (q := 20) dX12_setTakes_19 rfl rfl ?_
        refine st_getR (q := 23) 12 16 dX12_setTakes_20 fl_X12_48 (by decide) (by decide) rfl rfl (wfk w rfl) (wfR w rfl) ?_
        refine st_iconst (q := 24) dX12_setTakes_23 ⟨by decide, by decide⟩ rfl ?_
        refine st_iaload (q := 25) dX12_setTakes_24 rfl (wfk w rfl) (wfb w (n := 12) rfl ⟨by omega, by omega⟩) ?_
        refine st_goto (q := 45) dX12_setTakes_25 (by decide) ?_
        exact K1 c16
    · simp only [jif_if]
      refine j_top (yFr y s : Int) (by unfold yFr; by_cases z : s = 0; (subst z; rw [if_pos rfl]; exact (if_pos (show ((0 : Nat) : Int) = 0 from rfl)).trans (m.2 0 (by omega)).1); (rw [if_neg (by omega), if_neg z, show ((s : Int) - 1).toNat = s - 1 by omega, show ((s : Int)).toNat = s from rfl, (m.2 s (by omega)).1, (m.2 (s - 1) (by omega)).1, iandn_n (by have := (o.2 s (by omega)).1; omega) (by have := (o.2 (s - 1) (by omega)).1; omega)])) ?_
      refine st_istore_n (q := 46) (i := 2) dX12_setTakes_45 rfl (by decide) rfl ?_
      refine st_iconst (q := 47) dX12_setTakes_46 ⟨by decide, by decide⟩ rfl ?_
      refine st_istore_n (q := 48) (i := 3) dX12_setTakes_47 rfl (by decide) rfl ?_
      refine lp2_X12_setTakes w0 o (by omega) (fun h2 j f2 t2 => ?_) 0 (by omega) _ f (by rw [show frs (yFr y s) 0 = [] from rfl, List.append_nil]; exact t)
      refine st_iinc (q := 91) dX12_setTakes_88 rfl (by decide) rfl ?_
      rw [w32_id ⟨by omega, by omega⟩]
      refine st_goto (q := 7) dX12_setTakes_91 (by decide) ?_
      exact lp1_X12_setTakes w0 m0 o hP (s + 1) (by omega) _ _ _ f2 t2
termination_by y.1 - s
theorem c_X12_setTakes {d : Nat} {h : JH} {P : JH → Prop} {y : SY} (w : WF h) (m : SM h y) (o : yOk y) (hP : ∀ h', Fr ScT h h' → TK h' (tks y y.1) → P h') : JRv (d + 1) jX12_setTakes [vr 117] h P := by
  refine JRet.of rfl (Nat.le_of_ble_eq_true rfl) ?_
  refine st_aload_n (q := 1) dX12_setTakes_0 rfl rfl ?_
  refine st_iconst (q := 2) dX12_setTakes_1 ⟨by decide, by decide⟩ rfl ?_
  refine st_putI (q := 5) 12 35 dX12_setTakes_2 fl_X12_239 (by decide) (by decide) (Or.inl rfl) rfl (Or.inl rfl) (wfk w rfl) ?_
  refine st_iconst (q := 6) dX12_setTakes_5 ⟨by decide, by decide⟩ rfl ?_
  refine st_istore_n (q := 7) (i := 1) dX12_setTakes_6 rfl (by decide) rfl ?_
  exact lp1_X12_setTakes w m o hP 0 (by omega) _ _ _ (Fr.rf.sI _ scT_35) ⟨by rw [sI_s]; rfl, fun i x z => by cases z⟩
theorem getD_some {l : List Nat} {i : Nat} (h : i < l.length) : l[i]? = some (l.getD i 0) := by rw [List.getD_eq_getElem?_getD, List.getElem?_eq_getElem h]; rfl
theorem scM_T {h h' : JH} (f : Fr ScT h h') : FrM h h' := f.up (fun _ _ => scT_M)
theorem c_X12_takings {d : Nat} {h : JH} {P : Int → JH → Prop} {y : SY} (w : WF h) (m : SM h y) (o : yOk y) (hP : ∀ h', FrM h h' → P ((tks y y.1).length : Nat) (sI h' 117 2 (if (tks y y.1).length = 0 then -9 else ((tks y y.1).getD ((tks y y.1).length - 1) 0 : Nat)))) : JRi (d + 2) jX12_takings [vr 117] h P := by
  have o1 := o.1
  have b1 := tks_len y y.1
  refine JRet.of rfl (Nat.le_of_ble_eq_true rfl) ?_
  refine st_aload_n (q := 1) dX12_takings_0 rfl rfl ?_
  refine iV0v (q := 4) dX12_takings_1 rfl ml_X12_242 mv_X12_setTakes (Nat.le_of_ble_eq_true rfl) (wfk w rfl) ?_
  refine c_X12_setTakes w m o (fun h' f t => ?_)
  have w2 := f.wf w
  have t1 := t.1
  refine st_aload_n (q := 5) dX12_takings_4 rfl rfl ?_
  refine st_aload_n (q := 6) dX12_takings_5 rfl rfl ?_
  refine st_getI (q := 9) 12 35 dX12_takings_6 fl_X12_239 (by decide) (by decide) rfl rfl (wfk w2 rfl) ?_
  refine j_top ((tks y y.1).length : Int) t1 ?_
  refine st_if_ne (q := 12) (tgt := 17) dX12_takings_9 (by decide) rfl (fun c9 => ?_) (fun c9 => ?_)
  · refine st_aload_n (q := 18) dX12_takings_17 rfl rfl ?_
    refine st_getR (q := 21) 12 36 dX12_takings_18 fl_X12_96 (by decide) (by decide) rfl rfl (wfk w2 rfl) (wfR w2 rfl) ?_
    refine st_aload_n (q := 22) dX12_takings_21 rfl rfl ?_
    refine st_getI (q := 25) 12 35 dX12_takings_22 fl_X12_239 (by decide) (by decide) rfl rfl (wfk w2 rfl) ?_
    refine j_top ((tks y y.1).length : Int) t1 ?_
    refine st_iconst (q := 26) dX12_takings_25 ⟨by decide, by decide⟩ rfl ?_
    first | refine n_isub (q := 27) dX12_takings_26 rfl ⟨by omega, by omega⟩ ?_ | refine st_isub (q := 27) dX12_takings_26 rfl ?_
    refine st_iaload (q := 28) dX12_takings_27 rfl (wfk w2 rfl) (wfb w2 (n := 96) rfl ⟨by omega, by omega⟩) ?_
    refine st_aload_n (q := 29) dX12_takings_28 rfl rfl ?_
    refine st_getI (q := 32) 12 35 dX12_takings_29 fl_X12_239 (by decide) (by decide) rfl rfl (wfk w2 rfl) ?_
    refine j_top ((tks y y.1).length : Int) t1 ?_
    refine iV2i (q := 35) dX12_takings_32 rfl ml_X12_152 mv_X12_ask (Nat.le_of_ble_eq_true rfl) (wfk w2 rfl) ?_
    refine c_X12_ask w2 ?_
    refine rt_i dX12_takings_35 rfl ?_
    refine pq (hP _ (scM_T f)) rfl ?_
    first | (rw [if_pos (by omega)]; done) | (rw [if_neg (by omega), show ((((tks y y.1).length : Nat) : Int) - 1).toNat = (tks y y.1).length - 1 by omega, t.2 _ _ (getD_some (by omega))])
  · refine st_bipush (q := 14) dX12_takings_12 ⟨by decide, by decide⟩ rfl ?_
    refine st_goto (q := 28) dX12_takings_14 (by decide) ?_
    refine st_aload_n (q := 29) dX12_takings_28 rfl rfl ?_
    refine st_getI (q := 32) 12 35 dX12_takings_29 fl_X12_239 (by decide) (by decide) rfl rfl (wfk w2 rfl) ?_
    refine j_top ((tks y y.1).length : Int) t1 ?_
    refine iV2i (q := 35) dX12_takings_32 rfl ml_X12_152 mv_X12_ask (Nat.le_of_ble_eq_true rfl) (wfk w2 rfl) ?_
    refine c_X12_ask w2 ?_
    refine rt_i dX12_takings_35 rfl ?_
    refine pq (hP _ (scM_T f)) rfl ?_
    first | (rw [if_pos (by omega)]; done) | (rw [if_neg (by omega), show ((((tks y y.1).length : Nat) : Int) - 1).toNat = (tks y y.1).length - 1 by omega, t.2 _ _ (getD_some (by omega))])

