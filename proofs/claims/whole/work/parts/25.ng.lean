/-! the model: marks, needs, cuts -/
theorem j_top {κ : JK} {d : Nat} {y : JM} {pc : Nat} {ls st : List JV} {h : JH} {Q : Option JV → JH → Prop} {x : Int} (x' : Int) (e : x = x') (k : JAt κ d y pc ls (vi x' :: st) h Q) : JAt κ d y pc ls (vi x :: st) h Q := by subst e; exact k
theorem c_X12_hasN {d : Nat} {h : JH} {P : Int → JH → Prop} {a k : Nat} (ha : a < 2147483648) (hk : k < 32) (hP : P (if a.testBit k then 1 else 0) h) : JRi d jX12_has [vi a, vi k] h P := by
  refine c_X12_has ?_
  rw [bit_n ha hk]
  refine pq hP ?_ rfl
  cases a.testBit k <;> simp
theorem tb0 {b : Bool} : (if b = true then (1 : Int) else 0) = 0 ↔ b = false := by cases b <;> simp
theorem tb1 {b : Bool} : ¬ (if b = true then (1 : Int) else 0) = 0 ↔ b = true := by cases b <;> simp
def yMk (y : SY) : Nat → Nat
  | 0 => 0
  | s + 1 => yMk y s + (if 0 ≤ yMf y s then 1 else 0)
theorem yMk_le (y : SY) : ∀ s, yMk y s ≤ s
  | 0 => Nat.le_refl _
  | s + 1 => by
    have := yMk_le y s
    show yMk y s + (if 0 ≤ yMf y s then 1 else 0) ≤ s + 1
    split <;> omega
theorem lp_X12_marksTold {d : Nat} {h : JH} {P : Int → JH → Prop} {y : SY} (w : WF h) (m : SM h y) (o : yOk y) (hP : P (yMk y y.1 : Nat) h) (s : Nat) (hs : s ≤ y.1) : JAt k0 d jX12_marksTold 4 [vr 117, vi (yMk y s : Nat), vi s] [] h (jqi P) := by
  have m1 := m.1
  have o1 := o.1
  have n1 := yMk_le y s
  refine st_iload_n (q := 5) dX12_marksTold_4 rfl rfl ?_
  refine st_aload_n (q := 6) dX12_marksTold_5 rfl rfl ?_
  refine st_getI (q := 9) 12 15 dX12_marksTold_6 fl_X12_215 (by decide) (by decide) rfl rfl (wfk w rfl) ?_
  refine st_icmp_ge (q := 12) (tgt := 35) dX12_marksTold_9 (by decide) rfl (fun c9 => ?_) (fun c9 => ?_)
  · refine st_iload_n (q := 36) dX12_marksTold_35 rfl rfl ?_
    refine rt_i dX12_marksTold_36 rfl ?_
    exact pq hP (by rw [show s = y.1 by omega]) rfl
  · refine st_iload_n (q := 13) dX12_marksTold_12 rfl rfl ?_
    refine st_aload_n (q := 14) dX12_marksTold_13 rfl rfl ?_
    refine st_getR (q := 17) 12 29 dX12_marksTold_14 fl_X12_78 (by decide) (by decide) rfl rfl (wfk w rfl) (wfR w rfl) ?_
    refine st_iload_n (q := 18) dX12_marksTold_17 rfl rfl ?_
    refine st_iaload (q := 19) dX12_marksTold_18 rfl (wfk w rfl) (wfb w (n := 12) rfl ⟨by omega, by omega⟩) ?_
    apply j_mg 27
    · intro K1 K2
      refine st_if_lt (q := 22) (tgt := 26) dX12_marksTold_19 (by decide) rfl (fun c19 => ?_) (fun c19 => ?_)
      · refine st_iconst (q := 27) dX12_marksTold_26 ⟨by decide, by decide⟩ rfl ?_
        exact K1 c19
      · refine st_iconst (q := 23) dX12_marksTold_22 ⟨by decide, by decide⟩ rfl ?_
        refine st_goto (q := 27) dX12_marksTold_23 (by decide) ?_
        exact K2 c19
    · simp only [jif_if]
      refine j_top (((if 0 ≤ yMf y s then 1 else 0 : Nat)) : Int) (by rw [show ((s : Int)).toNat = s from rfl, (m.2 s (by omega)).2.2.2.2.2.1]; (repeat' split) <;> omega) ?_
      have n2 : (if 0 ≤ yMf y s then 1 else 0 : Nat) ≤ 1 := by split <;> omega
      first | refine n_iadd (q := 28) dX12_marksTold_27 rfl ⟨by omega, by omega⟩ ?_ | refine st_iadd (q := 28) dX12_marksTold_27 rfl ?_
      refine st_istore_n (q := 29) (i := 1) dX12_marksTold_28 rfl (by decide) rfl ?_
      first | refine n_iinc (q := 32) dX12_marksTold_29 rfl (by decide) rfl ⟨by omega, by omega⟩ ?_ | refine st_iinc (q := 32) dX12_marksTold_29 rfl (by decide) rfl ?_
      refine st_goto (q := 4) dX12_marksTold_32 (by decide) ?_
      exact lp_X12_marksTold w m o hP (s + 1) (by omega)
termination_by y.1 - s
theorem c_X12_marksTold {d : Nat} {h : JH} {P : Int → JH → Prop} {y : SY} (w : WF h) (m : SM h y) (o : yOk y) (hP : P (yMk y y.1 : Nat) h) : JRi d jX12_marksTold [vr 117] h P := by
  refine JRet.of rfl (Nat.le_of_ble_eq_true rfl) ?_
  refine st_iconst (q := 1) dX12_marksTold_0 ⟨by decide, by decide⟩ rfl ?_
  refine st_istore_n (q := 2) (i := 1) dX12_marksTold_1 rfl (by decide) rfl ?_
  refine st_iconst (q := 3) dX12_marksTold_2 ⟨by decide, by decide⟩ rfl ?_
  refine st_istore_n (q := 4) (i := 2) dX12_marksTold_3 rfl (by decide) rfl ?_
  exact lp_X12_marksTold w m o hP 0 (by omega)
def yMark (y : SY) (s : Nat) (a b : Int) : SY := (y.1, fun t => if t = s then (ySh y t, yHd y t, yLe y t, yMo y t, yKp y t, a, b, yNd y t) else y.2 t)
def yNeed (y : SY) (s k : Nat) : SY := (y.1, fun t => if t = s then (ySh y t, yHd y t, yLe y t, yMo y t, yKp y t, yMf y t, yMt y t, yNd y t ||| 2 ^ k) else y.2 t)
theorem yMark_ok {y : SY} (o : yOk y) {s : Nat} {a b : Int} (ha : 0 ≤ a ∧ a ≤ b ∧ b ≤ 999) : yOk (yMark y s a b) := by
  refine ⟨o.1, fun t ht => ?_⟩
  have o2 := o.2 t ht
  unfold yMark ySh yHd yLe yMo yKp yMf yMt yNd
  by_cases e : t = s
  · simp only [if_pos e]
    exact ⟨o2.1, o2.2.1, o2.2.2.1, o2.2.2.2.1, o2.2.2.2.2.1, Or.inr ha, o2.2.2.2.2.2.2⟩
  · simp only [if_neg e]
    exact o2
theorem yNeed_ok {y : SY} (o : yOk y) {s k : Nat} (hk : k < 8) : yOk (yNeed y s k) := by
  refine ⟨o.1, fun t ht => ?_⟩
  have o2 := o.2 t ht
  unfold yNeed ySh yHd yLe yMo yKp yMf yMt yNd
  by_cases e : t = s
  · simp only [if_pos e]
    exact ⟨o2.1, o2.2.1, o2.2.2.1, o2.2.2.2.1, o2.2.2.2.2.1, o2.2.2.2.2.2.1, Nat.or_lt_two_pow (n := 8) o2.2.2.2.2.2.2 (Nat.pow_lt_pow_right (by omega) hk)⟩
  · simp only [if_neg e]
    exact o2
theorem sI_s (h : JH) (a k : Nat) (v : Int) : hI (sI h a k v) a k = v := by rw [sI_I, if_pos ⟨rfl, rfl⟩]
theorem sI_o (h : JH) {a k b j : Nat} {v : Int} (hb : b ≠ a) : hI (sI h a k v) b j = hI h b j := by rw [sI_I, if_neg (fun z => hb z.1)]
theorem sI_k (h : JH) {a k b j : Nat} {v : Int} (hb : j ≠ k) : hI (sI h a k v) b j = hI h b j := by rw [sI_I, if_neg (fun z => hb z.2)]
theorem p31 {k : Nat} (h : k < 31) : 2 ^ k < 2147483648 := Nat.pow_lt_pow_right (by omega) h
theorem p8 {k : Nat} (h : k < 8) : 2 ^ k < 256 := Nat.pow_lt_pow_right (by omega) h
theorem yMark_sm {h : JH} {y : SY} (m : SM h y) {s : Nat} {a b : Int} : SM (sI (sI h 137 s a) 138 s b) (yMark y s a b) := by
  refine ⟨m.1, fun t ht => ?_⟩
  have m2 := m.2 t ht
  by_cases e : t = s
  · subst e
    have e1 : (yMark y t a b).2 t = (ySh y t, yHd y t, yLe y t, yMo y t, yKp y t, a, b, yNd y t) := if_pos rfl
    unfold ySh yHd yLe yMo yKp yMf yMt yNd at *
    rw [e1]
    exact ⟨m2.1, m2.2.1, m2.2.2.1, m2.2.2.2.1, m2.2.2.2.2.1, by rw [sI_o _ (by decide), sI_s], by rw [sI_s], m2.2.2.2.2.2.2.2⟩
  · have e1 : (yMark y s a b).2 t = y.2 t := if_neg e
    unfold ySh yHd yLe yMo yKp yMf yMt yNd at *
    rw [e1]
    exact ⟨m2.1, m2.2.1, m2.2.2.1, m2.2.2.2.1, m2.2.2.2.2.1, by rw [sI_o _ (by decide), sI_k _ e]; exact m2.2.2.2.2.2.1, by rw [sI_k _ e]; exact m2.2.2.2.2.2.2.1, m2.2.2.2.2.2.2.2⟩
theorem yNeed_sm {h : JH} {y : SY} (m : SM h y) {s k : Nat} : SM (sI h 139 s ((yNd y s ||| 2 ^ k : Nat) : Int)) (yNeed y s k) := by
  refine ⟨m.1, fun t ht => ?_⟩
  have m2 := m.2 t ht
  by_cases e : t = s
  · subst e
    have e1 : (yNeed y t k).2 t = (ySh y t, yHd y t, yLe y t, yMo y t, yKp y t, yMf y t, yMt y t, yNd y t ||| 2 ^ k) := if_pos rfl
    unfold ySh yHd yLe yMo yKp yMf yMt yNd at *
    rw [e1]
    exact ⟨m2.1, m2.2.1, m2.2.2.1, m2.2.2.2.1, m2.2.2.2.2.1, m2.2.2.2.2.2.1, m2.2.2.2.2.2.2.1, by rw [sI_s]⟩
  · have e1 : (yNeed y s k).2 t = y.2 t := if_neg e
    unfold ySh yHd yLe yMo yKp yMf yMt yNd at *
    rw [e1]
    exact ⟨m2.1, m2.2.1, m2.2.2.1, m2.2.2.2.1, m2.2.2.2.2.1, m2.2.2.2.2.2.1, m2.2.2.2.2.2.2.1, by rw [sI_k _ e]; exact m2.2.2.2.2.2.2.2⟩
theorem c_X12_markScene {d : Nat} {h : JH} {P : Int → JH → Prop} {y : SY} {s a b : Int} (w : WF h) (m : SM h y) (o : yOk y) (h1 : ¬ ((0 ≤ s ∧ s < y.1) ∧ (0 ≤ a ∧ a ≤ b ∧ b ≤ 999)) → P (-1) h) (h2 : (0 ≤ s ∧ s < y.1) ∧ (0 ≤ a ∧ a ≤ b ∧ b ≤ 999) → yMf y s.toNat < 0 → yMk y y.1 = 4 → P (-2) h) (h3 : (0 ≤ s ∧ s < y.1) ∧ (0 ≤ a ∧ a ≤ b ∧ b ≤ 999) → ¬ (yMf y s.toNat < 0 ∧ yMk y y.1 = 4) → P (yMk (yMark y s.toNat a b) y.1 : Nat) (sI (sI h 137 s.toNat a) 138 s.toNat b)) : JRi (d + 2) jX12_markScene [vr 117, vi s, vi a, vi b] h P := by
  have m1 := m.1
  have o1 := o.1
  refine JRet.of rfl (Nat.le_of_ble_eq_true rfl) ?_
  refine st_aload_n (q := 1) dX12_markScene_0 rfl rfl ?_
  refine st_iload_n (q := 2) dX12_markScene_1 rfl rfl ?_
  refine iV1i (q := 5) dX12_markScene_2 rfl ml_X12_218 mv_X12_isScene (Nat.le_of_ble_eq_true rfl) (wfk w rfl) ?_
  refine c_X12_isScene w m o ?_
  refine st_if_eq (q := 8) (tgt := 30) dX12_markScene_5 (by decide) rfl (fun c5 => ?_) (fun c5 => ?_)
  · refine st_iconst (q := 31) dX12_markScene_30 ⟨by decide, by decide⟩ rfl ?_
    refine rt_i dX12_markScene_31 rfl ?_
    first | exact h1 (by omega) | exact h2 (by omega) (by omega) (by omega) | exact h3 (by omega) (by omega)
  · refine st_iload_n (q := 9) dX12_markScene_8 rfl rfl ?_
    refine st_iconst (q := 10) dX12_markScene_9 ⟨by decide, by decide⟩ rfl ?_
    refine st_sipush (q := 13) dX12_markScene_10 ⟨by decide, by decide⟩ rfl ?_
    refine iS3i (q := 16) dX12_markScene_13 rfl ml_X12_130 ms_X12_in (Nat.le_of_ble_eq_true rfl) ?_
    refine c_X12_in ?_
    refine st_if_eq (q := 19) (tgt := 30) dX12_markScene_16 (by decide) rfl (fun c16 => ?_) (fun c16 => ?_)
    · refine st_iconst (q := 31) dX12_markScene_30 ⟨by decide, by decide⟩ rfl ?_
      refine rt_i dX12_markScene_31 rfl ?_
      first | exact h1 (by omega) | exact h2 (by omega) (by omega) (by omega) | exact h3 (by omega) (by omega)
    · refine st_iload_n (q := 20) dX12_markScene_19 rfl rfl ?_
      refine st_iload_n (q := 21) dX12_markScene_20 rfl rfl ?_
      refine st_sipush (q := 24) dX12_markScene_21 ⟨by decide, by decide⟩ rfl ?_
      refine iS3i (q := 27) dX12_markScene_24 rfl ml_X12_130 ms_X12_in (Nat.le_of_ble_eq_true rfl) ?_
      refine c_X12_in ?_
      refine st_if_ne (q := 30) (tgt := 32) dX12_markScene_27 (by decide) rfl (fun c27 => ?_) (fun c27 => ?_)
      · refine st_aload_n (q := 33) dX12_markScene_32 rfl rfl ?_
        refine st_getR (q := 36) 12 29 dX12_markScene_33 fl_X12_78 (by decide) (by decide) rfl rfl (wfk w rfl) (wfR w rfl) ?_
        refine st_iload_n (q := 37) dX12_markScene_36 rfl rfl ?_
        refine st_iaload (q := 38) dX12_markScene_37 rfl (wfk w rfl) (wfb w (n := 12) rfl ⟨by omega, by omega⟩) ?_
        rw [(m.2 s.toNat (by omega)).2.2.2.2.2.1]
        refine st_if_ge (q := 41) (tgt := 52) dX12_markScene_38 (by decide) rfl (fun c38 => ?_) (fun c38 => ?_)
        · refine st_aload_n (q := 53) dX12_markScene_52 rfl rfl ?_
          refine st_getR (q := 56) 12 29 dX12_markScene_53 fl_X12_78 (by decide) (by decide) rfl rfl (wfk w rfl) (wfR w rfl) ?_
          refine st_iload_n (q := 57) dX12_markScene_56 rfl rfl ?_
          refine st_iload_n (q := 58) dX12_markScene_57 rfl rfl ?_
          refine st_iastore (q := 59) dX12_markScene_58 rfl (wfk w rfl) (wfb w (n := 12) rfl ⟨by omega, by omega⟩) ?_
          refine st_aload_n (q := 60) dX12_markScene_59 rfl rfl ?_
          refine st_getR (q := 63) 12 30 dX12_markScene_60 fl_X12_81 (by decide) (by decide) rfl rfl (wfk w rfl) (wfR w rfl) ?_
          refine st_iload_n (q := 64) dX12_markScene_63 rfl rfl ?_
          refine st_iload_n (q := 65) dX12_markScene_64 rfl rfl ?_
          refine st_iastore (q := 66) dX12_markScene_65 rfl (wfk w rfl) (wfb w (n := 12) rfl ⟨by omega, by omega⟩) ?_
          refine st_aload_n (q := 67) dX12_markScene_66 rfl rfl ?_
          refine iV0i (q := 70) dX12_markScene_67 rfl ml_X12_261 mv_X12_marksTold (Nat.le_of_ble_eq_true rfl) (wfk w rfl) ?_
          refine c_X12_marksTold (y := yMark y s.toNat a b) w (yMark_sm m) (yMark_ok o (by omega)) ?_
          refine rt_i dX12_markScene_70 rfl ?_
          first | exact h1 (by omega) | exact h2 (by omega) (by omega) (by omega) | exact h3 (by omega) (by omega)
        · refine st_aload_n (q := 42) dX12_markScene_41 rfl rfl ?_
          refine iV0i (q := 45) dX12_markScene_42 rfl ml_X12_261 mv_X12_marksTold (Nat.le_of_ble_eq_true rfl) (wfk w rfl) ?_
          refine c_X12_marksTold w m o ?_
          refine st_iconst (q := 46) dX12_markScene_45 ⟨by decide, by decide⟩ rfl ?_
          refine st_icmp_ne (q := 49) (tgt := 52) dX12_markScene_46 (by decide) rfl (fun c46 => ?_) (fun c46 => ?_)
          · refine st_aload_n (q := 53) dX12_markScene_52 rfl rfl ?_
            refine st_getR (q := 56) 12 29 dX12_markScene_53 fl_X12_78 (by decide) (by decide) rfl rfl (wfk w rfl) (wfR w rfl) ?_
            refine st_iload_n (q := 57) dX12_markScene_56 rfl rfl ?_
            refine st_iload_n (q := 58) dX12_markScene_57 rfl rfl ?_
            refine st_iastore (q := 59) dX12_markScene_58 rfl (wfk w rfl) (wfb w (n := 12) rfl ⟨by omega, by omega⟩) ?_
            refine st_aload_n (q := 60) dX12_markScene_59 rfl rfl ?_
            refine st_getR (q := 63) 12 30 dX12_markScene_60 fl_X12_81 (by decide) (by decide) rfl rfl (wfk w rfl) (wfR w rfl) ?_
            refine st_iload_n (q := 64) dX12_markScene_63 rfl rfl ?_
            refine st_iload_n (q := 65) dX12_markScene_64 rfl rfl ?_
            refine st_iastore (q := 66) dX12_markScene_65 rfl (wfk w rfl) (wfb w (n := 12) rfl ⟨by omega, by omega⟩) ?_
            refine st_aload_n (q := 67) dX12_markScene_66 rfl rfl ?_
            refine iV0i (q := 70) dX12_markScene_67 rfl ml_X12_261 mv_X12_marksTold (Nat.le_of_ble_eq_true rfl) (wfk w rfl) ?_
            refine c_X12_marksTold (y := yMark y s.toNat a b) w (yMark_sm m) (yMark_ok o (by omega)) ?_
            refine rt_i dX12_markScene_70 rfl ?_
            first | exact h1 (by omega) | exact h2 (by omega) (by omega) (by omega) | exact h3 (by omega) (by omega)
          · refine st_bipush (q := 51) dX12_markScene_49 ⟨by decide, by decide⟩ rfl ?_
            refine rt_i dX12_markScene_51 rfl ?_
            first | exact h1 (by omega) | exact h2 (by omega) (by omega) (by omega) | exact h3 (by omega) (by omega)
      · refine st_iconst (q := 31) dX12_markScene_30 ⟨by decide, by decide⟩ rfl ?_
        refine rt_i dX12_markScene_31 rfl ?_
        first | exact h1 (by omega) | exact h2 (by omega) (by omega) (by omega) | exact h3 (by omega) (by omega)
theorem c_X12_need {d : Nat} {h : JH} {P : Int → JH → Prop} {y : SY} {s k : Int} (w : WF h) (m : SM h y) (o : yOk y) (h1 : ¬ ((0 ≤ s ∧ s < y.1) ∧ (0 ≤ k ∧ k ≤ 7) ∧ (ySh y s.toNat).testBit k.toNat = true) → P (-1) h) (h2 : (0 ≤ s ∧ s < y.1) ∧ (0 ≤ k ∧ k ≤ 7) ∧ (ySh y s.toNat).testBit k.toNat = true → P 1 (sI h 139 s.toNat ((yNd y s.toNat ||| 2 ^ k.toNat : Nat) : Int))) : JRi (d + 2) jX12_need [vr 117, vi s, vi k] h P := by
  have m1 := m.1
  have o1 := o.1
  refine JRet.of rfl (Nat.le_of_ble_eq_true rfl) ?_
  refine st_aload_n (q := 1) dX12_need_0 rfl rfl ?_
  refine st_iload_n (q := 2) dX12_need_1 rfl rfl ?_
  refine iV1i (q := 5) dX12_need_2 rfl ml_X12_218 mv_X12_isScene (Nat.le_of_ble_eq_true rfl) (wfk w rfl) ?_
  refine c_X12_isScene w m o ?_
  refine st_if_eq (q := 8) (tgt := 28) dX12_need_5 (by decide) rfl (fun c5 => ?_) (fun c5 => ?_)
  · refine st_iconst (q := 29) dX12_need_28 ⟨by decide, by decide⟩ rfl ?_
    refine rt_i dX12_need_29 rfl ?_
    first | exact h1 (by omega) | exact h1 (fun z => by have z2 := z.2.2; rw [tb0.mp c25] at z2; cases z2) | exact h2 ⟨by omega, by omega, tb1.mp (by omega)⟩
  · refine st_iload_n (q := 9) dX12_need_8 rfl rfl ?_
    refine iS1i (q := 12) dX12_need_9 rfl ml_X12_161 ms_X12_isHide (Nat.le_of_ble_eq_true rfl) ?_
    refine c_X12_isHide ?_
    refine st_if_eq (q := 15) (tgt := 28) dX12_need_12 (by decide) rfl (fun c12 => ?_) (fun c12 => ?_)
    · refine st_iconst (q := 29) dX12_need_28 ⟨by decide, by decide⟩ rfl ?_
      refine rt_i dX12_need_29 rfl ?_
      first | exact h1 (by omega) | exact h1 (fun z => by have z2 := z.2.2; rw [tb0.mp c25] at z2; cases z2) | exact h2 ⟨by omega, by omega, tb1.mp (by omega)⟩
    · refine st_aload_n (q := 16) dX12_need_15 rfl rfl ?_
      refine st_getR (q := 19) 12 16 dX12_need_16 fl_X12_48 (by decide) (by decide) rfl rfl (wfk w rfl) (wfR w rfl) ?_
      refine st_iload_n (q := 20) dX12_need_19 rfl rfl ?_
      refine st_iaload (q := 21) dX12_need_20 rfl (wfk w rfl) (wfb w (n := 12) rfl ⟨by omega, by omega⟩) ?_
      refine st_iload_n (q := 22) dX12_need_21 rfl rfl ?_
      refine iS2i (q := 25) dX12_need_22 rfl ml_X12_174 ms_X12_has (Nat.le_of_ble_eq_true rfl) ?_
      rw [(m.2 s.toNat (by omega)).1]
      rw [show k = (k.toNat : Int) by omega]
      refine c_X12_hasN (by have := (o.2 s.toNat (by omega)).1; omega) (by omega) ?_
      refine st_if_ne (q := 28) (tgt := 30) dX12_need_25 (by decide) rfl (fun c25 => ?_) (fun c25 => ?_)
      · refine st_aload_n (q := 31) dX12_need_30 rfl rfl ?_
        refine st_getR (q := 34) 12 31 dX12_need_31 fl_X12_84 (by decide) (by decide) rfl rfl (wfk w rfl) (wfR w rfl) ?_
        refine st_iload_n (q := 35) dX12_need_34 rfl rfl ?_
        refine st_dup2 (q := 36) dX12_need_35 rfl rfl rfl ?_
        refine st_iaload (q := 37) dX12_need_36 rfl (wfk w rfl) (wfb w (n := 12) rfl ⟨by omega, by omega⟩) ?_
        refine st_iconst (q := 38) dX12_need_37 ⟨by decide, by decide⟩ rfl ?_
        refine st_iload_n (q := 39) dX12_need_38 rfl rfl ?_
        refine st_ishl (q := 40) dX12_need_39 rfl ?_
        refine st_ior (q := 41) dX12_need_40 rfl ?_
        rw [(m.2 s.toNat (by omega)).2.2.2.2.2.2.2, show (1 : Int) = ((1 : Nat) : Int) from rfl, show k = (k.toNat : Int) by omega, ishl_n (by omega) (by rw [Nat.one_mul]; exact p31 (by omega)), Nat.one_mul, ior_n (by have := (o.2 s.toNat (by omega)).2.2.2.2.2.2; omega) (p31 (by omega))]
        refine st_iastore (q := 42) dX12_need_41 rfl (wfk w rfl) (wfb w (n := 12) rfl ⟨by omega, by omega⟩) ?_
        refine st_iconst (q := 43) dX12_need_42 ⟨by decide, by decide⟩ rfl ?_
        refine rt_i dX12_need_43 rfl ?_
        first | exact h1 (by omega) | exact h1 (fun z => by have z2 := z.2.2; rw [tb0.mp c25] at z2; cases z2) | exact h2 ⟨by omega, by omega, tb1.mp (by omega)⟩
      · refine st_iconst (q := 29) dX12_need_28 ⟨by decide, by decide⟩ rfl ?_
        refine rt_i dX12_need_29 rfl ?_
        first | exact h1 (by omega) | exact h1 (fun z => by have z2 := z.2.2; rw [tb0.mp c25] at z2; cases z2) | exact h2 ⟨by omega, by omega, tb1.mp (by omega)⟩

