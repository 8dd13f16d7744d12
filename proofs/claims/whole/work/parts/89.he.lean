/-! hands: the reference's fits, its whole -/
def bt (x k : Nat) : Nat := if x.testBit k then 1 else 0
theorem bt_b (x k : Nat) : bt x k ≤ 1 := by unfold bt; split <;> omega
theorem bt_1 {x k : Nat} : (bt x k = 0 ↔ ¬ x.testBit k = true) := by unfold bt; split <;> simp_all
theorem bt_has {x k : Nat} (hx : x < 256) (hk : k < 8) : (if iand (ishr (x : Nat) (k : Nat)) 1 = 1 then (1 : Int) else 0) = ((bt x k : Nat) : Int) := by
  rw [bit_n (by omega) (by omega)]
  unfold bt
  cases x.testBit k <;> rfl
def okN (S H : Nat) (cs f : Nat → Nat) : Nat → Nat
  | 0 => 1
  | i + 1 => if okN S H cs f i = 1 ∧ (bt S (cs i) = 0 ∨ 0 < f i) ∧ (bt H (cs i) = 0 ∨ 1 < f i) then 1 else 0
theorem okN_b (S H : Nat) (cs f : Nat → Nat) : ∀ i, okN S H cs f i ≤ 1
  | 0 => Nat.le_refl _
  | i + 1 => by show (if _ then 1 else 0) ≤ 1; split <;> omega
theorem okN_dem {S H : Nat} {cs f : Nat → Nat} : ∀ {n : Nat}, okN S H cs f n = 1 ↔ Dem S H cs n f
  | 0 => ⟨fun _ i hi => by omega, fun _ => rfl⟩
  | n + 1 => by
    have ih := okN_dem (S := S) (H := H) (cs := cs) (f := f) (n := n)
    have e : okN S H cs f (n + 1) = if okN S H cs f n = 1 ∧ (bt S (cs n) = 0 ∨ 0 < f n) ∧ (bt H (cs n) = 0 ∨ 1 < f n) then 1 else 0 := rfl
    rw [e]
    constructor
    · intro h
      have h1 : okN S H cs f n = 1 ∧ (bt S (cs n) = 0 ∨ 0 < f n) ∧ (bt H (cs n) = 0 ∨ 1 < f n) := by
        by_cases z : okN S H cs f n = 1 ∧ (bt S (cs n) = 0 ∨ 0 < f n) ∧ (bt H (cs n) = 0 ∨ 1 < f n)
        · exact z
        · rw [if_neg z] at h; omega
      intro i hi
      by_cases z : i = n
      · subst z
        exact ⟨fun q => h1.2.1.elim (fun t => absurd q (bt_1.mp t)) id, fun q => h1.2.2.elim (fun t => absurd q (bt_1.mp t)) id⟩
      · exact ih.mp h1.1 i (by omega)
    · intro h
      have hn := h n (by omega)
      rw [if_pos]
      refine ⟨ih.mpr (fun i hi => h i (by omega)), ?_, ?_⟩
      · by_cases z : S.testBit (cs n) = true
        · exact Or.inr (hn.1 z)
        · exact Or.inl (bt_1.mpr z)
      · by_cases z : H.testBit (cs n) = true
        · exact Or.inr (hn.2 z)
        · exact Or.inl (bt_1.mpr z)
def cnV (f : Nat → Nat) (v : Nat) : Nat → Nat
  | 0 => 0
  | k + 1 => cnV f v k + (if f k = v then 1 else 0)
theorem cnV_cn (f : Nat → Nat) (v : Nat) : ∀ k, cnV f v k = cnB (fun i => decide (f i = v)) k
  | 0 => rfl
  | k + 1 => by
    show cnV f v k + (if f k = v then 1 else 0) = cnB (fun i => decide (f i = v)) k + (if decide (f k = v) = true then 1 else 0)
    rw [cnV_cn f v k]
    by_cases z : f k = v
    · rw [if_pos z, if_pos (decide_eq_true z)]
    · rw [if_neg z, if_neg (by rw [decide_eq_false z]; decide)]
theorem cnV_b (f : Nat → Nat) (v : Nat) : ∀ k, cnV f v k ≤ k
  | 0 => Nat.le_refl _
  | k + 1 => by
    have := cnV_b f v k
    show cnV f v k + (if f k = v then 1 else 0) ≤ k + 1
    split <;> omega
theorem cnV_fine {n : Nat} {f : Nat → Nat} (df : Dg 4 n f) : (cnV f 2 n < 2 ∧ cnV f 3 n < 2) ↔ Fine n f := by
  rw [cnV_cn, cnV_cn]
  constructor
  · intro h i j hi hj z e
    have b := df i hi
    rcases (show f i = 2 ∨ f i = 3 by omega) with q | q
    · exact cn_1 (b := fun i => decide (f i = 2)) (by omega) i j hi hj (decide_eq_true q) (decide_eq_true (e.trans q))
    · exact cn_1 (b := fun i => decide (f i = 3)) (by omega) i j hi hj (decide_eq_true q) (decide_eq_true (e.trans q))
  · intro q
    have k : ∀ v, 2 ≤ v → cnB (fun i => decide (f i = v)) n < 2 := fun v hv => by
      by_cases z : 2 ≤ cnB (fun i => decide (f i = v)) n
      · obtain ⟨i, j, h1, h2, h3, h4⟩ := cn_g2 z
        have e1 := of_decide_eq_true h3
        have e2 := of_decide_eq_true h4
        have := q i j (by omega) h2 (by omega) (by omega)
        omega
      · omega
    exact ⟨k 2 (by decide), k 3 (by decide)⟩
def csF (N : Nat) : Nat → (Nat → Nat)
  | 0 => fun _ => 0
  | k + 1 => if N.testBit k then fup (csF N k) (pcN N k) k else csF N k
theorem csF_lt (N : Nat) : ∀ k, k ≤ 8 → ∀ i, csF N k i < 8
  | 0, _ => fun _ => by show 0 < 8; decide
  | k + 1, h => fun i => by
    have ih := csF_lt N k (by omega) i
    show (if N.testBit k then fup (csF N k) (pcN N k) k else csF N k) i < 8
    split
    · unfold fup; split <;> omega
    · exact ih
/-- the hides of the cast lie where the reference put them -/
def CaM (h : JH) (N k : Nat) : Prop := ∀ i, i < pcN N k → hI h 142 i = ((csF N k i : Nat) : Int)
theorem lp_fits12 {d : Nat} {h : JH} {P : Int → JH → Prop} {y : SY} {n N s sc : Nat} (w : WF h) (m : SM h y) (o : yOk y) (hsc : sc < y.1) (hn : n ≤ 6) (en : n = pcN N 8) (ca : CaM h N 8) (hs : s < 4 ^ n) (hP : P (if okN (ySh y sc) (yHd y sc) (csF N 8) (dgF 4 s) n = 1 ∧ cnV (dgF 4 s) 2 n < 2 ∧ cnV (dgF 4 s) 3 n < 2 then 1 else 0) h) (i : Nat) (hi : i ≤ n) : ∀ j8, JAt k0 (d + 1) jX12_fits 12 [vr 117, vi s, vi n, vi sc, vi (cnV (dgF 4 s) 2 i : Nat), vi (cnV (dgF 4 s) 3 i : Nat), vi (okN (ySh y sc) (yHd y sc) (csF N 8) (dgF 4 s) i : Nat), vi i, j8] [] h (jqi P) := by
  intro j8
  have o1 := o.1
  have o2 := o.2 sc hsc
  have m2 := m.2 sc hsc
  have cc : i < n → hI h 142 i = ((csF N 8 i : Nat) : Int) := fun z => ca i (by omega)
  have cl := csF_lt N 8 (by omega) i
  have e2 : cnV (dgF 4 s) 2 (i + 1) = cnV (dgF 4 s) 2 i + (if dgF 4 s i = 2 then 1 else 0) := rfl
  have e3 : cnV (dgF 4 s) 3 (i + 1) = cnV (dgF 4 s) 3 i + (if dgF 4 s i = 3 then 1 else 0) := rfl
  have e4 : okN (ySh y sc) (yHd y sc) (csF N 8) (dgF 4 s) (i + 1) = if okN (ySh y sc) (yHd y sc) (csF N 8) (dgF 4 s) i = 1 ∧ (bt (ySh y sc) (csF N 8 i) = 0 ∨ 0 < dgF 4 s i) ∧ (bt (yHd y sc) (csF N 8 i) = 0 ∨ 1 < dgF 4 s i) then 1 else 0 := rfl
  have b2 := cnV_b (dgF 4 s) 2 i
  have b3 := cnV_b (dgF 4 s) 3 i
  have b4 := okN_b (ySh y sc) (yHd y sc) (csF N 8) (dgF 4 s) i
  have b5 := bt_b (ySh y sc) (csF N 8 i)
  have b6 := bt_b (yHd y sc) (csF N 8 i)
  have nx : i < n → ∀ v : Int, v = (okN (ySh y sc) (yHd y sc) (csF N 8) (dgF 4 s) (i + 1) : Nat) → ∀ j6, JAt k0 (d + 1) jX12_fits 119 [vr 117, vi s, vi n, vi sc, vi (cnV (dgF 4 s) 2 (i + 1) : Nat), vi (cnV (dgF 4 s) 3 (i + 1) : Nat), j6, vi i, vi (dgF 4 s i : Nat)] [vi v] h (jqi P) := by
    intro hi4 v ev j6
    subst ev
    refine st_istore (q := 121) dX12_fits_119 (by decide) rfl ?_
    first | refine n_iinc (q := 124) dX12_fits_121 rfl (by decide) rfl ⟨by omega, by omega⟩ ?_ | refine st_iinc (q := 124) dX12_fits_121 rfl (by decide) rfl ?_
    refine st_goto (q := 12) dX12_fits_124 (by decide) ?_
    exact lp_fits12 w m o hsc hn en ca hs hP (i + 1) (by omega) _
  refine st_iload (q := 14) dX12_fits_12 rfl rfl ?_
  refine st_iload_n (q := 15) dX12_fits_14 rfl rfl ?_
  refine st_icmp_ge (q := 18) (tgt := 127) dX12_fits_15 (by decide) rfl (fun c15 => ?_) (fun c15 => ?_)
  · refine st_iload (q := 129) dX12_fits_127 rfl rfl ?_
    refine st_if_eq (q := 132) (tgt := 148) dX12_fits_129 (by decide) rfl (fun c129 => ?_) (fun c129 => ?_)
    · refine st_iconst (q := 149) dX12_fits_148 ⟨by decide, by decide⟩ rfl ?_
      refine rt_z dX12_fits_149 rfl (by (repeat' split) <;> omega) ?_
      have en2 : i = n := by omega
      subst en2
      exact pq hP (by (repeat' split) <;> omega) rfl
    · refine st_iload (q := 134) dX12_fits_132 rfl rfl ?_
      refine st_iconst (q := 135) dX12_fits_134 ⟨by decide, by decide⟩ rfl ?_
      refine st_icmp_ge (q := 138) (tgt := 148) dX12_fits_135 (by decide) rfl (fun c135 => ?_) (fun c135 => ?_)
      · refine st_iconst (q := 149) dX12_fits_148 ⟨by decide, by decide⟩ rfl ?_
        refine rt_z dX12_fits_149 rfl (by (repeat' split) <;> omega) ?_
        have en2 : i = n := by omega
        subst en2
        exact pq hP (by (repeat' split) <;> omega) rfl
      · refine st_iload (q := 140) dX12_fits_138 rfl rfl ?_
        refine st_iconst (q := 141) dX12_fits_140 ⟨by decide, by decide⟩ rfl ?_
        refine st_icmp_ge (q := 144) (tgt := 148) dX12_fits_141 (by decide) rfl (fun c141 => ?_) (fun c141 => ?_)
        · refine st_iconst (q := 149) dX12_fits_148 ⟨by decide, by decide⟩ rfl ?_
          refine rt_z dX12_fits_149 rfl (by (repeat' split) <;> omega) ?_
          have en2 : i = n := by omega
          subst en2
          exact pq hP (by (repeat' split) <;> omega) rfl
        · refine st_iconst (q := 145) dX12_fits_144 ⟨by decide, by decide⟩ rfl ?_
          refine st_goto (q := 149) dX12_fits_145 (by decide) ?_
          refine rt_z dX12_fits_149 rfl (by (repeat' split) <;> omega) ?_
          have en2 : i = n := by omega
          subst en2
          exact pq hP (by (repeat' split) <;> omega) rfl
  · refine st_iload_n (q := 19) dX12_fits_18 rfl rfl ?_
    refine st_iconst (q := 20) dX12_fits_19 ⟨by decide, by decide⟩ rfl ?_
    refine st_iload (q := 22) dX12_fits_20 rfl rfl ?_
    first | refine n_imul (q := 23) dX12_fits_22 rfl ⟨by omega, by omega⟩ ?_ | refine st_imul (q := 23) dX12_fits_22 rfl ?_
    refine st_ishr (q := 24) dX12_fits_23 rfl ?_
    refine st_iconst (q := 25) dX12_fits_24 ⟨by decide, by decide⟩ rfl ?_
    refine st_iand (q := 26) dX12_fits_25 rfl ?_
    refine j_top ((dgF 4 s i : Nat) : Int) (shr4 hs hn (by omega)) ?_
    refine st_istore (q := 28) dX12_fits_26 (by decide) rfl ?_
    refine st_iload (q := 30) dX12_fits_28 rfl rfl ?_
    refine st_iload (q := 32) dX12_fits_30 rfl rfl ?_
    refine st_iconst (q := 33) dX12_fits_32 ⟨by decide, by decide⟩ rfl ?_
    apply j_mg 41
    · intro K1 K2
      refine st_icmp_ne (q := 36) (tgt := 40) dX12_fits_33 (by decide) rfl (fun c33 => ?_) (fun c33 => ?_)
      · refine st_iconst (q := 41) dX12_fits_40 ⟨by decide, by decide⟩ rfl ?_
        exact K2 c33
      · refine st_iconst (q := 37) dX12_fits_36 ⟨by decide, by decide⟩ rfl ?_
        refine st_goto (q := 41) dX12_fits_37 (by decide) ?_
        exact K1 c33
    · simp only [jif_if]
      first | refine n_iadd (q := 42) dX12_fits_41 rfl ⟨by omega, by omega⟩ ?_ | refine st_iadd (q := 42) dX12_fits_41 rfl ?_
      refine j_top ((cnV (dgF 4 s) 2 (i + 1) : Nat) : Int) (by rw [e2]; (repeat' split) <;> omega) ?_
      refine st_istore (q := 44) dX12_fits_42 (by decide) rfl ?_
      refine st_iload (q := 46) dX12_fits_44 rfl rfl ?_
      refine st_iload (q := 48) dX12_fits_46 rfl rfl ?_
      refine st_iconst (q := 49) dX12_fits_48 ⟨by decide, by decide⟩ rfl ?_
      apply j_mg 57
      · intro K3 K4
        refine st_icmp_ne (q := 52) (tgt := 56) dX12_fits_49 (by decide) rfl (fun c49 => ?_) (fun c49 => ?_)
        · refine st_iconst (q := 57) dX12_fits_56 ⟨by decide, by decide⟩ rfl ?_
          exact K4 c49
        · refine st_iconst (q := 53) dX12_fits_52 ⟨by decide, by decide⟩ rfl ?_
          refine st_goto (q := 57) dX12_fits_53 (by decide) ?_
          exact K3 c49
      · simp only [jif_if]
        first | refine n_iadd (q := 58) dX12_fits_57 rfl ⟨by omega, by omega⟩ ?_ | refine st_iadd (q := 58) dX12_fits_57 rfl ?_
        refine j_top ((cnV (dgF 4 s) 3 (i + 1) : Nat) : Int) (by rw [e3]; (repeat' split) <;> omega) ?_
        refine st_istore (q := 60) dX12_fits_58 (by decide) rfl ?_
        refine st_iload (q := 62) dX12_fits_60 rfl rfl ?_
        refine st_if_eq (q := 65) (tgt := 118) dX12_fits_62 (by decide) rfl (fun c62 => ?_) (fun c62 => ?_)
        · refine st_iconst (q := 119) dX12_fits_118 ⟨by decide, by decide⟩ rfl ?_
          exact nx (by omega) _ (by rw [e4]; split <;> omega) _
        · refine st_aload_n (q := 66) dX12_fits_65 rfl rfl ?_
          refine st_getR (q := 69) 12 16 dX12_fits_66 fl_X12_48 (by decide) (by decide) rfl rfl (wfk w rfl) (wfR w rfl) ?_
          refine st_iload_n (q := 70) dX12_fits_69 rfl rfl ?_
          refine st_iaload (q := 71) dX12_fits_70 rfl (wfk w rfl) (wfb w (n := 12) rfl ⟨by omega, by omega⟩) ?_
          refine j_top ((ySh y sc : Nat) : Int) m2.1 ?_
          refine st_aload_n (q := 72) dX12_fits_71 rfl rfl ?_
          refine st_getR (q := 75) 12 34 dX12_fits_72 fl_X12_93 (by decide) (by decide) rfl rfl (wfk w rfl) (wfR w rfl) ?_
          refine st_iload (q := 77) dX12_fits_75 rfl rfl ?_
          refine st_iaload (q := 78) dX12_fits_77 rfl (wfk w rfl) (wfb w (n := 8) rfl ⟨by omega, by omega⟩) ?_
          refine j_top ((csF N 8 i : Nat) : Int) (cc (by omega)) ?_
          refine iS2i (q := 81) dX12_fits_78 rfl ml_X12_174 ms_X12_has (Nat.le_of_ble_eq_true rfl) ?_
          refine c_X12_has ?_
          refine j_top ((bt (ySh y sc) (csF N 8 i) : Nat) : Int) (bt_has (by omega) (by omega)) ?_
          refine st_if_eq (q := 84) (tgt := 89) dX12_fits_81 (by decide) rfl (fun c81 => ?_) (fun c81 => ?_)
          · refine st_aload_n (q := 90) dX12_fits_89 rfl rfl ?_
            refine st_getR (q := 93) 12 17 dX12_fits_90 fl_X12_51 (by decide) (by decide) rfl rfl (wfk w rfl) (wfR w rfl) ?_
            refine st_iload_n (q := 94) dX12_fits_93 rfl rfl ?_
            refine st_iaload (q := 95) dX12_fits_94 rfl (wfk w rfl) (wfb w (n := 12) rfl ⟨by omega, by omega⟩) ?_
            refine j_top ((yHd y sc : Nat) : Int) m2.2.1 ?_
            refine st_aload_n (q := 96) dX12_fits_95 rfl rfl ?_
            refine st_getR (q := 99) 12 34 dX12_fits_96 fl_X12_93 (by decide) (by decide) rfl rfl (wfk w rfl) (wfR w rfl) ?_
            refine st_iload (q := 101) dX12_fits_99 rfl rfl ?_
            refine st_iaload (q := 102) dX12_fits_101 rfl (wfk w rfl) (wfb w (n := 8) rfl ⟨by omega, by omega⟩) ?_
            refine j_top ((csF N 8 i : Nat) : Int) (cc (by omega)) ?_
            refine iS2i (q := 105) dX12_fits_102 rfl ml_X12_174 ms_X12_has (Nat.le_of_ble_eq_true rfl) ?_
            refine c_X12_has ?_
            refine j_top ((bt (yHd y sc) (csF N 8 i) : Nat) : Int) (bt_has (by omega) (by omega)) ?_
            refine st_if_eq (q := 108) (tgt := 114) dX12_fits_105 (by decide) rfl (fun c105 => ?_) (fun c105 => ?_)
            · refine st_iconst (q := 115) dX12_fits_114 ⟨by decide, by decide⟩ rfl ?_
              refine st_goto (q := 119) dX12_fits_115 (by decide) ?_
              exact nx (by omega) _ (by rw [e4]; split <;> omega) _
            · refine st_iload (q := 110) dX12_fits_108 rfl rfl ?_
              refine st_iconst (q := 111) dX12_fits_110 ⟨by decide, by decide⟩ rfl ?_
              refine st_icmp_le (q := 114) (tgt := 118) dX12_fits_111 (by decide) rfl (fun c111 => ?_) (fun c111 => ?_)
              · refine st_iconst (q := 119) dX12_fits_118 ⟨by decide, by decide⟩ rfl ?_
                exact nx (by omega) _ (by rw [e4]; split <;> omega) _
              · refine st_iconst (q := 115) dX12_fits_114 ⟨by decide, by decide⟩ rfl ?_
                refine st_goto (q := 119) dX12_fits_115 (by decide) ?_
                exact nx (by omega) _ (by rw [e4]; split <;> omega) _
          · refine st_iload (q := 86) dX12_fits_84 rfl rfl ?_
            refine st_if_le (q := 89) (tgt := 118) dX12_fits_86 (by decide) rfl (fun c86 => ?_) (fun c86 => ?_)
            · refine st_iconst (q := 119) dX12_fits_118 ⟨by decide, by decide⟩ rfl ?_
              exact nx (by omega) _ (by rw [e4]; split <;> omega) _
            · refine st_aload_n (q := 90) dX12_fits_89 rfl rfl ?_
              refine st_getR (q := 93) 12 17 dX12_fits_90 fl_X12_51 (by decide) (by decide) rfl rfl (wfk w rfl) (wfR w rfl) ?_
              refine st_iload_n (q := 94) dX12_fits_93 rfl rfl ?_
              refine st_iaload (q := 95) dX12_fits_94 rfl (wfk w rfl) (wfb w (n := 12) rfl ⟨by omega, by omega⟩) ?_
              refine j_top ((yHd y sc : Nat) : Int) m2.2.1 ?_
              refine st_aload_n (q := 96) dX12_fits_95 rfl rfl ?_
              refine st_getR (q := 99) 12 34 dX12_fits_96 fl_X12_93 (by decide) (by decide) rfl rfl (wfk w rfl) (wfR w rfl) ?_
              refine st_iload (q := 101) dX12_fits_99 rfl rfl ?_
              refine st_iaload (q := 102) dX12_fits_101 rfl (wfk w rfl) (wfb w (n := 8) rfl ⟨by omega, by omega⟩) ?_
              refine j_top ((csF N 8 i : Nat) : Int) (cc (by omega)) ?_
              refine iS2i (q := 105) dX12_fits_102 rfl ml_X12_174 ms_X12_has (Nat.le_of_ble_eq_true rfl) ?_
              refine c_X12_has ?_
              refine j_top ((bt (yHd y sc) (csF N 8 i) : Nat) : Int) (bt_has (by omega) (by omega)) ?_
              refine st_if_eq (q := 108) (tgt := 114) dX12_fits_105 (by decide) rfl (fun c105 => ?_) (fun c105 => ?_)
              · refine st_iconst (q := 115) dX12_fits_114 ⟨by decide, by decide⟩ rfl ?_
                refine st_goto (q := 119) dX12_fits_115 (by decide) ?_
                exact nx (by omega) _ (by rw [e4]; split <;> omega) _
              · refine st_iload (q := 110) dX12_fits_108 rfl rfl ?_
                refine st_iconst (q := 111) dX12_fits_110 ⟨by decide, by decide⟩ rfl ?_
                refine st_icmp_le (q := 114) (tgt := 118) dX12_fits_111 (by decide) rfl (fun c111 => ?_) (fun c111 => ?_)
                · refine st_iconst (q := 119) dX12_fits_118 ⟨by decide, by decide⟩ rfl ?_
                  exact nx (by omega) _ (by rw [e4]; split <;> omega) _
                · refine st_iconst (q := 115) dX12_fits_114 ⟨by decide, by decide⟩ rfl ?_
                  refine st_goto (q := 119) dX12_fits_115 (by decide) ?_
                  exact nx (by omega) _ (by rw [e4]; split <;> omega) _
termination_by n - i
theorem c_X12_fits {d : Nat} {h : JH} {P : Int → JH → Prop} {y : SY} {n N s sc : Nat} (w : WF h) (m : SM h y) (o : yOk y) (hsc : sc < y.1) (hn : n ≤ 6) (en : n = pcN N 8) (ca : CaM h N 8) (hs : s < 4 ^ n) (p1 : Fine n (dgF 4 s) ∧ Dem (ySh y sc) (yHd y sc) (csF N 8) n (dgF 4 s) → P 1 h) (p0 : ¬ (Fine n (dgF 4 s) ∧ Dem (ySh y sc) (yHd y sc) (csF N 8) n (dgF 4 s)) → P 0 h) : JRi (d + 1) jX12_fits [vr 117, vi s, vi n, vi sc] h P := by
  have df : Dg 4 n (dgF 4 s) := dgF_dg (by decide)
  have hP : P (if okN (ySh y sc) (yHd y sc) (csF N 8) (dgF 4 s) n = 1 ∧ cnV (dgF 4 s) 2 n < 2 ∧ cnV (dgF 4 s) 3 n < 2 then 1 else 0) h := by
    by_cases z : okN (ySh y sc) (yHd y sc) (csF N 8) (dgF 4 s) n = 1 ∧ cnV (dgF 4 s) 2 n < 2 ∧ cnV (dgF 4 s) 3 n < 2
    · rw [if_pos z]
      exact p1 ⟨(cnV_fine df).mp z.2, okN_dem.mp z.1⟩
    · rw [if_neg z]
      exact p0 (fun t => z ⟨okN_dem.mpr t.2, (cnV_fine df).mpr t.1⟩)
  refine JRet.of rfl (Nat.le_of_ble_eq_true rfl) ?_
  refine st_iconst (q := 1) dX12_fits_0 ⟨by decide, by decide⟩ rfl ?_
  refine st_istore (q := 3) dX12_fits_1 (by decide) rfl ?_
  refine st_iconst (q := 4) dX12_fits_3 ⟨by decide, by decide⟩ rfl ?_
  refine st_istore (q := 6) dX12_fits_4 (by decide) rfl ?_
  refine st_iconst (q := 7) dX12_fits_6 ⟨by decide, by decide⟩ rfl ?_
  refine st_istore (q := 9) dX12_fits_7 (by decide) rfl ?_
  refine st_iconst (q := 10) dX12_fits_9 ⟨by decide, by decide⟩ rfl ?_
  refine st_istore (q := 12) dX12_fits_10 (by decide) rfl ?_
  exact lp_fits12 w m o hsc hn en ca hs hP 0 (Nat.zero_le _) _
theorem FitP_of {B n : Nat} {ok : (Nat → Nat) → Prop} {D E : Nat → Int} (cg : ∀ f g, (∀ i, i < n → f i = g i) → ok f → ok g) (e : ∀ x, x < B ^ n → (ok (dgF B x) → E x = D x) ∧ (¬ ok (dgF B x) → E x = 1000000)) : FitP B n ok D E := fun f df => by
  have dd : ∀ j, j < n → dgF B (enc B f n) j = f j := fun j hj => enc_dg df hj
  have q := e _ (enc_lt df)
  exact ⟨fun z => q.1 (cg f _ (fun i hi => (dd i hi).symm) z), fun z => q.2 (fun t => z (cg _ f dd t))⟩
theorem fd_cg {S H n : Nat} {cs : Nat → Nat} : ∀ f g : Nat → Nat, (∀ i, i < n → f i = g i) → (Fine n f ∧ Dem S H cs n f) → (Fine n g ∧ Dem S H cs n g) := fun f g e z => ⟨fun i j hi hj q1 q2 => z.1 i j hi hj (by rw [e i hi]; exact q1) (by rw [e i hi, e j hj]; exact q2), fun i hi => by rw [← e i hi]; exact z.2 i hi⟩
theorem td_cg {S H n : Nat} {cs : Nat → Nat} : ∀ f g : Nat → Nat, (∀ i, i < n → f i = g i) → (Tw2 n f ∧ Dem S H cs n f) → (Tw2 n g ∧ Dem S H cs n g) := fun f g e z => ⟨fun i j k hi hj hk q1 q2 q3 => z.1 i j k hi hj hk (by rw [e i hi]; exact q1) (by rw [e j hj]; exact q2) (by rw [e k hk]; exact q3), fun i hi => by rw [← e i hi]; exact z.2 i hi⟩
theorem scC_M : ∀ a k, ScCo a k → ScM a k := by intro a k z; unfold ScCo at z; unfold ScM; omega
theorem CaM.fr {h h' : JH} {N k : Nat} (c : CaM h N k) (f : Fr ScCo h h') : CaM h' N k := fun i hi => (f.2.2 _ _ (by unfold ScCo; omega)).trans (c i hi)
theorem lp_hd102 {d : Nat} {h0 : JH} {Q : Option JV → JH → Prop} {y : SY} {n N sc : Nat} (w0 : WF h0) (m0 : SM h0 y) (o : yOk y) (hsc : sc < y.1) (hn : n ≤ 6) (en : n = pcN N 8) (ca0 : CaM h0 N 8) (b0 : bdC 4 n (hI h0 140)) (hK : ∀ h' j4, Fr ScCo h0 h' → bdC 4 n (hI h' 140) → FitP 4 n (fun f => Fine n f ∧ Dem (ySh y sc) (yHd y sc) (csF N 8) n f) (hI h0 140) (hI h' 140) → JAt k0 (d + 2) jX12_hands 148 [vr 117, vi N, vi n, vi sc, j4] [] h' Q) (s : Nat) (hs : s ≤ 4 ^ n) : ∀ h', Fr ScCo h0 h' → (∀ x, s ≤ x → hI h' 140 x = hI h0 140 x) → bdC 4 n (hI h' 140) → (∀ x, x < s → ((Fine n (dgF 4 x) ∧ Dem (ySh y sc) (yHd y sc) (csF N 8) n (dgF 4 x)) → hI h' 140 x = hI h0 140 x) ∧ (¬ (Fine n (dgF 4 x) ∧ Dem (ySh y sc) (yHd y sc) (csF N 8) n (dgF 4 x)) → hI h' 140 x = 1000000)) → JAt k0 (d + 2) jX12_hands 102 [vr 117, vi N, vi n, vi sc, vi s] [] h' Q := by
  intro h' f c1 b c2
  have hb := p4b hn
  have w := f.wf w0
  have m := m0.fr (f.up scC_M)
  have ca := ca0.fr f
  have up : ∀ v : Int, (0 ≤ v ∧ v ≤ 1000000) → bdC 4 n (hI (sI h' 140 s v) 140) := fun v hv x hx => by
    by_cases e : x = s
    · subst e; rw [sI_s]; exact hv
    · rw [sI_k _ e]; exact b x hx
  refine st_iload (q := 104) dX12_hands_102 rfl rfl ?_
  refine st_iconst (q := 105) dX12_hands_104 ⟨by decide, by decide⟩ rfl ?_
  refine st_iconst (q := 106) dX12_hands_105 ⟨by decide, by decide⟩ rfl ?_
  refine st_iload_n (q := 107) dX12_hands_106 rfl rfl ?_
  first | refine n_imul (q := 108) dX12_hands_107 rfl ⟨by omega, by omega⟩ ?_ | refine st_imul (q := 108) dX12_hands_107 rfl ?_
  refine st_ishl (q := 109) dX12_hands_108 rfl ?_
  refine j_top ((4 ^ n : Nat) : Int) (ishl1 hn) ?_
  refine st_icmp_ge (q := 112) (tgt := 148) dX12_hands_109 (by decide) rfl (fun c109 => ?_) (fun c109 => ?_)
  · exact hK _ _ f b (FitP_of fd_cg (fun x hx => c2 x (by omega)))
  · refine st_aload_n (q := 113) dX12_hands_112 rfl rfl ?_
    refine st_getR (q := 116) 12 32 dX12_hands_113 fl_X12_87 (by decide) (by decide) rfl rfl (wfk w rfl) (wfR w rfl) ?_
    refine st_iload (q := 118) dX12_hands_116 rfl rfl ?_
    refine st_aload_n (q := 119) dX12_hands_118 rfl rfl ?_
    refine st_iload (q := 121) dX12_hands_119 rfl rfl ?_
    refine st_iload_n (q := 122) dX12_hands_121 rfl rfl ?_
    refine st_iload_n (q := 123) dX12_hands_122 rfl rfl ?_
    refine iV3i (q := 126) dX12_hands_123 rfl ml_X12_236 mv_X12_fits (Nat.le_of_ble_eq_true rfl) (wfk w rfl) ?_
    refine c_X12_fits w m o hsc hn en ca (by omega) (fun q => ?_) (fun q => ?_)
    · refine st_if_eq (q := 129) (tgt := 139) dX12_hands_126 (by decide) rfl (fun z => absurd z (by decide)) (fun _ => ?_)
      refine st_aload_n (q := 130) dX12_hands_129 rfl rfl ?_
      refine st_getR (q := 133) 12 32 dX12_hands_130 fl_X12_87 (by decide) (by decide) rfl rfl (wfk w rfl) (wfR w rfl) ?_
      refine st_iload (q := 135) dX12_hands_133 rfl rfl ?_
      refine st_iaload (q := 136) dX12_hands_135 rfl (wfk w rfl) (wfb w (n := 4096) rfl ⟨by omega, by omega⟩) ?_
      refine st_goto (q := 141) dX12_hands_136 (by decide) ?_
      refine st_iastore (q := 142) dX12_hands_141 rfl (wfk w rfl) (wfb w (n := 4096) rfl ⟨by omega, by omega⟩) ?_
      first | refine n_iinc (q := 145) dX12_hands_142 rfl (by decide) rfl ⟨by omega, by omega⟩ ?_ | refine st_iinc (q := 145) dX12_hands_142 rfl (by decide) rfl ?_
      refine st_goto (q := 102) dX12_hands_145 (by decide) ?_
      first | exact lp_hd102 w0 m0 o hsc hn en ca0 b0 hK (s + 1) (by omega) _ (f.sI _ (Or.inl rfl)) (fun x hx => by rw [show ((s : Int)).toNat = s from rfl, sI_k _ (show x ≠ s by omega)]; exact c1 x (by omega)) (up _ (b s (by omega))) (fun x hx => by rw [show ((s : Int)).toNat = s from rfl]; by_cases e : x = s; (subst e; rw [sI_s]; exact ⟨fun _ => c1 x (by omega), fun z => absurd q z⟩); (rw [sI_k _ e]; exact c2 x (by omega))) | exact lp_hd102 w0 m0 o hsc hn en ca0 b0 hK (s + 1) (by omega) _ (f.sI _ (Or.inl rfl)) (fun x hx => by rw [show ((s : Int)).toNat = s from rfl, sI_k _ (show x ≠ s by omega)]; exact c1 x (by omega)) (up _ (by decide)) (fun x hx => by rw [show ((s : Int)).toNat = s from rfl]; by_cases e : x = s; (subst e; rw [sI_s]; exact ⟨fun z => absurd z q, fun _ => rfl⟩); (rw [sI_k _ e]; exact c2 x (by omega)))
    · refine st_if_eq (q := 129) (tgt := 139) dX12_hands_126 (by decide) rfl (fun _ => ?_) (fun z => absurd z (by decide))
      refine st_ldc (q := 141) (x := 1000000) dX12_hands_139 ⟨by decide, by decide⟩ co_X12_224 rfl ?_
      refine st_iastore (q := 142) dX12_hands_141 rfl (wfk w rfl) (wfb w (n := 4096) rfl ⟨by omega, by omega⟩) ?_
      first | refine n_iinc (q := 145) dX12_hands_142 rfl (by decide) rfl ⟨by omega, by omega⟩ ?_ | refine st_iinc (q := 145) dX12_hands_142 rfl (by decide) rfl ?_
      refine st_goto (q := 102) dX12_hands_145 (by decide) ?_
      first | exact lp_hd102 w0 m0 o hsc hn en ca0 b0 hK (s + 1) (by omega) _ (f.sI _ (Or.inl rfl)) (fun x hx => by rw [show ((s : Int)).toNat = s from rfl, sI_k _ (show x ≠ s by omega)]; exact c1 x (by omega)) (up _ (b s (by omega))) (fun x hx => by rw [show ((s : Int)).toNat = s from rfl]; by_cases e : x = s; (subst e; rw [sI_s]; exact ⟨fun _ => c1 x (by omega), fun z => absurd q z⟩); (rw [sI_k _ e]; exact c2 x (by omega))) | exact lp_hd102 w0 m0 o hsc hn en ca0 b0 hK (s + 1) (by omega) _ (f.sI _ (Or.inl rfl)) (fun x hx => by rw [show ((s : Int)).toNat = s from rfl, sI_k _ (show x ≠ s by omega)]; exact c1 x (by omega)) (up _ (by decide)) (fun x hx => by rw [show ((s : Int)).toNat = s from rfl]; by_cases e : x = s; (subst e; rw [sI_s]; exact ⟨fun z => absurd z q, fun _ => rfl⟩); (rw [sI_k _ e]; exact c2 x (by omega)))
termination_by 4 ^ n - s
theorem lp_hd86 {d : Nat} {h0 : JH} {P : Int → JH → Prop} {y : SY} {n N : Nat} (w0 : WF h0) (m0 : SM h0 y) (o : yOk y) (hn : n ≤ 6) (en : n = pcN N 8) (ca0 : CaM h0 N 8) (hP : ∀ C D h', R4P y (csF N 8) n y.1 C → ChP 4 n n C D → Fr ScCo h0 h' → P (D 0) h') (sc : Nat) (hsc : sc ≤ y.1) : ∀ h' j4, Fr ScCo h0 h' → bdC 4 n (hI h' 140) → R4P y (csF N 8) n sc (hI h' 140) → JAt k0 (d + 2) jX12_hands 86 [vr 117, vi N, vi n, vi sc, j4] [] h' (jqi P) := by
  intro h' j4 f b r
  have o1 := o.1
  have w := f.wf w0
  have m := m0.fr (f.up scC_M)
  have m1 := m.1
  have ca := ca0.fr f
  have nx : ∀ h2 h3 : JH, Fr ScCo h' h2 → Fr ScCo h2 h3 → ChP 4 n n (hI h' 140) (hI h2 140) → bdC 4 n (hI h3 140) → FitP 4 n (fun f => Fine n f ∧ Dem (ySh y sc) (yHd y sc) (csF N 8) n f) (hI h2 140) (hI h3 140) → sc < y.1 → ∀ j4, JAt k0 (d + 2) jX12_hands 148 [vr 117, vi N, vi n, vi sc, j4] [] h3 (jqi P) := by
    intro h2 h3 f2 f3 c2 b3 p3 hs4 j4
    first | refine n_iinc (q := 151) dX12_hands_148 rfl (by decide) rfl ⟨by omega, by omega⟩ ?_ | refine st_iinc (q := 151) dX12_hands_148 rfl (by decide) rfl ?_
    refine st_goto (q := 86) dX12_hands_151 (by decide) ?_
    exact lp_hd86 w0 m0 o hn en ca0 hP (sc + 1) (by omega) _ _ ((f.tr f2).tr f3) b3 ⟨_, _, r, c2, p3⟩
  refine st_iload_n (q := 87) dX12_hands_86 rfl rfl ?_
  refine st_aload_n (q := 88) dX12_hands_87 rfl rfl ?_
  refine st_getI (q := 91) 12 15 dX12_hands_88 fl_X12_215 (by decide) (by decide) rfl rfl (wfk w rfl) ?_
  refine st_icmp_ge (q := 94) (tgt := 154) dX12_hands_91 (by decide) rfl (fun c91 => ?_) (fun c91 => ?_)
  · refine st_aload_n (q := 155) dX12_hands_154 rfl rfl ?_
    refine st_iload_n (q := 156) dX12_hands_155 rfl rfl ?_
    refine iV1v (q := 159) dX12_hands_156 rfl ml_X12_232 mv_X12_changes (Nat.le_of_ble_eq_true rfl) (wfk w rfl) ?_
    have es : sc = y.1 := (by omega)
    subst es
    refine c_X12_changes w hn b (fun h2 f2 b2 c2 => ?_)
    have w := f2.wf w
    refine st_aload_n (q := 160) dX12_hands_159 rfl rfl ?_
    refine st_getR (q := 163) 12 32 dX12_hands_160 fl_X12_87 (by decide) (by decide) rfl rfl (wfk w rfl) (wfR w rfl) ?_
    refine st_iconst (q := 164) dX12_hands_163 ⟨by decide, by decide⟩ rfl ?_
    refine st_iaload (q := 165) dX12_hands_164 rfl (wfk w rfl) (wfb w (n := 4096) rfl ⟨by omega, by omega⟩) ?_
    refine rt_i dX12_hands_165 rfl ?_
    exact hP _ _ _ r c2 (f.tr f2)
  · refine st_aload_n (q := 95) dX12_hands_94 rfl rfl ?_
    refine st_iload_n (q := 96) dX12_hands_95 rfl rfl ?_
    refine iV1v (q := 99) dX12_hands_96 rfl ml_X12_232 mv_X12_changes (Nat.le_of_ble_eq_true rfl) (wfk w rfl) ?_
    refine c_X12_changes w hn b (fun h2 f2 b2 c2 => ?_)
    refine st_iconst (q := 100) dX12_hands_99 ⟨by decide, by decide⟩ rfl ?_
    refine st_istore (q := 102) dX12_hands_100 (by decide) rfl ?_
    exact lp_hd102 (f2.wf w) (m.fr (f2.up scC_M)) o (by omega) hn en (ca.fr f2) b2 (fun h3 j4 f3 b3 p3 => nx h2 h3 f2 f3 c2 b3 p3 (by omega) j4) 0 (Nat.zero_le _) _ Fr.rf (fun _ _ => rfl) b2 (fun x hx => absurd hx (by omega))
termination_by y.1 - sc
theorem lp_hd53 {d : Nat} {h0 : JH} {Q : Option JV → JH → Prop} {n N : Nat} (w0 : WF h0) (hn : n ≤ 6) (hK : ∀ h' j4, Fr ScCo h0 h' → bdC 4 n (hI h' 140) → R0P 4 n (hI h' 140) → JAt k0 (d + 2) jX12_hands 86 [vr 117, vi N, vi n, vi ((0 : Nat) : Int), j4] [] h' Q) (s : Nat) (hs : s ≤ 4 ^ n) : ∀ h' j4, Fr ScCo h0 h' → (∀ x, x < s → hI h' 140 x = if x = 0 then 0 else 1000000) → JAt k0 (d + 2) jX12_hands 53 [vr 117, vi N, vi n, vi s, j4] [] h' Q := by
  intro h' j4 f c1
  have hb := p4b hn
  have w := f.wf w0
  refine st_iload_n (q := 54) dX12_hands_53 rfl rfl ?_
  refine st_iconst (q := 55) dX12_hands_54 ⟨by decide, by decide⟩ rfl ?_
  refine st_iconst (q := 56) dX12_hands_55 ⟨by decide, by decide⟩ rfl ?_
  refine st_iload_n (q := 57) dX12_hands_56 rfl rfl ?_
  first | refine n_imul (q := 58) dX12_hands_57 rfl ⟨by omega, by omega⟩ ?_ | refine st_imul (q := 58) dX12_hands_57 rfl ?_
  refine st_ishl (q := 59) dX12_hands_58 rfl ?_
  refine j_top ((4 ^ n : Nat) : Int) (ishl1 hn) ?_
  refine st_icmp_ge (q := 62) (tgt := 84) dX12_hands_59 (by decide) rfl (fun c59 => ?_) (fun c59 => ?_)
  · refine st_iconst (q := 85) dX12_hands_84 ⟨by decide, by decide⟩ rfl ?_
    refine st_istore_n (q := 86) (i := 3) dX12_hands_85 rfl (by decide) rfl ?_
    exact hK _ _ f (fun x hx => by rw [c1 x (by omega)]; split <;> omega) (fun g dg => c1 _ (by have := enc_lt dg; omega))
  · refine st_aload_n (q := 63) dX12_hands_62 rfl rfl ?_
    refine st_getR (q := 66) 12 32 dX12_hands_63 fl_X12_87 (by decide) (by decide) rfl rfl (wfk w rfl) (wfR w rfl) ?_
    refine st_iload_n (q := 67) dX12_hands_66 rfl rfl ?_
    refine st_iload_n (q := 68) dX12_hands_67 rfl rfl ?_
    refine st_if_ne (q := 71) (tgt := 75) dX12_hands_68 (by decide) rfl (fun c68 => ?_) (fun c68 => ?_)
    · refine st_ldc (q := 77) (x := 1000000) dX12_hands_75 ⟨by decide, by decide⟩ co_X12_224 rfl ?_
      refine st_iastore (q := 78) dX12_hands_77 rfl (wfk w rfl) (wfb w (n := 4096) rfl ⟨by omega, by omega⟩) ?_
      first | refine n_iinc (q := 81) dX12_hands_78 rfl (by decide) rfl ⟨by omega, by omega⟩ ?_ | refine st_iinc (q := 81) dX12_hands_78 rfl (by decide) rfl ?_
      refine st_goto (q := 53) dX12_hands_81 (by decide) ?_
      exact lp_hd53 w0 hn hK (s + 1) (by omega) _ _ (f.sI _ (Or.inl rfl)) (fun x hx => by rw [show ((s : Int)).toNat = s from rfl]; by_cases e : x = s; (subst e; rw [sI_s]; split <;> omega); (rw [sI_k _ e]; exact c1 x (by omega)))
    · refine st_iconst (q := 72) dX12_hands_71 ⟨by decide, by decide⟩ rfl ?_
      refine st_goto (q := 77) dX12_hands_72 (by decide) ?_
      refine st_iastore (q := 78) dX12_hands_77 rfl (wfk w rfl) (wfb w (n := 4096) rfl ⟨by omega, by omega⟩) ?_
      first | refine n_iinc (q := 81) dX12_hands_78 rfl (by decide) rfl ⟨by omega, by omega⟩ ?_ | refine st_iinc (q := 81) dX12_hands_78 rfl (by decide) rfl ?_
      refine st_goto (q := 53) dX12_hands_81 (by decide) ?_
      exact lp_hd53 w0 hn hK (s + 1) (by omega) _ _ (f.sI _ (Or.inl rfl)) (fun x hx => by rw [show ((s : Int)).toNat = s from rfl]; by_cases e : x = s; (subst e; rw [sI_s]; split <;> omega); (rw [sI_k _ e]; exact c1 x (by omega)))
termination_by 4 ^ n - s
theorem pcN_bt (N k : Nat) : pcN N (k + 1) = pcN N k + bt N k := rfl
theorem pcN_8 {N : Nat} (h : N < 256) : pcN N 16 = pcN N 8 := by
  have q : ∀ i, 8 ≤ i → N.testBit i = false := fun i hi => Nat.testBit_lt_two_pow (Nat.lt_of_lt_of_le h (show 2 ^ 8 ≤ 2 ^ i from Nat.pow_le_pow_right (by decide) hi))
  have e : ∀ k, pcN N (8 + k) = pcN N 8 := fun k => by
    induction k with
    | zero => rfl
    | succ k ih =>
      show pcN N (8 + k) + (if N.testBit (8 + k) then 1 else 0) = pcN N 8
      rw [q (8 + k) (by omega), ih]
      rfl
  exact e 8
theorem lp_hd21 {d : Nat} {h0 : JH} {Q : Option JV → JH → Prop} {N : Nat} (w0 : WF h0) (hN : N < 256) (hK : ∀ h' j4, Fr ScM h0 h' → CaM h' N 8 → JAt k0 (d + 2) jX12_hands 53 [vr 117, vi N, vi (pcN N 8 : Nat), vi ((0 : Nat) : Int), j4] [] h' Q) (k : Nat) (hk : k ≤ 8) : ∀ h' j4, Fr ScM h0 h' → CaM h' N k → JAt k0 (d + 2) jX12_hands 21 [vr 117, vi N, vi (pcN N k : Nat), vi k, j4] [] h' Q := by
  intro h' j4 f c1
  have w := f.wf w0
  have l1 := pcN_le N k
  have e0 := pcN_bt N k
  have l2 := bt_b N k
  have ec : csF N (k + 1) = if N.testBit k then fup (csF N k) (pcN N k) k else csF N k := rfl
  refine st_iload_n (q := 22) dX12_hands_21 rfl rfl ?_
  refine st_bipush (q := 24) dX12_hands_22 ⟨by decide, by decide⟩ rfl ?_
  refine st_icmp_ge (q := 27) (tgt := 51) dX12_hands_24 (by decide) rfl (fun c24 => ?_) (fun c24 => ?_)
  · refine st_iconst (q := 52) dX12_hands_51 ⟨by decide, by decide⟩ rfl ?_
    refine st_istore_n (q := 53) (i := 3) dX12_hands_52 rfl (by decide) rfl ?_
    have ek : k = 8 := by omega
    subst ek
    exact hK _ _ f c1
  · refine st_iload_n (q := 28) dX12_hands_27 rfl rfl ?_
    refine st_iload_n (q := 29) dX12_hands_28 rfl rfl ?_
    refine iS2i (q := 32) dX12_hands_29 rfl ml_X12_174 ms_X12_has (Nat.le_of_ble_eq_true rfl) ?_
    refine c_X12_has ?_
    refine j_top ((bt N k : Nat) : Int) (bt_has hN (by omega)) ?_
    refine st_if_eq (q := 35) (tgt := 45) dX12_hands_32 (by decide) rfl (fun c32 => ?_) (fun c32 => ?_)
    · first | refine n_iinc (q := 48) dX12_hands_45 rfl (by decide) rfl ⟨by omega, by omega⟩ ?_ | refine st_iinc (q := 48) dX12_hands_45 rfl (by decide) rfl ?_
      refine st_goto (q := 21) dX12_hands_48 (by decide) ?_
      have t := lp_hd21 w0 hN hK (k + 1) (by omega)
      first | (have zb : N.testBit k = true := (by by_cases z : N.testBit k = true; exact z; (have := bt_1.mpr z; exfalso; omega)); rw [if_pos zb] at ec; rw [show pcN N (k + 1) = pcN N k + 1 by omega] at t; refine t _ _ (f.sI _ (by unfold ScM; omega)) (fun i hi => ?_); rw [ec, show (((pcN N k : Nat) : Int)).toNat = pcN N k from rfl]; by_cases e : i = pcN N k; (subst e; rw [sI_s, fup_s]); (rw [sI_k _ e, fup_o _ e]; exact c1 i (by omega))) | (have zb : ¬ N.testBit k = true := bt_1.mp (by omega); rw [if_neg zb] at ec; rw [show pcN N (k + 1) = pcN N k by omega] at t; exact t _ _ f (fun i hi => by rw [ec]; exact c1 i (by omega)))
    · refine st_aload_n (q := 36) dX12_hands_35 rfl rfl ?_
      refine st_getR (q := 39) 12 34 dX12_hands_36 fl_X12_93 (by decide) (by decide) rfl rfl (wfk w rfl) (wfR w rfl) ?_
      refine st_iload_n (q := 40) dX12_hands_39 rfl rfl ?_
      refine st_iload_n (q := 41) dX12_hands_40 rfl rfl ?_
      refine st_iastore (q := 42) dX12_hands_41 rfl (wfk w rfl) (wfb w (n := 8) rfl ⟨by omega, by omega⟩) ?_
      first | refine n_iinc (q := 45) dX12_hands_42 rfl (by decide) rfl ⟨by omega, by omega⟩ ?_ | refine st_iinc (q := 45) dX12_hands_42 rfl (by decide) rfl ?_
      first | refine n_iinc (q := 48) dX12_hands_45 rfl (by decide) rfl ⟨by omega, by omega⟩ ?_ | refine st_iinc (q := 48) dX12_hands_45 rfl (by decide) rfl ?_
      refine st_goto (q := 21) dX12_hands_48 (by decide) ?_
      have t := lp_hd21 w0 hN hK (k + 1) (by omega)
      first | (have zb : N.testBit k = true := (by by_cases z : N.testBit k = true; exact z; (have := bt_1.mpr z; exfalso; omega)); rw [if_pos zb] at ec; rw [show pcN N (k + 1) = pcN N k + 1 by omega] at t; refine t _ _ (f.sI _ (by unfold ScM; omega)) (fun i hi => ?_); rw [ec, show (((pcN N k : Nat) : Int)).toNat = pcN N k from rfl]; by_cases e : i = pcN N k; (subst e; rw [sI_s, fup_s]); (rw [sI_k _ e, fup_o _ e]; exact c1 i (by omega))) | (have zb : ¬ N.testBit k = true := bt_1.mp (by omega); rw [if_neg zb] at ec; rw [show pcN N (k + 1) = pcN N k by omega] at t; exact t _ _ f (fun i hi => by rw [ec]; exact c1 i (by omega)))
termination_by 8 - k
theorem c_X12_hands {d : Nat} {h : JH} {P : Int → JH → Prop} {y : SY} (w : WF h) (m : SM h y) (o : yOk y) (p1 : 6 < pcN (yNm y y.1) 8 → P (-6) h) (hP : pcN (yNm y y.1) 8 ≤ 6 → ∀ C D h', R4P y (csF (yNm y y.1) 8) (pcN (yNm y y.1) 8) y.1 C → ChP 4 (pcN (yNm y y.1) 8) (pcN (yNm y y.1) 8) C D → FrM h h' → P (D 0) h') : JRi (d + 2) jX12_hands [vr 117] h P := by
  have hN := yNm_lt o y.1 (Nat.le_refl _)
  have e8 := pcN_8 hN
  generalize eN : yNm y y.1 = N at *
  refine JRet.of rfl (Nat.le_of_ble_eq_true rfl) ?_
  refine st_aload_n (q := 1) dX12_hands_0 rfl rfl ?_
  refine iV0i (q := 4) dX12_hands_1 rfl ml_X12_228 mv_X12_named (Nat.le_of_ble_eq_true rfl) (wfk w rfl) ?_
  refine c_X12_named w m o ?_
  rw [eN]
  refine st_istore_n (q := 5) (i := 1) dX12_hands_4 rfl (by decide) rfl ?_
  refine st_iload_n (q := 6) dX12_hands_5 rfl rfl ?_
  refine iS1i (q := 9) dX12_hands_6 rfl ml_X12_168 ms_X12_bits (Nat.le_of_ble_eq_true rfl) ?_
  refine c_X12_bits ?_
  refine j_top ((pcN N 8 : Nat) : Int) (by rw [bitsF_n (by omega) 16 (by omega), e8]) ?_
  refine st_bipush (q := 11) dX12_hands_9 ⟨by decide, by decide⟩ rfl ?_
  refine st_icmp_le (q := 14) (tgt := 17) dX12_hands_11 (by decide) rfl (fun c11 => ?_) (fun c11 => ?_)
  · refine st_iconst (q := 18) dX12_hands_17 ⟨by decide, by decide⟩ rfl ?_
    refine st_istore_n (q := 19) (i := 2) dX12_hands_18 rfl (by decide) rfl ?_
    refine st_iconst (q := 20) dX12_hands_19 ⟨by decide, by decide⟩ rfl ?_
    refine st_istore_n (q := 21) (i := 3) dX12_hands_20 rfl (by decide) rfl ?_
    exact lp_hd21 w hN (fun h2 j4 f2 c2 => lp_hd53 (f2.wf w) (by omega) (fun h3 j4 f3 b3 r3 => lp_hd86 ((f2.tr (f3.up scC_M)).wf w) (m.fr (f2.tr (f3.up scC_M))) o (by omega) rfl (c2.fr f3) (fun C D h4 r4 c4 f4 => hP (by omega) C D h4 r4 c4 ((f2.tr (f3.up scC_M)).tr (f4.up scC_M))) 0 (Nat.zero_le _) _ _ Fr.rf b3 r3) 0 (Nat.zero_le _) _ _ Fr.rf (fun x hx => absurd hx (by omega))) 0 (Nat.zero_le _) _ _ Fr.rf (fun i hi => absurd hi (by show ¬ i < 0; omega))
  · refine st_bipush (q := 16) dX12_hands_14 ⟨by decide, by decide⟩ rfl ?_
    refine rt_i dX12_hands_16 rfl ?_
    exact p1 (by omega)

