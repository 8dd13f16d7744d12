/-! the model: outlines that are apart -/
def apN (a b : Nat) : Nat := if pcN (a ^^^ b) 16 < pcN (a ^^^ tnN b 16) 16 then pcN (a ^^^ b) 16 else pcN (a ^^^ tnN b 16) 16
theorem apN_le (a b : Nat) : apN a b ≤ 16 := by
  have h1 := pcN_le (a ^^^ b) 16
  have h2 := pcN_le (a ^^^ tnN b 16) 16
  unfold apN
  split <;> omega
theorem xor16 {a b : Nat} (ha : a < 65536) (hb : b < 65536) : a ^^^ b < 65536 := Nat.xor_lt_two_pow (n := 16) ha hb
theorem c_X12_apartBy {d : Nat} {h : JH} {P : Int → JH → Prop} {a b : Nat} (ha : a < 65536) (hb : b < 65536) (hP : P (apN a b : Nat) h) : JRi (d + 2) jX12_apartBy [vi a, vi b] h P := by
  have t1 := tnN_lt b 16 (by omega)
  have x1 := xor16 ha hb
  have x2 := xor16 ha t1
  refine JRet.of rfl (Nat.le_of_ble_eq_true rfl) ?_
  refine st_iload_n (q := 1) dX12_apartBy_0 rfl rfl ?_
  refine st_iload_n (q := 2) dX12_apartBy_1 rfl rfl ?_
  refine st_ixor (q := 3) dX12_apartBy_2 rfl ?_
  rw [ixor_n (by omega) (by omega)]
  refine iS1i (q := 6) dX12_apartBy_3 rfl ml_X12_168 ms_X12_bits (Nat.le_of_ble_eq_true rfl) ?_
  refine c_X12_bits ?_
  rw [bitsF_n (by omega) 16 (by omega)]
  refine st_istore_n (q := 7) (i := 2) dX12_apartBy_6 rfl (by decide) rfl ?_
  refine st_iload_n (q := 8) dX12_apartBy_7 rfl rfl ?_
  refine st_iload_n (q := 9) dX12_apartBy_8 rfl rfl ?_
  refine iS1i (q := 12) dX12_apartBy_9 rfl ml_X12_178 ms_X12_turned (Nat.le_of_ble_eq_true rfl) ?_
  refine c_X12_turned hb ?_
  refine st_ixor (q := 13) dX12_apartBy_12 rfl ?_
  rw [ixor_n (by omega) (by omega)]
  refine iS1i (q := 16) dX12_apartBy_13 rfl ml_X12_168 ms_X12_bits (Nat.le_of_ble_eq_true rfl) ?_
  refine c_X12_bits ?_
  rw [bitsF_n (by omega) 16 (by omega)]
  refine st_istore_n (q := 17) (i := 3) dX12_apartBy_16 rfl (by decide) rfl ?_
  refine st_iload_n (q := 18) dX12_apartBy_17 rfl rfl ?_
  refine st_iload_n (q := 19) dX12_apartBy_18 rfl rfl ?_
  apply j_mg 27
  · intro K1 K2
    refine st_icmp_ge (q := 22) (tgt := 26) dX12_apartBy_19 (by decide) rfl (fun c19 => ?_) (fun c19 => ?_)
    · refine st_iload_n (q := 27) dX12_apartBy_26 rfl rfl ?_
      exact K1 c19
    · refine st_iload_n (q := 23) dX12_apartBy_22 rfl rfl ?_
      refine st_goto (q := 27) dX12_apartBy_23 (by decide) ?_
      exact K2 c19
  · simp only [jif_if]
    refine rt_i dX12_apartBy_27 rfl ?_
    refine pq hP ?_ rfl
    unfold apN
    (repeat' split) <;> omega
/-- hides: width, height, outline (0: missing) -/
abbrev HD : Type := Nat → Nat × Nat × Nat
def uW (u : HD) (k : Nat) : Nat := (u k).1
def uH (u : HD) (k : Nat) : Nat := (u k).2.1
def uO (u : HD) (k : Nat) : Nat := (u k).2.2
def uOk (u : HD) : Prop := ∀ k, k < 8 → uW u k ≤ 60 ∧ uH u k ≤ 60 ∧ uO u k < 65536
def HM (h : JH) (u : HD) : Prop := ∀ k, k < 8 → hI h 124 k = (uW u k : Nat) ∧ hI h 125 k = (uH u k : Nat) ∧ hI h 126 k = (uO u k : Nat)
theorem HM.fr {h h' : JH} {u : HD} (m : HM h u) (f : FrM h h') : HM h' u := fun k hk => ⟨(f.2.2 _ _ (by unfold ScM; omega)).trans (m k hk).1, (f.2.2 _ _ (by unfold ScM; omega)).trans (m k hk).2.1, (f.2.2 _ _ (by unfold ScM; omega)).trans (m k hk).2.2⟩
theorem c_X12_apart {d : Nat} {h : JH} {P : Int → JH → Prop} {u : HD} {k other : Int} (w : WF h) (m : HM h u) (o : uOk u) (h1 : ¬ ((0 ≤ k ∧ k ≤ 7) ∧ (0 ≤ other ∧ other ≤ 7)) → P (-1) h) (h2 : (0 ≤ k ∧ k ≤ 7) ∧ (0 ≤ other ∧ other ≤ 7) → (uO u k.toNat = 0 ∨ uO u other.toNat = 0) → P (-3) (mtH h 1)) (h3 : (0 ≤ k ∧ k ≤ 7) ∧ (0 ≤ other ∧ other ≤ 7) → uO u k.toNat ≠ 0 → uO u other.toNat ≠ 0 → P (apN (uO u k.toNat) (uO u other.toNat) : Nat) h) : JRi (d + 3) jX12_apart [vr 117, vi k, vi other] h P := by
  have q1 : 0 ≤ k ∧ k ≤ 7 → hI h 126 k.toNat = (uO u k.toNat : Nat) := fun q => (m k.toNat (by omega)).2.2
  have q2 : 0 ≤ other ∧ other ≤ 7 → hI h 126 other.toNat = (uO u other.toNat : Nat) := fun q => (m other.toNat (by omega)).2.2
  refine JRet.of rfl (Nat.le_of_ble_eq_true rfl) ?_
  refine st_iload_n (q := 1) dX12_apart_0 rfl rfl ?_
  refine iS1i (q := 4) dX12_apart_1 rfl ml_X12_161 ms_X12_isHide (Nat.le_of_ble_eq_true rfl) ?_
  refine c_X12_isHide ?_
  refine st_if_eq (q := 7) (tgt := 14) dX12_apart_4 (by decide) rfl (fun c4 => ?_) (fun c4 => ?_)
  · refine st_iconst (q := 15) dX12_apart_14 ⟨by decide, by decide⟩ rfl ?_
    refine rt_i dX12_apart_15 rfl ?_
    first | exact h1 (by omega) | exact h2 (by omega) (by omega) | exact h3 (by omega) (by omega) (by omega)
  · refine st_iload_n (q := 8) dX12_apart_7 rfl rfl ?_
    refine iS1i (q := 11) dX12_apart_8 rfl ml_X12_161 ms_X12_isHide (Nat.le_of_ble_eq_true rfl) ?_
    refine c_X12_isHide ?_
    refine st_if_ne (q := 14) (tgt := 16) dX12_apart_11 (by decide) rfl (fun c11 => ?_) (fun c11 => ?_)
    · refine st_aload_n (q := 17) dX12_apart_16 rfl rfl ?_
      refine st_iload_n (q := 18) dX12_apart_17 rfl rfl ?_
      refine iV1i (q := 21) dX12_apart_18 rfl ml_X12_164 mv_X12_isThere (Nat.le_of_ble_eq_true rfl) (wfk w rfl) ?_
      refine c_X12_isThere w (by omega) ?_
      refine st_if_eq (q := 24) (tgt := 32) dX12_apart_21 (by decide) rfl (fun c21 => ?_) (fun c21 => ?_)
      · refine st_aload_n (q := 33) dX12_apart_32 rfl rfl ?_
        refine st_iconst (q := 34) dX12_apart_33 ⟨by decide, by decide⟩ rfl ?_
        refine iV1i (q := 37) dX12_apart_34 rfl ml_X12_138 mv_X12_meets (Nat.le_of_ble_eq_true rfl) (wfk w rfl) ?_
        refine c_X12_meets w (by decide) ?_
        refine st_goto (q := 55) dX12_apart_37 (by decide) ?_
        refine rt_i dX12_apart_55 rfl ?_
        first | exact h1 (by omega) | exact h2 (by omega) (by omega) | exact h3 (by omega) (by omega) (by omega)
      · refine st_aload_n (q := 25) dX12_apart_24 rfl rfl ?_
        refine st_iload_n (q := 26) dX12_apart_25 rfl rfl ?_
        refine iV1i (q := 29) dX12_apart_26 rfl ml_X12_164 mv_X12_isThere (Nat.le_of_ble_eq_true rfl) (wfk w rfl) ?_
        refine c_X12_isThere w (by omega) ?_
        refine st_if_ne (q := 32) (tgt := 40) dX12_apart_29 (by decide) rfl (fun c29 => ?_) (fun c29 => ?_)
        · refine st_aload_n (q := 41) dX12_apart_40 rfl rfl ?_
          refine st_getR (q := 44) 12 12 dX12_apart_41 fl_X12_38 (by decide) (by decide) rfl rfl (wfk w rfl) (wfR w rfl) ?_
          refine st_iload_n (q := 45) dX12_apart_44 rfl rfl ?_
          refine st_iaload (q := 46) dX12_apart_45 rfl (wfk w rfl) (wfb w (n := 8) rfl ⟨by omega, by omega⟩) ?_
          refine st_aload_n (q := 47) dX12_apart_46 rfl rfl ?_
          refine st_getR (q := 50) 12 12 dX12_apart_47 fl_X12_38 (by decide) (by decide) rfl rfl (wfk w rfl) (wfR w rfl) ?_
          refine st_iload_n (q := 51) dX12_apart_50 rfl rfl ?_
          refine st_iaload (q := 52) dX12_apart_51 rfl (wfk w rfl) (wfb w (n := 8) rfl ⟨by omega, by omega⟩) ?_
          refine iS2i (q := 55) dX12_apart_52 rfl ml_X12_292 ms_X12_apartBy (Nat.le_of_ble_eq_true rfl) ?_
          rw [q1 (by omega), q2 (by omega)]
          refine c_X12_apartBy (o k.toNat (by omega)).2.2 (o other.toNat (by omega)).2.2 ?_
          refine rt_i dX12_apart_55 rfl ?_
          first | exact h1 (by omega) | exact h2 (by omega) (by omega) | exact h3 (by omega) (by omega) (by omega)
        · refine st_aload_n (q := 33) dX12_apart_32 rfl rfl ?_
          refine st_iconst (q := 34) dX12_apart_33 ⟨by decide, by decide⟩ rfl ?_
          refine iV1i (q := 37) dX12_apart_34 rfl ml_X12_138 mv_X12_meets (Nat.le_of_ble_eq_true rfl) (wfk w rfl) ?_
          refine c_X12_meets w (by decide) ?_
          refine st_goto (q := 55) dX12_apart_37 (by decide) ?_
          refine rt_i dX12_apart_55 rfl ?_
          first | exact h1 (by omega) | exact h2 (by omega) (by omega) | exact h3 (by omega) (by omega) (by omega)
    · refine st_iconst (q := 15) dX12_apart_14 ⟨by decide, by decide⟩ rfl ?_
      refine rt_i dX12_apart_15 rfl ?_
      first | exact h1 (by omega) | exact h2 (by omega) (by omega) | exact h3 (by omega) (by omega) (by omega)
/-- the nearest pair: how far, and which, over pairs (i, j) with j from .. on -/
def lsS (u : HD) (i j : Nat) (st : Int × Int) : Int × Int := if uO u i ≠ 0 ∧ uO u j ≠ 0 ∧ (st.1 < 0 ∨ (apN (uO u i) (uO u j) : Int) < st.1) then ((apN (uO u i) (uO u j) : Int), ((10 * i + j : Nat) : Int)) else st
def lsJ (u : HD) (i : Nat) : Nat → Nat → Int × Int → Int × Int
  | 0, _, st => st
  | m + 1, j, st => lsJ u i m (j + 1) (lsS u i j st)
def lsI (u : HD) : Nat → Nat → Int × Int → Int × Int
  | 0, _, st => st
  | m + 1, i, st => lsI u m (i + 1) (lsJ u i (7 - i) (i + 1) st)
def lsN (u : HD) (p : Int) : Int × Int := lsI u 8 0 (-9, p)
def lsR (st : Int × Int) : Prop := -9 ≤ st.1 ∧ st.1 ≤ 16
theorem lsS_r {u : HD} {i j : Nat} {st : Int × Int} (h : lsR st) : lsR (lsS u i j st) := by
  have := apN_le (uO u i) (uO u j)
  unfold lsS
  split
  · exact ⟨by show -9 ≤ (apN (uO u i) (uO u j) : Int); omega, by show (apN (uO u i) (uO u j) : Int) ≤ 16; omega⟩
  · exact h
theorem scM_46 : ScM 117 46 := by unfold ScM; omega

