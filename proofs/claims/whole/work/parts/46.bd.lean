/-! outlines turned round -/
def tr1 (x : Nat) : Nat := (x &&& 21845) * 2 ||| (x / 2 &&& 21845)
def tr2 (x : Nat) : Nat := (x &&& 13107) * 4 ||| (x / 4 &&& 13107)
/-- the place of a cell when the row is turned -/
def sg4 (i : Nat) : Nat := i / 4 * 4 + 3 - i % 4
theorem tn_tb (o i : Nat) : ∀ c, (tnN o c).testBit i = (decide (sg4 i < c) && o.testBit (sg4 i))
  | 0 => by simp [tnN]
  | c + 1 => by
    show (tnN o c ||| (if o.testBit c then 2 ^ sg4 c else 0)).testBit i = _
    rw [Nat.testBit_or, tn_tb o i c]
    have e : sg4 c = i ↔ c = sg4 i := by unfold sg4; omega
    by_cases z : c = sg4 i
    · rw [← z]
      cases hb : o.testBit c
      · simp
      · rw [if_pos rfl, Nat.testBit_two_pow, e.mpr z]; simp
    · have z2 : ¬ sg4 c = i := fun t => z (e.mp t)
      have z3 : decide (sg4 i < c + 1) = decide (sg4 i < c) := by
        by_cases t : sg4 i < c
        · rw [decide_eq_true t, decide_eq_true (by omega)]
        · rw [decide_eq_false t, decide_eq_false (by omega)]
      rw [z3]
      cases o.testBit c
      · simp
      · rw [if_pos rfl, Nat.testBit_two_pow, decide_eq_false z2]; simp
theorem tb_hi {x i : Nat} (hx : x < 65536) (hi : 16 ≤ i) : x.testBit i = false := Nat.testBit_lt_two_pow (Nat.lt_of_lt_of_le hx (show 2 ^ 16 ≤ 2 ^ i from Nat.pow_le_pow_right (by decide) hi))
theorem m5b : ∀ i, i < 17 → (21845 : Nat).testBit i = decide (i % 2 = 0 ∧ i < 16) := by decide +kernel
theorem m3b : ∀ i, i < 19 → (13107 : Nat).testBit i = decide (i % 4 < 2 ∧ i < 16) := by decide +kernel
theorem tr1_tb {x i : Nat} (hi : i < 16) : (tr1 x).testBit i = x.testBit (if i % 2 = 0 then i + 1 else i - 1) := by
  unfold tr1
  rw [show (x &&& 21845) * 2 = (x &&& 21845) * 2 ^ 1 from rfl, Nat.testBit_or, Nat.testBit_mul_two_pow, Nat.testBit_and, Nat.testBit_and, Nat.testBit_div_two, m5b i (by omega), m5b (i - 1) (by omega)]
  by_cases z : i % 2 = 0
  · rw [if_pos z, decide_eq_true (show i % 2 = 0 ∧ i < 16 by omega)]
    by_cases z0 : i = 0
    · subst z0; simp
    · rw [decide_eq_false (show ¬ ((i - 1) % 2 = 0 ∧ i - 1 < 16) by omega)]; simp
  · rw [if_neg z, decide_eq_false (show ¬ (i % 2 = 0 ∧ i < 16) by omega), decide_eq_true (show (i - 1) % 2 = 0 ∧ i - 1 < 16 by omega), decide_eq_true (show 1 ≤ i by omega)]; simp
theorem tr2_tb {x i : Nat} (hi : i < 16) : (tr2 x).testBit i = x.testBit (if i % 4 < 2 then i + 2 else i - 2) := by
  unfold tr2
  rw [show (x &&& 13107) * 4 = (x &&& 13107) * 2 ^ 2 from rfl, show x / 4 = x / 2 ^ 2 from rfl, Nat.testBit_or, Nat.testBit_mul_two_pow, Nat.testBit_and, Nat.testBit_and, Nat.testBit_div_two_pow, m3b i (by omega), m3b (i - 2) (by omega)]
  by_cases z : i % 4 < 2
  · rw [if_pos z, decide_eq_true (show i % 4 < 2 ∧ i < 16 by omega)]
    by_cases z0 : 2 ≤ i
    · rw [decide_eq_false (show ¬ ((i - 2) % 4 < 2 ∧ i - 2 < 16) by omega)]; simp
    · rw [decide_eq_false z0]; simp
  · rw [if_neg z, decide_eq_false (show ¬ (i % 4 < 2 ∧ i < 16) by omega), decide_eq_true (show (i - 2) % 4 < 2 ∧ i - 2 < 16 by omega), decide_eq_true (show 2 ≤ i by omega)]; simp
theorem tr_tn {x : Nat} (hx : x < 65536) : tr2 (tr1 x) = tnN x 16 := by
  have b2 : ∀ n, tr2 n < 65536 := fun n => by
    have q3 : (n &&& 13107) ≤ 13107 := Nat.and_le_right
    have q4 : (n / 4 &&& 13107) ≤ 13107 := Nat.and_le_right
    exact Nat.or_lt_two_pow (n := 16) (by omega) (by omega)
  apply Nat.eq_of_testBit_eq
  intro i
  by_cases hi : i < 16
  · rw [tn_tb, tr2_tb hi]
    have hj : (if i % 4 < 2 then i + 2 else i - 2) < 16 := by split <;> omega
    rw [tr1_tb hj, decide_eq_true (show sg4 i < 16 by unfold sg4; omega), Bool.true_and]
    congr 1
    unfold sg4
    split <;> split <;> omega
  · rw [tb_hi (b2 _) (by omega), tb_hi (tnN_lt x 16 (by omega)) (by omega)]
theorem c_X2_turned {d : Nat} {h : JH} {P : Int → JH → Prop} {x : Nat} (hx : x < 65536) (hP : P (tnN x 16 : Nat) h) : JRi d jX2_turned [vi x] h P := by
  have q1 : (x &&& 21845) ≤ 21845 := Nat.and_le_right
  have q2 : (x / 2 &&& 21845) ≤ 21845 := Nat.and_le_right
  have b1 : tr1 x < 65536 := Nat.or_lt_two_pow (n := 16) (by omega) (by omega)
  have q3 : (tr1 x &&& 13107) ≤ 13107 := Nat.and_le_right
  have q4 : (tr1 x / 4 &&& 13107) ≤ 13107 := Nat.and_le_right
  refine JRet.of rfl (Nat.le_of_ble_eq_true rfl) ?_
  refine st_iload_n (q := 1) dX2_turned_0 rfl rfl ?_
  refine st_sipush (q := 4) dX2_turned_1 ⟨by decide, by decide⟩ rfl ?_
  refine st_iand (q := 5) dX2_turned_4 rfl ?_
  refine j_top ((x &&& 21845 : Nat) : Int) (iand_n (by omega)) ?_
  refine st_iconst (q := 6) dX2_turned_5 ⟨by decide, by decide⟩ rfl ?_
  refine st_ishl (q := 7) dX2_turned_6 rfl ?_
  refine j_top (((x &&& 21845) * 2 : Nat) : Int) (ishl_n (k := 1) (by decide) (by omega)) ?_
  refine st_iload_n (q := 8) dX2_turned_7 rfl rfl ?_
  refine st_iconst (q := 9) dX2_turned_8 ⟨by decide, by decide⟩ rfl ?_
  refine st_ishr (q := 10) dX2_turned_9 rfl ?_
  refine j_top ((x / 2 : Nat) : Int) (ishr_n (k := 1) (by omega) (by decide)) ?_
  refine st_sipush (q := 13) dX2_turned_10 ⟨by decide, by decide⟩ rfl ?_
  refine st_iand (q := 14) dX2_turned_13 rfl ?_
  refine j_top ((x / 2 &&& 21845 : Nat) : Int) (iand_n (by omega)) ?_
  refine st_ior (q := 15) dX2_turned_14 rfl ?_
  refine j_top ((tr1 x : Nat) : Int) (ior_n (by omega) (by omega)) ?_
  refine st_istore_n (q := 16) (i := 1) dX2_turned_15 rfl (by decide) rfl ?_
  refine st_iload_n (q := 17) dX2_turned_16 rfl rfl ?_
  refine st_sipush (q := 20) dX2_turned_17 ⟨by decide, by decide⟩ rfl ?_
  refine st_iand (q := 21) dX2_turned_20 rfl ?_
  refine j_top ((tr1 x &&& 13107 : Nat) : Int) (iand_n (by omega)) ?_
  refine st_iconst (q := 22) dX2_turned_21 ⟨by decide, by decide⟩ rfl ?_
  refine st_ishl (q := 23) dX2_turned_22 rfl ?_
  refine j_top (((tr1 x &&& 13107) * 4 : Nat) : Int) (ishl_n (k := 2) (by decide) (by omega)) ?_
  refine st_iload_n (q := 24) dX2_turned_23 rfl rfl ?_
  refine st_iconst (q := 25) dX2_turned_24 ⟨by decide, by decide⟩ rfl ?_
  refine st_ishr (q := 26) dX2_turned_25 rfl ?_
  refine j_top ((tr1 x / 4 : Nat) : Int) (ishr_n (k := 2) (by omega) (by decide)) ?_
  refine st_sipush (q := 29) dX2_turned_26 ⟨by decide, by decide⟩ rfl ?_
  refine st_iand (q := 30) dX2_turned_29 rfl ?_
  refine j_top ((tr1 x / 4 &&& 13107 : Nat) : Int) (iand_n (by omega)) ?_
  refine st_ior (q := 31) dX2_turned_30 rfl ?_
  refine j_top ((tnN x 16 : Nat) : Int) (by rw [← tr_tn hx]; exact ior_n (by omega) (by omega)) ?_
  refine rt_i dX2_turned_31 rfl ?_
  exact hP
theorem sg4_sg (i : Nat) : sg4 (sg4 i) = i := by unfold sg4; omega
theorem sg4_16 {i : Nat} : sg4 i < 16 ↔ i < 16 := by unfold sg4; omega
/-- to turn one side is to turn the other -/
theorem tn_xor {a b : Nat} (ha : a < 65536) (hb : b < 65536) : tnN a 16 ^^^ b = tnN (a ^^^ tnN b 16) 16 := by
  apply Nat.eq_of_testBit_eq
  intro i
  rw [Nat.testBit_xor, tn_tb, tn_tb, Nat.testBit_xor, tn_tb, sg4_sg]
  by_cases hi : i < 16
  · rw [decide_eq_true (sg4_16.mpr hi), decide_eq_true hi]; simp
  · rw [decide_eq_false (fun z => hi (sg4_16.mp z)), tb_hi hb (by omega)]; simp
theorem pc_tn (z : Nat) : pcN (tnN z 16) 16 = pcN z 16 := by
  simp only [pcN, tn_tb]
  simp only [sg4, Nat.reduceDiv, Nat.reduceMul, Nat.reduceAdd, Nat.reduceMod, Nat.reduceSub, Nat.reduceLT, decide_true, Bool.true_and]
  generalize (if z.testBit 0 = true then 1 else 0) = x0
  generalize (if z.testBit 1 = true then 1 else 0) = x1
  generalize (if z.testBit 2 = true then 1 else 0) = x2
  generalize (if z.testBit 3 = true then 1 else 0) = x3
  generalize (if z.testBit 4 = true then 1 else 0) = x4
  generalize (if z.testBit 5 = true then 1 else 0) = x5
  generalize (if z.testBit 6 = true then 1 else 0) = x6
  generalize (if z.testBit 7 = true then 1 else 0) = x7
  generalize (if z.testBit 8 = true then 1 else 0) = x8
  generalize (if z.testBit 9 = true then 1 else 0) = x9
  generalize (if z.testBit 10 = true then 1 else 0) = x10
  generalize (if z.testBit 11 = true then 1 else 0) = x11
  generalize (if z.testBit 12 = true then 1 else 0) = x12
  generalize (if z.testBit 13 = true then 1 else 0) = x13
  generalize (if z.testBit 14 = true then 1 else 0) = x14
  generalize (if z.testBit 15 = true then 1 else 0) = x15
  omega
theorem pc_tx {a b : Nat} (ha : a < 65536) (hb : b < 65536) : pcN (tnN a 16 ^^^ b) 16 = pcN (a ^^^ tnN b 16) 16 := by rw [tn_xor ha hb, pc_tn]
theorem c_X2_between {d : Nat} {h : JH} {P : Int → JH → Prop} {a b : Nat} (ha : a < 65536) (hb : b < 65536) (hP : P (apN a b : Nat) h) : JRi (d + 1) jX2_between [vi a, vi b] h P := by
  have t1 := tnN_lt a 16 (by omega)
  have x1 := xor16 ha hb
  have x2 := xor16 t1 hb
  have e := pc_tx ha hb
  refine JRet.of rfl (Nat.le_of_ble_eq_true rfl) ?_
  refine st_iload_n (q := 1) dX2_between_0 rfl rfl ?_
  refine st_iload_n (q := 2) dX2_between_1 rfl rfl ?_
  refine st_ixor (q := 3) dX2_between_2 rfl ?_
  rw [ixor_n (by omega) (by omega)]
  refine iS1i (q := 6) dX2_between_3 rfl ml_X2_27 ms_J6_bitCount_0f7a4 (Nat.le_of_ble_eq_true rfl) ?_
  refine c_bitCount (by omega) ?_
  refine st_iload_n (q := 7) dX2_between_6 rfl rfl ?_
  refine iS1i (q := 10) dX2_between_7 rfl ml_X2_23 ms_X2_turned (Nat.le_of_ble_eq_true rfl) ?_
  refine c_X2_turned ha ?_
  refine st_iload_n (q := 11) dX2_between_10 rfl rfl ?_
  refine st_ixor (q := 12) dX2_between_11 rfl ?_
  rw [ixor_n (by omega) (by omega)]
  refine iS1i (q := 15) dX2_between_12 rfl ml_X2_27 ms_J6_bitCount_0f7a4 (Nat.le_of_ble_eq_true rfl) ?_
  refine c_bitCount (by omega) ?_
  refine st_mmin (q := 18) dX2_between_15 rfl ml_X2_32 (Nat.le_of_ble_eq_true rfl) ?_
  refine rt_i dX2_between_18 rfl ?_
  refine pq hP ?_ rfl
  rw [e]
  unfold apN
  (repeat' split) <;> omega

