/-! the JDK's small methods; outlines turned round; counts of bits -/
theorem us31 : ∀ k, k < 32 → (((nI k).toUInt32 &&& Int32.toUInt32 31).toBitVec % 32).toNat = k := by decide +kernel
theorem iushr_n {a k : Nat} (h : a < 2147483648) (hk : k < 32) : iushr a k = ((a / 2 ^ k : Nat) : Int) := by
  unfold iushr
  rw [oi_nat, oi_nat, pk_ushrN (by omega) (nI k) k (us31 k hk), ti_nat (Nat.lt_of_le_of_lt (Nat.div_le_self _ _) h)]
theorem c_J9_min {d : Nat} {h : JH} {P : Int → JH → Prop} {a b : Int} (hP : P (if a ≤ b then a else b) h) : JRi d jJ9_min_7cf53 [vi a, vi b] h P := by
  refine JRet.of rfl (Nat.le_of_ble_eq_true rfl) ?_
  refine st_iload_n (q := 1) dJ9_min_7cf53_0 rfl rfl ?_
  refine st_iload_n (q := 2) dJ9_min_7cf53_1 rfl rfl ?_
  refine st_icmp_gt (q := 5) (tgt := 9) dJ9_min_7cf53_2 (by decide) rfl (fun c2 => ?_) (fun c2 => ?_)
  · refine st_iload_n (q := 10) dJ9_min_7cf53_9 rfl rfl ?_
    refine rt_i dJ9_min_7cf53_10 rfl ?_
    exact pq hP (by (repeat' split) <;> omega) rfl
  · refine st_iload_n (q := 6) dJ9_min_7cf53_5 rfl rfl ?_
    refine st_goto (q := 10) dJ9_min_7cf53_6 (by decide) ?_
    refine rt_i dJ9_min_7cf53_10 rfl ?_
    exact pq hP (by (repeat' split) <;> omega) rfl
theorem c_J9_max {d : Nat} {h : JH} {P : Int → JH → Prop} {a b : Int} (hP : P (if b ≤ a then a else b) h) : JRi d jJ9_max_7cf53 [vi a, vi b] h P := by
  refine JRet.of rfl (Nat.le_of_ble_eq_true rfl) ?_
  refine st_iload_n (q := 1) dJ9_max_7cf53_0 rfl rfl ?_
  refine st_iload_n (q := 2) dJ9_max_7cf53_1 rfl rfl ?_
  refine st_icmp_lt (q := 5) (tgt := 9) dJ9_max_7cf53_2 (by decide) rfl (fun c2 => ?_) (fun c2 => ?_)
  · refine st_iload_n (q := 10) dJ9_max_7cf53_9 rfl rfl ?_
    refine rt_i dJ9_max_7cf53_10 rfl ?_
    exact pq hP (by (repeat' split) <;> omega) rfl
  · refine st_iload_n (q := 6) dJ9_max_7cf53_5 rfl rfl ?_
    refine st_goto (q := 10) dJ9_max_7cf53_6 (by decide) ?_
    refine rt_i dJ9_max_7cf53_10 rfl ?_
    exact pq hP (by (repeat' split) <;> omega) rfl
theorem c_J9_abs {d : Nat} {h : JH} {P : Int → JH → Prop} {v : Int} (hv : -2147483648 < v ∧ v < 2147483648) (hP : P (if v < 0 then -v else v) h) : JRi d jJ9_abs_0f7a4 [vi v] h P := by
  refine JRet.of rfl (Nat.le_of_ble_eq_true rfl) ?_
  refine st_iload_n (q := 1) dJ9_abs_0f7a4_0 rfl rfl ?_
  refine st_if_ge (q := 4) (tgt := 9) dJ9_abs_0f7a4_1 (by decide) rfl (fun c1 => ?_) (fun c1 => ?_)
  · refine st_iload_n (q := 10) dJ9_abs_0f7a4_9 rfl rfl ?_
    refine rt_i dJ9_abs_0f7a4_10 rfl ?_
    refine pq hP ?_ rfl
    first | (rw [w32_id ⟨by omega, by omega⟩]; (repeat' split) <;> omega) | ((repeat' split) <;> omega)
  · refine st_iload_n (q := 5) dJ9_abs_0f7a4_4 rfl rfl ?_
    refine st_ineg (q := 6) dJ9_abs_0f7a4_5 rfl ?_
    refine st_goto (q := 10) dJ9_abs_0f7a4_6 (by decide) ?_
    refine rt_i dJ9_abs_0f7a4_10 rfl ?_
    refine pq hP ?_ rfl
    first | (rw [w32_id ⟨by omega, by omega⟩]; (repeat' split) <;> omega) | ((repeat' split) <;> omega)
theorem c_J9_absl {d : Nat} {h : JH} {P : Int → JH → Prop} {v : Int} (hv : -1000000 < v ∧ v < 1000000) (hP : P (v.natAbs : Int) h) : JRl d jJ9_abs_067f4 [vl v] h P := by
  refine JRet.of rfl (Nat.le_of_ble_eq_true rfl) ?_
  refine st_lload_n (q := 1) dJ9_abs_067f4_0 rfl rfl ?_
  refine st_lconst (q := 2) (x := 0) dJ9_abs_067f4_1 ⟨by decide, by decide, by decide⟩ rfl ?_
  refine st_lif_ge (p2 := 3) (q := 6) (tgt := 11) dJ9_abs_067f4_2 rfl dJ9_abs_067f4_3 (by decide) rfl (fun c3 => ?_) (fun c3 => ?_)
  · refine st_lload_n (q := 12) dJ9_abs_067f4_11 rfl rfl ?_
    refine rt_l dJ9_abs_067f4_12 rfl ?_
    refine pq hP ?_ rfl
    first | (rw [w64_id ⟨by omega, by omega⟩]; omega) | omega
  · refine st_lload_n (q := 7) dJ9_abs_067f4_6 rfl rfl ?_
    refine st_lneg (q := 8) dJ9_abs_067f4_7 rfl ?_
    refine st_goto (q := 12) dJ9_abs_067f4_8 (by decide) ?_
    refine rt_l dJ9_abs_067f4_12 rfl ?_
    refine pq hP ?_ rfl
    first | (rw [w64_id ⟨by omega, by omega⟩]; omega) | omega
def bc1 (x : Nat) : Nat := x - (x / 2 &&& 1431655765)
def bc2 (x : Nat) : Nat := (bc1 x &&& 858993459) + (bc1 x / 4 &&& 858993459)
def bc3 (x : Nat) : Nat := (bc2 x + bc2 x / 16) &&& 252645135
def bc4 (x : Nat) : Nat := bc3 x + bc3 x / 256
def bc5 (x : Nat) : Nat := bc4 x + bc4 x / 65536
def pcs (x : Nat) : Nat := x % 2 + x / 2 % 2 + x / 4 % 2 + x / 8 % 2 + x / 16 % 2 + x / 32 % 2 + x / 64 % 2 + x / 128 % 2 + x / 256 % 2 + x / 512 % 2 + x / 1024 % 2 + x / 2048 % 2 + x / 4096 % 2 + x / 8192 % 2 + x / 16384 % 2 + x / 32768 % 2
theorem bc_pcs : ∀ a, a < 256 → ∀ b, b < 256 → bc5 (a + 256 * b) &&& 63 = pcs (a + 256 * b) := by decide +kernel
theorem tbn (x i : Nat) : (if x.testBit i then 1 else 0) = x / 2 ^ i % 2 := by
  rw [Nat.testBit_eq_decide_div_mod_eq]
  have : x / 2 ^ i % 2 < 2 := Nat.mod_lt _ (by omega)
  by_cases q : x / 2 ^ i % 2 = 1
  · simp [q]
  · have q0 : x / 2 ^ i % 2 = 0 := by omega
    simp [q0]
theorem pcN_s (x k : Nat) : pcN x (k + 1) = pcN x k + x / 2 ^ k % 2 := by
  rw [← tbn]; rfl
theorem pcs_pc (x : Nat) : pcs x = pcN x 16 := by
  rw [pcN_s, pcN_s, pcN_s, pcN_s, pcN_s, pcN_s, pcN_s, pcN_s, pcN_s, pcN_s, pcN_s, pcN_s, pcN_s, pcN_s, pcN_s, pcN_s]
  unfold pcs
  rw [show pcN x 0 = 0 from rfl, Nat.zero_add, Nat.pow_zero, Nat.div_one]
theorem bc_pc {x : Nat} (hx : x < 65536) : bc5 x &&& 63 = pcN x 16 := by
  have := bc_pcs (x % 256) (Nat.mod_lt _ (by omega)) (x / 256) (by omega)
  rw [show x % 256 + 256 * (x / 256) = x by omega, pcs_pc] at this
  exact this
theorem c_bitCount {d : Nat} {h : JH} {P : Int → JH → Prop} {x : Nat} (hx : x < 65536) (hP : P (pcN x 16 : Nat) h) : JRi d jJ6_bitCount_0f7a4 [vi x] h P := by
  have q1 : (x / 2 &&& 1431655765) ≤ x / 2 := Nat.and_le_left
  have e1 : (x : Int) - ((x / 2 &&& 1431655765 : Nat) : Int) = ((bc1 x : Nat) : Int) := by unfold bc1; omega
  have b1 : bc1 x < 65536 := by unfold bc1; omega
  have q2 : (bc1 x &&& 858993459) ≤ bc1 x := Nat.and_le_left
  have q3 : (bc1 x / 4 &&& 858993459) ≤ bc1 x / 4 := Nat.and_le_left
  have e2 : ((bc1 x &&& 858993459 : Nat) : Int) + ((bc1 x / 4 &&& 858993459 : Nat) : Int) = ((bc2 x : Nat) : Int) := by unfold bc2; omega
  have b2 : bc2 x < 131072 := by unfold bc2; omega
  have e3 : ((bc2 x : Nat) : Int) + ((bc2 x / 16 : Nat) : Int) = ((bc2 x + bc2 x / 16 : Nat) : Int) := by omega
  have b3 : bc3 x ≤ bc2 x + bc2 x / 16 := Nat.and_le_left
  have e4 : ((bc3 x : Nat) : Int) + ((bc3 x / 256 : Nat) : Int) = ((bc4 x : Nat) : Int) := by unfold bc4; omega
  have b4 : bc4 x < 400000 := by unfold bc4; omega
  have e5 : ((bc4 x : Nat) : Int) + ((bc4 x / 65536 : Nat) : Int) = ((bc5 x : Nat) : Int) := by unfold bc5; omega
  have b5 : bc5 x < 800000 := by unfold bc5; omega
  refine JRet.of rfl (Nat.le_of_ble_eq_true rfl) ?_
  refine st_iload_n (q := 1) dJ6_bitCount_0f7a4_0 rfl rfl ?_
  refine st_iload_n (q := 2) dJ6_bitCount_0f7a4_1 rfl rfl ?_
  refine st_iconst (q := 3) dJ6_bitCount_0f7a4_2 ⟨by decide, by decide⟩ rfl ?_
  refine st_iushr (q := 4) dJ6_bitCount_0f7a4_3 rfl ?_
  refine j_top ((x / 2 : Nat) : Int) (iushr_n (k := 1) (by omega) (by decide)) ?_
  refine st_ldc_w (q := 7) (x := 1431655765) dJ6_bitCount_0f7a4_4 ⟨by decide, by decide⟩ co_J6_265 rfl ?_
  refine st_iand (q := 8) dJ6_bitCount_0f7a4_7 rfl ?_
  refine j_top ((x / 2 &&& 1431655765 : Nat) : Int) (iand_n (by omega)) ?_
  first | refine n_isub (q := 9) dJ6_bitCount_0f7a4_8 rfl ⟨by omega, by omega⟩ ?_ | refine st_isub (q := 9) dJ6_bitCount_0f7a4_8 rfl ?_
  refine j_top _ e1 ?_
  refine st_istore_n (q := 10) (i := 0) dJ6_bitCount_0f7a4_9 rfl (by decide) rfl ?_
  refine st_iload_n (q := 11) dJ6_bitCount_0f7a4_10 rfl rfl ?_
  refine st_ldc_w (q := 14) (x := 858993459) dJ6_bitCount_0f7a4_11 ⟨by decide, by decide⟩ co_J6_266 rfl ?_
  refine st_iand (q := 15) dJ6_bitCount_0f7a4_14 rfl ?_
  refine j_top ((bc1 x &&& 858993459 : Nat) : Int) (iand_n (by omega)) ?_
  refine st_iload_n (q := 16) dJ6_bitCount_0f7a4_15 rfl rfl ?_
  refine st_iconst (q := 17) dJ6_bitCount_0f7a4_16 ⟨by decide, by decide⟩ rfl ?_
  refine st_iushr (q := 18) dJ6_bitCount_0f7a4_17 rfl ?_
  refine j_top ((bc1 x / 4 : Nat) : Int) (iushr_n (k := 2) (by omega) (by decide)) ?_
  refine st_ldc_w (q := 21) (x := 858993459) dJ6_bitCount_0f7a4_18 ⟨by decide, by decide⟩ co_J6_266 rfl ?_
  refine st_iand (q := 22) dJ6_bitCount_0f7a4_21 rfl ?_
  refine j_top ((bc1 x / 4 &&& 858993459 : Nat) : Int) (iand_n (by omega)) ?_
  first | refine n_iadd (q := 23) dJ6_bitCount_0f7a4_22 rfl ⟨by omega, by omega⟩ ?_ | refine st_iadd (q := 23) dJ6_bitCount_0f7a4_22 rfl ?_
  refine j_top _ e2 ?_
  refine st_istore_n (q := 24) (i := 0) dJ6_bitCount_0f7a4_23 rfl (by decide) rfl ?_
  refine st_iload_n (q := 25) dJ6_bitCount_0f7a4_24 rfl rfl ?_
  refine st_iload_n (q := 26) dJ6_bitCount_0f7a4_25 rfl rfl ?_
  refine st_iconst (q := 27) dJ6_bitCount_0f7a4_26 ⟨by decide, by decide⟩ rfl ?_
  refine st_iushr (q := 28) dJ6_bitCount_0f7a4_27 rfl ?_
  refine j_top ((bc2 x / 16 : Nat) : Int) (iushr_n (k := 4) (by omega) (by decide)) ?_
  first | refine n_iadd (q := 29) dJ6_bitCount_0f7a4_28 rfl ⟨by omega, by omega⟩ ?_ | refine st_iadd (q := 29) dJ6_bitCount_0f7a4_28 rfl ?_
  refine j_top _ e3 ?_
  refine st_ldc_w (q := 32) (x := 252645135) dJ6_bitCount_0f7a4_29 ⟨by decide, by decide⟩ co_J6_267 rfl ?_
  refine st_iand (q := 33) dJ6_bitCount_0f7a4_32 rfl ?_
  refine j_top ((bc3 x : Nat) : Int) (iand_n (by omega)) ?_
  refine st_istore_n (q := 34) (i := 0) dJ6_bitCount_0f7a4_33 rfl (by decide) rfl ?_
  refine st_iload_n (q := 35) dJ6_bitCount_0f7a4_34 rfl rfl ?_
  refine st_iload_n (q := 36) dJ6_bitCount_0f7a4_35 rfl rfl ?_
  refine st_bipush (q := 38) dJ6_bitCount_0f7a4_36 ⟨by decide, by decide⟩ rfl ?_
  refine st_iushr (q := 39) dJ6_bitCount_0f7a4_38 rfl ?_
  refine j_top ((bc3 x / 256 : Nat) : Int) (iushr_n (k := 8) (by omega) (by decide)) ?_
  first | refine n_iadd (q := 40) dJ6_bitCount_0f7a4_39 rfl ⟨by omega, by omega⟩ ?_ | refine st_iadd (q := 40) dJ6_bitCount_0f7a4_39 rfl ?_
  refine j_top _ e4 ?_
  refine st_istore_n (q := 41) (i := 0) dJ6_bitCount_0f7a4_40 rfl (by decide) rfl ?_
  refine st_iload_n (q := 42) dJ6_bitCount_0f7a4_41 rfl rfl ?_
  refine st_iload_n (q := 43) dJ6_bitCount_0f7a4_42 rfl rfl ?_
  refine st_bipush (q := 45) dJ6_bitCount_0f7a4_43 ⟨by decide, by decide⟩ rfl ?_
  refine st_iushr (q := 46) dJ6_bitCount_0f7a4_45 rfl ?_
  refine j_top ((bc4 x / 65536 : Nat) : Int) (iushr_n (k := 16) (by omega) (by decide)) ?_
  first | refine n_iadd (q := 47) dJ6_bitCount_0f7a4_46 rfl ⟨by omega, by omega⟩ ?_ | refine st_iadd (q := 47) dJ6_bitCount_0f7a4_46 rfl ?_
  refine j_top _ e5 ?_
  refine st_istore_n (q := 48) (i := 0) dJ6_bitCount_0f7a4_47 rfl (by decide) rfl ?_
  refine st_iload_n (q := 49) dJ6_bitCount_0f7a4_48 rfl rfl ?_
  refine st_bipush (q := 51) dJ6_bitCount_0f7a4_49 ⟨by decide, by decide⟩ rfl ?_
  refine st_iand (q := 52) dJ6_bitCount_0f7a4_51 rfl ?_
  refine j_top ((pcN x 16 : Nat) : Int) (by rw [← bc_pc hx]; exact iand_n (by omega)) ?_
  refine rt_i dJ6_bitCount_0f7a4_52 rfl ?_
  exact hP
def tr1 (x : Nat) : Nat := (x &&& 21845) * 2 ||| (x / 2 &&& 21845)
def tr2 (x : Nat) : Nat := (x &&& 13107) * 4 ||| (x / 4 &&& 13107)
theorem tr_tn0 : ∀ a, a < 256 → ∀ b, b < 256 → tr2 (tr1 (a + 256 * b)) = tnN (a + 256 * b) 16 := by decide +kernel
theorem tr_tn {x : Nat} (hx : x < 65536) : tr2 (tr1 x) = tnN x 16 := by
  have := tr_tn0 (x % 256) (Nat.mod_lt _ (by omega)) (x / 256) (by omega)
  rw [show x % 256 + 256 * (x / 256) = x by omega] at this
  exact this
theorem c_X2_turned {d : Nat} {h : JH} {P : Int → JH → Prop} {x : Nat} (hx : x < 65536) (hP : P (tnN x 16 : Nat) h) : JRi d jX2_turned [vi x] h P := by
  have q1 : (x &&& 21845) ≤ 21845 := Nat.and_le_right
  have q2 : (x / 2 &&& 21845) ≤ 21845 := Nat.and_le_right
  have b1 : tr1 x < 65536 := Nat.or_lt_two_pow (n := 16) (by omega) (by omega)
  have q3 : (tr1 x &&& 13107) ≤ 13107 := Nat.and_le_right
  have q4 : (tr1 x / 4 &&& 13107) ≤ 13107 := Nat.and_le_right
  refine JRet.of rfl (Nat.le_of_ble_eq_true rfl) ?_
  refine st_iload_n (q := 1) dX2_turned_0 rfl rfl ?_
  refine st_sipush (q := 4) dX2_turned_1 ⟨by decide, by decide⟩ rfl ?_
  refine st_iand (q := 5) dX2_turned_4 rfl ?_
  refine j_top ((x &&& 21845 : Nat) : Int) (iand_n (by omega)) ?_
  refine st_iconst (q := 6) dX2_turned_5 ⟨by decide, by decide⟩ rfl ?_
  refine st_ishl (q := 7) dX2_turned_6 rfl ?_
  refine j_top (((x &&& 21845) * 2 : Nat) : Int) (ishl_n (k := 1) (by decide) (by omega)) ?_
  refine st_iload_n (q := 8) dX2_turned_7 rfl rfl ?_
  refine st_iconst (q := 9) dX2_turned_8 ⟨by decide, by decide⟩ rfl ?_
  refine st_ishr (q := 10) dX2_turned_9 rfl ?_
  refine j_top ((x / 2 : Nat) : Int) (ishr_n (k := 1) (by omega) (by decide)) ?_
  refine st_sipush (q := 13) dX2_turned_10 ⟨by decide, by decide⟩ rfl ?_
  refine st_iand (q := 14) dX2_turned_13 rfl ?_
  refine j_top ((x / 2 &&& 21845 : Nat) : Int) (iand_n (by omega)) ?_
  refine st_ior (q := 15) dX2_turned_14 rfl ?_
  refine j_top ((tr1 x : Nat) : Int) (ior_n (by omega) (by omega)) ?_
  refine st_istore_n (q := 16) (i := 1) dX2_turned_15 rfl (by decide) rfl ?_
  refine st_iload_n (q := 17) dX2_turned_16 rfl rfl ?_
  refine st_sipush (q := 20) dX2_turned_17 ⟨by decide, by decide⟩ rfl ?_
  refine st_iand (q := 21) dX2_turned_20 rfl ?_
  refine j_top ((tr1 x &&& 13107 : Nat) : Int) (iand_n (by omega)) ?_
  refine st_iconst (q := 22) dX2_turned_21 ⟨by decide, by decide⟩ rfl ?_
  refine st_ishl (q := 23) dX2_turned_22 rfl ?_
  refine j_top (((tr1 x &&& 13107) * 4 : Nat) : Int) (ishl_n (k := 2) (by decide) (by omega)) ?_
  refine st_iload_n (q := 24) dX2_turned_23 rfl rfl ?_
  refine st_iconst (q := 25) dX2_turned_24 ⟨by decide, by decide⟩ rfl ?_
  refine st_ishr (q := 26) dX2_turned_25 rfl ?_
  refine j_top ((tr1 x / 4 : Nat) : Int) (ishr_n (k := 2) (by omega) (by decide)) ?_
  refine st_sipush (q := 29) dX2_turned_26 ⟨by decide, by decide⟩ rfl ?_
  refine st_iand (q := 30) dX2_turned_29 rfl ?_
  refine j_top ((tr1 x / 4 &&& 13107 : Nat) : Int) (iand_n (by omega)) ?_
  refine st_ior (q := 31) dX2_turned_30 rfl ?_
  refine j_top ((tnN x 16 : Nat) : Int) (by rw [← tr_tn hx]; exact ior_n (by omega) (by omega)) ?_
  refine rt_i dX2_turned_31 rfl ?_
  exact hP
/-- the place of a cell when the row is turned -/
def sg4 (i : Nat) : Nat := i / 4 * 4 + 3 - i % 4
theorem tn_tb (o i : Nat) : ∀ c, (tnN o c).testBit i = (decide (sg4 i < c) && o.testBit (sg4 i))
  | 0 => by simp [tnN]
  | c + 1 => by
    show (tnN o c ||| (if o.testBit c then 2 ^ sg4 c else 0)).testBit i = _
    rw [Nat.testBit_or, tn_tb o i c]
    have e : sg4 c = i ↔ c = sg4 i := by unfold sg4; omega
    by_cases z : c = sg4 i
    · rw [← z]
      cases hb : o.testBit c
      · simp
      · rw [if_pos rfl, Nat.testBit_two_pow, e.mpr z]; simp
    · have z2 : ¬ sg4 c = i := fun t => z (e.mp t)
      have z3 : decide (sg4 i < c + 1) = decide (sg4 i < c) := by
        by_cases t : sg4 i < c
        · rw [decide_eq_true t, decide_eq_true (by omega)]
        · rw [decide_eq_false t, decide_eq_false (by omega)]
      rw [z3]
      cases o.testBit c
      · simp
      · rw [if_pos rfl, Nat.testBit_two_pow, decide_eq_false z2]; simp
theorem tb_hi {x i : Nat} (hx : x < 65536) (hi : 16 ≤ i) : x.testBit i = false := Nat.testBit_lt_two_pow (Nat.lt_of_lt_of_le hx (show 2 ^ 16 ≤ 2 ^ i from Nat.pow_le_pow_right (by decide) hi))
theorem sg4_sg (i : Nat) : sg4 (sg4 i) = i := by unfold sg4; omega
theorem sg4_16 {i : Nat} : sg4 i < 16 ↔ i < 16 := by unfold sg4; omega
/-- to turn one side is to turn the other -/
theorem tn_xor {a b : Nat} (ha : a < 65536) (hb : b < 65536) : tnN a 16 ^^^ b = tnN (a ^^^ tnN b 16) 16 := by
  apply Nat.eq_of_testBit_eq
  intro i
  rw [Nat.testBit_xor, tn_tb, tn_tb, Nat.testBit_xor, tn_tb, sg4_sg]
  by_cases hi : i < 16
  · rw [decide_eq_true (sg4_16.mpr hi), decide_eq_true hi]; simp
  · rw [decide_eq_false (fun z => hi (sg4_16.mp z)), tb_hi hb (by omega)]; simp
theorem pc_tn (z : Nat) : pcN (tnN z 16) 16 = pcN z 16 := by
  simp only [pcN, tn_tb]
  simp only [sg4, Nat.reduceDiv, Nat.reduceMul, Nat.reduceAdd, Nat.reduceMod, Nat.reduceSub, Nat.reduceLT, decide_true, Bool.true_and]
  generalize (if z.testBit 0 = true then 1 else 0) = x0
  generalize (if z.testBit 1 = true then 1 else 0) = x1
  generalize (if z.testBit 2 = true then 1 else 0) = x2
  generalize (if z.testBit 3 = true then 1 else 0) = x3
  generalize (if z.testBit 4 = true then 1 else 0) = x4
  generalize (if z.testBit 5 = true then 1 else 0) = x5
  generalize (if z.testBit 6 = true then 1 else 0) = x6
  generalize (if z.testBit 7 = true then 1 else 0) = x7
  generalize (if z.testBit 8 = true then 1 else 0) = x8
  generalize (if z.testBit 9 = true then 1 else 0) = x9
  generalize (if z.testBit 10 = true then 1 else 0) = x10
  generalize (if z.testBit 11 = true then 1 else 0) = x11
  generalize (if z.testBit 12 = true then 1 else 0) = x12
  generalize (if z.testBit 13 = true then 1 else 0) = x13
  generalize (if z.testBit 14 = true then 1 else 0) = x14
  generalize (if z.testBit 15 = true then 1 else 0) = x15
  omega
theorem pc_tx {a b : Nat} (ha : a < 65536) (hb : b < 65536) : pcN (tnN a 16 ^^^ b) 16 = pcN (a ^^^ tnN b 16) 16 := by rw [tn_xor ha hb, pc_tn]
theorem c_X2_between {d : Nat} {h : JH} {P : Int → JH → Prop} {a b : Nat} (ha : a < 65536) (hb : b < 65536) (hP : P (apN a b : Nat) h) : JRi (d + 1) jX2_between [vi a, vi b] h P := by
  have t1 := tnN_lt a 16 (by omega)
  have x1 := xor16 ha hb
  have x2 := xor16 t1 hb
  have e := pc_tx ha hb
  refine JRet.of rfl (Nat.le_of_ble_eq_true rfl) ?_
  refine st_iload_n (q := 1) dX2_between_0 rfl rfl ?_
  refine st_iload_n (q := 2) dX2_between_1 rfl rfl ?_
  refine st_ixor (q := 3) dX2_between_2 rfl ?_
  rw [ixor_n (by omega) (by omega)]
  refine iS1i (q := 6) dX2_between_3 rfl ml_X2_27 ms_J6_bitCount_0f7a4 (Nat.le_of_ble_eq_true rfl) ?_
  refine c_bitCount (by omega) ?_
  refine st_iload_n (q := 7) dX2_between_6 rfl rfl ?_
  refine iS1i (q := 10) dX2_between_7 rfl ml_X2_23 ms_X2_turned (Nat.le_of_ble_eq_true rfl) ?_
  refine c_X2_turned ha ?_
  refine st_iload_n (q := 11) dX2_between_10 rfl rfl ?_
  refine st_ixor (q := 12) dX2_between_11 rfl ?_
  rw [ixor_n (by omega) (by omega)]
  refine iS1i (q := 15) dX2_between_12 rfl ml_X2_27 ms_J6_bitCount_0f7a4 (Nat.le_of_ble_eq_true rfl) ?_
  refine c_bitCount (by omega) ?_
  refine iS2i (q := 18) dX2_between_15 rfl ml_X2_32 ms_J9_min_7cf53 (Nat.le_of_ble_eq_true rfl) ?_
  refine c_J9_min ?_
  refine rt_i dX2_between_18 rfl ?_
  refine pq hP ?_ rfl
  rw [e]
  unfold apN
  (repeat' split) <;> omega

