/-! counts of bits by the JDK -/
theorem c_bitCount {d : Nat} {h : JH} {P : Int → JH → Prop} {x : Nat} (hx : x < 65536) (hP : P (pcN x 16 : Nat) h) : JRi d jJ6_bitCount_0f7a4 [vi x] h P := by
  have q1 : (x / 2 &&& 1431655765) ≤ x / 2 := Nat.and_le_left
  have e1 : (x : Int) - ((x / 2 &&& 1431655765 : Nat) : Int) = ((bc1 x : Nat) : Int) := by unfold bc1; omega
  have b1 : bc1 x < 65536 := by unfold bc1; omega
  have q2 : (bc1 x &&& 858993459) ≤ bc1 x := Nat.and_le_left
  have q3 : (bc1 x / 4 &&& 858993459) ≤ bc1 x / 4 := Nat.and_le_left
  have e2 : ((bc1 x &&& 858993459 : Nat) : Int) + ((bc1 x / 4 &&& 858993459 : Nat) : Int) = ((bc2 x : Nat) : Int) := by unfold bc2; omega
  have b2 : bc2 x < 131072 := by unfold bc2; omega
  have e3 : ((bc2 x : Nat) : Int) + ((bc2 x / 16 : Nat) : Int) = ((bc2 x + bc2 x / 16 : Nat) : Int) := by omega
  have b3 : bc3 x ≤ bc2 x + bc2 x / 16 := Nat.and_le_left
  have e4 : ((bc3 x : Nat) : Int) + ((bc3 x / 256 : Nat) : Int) = ((bc4 x : Nat) : Int) := by unfold bc4; omega
  have b4 : bc4 x < 400000 := by unfold bc4; omega
  have e5 : ((bc4 x : Nat) : Int) + ((bc4 x / 65536 : Nat) : Int) = ((bc5 x : Nat) : Int) := by unfold bc5; omega
  have b5 : bc5 x < 800000 := by unfold bc5; omega
  refine JRet.of rfl (Nat.le_of_ble_eq_true rfl) ?_
  refine st_iload_n (q := 1) dJ6_bitCount_0f7a4_0 rfl rfl ?_
  refine st_iload_n (q := 2) dJ6_bitCount_0f7a4_1 rfl rfl ?_
  refine st_iconst (q := 3) dJ6_bitCount_0f7a4_2 ⟨by decide, by decide⟩ rfl ?_
  refine st_iushr (q := 4) dJ6_bitCount_0f7a4_3 rfl ?_
  refine j_top ((x / 2 : Nat) : Int) (iushr_n (k := 1) (by omega) (by decide)) ?_
  refine st_ldc_w (q := 7) (x := 1431655765) dJ6_bitCount_0f7a4_4 ⟨by decide, by decide⟩ co_J6_265 rfl ?_
  refine st_iand (q := 8) dJ6_bitCount_0f7a4_7 rfl ?_
  refine j_top ((x / 2 &&& 1431655765 : Nat) : Int) (iand_n (by omega)) ?_
  first | refine n_isub (q := 9) dJ6_bitCount_0f7a4_8 rfl ⟨by omega, by omega⟩ ?_ | refine st_isub (q := 9) dJ6_bitCount_0f7a4_8 rfl ?_
  refine j_top _ e1 ?_
  refine st_istore_n (q := 10) (i := 0) dJ6_bitCount_0f7a4_9 rfl (by decide) rfl ?_
  refine st_iload_n (q := 11) dJ6_bitCount_0f7a4_10 rfl rfl ?_
  refine st_ldc_w (q := 14) (x := 858993459) dJ6_bitCount_0f7a4_11 ⟨by decide, by decide⟩ co_J6_266 rfl ?_
  refine st_iand (q := 15) dJ6_bitCount_0f7a4_14 rfl ?_
  refine j_top ((bc1 x &&& 858993459 : Nat) : Int) (iand_n (by omega)) ?_
  refine st_iload_n (q := 16) dJ6_bitCount_0f7a4_15 rfl rfl ?_
  refine st_iconst (q := 17) dJ6_bitCount_0f7a4_16 ⟨by decide, by decide⟩ rfl ?_
  refine st_iushr (q := 18) dJ6_bitCount_0f7a4_17 rfl ?_
  refine j_top ((bc1 x / 4 : Nat) : Int) (iushr_n (k := 2) (by omega) (by decide)) ?_
  refine st_ldc_w (q := 21) (x := 858993459) dJ6_bitCount_0f7a4_18 ⟨by decide, by decide⟩ co_J6_266 rfl ?_
  refine st_iand (q := 22) dJ6_bitCount_0f7a4_21 rfl ?_
  refine j_top ((bc1 x / 4 &&& 858993459 : Nat) : Int) (iand_n (by omega)) ?_
  first | refine n_iadd (q := 23) dJ6_bitCount_0f7a4_22 rfl ⟨by omega, by omega⟩ ?_ | refine st_iadd (q := 23) dJ6_bitCount_0f7a4_22 rfl ?_
  refine j_top _ e2 ?_
  refine st_istore_n (q := 24) (i := 0) dJ6_bitCount_0f7a4_23 rfl (by decide) rfl ?_
  refine st_iload_n (q := 25) dJ6_bitCount_0f7a4_24 rfl rfl ?_
  refine st_iload_n (q := 26) dJ6_bitCount_0f7a4_25 rfl rfl ?_
  refine st_iconst (q := 27) dJ6_bitCount_0f7a4_26 ⟨by decide, by decide⟩ rfl ?_
  refine st_iushr (q := 28) dJ6_bitCount_0f7a4_27 rfl ?_
  refine j_top ((bc2 x / 16 : Nat) : Int) (iushr_n (k := 4) (by omega) (by decide)) ?_
  first | refine n_iadd (q := 29) dJ6_bitCount_0f7a4_28 rfl ⟨by omega, by omega⟩ ?_ | refine st_iadd (q := 29) dJ6_bitCount_0f7a4_28 rfl ?_
  refine j_top _ e3 ?_
  refine st_ldc_w (q := 32) (x := 252645135) dJ6_bitCount_0f7a4_29 ⟨by decide, by decide⟩ co_J6_267 rfl ?_
  refine st_iand (q := 33) dJ6_bitCount_0f7a4_32 rfl ?_
  refine j_top ((bc3 x : Nat) : Int) (iand_n (by omega)) ?_
  refine st_istore_n (q := 34) (i := 0) dJ6_bitCount_0f7a4_33 rfl (by decide) rfl ?_
  refine st_iload_n (q := 35) dJ6_bitCount_0f7a4_34 rfl rfl ?_
  refine st_iload_n (q := 36) dJ6_bitCount_0f7a4_35 rfl rfl ?_
  refine st_bipush (q := 38) dJ6_bitCount_0f7a4_36 ⟨by decide, by decide⟩ rfl ?_
  refine st_iushr (q := 39) dJ6_bitCount_0f7a4_38 rfl ?_
  refine j_top ((bc3 x / 256 : Nat) : Int) (iushr_n (k := 8) (by omega) (by decide)) ?_
  first | refine n_iadd (q := 40) dJ6_bitCount_0f7a4_39 rfl ⟨by omega, by omega⟩ ?_ | refine st_iadd (q := 40) dJ6_bitCount_0f7a4_39 rfl ?_
  refine j_top _ e4 ?_
  refine st_istore_n (q := 41) (i := 0) dJ6_bitCount_0f7a4_40 rfl (by decide) rfl ?_
  refine st_iload_n (q := 42) dJ6_bitCount_0f7a4_41 rfl rfl ?_
  refine st_iload_n (q := 43) dJ6_bitCount_0f7a4_42 rfl rfl ?_
  refine st_bipush (q := 45) dJ6_bitCount_0f7a4_43 ⟨by decide, by decide⟩ rfl ?_
  refine st_iushr (q := 46) dJ6_bitCount_0f7a4_45 rfl ?_
  refine j_top ((bc4 x / 65536 : Nat) : Int) (iushr_n (k := 16) (by omega) (by decide)) ?_
  first | refine n_iadd (q := 47) dJ6_bitCount_0f7a4_46 rfl ⟨by omega, by omega⟩ ?_ | refine st_iadd (q := 47) dJ6_bitCount_0f7a4_46 rfl ?_
  refine j_top _ e5 ?_
  refine st_istore_n (q := 48) (i := 0) dJ6_bitCount_0f7a4_47 rfl (by decide) rfl ?_
  refine st_iload_n (q := 49) dJ6_bitCount_0f7a4_48 rfl rfl ?_
  refine st_bipush (q := 51) dJ6_bitCount_0f7a4_49 ⟨by decide, by decide⟩ rfl ?_
  refine st_iand (q := 52) dJ6_bitCount_0f7a4_51 rfl ?_
  refine j_top ((pcN x 16 : Nat) : Int) (by rw [← bc_pc hx]; exact iand_n (by omega)) ?_
  refine rt_i dJ6_bitCount_0f7a4_52 rfl ?_
  exact hP

