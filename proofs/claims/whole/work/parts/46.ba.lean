/-! the JDK's small methods; outlines turned round; counts of bits -/
theorem us31 : ∀ k, k < 32 → (((nI k).toUInt32 &&& Int32.toUInt32 31).toBitVec % 32).toNat = k := by decide +kernel
theorem iushr_n {a k : Nat} (h : a < 2147483648) (hk : k < 32) : iushr a k = ((a / 2 ^ k : Nat) : Int) := by
  unfold iushr
  rw [oi_nat, oi_nat, pk_ushrN (by omega) (nI k) k (us31 k hk), ti_nat (Nat.lt_of_le_of_lt (Nat.div_le_self _ _) h)]
theorem st_mmin {d : Nat} {y : JM} {pc q : Nat} {ls st : List JV} {h : JH} {Q : Option JV → JH → Prop} {idx : Nat} {a b : Int} (hd : decode y.2.1 pc = .ok (.invokestatic idx, 3)) (hq : pc + 3 = q) (hw : Cond.methodLink y.1.cls idx jJ9_min_7cf53.1 ∈ wsG) (hrest : (st.map jcat).sum ≤ 8) (kk : JAt k0 (d + 1) y q ls (vi (if a ≤ b then a else b) :: st) h Q) : JAt k0 (d + 1) y pc ls (vi b :: vi a :: st) h Q := by
  subst hq
  intro p l e s m args below meth c' D cA A n0 ad0 C ad H locs lsA P
  have hts := C.2.2.2.2.2.2.2.1
  have rb : r32 b := ok_h P.2.1
  have ra : r32 a := ok_h (ok_t P.2.1)
  refine va_mmin C.1 C.2.1 (C.2.2.1.trans P.2.2.2.2.2.2.2.2.1.symm) C.2.2.2.2.2.1 (hts _ (jw_in y _ hw)) (hts _ (jw_in y _ ms_J9_min_7cf53.2.1)) (hts _ (jw_in y _ ms_J9_min_7cf53.2.2.1)) (hts _ (jw_in y _ ms_J9_min_7cf53.1)) (by show 1 ≤ d + 1; omega) (by rw [jcats]; show _ ≤ 64 * (d + 1); omega) (Nat.le_refl _) (Nat.le_refl _) hd ?_
  have go := kk p l e s m args below meth c' D cA A n0 ad0 C ad H locs lsA ⟨P.1, ok_c (show r32 (if a ≤ b then a else b) by split <;> assumption) (ok_t (ok_t P.2.1)), P.2.2⟩
  have ev : (if Int32.ofInt b < Int32.ofInt a then Int32.ofInt b else Int32.ofInt a) = Int32.ofInt (if a ≤ b then a else b) := by
    by_cases z : a ≤ b
    · rw [if_pos z, if_neg (fun t => by have := (oi_lt rb ra).mp t; omega)]
    · rw [if_neg z, if_pos ((oi_lt rb ra).mpr (by omega))]
  rw [ev]
  exact go
theorem st_mmax {d : Nat} {y : JM} {pc q : Nat} {ls st : List JV} {h : JH} {Q : Option JV → JH → Prop} {idx : Nat} {a b : Int} (hd : decode y.2.1 pc = .ok (.invokestatic idx, 3)) (hq : pc + 3 = q) (hw : Cond.methodLink y.1.cls idx jJ9_max_7cf53.1 ∈ wsG) (hrest : (st.map jcat).sum ≤ 8) (kk : JAt k0 (d + 1) y q ls (vi (if a < b then b else a) :: st) h Q) : JAt k0 (d + 1) y pc ls (vi b :: vi a :: st) h Q := by
  subst hq
  intro p l e s m args below meth c' D cA A n0 ad0 C ad H locs lsA P
  have hts := C.2.2.2.2.2.2.2.1
  have rb : r32 b := ok_h P.2.1
  have ra : r32 a := ok_h (ok_t P.2.1)
  refine va_mmax C.1 C.2.1 (C.2.2.1.trans P.2.2.2.2.2.2.2.2.1.symm) C.2.2.2.2.2.1 (hts _ (jw_in y _ hw)) (hts _ (jw_in y _ ms_J9_max_7cf53.2.1)) (hts _ (jw_in y _ ms_J9_max_7cf53.2.2.1)) (hts _ (jw_in y _ ms_J9_max_7cf53.1)) (by show 1 ≤ d + 1; omega) (by rw [jcats]; show _ ≤ 64 * (d + 1); omega) (Nat.le_refl _) (Nat.le_refl _) hd ?_
  have go := kk p l e s m args below meth c' D cA A n0 ad0 C ad H locs lsA ⟨P.1, ok_c (show r32 (if a < b then b else a) by split <;> assumption) (ok_t (ok_t P.2.1)), P.2.2⟩
  have ev : (if Int32.ofInt a < Int32.ofInt b then Int32.ofInt b else Int32.ofInt a) = Int32.ofInt (if a < b then b else a) := by
    by_cases z : a < b
    · rw [if_pos z, if_pos ((oi_lt ra rb).mpr z)]
    · rw [if_neg z, if_neg (fun t => z ((oi_lt ra rb).mp t))]
  rw [ev]
  exact go
theorem st_mabs {d : Nat} {y : JM} {pc q : Nat} {ls st : List JV} {h : JH} {Q : Option JV → JH → Prop} {idx : Nat} {a : Int} (hd : decode y.2.1 pc = .ok (.invokestatic idx, 3)) (hq : pc + 3 = q) (hw : Cond.methodLink y.1.cls idx jJ9_abs_0f7a4.1 ∈ wsG) (hrest : (st.map jcat).sum ≤ 8) (hv : -2147483648 < a ∧ a < 2147483648) (kk : JAt k0 (d + 1) y q ls (vi (if a < 0 then -a else a) :: st) h Q) : JAt k0 (d + 1) y pc ls (vi a :: st) h Q := by
  subst hq
  intro p l e s m args below meth c' D cA A n0 ad0 C ad H locs lsA P
  have hts := C.2.2.2.2.2.2.2.1
  have ra : r32 a := ok_h P.2.1
  refine va_mabs C.1 C.2.1 (C.2.2.1.trans P.2.2.2.2.2.2.2.2.1.symm) C.2.2.2.2.2.1 (hts _ (jw_in y _ hw)) (hts _ (jw_in y _ ms_J9_abs_0f7a4.2.1)) (hts _ (jw_in y _ ms_J9_abs_0f7a4.2.2.1)) (hts _ (jw_in y _ ms_J9_abs_0f7a4.1)) (by show 1 ≤ d + 1; omega) (by rw [jcats]; show _ ≤ 64 * (d + 1); omega) (Nat.le_refl _) (Nat.le_refl _) hd ?_
  have go := kk p l e s m args below meth c' D cA A n0 ad0 C ad H locs lsA ⟨P.1, ok_c (show r32 (if a < 0 then -a else a) by unfold r32; split <;> omega) (ok_t P.2.1), P.2.2⟩
  have ev : (if 0 ≤ Int32.ofInt a then Int32.ofInt a else 0 - Int32.ofInt a) = Int32.ofInt (if a < 0 then -a else a) := by
    by_cases z : a < 0
    · rw [if_pos z, if_neg (fun t : (0 : Int32) ≤ Int32.ofInt a => by have := (oi_le r32_0 ra).mp t; omega), show -a = 0 - a by omega, Int32.ofInt_sub]; rfl
    · rw [if_neg z, if_pos (show (0 : Int32) ≤ Int32.ofInt a from (oi_le r32_0 ra).mpr (by omega))]
  rw [ev]
  exact go
theorem st_mabsl {d : Nat} {y : JM} {pc q : Nat} {ls st : List JV} {h : JH} {Q : Option JV → JH → Prop} {idx : Nat} {a : Int} (hd : decode y.2.1 pc = .ok (.invokestatic idx, 3)) (hq : pc + 3 = q) (hw : Cond.methodLink y.1.cls idx jJ9_abs_067f4.1 ∈ wsG) (hrest : (st.map jcat).sum ≤ 8) (hv : -1000000 < a ∧ a < 1000000) (kk : JAt k0 (d + 1) y q ls (vl (a.natAbs : Int) :: st) h Q) : JAt k0 (d + 1) y pc ls (vl a :: st) h Q := by
  subst hq
  intro p l e s m args below meth c' D cA A n0 ad0 C ad H locs lsA P
  have hts := C.2.2.2.2.2.2.2.1
  have ra : r64 a := ok_h P.2.1
  refine va_mabs_long C.1 C.2.1 (C.2.2.1.trans P.2.2.2.2.2.2.2.2.1.symm) C.2.2.2.2.2.1 (hts _ (jw_in y _ hw)) (hts _ (jw_in y _ ms_J9_abs_067f4.2.1)) (hts _ (jw_in y _ ms_J9_abs_067f4.2.2.1)) (hts _ (jw_in y _ ms_J9_abs_067f4.1)) (by show 1 ≤ d + 1; omega) (by rw [jcats]; show _ ≤ 64 * (d + 1); omega) (Nat.le_refl _) (Nat.le_refl _) hd ?_
  have go := kk p l e s m args below meth c' D cA A n0 ad0 C ad H locs lsA ⟨P.1, ok_c (show r64 (a.natAbs : Int) by unfold r64; omega) (ok_t P.2.1), P.2.2⟩
  have r0 : r64 0 := ⟨by decide, by decide⟩
  have ev : (if 0 < Int64.ofInt a then Int64.ofInt a else -Int64.ofInt a) = Int64.ofInt (a.natAbs : Int) := by
    by_cases z : 0 < a
    · rw [if_pos (show (0 : Int64) < Int64.ofInt a from (ol_lt r0 ra).mpr z), show (a.natAbs : Int) = a by omega]
    · rw [if_neg (fun t : (0 : Int64) < Int64.ofInt a => z ((ol_lt r0 ra).mp t)), show (a.natAbs : Int) = -a by omega, Int64.ofInt_neg]
  rw [ev]
  exact go

