def lawOffs : Array Int := #[215, 248, 291, 324, 347, 410, 433, 466, 509, 562, 585, 618, 651, 704, 779, 812, 835, 858, 891, 904, 917, 930, 953, 976, 1019, 1052, 1075, 1088, 1121, 1154, 1177, 1210, 1223, 1236, 1259, 1292, 1305, 1328, 1391, 1424, 1457, 1506, 1549, 1562, 1575, 1589, 1603, 1626, 1639, 1662]
/-! the law: all cases, the loop -/
theorem l_cases {p : Program} {l : Launch} {e : Env} {s : State} {m : MethodId} {below : List Frame} {meth : Method} {c : Code} {b L : Nat} {xs : Nat → Int32} {D : va_G} {cA : Nat → ClassId} (C : LC p s m meth c b L xs D cA) {n : Nat} {h : JH} (hn : n + 7 ≤ L) (I : Inv h) (kk : ∀ h', Inv h' → LAt p l e s m below meth c b D cA n 1709 [] h') : ∀ k : Nat, k < 50 → ∃ (off : Int) (tgt : Nat), lawOffs[k]? = some off ∧ ((33 : Nat) : Int) + off = (tgt : Int) ∧ LAt p l e s m below meth c b D cA n tgt [] h
  | 0, _ => ⟨215, 248, rfl, by decide, cs_0 C hn I kk⟩
  | 1, _ => ⟨248, 281, rfl, by decide, cs_1 C hn I kk⟩
  | 2, _ => ⟨291, 324, rfl, by decide, cs_2 C hn I kk⟩
  | 3, _ => ⟨324, 357, rfl, by decide, cs_3 C hn I kk⟩
  | 4, _ => ⟨347, 380, rfl, by decide, cs_4 C hn I kk⟩
  | 5, _ => ⟨410, 443, rfl, by decide, cs_5 C hn I kk⟩
  | 6, _ => ⟨433, 466, rfl, by decide, cs_6 C hn I kk⟩
  | 7, _ => ⟨466, 499, rfl, by decide, cs_7 C hn I kk⟩
  | 8, _ => ⟨509, 542, rfl, by decide, cs_8 C hn I kk⟩
  | 9, _ => ⟨562, 595, rfl, by decide, cs_9 C hn I kk⟩
  | 10, _ => ⟨585, 618, rfl, by decide, cs_10 C hn I kk⟩
  | 11, _ => ⟨618, 651, rfl, by decide, cs_11 C hn I kk⟩
  | 12, _ => ⟨651, 684, rfl, by decide, cs_12 C hn I kk⟩
  | 13, _ => ⟨704, 737, rfl, by decide, cs_13 C hn I kk⟩
  | 14, _ => ⟨779, 812, rfl, by decide, cs_14 C hn I kk⟩
  | 15, _ => ⟨812, 845, rfl, by decide, cs_15 C hn I kk⟩
  | 16, _ => ⟨835, 868, rfl, by decide, cs_16 C hn I kk⟩
  | 17, _ => ⟨858, 891, rfl, by decide, cs_17 C hn I kk⟩
  | 18, _ => ⟨891, 924, rfl, by decide, cs_18 C hn I kk⟩
  | 19, _ => ⟨904, 937, rfl, by decide, cs_19 C hn I kk⟩
  | 20, _ => ⟨917, 950, rfl, by decide, cs_20 C hn I kk⟩
  | 21, _ => ⟨930, 963, rfl, by decide, cs_21 C hn I kk⟩
  | 22, _ => ⟨953, 986, rfl, by decide, cs_22 C hn I kk⟩
  | 23, _ => ⟨976, 1009, rfl, by decide, cs_23 C hn I kk⟩
  | 24, _ => ⟨1019, 1052, rfl, by decide, cs_24 C hn I kk⟩
  | 25, _ => ⟨1052, 1085, rfl, by decide, cs_25 C hn I kk⟩
  | 26, _ => ⟨1075, 1108, rfl, by decide, cs_26 C hn I kk⟩
  | 27, _ => ⟨1088, 1121, rfl, by decide, cs_27 C hn I kk⟩
  | 28, _ => ⟨1121, 1154, rfl, by decide, cs_28 C hn I kk⟩
  | 29, _ => ⟨1154, 1187, rfl, by decide, cs_29 C hn I kk⟩
  | 30, _ => ⟨1177, 1210, rfl, by decide, cs_30 C hn I kk⟩
  | 31, _ => ⟨1210, 1243, rfl, by decide, cs_31 C hn I kk⟩
  | 32, _ => ⟨1223, 1256, rfl, by decide, cs_32 C hn I kk⟩
  | 33, _ => ⟨1236, 1269, rfl, by decide, cs_33 C hn I kk⟩
  | 34, _ => ⟨1259, 1292, rfl, by decide, cs_34 C hn I kk⟩
  | 35, _ => ⟨1292, 1325, rfl, by decide, cs_35 C hn I kk⟩
  | 36, _ => ⟨1305, 1338, rfl, by decide, cs_36 C hn I kk⟩
  | 37, _ => ⟨1328, 1361, rfl, by decide, cs_37 C hn I kk⟩
  | 38, _ => ⟨1391, 1424, rfl, by decide, cs_38 C hn I kk⟩
  | 39, _ => ⟨1424, 1457, rfl, by decide, cs_39 C hn I kk⟩
  | 40, _ => ⟨1457, 1490, rfl, by decide, cs_40 C hn I kk⟩
  | 41, _ => ⟨1506, 1539, rfl, by decide, cs_41 C hn I kk⟩
  | 42, _ => ⟨1549, 1582, rfl, by decide, cs_42 C hn I kk⟩
  | 43, _ => ⟨1562, 1595, rfl, by decide, cs_43 C hn I kk⟩
  | 44, _ => ⟨1575, 1608, rfl, by decide, cs_44 C hn I kk⟩
  | 45, _ => ⟨1589, 1622, rfl, by decide, cs_45 C hn I kk⟩
  | 46, _ => ⟨1603, 1636, rfl, by decide, cs_46 C hn I kk⟩
  | 47, _ => ⟨1626, 1659, rfl, by decide, cs_47 C hn I kk⟩
  | 48, _ => ⟨1639, 1672, rfl, by decide, cs_48 C hn I kk⟩
  | 49, _ => ⟨1662, 1695, rfl, by decide, cs_49 C hn I kk⟩
  | k + 50, z => absurd z (by omega)
theorem and63 (x : Int32) : 0 ≤ (x &&& Int32.ofInt 63).toInt ∧ (x &&& Int32.ofInt 63).toInt < 64 := by
  have e : (x &&& Int32.ofInt 63).toBitVec.toNat = x.toBitVec.toNat &&& 63 := by
    rw [Int32.toBitVec_and, BitVec.toNat_and]
    rfl
  have e1 : x.toBitVec.toNat &&& 63 ≤ 63 := Nat.and_le_right
  have e2 : (x &&& Int32.ofInt 63).toInt = ((x &&& Int32.ofInt 63).toBitVec.toNat : Int) := by
    show (x &&& Int32.ofInt 63).toBitVec.toInt = _
    exact BitVec.toInt_eq_toNat_of_lt (by rw [e]; omega)
  rw [e2, e]
  omega
theorem l_sw2 {p : Program} {l : Launch} {e : Env} {s : State} {m : MethodId} {below : List Frame} {meth : Method} {c : Code} {b L : Nat} {xs : Nat → Int32} {D : va_G} {cA : Nat → ClassId} (C : LC p s m meth c b L xs D cA) {n : Nat} {h : JH} {a : Int} (hn : n + 7 ≤ L) (I : Inv h) (kk : ∀ h', Inv h' → LAt p l e s m below meth c b D cA n 1709 [] h') : LAt p l e s m below meth c b D cA n 30 [vi a] h := by
  intro ad H locs lsA P o
  have o0 : ∀ v ∈ ([] : List JV), okv h.1.length v := fun v hv => by simp at hv
  refine lv_bipush C.1.1 C.1.2.1 dL_law_30 (oi_8 (by decide) (by decide)) ?_
  refine lv_iand C.1.1 C.1.2.1 dL_law_32 ?_
  have bt := and63 (Int32.ofInt a)
  generalize Int32.ofInt a &&& Int32.ofInt 63 = t at bt ⊢
  by_cases z : t.toInt < 50
  · obtain ⟨off, tgt, e1, e2, go⟩ := l_cases C hn I kk t.toInt.toNat (by omega)
    exact lv_tableIn (offs := lawOffs) C.1.1 C.1.2.1 dL_law_33 (by omega) (by omega) (by rw [Int.sub_zero]; exact e1) e2 (go ad H locs lsA P o0)
  · exact lv_tableOut (tgt := 1709) C.1.1 C.1.2.1 dL_law_33 (Or.inr (by omega)) (by decide) (kk h I ad H locs lsA P o0)
theorem l_sw {p : Program} {l : Launch} {e : Env} {s : State} {m : MethodId} {below : List Frame} {meth : Method} {c : Code} {b L : Nat} {xs : Nat → Int32} {D : va_G} {cA : Nat → ClassId} (C : LC p s m meth c b L xs D cA) {n : Nat} {h : JH} (hn : n + 7 ≤ L) (I : Inv h) (kk : ∀ h', Inv h' → LAt p l e s m below meth c b D cA n 1709 [] h') : LAt p l e s m below meth c b D cA n 27 [] h := by
  intro ad H locs lsA P o
  have hl := P.2.2.2.2.2.1
  refine lv_aload_n C.1.1 C.1.2.1 dL_law_27 rfl (lv_at hl 0 rfl) ?_
  refine lv_iload_n C.1.1 C.1.2.1 dL_law_28 rfl (lv_at hl 3 rfl) ?_
  have e : Int32.ofInt (n : Int) = Int32.ofInt ((n : Int) + ((0 : Nat) : Int)) := by rw [Int.natCast_zero, Int.add_zero]
  rw [e]
  exact l_ld C (k := 0) (q := 30) hn (by decide) dL_law_29 rfl (l_sw2 C hn I kk) P o
theorem l_end {p : Program} {l : Launch} {e : Env} {s : State} {m : MethodId} {below : List Frame} {meth : Method} {c : Code} {b L : Nat} {xs : Nat → Int32} {D : va_G} {cA : Nat → ClassId} (C : LC p s m meth c b L xs D cA) {i : Int} {h : JH} : LAt p l e s m below meth c b D cA i 1715 [] h := by
  intro ad H locs lsA P o
  obtain ⟨⟨hx, hb, hr, hml, hown, hts, -, -, hlocks, -⟩, hK, hX, -⟩ := C
  refine lv_iconst (v := 1) hx hb dL_law_1715 (by decide) ?_
  refine va_forget (fun q hq => P.2.2.2.2.1.2.2 q hq) ?_
  refine W.widen (k := 600000) (n := 7302250) (Nat.le_of_ble_eq_true rfl) (Nat.le_of_ble_eq_true rfl) ?_
  exact lw_ret hx hb hr hlocks dL_law_1716
theorem l_head {p : Program} {l : Launch} {e : Env} {s : State} {m : MethodId} {below : List Frame} {meth : Method} {c : Code} {b L : Nat} {xs : Nat → Int32} {D : va_G} {cA : Nat → ClassId} (C : LC p s m meth c b L xs D cA) {n : Nat} {h : JH} (hnL : n ≤ L + 7) (k1 : n + 7 ≤ L → LAt p l e s m below meth c b D cA n 27 [] h) : LAt p l e s m below meth c b D cA n 18 [] h := by
  intro ad H locs lsA P o
  have hl := P.2.2.2.2.2.1
  obtain ⟨hx, hb, -, -, -, -, hXs, hbl, -, -⟩ := id C.1
  have hL := C.2.2.2
  refine lv_iload_n hx hb dL_law_18 rfl (lv_at hl 3 rfl) ?_
  refine lv_aload_n hx hb dL_law_19 rfl (lv_at hl 0 rfl) ?_
  refine va_slen hx hb hXs hbl (show ¬ lA s b from Nat.not_le.mpr hbl) P.2.2.2.2.1 dL_law_20 ?_
  refine lv_bipush hx hb dL_law_21 (oi_8 (by decide) (by decide)) ?_
  refine lv_isub hx hb dL_law_23 ?_
  rw [show Int32.ofNat L - Int32.ofInt 7 = Int32.ofInt ((L : Int) - 7) by rw [Int32.ofInt_sub, Int32.ofInt_eq_ofNat]]
  have ra : r32 ((L : Int) - 7) := ⟨by omega, by omega⟩
  have rb : r32 (n : Int) := ⟨by omega, by omega⟩
  refine lv_icmp_gt (tgt := 1715) hx hb dL_law_24 (by decide) (fun z => l_end C ad H locs lsA P o) (fun z => ?_)
  have z2 : ¬ (L : Int) - 7 < (n : Int) := fun w => z ((oi_lt ra rb).mpr w)
  exact k1 (by omega) ad H locs lsA P o
theorem l_next {p : Program} {l : Launch} {e : Env} {s : State} {m : MethodId} {below : List Frame} {meth : Method} {c : Code} {b L : Nat} {xs : Nat → Int32} {D : va_G} {cA : Nat → ClassId} (C : LC p s m meth c b L xs D cA) {n : Nat} {h : JH} (k : LAt p l e s m below meth c b D cA ((n + 7 : Nat) : Int) 18 [] h) : LAt p l e s m below meth c b D cA n 1709 [] h := by
  intro ad H locs lsA P o
  have hl := P.2.2.2.2.2.1
  refine lv_iinc (k := 3) (v := Int32.ofInt ((n + 7 : Nat) : Int)) (lv' := [(3, .int (Int32.ofInt ((n + 7 : Nat) : Int))), (0, .ref b), (1, .ref (ad 0)), (2, .ref (ad 117))]) C.1.1 C.1.2.1 dL_law_1709 hl rfl (by rw [← Int32.ofInt_add, show ((n + 7 : Nat) : Int) = (n : Int) + 7 by omega]) (by decide) rfl (fun ls hl => ?_)
  refine lv_goto (tgt := 18) C.1.1 C.1.2.1 dL_law_1712 (by decide) ?_
  exact k ad H locs ls ⟨P.1, P.2.1, P.2.2.1, P.2.2.2.1, P.2.2.2.2.1, lv_sub hl [1, 2, 3, 0] rfl, P.2.2.2.2.2.2⟩ o
theorem l_loop {p : Program} {l : Launch} {e : Env} {s : State} {m : MethodId} {below : List Frame} {meth : Method} {c : Code} {b L : Nat} {xs : Nat → Int32} {D : va_G} {cA : Nat → ClassId} (C : LC p s m meth c b L xs D cA) : ∀ (f n : Nat) (h : JH), n ≤ L + 7 → L + 8 ≤ n + f → Inv h → LAt p l e s m below meth c b D cA n 18 [] h
  | 0, n, h, h1, h2, I => absurd h2 (by omega)
  | f + 1, n, h, h1, h2, I => l_head C h1 (fun hn => l_sw C hn I (fun h' I' => l_next C (l_loop C f (n + 7) h' (by omega) (by omega) I')))
