/-! both sides answer alike: the digest -/
theorem j_topl {κ : JK} {d : Nat} {y : JM} {pc : Nat} {ls st : List JV} {h : JH} {Q : Option JV → JH → Prop} {x : Int} (x' : Int) (e : x = x') (k : JAt κ d y pc ls (vl x' :: st) h Q) : JAt κ d y pc ls (vl x :: st) h Q := by subst e; exact k
theorem sq1_cg {f g : Nat → Int} {a : Int} : ∀ {n : Nat}, (∀ k, k < n → f k = g k) → sq1 f a n = sq1 g a n
  | 0, _ => rfl
  | n + 1, e => by
    show dgS (sq1 f a n) (f n) = dgS (sq1 g a n) (g n)
    rw [sq1_cg (fun k hk => e k (by omega)), e n (by omega)]
theorem itA_cg {F G : Nat → Int → Int} {a : Int} : ∀ {n : Nat}, (∀ k, k < n → ∀ x, F k x = G k x) → itA F a n = itA G a n
  | 0, _ => rfl
  | n + 1, e => by
    show F n (itA F a n) = G n (itA G a n)
    rw [itA_cg (fun k hk => e k (by omega)), e n (by omega)]
theorem lp_X9_addTo {d : Nat} {h : JH} {P : Int → JH → Prop} {a : Nat} {v : Int} (s : SP h a) (hz : hI h a 1 ≤ 60) (hP : P (sq1 (hI h (a + 1)) v (hI h a 1).toNat) h) (k : Nat) (hk : k ≤ (hI h a 1).toNat) : ∀ j1, JAt k0 d jX9_addTo 15 [vr a, j1, vn, vl (sq1 (hI h (a + 1)) v k), vn, vi k] [] h (jql P) := by
  intro j1
  refine st_iload (q := 17) dX9_addTo_15 rfl rfl ?_
  refine st_aload_n (q := 18) dX9_addTo_17 rfl rfl ?_
  refine st_getI (q := 21) 9 1 dX9_addTo_18 fl_X9_15 (by decide) (by decide) rfl rfl (by first | exact s.1 | exact s.2.2.1) ?_
  refine st_icmp_ge (q := 24) (tgt := 45) dX9_addTo_21 (by decide) rfl (fun c21 => ?_) (fun c21 => ?_)
  · refine st_lload_n (q := 46) dX9_addTo_45 rfl rfl ?_
    refine rt_l dX9_addTo_46 rfl ?_
    exact pq hP (by rw [show k = (hI h a 1).toNat by omega]) rfl
  · refine st_ldc2_w (q := 27) (x := 31) dX9_addTo_24 ⟨by decide, by decide⟩ co_X9_33 rfl ?_
    refine st_lload_n (q := 28) dX9_addTo_27 rfl rfl ?_
    first | refine n_lmul (q := 29) dX9_addTo_28 rfl ⟨by omega, by omega⟩ ?_ | refine st_lmul (q := 29) dX9_addTo_28 rfl ?_
    refine st_aload_n (q := 30) dX9_addTo_29 rfl rfl ?_
    refine st_getR (q := 33) 9 0 dX9_addTo_30 fl_X9_9 (by decide) (by decide) rfl rfl (by first | exact s.1 | exact s.2.2.1) (s.2.1) ?_
    refine st_iload (q := 35) dX9_addTo_33 rfl rfl ?_
    refine st_iaload (q := 36) dX9_addTo_35 rfl (by first | exact s.1 | exact s.2.2.1) (spb s ⟨by omega, by omega⟩) ?_
    refine st_i2l (q := 37) dX9_addTo_36 rfl ?_
    first | refine n_ladd (q := 38) dX9_addTo_37 rfl ⟨by omega, by omega⟩ ?_ | refine st_ladd (q := 38) dX9_addTo_37 rfl ?_
    refine st_lstore_n (q := 39) (i := 3) dX9_addTo_38 rfl (by decide) rfl ?_
    first | refine n_iinc (q := 42) dX9_addTo_39 rfl (by decide) rfl ⟨by omega, by omega⟩ ?_ | refine st_iinc (q := 42) dX9_addTo_39 rfl (by decide) rfl ?_
    refine st_goto (q := 15) dX9_addTo_42 (by decide) ?_
    exact lp_X9_addTo s hz hP (k + 1) (by omega) j1
termination_by (hI h a 1).toNat - k
theorem c_X9_addTo {d : Nat} {h : JH} {P : Int → JH → Prop} {a : Nat} {v : Int} (s : SP h a) (hz : hI h a 1 ≤ 60) (hP : P (sq1 (hI h (a + 1)) (dgS v (hI h a 1)) (hI h a 1).toNat) h) : JRl d jX9_addTo [vr a, vl v] h P := by
  refine JRet.of rfl (Nat.le_of_ble_eq_true rfl) ?_
  refine st_ldc2_w (q := 3) (x := 31) dX9_addTo_0 ⟨by decide, by decide⟩ co_X9_33 rfl ?_
  refine st_lload_n (q := 4) dX9_addTo_3 rfl rfl ?_
  first | refine n_lmul (q := 5) dX9_addTo_4 rfl ⟨by omega, by omega⟩ ?_ | refine st_lmul (q := 5) dX9_addTo_4 rfl ?_
  refine st_aload_n (q := 6) dX9_addTo_5 rfl rfl ?_
  refine st_getI (q := 9) 9 1 dX9_addTo_6 fl_X9_15 (by decide) (by decide) rfl rfl (by first | exact s.1 | exact s.2.2.1) ?_
  refine st_i2l (q := 10) dX9_addTo_9 rfl ?_
  first | refine n_ladd (q := 11) dX9_addTo_10 rfl ⟨by omega, by omega⟩ ?_ | refine st_ladd (q := 11) dX9_addTo_10 rfl ?_
  refine st_lstore_n (q := 12) (i := 3) dX9_addTo_11 rfl (by decide) rfl ?_
  refine st_iconst (q := 13) dX9_addTo_12 ⟨by decide, by decide⟩ rfl ?_
  refine st_istore (q := 15) dX9_addTo_13 (by decide) rfl ?_
  exact lp_X9_addTo s hz hP 0 (by omega) _
theorem lp2_X7_addTo {d : Nat} {h : JH} {P : Int → JH → Prop} {u : HD} {k : Nat} {a v0 : Int} (w : WF h) (x : HX h u) (o : uOk u) (hk : k < 8) (hu : uO u k ≠ 0) (hK : ∀ j6, JAt k0 (d + 2) jX7_addTo 74 [vr 3, vl v0, vn, vl (sq1 (fun i => tlU u k i) a 3), vn, vi k, j6] [] h (jql P)) (i : Nat) (hi : i ≤ 3) : JAt k0 (d + 2) jX7_addTo 42 [vr 3, vl v0, vn, vl (sq1 (fun i => tlU u k i) a i), vn, vi k, vi i] [] h (jql P) := by
  refine st_iload (q := 44) dX7_addTo_42 rfl rfl ?_
  refine st_iconst (q := 45) dX7_addTo_44 ⟨by decide, by decide⟩ rfl ?_
  refine st_icmp_ge (q := 48) (tgt := 74) dX7_addTo_45 (by decide) rfl (fun c45 => ?_) (fun c45 => ?_)
  · rw [show i = 3 by omega]
    exact hK _
  · refine st_ldc2_w (q := 51) (x := 31) dX7_addTo_48 ⟨by decide, by decide⟩ co_X7_65 rfl ?_
    refine st_lload_n (q := 52) dX7_addTo_51 rfl rfl ?_
    first | refine n_lmul (q := 53) dX7_addTo_52 rfl ⟨by omega, by omega⟩ ?_ | refine st_lmul (q := 53) dX7_addTo_52 rfl ?_
    refine st_aload_n (q := 54) dX7_addTo_53 rfl rfl ?_
    refine st_getR (q := 57) 7 0 dX7_addTo_54 fl_X7_11 (by decide) (by decide) rfl rfl (wfk w rfl) (wfR w rfl) ?_
    refine st_iload (q := 59) dX7_addTo_57 rfl rfl ?_
    refine st_aaload (q := 60) (t := 3) dX7_addTo_59 rfl ⟨by decide, by decide⟩ (wfk w rfl) (wfb w (n := 8) rfl ⟨by omega, by omega⟩) (xhide w (by omega)) ?_
    refine st_iload (q := 62) dX7_addTo_60 rfl rfl ?_
    refine iV1i (q := 65) dX7_addTo_62 rfl ml_X7_67 mv_X2_tells (Nat.le_of_ble_eq_true rfl) (xhk w (by omega)) ?_
    refine c_X2_tells (k := k) w x o hk hu ?_
    refine st_i2l (q := 66) dX7_addTo_65 rfl ?_
    first | refine n_ladd (q := 67) dX7_addTo_66 rfl ⟨by omega, by omega⟩ ?_ | refine st_ladd (q := 67) dX7_addTo_66 rfl ?_
    refine st_lstore_n (q := 68) (i := 3) dX7_addTo_67 rfl (by decide) rfl ?_
    first | refine n_iinc (q := 71) dX7_addTo_68 rfl (by decide) rfl ⟨by omega, by omega⟩ ?_ | refine st_iinc (q := 71) dX7_addTo_68 rfl (by decide) rfl ?_
    refine st_goto (q := 42) dX7_addTo_71 (by decide) ?_
    exact lp2_X7_addTo w x o hk hu hK (i + 1) (by omega)
termination_by 3 - i
theorem lp1_X7_addTo {d : Nat} {h : JH} {P : Int → JH → Prop} {u : HD} {a v0 : Int} (w : WF h) (x : HX h u) (o : uOk u) (hP : P (dgS (dgS (itA (dgH u) a 8) (hI h 3 1)) (hI h 3 2)) h) (k : Nat) (hk : k ≤ 8) : ∀ j6, JAt k0 (d + 2) jX7_addTo 5 [vr 3, vl v0, vn, vl (itA (dgH u) a k), vn, vi k, j6] [] h (jql P) := by
  intro j6
  have xk : k < 8 → (hI h (5 + ((k : Int)).toNat) 0 = 0 ↔ uO u k = 0) := fun z => by rw [show ((k : Int)).toNat = k from rfl, (x k z).1]; split <;> simp_all
  have e0 : itA (dgH u) a (k + 1) = dgH u k (itA (dgH u) a k) := rfl
  have hN : k < 8 → ∀ j6, JAt k0 (d + 2) jX7_addTo 74 [vr 3, vl v0, vn, vl (itA (dgH u) a (k + 1)), vn, vi k, j6] [] h (jql P) := fun hk8 j6 => by
    first | refine n_iinc (q := 77) dX7_addTo_74 rfl (by decide) rfl ⟨by omega, by omega⟩ ?_ | refine st_iinc (q := 77) dX7_addTo_74 rfl (by decide) rfl ?_
    refine st_goto (q := 5) dX7_addTo_77 (by decide) ?_
    exact lp1_X7_addTo w x o hP (k + 1) (by omega) _
  refine st_iload (q := 7) dX7_addTo_5 rfl rfl ?_
  refine st_aload_n (q := 8) dX7_addTo_7 rfl rfl ?_
  refine st_getR (q := 11) 7 0 dX7_addTo_8 fl_X7_11 (by decide) (by decide) rfl rfl (wfk w rfl) (wfR w rfl) ?_
  refine st_arraylength (q := 12) (t := 3) dX7_addTo_11 rfl (by decide) (wfk w rfl) ?_
  rw [wfl w (n := 8) rfl]
  refine st_icmp_ge (q := 15) (tgt := 80) dX7_addTo_12 (by decide) rfl (fun c12 => ?_) (fun c12 => ?_)
  · refine st_ldc2_w (q := 83) (x := 31) dX7_addTo_80 ⟨by decide, by decide⟩ co_X7_65 rfl ?_
    refine st_ldc2_w (q := 86) (x := 31) dX7_addTo_83 ⟨by decide, by decide⟩ co_X7_65 rfl ?_
    refine st_lload_n (q := 87) dX7_addTo_86 rfl rfl ?_
    first | refine n_lmul (q := 88) dX7_addTo_87 rfl ⟨by omega, by omega⟩ ?_ | refine st_lmul (q := 88) dX7_addTo_87 rfl ?_
    refine st_aload_n (q := 89) dX7_addTo_88 rfl rfl ?_
    refine st_getI (q := 92) 7 1 dX7_addTo_89 fl_X7_17 (by decide) (by decide) rfl rfl (wfk w rfl) ?_
    refine st_i2l (q := 93) dX7_addTo_92 rfl ?_
    first | refine n_ladd (q := 94) dX7_addTo_93 rfl ⟨by omega, by omega⟩ ?_ | refine st_ladd (q := 94) dX7_addTo_93 rfl ?_
    first | refine n_lmul (q := 95) dX7_addTo_94 rfl ⟨by omega, by omega⟩ ?_ | refine st_lmul (q := 95) dX7_addTo_94 rfl ?_
    refine st_aload_n (q := 96) dX7_addTo_95 rfl rfl ?_
    refine st_getI (q := 99) 7 2 dX7_addTo_96 fl_X7_21 (by decide) (by decide) rfl rfl (wfk w rfl) ?_
    refine st_i2l (q := 100) dX7_addTo_99 rfl ?_
    first | refine n_ladd (q := 101) dX7_addTo_100 rfl ⟨by omega, by omega⟩ ?_ | refine st_ladd (q := 101) dX7_addTo_100 rfl ?_
    refine rt_l dX7_addTo_101 rfl ?_
    have ek : k = 8 := by omega
    subst ek
    exact hP
  · refine st_aload_n (q := 16) dX7_addTo_15 rfl rfl ?_
    refine st_getR (q := 19) 7 0 dX7_addTo_16 fl_X7_11 (by decide) (by decide) rfl rfl (wfk w rfl) (wfR w rfl) ?_
    refine st_iload (q := 21) dX7_addTo_19 rfl rfl ?_
    refine st_aaload (q := 22) (t := 3) dX7_addTo_21 rfl ⟨by decide, by decide⟩ (wfk w rfl) (wfb w (n := 8) rfl ⟨by omega, by omega⟩) (xhide w (by omega)) ?_
    refine st_getI (q := 25) 2 0 dX7_addTo_22 fl_X7_28 (by decide) (by decide) rfl rfl (xhk w (by omega)) ?_
    refine st_if_ne (q := 28) (tgt := 39) dX7_addTo_25 (by decide) rfl (fun c25 => ?_) (fun c25 => ?_)
    · refine st_iconst (q := 40) dX7_addTo_39 ⟨by decide, by decide⟩ rfl ?_
      refine st_istore (q := 42) dX7_addTo_40 (by decide) rfl ?_
      have nk : uO u k ≠ 0 := fun z => absurd ((xk (by omega)).mpr z) (by omega)
      refine lp2_X7_addTo (a := itA (dgH u) a k) w x o (by omega) nk (fun j6 => ?_) 0 (by omega)
      have tk := hN (by omega) j6
      rw [e0, show dgH u k (itA (dgH u) a k) = sq1 (fun i => tlU u k i) (itA (dgH u) a k) 3 from if_neg nk] at tk
      exact tk
    · refine st_ldc2_w (q := 31) (x := 31) dX7_addTo_28 ⟨by decide, by decide⟩ co_X7_65 rfl ?_
      refine st_lload_n (q := 32) dX7_addTo_31 rfl rfl ?_
      first | refine n_lmul (q := 33) dX7_addTo_32 rfl ⟨by omega, by omega⟩ ?_ | refine st_lmul (q := 33) dX7_addTo_32 rfl ?_
      refine st_lconst (q := 34) (x := 1) dX7_addTo_33 ⟨by decide, by decide, by decide⟩ rfl ?_
      first | refine n_lsub (q := 35) dX7_addTo_34 rfl ⟨by omega, by omega⟩ ?_ | refine st_lsub (q := 35) dX7_addTo_34 rfl ?_
      refine st_lstore_n (q := 36) (i := 3) dX7_addTo_35 rfl (by decide) rfl ?_
      refine st_goto (q := 74) dX7_addTo_36 (by decide) ?_
      have tk := hN (by omega) j6
      rw [e0, show dgH u k (itA (dgH u) a k) = dgS (itA (dgH u) a k) (-1) from if_pos ((xk (by omega)).mp (by omega))] at tk
      exact tk
termination_by 8 - k
theorem c_X7_addTo {d : Nat} {h : JH} {P : Int → JH → Prop} {u : HD} {a : Int} (w : WF h) (x : HX h u) (o : uOk u) (hP : P (dgS (dgS (itA (dgH u) a 8) (hI h 3 1)) (hI h 3 2)) h) : JRl (d + 2) jX7_addTo [vr 3, vl a] h P := by
  refine JRet.of rfl (Nat.le_of_ble_eq_true rfl) ?_
  refine st_lload_n (q := 1) dX7_addTo_0 rfl rfl ?_
  refine st_lstore_n (q := 2) (i := 3) dX7_addTo_1 rfl (by decide) rfl ?_
  refine st_iconst (q := 3) dX7_addTo_2 ⟨by decide, by decide⟩ rfl ?_
  refine st_istore (q := 5) dX7_addTo_3 (by decide) rfl ?_
  exact lp1_X7_addTo w x o hP 0 (by omega) _
theorem lp_X5_addTo {d : Nat} {h : JH} {P : Int → JH → Prop} {y : SY} {c s : Nat} {a v0 : Int} (hk : kd h c = 5) (cx : scX h c y s) (hp : yKp y s ≤ 1) (hP : P (dgY y s a) h) (i : Nat) (hi : i ≤ 5) : JAt k0 (d + 1) jX5_addTo 5 [vr c, vl v0, vn, vl (sq1 (fun x => ytell y s x) a i), vn, vi i] [] h (jql P) := by
  refine st_iload (q := 7) dX5_addTo_5 rfl rfl ?_
  refine st_iconst (q := 8) dX5_addTo_7 ⟨by decide, by decide⟩ rfl ?_
  refine st_icmp_ge (q := 11) (tgt := 31) dX5_addTo_8 (by decide) rfl (fun c8 => ?_) (fun c8 => ?_)
  · refine st_ldc2_w (q := 34) (x := 31) dX5_addTo_31 ⟨by decide, by decide⟩ co_X5_41 rfl ?_
    refine st_ldc2_w (q := 37) (x := 31) dX5_addTo_34 ⟨by decide, by decide⟩ co_X5_41 rfl ?_
    refine st_ldc2_w (q := 40) (x := 31) dX5_addTo_37 ⟨by decide, by decide⟩ co_X5_41 rfl ?_
    refine st_lload_n (q := 41) dX5_addTo_40 rfl rfl ?_
    first | refine n_lmul (q := 42) dX5_addTo_41 rfl ⟨by omega, by omega⟩ ?_ | refine st_lmul (q := 42) dX5_addTo_41 rfl ?_
    refine st_aload_n (q := 43) dX5_addTo_42 rfl rfl ?_
    refine st_getI (q := 46) 5 5 dX5_addTo_43 fl_X5_28 (by decide) (by decide) rfl rfl (hk) ?_
    refine j_top _ cx.2.2.2.2.2.1 ?_
    refine st_i2l (q := 47) dX5_addTo_46 rfl ?_
    first | refine n_ladd (q := 48) dX5_addTo_47 rfl ⟨by omega, by omega⟩ ?_ | refine st_ladd (q := 48) dX5_addTo_47 rfl ?_
    first | refine n_lmul (q := 49) dX5_addTo_48 rfl ⟨by omega, by omega⟩ ?_ | refine st_lmul (q := 49) dX5_addTo_48 rfl ?_
    refine st_aload_n (q := 50) dX5_addTo_49 rfl rfl ?_
    refine st_getI (q := 53) 5 6 dX5_addTo_50 fl_X5_31 (by decide) (by decide) rfl rfl (hk) ?_
    refine j_top _ cx.2.2.2.2.2.2.1 ?_
    refine st_i2l (q := 54) dX5_addTo_53 rfl ?_
    first | refine n_ladd (q := 55) dX5_addTo_54 rfl ⟨by omega, by omega⟩ ?_ | refine st_ladd (q := 55) dX5_addTo_54 rfl ?_
    first | refine n_lmul (q := 56) dX5_addTo_55 rfl ⟨by omega, by omega⟩ ?_ | refine st_lmul (q := 56) dX5_addTo_55 rfl ?_
    refine st_aload_n (q := 57) dX5_addTo_56 rfl rfl ?_
    refine st_getI (q := 60) 5 7 dX5_addTo_57 fl_X5_34 (by decide) (by decide) rfl rfl (hk) ?_
    refine j_top _ cx.2.2.2.2.2.2.2 ?_
    refine st_i2l (q := 61) dX5_addTo_60 rfl ?_
    first | refine n_ladd (q := 62) dX5_addTo_61 rfl ⟨by omega, by omega⟩ ?_ | refine st_ladd (q := 62) dX5_addTo_61 rfl ?_
    refine rt_l dX5_addTo_62 rfl ?_
    have ei : i = 5 := by omega
    subst ei
    exact hP
  · refine st_ldc2_w (q := 14) (x := 31) dX5_addTo_11 ⟨by decide, by decide⟩ co_X5_41 rfl ?_
    refine st_lload_n (q := 15) dX5_addTo_14 rfl rfl ?_
    first | refine n_lmul (q := 16) dX5_addTo_15 rfl ⟨by omega, by omega⟩ ?_ | refine st_lmul (q := 16) dX5_addTo_15 rfl ?_
    refine st_aload_n (q := 17) dX5_addTo_16 rfl rfl ?_
    refine st_iload (q := 19) dX5_addTo_17 rfl rfl ?_
    refine iV1i (q := 22) dX5_addTo_19 rfl ml_X5_43 mv_X5_tells (Nat.le_of_ble_eq_true rfl) (hk) ?_
    refine c_X5_tells hk cx hp ?_
    refine st_i2l (q := 23) dX5_addTo_22 rfl ?_
    first | refine n_ladd (q := 24) dX5_addTo_23 rfl ⟨by omega, by omega⟩ ?_ | refine st_ladd (q := 24) dX5_addTo_23 rfl ?_
    refine st_lstore_n (q := 25) (i := 3) dX5_addTo_24 rfl (by decide) rfl ?_
    first | refine n_iinc (q := 28) dX5_addTo_25 rfl (by decide) rfl ⟨by omega, by omega⟩ ?_ | refine st_iinc (q := 28) dX5_addTo_25 rfl (by decide) rfl ?_
    refine st_goto (q := 5) dX5_addTo_28 (by decide) ?_
    exact lp_X5_addTo hk cx hp hP (i + 1) (by omega)
termination_by 5 - i
theorem c_X5_addTo {d : Nat} {h : JH} {P : Int → JH → Prop} {y : SY} {c s : Nat} {a : Int} (hk : kd h c = 5) (cx : scX h c y s) (hp : yKp y s ≤ 1) (hP : P (dgY y s a) h) : JRl (d + 1) jX5_addTo [vr c, vl a] h P := by
  refine JRet.of rfl (Nat.le_of_ble_eq_true rfl) ?_
  refine st_lload_n (q := 1) dX5_addTo_0 rfl rfl ?_
  refine st_lstore_n (q := 2) (i := 3) dX5_addTo_1 rfl (by decide) rfl ?_
  refine st_iconst (q := 3) dX5_addTo_2 ⟨by decide, by decide⟩ rfl ?_
  refine st_istore (q := 5) dX5_addTo_3 (by decide) rfl ?_
  exact lp_X5_addTo hk cx hp hP 0 (by omega)
theorem lp_X8_addTo {d : Nat} {h : JH} {P : Int → JH → Prop} {y : SY} {b : Nat} {a v0 : Int} (w : WF h) (x : SX h y b) (o : yOk y) (hP : P (itA (dgY y) a y.1) h) (s : Nat) (hs : s ≤ y.1) : JAt k0 (d + 2) jX8_addTo 5 [vr 13, vl v0, vn, vl (itA (dgY y) a s), vn, vi s] [] h (jql P) := by
  have x1 := x.2.2.2.1
  have o1 := o.1
  refine st_iload (q := 7) dX8_addTo_5 rfl rfl ?_
  refine st_aload_n (q := 8) dX8_addTo_7 rfl rfl ?_
  refine st_getI (q := 11) 8 1 dX8_addTo_8 fl_X8_17 (by decide) (by decide) rfl rfl (by first | exact wfk w rfl | exact xsk (h := h) w x | exact xck (h := h) w x (by omega)) ?_
  refine st_icmp_ge (q := 14) (tgt := 32) dX8_addTo_11 (by decide) rfl (fun c11 => ?_) (fun c11 => ?_)
  · refine st_lload_n (q := 33) dX8_addTo_32 rfl rfl ?_
    refine rt_l dX8_addTo_33 rfl ?_
    exact pq hP (by rw [show s = y.1 by omega]) rfl
  · refine st_aload_n (q := 15) dX8_addTo_14 rfl rfl ?_
    refine st_getR (q := 18) 8 0 dX8_addTo_15 fl_X8_11 (by decide) (by decide) rfl rfl (by first | exact wfk w rfl | exact xsk (h := h) w x | exact xck (h := h) w x (by omega)) (by first | exact wfR w rfl | exact x.2.1) ?_
    refine st_iload (q := 20) dX8_addTo_18 rfl rfl ?_
    refine st_aaload (q := 21) (t := 4) dX8_addTo_20 rfl ⟨by decide, by decide⟩ (by first | exact wfk w rfl | exact xsk (h := h) w x | exact xck (h := h) w x (by omega)) (by first | exact wfb w rfl ⟨by omega, by omega⟩ | exact xsb (h := h) w x ⟨by omega, by omega⟩) (xsc (h := h) w x (by omega)) ?_
    refine st_lload_n (q := 22) dX8_addTo_21 rfl rfl ?_
    refine iV1l (q := 25) dX8_addTo_22 rfl ml_X8_92 mv_X5_addTo (Nat.le_of_ble_eq_true rfl) (by first | exact wfk w rfl | exact xsk (h := h) w x | exact xck (h := h) w x (by omega)) ?_
    refine c_X5_addTo (s := s) (xck w x (by omega)) (x.2.2.2.2 s (by omega)) (o.2 s (by omega)).2.2.2.2.1 ?_
    refine st_lstore_n (q := 26) (i := 3) dX8_addTo_25 rfl (by decide) rfl ?_
    first | refine n_iinc (q := 29) dX8_addTo_26 rfl (by decide) rfl ⟨by omega, by omega⟩ ?_ | refine st_iinc (q := 29) dX8_addTo_26 rfl (by decide) rfl ?_
    refine st_goto (q := 5) dX8_addTo_29 (by decide) ?_
    exact lp_X8_addTo w x o hP (s + 1) (by omega)
termination_by y.1 - s
theorem c_X8_addTo {d : Nat} {h : JH} {P : Int → JH → Prop} {y : SY} {b : Nat} {a : Int} (w : WF h) (x : SX h y b) (o : yOk y) (hP : P (itA (dgY y) a y.1) h) : JRl (d + 2) jX8_addTo [vr 13, vl a] h P := by
  refine JRet.of rfl (Nat.le_of_ble_eq_true rfl) ?_
  refine st_lload_n (q := 1) dX8_addTo_0 rfl rfl ?_
  refine st_lstore_n (q := 2) (i := 3) dX8_addTo_1 rfl (by decide) rfl ?_
  refine st_iconst (q := 3) dX8_addTo_2 ⟨by decide, by decide⟩ rfl ?_
  refine st_istore (q := 5) dX8_addTo_3 (by decide) rfl ?_
  exact lp_X8_addTo w x o hP 0 (by omega)
theorem lp2_X6_addTo {d : Nat} {h : JH} {P : Int → JH → Prop} {g : SG} {k : Nat} {a v0 : Int} (w : WF h) (x : GX h g) (o : gOk g) (hk : k < 8) (hK : ∀ j6, JAt k0 (d + 1) jX6_addTo 90 [vr 48, vl v0, vn, vl (sq1 (fun i => if (g k).2.testBit i then 1 else 0) a (g k).1), vn, vi k, j6] [] h (jql P)) (i : Nat) (hi : i ≤ (g k).1) : JAt k0 (d + 1) jX6_addTo 44 [vr 48, vl v0, vn, vl (sq1 (fun i => if (g k).2.testBit i then 1 else 0) a i), vn, vi k, vi i] [] h (jql P) := by
  have xk : hI h 49 ((k : Int)).toNat = ((g k).1 : Int) := (x k hk).1
  have ok := (o k hk).1
  refine st_iload (q := 46) dX6_addTo_44 rfl rfl ?_
  refine st_aload_n (q := 47) dX6_addTo_46 rfl rfl ?_
  refine st_getR (q := 50) 6 0 dX6_addTo_47 fl_X6_9 (by decide) (by decide) rfl rfl (wfk w rfl) (wfR w rfl) ?_
  refine st_iload (q := 52) dX6_addTo_50 rfl rfl ?_
  refine st_iaload (q := 53) dX6_addTo_52 rfl (wfk w rfl) (wfb w (n := 8) rfl ⟨by omega, by omega⟩) ?_
  refine st_icmp_ge (q := 56) (tgt := 90) dX6_addTo_53 (by decide) rfl (fun c53 => ?_) (fun c53 => ?_)
  · rw [show i = (g k).1 by omega]
    exact hK _
  · refine st_iload (q := 58) dX6_addTo_56 rfl rfl ?_
    refine st_bipush (q := 60) dX6_addTo_58 ⟨by decide, by decide⟩ rfl ?_
    refine st_icmp_ge (q := 63) (tgt := 90) dX6_addTo_60 (by decide) rfl (fun c60 => ?_) (fun c60 => ?_)
    · rw [show i = (g k).1 by omega]
      exact hK _
    · refine st_ldc2_w (q := 66) (x := 31) dX6_addTo_63 ⟨by decide, by decide⟩ co_X6_68 rfl ?_
      refine st_lload_n (q := 67) dX6_addTo_66 rfl rfl ?_
      first | refine n_lmul (q := 68) dX6_addTo_67 rfl ⟨by omega, by omega⟩ ?_ | refine st_lmul (q := 68) dX6_addTo_67 rfl ?_
      refine st_aload_n (q := 69) dX6_addTo_68 rfl rfl ?_
      refine st_getR (q := 72) 6 1 dX6_addTo_69 fl_X6_15 (by decide) (by decide) rfl rfl (wfk w rfl) (wfR w rfl) ?_
      refine st_iload (q := 74) dX6_addTo_72 rfl rfl ?_
      refine st_bipush (q := 76) dX6_addTo_74 ⟨by decide, by decide⟩ rfl ?_
      first | refine n_imul (q := 77) dX6_addTo_76 rfl ⟨by omega, by omega⟩ ?_ | refine st_imul (q := 77) dX6_addTo_76 rfl ?_
      refine st_iload (q := 79) dX6_addTo_77 rfl rfl ?_
      first | refine n_iadd (q := 80) dX6_addTo_79 rfl ⟨by omega, by omega⟩ ?_ | refine st_iadd (q := 80) dX6_addTo_79 rfl ?_
      refine st_iaload (q := 81) dX6_addTo_80 rfl (wfk w rfl) (wfb w (n := 64) rfl ⟨by omega, by omega⟩) ?_
      refine j_top (if (g k).2.testBit i then 1 else 0) (by rw [show ((k : Int) * 8 + i).toNat = 8 * k + i by omega]; exact (x k hk).2 i (by omega)) ?_
      refine st_i2l (q := 82) dX6_addTo_81 rfl ?_
      first | refine n_ladd (q := 83) dX6_addTo_82 rfl ⟨by omega, by omega⟩ ?_ | refine st_ladd (q := 83) dX6_addTo_82 rfl ?_
      refine st_lstore_n (q := 84) (i := 3) dX6_addTo_83 rfl (by decide) rfl ?_
      first | refine n_iinc (q := 87) dX6_addTo_84 rfl (by decide) rfl ⟨by omega, by omega⟩ ?_ | refine st_iinc (q := 87) dX6_addTo_84 rfl (by decide) rfl ?_
      refine st_goto (q := 44) dX6_addTo_87 (by decide) ?_
      exact lp2_X6_addTo w x o hk hK (i + 1) (by omega)
termination_by (g k).1 - i
theorem lp1_X6_addTo {d : Nat} {h : JH} {P : Int → JH → Prop} {g : SG} {a v0 : Int} (w : WF h) (x : GX h g) (o : gOk g) (hP : P (itA (dgG g) a 8) h) (k : Nat) (hk : k ≤ 8) : ∀ j6, JAt k0 (d + 1) jX6_addTo 5 [vr 48, vl v0, vn, vl (itA (dgG g) a k), vn, vi k, j6] [] h (jql P) := by
  intro j6
  have xk : k < 8 → hI h 49 ((k : Int)).toNat = ((g k).1 : Int) := fun z => (x k z).1
  have hN : k < 8 → ∀ j6, JAt k0 (d + 1) jX6_addTo 90 [vr 48, vl v0, vn, vl (itA (dgG g) a (k + 1)), vn, vi k, j6] [] h (jql P) := fun hk8 j6 => by
    first | refine n_iinc (q := 93) dX6_addTo_90 rfl (by decide) rfl ⟨by omega, by omega⟩ ?_ | refine st_iinc (q := 93) dX6_addTo_90 rfl (by decide) rfl ?_
    refine st_goto (q := 5) dX6_addTo_93 (by decide) ?_
    exact lp1_X6_addTo w x o hP (k + 1) (by omega) _
  refine st_iload (q := 7) dX6_addTo_5 rfl rfl ?_
  refine st_bipush (q := 9) dX6_addTo_7 ⟨by decide, by decide⟩ rfl ?_
  refine st_icmp_ge (q := 12) (tgt := 96) dX6_addTo_9 (by decide) rfl (fun c9 => ?_) (fun c9 => ?_)
  · refine st_lload_n (q := 97) dX6_addTo_96 rfl rfl ?_
    refine rt_l dX6_addTo_97 rfl ?_
    exact pq hP (by rw [show k = 8 by omega]) rfl
  · refine st_ldc2_w (q := 15) (x := 31) dX6_addTo_12 ⟨by decide, by decide⟩ co_X6_68 rfl ?_
    refine st_lload_n (q := 16) dX6_addTo_15 rfl rfl ?_
    first | refine n_lmul (q := 17) dX6_addTo_16 rfl ⟨by omega, by omega⟩ ?_ | refine st_lmul (q := 17) dX6_addTo_16 rfl ?_
    refine st_aload_n (q := 18) dX6_addTo_17 rfl rfl ?_
    refine st_getR (q := 21) 6 0 dX6_addTo_18 fl_X6_9 (by decide) (by decide) rfl rfl (wfk w rfl) (wfR w rfl) ?_
    refine st_iload (q := 23) dX6_addTo_21 rfl rfl ?_
    refine st_iaload (q := 24) dX6_addTo_23 rfl (wfk w rfl) (wfb w (n := 8) rfl ⟨by omega, by omega⟩) ?_
    apply j_mg 38
    · intro K1 K2
      refine st_if_ne (q := 27) (tgt := 31) dX6_addTo_24 (by decide) rfl (fun c24 => ?_) (fun c24 => ?_)
      · refine st_aload_n (q := 32) dX6_addTo_31 rfl rfl ?_
        refine st_getR (q := 35) 6 0 dX6_addTo_32 fl_X6_9 (by decide) (by decide) rfl rfl (wfk w rfl) (wfR w rfl) ?_
        refine st_iload (q := 37) dX6_addTo_35 rfl rfl ?_
        refine st_iaload (q := 38) dX6_addTo_37 rfl (wfk w rfl) (wfb w (n := 8) rfl ⟨by omega, by omega⟩) ?_
        exact K2 c24
      · refine st_iconst (q := 28) dX6_addTo_27 ⟨by decide, by decide⟩ rfl ?_
        refine st_goto (q := 38) dX6_addTo_28 (by decide) ?_
        exact K1 c24
    · simp only [jif_if]
      refine j_top (if (g k).1 = 0 then -1 else ((g k).1 : Int)) (by have t := xk (by omega); (repeat' split) <;> omega) ?_
      refine st_i2l (q := 39) dX6_addTo_38 rfl ?_
      first | refine n_ladd (q := 40) dX6_addTo_39 rfl ⟨by omega, by omega⟩ ?_ | refine st_ladd (q := 40) dX6_addTo_39 rfl ?_
      refine st_lstore_n (q := 41) (i := 3) dX6_addTo_40 rfl (by decide) rfl ?_
      refine st_iconst (q := 42) dX6_addTo_41 ⟨by decide, by decide⟩ rfl ?_
      refine st_istore (q := 44) dX6_addTo_42 (by decide) rfl ?_
      exact lp2_X6_addTo w x o (by omega) (hN (by omega)) 0 (by omega)
termination_by 8 - k
theorem c_X6_addTo {d : Nat} {h : JH} {P : Int → JH → Prop} {g : SG} {a : Int} (w : WF h) (x : GX h g) (o : gOk g) (hP : P (itA (dgG g) a 8) h) : JRl (d + 1) jX6_addTo [vr 48, vl a] h P := by
  refine JRet.of rfl (Nat.le_of_ble_eq_true rfl) ?_
  refine st_lload_n (q := 1) dX6_addTo_0 rfl rfl ?_
  refine st_lstore_n (q := 2) (i := 3) dX6_addTo_1 rfl (by decide) rfl ?_
  refine st_iconst (q := 3) dX6_addTo_2 ⟨by decide, by decide⟩ rfl ?_
  refine st_istore (q := 5) dX6_addTo_3 (by decide) rfl ?_
  exact lp1_X6_addTo w x o hP 0 (by omega) _
def dgO (q : MO) (m : Nat) (a : Int) : Int := sq1 (fun x => q.2 m x) a 5
theorem dgO_flat {f : Nat → Int} {q : MO} {a : Int} : ∀ {n : Nat}, (∀ m, m < n → ∀ x, x < 5 → f (5 * m + x) = q.2 m x) → sq1 f a (5 * n) = itA (dgO q) a n
  | 0, _ => rfl
  | n + 1, e => by
    have ih := dgO_flat (f := f) (q := q) (a := a) (n := n) (fun m hm => e m (by omega))
    show sq1 f a (5 * n + 5) = dgO q n (itA (dgO q) a n)
    rw [← ih]
    show dgS (dgS (dgS (dgS (dgS (sq1 f a (5 * n)) (f (5 * n + 0))) (f (5 * n + 1))) (f (5 * n + 2))) (f (5 * n + 3))) (f (5 * n + 4)) = _
    rw [e n (by omega) 0 (by omega), e n (by omega) 1 (by omega), e n (by omega) 2 (by omega), e n (by omega) 3 (by omega), e n (by omega) 4 (by omega)]
    rfl
theorem lp2_X0_addTo {d : Nat} {h : JH} {P : Int → JH → Prop} {q : MO} {k : Nat} {a v0 : Int} (w : WF h) (nx : NX h q) (qo : qOk q) (hk : k < q.1) (hK : ∀ j6, JAt k0 (d + 1) jX0_addTo 49 [vr 54, vl v0, vn, vl (dgO q k a), vn, vi k, j6] [] h (jql P)) (i : Nat) (hi : i ≤ 5) : JAt k0 (d + 1) jX0_addTo 17 [vr 54, vl v0, vn, vl (sq1 (fun x => q.2 k x) a i), vn, vi k, vi i] [] h (jql P) := by
  have q1 := qo.1
  refine st_iload (q := 19) dX0_addTo_17 rfl rfl ?_
  refine st_iconst (q := 20) dX0_addTo_19 ⟨by decide, by decide⟩ rfl ?_
  refine st_icmp_ge (q := 23) (tgt := 49) dX0_addTo_20 (by decide) rfl (fun c20 => ?_) (fun c20 => ?_)
  · have ei : i = 5 := by omega
    subst ei
    exact hK _
  · refine st_ldc2_w (q := 26) (x := 31) dX0_addTo_23 ⟨by decide, by decide⟩ co_X0_51 rfl ?_
    refine st_lload_n (q := 27) dX0_addTo_26 rfl rfl ?_
    first | refine n_lmul (q := 28) dX0_addTo_27 rfl ⟨by omega, by omega⟩ ?_ | refine st_lmul (q := 28) dX0_addTo_27 rfl ?_
    refine st_aload_n (q := 29) dX0_addTo_28 rfl rfl ?_
    refine st_getR (q := 32) 0 0 dX0_addTo_29 fl_X0_11 (by decide) (by decide) rfl rfl (by first | exact wfk w rfl | exact xmk (h := h) w (by omega)) (wfR w rfl) ?_
    refine st_iload (q := 34) dX0_addTo_32 rfl rfl ?_
    refine st_aaload (q := 35) (t := 5) dX0_addTo_34 rfl ⟨by decide, by decide⟩ (by first | exact wfk w rfl | exact xmk (h := h) w (by omega)) (wfb w (n := 40) rfl ⟨by omega, by omega⟩) (xmom (h := h) w (by omega)) ?_
    refine st_iload (q := 37) dX0_addTo_35 rfl rfl ?_
    refine iV1i (q := 40) dX0_addTo_37 rfl ml_X0_53 mv_X3_tells (Nat.le_of_ble_eq_true rfl) (by first | exact wfk w rfl | exact xmk (h := h) w (by omega)) ?_
    refine c_X3_tells (xmk w (by omega)) (by omega) ?_
    rw [show hI h (56 + ((k : Int)).toNat) ((i : Int)).toNat = q.2 k i from nx.2 k hk i (by omega)]
    refine st_i2l (q := 41) dX0_addTo_40 rfl ?_
    first | refine n_ladd (q := 42) dX0_addTo_41 rfl ⟨by omega, by omega⟩ ?_ | refine st_ladd (q := 42) dX0_addTo_41 rfl ?_
    refine st_lstore_n (q := 43) (i := 3) dX0_addTo_42 rfl (by decide) rfl ?_
    first | refine n_iinc (q := 46) dX0_addTo_43 rfl (by decide) rfl ⟨by omega, by omega⟩ ?_ | refine st_iinc (q := 46) dX0_addTo_43 rfl (by decide) rfl ?_
    refine st_goto (q := 17) dX0_addTo_46 (by decide) ?_
    exact lp2_X0_addTo w nx qo hk hK (i + 1) (by omega)
termination_by 5 - i
theorem lp1_X0_addTo {d : Nat} {h : JH} {P : Int → JH → Prop} {q : MO} {a v0 : Int} (w : WF h) (nx : NX h q) (qo : qOk q) (hP : P (itA (dgO q) a q.1) h) (k : Nat) (hk : k ≤ q.1) : ∀ j6, JAt k0 (d + 1) jX0_addTo 5 [vr 54, vl v0, vn, vl (itA (dgO q) a k), vn, vi k, j6] [] h (jql P) := by
  intro j6
  have n1 := nx.1
  have q1 := qo.1
  have hN : k < q.1 → ∀ j6, JAt k0 (d + 1) jX0_addTo 49 [vr 54, vl v0, vn, vl (itA (dgO q) a (k + 1)), vn, vi k, j6] [] h (jql P) := fun hk8 j6 => by
    first | refine n_iinc (q := 52) dX0_addTo_49 rfl (by decide) rfl ⟨by omega, by omega⟩ ?_ | refine st_iinc (q := 52) dX0_addTo_49 rfl (by decide) rfl ?_
    refine st_goto (q := 5) dX0_addTo_52 (by decide) ?_
    exact lp1_X0_addTo w nx qo hP (k + 1) (by omega) _
  refine st_iload (q := 7) dX0_addTo_5 rfl rfl ?_
  refine st_aload_n (q := 8) dX0_addTo_7 rfl rfl ?_
  refine st_getI (q := 11) 0 1 dX0_addTo_8 fl_X0_17 (by decide) (by decide) rfl rfl (wfk w rfl) ?_
  refine st_icmp_ge (q := 14) (tgt := 55) dX0_addTo_11 (by decide) rfl (fun c11 => ?_) (fun c11 => ?_)
  · refine st_lload_n (q := 56) dX0_addTo_55 rfl rfl ?_
    refine rt_l dX0_addTo_56 rfl ?_
    exact pq hP (by rw [show k = q.1 by omega]) rfl
  · refine st_iconst (q := 15) dX0_addTo_14 ⟨by decide, by decide⟩ rfl ?_
    refine st_istore (q := 17) dX0_addTo_15 (by decide) rfl ?_
    exact lp2_X0_addTo w nx qo (by omega) (hN (by omega)) 0 (by omega)
termination_by q.1 - k
theorem c_X0_addTo {d : Nat} {h : JH} {P : Int → JH → Prop} {q : MO} {a : Int} (w : WF h) (nx : NX h q) (qo : qOk q) (hP : P (itA (dgO q) a q.1) h) : JRl (d + 1) jX0_addTo [vr 54, vl a] h P := by
  refine JRet.of rfl (Nat.le_of_ble_eq_true rfl) ?_
  refine st_lload_n (q := 1) dX0_addTo_0 rfl rfl ?_
  refine st_lstore_n (q := 2) (i := 3) dX0_addTo_1 rfl (by decide) rfl ?_
  refine st_iconst (q := 3) dX0_addTo_2 ⟨by decide, by decide⟩ rfl ?_
  refine st_istore (q := 5) dX0_addTo_3 (by decide) rfl ?_
  exact lp1_X0_addTo w nx qo hP 0 (by omega) _
def dgX (h : JH) (B : Nat) (r : Nat) (a : Int) : Int := sq1 (hI h (B + 2 * r + 1)) (dgS a (hI h (B + 2 * r) 1)) (hI h (B + 2 * r) 1).toNat
theorem lp3_X11_digest {d : Nat} {h : JH} {P : Int → JH → Prop} {a : Int} (w : WF h) (it : iTx h) (hP : P (itA (dgX h 109) a 4) h) (k : Nat) (hk : k ≤ 4) : JAt k0 (d + 1) jX11_digest 97 [vr 0, vl (itA (dgX h 109) a k), vn, vi k] [] h (jql P) := by
  refine st_iload_n (q := 98) dX11_digest_97 rfl rfl ?_
  refine st_aload_n (q := 99) dX11_digest_98 rfl rfl ?_
  refine st_getR (q := 102) 11 1 dX11_digest_99 fl_X11_15 (by decide) (by decide) rfl rfl (wfk w rfl) (wfR w rfl) ?_
  refine st_arraylength (q := 103) (t := 2) dX11_digest_102 rfl (by decide) (wfk w rfl) ?_
  rw [wfl w (n := 4) rfl]
  refine st_icmp_ge (q := 106) (tgt := 123) dX11_digest_103 (by decide) rfl (fun c103 => ?_) (fun c103 => ?_)
  · refine st_lload_n (q := 124) dX11_digest_123 rfl rfl ?_
    refine rt_l dX11_digest_124 rfl ?_
    exact pq hP (by rw [show k = 4 by omega]) rfl
  · refine st_aload_n (q := 107) dX11_digest_106 rfl rfl ?_
    refine st_getR (q := 110) 11 1 dX11_digest_107 fl_X11_15 (by decide) (by decide) rfl rfl (wfk w rfl) (wfR w rfl) ?_
    refine st_iload_n (q := 111) dX11_digest_110 rfl rfl ?_
    refine st_aaload (q := 112) (t := 2) dX11_digest_111 rfl ⟨by decide, by decide⟩ (wfk w rfl) (wfb w (n := 4) rfl ⟨by omega, by omega⟩) (xtext w (by omega)) ?_
    refine st_lload_n (q := 113) dX11_digest_112 rfl rfl ?_
    refine iV1l (q := 116) dX11_digest_113 rfl ml_X11_404 mv_X9_addTo (Nat.le_of_ble_eq_true rfl) ((sp_text w (by omega)).1) ?_
    refine c_X9_addTo (sp_text w (by omega)) (it.sx _ (by omega)) ?_
    refine st_lstore_n (q := 117) (i := 1) dX11_digest_116 rfl (by decide) rfl ?_
    first | refine n_iinc (q := 120) dX11_digest_117 rfl (by decide) rfl ⟨by omega, by omega⟩ ?_ | refine st_iinc (q := 120) dX11_digest_117 rfl (by decide) rfl ?_
    refine st_goto (q := 97) dX11_digest_120 (by decide) ?_
    exact lp3_X11_digest w it hP (k + 1) (by omega)
termination_by 4 - k
theorem lp2_X11_digest {d : Nat} {h : JH} {P : Int → JH → Prop} {a : Int} (w : WF h) (ir : iRw h) (hK : JAt k0 (d + 1) jX11_digest 95 [vr 0, vl (itA (dgX h 97) a 6), vn, vi 6] [] h (jql P)) (k : Nat) (hk : k ≤ 6) : JAt k0 (d + 1) jX11_digest 69 [vr 0, vl (itA (dgX h 97) a k), vn, vi k] [] h (jql P) := by
  refine st_iload_n (q := 70) dX11_digest_69 rfl rfl ?_
  refine st_aload_n (q := 71) dX11_digest_70 rfl rfl ?_
  refine st_getR (q := 74) 11 0 dX11_digest_71 fl_X11_11 (by decide) (by decide) rfl rfl (wfk w rfl) (wfR w rfl) ?_
  refine st_arraylength (q := 75) (t := 2) dX11_digest_74 rfl (by decide) (wfk w rfl) ?_
  rw [wfl w (n := 6) rfl]
  refine st_icmp_ge (q := 78) (tgt := 95) dX11_digest_75 (by decide) rfl (fun c75 => ?_) (fun c75 => ?_)
  · have ek : k = 6 := by omega
    subst ek
    exact hK
  · refine st_aload_n (q := 79) dX11_digest_78 rfl rfl ?_
    refine st_getR (q := 82) 11 0 dX11_digest_79 fl_X11_11 (by decide) (by decide) rfl rfl (wfk w rfl) (wfR w rfl) ?_
    refine st_iload_n (q := 83) dX11_digest_82 rfl rfl ?_
    refine st_aaload (q := 84) (t := 2) dX11_digest_83 rfl ⟨by decide, by decide⟩ (wfk w rfl) (wfb w (n := 6) rfl ⟨by omega, by omega⟩) (xrow w (by omega)) ?_
    refine st_lload_n (q := 85) dX11_digest_84 rfl rfl ?_
    refine iV1l (q := 88) dX11_digest_85 rfl ml_X11_404 mv_X9_addTo (Nat.le_of_ble_eq_true rfl) ((sp_row w (by omega)).1) ?_
    refine c_X9_addTo (sp_row w (by omega)) (ir.sx _ (by omega)).2 ?_
    refine st_lstore_n (q := 89) (i := 1) dX11_digest_88 rfl (by decide) rfl ?_
    first | refine n_iinc (q := 92) dX11_digest_89 rfl (by decide) rfl ⟨by omega, by omega⟩ ?_ | refine st_iinc (q := 92) dX11_digest_89 rfl (by decide) rfl ?_
    refine st_goto (q := 69) dX11_digest_92 (by decide) ?_
    exact lp2_X11_digest w ir hK (k + 1) (by omega)
termination_by 6 - k
theorem lp1_X11_digest {d : Nat} {h : JH} {P : Int → JH → Prop} {u : HD} {y : SY} {b : Nat} {g : SG} {q : MO} (w : WF h) (ir : iRw h) (it : iTx h) (mu : HM h u) (xu : HX h u) (sm : SM h y) (sx : SX h y b) (gm : GM h g) (gx : GX h g) (nx : NX h q) (qo : qOk q) (hK : JAt k0 (d + 3) jX11_digest 31 [vr 0, vl (sq1 (fun x => ctF h q x) 17 7), vn, vi 7] [] h (jql P)) (k : Nat) (hk : k ≤ 7) : JAt k0 (d + 3) jX11_digest 6 [vr 0, vl (sq1 (fun x => ctF h q x) 17 k), vn, vi k] [] h (jql P) := by
  refine st_iload_n (q := 7) dX11_digest_6 rfl rfl ?_
  refine st_bipush (q := 9) dX11_digest_7 ⟨by decide, by decide⟩ rfl ?_
  refine st_icmp_gt (q := 12) (tgt := 31) dX11_digest_9 (by decide) rfl (fun c9 => ?_) (fun c9 => ?_)
  · have ek : k = 7 := by omega
    subst ek
    exact hK
  · refine st_ldc2_w (q := 15) (x := 31) dX11_digest_12 ⟨by decide, by decide⟩ co_X11_392 rfl ?_
    refine st_lload_n (q := 16) dX11_digest_15 rfl rfl ?_
    first | refine n_lmul (q := 17) dX11_digest_16 rfl ⟨by omega, by omega⟩ ?_ | refine st_lmul (q := 17) dX11_digest_16 rfl ?_
    refine st_aload_n (q := 18) dX11_digest_17 rfl rfl ?_
    refine st_iload_n (q := 19) dX11_digest_18 rfl rfl ?_
    refine iV1i (q := 22) dX11_digest_19 rfl ml_X11_394 mv_X11_count (Nat.le_of_ble_eq_true rfl) (wfk w rfl) ?_
    refine c_X11_count w ir it mu xu sm sx gm gx nx qo (fun z => by exfalso; omega) (fun z => ?_)
    refine st_i2l (q := 23) dX11_digest_22 rfl ?_
    first | refine n_ladd (q := 24) dX11_digest_23 rfl ⟨by omega, by omega⟩ ?_ | refine st_ladd (q := 24) dX11_digest_23 rfl ?_
    refine st_lstore_n (q := 25) (i := 1) dX11_digest_24 rfl (by decide) rfl ?_
    first | refine n_iinc (q := 28) dX11_digest_25 rfl (by decide) rfl ⟨by omega, by omega⟩ ?_ | refine st_iinc (q := 28) dX11_digest_25 rfl (by decide) rfl ?_
    refine st_goto (q := 6) dX11_digest_28 (by decide) ?_
    exact lp1_X11_digest w ir it mu xu sm sx gm gx nx qo hK (k + 1) (by omega)
termination_by 7 - k
theorem pr_digest {d : Nat} {h : JH} (I : Inv h) : TwoL (d + 4) jX11_digest jX12_digest [] h := by
  have w := I.1
  obtain ⟨u, ok, m, x⟩ := I.2.2.2.1
  obtain ⟨y, b, o, sm, sx⟩ := I.2.2.2.2.2.1
  obtain ⟨g, og, gm, gx⟩ := I.2.2.2.2.2.2.1
  obtain ⟨q, qo, nm, nx⟩ := I.2.2.2.2.2.2.2.1
  have ir := I.2.1
  have it := I.2.2.1
  obtain ⟨l1, l2, l3, l4⟩ := I.2.2.2.2.1
  have eF : itA (dgX h 109) (itA (dgX h 97) (itA (dgO q) (itA (dgG g) (itA (dgY y) (dgS (dgS (itA (dgH u) (sq1 (fun x => ctF h q x) 17 7) 8) (hI h 3 1)) (hI h 3 2)) y.1) 8) q.1) 6) 4 = dgM h u y g q := by
    unfold dgM dgN
    rw [dgO_flat (q := q) (fun m hm x hx => nm.2 m hm x hx), l1, l2]
    rw [itA_cg (F := dgX h 97) (G := dgR (hI h 119) (fun r i => hI h 120 (40 * r + i))) (n := 6) (fun k hk z => ?_)]
    · refine itA_cg (fun k hk z => ?_)
      have t := it k hk
      unfold dgX dgR
      rw [show (if hI h 122 k < 0 then -1 else hI h 122 k) = hI h (109 + 2 * k) 1 by split <;> omega, show (hI h (109 + 2 * k) 1).toNat = (hI h 122 k).toNat by omega]
      exact sq1_cg (fun i hi => t.2 i (by omega))
    · have t := ir k hk
      unfold dgX dgR
      rw [show (if hI h 119 k < 0 then -1 else hI h 119 k) = hI h (97 + 2 * k) 1 by split <;> omega, show (hI h (97 + 2 * k) 1).toNat = (hI h 119 k).toNat by omega]
      exact sq1_cg (fun i hi => t.2 i (by omega))
  have gM := c_X12_digest (d := d) (h := h) (u := u) (y := y) (g := g) (q := q) (P := fun v' h2 => dgM h u y g q = v' ∧ Inv h2) w m ok sm o.1 gm og nm qo ir.sz it.sz ⟨rfl, inv_s I (Fq.rf.sJ _ (by unfold rgS; omega))⟩
  rw [← eF] at gM
  have hC : JAt k0 (d + 4) jX11_digest 95 [vr 0, vl (itA (dgX h 97) (itA (dgO q) (itA (dgG g) (itA (dgY y) (dgS (dgS (itA (dgH u) (sq1 (fun x => ctF h q x) 17 7) 8) (hI h 3 1)) (hI h 3 2)) y.1) 8) q.1) 6), vn, vi 6] [] h (jql (fun v h1 => JRl (d + 4) jX12_digest [vr 117] h1 (fun v' h2 => v = v' ∧ Inv h2))) := by
    refine st_iconst (q := 96) dX11_digest_95 ⟨by decide, by decide⟩ rfl ?_
    refine st_istore_n (q := 97) (i := 3) dX11_digest_96 rfl (by decide) rfl ?_
    refine lp3_X11_digest w it ?_ 0 (by omega)
    exact gM
  have hB : JAt k0 (d + 4) jX11_digest 31 [vr 0, vl (sq1 (fun x => ctF h q x) 17 7), vn, vi 7] [] h (jql (fun v h1 => JRl (d + 4) jX12_digest [vr 117] h1 (fun v' h2 => v = v' ∧ Inv h2))) := by
    refine st_aload_n (q := 32) dX11_digest_31 rfl rfl ?_
    refine st_getR (q := 35) 11 2 dX11_digest_32 fl_X11_21 (by decide) (by decide) rfl rfl (wfk w rfl) (wfR w rfl) ?_
    refine st_lload_n (q := 36) dX11_digest_35 rfl rfl ?_
    refine iV1l (q := 39) dX11_digest_36 rfl ml_X11_397 mv_X7_addTo (Nat.le_of_ble_eq_true rfl) (wfk w rfl) ?_
    refine c_X7_addTo w x ok ?_
    refine st_lstore_n (q := 40) (i := 1) dX11_digest_39 rfl (by decide) rfl ?_
    refine st_aload_n (q := 41) dX11_digest_40 rfl rfl ?_
    refine st_getR (q := 44) 11 3 dX11_digest_41 fl_X11_28 (by decide) (by decide) rfl rfl (wfk w rfl) (wfR w rfl) ?_
    refine st_lload_n (q := 45) dX11_digest_44 rfl rfl ?_
    refine iV1l (q := 48) dX11_digest_45 rfl ml_X11_401 mv_X8_addTo (Nat.le_of_ble_eq_true rfl) (wfk w rfl) ?_
    refine c_X8_addTo w sx o.1 ?_
    refine st_lstore_n (q := 49) (i := 1) dX11_digest_48 rfl (by decide) rfl ?_
    refine st_aload_n (q := 50) dX11_digest_49 rfl rfl ?_
    refine st_getR (q := 53) 11 7 dX11_digest_50 fl_X11_56 (by decide) (by decide) rfl rfl (wfk w rfl) (wfR w rfl) ?_
    refine st_lload_n (q := 54) dX11_digest_53 rfl rfl ?_
    refine iV1l (q := 57) dX11_digest_54 rfl ml_X11_402 mv_X6_addTo (Nat.le_of_ble_eq_true rfl) (wfk w rfl) ?_
    refine c_X6_addTo w gx og ?_
    refine st_lstore_n (q := 58) (i := 1) dX11_digest_57 rfl (by decide) rfl ?_
    refine st_aload_n (q := 59) dX11_digest_58 rfl rfl ?_
    refine st_getR (q := 62) 11 8 dX11_digest_59 fl_X11_63 (by decide) (by decide) rfl rfl (wfk w rfl) (wfR w rfl) ?_
    refine st_lload_n (q := 63) dX11_digest_62 rfl rfl ?_
    refine iV1l (q := 66) dX11_digest_63 rfl ml_X11_403 mv_X0_addTo (Nat.le_of_ble_eq_true rfl) (wfk w rfl) ?_
    refine c_X0_addTo w nx qo ?_
    refine st_lstore_n (q := 67) (i := 1) dX11_digest_66 rfl (by decide) rfl ?_
    refine st_iconst (q := 68) dX11_digest_67 ⟨by decide, by decide⟩ rfl ?_
    refine st_istore_n (q := 69) (i := 3) dX11_digest_68 rfl (by decide) rfl ?_
    exact lp2_X11_digest w ir hC 0 (by omega)
  refine JRet.of rfl (Nat.le_of_ble_eq_true rfl) ?_
  refine st_ldc2_w (q := 3) (x := 17) dX11_digest_0 ⟨by decide, by decide⟩ co_X11_390 rfl ?_
  refine st_lstore_n (q := 4) (i := 1) dX11_digest_3 rfl (by decide) rfl ?_
  refine st_iconst (q := 5) dX11_digest_4 ⟨by decide, by decide⟩ rfl ?_
  refine st_istore_n (q := 6) (i := 3) dX11_digest_5 rfl (by decide) rfl ?_
  exact lp1_X11_digest w ir it m x sm sx gm gx nx qo hB 0 (by omega)

