/-! hands: the class's fitting, its whole; both -/
def pkN (S N : Nat) : Nat → Nat
  | 0 => 0
  | k + 1 => if N.testBit k then pkN S N k ||| bt S k * 2 ^ pcN N k else pkN S N k
theorem bt_tb (x k i : Nat) : (bt x k).testBit i = (decide (i = 0) && x.testBit k) := by
  unfold bt
  cases x.testBit k
  · simp
  · by_cases z : i = 0
    · subst z; simp
    · rw [if_pos rfl, Nat.testBit_lt_two_pow (Nat.one_lt_two_pow z)]
      simp [z]
theorem pkN_tb (S N : Nat) : ∀ k i, (pkN S N k).testBit i = (decide (i < pcN N k) && S.testBit (csF N k i))
  | 0, i => by
    show (0 : Nat).testBit i = (decide (i < 0) && _)
    simp
  | k + 1, i => by
    have ih := pkN_tb S N k i
    have e0 := pcN_bt N k
    have ec : csF N (k + 1) = if N.testBit k then fup (csF N k) (pcN N k) k else csF N k := rfl
    show (if N.testBit k then pkN S N k ||| bt S k * 2 ^ pcN N k else pkN S N k).testBit i = _
    by_cases z : N.testBit k = true
    · have e1 : bt N k = 1 := if_pos z
      rw [if_pos z, ec, if_pos z, Nat.testBit_or, ih, Nat.testBit_mul_two_pow, bt_tb, e0, e1]
      by_cases z1 : i < pcN N k
      · rw [decide_eq_true z1, decide_eq_false (show ¬ pcN N k ≤ i by omega), decide_eq_true (show i < pcN N k + 1 by omega), fup_o _ (by omega)]
        simp
      · by_cases z2 : i = pcN N k
        · subst z2
          rw [decide_eq_false z1, decide_eq_true (Nat.le_refl _), Nat.sub_self, decide_eq_true (show pcN N k < pcN N k + 1 by omega), fup_s]
          simp
        · rw [decide_eq_false z1, decide_eq_false (show ¬ i - pcN N k = 0 by omega), decide_eq_false (show ¬ i < pcN N k + 1 by omega)]
          simp
    · have e1 : bt N k = 0 := if_neg z
      rw [if_neg z, ec, if_neg z, ih, e0, e1, Nat.add_zero]
theorem pkN_lt (S N k : Nat) : pkN S N k < 2 ^ pcN N k := by
  apply Nat.lt_pow_two_of_testBit
  intro i hi
  rw [pkN_tb, decide_eq_false (by omega), Bool.false_and]
theorem lp_X1_packed {d : Nat} {h : JH} {P : Int → JH → Prop} {S N : Nat} (hS : S < 256) (hN : N < 256) (hP : P (pkN S N 8 : Nat) h) (k : Nat) (hk : k ≤ 8) : JAt k0 d jX1_packed 7 [vi S, vi N, vi (pkN S N k : Nat), vi (pcN N k : Nat), vi k] [] h (jqi P) := by
  have l1 := pcN_le N k
  have e0 := pcN_bt N k
  have l2 := bt_b N k
  have l3 := bt_b S k
  have ec : pkN S N (k + 1) = if N.testBit k then pkN S N k ||| bt S k * 2 ^ pcN N k else pkN S N k := rfl
  have l4 := pkN_lt S N k
  have l5 : 2 ^ pcN N k ≤ 256 := show 2 ^ pcN N k ≤ 2 ^ 8 from Nat.pow_le_pow_right (by decide) (by omega)
  have l6 : bt S k * 2 ^ pcN N k ≤ 256 := by have := Nat.mul_le_mul l3 l5; omega
  have bn : ∀ x, x < 256 → k < 8 → iand (ishr (x : Nat) (k : Nat)) 1 = ((bt x k : Nat) : Int) := fun x hx hk => by
    rw [bit_n (by omega) (by omega)]
    unfold bt
    cases x.testBit k <;> rfl
  refine st_iload (q := 9) dX1_packed_7 rfl rfl ?_
  refine st_bipush (q := 11) dX1_packed_9 ⟨by decide, by decide⟩ rfl ?_
  refine st_icmp_ge (q := 14) (tgt := 43) dX1_packed_11 (by decide) rfl (fun c11 => ?_) (fun c11 => ?_)
  · refine st_iload_n (q := 44) dX1_packed_43 rfl rfl ?_
    refine rt_i dX1_packed_44 rfl ?_
    exact pq hP (by rw [show k = 8 by omega]) rfl
  · refine st_iload_n (q := 15) dX1_packed_14 rfl rfl ?_
    refine st_iload (q := 17) dX1_packed_15 rfl rfl ?_
    refine st_ishr (q := 18) dX1_packed_17 rfl ?_
    refine st_iconst (q := 19) dX1_packed_18 ⟨by decide, by decide⟩ rfl ?_
    refine st_iand (q := 20) dX1_packed_19 rfl ?_
    refine j_top ((bt N k : Nat) : Int) (bn N hN (by omega)) ?_
    refine st_if_eq (q := 23) (tgt := 37) dX1_packed_20 (by decide) rfl (fun c20 => ?_) (fun c20 => ?_)
    · first | refine n_iinc (q := 40) dX1_packed_37 rfl (by decide) rfl ⟨by omega, by omega⟩ ?_ | refine st_iinc (q := 40) dX1_packed_37 rfl (by decide) rfl ?_
      refine st_goto (q := 7) dX1_packed_40 (by decide) ?_
      have t := lp_X1_packed (d := d) hS hN hP (k + 1) (by omega)
      first | (have zb : N.testBit k = true := (by by_cases z : N.testBit k = true; exact z; (have := bt_1.mpr z; exfalso; omega)); rw [if_pos zb] at ec; rw [show pcN N (k + 1) = pcN N k + 1 by omega, ec] at t; exact t) | (have zb : ¬ N.testBit k = true := bt_1.mp (by omega); rw [if_neg zb] at ec; rw [show pcN N (k + 1) = pcN N k by omega, ec] at t; exact t)
    · refine st_iload_n (q := 24) dX1_packed_23 rfl rfl ?_
      refine st_iload_n (q := 25) dX1_packed_24 rfl rfl ?_
      refine st_iload (q := 27) dX1_packed_25 rfl rfl ?_
      refine st_ishr (q := 28) dX1_packed_27 rfl ?_
      refine st_iconst (q := 29) dX1_packed_28 ⟨by decide, by decide⟩ rfl ?_
      refine st_iand (q := 30) dX1_packed_29 rfl ?_
      refine j_top ((bt S k : Nat) : Int) (bn S hS (by omega)) ?_
      refine st_iload_n (q := 31) dX1_packed_30 rfl rfl ?_
      refine st_ishl (q := 32) dX1_packed_31 rfl ?_
      refine j_top ((bt S k * 2 ^ pcN N k : Nat) : Int) (ishl_n (by omega) (by omega)) ?_
      refine st_ior (q := 33) dX1_packed_32 rfl ?_
      refine j_top ((pkN S N k ||| bt S k * 2 ^ pcN N k : Nat) : Int) (ior_n (by omega) (by omega)) ?_
      refine st_istore_n (q := 34) (i := 2) dX1_packed_33 rfl (by decide) rfl ?_
      first | refine n_iinc (q := 37) dX1_packed_34 rfl (by decide) rfl ⟨by omega, by omega⟩ ?_ | refine st_iinc (q := 37) dX1_packed_34 rfl (by decide) rfl ?_
      first | refine n_iinc (q := 40) dX1_packed_37 rfl (by decide) rfl ⟨by omega, by omega⟩ ?_ | refine st_iinc (q := 40) dX1_packed_37 rfl (by decide) rfl ?_
      refine st_goto (q := 7) dX1_packed_40 (by decide) ?_
      have t := lp_X1_packed (d := d) hS hN hP (k + 1) (by omega)
      first | (have zb : N.testBit k = true := (by by_cases z : N.testBit k = true; exact z; (have := bt_1.mpr z; exfalso; omega)); rw [if_pos zb] at ec; rw [show pcN N (k + 1) = pcN N k + 1 by omega, ec] at t; exact t) | (have zb : ¬ N.testBit k = true := bt_1.mp (by omega); rw [if_neg zb] at ec; rw [show pcN N (k + 1) = pcN N k by omega, ec] at t; exact t)
termination_by 8 - k
theorem c_X1_packed {d : Nat} {h : JH} {P : Int → JH → Prop} {S N : Nat} (hS : S < 256) (hN : N < 256) (hP : P (pkN S N 8 : Nat) h) : JRi d jX1_packed [vi S, vi N] h P := by
  refine JRet.of rfl (Nat.le_of_ble_eq_true rfl) ?_
  refine st_iconst (q := 1) dX1_packed_0 ⟨by decide, by decide⟩ rfl ?_
  refine st_istore_n (q := 2) (i := 2) dX1_packed_1 rfl (by decide) rfl ?_
  refine st_iconst (q := 3) dX1_packed_2 ⟨by decide, by decide⟩ rfl ?_
  refine st_istore_n (q := 4) (i := 3) dX1_packed_3 rfl (by decide) rfl ?_
  refine st_iconst (q := 5) dX1_packed_4 ⟨by decide, by decide⟩ rfl ?_
  refine st_istore (q := 7) dX1_packed_5 (by decide) rfl ?_
  exact lp_X1_packed hS hN hP 0 (by omega)
theorem outN_tb (s i : Nat) : ∀ k, (outN s k).testBit i = decide (i < k ∧ 0 < dg3 s i)
  | 0 => by show (0 : Nat).testBit i = _; simp
  | k + 1 => by
    show (outN s k ||| (if 0 < dg3 s k then 2 ^ k else 0)).testBit i = _
    rw [Nat.testBit_or, outN_tb s i k]
    by_cases z : i = k
    · subst z
      rw [decide_eq_false (show ¬ (i < i ∧ 0 < dg3 s i) by omega)]
      by_cases z2 : 0 < dg3 s i
      · rw [if_pos z2, Nat.testBit_two_pow_self, decide_eq_true (show i < i + 1 ∧ 0 < dg3 s i by omega)]; rfl
      · rw [if_neg z2, Nat.zero_testBit, decide_eq_false (show ¬ (i < i + 1 ∧ 0 < dg3 s i) by omega)]; rfl
    · have e : (if 0 < dg3 s k then 2 ^ k else 0).testBit i = false := by
        split
        · rw [Nat.testBit_two_pow]; exact decide_eq_false (by omega)
        · exact Nat.zero_testBit i
      rw [e, Bool.or_false]
      by_cases z2 : i < k ∧ 0 < dg3 s i
      · rw [decide_eq_true z2, decide_eq_true (by omega)]
      · rw [decide_eq_false z2, decide_eq_false (by omega)]
theorem helN_tb (s i : Nat) : ∀ k, (helN s k).testBit i = decide (i < k ∧ 1 < dg3 s i)
  | 0 => by show (0 : Nat).testBit i = _; simp
  | k + 1 => by
    show (helN s k ||| (if 1 < dg3 s k then 2 ^ k else 0)).testBit i = _
    rw [Nat.testBit_or, helN_tb s i k]
    by_cases z : i = k
    · subst z
      rw [decide_eq_false (show ¬ (i < i ∧ 1 < dg3 s i) by omega)]
      by_cases z2 : 1 < dg3 s i
      · rw [if_pos z2, Nat.testBit_two_pow_self, decide_eq_true (show i < i + 1 ∧ 1 < dg3 s i by omega)]; rfl
      · rw [if_neg z2, Nat.zero_testBit, decide_eq_false (show ¬ (i < i + 1 ∧ 1 < dg3 s i) by omega)]; rfl
    · have e : (if 1 < dg3 s k then 2 ^ k else 0).testBit i = false := by
        split
        · rw [Nat.testBit_two_pow]; exact decide_eq_false (by omega)
        · exact Nat.zero_testBit i
      rw [e, Bool.or_false]
      by_cases z2 : i < k ∧ 1 < dg3 s i
      · rw [decide_eq_true z2, decide_eq_true (by omega)]
      · rw [decide_eq_false z2, decide_eq_false (by omega)]
theorem outN_lt (s : Nat) : outN s 6 < 64 := by
  apply Nat.lt_pow_two_of_testBit (n := 6)
  intro i hi
  rw [outN_tb]; exact decide_eq_false (by omega)
theorem helN_lt (s : Nat) : helN s 6 < 64 := by
  apply Nat.lt_pow_two_of_testBit (n := 6)
  intro i hi
  rw [helN_tb]; exact decide_eq_false (by omega)
theorem or64_tb {x : Nat} (y : Nat) (hx : x < 64) (i : Nat) : (y * 64 ||| x).testBit i = if i < 6 then x.testBit i else y.testBit (i - 6) := by
  rw [show y * 64 = y * 2 ^ 6 from rfl, Nat.testBit_or, Nat.testBit_mul_two_pow]
  by_cases z : i < 6
  · rw [if_pos z, decide_eq_false (by omega)]; simp
  · have e : x.testBit i = false := Nat.testBit_lt_two_pow (Nat.lt_of_lt_of_le hx (show 2 ^ 6 ≤ 2 ^ i from Nat.pow_le_pow_right (by decide) (by omega)))
    rw [if_neg z, decide_eq_true (by omega), e]; simp
theorem or64_lt {x y : Nat} (hx : x < 64) (hy : y < 64) : y * 64 ||| x < 4096 := Nat.or_lt_two_pow (n := 12) (by omega) (by omega)
theorem or64_d {x y : Nat} (hx : x < 64) : (y * 64 ||| x) / 64 = y := by
  apply Nat.eq_of_testBit_eq
  intro i
  rw [show (64 : Nat) = 2 ^ 6 from rfl, Nat.testBit_div_two_pow, show (2 : Nat) ^ 6 = 64 from rfl, or64_tb y hx, if_neg (by omega), show i + 6 - 6 = i by omega]
theorem dg_hi {s n i : Nat} (hs : s < 3 ^ n) (hi : n ≤ i) : dg3 s i = 0 := by
  unfold dg3
  rw [Nat.div_eq_of_lt (Nat.lt_of_lt_of_le hs (Nat.pow_le_pow_right (by decide) hi))]
theorem fit_dem {S H N n s : Nat} (en : n = pcN N 8) (hn : n ≤ 6) (hs : s < 3 ^ n) : nandn (pkN H N 8 * 64 ||| pkN S N 8) (helN s 6 * 64 ||| outN s 6) = 0 ↔ Dem S H (csF N 8) n (dgF 3 s) := by
  have q : 2 ^ pcN N 8 ≤ 64 := show 2 ^ pcN N 8 ≤ 2 ^ 6 from Nat.pow_le_pow_right (by decide) (by omega)
  have lS := pkN_lt S N 8
  have lH := pkN_lt H N 8
  have lW := or64_lt (x := pkN S N 8) (y := pkN H N 8) (by omega) (by omega)
  rw [nandn_0 (by omega)]
  constructor
  · intro a i hi
    constructor
    · intro z
      have t := a i (by rw [or64_tb _ (by omega), if_pos (by omega), pkN_tb, z, decide_eq_true (by omega)]; rfl)
      rw [or64_tb _ (outN_lt s), if_pos (by omega), outN_tb] at t
      exact (of_decide_eq_true t).2
    · intro z
      have t := a (i + 6) (by rw [or64_tb _ (by omega), if_neg (by omega), show i + 6 - 6 = i by omega, pkN_tb, z, decide_eq_true (by omega)]; rfl)
      rw [or64_tb _ (outN_lt s), if_neg (by omega), show i + 6 - 6 = i by omega, helN_tb] at t
      exact (of_decide_eq_true t).2
  · intro a i z
    rw [or64_tb _ (by omega)] at z
    rw [or64_tb _ (outN_lt s)]
    by_cases zi : i < 6
    · rw [if_pos zi, pkN_tb, Bool.and_eq_true] at z
      rw [if_pos zi, outN_tb]
      have z1 := of_decide_eq_true z.1
      exact decide_eq_true ⟨zi, (a i (by omega)).1 z.2⟩
    · rw [if_neg zi, pkN_tb, Bool.and_eq_true] at z
      rw [if_neg zi, helN_tb]
      have z1 := of_decide_eq_true z.1
      exact decide_eq_true ⟨by omega, (a (i - 6) (by omega)).2 z.2⟩
theorem fit_tw {n s : Nat} (hn : n ≤ 6) (hs : s < 3 ^ n) : pcN (helN s 6) 16 ≤ 2 ↔ Tw2 n (dgF 3 s) := by
  have d3 : ∀ i, dgF 3 s i < 3 := fun i => Nat.mod_lt _ (by decide)
  have eb : ∀ i, (helN s 6).testBit i = true ↔ (i < n ∧ dgF 3 s i = 2) := fun i => by
    have b := d3 i
    have e : dgF 3 s i = dg3 s i := rfl
    rw [helN_tb, e]
    rw [e] at b
    constructor
    · intro z
      have z1 := of_decide_eq_true z
      by_cases zn : i < n
      · exact ⟨zn, by omega⟩
      · have := dg_hi hs (show n ≤ i by omega); omega
    · intro z
      exact decide_eq_true (by omega)
  rw [pcN_cn]
  constructor
  · intro h i j k hi hj hk ei ej ek
    exact cn_2 h i j k (by omega) (by omega) (by omega) ((eb i).mpr ⟨hi, ei⟩) ((eb j).mpr ⟨hj, ej⟩) ((eb k).mpr ⟨hk, ek⟩)
  · intro t
    by_cases z : 3 ≤ cnB (helN s 6).testBit 16
    · obtain ⟨i, j, k, h1, h2, h3, bi, bj, bk⟩ := cn_g3 z
      have a1 := (eb i).mp bi
      have a2 := (eb j).mp bj
      have a3 := (eb k).mp bk
      have := t i j k a1.1 a2.1 a3.1 a1.2 a2.2 a3.2
      omega
    · omega
theorem lp_X1_keep {d : Nat} {h0 : JH} {P : JH → Prop} {S H N n : Nat} (w0 : WF h0) (k0m : iMk h0) (en : n = pcN N 8) (hn : n ≤ 6) (b0 : bdC 3 n (hI h0 43)) (hP : ∀ h', Fr ScXc h0 h' → bdC 3 n (hI h' 43) → FitP 3 n (fun p => Tw2 n p ∧ Dem S H (csF N 8) n p) (hI h0 43) (hI h' 43) → P h') (s : Nat) (hs : s ≤ 3 ^ n) : ∀ h' j4, Fr ScXc h0 h' → (∀ x, s ≤ x → hI h' 43 x = hI h0 43 x) → bdC 3 n (hI h' 43) → (∀ x, x < s → ((Tw2 n (dgF 3 x) ∧ Dem S H (csF N 8) n (dgF 3 x)) → hI h' 43 x = hI h0 43 x) ∧ (¬ (Tw2 n (dgF 3 x) ∧ Dem S H (csF N 8) n (dgF 3 x)) → hI h' 43 x = 1000000)) → JAt k0 (d + 1) jX1_keepFitting 2 [vr 41, vi (3 ^ n : Nat), vi (pkN H N 8 * 64 ||| pkN S N 8 : Nat), vi s, j4] [] h' (jqv P) := by
  intro h' j4 f c1 b c2
  have w := f.wf w0
  have h7 : 3 ^ n ≤ 729 := show 3 ^ n ≤ 3 ^ 6 from Nat.pow_le_pow_right (by decide) hn
  have q : 2 ^ pcN N 8 ≤ 64 := show 2 ^ pcN N 8 ≤ 2 ^ 6 from Nat.pow_le_pow_right (by decide) (by omega)
  have lS := pkN_lt S N 8
  have lH := pkN_lt H N 8
  have lW := or64_lt (x := pkN S N 8) (y := pkN H N 8) (by omega) (by omega)
  have l1 := outN_lt s
  have l2 := helN_lt s
  have lM := or64_lt l1 l2
  have mk : s < 3 ^ n → hI h' 42 s = ((helN s 6 * 64 ||| outN s 6 : Nat) : Int) := fun z => (f.2.2 _ _ (by unfold ScXc; omega)).trans (k0m s (by omega))
  have fd : s < 3 ^ n → _ := fun z => fit_dem (S := S) (H := H) (N := N) en hn z
  have ft : s < 3 ^ n → _ := fun z => fit_tw (n := n) hn z
  have up : bdC 3 n (hI (sI h' 43 s 1000000) 43) := fun x hx => by
    by_cases e : x = s
    · subst e; rw [sI_s]; decide
    · rw [sI_k _ e]; exact b x hx
  have nz : s < 3 ^ n → ¬ (Tw2 n (dgF 3 s) ∧ Dem S H (csF N 8) n (dgF 3 s)) → ∀ j4, JAt k0 (d + 1) jX1_keepFitting 55 [vr 41, vi (3 ^ n : Nat), vi (pkN H N 8 * 64 ||| pkN S N 8 : Nat), vi s, j4] [] h' (jqv P) := by
    intro hz nq j4
    refine st_aload_n (q := 56) dX1_keepFitting_55 rfl rfl ?_
    refine st_getR (q := 59) 1 1 dX1_keepFitting_56 fl_X1_15 (by decide) (by decide) rfl rfl (wfk w rfl) (wfR w rfl) ?_
    refine st_iload_n (q := 60) dX1_keepFitting_59 rfl rfl ?_
    refine st_ldc (q := 62) (x := 1000000) dX1_keepFitting_60 ⟨by decide, by decide⟩ co_X1_30 rfl ?_
    refine st_iastore (q := 63) dX1_keepFitting_62 rfl (wfk w rfl) (wfb w (n := 729) rfl ⟨by omega, by omega⟩) ?_
    first | refine n_iinc (q := 66) dX1_keepFitting_63 rfl (by decide) rfl ⟨by omega, by omega⟩ ?_ | refine st_iinc (q := 66) dX1_keepFitting_63 rfl (by decide) rfl ?_
    refine st_goto (q := 2) dX1_keepFitting_66 (by decide) ?_
    exact lp_X1_keep w0 k0m en hn b0 hP (s + 1) (by omega) _ _ (f.sI _ rfl) (fun x hx => by rw [show ((s : Int)).toNat = s from rfl, sI_k _ (show x ≠ s by omega)]; exact c1 x (by omega)) up (fun x hx => by rw [show ((s : Int)).toNat = s from rfl]; by_cases e : x = s; (subst e; rw [sI_s]; exact ⟨fun z => absurd z nq, fun _ => rfl⟩); (rw [sI_k _ e]; exact c2 x (by omega)))
  refine st_iload_n (q := 3) dX1_keepFitting_2 rfl rfl ?_
  refine st_iload_n (q := 4) dX1_keepFitting_3 rfl rfl ?_
  refine st_icmp_ge (q := 7) (tgt := 69) dX1_keepFitting_4 (by decide) rfl (fun c4 => ?_) (fun c4 => ?_)
  · refine rt_v dX1_keepFitting_69 rfl ?_
    exact hP _ f b (FitP_of td_cg (fun x hx => c2 x (by omega)))
  · refine st_iload_n (q := 8) dX1_keepFitting_7 rfl rfl ?_
    refine st_sipush (q := 11) dX1_keepFitting_8 ⟨by decide, by decide⟩ rfl ?_
    refine st_icmp_ge (q := 14) (tgt := 69) dX1_keepFitting_11 (by decide) rfl (fun c11 => ?_) (fun c11 => ?_)
    · refine rt_v dX1_keepFitting_69 rfl ?_
      exact hP _ f b (FitP_of td_cg (fun x hx => c2 x (by omega)))
    · have hz : s < 3 ^ n := (by omega)
      have mk := mk hz
      have fd := fd hz
      have ft := ft hz
      refine st_iload_n (q := 15) dX1_keepFitting_14 rfl rfl ?_
      refine st_aload_n (q := 16) dX1_keepFitting_15 rfl rfl ?_
      refine st_getR (q := 19) 1 0 dX1_keepFitting_16 fl_X1_11 (by decide) (by decide) rfl rfl (wfk w rfl) (wfR w rfl) ?_
      refine st_iload_n (q := 20) dX1_keepFitting_19 rfl rfl ?_
      refine st_iaload (q := 21) dX1_keepFitting_20 rfl (wfk w rfl) (wfb w (n := 729) rfl ⟨by omega, by omega⟩) ?_
      refine j_top ((helN s 6 * 64 ||| outN s 6 : Nat) : Int) mk ?_
      refine st_iconst (q := 22) dX1_keepFitting_21 ⟨by decide, by decide⟩ rfl ?_
      refine st_ixor (q := 23) dX1_keepFitting_22 rfl ?_
      refine st_iand (q := 24) dX1_keepFitting_23 rfl ?_
      refine j_top ((nandn (pkN H N 8 * 64 ||| pkN S N 8) (helN s 6 * 64 ||| outN s 6) : Nat) : Int) (iandn_n (by omega) (by omega)) ?_
      refine st_if_ne (q := 27) (tgt := 31) dX1_keepFitting_24 (by decide) rfl (fun c24 => ?_) (fun c24 => ?_)
      · refine st_iconst (q := 32) dX1_keepFitting_31 ⟨by decide, by decide⟩ rfl ?_
        refine st_istore (q := 34) dX1_keepFitting_32 (by decide) rfl ?_
        refine st_iload (q := 36) dX1_keepFitting_34 rfl rfl ?_
        refine st_if_eq (q := 39) (tgt := 55) dX1_keepFitting_36 (by decide) rfl (fun _ => ?_) (fun z => absurd z (by decide))
        first | exact nz hz (fun t => by have := ft.mpr t.1; omega) _ | exact nz hz (fun t => by have := fd.mpr t.2; omega) _ | (exfalso; omega)
      · refine st_iconst (q := 28) dX1_keepFitting_27 ⟨by decide, by decide⟩ rfl ?_
        refine st_goto (q := 32) dX1_keepFitting_28 (by decide) ?_
        refine st_istore (q := 34) dX1_keepFitting_32 (by decide) rfl ?_
        refine st_iload (q := 36) dX1_keepFitting_34 rfl rfl ?_
        refine st_if_eq (q := 39) (tgt := 55) dX1_keepFitting_36 (by decide) rfl (fun z => absurd z (by decide)) (fun _ => ?_)
        refine st_aload_n (q := 40) dX1_keepFitting_39 rfl rfl ?_
        refine st_getR (q := 43) 1 0 dX1_keepFitting_40 fl_X1_11 (by decide) (by decide) rfl rfl (wfk w rfl) (wfR w rfl) ?_
        refine st_iload_n (q := 44) dX1_keepFitting_43 rfl rfl ?_
        refine st_iaload (q := 45) dX1_keepFitting_44 rfl (wfk w rfl) (wfb w (n := 729) rfl ⟨by omega, by omega⟩) ?_
        refine j_top ((helN s 6 * 64 ||| outN s 6 : Nat) : Int) mk ?_
        refine st_bipush (q := 47) dX1_keepFitting_45 ⟨by decide, by decide⟩ rfl ?_
        refine st_ishr (q := 48) dX1_keepFitting_47 rfl ?_
        refine j_top ((helN s 6 : Nat) : Int) (by rw [show (6 : Int) = ((6 : Nat) : Int) from rfl, ishr_n (by omega) (by decide), show (2 : Nat) ^ 6 = 64 from rfl, or64_d l1]) ?_
        refine iS1i (q := 51) dX1_keepFitting_48 rfl ml_X1_24 ms_J6_bitCount_0f7a4 (Nat.le_of_ble_eq_true rfl) ?_
        refine c_bitCount (by omega) ?_
        refine st_iconst (q := 52) dX1_keepFitting_51 ⟨by decide, by decide⟩ rfl ?_
        refine st_icmp_le (q := 55) (tgt := 63) dX1_keepFitting_52 (by decide) rfl (fun c52 => ?_) (fun c52 => ?_)
        · first | refine n_iinc (q := 66) dX1_keepFitting_63 rfl (by decide) rfl ⟨by omega, by omega⟩ ?_ | refine st_iinc (q := 66) dX1_keepFitting_63 rfl (by decide) rfl ?_
          refine st_goto (q := 2) dX1_keepFitting_66 (by decide) ?_
          first | exact lp_X1_keep w0 k0m en hn b0 hP (s + 1) (by omega) _ _ f (fun x hx => c1 x (by omega)) b (fun x hx => by by_cases e : x = s; (subst e; exact ⟨fun _ => c1 x (by omega), fun z => absurd ⟨ft.mp (by omega), fd.mp (by omega)⟩ z⟩); exact c2 x (by omega)) | (exfalso; omega)
        · first | exact nz hz (fun t => by have := ft.mpr t.1; omega) _ | exact nz hz (fun t => by have := fd.mpr t.2; omega) _ | (exfalso; omega)
termination_by 3 ^ n - s
theorem c_X1_keepFitting {d : Nat} {h : JH} {P : JH → Prop} {S H N n : Nat} (w : WF h) (mk : iMk h) (en : n = pcN N 8) (hn : n ≤ 6) (b : bdC 3 n (hI h 43)) (hP : ∀ h', Fr ScXc h h' → bdC 3 n (hI h' 43) → FitP 3 n (fun p => Tw2 n p ∧ Dem S H (csF N 8) n p) (hI h 43) (hI h' 43) → P h') : JRv (d + 1) jX1_keepFitting [vr 41, vi (3 ^ n : Nat), vi (pkN H N 8 * 64 ||| pkN S N 8 : Nat)] h P := by
  refine JRet.of rfl (Nat.le_of_ble_eq_true rfl) ?_
  refine st_iconst (q := 1) dX1_keepFitting_0 ⟨by decide, by decide⟩ rfl ?_
  refine st_istore_n (q := 2) (i := 3) dX1_keepFitting_1 rfl (by decide) rfl ?_
  exact lp_X1_keep w mk en hn b hP 0 (Nat.zero_le _) _ _ Fr.rf (fun _ _ => rfl) b (fun x hx => absurd hx (by omega))

