/-! both sides answer alike: knock, clear -/
def awF (f : Nat → Int) (lo hi : Int) : Nat → Bool
  | 0 => true
  | k + 1 => awF f lo hi k && decide (lo ≤ f k ∧ f k ≤ hi)
theorem awF_f {f : Nat → Int} {lo hi : Int} {k : Nat} (h : awF f lo hi k = false) : ∀ n, k ≤ n → awF f lo hi n = false
  | 0, hn => by rw [show k = 0 by omega] at h; exact h
  | n + 1, hn => by
    by_cases e : k = n + 1
    · rw [← e]; exact h
    · show (awF f lo hi n && decide (lo ≤ f n ∧ f n ≤ hi)) = false
      rw [awF_f h n (by omega)]; rfl
theorem lp_X9_isAllWithin {d : Nat} {h : JH} {P : Int → JH → Prop} {a n : Nat} {lo hi : Int} (s : SP h a) (hz : hI h a 1 = (n : Int)) (hn : n ≤ 60) (hP : P (if awF (hI h (a + 1)) lo hi n then 1 else 0) h) (k : Nat) (hk : k ≤ n) (ht : awF (hI h (a + 1)) lo hi k = true) : JAt k0 (d + 1) jX9_isAllWithin 2 [vr a, vi lo, vi hi, vi k] [] h (jqi P) := by
  have e0 : awF (hI h (a + 1)) lo hi (k + 1) = (awF (hI h (a + 1)) lo hi k && decide (lo ≤ hI h (a + 1) k ∧ hI h (a + 1) k ≤ hi)) := rfl
  rw [ht, Bool.true_and] at e0
  refine st_iload_n (q := 3) dX9_isAllWithin_2 rfl rfl ?_
  refine st_aload_n (q := 4) dX9_isAllWithin_3 rfl rfl ?_
  refine st_getI (q := 7) 9 1 dX9_isAllWithin_4 fl_X9_15 (by decide) (by decide) rfl rfl (by first | exact s.1 | exact s.2.2.1) ?_
  refine st_icmp_ge (q := 10) (tgt := 32) dX9_isAllWithin_7 (by decide) rfl (fun c7 => ?_) (fun c7 => ?_)
  · refine st_iconst (q := 33) dX9_isAllWithin_32 ⟨by decide, by decide⟩ rfl ?_
    refine rt_z dX9_isAllWithin_33 rfl (by (repeat' split) <;> omega) ?_
    have ek : k = n := by omega
    subst ek
    rw [ht] at hP
    exact hP
  · refine st_aload_n (q := 11) dX9_isAllWithin_10 rfl rfl ?_
    refine st_getR (q := 14) 9 0 dX9_isAllWithin_11 fl_X9_9 (by decide) (by decide) rfl rfl (by first | exact s.1 | exact s.2.2.1) (s.2.1) ?_
    refine st_iload_n (q := 15) dX9_isAllWithin_14 rfl rfl ?_
    refine st_iaload (q := 16) dX9_isAllWithin_15 rfl (by first | exact s.1 | exact s.2.2.1) (spb s ⟨by omega, by omega⟩) ?_
    rw [show ((k : Int)).toNat = k from rfl]
    refine st_iload_n (q := 17) dX9_isAllWithin_16 rfl rfl ?_
    refine st_iload_n (q := 18) dX9_isAllWithin_17 rfl rfl ?_
    refine iN3i (q := 21) dX9_isAllWithin_18 rfl mn_X9_29 ms_X11_isWithin (Nat.le_of_ble_eq_true rfl) ?_
    refine c_X11_isWithin ?_
    refine st_if_ne (q := 24) (tgt := 26) dX9_isAllWithin_21 (by decide) rfl (fun c21 => ?_) (fun c21 => ?_)
    · first | refine n_iinc (q := 29) dX9_isAllWithin_26 rfl (by decide) rfl ⟨by omega, by omega⟩ ?_ | refine st_iinc (q := 29) dX9_isAllWithin_26 rfl (by decide) rfl ?_
      refine st_goto (q := 2) dX9_isAllWithin_29 (by decide) ?_
      exact lp_X9_isAllWithin s hz hn hP (k + 1) (by omega) (by rw [e0]; exact decide_eq_true (by omega))
    · refine st_iconst (q := 25) dX9_isAllWithin_24 ⟨by decide, by decide⟩ rfl ?_
      refine rt_z dX9_isAllWithin_25 rfl (by (repeat' split) <;> omega) ?_
      have tk := awF_f (by rw [e0]; exact decide_eq_false (by omega)) n (show k + 1 ≤ n by omega)
      rw [tk] at hP
      exact hP
termination_by n - k
theorem c_X9_isAllWithin {d : Nat} {h : JH} {P : Int → JH → Prop} {a n : Nat} {lo hi : Int} (s : SP h a) (hz : hI h a 1 = (n : Int)) (hn : n ≤ 60) (hP : P (if awF (hI h (a + 1)) lo hi n then 1 else 0) h) : JRi (d + 1) jX9_isAllWithin [vr a, vi lo, vi hi] h P := by
  refine JRet.of rfl (Nat.le_of_ble_eq_true rfl) ?_
  refine st_iconst (q := 1) dX9_isAllWithin_0 ⟨by decide, by decide⟩ rfl ?_
  refine st_istore_n (q := 2) (i := 3) dX9_isAllWithin_1 rfl (by decide) rfl ?_
  exact lp_X9_isAllWithin s hz hn hP 0 (by omega) rfl
/-- sign k is learnt: the row's places lie among the knocks -/
theorem lp_X6_learn {d : Nat} {h : JH} {P : JH → Prop} {a k n : Nat} {f : Nat → Int} (w : WF h) (s : SP h a) (ha : 97 ≤ a ∧ a ≤ 107) (hz : hI h a 1 = (n : Int)) (hn : n ≤ 8) (hk : k < 8) (hP : P (sI (wI h 50 (cpF f (hI h (a + 1)) (8 * k) n)) 49 k n)) (i : Nat) (hi : i ≤ n) : JAt k0 (d + 2) jX6_learn 21 [vr 48, vi k, vr a, vi i] [] (wI h 50 (cpF f (hI h (a + 1)) (8 * k) i)) (jqv P) := by
  have z1 : hI (wI h 50 (cpF f (hI h (a + 1)) (8 * k) i)) a 1 = (n : Int) := by rw [wI_ne _ _ (by omega)]; exact hz
  have z2 : hI (wI h 50 (cpF f (hI h (a + 1)) (8 * k) i)) (a + 1) = hI h (a + 1) := wI_ne _ _ (by omega)
  refine st_iload_n (q := 22) dX6_learn_21 rfl rfl ?_
  refine st_aload_n (q := 23) dX6_learn_22 rfl rfl ?_
  refine st_getI (q := 26) 9 1 dX6_learn_23 fl_X6_36 (by decide) (by decide) rfl rfl (by first | exact wfk w rfl | exact s.1) ?_
  refine j_top _ z1 ?_
  refine st_icmp_ge (q := 29) (tgt := 51) dX6_learn_26 (by decide) rfl (fun c26 => ?_) (fun c26 => ?_)
  · refine st_aload_n (q := 52) dX6_learn_51 rfl rfl ?_
    refine st_getR (q := 55) 6 0 dX6_learn_52 fl_X6_9 (by decide) (by decide) rfl rfl (by first | exact wfk w rfl | exact s.1) (wfR w rfl) ?_
    refine st_iload_n (q := 56) dX6_learn_55 rfl rfl ?_
    refine st_aload_n (q := 57) dX6_learn_56 rfl rfl ?_
    refine st_getI (q := 60) 9 1 dX6_learn_57 fl_X6_36 (by decide) (by decide) rfl rfl (by first | exact wfk w rfl | exact s.1) ?_
    refine j_top _ z1 ?_
    refine st_iastore (q := 61) dX6_learn_60 rfl (by first | exact wfk w rfl | exact s.1) (wfb w (n := 8) rfl ⟨by omega, by omega⟩) ?_
    refine rt_v dX6_learn_61 rfl ?_
    exact pv hP (by rw [show i = n by omega]; rfl)
  · refine st_aload_n (q := 30) dX6_learn_29 rfl rfl ?_
    refine st_getR (q := 33) 6 1 dX6_learn_30 fl_X6_15 (by decide) (by decide) rfl rfl (by first | exact wfk w rfl | exact s.1) (wfR w rfl) ?_
    refine st_iload_n (q := 34) dX6_learn_33 rfl rfl ?_
    refine st_bipush (q := 36) dX6_learn_34 ⟨by decide, by decide⟩ rfl ?_
    first | refine n_imul (q := 37) dX6_learn_36 rfl ⟨by omega, by omega⟩ ?_ | refine st_imul (q := 37) dX6_learn_36 rfl ?_
    refine st_iload_n (q := 38) dX6_learn_37 rfl rfl ?_
    first | refine n_iadd (q := 39) dX6_learn_38 rfl ⟨by omega, by omega⟩ ?_ | refine st_iadd (q := 39) dX6_learn_38 rfl ?_
    refine st_aload_n (q := 40) dX6_learn_39 rfl rfl ?_
    refine st_iload_n (q := 41) dX6_learn_40 rfl rfl ?_
    refine iV1i (q := 44) dX6_learn_41 rfl ml_X6_41 mv_X9_get (Nat.le_of_ble_eq_true rfl) (by first | exact wfk w rfl | exact s.1) ?_
    refine c_X9_get (h := wI h 50 (cpF f (hI h (a + 1)) (8 * k) i)) s (by omega) ?_
    rw [z1, z2, if_pos (by omega), show ((i : Int)).toNat = i from rfl]
    refine st_iastore (q := 45) dX6_learn_44 rfl (by first | exact wfk w rfl | exact s.1) (wfb w (n := 64) rfl ⟨by omega, by omega⟩) ?_
    first | refine n_iinc (q := 48) dX6_learn_45 rfl (by decide) rfl ⟨by omega, by omega⟩ ?_ | refine st_iinc (q := 48) dX6_learn_45 rfl (by decide) rfl ?_
    refine st_goto (q := 21) dX6_learn_48 (by decide) ?_
    rw [sI_wI, show ((k : Int) * 8 + i).toNat = 8 * k + i by omega, cpF_s]
    exact lp_X6_learn w s ha hz hn hk hP (i + 1) (by omega)
termination_by n - i
theorem c_X6_learn {d : Nat} {h : JH} {P : JH → Prop} {a k n : Nat} (w : WF h) (s : SP h a) (ha : 97 ≤ a ∧ a ≤ 107) (hz : hI h a 1 = (n : Int)) (hn : n ≤ 8) (hk : k < 8) (hP : P (sI (wI h 50 (cpF (hI h 50) (hI h (a + 1)) (8 * k) n)) 49 k n)) : JRv (d + 2) jX6_learn [vr 48, vi k, vr a] h P := by
  refine JRet.of rfl (Nat.le_of_ble_eq_true rfl) ?_
  refine st_iload_n (q := 1) dX6_learn_0 rfl rfl ?_
  refine st_bipush (q := 3) dX6_learn_1 ⟨by decide, by decide⟩ rfl ?_
  refine iN2i (q := 6) dX6_learn_3 rfl mn_X6_32 ms_X11_isNone (Nat.le_of_ble_eq_true rfl) ?_
  refine c_X11_isNone ?_
  refine st_if_ne (q := 9) (tgt := 18) dX6_learn_6 (by decide) rfl (fun c6 => ?_) (fun c6 => ?_)
  · refine rt_v dX6_learn_18 rfl ?_
    exfalso; omega
  · refine st_aload_n (q := 10) dX6_learn_9 rfl rfl ?_
    refine st_getI (q := 13) 9 1 dX6_learn_10 fl_X6_36 (by decide) (by decide) rfl rfl (by first | exact wfk w rfl | exact s.1) ?_
    refine st_bipush (q := 15) dX6_learn_13 ⟨by decide, by decide⟩ rfl ?_
    refine st_icmp_le (q := 18) (tgt := 19) dX6_learn_15 (by decide) rfl (fun c15 => ?_) (fun c15 => ?_)
    · refine st_iconst (q := 20) dX6_learn_19 ⟨by decide, by decide⟩ rfl ?_
      refine st_istore_n (q := 21) (i := 3) dX6_learn_20 rfl (by decide) rfl ?_
      have t := lp_X6_learn (d := d) (f := hI h 50) w s ha hz hn hk hP 0 (by omega)
      rw [cpF_0, wI_self] at t
      exact t
    · refine rt_v dX6_learn_18 rfl ?_
      exfalso; omega
theorem awF_gd {f : Nat → Int} : ∀ n, awF f 0 1 n = gdF f n
  | 0 => rfl
  | n + 1 => by
    show (awF f 0 1 n && decide (0 ≤ f n ∧ f n ≤ 1)) = (gdF f n && decide (0 ≤ f n ∧ f n ≤ 1))
    rw [awF_gd n]
theorem awF_cg {f g : Nat → Int} {lo hi : Int} : ∀ {n : Nat}, (∀ k, k < n → f k = g k) → awF f lo hi n = awF g lo hi n
  | 0, _ => rfl
  | n + 1, e => by
    show (awF f lo hi n && decide (lo ≤ f n ∧ f n ≤ hi)) = (awF g lo hi n && decide (lo ≤ g n ∧ g n ≤ hi))
    rw [awF_cg (fun k hk => e k (by omega)), e n (by omega)]
theorem gdF_at {f : Nat → Int} : ∀ {n : Nat}, gdF f n = true → ∀ k, k < n → 0 ≤ f k ∧ f k ≤ 1
  | 0, _, k, hk => absurd hk (Nat.not_lt_zero k)
  | n + 1, h, k, hk => by
    have h : (gdF f n && decide (0 ≤ f n ∧ f n ≤ 1)) = true := h
    rw [Bool.and_eq_true] at h
    by_cases e : k = n
    · subst e; exact of_decide_eq_true h.2
    · exact gdF_at h.1 k (by omega)
theorem kb1_v {v : Int} (h : 0 ≤ v ∧ v ≤ 1) : (kb1 v : Int) = v := by
  have e := kb1_e v
  rcases (show v = 0 ∨ v = 1 by omega) with z | z <;> subst z <;> rw [← e] <;> decide
theorem kbF_tb {f : Nat → Int} : ∀ {n : Nat}, gdF f n = true → ∀ k, k < n → f k = if (kbF f n).testBit k then 1 else 0
  | 0, _, k, hk => absurd hk (Nat.not_lt_zero k)
  | n + 1, h, k, hk => by
    have h2 : gdF f n = true := by
      have h : (gdF f n && decide (0 ≤ f n ∧ f n ≤ 1)) = true := h
      rw [Bool.and_eq_true] at h
      exact h.1
    have hv := gdF_at h n (by omega)
    have kv := kb1_v hv
    have e : kbF f (n + 1) = kbF f n ||| (kb1 (f n) * 2 ^ n) := rfl
    rw [e, Nat.testBit_or, Nat.testBit_mul_two_pow]
    by_cases z : k = n
    · subst z
      rw [Nat.testBit_lt_two_pow (kbF_lt f k), Nat.sub_self, decide_eq_true (Nat.le_refl k)]
      rcases (show f k = 0 ∨ f k = 1 by omega) with t | t
      · rw [show kb1 (f k) = 0 by omega, t]; rfl
      · rw [show kb1 (f k) = 1 by omega, t]; rfl
    · rw [decide_eq_false (show ¬ n ≤ k by omega), Bool.false_and, Bool.or_false]
      exact kbF_tb h2 k (by omega)
theorem rg1 (k : Nat) : rgSg 49 k := by unfold rgSg; omega
theorem rg2 (k : Nat) : rgSg 50 k := by unfold rgSg; omega
theorem rg3 (k : Nat) : rgSg 146 k := by unfold rgSg; omega
theorem rg4 (k : Nat) : rgSg 147 k := by unfold rgSg; omega
theorem sg_tl : ∀ a k, rgTl a k → ¬ rgSg a k := by intro a k z; simp only [rgTl, rgSg] at z ⊢; omega
def gPut (g : SG) (k n r : Nat) : SG := fun j => if j = k then (n, r) else g j
theorem gPut_ok {g : SG} (o : gOk g) {k n r : Nat} (hn : n ≤ 8) (hr : r < 2 ^ n) : gOk (gPut g k n r) := fun j hj => by
  unfold gPut
  by_cases e : j = k
  · rw [if_pos e]; exact ⟨hn, hr⟩
  · rw [if_neg e]; exact o j hj
theorem c_X11_knock {d : Nat} {h : JH} {P : Int → JH → Prop} {k r : Int} (w : WF h) (ir : iRw h) (h1 : ¬ ((0 ≤ k ∧ k ≤ 7) ∧ (r = -9 ∨ (0 ≤ r ∧ r ≤ 5))) → P (-1) h) (h2 : 0 ≤ k ∧ k ≤ 7 → r = -9 → P 0 (sI h 49 k.toNat 0)) (h3 : 0 ≤ k ∧ k ≤ 7 → 0 ≤ r ∧ r ≤ 5 → hI h (97 + 2 * r.toNat) 1 < 0 → P (-3) (fnH h 1)) (h4 : 0 ≤ k ∧ k ≤ 7 → 0 ≤ r ∧ r ≤ 5 → 0 ≤ hI h (97 + 2 * r.toNat) 1 → ¬ (1 ≤ hI h (97 + 2 * r.toNat) 1 ∧ hI h (97 + 2 * r.toNat) 1 ≤ 8) → P (-3) (fnH h 5)) (h5 : ∀ n : Nat, 0 ≤ k ∧ k ≤ 7 → 0 ≤ r ∧ r ≤ 5 → 1 ≤ n ∧ n ≤ 8 → hI h (97 + 2 * r.toNat) 1 = n → awF (hI h (97 + 2 * r.toNat + 1)) 0 1 n = false → P (-3) (fnH h 3)) (h6 : ∀ n : Nat, 0 ≤ k ∧ k ≤ 7 → 0 ≤ r ∧ r ≤ 5 → 1 ≤ n ∧ n ≤ 8 → hI h (97 + 2 * r.toNat) 1 = n → awF (hI h (97 + 2 * r.toNat + 1)) 0 1 n = true → P n (sI (wI h 50 (cpF (hI h 50) (hI h (97 + 2 * r.toNat + 1)) (8 * k.toNat) n)) 49 k.toNat n)) : JRi (d + 3) jX11_knock [vr 0, vi k, vi r] h P := by
  refine JRet.of rfl (Nat.le_of_ble_eq_true rfl) ?_
  refine st_iload_n (q := 1) dX11_knock_0 rfl rfl ?_
  refine st_bipush (q := 3) dX11_knock_1 ⟨by decide, by decide⟩ rfl ?_
  refine iS2i (q := 6) dX11_knock_3 rfl ml_X11_86 ms_X11_isNone (Nat.le_of_ble_eq_true rfl) ?_
  refine c_X11_isNone ?_
  refine st_if_eq (q := 9) (tgt := 11) dX11_knock_6 (by decide) rfl (fun c6 => ?_) (fun c6 => ?_)
  · refine st_iload_n (q := 12) dX11_knock_11 rfl rfl ?_
    refine st_bipush (q := 14) dX11_knock_12 ⟨by decide, by decide⟩ rfl ?_
    refine st_icmp_ne (q := 17) (tgt := 29) dX11_knock_14 (by decide) rfl (fun c14 => ?_) (fun c14 => ?_)
    · refine st_aload_n (q := 30) dX11_knock_29 rfl rfl ?_
      refine st_aload_n (q := 31) dX11_knock_30 rfl rfl ?_
      refine st_getR (q := 34) 11 0 dX11_knock_31 fl_X11_11 (by decide) (by decide) rfl rfl (wfk w rfl) (wfR w rfl) ?_
      refine st_iload_n (q := 35) dX11_knock_34 rfl rfl ?_
      refine iV2i (q := 38) dX11_knock_35 rfl ml_X11_109 mv_X11_refusesStrip (Nat.le_of_ble_eq_true rfl) (wfk w rfl) ?_
      refine c_X11_refusesStrip w (sa_rows w) (fun a1 => ?_) (fun a1 a2 => ?_) (fun a1 a2 => ?_)
      · refine st_istore_n (q := 39) (i := 3) dX11_knock_38 rfl (by decide) rfl ?_
        refine st_iload_n (q := 40) dX11_knock_39 rfl rfl ?_
        refine st_if_eq (q := 43) (tgt := 45) dX11_knock_40 (by decide) rfl (fun z => absurd z (by decide)) (fun _ => ?_)
        refine st_iload_n (q := 44) dX11_knock_43 rfl rfl ?_
        refine rt_i dX11_knock_44 rfl ?_
        first | exact h1 (by omega) | exact h3 (by omega) (by omega) (by omega)
      · refine st_istore_n (q := 39) (i := 3) dX11_knock_38 rfl (by decide) rfl ?_
        refine st_iload_n (q := 40) dX11_knock_39 rfl rfl ?_
        refine st_if_eq (q := 43) (tgt := 45) dX11_knock_40 (by decide) rfl (fun z => absurd z (by decide)) (fun _ => ?_)
        refine st_iload_n (q := 44) dX11_knock_43 rfl rfl ?_
        refine rt_i dX11_knock_44 rfl ?_
        first | exact h1 (by omega) | exact h3 (by omega) (by omega) (by omega)
      · refine st_istore_n (q := 39) (i := 3) dX11_knock_38 rfl (by decide) rfl ?_
        refine st_iload_n (q := 40) dX11_knock_39 rfl rfl ?_
        refine st_if_eq (q := 43) (tgt := 45) dX11_knock_40 (by decide) rfl (fun _ => ?_) (fun z => absurd z (by decide))
        refine st_aload_n (q := 46) dX11_knock_45 rfl rfl ?_
        refine st_getR (q := 49) 11 0 dX11_knock_46 fl_X11_11 (by decide) (by decide) rfl rfl (wfk w rfl) (wfR w rfl) ?_
        refine st_iload_n (q := 50) dX11_knock_49 rfl rfl ?_
        refine st_aaload (q := 51) (t := 2) dX11_knock_50 rfl ⟨by decide, by decide⟩ (wfk w rfl) (wfb w (n := 6) rfl ⟨by omega, by omega⟩) (xrow w (by omega)) ?_
        refine st_getI (q := 54) 9 1 dX11_knock_51 fl_X11_135 (by decide) (by decide) rfl rfl ((sp_row w (by omega)).1) ?_
        refine st_iconst (q := 55) dX11_knock_54 ⟨by decide, by decide⟩ rfl ?_
        refine st_bipush (q := 57) dX11_knock_55 ⟨by decide, by decide⟩ rfl ?_
        refine iS3i (q := 60) dX11_knock_57 rfl ml_X11_142 ms_X11_isWithin (Nat.le_of_ble_eq_true rfl) ?_
        refine c_X11_isWithin ?_
        refine st_if_ne (q := 63) (tgt := 69) dX11_knock_60 (by decide) rfl (fun c60 => ?_) (fun c60 => ?_)
        · refine st_aload_n (q := 70) dX11_knock_69 rfl rfl ?_
          refine st_getR (q := 73) 11 0 dX11_knock_70 fl_X11_11 (by decide) (by decide) rfl rfl (wfk w rfl) (wfR w rfl) ?_
          refine st_iload_n (q := 74) dX11_knock_73 rfl rfl ?_
          refine st_aaload (q := 75) (t := 2) dX11_knock_74 rfl ⟨by decide, by decide⟩ (wfk w rfl) (wfb w (n := 6) rfl ⟨by omega, by omega⟩) (xrow w (by omega)) ?_
          refine st_iconst (q := 76) dX11_knock_75 ⟨by decide, by decide⟩ rfl ?_
          refine st_iconst (q := 77) dX11_knock_76 ⟨by decide, by decide⟩ rfl ?_
          refine iV2i (q := 80) dX11_knock_77 rfl ml_X11_292 mv_X9_isAllWithin (Nat.le_of_ble_eq_true rfl) ((sp_row w (by omega)).1) ?_
          have nzk : hI h (97 + 2 * r.toNat) 1 = (((hI h (97 + 2 * r.toNat) 1).toNat : Nat) : Int) := by omega
          refine c_X9_isAllWithin (sp_row w (by omega)) nzk (by omega) ?_
          refine st_if_ne (q := 83) (tgt := 89) dX11_knock_80 (by decide) rfl (fun c80 => ?_) (fun c80 => ?_)
          · refine st_aload_n (q := 90) dX11_knock_89 rfl rfl ?_
            refine st_getR (q := 93) 11 7 dX11_knock_90 fl_X11_56 (by decide) (by decide) rfl rfl (wfk w rfl) (wfR w rfl) ?_
            refine st_iload_n (q := 94) dX11_knock_93 rfl rfl ?_
            refine st_aload_n (q := 95) dX11_knock_94 rfl rfl ?_
            refine st_getR (q := 98) 11 0 dX11_knock_95 fl_X11_11 (by decide) (by decide) rfl rfl (wfk w rfl) (wfR w rfl) ?_
            refine st_iload_n (q := 99) dX11_knock_98 rfl rfl ?_
            refine st_aaload (q := 100) (t := 2) dX11_knock_99 rfl ⟨by decide, by decide⟩ (wfk w rfl) (wfb w (n := 6) rfl ⟨by omega, by omega⟩) (xrow w (by omega)) ?_
            refine iV2v (q := 103) dX11_knock_100 rfl ml_X11_295 mv_X6_learn (Nat.le_of_ble_eq_true rfl) (wfk w rfl) ?_
            have ekk : k = (k.toNat : Int) := by omega
            have gx := fun (Pz : JH → Prop) => c_X6_learn (d := d) (P := Pz) (k := k.toNat) w (sp_row w (show r.toNat < 6 by omega)) (by omega) nzk (by omega) (by omega)
            rw [← ekk] at gx
            refine gx _ ?_
            refine st_aload_n (q := 104) dX11_knock_103 rfl rfl ?_
            refine st_getR (q := 107) 11 0 dX11_knock_104 fl_X11_11 (by decide) (by decide) rfl rfl (wfk w rfl) (wfR w rfl) ?_
            refine st_iload_n (q := 108) dX11_knock_107 rfl rfl ?_
            refine st_aaload (q := 109) (t := 2) dX11_knock_108 rfl ⟨by decide, by decide⟩ (wfk w rfl) (wfb w (n := 6) rfl ⟨by omega, by omega⟩) (xrow w (by omega)) ?_
            refine st_getI (q := 112) 9 1 dX11_knock_109 fl_X11_135 (by decide) (by decide) rfl rfl ((sp_row w (by omega)).1) ?_
            refine j_top (hI h (97 + 2 * r.toNat) 1) (by rw [sI_o _ (by omega), wI_ne _ _ (by omega)]) ?_
            refine rt_i dX11_knock_112 rfl ?_
            exact pq (h6 _ (by omega) (by omega) (by omega) nzk (tb1.mp c80)) nzk.symm rfl
          · refine st_aload_n (q := 84) dX11_knock_83 rfl rfl ?_
            refine st_iconst (q := 85) dX11_knock_84 ⟨by decide, by decide⟩ rfl ?_
            refine iV1i (q := 88) dX11_knock_85 rfl ml_X11_116 mv_X11_find (Nat.le_of_ble_eq_true rfl) (wfk w rfl) ?_
            refine c_X11_find w (by decide) ?_
            refine rt_i dX11_knock_88 rfl ?_
            first | exact h5 _ (by omega) (by omega) (by omega) nzk (tb0.mp c80) | exact h5 _ (by omega) (by omega) (by omega) nzk (tb0.mp (by omega))
        · refine st_aload_n (q := 64) dX11_knock_63 rfl rfl ?_
          refine st_iconst (q := 65) dX11_knock_64 ⟨by decide, by decide⟩ rfl ?_
          refine iV1i (q := 68) dX11_knock_65 rfl ml_X11_116 mv_X11_find (Nat.le_of_ble_eq_true rfl) (wfk w rfl) ?_
          refine c_X11_find w (by decide) ?_
          refine rt_i dX11_knock_68 rfl ?_
          exact h4 (by omega) (by omega) (by omega) (by omega)
    · refine st_aload_n (q := 18) dX11_knock_17 rfl rfl ?_
      refine st_getR (q := 21) 11 7 dX11_knock_18 fl_X11_56 (by decide) (by decide) rfl rfl (wfk w rfl) (wfR w rfl) ?_
      refine st_getR (q := 24) 6 0 dX11_knock_21 fl_X11_289 (by decide) (by decide) rfl rfl (wfk w rfl) (wfR w rfl) ?_
      refine st_iload_n (q := 25) dX11_knock_24 rfl rfl ?_
      refine st_iconst (q := 26) dX11_knock_25 ⟨by decide, by decide⟩ rfl ?_
      refine st_iastore (q := 27) dX11_knock_26 rfl (wfk w rfl) (wfb w (n := 8) rfl ⟨by omega, by omega⟩) ?_
      refine st_iconst (q := 28) dX11_knock_27 ⟨by decide, by decide⟩ rfl ?_
      refine rt_i dX11_knock_28 rfl ?_
      exact h2 (by omega) (by omega)
  · refine st_iconst (q := 10) dX11_knock_9 ⟨by decide, by decide⟩ rfl ?_
    refine rt_i dX11_knock_10 rfl ?_
    exact h1 (by omega)
theorem pr_knock {d : Nat} {h : JH} {k r : Int} (I : Inv h) : Two (d + 4) jX11_knock jX12_knock [vi k, vi r] h := by
  have w := I.1
  obtain ⟨g, og, gm, gx⟩ := I.2.2.2.2.2.2.1
  have ir : 0 ≤ r ∧ r ≤ 5 → _ := fun z => (I.2.1 r.toNat (by omega)).1
  have ir2 : 0 ≤ r ∧ r ≤ 5 → _ := fun z => (I.2.1 r.toNat (by omega)).2
  refine c_X11_knock w I.2.1 (fun q => ?_) (fun q q1 => ?_) (fun q q1 q2 => ?_) (fun q q1 q2 q3 => ?_) (fun n q q1 q2 q3 q4 => ?_) (fun n q q1 q2 q3 q4 => ?_)
  · exact c_X12_knock w (fun _ => ⟨rfl, I⟩) (fun _ _ => by exfalso; omega) (fun _ _ _ => by exfalso; omega) (fun _ _ _ _ => by exfalso; omega) (fun _ _ _ _ => by exfalso; omega) (fun _ _ _ _ => by exfalso; omega)
  · refine c_X12_knock (h := sI h 49 k.toNat 0) w (fun _ => by exfalso; omega) (fun _ _ => ⟨rfl, ?_⟩) (fun _ _ _ => by exfalso; omega) (fun _ _ _ _ => by exfalso; omega) (fun _ _ _ _ => by exfalso; omega) (fun _ _ _ _ => by exfalso; omega)
    have f : Fq rgSg h (sI (sI h 49 k.toNat 0) 146 k.toNat 0) := (Fq.rf.sI _ (rg1 _)).sI _ (rg3 _)
    refine inv_sg I (f.up (fun _ _ z => Or.inl z)) ⟨gPut g k.toNat 0 0, gPut_ok og (by omega) (by decide), fun j hj => ?_, fun j hj => ?_⟩ (I.2.2.2.2.2.2.2.2.1.fr f sg_tl)
    · have t := gm j hj
      unfold gPut
      by_cases e : j = k.toNat
      · rw [if_pos e, e, sI_s]; exact ⟨rfl, fun z => absurd z (by decide)⟩
      · rw [if_neg e, sI_k _ e, sI_o _ (by decide), sI_o _ (by decide), sI_o _ (by decide)]; exact t
    · have t := gx j hj
      unfold gPut
      by_cases e : j = k.toNat
      · rw [if_pos e, e, sI_o _ (by decide), sI_s]; exact ⟨rfl, fun i z => absurd z (Nat.not_lt_zero i)⟩
      · rw [if_neg e, sI_o _ (by decide), sI_k _ e]
        refine ⟨t.1, fun i z => ?_⟩
        rw [sI_o _ (by decide), sI_o _ (by decide)]; exact t.2 i z
  · have i1 := ir q1
    exact c_X12_knock (h := fnH h 1) w (fun _ => by exfalso; omega) (fun _ _ => by exfalso; omega) (fun _ _ _ => ⟨rfl, inv_find I (by decide)⟩) (fun _ _ (t : 0 ≤ hI h 119 r.toNat) _ => by exfalso; omega) (fun _ _ (t : 1 ≤ hI h 119 r.toNat ∧ hI h 119 r.toNat ≤ 8) _ => by exfalso; omega) (fun _ _ (t : 1 ≤ hI h 119 r.toNat ∧ hI h 119 r.toNat ≤ 8) _ => by exfalso; omega)
  · have i1 := ir q1
    exact c_X12_knock (h := fnH h 5) w (fun _ => by exfalso; omega) (fun _ _ => by exfalso; omega) (fun _ _ (t : hI h 119 r.toNat < 0) => by exfalso; omega) (fun _ _ _ _ => ⟨rfl, inv_find I (by decide)⟩) (fun _ _ (t : 1 ≤ hI h 119 r.toNat ∧ hI h 119 r.toNat ≤ 8) _ => by exfalso; omega) (fun _ _ (t : 1 ≤ hI h 119 r.toNat ∧ hI h 119 r.toNat ≤ 8) _ => by exfalso; omega)
  · have i1 := ir q1
    have en : hI h 119 r.toNat = (n : Int) := by omega
    have eg : gdF (fun k => hI h 120 (40 * r.toNat + k)) (hI h 119 r.toNat).toNat = false := by
      rw [en, show ((n : Int)).toNat = n from rfl, ← awF_gd, ← q4]
      exact (awF_cg (fun j hj => ir2 q1 j (by omega))).symm
    exact c_X12_knock (h := fnH h 3) w (fun _ => by exfalso; omega) (fun _ _ => by exfalso; omega) (fun _ _ (t : hI h 119 r.toNat < 0) => by exfalso; omega) (fun _ _ _ (t : ¬ (1 ≤ hI h 119 r.toNat ∧ hI h 119 r.toNat ≤ 8)) => by exfalso; omega) (fun _ _ _ _ => ⟨rfl, inv_find I (by decide)⟩) (fun _ _ _ t => by have t : gdF (fun k => hI h 120 (40 * r.toNat + k)) (hI h 119 r.toNat).toNat = true := t; rw [eg] at t; cases t)
  · have i1 := ir q1
    have en : hI h 119 r.toNat = (n : Int) := by omega
    have ea : ∀ j, j < n → hI h (97 + 2 * r.toNat + 1) j = hI h 120 (40 * r.toNat + j) := fun j hj => ir2 q1 j (by omega)
    have eg : gdF (fun k => hI h 120 (40 * r.toNat + k)) n = true := by
      rw [← awF_gd, ← q4]
      exact (awF_cg (fun j hj => ea j hj)).symm
    generalize hH : sI (wI h 50 (cpF (hI h 50) (hI h (97 + 2 * r.toNat + 1)) (8 * k.toNat) n)) 49 k.toNat n = H
    have f0 : Fq rgSg h H := by rw [← hH]; exact (Fq.rf.wI _ rg2).sI _ (rg1 _)
    have e1 : hI H 119 r.toNat = (n : Int) := (f0.2.2.1 _ _ (by unfold rgSg; omega)).trans en
    have e2 : (fun k => hI H 120 (40 * r.toNat + k)) = fun k => hI h 120 (40 * r.toNat + k) := by funext j; exact f0.2.2.1 _ _ (by unfold rgSg; omega)
    refine c_X12_knock (h := H) (f0.wf w) (fun _ => by exfalso; omega) (fun _ _ => by exfalso; omega) (fun _ _ t => by exfalso; omega) (fun _ _ _ t => by exfalso; omega) (fun _ _ _ t => by rw [e1, e2, show ((n : Int)).toNat = n from rfl, eg] at t; cases t) (fun _ _ _ _ => ⟨e1.symm, ?_⟩)
    rw [e1, e2, show ((n : Int)).toNat = n from rfl]
    generalize hB : kbF (fun k => hI h 120 (40 * r.toNat + k)) n = B
    have hBl : B < 2 ^ n := by rw [← hB]; exact kbF_lt _ n
    have hBt : ∀ j, j < n → hI h 120 (40 * r.toNat + j) = if B.testBit j then 1 else 0 := fun j hj => by rw [← hB]; exact kbF_tb eg j hj
    have f : Fq rgSg h (sI (sI H 146 k.toNat n) 147 k.toNat B) := (f0.sI _ (rg3 _)).sI _ (rg4 _)
    refine inv_sg I (f.up (fun _ _ z => Or.inl z)) ⟨gPut g k.toNat n B, gPut_ok og (by omega) hBl, fun j hj => ?_, fun j hj => ?_⟩ (I.2.2.2.2.2.2.2.2.1.fr f sg_tl)
    · have t := gm j hj
      unfold gPut
      by_cases e : j = k.toNat
      · rw [if_pos e, e, sI_o _ (by decide), sI_s, sI_s]; exact ⟨rfl, fun _ => rfl⟩
      · rw [if_neg e, sI_o _ (by decide), sI_k _ e, sI_k _ e, sI_o _ (by decide), ← hH, sI_o _ (by decide), wI_ne _ _ (by decide), sI_o _ (by decide), wI_ne _ _ (by decide)]; exact t
    · have t := gx j hj
      unfold gPut
      by_cases e : j = k.toNat
      · rw [if_pos e, e, sI_o _ (by decide), sI_o _ (by decide), ← hH, sI_s]
        refine ⟨rfl, fun i (hi : i < n) => ?_⟩
        rw [sI_o _ (by decide), sI_o _ (by decide), sI_o _ (by decide), wI_at, cpF_in hi, ea i hi]
        exact hBt i hi
      · rw [if_neg e, sI_o _ (by decide), sI_o _ (by decide), ← hH, sI_k _ e, wI_ne _ _ (by decide)]
        refine ⟨t.1, fun i hi => ?_⟩
        have oj := (og j hj).1
        rw [sI_o _ (by decide), sI_o _ (by decide), sI_o _ (by decide), wI_at, cpF_out (by omega)]
        exact t.2 i hi
/-- what is left of sign a from a knock on, and sign b, go alike as far as both go -/
def agP (g : SG) (a fr b : Nat) : Prop := ∀ i, fr + i < (g a).1 → i < (g b).1 → (g a).2.testBit (fr + i) = (g b).2.testBit i
theorem lp_X6_agree {d : Nat} {h : JH} {P : Int → JH → Prop} {g : SG} {a fr b : Nat} (w : WF h) (x : GX h g) (o : gOk g) (ha : a < 8) (hb : b < 8) (hf : fr ≤ 8) (h1 : agP g a fr b → P 1 h) (h0 : ¬ agP g a fr b → P 0 h) (i : Nat) (hi : i ≤ 8) (hx : ∀ j, j < i → fr + j < (g a).1 → j < (g b).1 → (g a).2.testBit (fr + j) = (g b).2.testBit j) : JAt k0 d jX6_agree 3 [vr 48, vi a, vi fr, vi b, vi i] [] h (jqi P) := by
  have xa : hI h 49 ((a : Int)).toNat = ((g a).1 : Int) := (x a ha).1
  have xb : hI h 49 ((b : Int)).toNat = ((g b).1 : Int) := (x b hb).1
  have oa := (o a ha).1
  have ob := (o b hb).1
  refine st_iload (q := 5) dX6_agree_3 rfl rfl ?_
  refine st_bipush (q := 7) dX6_agree_5 ⟨by decide, by decide⟩ rfl ?_
  refine st_icmp_ge (q := 10) (tgt := 71) dX6_agree_7 (by decide) rfl (fun c7 => ?_) (fun c7 => ?_)
  · refine st_iconst (q := 72) dX6_agree_71 ⟨by decide, by decide⟩ rfl ?_
    refine rt_z dX6_agree_72 rfl (by (repeat' split) <;> omega) ?_
    exact h1 (fun j z1 z2 => hx j (by omega) z1 z2)
  · refine st_iload_n (q := 11) dX6_agree_10 rfl rfl ?_
    refine st_iload (q := 13) dX6_agree_11 rfl rfl ?_
    first | refine n_iadd (q := 14) dX6_agree_13 rfl ⟨by omega, by omega⟩ ?_ | refine st_iadd (q := 14) dX6_agree_13 rfl ?_
    refine st_aload_n (q := 15) dX6_agree_14 rfl rfl ?_
    refine st_getR (q := 18) 6 0 dX6_agree_15 fl_X6_9 (by decide) (by decide) rfl rfl (wfk w rfl) (wfR w rfl) ?_
    refine st_iload_n (q := 19) dX6_agree_18 rfl rfl ?_
    refine st_iaload (q := 20) dX6_agree_19 rfl (wfk w rfl) (wfb w (n := 8) rfl ⟨by omega, by omega⟩) ?_
    refine j_top _ xa ?_
    refine st_icmp_ge (q := 23) (tgt := 71) dX6_agree_20 (by decide) rfl (fun c20 => ?_) (fun c20 => ?_)
    · refine st_iconst (q := 72) dX6_agree_71 ⟨by decide, by decide⟩ rfl ?_
      refine rt_z dX6_agree_72 rfl (by (repeat' split) <;> omega) ?_
      exact h1 (fun j z1 z2 => hx j (by omega) z1 z2)
    · refine st_iload (q := 25) dX6_agree_23 rfl rfl ?_
      refine st_aload_n (q := 26) dX6_agree_25 rfl rfl ?_
      refine st_getR (q := 29) 6 0 dX6_agree_26 fl_X6_9 (by decide) (by decide) rfl rfl (wfk w rfl) (wfR w rfl) ?_
      refine st_iload_n (q := 30) dX6_agree_29 rfl rfl ?_
      refine st_iaload (q := 31) dX6_agree_30 rfl (wfk w rfl) (wfb w (n := 8) rfl ⟨by omega, by omega⟩) ?_
      refine j_top _ xb ?_
      refine st_icmp_ge (q := 34) (tgt := 71) dX6_agree_31 (by decide) rfl (fun c31 => ?_) (fun c31 => ?_)
      · refine st_iconst (q := 72) dX6_agree_71 ⟨by decide, by decide⟩ rfl ?_
        refine rt_z dX6_agree_72 rfl (by (repeat' split) <;> omega) ?_
        exact h1 (fun j z1 z2 => hx j (by omega) z1 z2)
      · refine st_aload_n (q := 35) dX6_agree_34 rfl rfl ?_
        refine st_getR (q := 38) 6 1 dX6_agree_35 fl_X6_15 (by decide) (by decide) rfl rfl (wfk w rfl) (wfR w rfl) ?_
        refine st_iload_n (q := 39) dX6_agree_38 rfl rfl ?_
        refine st_bipush (q := 41) dX6_agree_39 ⟨by decide, by decide⟩ rfl ?_
        first | refine n_imul (q := 42) dX6_agree_41 rfl ⟨by omega, by omega⟩ ?_ | refine st_imul (q := 42) dX6_agree_41 rfl ?_
        refine st_iload_n (q := 43) dX6_agree_42 rfl rfl ?_
        first | refine n_iadd (q := 44) dX6_agree_43 rfl ⟨by omega, by omega⟩ ?_ | refine st_iadd (q := 44) dX6_agree_43 rfl ?_
        refine st_iload (q := 46) dX6_agree_44 rfl rfl ?_
        first | refine n_iadd (q := 47) dX6_agree_46 rfl ⟨by omega, by omega⟩ ?_ | refine st_iadd (q := 47) dX6_agree_46 rfl ?_
        refine st_iaload (q := 48) dX6_agree_47 rfl (wfk w rfl) (wfb w (n := 64) rfl ⟨by omega, by omega⟩) ?_
        refine j_top (if (g a).2.testBit (fr + i) then 1 else 0) (by rw [show ((a : Int) * 8 + fr + i).toNat = 8 * a + (fr + i) by omega]; exact (x a ha).2 (fr + i) (by omega)) ?_
        refine st_aload_n (q := 49) dX6_agree_48 rfl rfl ?_
        refine st_getR (q := 52) 6 1 dX6_agree_49 fl_X6_15 (by decide) (by decide) rfl rfl (wfk w rfl) (wfR w rfl) ?_
        refine st_iload_n (q := 53) dX6_agree_52 rfl rfl ?_
        refine st_bipush (q := 55) dX6_agree_53 ⟨by decide, by decide⟩ rfl ?_
        first | refine n_imul (q := 56) dX6_agree_55 rfl ⟨by omega, by omega⟩ ?_ | refine st_imul (q := 56) dX6_agree_55 rfl ?_
        refine st_iload (q := 58) dX6_agree_56 rfl rfl ?_
        first | refine n_iadd (q := 59) dX6_agree_58 rfl ⟨by omega, by omega⟩ ?_ | refine st_iadd (q := 59) dX6_agree_58 rfl ?_
        refine st_iaload (q := 60) dX6_agree_59 rfl (wfk w rfl) (wfb w (n := 64) rfl ⟨by omega, by omega⟩) ?_
        refine j_top (if (g b).2.testBit i then 1 else 0) (by rw [show ((b : Int) * 8 + i).toNat = 8 * b + i by omega]; exact (x b hb).2 i (by omega)) ?_
        refine st_icmp_eq (q := 63) (tgt := 65) dX6_agree_60 (by decide) rfl (fun c60 => ?_) (fun c60 => ?_)
        · first | refine n_iinc (q := 68) dX6_agree_65 rfl (by decide) rfl ⟨by omega, by omega⟩ ?_ | refine st_iinc (q := 68) dX6_agree_65 rfl (by decide) rfl ?_
          refine st_goto (q := 3) dX6_agree_68 (by decide) ?_
          exact lp_X6_agree w x o ha hb hf h1 h0 (i + 1) (by omega) (fun j hj z1 z2 => by by_cases e : j = i; (subst e; cases t1 : (g a).2.testBit (fr + j) <;> cases t2 : (g b).2.testBit j <;> simp [t1, t2] at c60 ⊢); exact hx j (by omega) z1 z2)
        · refine st_iconst (q := 64) dX6_agree_63 ⟨by decide, by decide⟩ rfl ?_
          refine rt_z dX6_agree_64 rfl (by (repeat' split) <;> omega) ?_
          exact h0 (fun z => by have t := z i (by omega) (by omega); rw [t] at c60; exact c60 rfl)
termination_by 8 - i
theorem c_X6_agree {d : Nat} {h : JH} {P : Int → JH → Prop} {g : SG} {a fr b : Nat} (w : WF h) (x : GX h g) (o : gOk g) (ha : a < 8) (hb : b < 8) (hf : fr ≤ 8) (h1 : agP g a fr b → P 1 h) (h0 : ¬ agP g a fr b → P 0 h) : JRi d jX6_agree [vr 48, vi a, vi fr, vi b] h P := by
  refine JRet.of rfl (Nat.le_of_ble_eq_true rfl) ?_
  refine st_iconst (q := 1) dX6_agree_0 ⟨by decide, by decide⟩ rfl ?_
  refine st_istore (q := 3) dX6_agree_1 (by decide) rfl ?_
  exact lp_X6_agree w x o ha hb hf h1 h0 0 (by omega) (fun j hj => absurd hj (Nat.not_lt_zero j))
theorem mod_tb {x y n : Nat} (hy : y < 2 ^ n) : x % 2 ^ n = y ↔ ∀ i, i < n → x.testBit i = y.testBit i := by
  constructor
  · intro h i hi
    rw [← h, Nat.testBit_mod_two_pow, decide_eq_true hi, Bool.true_and]
  · intro h
    apply Nat.eq_of_testBit_eq
    intro i
    rw [Nat.testBit_mod_two_pow]
    by_cases z : i < n
    · rw [decide_eq_true z, Bool.true_and]; exact h i z
    · rw [decide_eq_false z, Bool.false_and]
      exact (Nat.testBit_lt_two_pow (Nat.lt_of_lt_of_le hy (Nat.pow_le_pow_right (by decide) (by omega)))).symm
theorem beg_ag {g : SG} (o : gOk g) {a b : Nat} (ha : a < 8) : beg g a b = true ↔ (a ≠ b ∧ 0 < (g a).1 ∧ (g a).1 ≤ (g b).1 ∧ agP g a 0 b) := by
  unfold beg agP
  rw [decide_eq_true_eq, mod_tb (o a ha).2]
  constructor
  · rintro ⟨h1, h2, h3, h4, h5⟩
    exact ⟨h1, h2, h4, fun i z1 z2 => by rw [Nat.zero_add] at *; exact (h5 i z1).symm⟩
  · rintro ⟨h1, h2, h3, h4⟩
    exact ⟨h1, h2, by omega, h3, fun i z => by have := h4 i (by omega) (by omega); rw [Nat.zero_add] at this; exact this.symm⟩
theorem lp_X6_firstBeginning {d : Nat} {h : JH} {P : Int → JH → Prop} {g : SG} {R : Int} (w : WF h) (x : GX h g) (o : gOk g) (hP : P R h) (i j : Nat) (hi : i < 8) (hj : j ≤ 8) : clF g (64 - (8 * i + j)) (8 * i + j) = R → JAt k0 (d + 1) jX6_firstBeginning 10 [vr 48, vi i, vi j] [] h (jqi P) := by
  intro he
  have m1 : hI h 49 ((i : Int)).toNat = ((g i).1 : Int) := (x i hi).1
  have m2 : j < 8 → hI h 49 ((j : Int)).toNat = ((g j).1 : Int) := fun z => (x j z).1
  have bg := beg_ag o (a := i) (b := j) hi
  have eJ : j < 8 → clF g (64 - (8 * i + j)) (8 * i + j) = if beg g i j then ((10 * i + j : Nat) : Int) else clF g (64 - (8 * i + (j + 1))) (8 * i + (j + 1)) := fun z => by
    rw [show 64 - (8 * i + j) = (64 - (8 * i + (j + 1))) + 1 by omega, clF, show (8 * i + j) / 8 = i by omega, show (8 * i + j) % 8 = j by omega]
    rfl
  refine st_iload_n (q := 11) dX6_firstBeginning_10 rfl rfl ?_
  refine st_bipush (q := 13) dX6_firstBeginning_11 ⟨by decide, by decide⟩ rfl ?_
  refine st_icmp_ge (q := 16) (tgt := 68) dX6_firstBeginning_13 (by decide) rfl (fun c13 => ?_) (fun c13 => ?_)
  · first | refine n_iinc (q := 71) dX6_firstBeginning_68 rfl (by decide) rfl ⟨by omega, by omega⟩ ?_ | refine st_iinc (q := 71) dX6_firstBeginning_68 rfl (by decide) rfl ?_
    refine st_goto (q := 2) dX6_firstBeginning_71 (by decide) ?_
    refine st_iload_n (q := 3) dX6_firstBeginning_2 rfl rfl ?_
    refine st_bipush (q := 5) dX6_firstBeginning_3 ⟨by decide, by decide⟩ rfl ?_
    refine st_icmp_ge (q := 8) (tgt := 74) dX6_firstBeginning_5 (by decide) rfl (fun c5 => ?_) (fun c5 => ?_)
    · refine st_bipush (q := 76) dX6_firstBeginning_74 ⟨by decide, by decide⟩ rfl ?_
      refine rt_i dX6_firstBeginning_76 rfl ?_
      refine pq hP ?_ rfl
      rw [← he, show 64 - (8 * i + j) = 0 by omega]
      rfl
    · refine st_iconst (q := 9) dX6_firstBeginning_8 ⟨by decide, by decide⟩ rfl ?_
      refine st_istore_n (q := 10) (i := 2) dX6_firstBeginning_9 rfl (by decide) rfl ?_
      first | exact lp_X6_firstBeginning w x o hP (i + 1) 0 (by omega) (by omega) (by rw [← he, show 8 * (i + 1) + 0 = 8 * i + j by omega]) | (rw [eJ (by omega), if_neg (fun z => agk (bg.mp z).2.2.2)] at he; exact lp_X6_firstBeginning w x o hP i (j + 1) hi (by omega) he) | (rw [eJ (by omega), if_neg (fun z => by have z1 := bg.mp z; have z2 := z1.1; have z3 := z1.2.1; have z4 := z1.2.2.1; omega)] at he; exact lp_X6_firstBeginning w x o hP i (j + 1) hi (by omega) he)
  · refine st_iload_n (q := 17) dX6_firstBeginning_16 rfl rfl ?_
    refine st_iload_n (q := 18) dX6_firstBeginning_17 rfl rfl ?_
    refine st_icmp_eq (q := 21) (tgt := 62) dX6_firstBeginning_18 (by decide) rfl (fun c18 => ?_) (fun c18 => ?_)
    · first | refine n_iinc (q := 65) dX6_firstBeginning_62 rfl (by decide) rfl ⟨by omega, by omega⟩ ?_ | refine st_iinc (q := 65) dX6_firstBeginning_62 rfl (by decide) rfl ?_
      refine st_goto (q := 10) dX6_firstBeginning_65 (by decide) ?_
      first | exact lp_X6_firstBeginning w x o hP (i + 1) 0 (by omega) (by omega) (by rw [← he, show 8 * (i + 1) + 0 = 8 * i + j by omega]) | (rw [eJ (by omega), if_neg (fun z => agk (bg.mp z).2.2.2)] at he; exact lp_X6_firstBeginning w x o hP i (j + 1) hi (by omega) he) | (rw [eJ (by omega), if_neg (fun z => by have z1 := bg.mp z; have z2 := z1.1; have z3 := z1.2.1; have z4 := z1.2.2.1; omega)] at he; exact lp_X6_firstBeginning w x o hP i (j + 1) hi (by omega) he)
    · refine st_aload_n (q := 22) dX6_firstBeginning_21 rfl rfl ?_
      refine st_getR (q := 25) 6 0 dX6_firstBeginning_22 fl_X6_9 (by decide) (by decide) rfl rfl (wfk w rfl) (wfR w rfl) ?_
      refine st_iload_n (q := 26) dX6_firstBeginning_25 rfl rfl ?_
      refine st_iaload (q := 27) dX6_firstBeginning_26 rfl (wfk w rfl) (wfb w (n := 8) rfl ⟨by omega, by omega⟩) ?_
      refine j_top _ m1 ?_
      refine st_if_le (q := 30) (tgt := 62) dX6_firstBeginning_27 (by decide) rfl (fun c27 => ?_) (fun c27 => ?_)
      · first | refine n_iinc (q := 65) dX6_firstBeginning_62 rfl (by decide) rfl ⟨by omega, by omega⟩ ?_ | refine st_iinc (q := 65) dX6_firstBeginning_62 rfl (by decide) rfl ?_
        refine st_goto (q := 10) dX6_firstBeginning_65 (by decide) ?_
        first | exact lp_X6_firstBeginning w x o hP (i + 1) 0 (by omega) (by omega) (by rw [← he, show 8 * (i + 1) + 0 = 8 * i + j by omega]) | (rw [eJ (by omega), if_neg (fun z => agk (bg.mp z).2.2.2)] at he; exact lp_X6_firstBeginning w x o hP i (j + 1) hi (by omega) he) | (rw [eJ (by omega), if_neg (fun z => by have z1 := bg.mp z; have z2 := z1.1; have z3 := z1.2.1; have z4 := z1.2.2.1; omega)] at he; exact lp_X6_firstBeginning w x o hP i (j + 1) hi (by omega) he)
      · refine st_aload_n (q := 31) dX6_firstBeginning_30 rfl rfl ?_
        refine st_getR (q := 34) 6 0 dX6_firstBeginning_31 fl_X6_9 (by decide) (by decide) rfl rfl (wfk w rfl) (wfR w rfl) ?_
        refine st_iload_n (q := 35) dX6_firstBeginning_34 rfl rfl ?_
        refine st_iaload (q := 36) dX6_firstBeginning_35 rfl (wfk w rfl) (wfb w (n := 8) rfl ⟨by omega, by omega⟩) ?_
        refine j_top _ m1 ?_
        refine st_aload_n (q := 37) dX6_firstBeginning_36 rfl rfl ?_
        refine st_getR (q := 40) 6 0 dX6_firstBeginning_37 fl_X6_9 (by decide) (by decide) rfl rfl (wfk w rfl) (wfR w rfl) ?_
        refine st_iload_n (q := 41) dX6_firstBeginning_40 rfl rfl ?_
        refine st_iaload (q := 42) dX6_firstBeginning_41 rfl (wfk w rfl) (wfb w (n := 8) rfl ⟨by omega, by omega⟩) ?_
        refine j_top _ (m2 (by omega)) ?_
        refine st_icmp_gt (q := 45) (tgt := 62) dX6_firstBeginning_42 (by decide) rfl (fun c42 => ?_) (fun c42 => ?_)
        · first | refine n_iinc (q := 65) dX6_firstBeginning_62 rfl (by decide) rfl ⟨by omega, by omega⟩ ?_ | refine st_iinc (q := 65) dX6_firstBeginning_62 rfl (by decide) rfl ?_
          refine st_goto (q := 10) dX6_firstBeginning_65 (by decide) ?_
          first | exact lp_X6_firstBeginning w x o hP (i + 1) 0 (by omega) (by omega) (by rw [← he, show 8 * (i + 1) + 0 = 8 * i + j by omega]) | (rw [eJ (by omega), if_neg (fun z => agk (bg.mp z).2.2.2)] at he; exact lp_X6_firstBeginning w x o hP i (j + 1) hi (by omega) he) | (rw [eJ (by omega), if_neg (fun z => by have z1 := bg.mp z; have z2 := z1.1; have z3 := z1.2.1; have z4 := z1.2.2.1; omega)] at he; exact lp_X6_firstBeginning w x o hP i (j + 1) hi (by omega) he)
        · refine st_aload_n (q := 46) dX6_firstBeginning_45 rfl rfl ?_
          refine st_iload_n (q := 47) dX6_firstBeginning_46 rfl rfl ?_
          refine st_iconst (q := 48) dX6_firstBeginning_47 ⟨by decide, by decide⟩ rfl ?_
          refine st_iload_n (q := 49) dX6_firstBeginning_48 rfl rfl ?_
          refine iV3i (q := 52) dX6_firstBeginning_49 rfl ml_X6_45 mv_X6_agree (Nat.le_of_ble_eq_true rfl) (wfk w rfl) ?_
          refine c_X6_agree (fr := 0) w x o hi (by omega) (by omega) (fun agk => ?_) (fun agk => ?_)
          · refine st_if_eq (q := 55) (tgt := 62) dX6_firstBeginning_52 (by decide) rfl (fun z => absurd z (by decide)) (fun _ => ?_)
            refine st_bipush (q := 57) dX6_firstBeginning_55 ⟨by decide, by decide⟩ rfl ?_
            refine st_iload_n (q := 58) dX6_firstBeginning_57 rfl rfl ?_
            first | refine n_imul (q := 59) dX6_firstBeginning_58 rfl ⟨by omega, by omega⟩ ?_ | refine st_imul (q := 59) dX6_firstBeginning_58 rfl ?_
            refine st_iload_n (q := 60) dX6_firstBeginning_59 rfl rfl ?_
            first | refine n_iadd (q := 61) dX6_firstBeginning_60 rfl ⟨by omega, by omega⟩ ?_ | refine st_iadd (q := 61) dX6_firstBeginning_60 rfl ?_
            refine rt_i dX6_firstBeginning_61 rfl ?_
            have eb : beg g i j = true := bg.mpr ⟨by omega, by omega, by omega, agk⟩
            rw [eJ (by omega), if_pos eb] at he
            exact pq hP (by rw [← he]; omega) rfl
          · refine st_if_eq (q := 55) (tgt := 62) dX6_firstBeginning_52 (by decide) rfl (fun _ => ?_) (fun z => absurd z (by decide))
            first | refine n_iinc (q := 65) dX6_firstBeginning_62 rfl (by decide) rfl ⟨by omega, by omega⟩ ?_ | refine st_iinc (q := 65) dX6_firstBeginning_62 rfl (by decide) rfl ?_
            refine st_goto (q := 10) dX6_firstBeginning_65 (by decide) ?_
            first | exact lp_X6_firstBeginning w x o hP (i + 1) 0 (by omega) (by omega) (by rw [← he, show 8 * (i + 1) + 0 = 8 * i + j by omega]) | (rw [eJ (by omega), if_neg (fun z => agk (bg.mp z).2.2.2)] at he; exact lp_X6_firstBeginning w x o hP i (j + 1) hi (by omega) he) | (rw [eJ (by omega), if_neg (fun z => by have z1 := bg.mp z; have z2 := z1.1; have z3 := z1.2.1; have z4 := z1.2.2.1; omega)] at he; exact lp_X6_firstBeginning w x o hP i (j + 1) hi (by omega) he)
termination_by (8 - i) * 9 + (8 - j)
decreasing_by all_goals omega
theorem pr_clear {d : Nat} {h : JH} (I : Inv h) : Two (d + 4) jX11_clear jX12_clear [] h := by
  have w := I.1
  obtain ⟨g, og, gm, gx⟩ := I.2.2.2.2.2.2.1
  have gM := c_X12_clear (d := d + 3) (h := h) (g := g) (P := fun v' h2 => clF g 64 0 = v' ∧ Inv h2) w gm og ⟨rfl, I⟩
  have cF : ∀ (Pz : Int → JH → Prop), Pz (clF g 64 0) h → JRi (d + 3) jX6_firstBeginning [vr 48] h Pz := fun Pz hPz => by
    refine JRet.of rfl (Nat.le_of_ble_eq_true rfl) ?_
    refine st_iconst (q := 1) dX6_firstBeginning_0 ⟨by decide, by decide⟩ rfl ?_
    refine st_istore_n (q := 2) (i := 1) dX6_firstBeginning_1 rfl (by decide) rfl ?_
    refine st_iload_n (q := 3) dX6_firstBeginning_2 rfl rfl ?_
    refine st_bipush (q := 5) dX6_firstBeginning_3 ⟨by decide, by decide⟩ rfl ?_
    refine st_icmp_ge (q := 8) (tgt := 74) dX6_firstBeginning_5 (by decide) rfl (fun z => absurd z (by decide)) (fun _ => ?_)
    refine st_iconst (q := 9) dX6_firstBeginning_8 ⟨by decide, by decide⟩ rfl ?_
    refine st_istore_n (q := 10) (i := 2) dX6_firstBeginning_9 rfl (by decide) rfl ?_
    exact lp_X6_firstBeginning w gx og hPz 0 0 (by omega) (by omega) rfl
  refine JRet.of rfl (Nat.le_of_ble_eq_true rfl) ?_
  refine st_aload_n (q := 1) dX11_clear_0 rfl rfl ?_
  refine st_getR (q := 4) 11 7 dX11_clear_1 fl_X11_56 (by decide) (by decide) rfl rfl (wfk w rfl) (wfR w rfl) ?_
  refine iV0i (q := 7) dX11_clear_4 rfl ml_X11_299 mv_X6_firstBeginning (Nat.le_of_ble_eq_true rfl) (wfk w rfl) ?_
  refine cF _ ?_
  refine rt_i dX11_clear_7 rfl ?_
  exact gM

