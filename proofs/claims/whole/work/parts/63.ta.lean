/-! both sides answer alike: tale -/
def taV (y : SY) (c : Nat) : Int × Int := ((yBy y c : Int), (c : Int))
def TT (h : JH) (st : Int × Int) : Prop := ∃ F L : Int, hI h 40 4 = F ∧ hI h 40 2 = L ∧ hI h 40 3 = st.2 ∧ st.1 = 10000 * F + L ∧ ((F = 13 ∧ L = 1000000 ∧ st.2 = -9) ∨ (0 ≤ F ∧ F ≤ 12 ∧ 0 ≤ L ∧ L < 10000 ∧ 0 ≤ st.2))
/-- the sets that the search comes to -/
def rS (y : SY) : Nat → Nat → Nat → Nat → Nat → Prop
  | 0, _, set, mi, c => mi = 0 ∧ c = set
  | m + 1, s, set, mi, c => if mi = 0 then c = set else ((ySh y s &&& mi ≠ 0 ∧ rS y m (s + 1) (set ||| 2 ^ s) (nandn mi (ySh y s)) c) ∨ rS y m (s + 1) set mi c)
theorem pcN_mono {a b : Nat} (h : ∀ t, a.testBit t = true → b.testBit t = true) : ∀ k, pcN a k ≤ pcN b k
  | 0 => Nat.le_refl _
  | k + 1 => by
    have ih := pcN_mono h k
    show pcN a k + (if a.testBit k then 1 else 0) ≤ pcN b k + (if b.testBit k then 1 else 0)
    cases t : a.testBit k
    · simp; omega
    · rw [h k t]; simp; exact ih
theorem yLen_hi {y : SY} {c s : Nat} (hc : c < 2 ^ s) : ∀ n, s ≤ n → yLen y c n = yLen y c s
  | 0, h => by rw [show s = 0 by omega]
  | n + 1, h => by
    by_cases e : s = n + 1
    · rw [e]
    · show yLen y c n + (if c.testBit n then yLe y n else 0) = _
      rw [yLen_hi hc n (by omega), Nat.testBit_lt_two_pow (Nat.lt_of_lt_of_le hc (Nat.pow_le_pow_right (by decide) (by omega)))]
      simp
theorem or_lt {s cut : Nat} (h : cut < 2 ^ s) : cut ||| 2 ^ s < 2 ^ (s + 1) := by rw [or_add h, Nat.pow_succ]; omega
theorem lt_succ {s cut : Nat} (h : cut < 2 ^ s) : cut < 2 ^ (s + 1) := by rw [Nat.pow_succ]; omega
theorem rS_pre {y : SY} : ∀ {m s set mi c : Nat}, set < 2 ^ s → rS y m s set mi c → c < 2 ^ (s + m) ∧ ∀ t, t < s → c.testBit t = set.testBit t
  | 0, s, set, mi, c, hs, h => by
    have h : mi = 0 ∧ c = set := h
    rw [h.2]; exact ⟨hs, fun _ _ => rfl⟩
  | m + 1, s, set, mi, c, hs, h => by
    have h : (if mi = 0 then c = set else ((ySh y s &&& mi ≠ 0 ∧ rS y m (s + 1) (set ||| 2 ^ s) (nandn mi (ySh y s)) c) ∨ rS y m (s + 1) set mi c)) := h
    by_cases z : mi = 0
    · rw [if_pos z] at h
      rw [h]
      exact ⟨Nat.lt_of_lt_of_le hs (Nat.pow_le_pow_right (by decide) (by omega)), fun _ _ => rfl⟩
    · rw [if_neg z] at h
      rw [show s + (m + 1) = s + 1 + m by omega]
      rcases h with ⟨_, h⟩ | h
      · have := rS_pre (or_lt hs) h
        exact ⟨this.1, fun t ht => (this.2 t (by omega)).trans ((or_tb hs).1 t ht)⟩
      · have := rS_pre (lt_succ hs) h
        exact ⟨this.1, fun t ht => this.2 t (by omega)⟩
theorem rS_sub {y : SY} {m s set mi c : Nat} (hs : set < 2 ^ s) (h : rS y m s set mi c) : pcN set 16 ≤ pcN c 16 := pcN_mono (fun t ht => by
  have p := rS_pre hs h
  rcases Nat.lt_or_ge t s with q | q
  · rw [p.2 t q]; exact ht
  · rw [Nat.testBit_lt_two_pow (Nat.lt_of_lt_of_le hs (Nat.pow_le_pow_right (by decide) q))] at ht; cases ht) 16
/-- each of the missing hides is shown by a scene of c from s on -/
def cvr (y : SY) (c s mi : Nat) : Prop := ∀ x, mi.testBit x = true → ∃ t, s ≤ t ∧ t < y.1 ∧ c.testBit t = true ∧ (ySh y t).testBit x = true
theorem rS_cv {y : SY} : ∀ {m s set mi c : Nat}, s + m = y.1 → set < 2 ^ s → mi < 256 → rS y m s set mi c → cvr y c s mi
  | 0, s, set, mi, c, hm, hs, hi, h => fun x hx => by
    have h : mi = 0 ∧ c = set := h
    rw [h.1, Nat.zero_testBit] at hx; cases hx
  | m + 1, s, set, mi, c, hm, hs, hi, h => fun x hx => by
    have h : (if mi = 0 then c = set else ((ySh y s &&& mi ≠ 0 ∧ rS y m (s + 1) (set ||| 2 ^ s) (nandn mi (ySh y s)) c) ∨ rS y m (s + 1) set mi c)) := h
    by_cases z : mi = 0
    · rw [z, Nat.zero_testBit] at hx; cases hx
    · rw [if_neg z] at h
      rcases h with ⟨_, h⟩ | h
      · have p := rS_pre (or_lt hs) h
        cases hb : (ySh y s).testBit x
        · obtain ⟨t, t1, t2, t3⟩ := rS_cv (by omega) (or_lt hs) (Nat.lt_of_le_of_lt (nandn_le _ _) hi) h x (by rw [nandn_tb (by omega), hx, hb]; rfl)
          exact ⟨t, by omega, t2, t3⟩
        · exact ⟨s, Nat.le_refl _, by omega, by rw [p.2 s (by omega)]; exact (or_tb hs).2.1, hb⟩
      · obtain ⟨t, t1, t2, t3⟩ := rS_cv (by omega) (lt_succ hs) hi h x hx
        exact ⟨t, by omega, t2, t3⟩
/-- a set each scene of which shows what no other of it shows is come to -/
theorem rS_of {y : SY} : ∀ {m s set mi c : Nat}, s + m = y.1 → set < 2 ^ s → mi < 256 → c < 2 ^ y.1 → (∀ t, t < s → c.testBit t = set.testBit t) → cvr y c s mi → (∀ t, s ≤ t → c.testBit t = true → ∃ x, mi.testBit x = true ∧ (ySh y t).testBit x = true ∧ ∀ t', s ≤ t' → t' ≠ t → c.testBit t' = true → (ySh y t').testBit x = false) → rS y m s set mi c
  | 0, s, set, mi, c, hm, hs, hi, hc, hp, hv, hx => by
    refine ⟨?_, ?_⟩
    · apply Nat.eq_of_testBit_eq
      intro x
      rw [Nat.zero_testBit]
      cases hb : mi.testBit x
      · rfl
      · obtain ⟨t, t1, t2, _⟩ := hv x hb; omega
    · apply Nat.eq_of_testBit_eq
      intro t
      rcases Nat.lt_or_ge t s with q | q
      · exact hp t q
      · rw [Nat.testBit_lt_two_pow (Nat.lt_of_lt_of_le hs (Nat.pow_le_pow_right (by decide) q)), Nat.testBit_lt_two_pow (Nat.lt_of_lt_of_le hc (Nat.pow_le_pow_right (by decide) (by omega)))]
  | m + 1, s, set, mi, c, hm, hs, hi, hc, hp, hv, hx => by
    show (if mi = 0 then c = set else ((ySh y s &&& mi ≠ 0 ∧ rS y m (s + 1) (set ||| 2 ^ s) (nandn mi (ySh y s)) c) ∨ rS y m (s + 1) set mi c))
    by_cases z : mi = 0
    · rw [if_pos z]
      apply Nat.eq_of_testBit_eq
      intro t
      rcases Nat.lt_or_ge t s with q | q
      · exact hp t q
      · rw [Nat.testBit_lt_two_pow (Nat.lt_of_lt_of_le hs (Nat.pow_le_pow_right (by decide) q))]
        cases hb : c.testBit t
        · rfl
        · obtain ⟨x, x1, _⟩ := hx t q hb
          rw [z, Nat.zero_testBit] at x1; cases x1
    · rw [if_neg z]
      have ot := or_tb hs
      cases hb : c.testBit s
      · right
        refine rS_of (by omega) (lt_succ hs) hi hc (fun t ht => ?_) (fun x hxx => ?_) (fun t ht hct => ?_)
        · by_cases e : t = s
          · rw [e, hb, ot.2.2]
          · exact hp t (by omega)
        · obtain ⟨t, t1, t2, t3, t4⟩ := hv x hxx
          refine ⟨t, ?_, t2, t3, t4⟩
          by_cases e : t = s
          · rw [e, hb] at t3; cases t3
          · omega
        · obtain ⟨x, x1, x2, x3⟩ := hx t (by omega) hct
          exact ⟨x, x1, x2, fun t' h1 h2 h3 => x3 t' (by omega) h2 h3⟩
      · left
        obtain ⟨x, x1, x2, x3⟩ := hx s (Nat.le_refl _) hb
        refine ⟨fun e => ?_, rS_of (by omega) (or_lt hs) (Nat.lt_of_le_of_lt (nandn_le _ _) hi) hc (fun t ht => ?_) (fun x hxx => ?_) (fun t ht hct => ?_)⟩
        · have : (ySh y s &&& mi).testBit x = true := by rw [Nat.testBit_and, x1, x2]; rfl
          rw [e, Nat.zero_testBit] at this; cases this
        · by_cases e : t = s
          · rw [e, hb, ot.2.1]
          · rw [ot.1 t (by omega)]; exact hp t (by omega)
        · rw [nandn_tb (by omega), Bool.and_eq_true, Bool.not_eq_true'] at hxx
          obtain ⟨t, t1, t2, t3, t4⟩ := hv x hxx.1
          refine ⟨t, ?_, t2, t3, t4⟩
          by_cases e : t = s
          · rw [e, hxx.2] at t4; cases t4
          · omega
        · obtain ⟨x', y1, y2, y3⟩ := hx t (by omega) hct
          refine ⟨x', ?_, y2, fun t' h1 h2 h3 => y3 t' (by omega) h2 h3⟩
          rw [nandn_tb (by omega), y1, y3 s (Nat.le_refl _) (by omega) hb]; rfl
theorem pc12 {set s : Nat} (hs : set < 2 ^ s) (h12 : s ≤ 12) : pcN set 16 ≤ 12 := by
  have e : ∀ k, pcN set (12 + k) = pcN set 12 := fun k => by
    induction k with
    | zero => rfl
    | succ k ih => show pcN set (12 + k) + (if set.testBit (12 + k) then 1 else 0) = _; rw [ih, Nat.testBit_lt_two_pow (Nat.lt_of_lt_of_le hs (Nat.pow_le_pow_right (by decide) (by omega)))]; simp
  have := pcN_le set 12
  rw [show (16 : Nat) = 12 + 4 from rfl, e]; exact this
theorem c_X4_keepBetter {d : Nat} {h : JH} {P : JH → Prop} {y : SY} {set s : Nat} {st : Int × Int} (w : WF h) (o : yOk y) (t : TT h st) (hs : set < 2 ^ s) (hn : s ≤ y.1) (hP : ∀ h' st', Fr ScNw h h' → TT h' st' → Lst (taV y) st st' (fun c => c = set) → P h') : JRv (d + 1) jX4_keepBetter [vr 40, vi set, vi (yLen y set s : Nat)] h P := by
  obtain ⟨F, L, t1, t2, t3, t4, t5⟩ := t
  have o1 := o.1
  have p2 : 2 ^ s ≤ 2 ^ 12 := Nat.pow_le_pow_right (by omega) (by omega)
  have ev : taV y set = (((10000 * pcN set 16 + yLen y set s : Nat) : Int), (set : Int)) := by unfold taV yBy; rw [yLen_hi hs y.1 hn]
  have lb := yLen_le o set s hn
  have pb := pc12 hs (by omega)
  have hU : (((pcN set 16 : Nat) : Int) < F ∨ (((pcN set 16 : Nat) : Int) = F ∧ (((yLen y set s : Nat) : Int) < L ∨ (((yLen y set s : Nat) : Int) = L ∧ (set : Int) < st.2)))) → P (sI (sI (sI h 40 3 set) 40 4 (pcN set 16 : Nat)) 40 2 (yLen y set s : Nat)) := fun q => by
    refine hP _ (taV y set) (((Fr.rf.sI _ (scNw_i _)).sI _ (scNw_i _)).sI _ (scNw_i _)) ⟨(pcN set 16 : Nat), (yLen y set s : Nat), ?_, ?_, ?_, ?_, Or.inr ?_⟩ ⟨Or.inr ⟨set, rfl, rfl⟩, ?_, fun c hc => by rw [hc]; exact lxl.rf _⟩
    · rw [sI_k _ (by decide), sI_s]
    · rw [sI_s]
    · rw [sI_k _ (by decide), sI_k _ (by decide), sI_s, ev]
    · rw [ev]; show ((10000 * pcN set 16 + yLen y set s : Nat) : Int) = _; omega
    · rw [ev]; show (0 : Int) ≤ (pcN set 16 : Nat) ∧ _ ∧ _ ∧ _ ∧ (0 : Int) ≤ (set : Int); omega
    · rw [ev]; unfold lxl; show ((10000 * pcN set 16 + yLen y set s : Nat) : Int) < st.1 ∨ (((10000 * pcN set 16 + yLen y set s : Nat) : Int) = st.1 ∧ (set : Int) ≤ st.2); omega
  have hK : ¬ (((pcN set 16 : Nat) : Int) < F ∨ (((pcN set 16 : Nat) : Int) = F ∧ (((yLen y set s : Nat) : Int) < L ∨ (((yLen y set s : Nat) : Int) = L ∧ (set : Int) < st.2)))) → P h := fun q => by
    refine hP _ st Fr.rf ⟨F, L, t1, t2, t3, t4, t5⟩ (Lst.non (fun c hc => ?_))
    rw [hc, ev]; unfold lxl; show st.1 < ((10000 * pcN set 16 + yLen y set s : Nat) : Int) ∨ (st.1 = ((10000 * pcN set 16 + yLen y set s : Nat) : Int) ∧ st.2 ≤ (set : Int)); omega
  refine JRet.of rfl (Nat.le_of_ble_eq_true rfl) ?_
  refine st_iload_n (q := 1) dX4_keepBetter_0 rfl rfl ?_
  refine iS1i (q := 4) dX4_keepBetter_1 rfl ml_X4_99 ms_J6_bitCount_0f7a4 (Nat.le_of_ble_eq_true rfl) ?_
  refine c_bitCount (by omega) ?_
  refine st_istore_n (q := 5) (i := 3) dX4_keepBetter_4 rfl (by decide) rfl ?_
  refine st_iload_n (q := 6) dX4_keepBetter_5 rfl rfl ?_
  refine st_aload_n (q := 7) dX4_keepBetter_6 rfl rfl ?_
  refine st_getI (q := 10) 4 2 dX4_keepBetter_7 fl_X4_18 (by decide) (by decide) rfl rfl (wfk w rfl) ?_
  refine st_icmp_lt (q := 13) (tgt := 29) dX4_keepBetter_10 (by decide) rfl (fun c10 => ?_) (fun c10 => ?_)
  · refine st_iconst (q := 30) dX4_keepBetter_29 ⟨by decide, by decide⟩ rfl ?_
    refine st_goto (q := 34) dX4_keepBetter_30 (by decide) ?_
    refine st_istore (q := 36) dX4_keepBetter_34 (by decide) rfl ?_
    refine st_iload_n (q := 37) dX4_keepBetter_36 rfl rfl ?_
    refine st_aload_n (q := 38) dX4_keepBetter_37 rfl rfl ?_
    refine st_getI (q := 41) 4 4 dX4_keepBetter_38 fl_X4_24 (by decide) (by decide) rfl rfl (wfk w rfl) ?_
    refine st_icmp_lt (q := 44) (tgt := 57) dX4_keepBetter_41 (by decide) rfl (fun c41 => ?_) (fun c41 => ?_)
    · refine st_aload_n (q := 58) dX4_keepBetter_57 rfl rfl ?_
      refine st_iload_n (q := 59) dX4_keepBetter_58 rfl rfl ?_
      refine st_putI (q := 62) 4 3 dX4_keepBetter_59 fl_X4_21 (by decide) (by decide) (Or.inl rfl) rfl (Or.inl rfl) (wfk w rfl) ?_
      refine st_aload_n (q := 63) dX4_keepBetter_62 rfl rfl ?_
      refine st_iload_n (q := 64) dX4_keepBetter_63 rfl rfl ?_
      refine st_putI (q := 67) 4 4 dX4_keepBetter_64 fl_X4_24 (by decide) (by decide) (Or.inl rfl) rfl (Or.inl rfl) (wfk w rfl) ?_
      refine st_aload_n (q := 68) dX4_keepBetter_67 rfl rfl ?_
      refine st_iload_n (q := 69) dX4_keepBetter_68 rfl rfl ?_
      refine st_putI (q := 72) 4 2 dX4_keepBetter_69 fl_X4_18 (by decide) (by decide) (Or.inl rfl) rfl (Or.inl rfl) (wfk w rfl) ?_
      refine rt_v dX4_keepBetter_72 rfl ?_
      first | exact hU (by omega) | exact hK (by omega)
    · refine st_iload_n (q := 45) dX4_keepBetter_44 rfl rfl ?_
      refine st_aload_n (q := 46) dX4_keepBetter_45 rfl rfl ?_
      refine st_getI (q := 49) 4 4 dX4_keepBetter_46 fl_X4_24 (by decide) (by decide) rfl rfl (wfk w rfl) ?_
      refine st_icmp_ne (q := 52) (tgt := 72) dX4_keepBetter_49 (by decide) rfl (fun c49 => ?_) (fun c49 => ?_)
      · refine rt_v dX4_keepBetter_72 rfl ?_
        first | exact hU (by omega) | exact hK (by omega)
      · refine st_iload (q := 54) dX4_keepBetter_52 rfl rfl ?_
        refine st_if_eq (q := 57) (tgt := 72) dX4_keepBetter_54 (by decide) rfl (fun z => absurd z (by decide)) (fun _ => ?_)
        refine st_aload_n (q := 58) dX4_keepBetter_57 rfl rfl ?_
        refine st_iload_n (q := 59) dX4_keepBetter_58 rfl rfl ?_
        refine st_putI (q := 62) 4 3 dX4_keepBetter_59 fl_X4_21 (by decide) (by decide) (Or.inl rfl) rfl (Or.inl rfl) (wfk w rfl) ?_
        refine st_aload_n (q := 63) dX4_keepBetter_62 rfl rfl ?_
        refine st_iload_n (q := 64) dX4_keepBetter_63 rfl rfl ?_
        refine st_putI (q := 67) 4 4 dX4_keepBetter_64 fl_X4_24 (by decide) (by decide) (Or.inl rfl) rfl (Or.inl rfl) (wfk w rfl) ?_
        refine st_aload_n (q := 68) dX4_keepBetter_67 rfl rfl ?_
        refine st_iload_n (q := 69) dX4_keepBetter_68 rfl rfl ?_
        refine st_putI (q := 72) 4 2 dX4_keepBetter_69 fl_X4_18 (by decide) (by decide) (Or.inl rfl) rfl (Or.inl rfl) (wfk w rfl) ?_
        refine rt_v dX4_keepBetter_72 rfl ?_
        first | exact hU (by omega) | exact hK (by omega)
  · refine st_iload_n (q := 14) dX4_keepBetter_13 rfl rfl ?_
    refine st_aload_n (q := 15) dX4_keepBetter_14 rfl rfl ?_
    refine st_getI (q := 18) 4 2 dX4_keepBetter_15 fl_X4_18 (by decide) (by decide) rfl rfl (wfk w rfl) ?_
    refine st_icmp_ne (q := 21) (tgt := 33) dX4_keepBetter_18 (by decide) rfl (fun c18 => ?_) (fun c18 => ?_)
    · refine st_iconst (q := 34) dX4_keepBetter_33 ⟨by decide, by decide⟩ rfl ?_
      refine st_istore (q := 36) dX4_keepBetter_34 (by decide) rfl ?_
      refine st_iload_n (q := 37) dX4_keepBetter_36 rfl rfl ?_
      refine st_aload_n (q := 38) dX4_keepBetter_37 rfl rfl ?_
      refine st_getI (q := 41) 4 4 dX4_keepBetter_38 fl_X4_24 (by decide) (by decide) rfl rfl (wfk w rfl) ?_
      refine st_icmp_lt (q := 44) (tgt := 57) dX4_keepBetter_41 (by decide) rfl (fun c41 => ?_) (fun c41 => ?_)
      · refine st_aload_n (q := 58) dX4_keepBetter_57 rfl rfl ?_
        refine st_iload_n (q := 59) dX4_keepBetter_58 rfl rfl ?_
        refine st_putI (q := 62) 4 3 dX4_keepBetter_59 fl_X4_21 (by decide) (by decide) (Or.inl rfl) rfl (Or.inl rfl) (wfk w rfl) ?_
        refine st_aload_n (q := 63) dX4_keepBetter_62 rfl rfl ?_
        refine st_iload_n (q := 64) dX4_keepBetter_63 rfl rfl ?_
        refine st_putI (q := 67) 4 4 dX4_keepBetter_64 fl_X4_24 (by decide) (by decide) (Or.inl rfl) rfl (Or.inl rfl) (wfk w rfl) ?_
        refine st_aload_n (q := 68) dX4_keepBetter_67 rfl rfl ?_
        refine st_iload_n (q := 69) dX4_keepBetter_68 rfl rfl ?_
        refine st_putI (q := 72) 4 2 dX4_keepBetter_69 fl_X4_18 (by decide) (by decide) (Or.inl rfl) rfl (Or.inl rfl) (wfk w rfl) ?_
        refine rt_v dX4_keepBetter_72 rfl ?_
        first | exact hU (by omega) | exact hK (by omega)
      · refine st_iload_n (q := 45) dX4_keepBetter_44 rfl rfl ?_
        refine st_aload_n (q := 46) dX4_keepBetter_45 rfl rfl ?_
        refine st_getI (q := 49) 4 4 dX4_keepBetter_46 fl_X4_24 (by decide) (by decide) rfl rfl (wfk w rfl) ?_
        refine st_icmp_ne (q := 52) (tgt := 72) dX4_keepBetter_49 (by decide) rfl (fun c49 => ?_) (fun c49 => ?_)
        · refine rt_v dX4_keepBetter_72 rfl ?_
          first | exact hU (by omega) | exact hK (by omega)
        · refine st_iload (q := 54) dX4_keepBetter_52 rfl rfl ?_
          refine st_if_eq (q := 57) (tgt := 72) dX4_keepBetter_54 (by decide) rfl (fun _ => ?_) (fun z => absurd z (by decide))
          refine rt_v dX4_keepBetter_72 rfl ?_
          first | exact hU (by omega) | exact hK (by omega)
    · refine st_iload_n (q := 22) dX4_keepBetter_21 rfl rfl ?_
      refine st_aload_n (q := 23) dX4_keepBetter_22 rfl rfl ?_
      refine st_getI (q := 26) 4 3 dX4_keepBetter_23 fl_X4_21 (by decide) (by decide) rfl rfl (wfk w rfl) ?_
      refine st_icmp_ge (q := 29) (tgt := 33) dX4_keepBetter_26 (by decide) rfl (fun c26 => ?_) (fun c26 => ?_)
      · refine st_iconst (q := 34) dX4_keepBetter_33 ⟨by decide, by decide⟩ rfl ?_
        refine st_istore (q := 36) dX4_keepBetter_34 (by decide) rfl ?_
        refine st_iload_n (q := 37) dX4_keepBetter_36 rfl rfl ?_
        refine st_aload_n (q := 38) dX4_keepBetter_37 rfl rfl ?_
        refine st_getI (q := 41) 4 4 dX4_keepBetter_38 fl_X4_24 (by decide) (by decide) rfl rfl (wfk w rfl) ?_
        refine st_icmp_lt (q := 44) (tgt := 57) dX4_keepBetter_41 (by decide) rfl (fun c41 => ?_) (fun c41 => ?_)
        · refine st_aload_n (q := 58) dX4_keepBetter_57 rfl rfl ?_
          refine st_iload_n (q := 59) dX4_keepBetter_58 rfl rfl ?_
          refine st_putI (q := 62) 4 3 dX4_keepBetter_59 fl_X4_21 (by decide) (by decide) (Or.inl rfl) rfl (Or.inl rfl) (wfk w rfl) ?_
          refine st_aload_n (q := 63) dX4_keepBetter_62 rfl rfl ?_
          refine st_iload_n (q := 64) dX4_keepBetter_63 rfl rfl ?_
          refine st_putI (q := 67) 4 4 dX4_keepBetter_64 fl_X4_24 (by decide) (by decide) (Or.inl rfl) rfl (Or.inl rfl) (wfk w rfl) ?_
          refine st_aload_n (q := 68) dX4_keepBetter_67 rfl rfl ?_
          refine st_iload_n (q := 69) dX4_keepBetter_68 rfl rfl ?_
          refine st_putI (q := 72) 4 2 dX4_keepBetter_69 fl_X4_18 (by decide) (by decide) (Or.inl rfl) rfl (Or.inl rfl) (wfk w rfl) ?_
          refine rt_v dX4_keepBetter_72 rfl ?_
          first | exact hU (by omega) | exact hK (by omega)
        · refine st_iload_n (q := 45) dX4_keepBetter_44 rfl rfl ?_
          refine st_aload_n (q := 46) dX4_keepBetter_45 rfl rfl ?_
          refine st_getI (q := 49) 4 4 dX4_keepBetter_46 fl_X4_24 (by decide) (by decide) rfl rfl (wfk w rfl) ?_
          refine st_icmp_ne (q := 52) (tgt := 72) dX4_keepBetter_49 (by decide) rfl (fun c49 => ?_) (fun c49 => ?_)
          · refine rt_v dX4_keepBetter_72 rfl ?_
            first | exact hU (by omega) | exact hK (by omega)
          · refine st_iload (q := 54) dX4_keepBetter_52 rfl rfl ?_
            refine st_if_eq (q := 57) (tgt := 72) dX4_keepBetter_54 (by decide) rfl (fun _ => ?_) (fun z => absurd z (by decide))
            refine rt_v dX4_keepBetter_72 rfl ?_
            first | exact hU (by omega) | exact hK (by omega)
      · refine st_iconst (q := 30) dX4_keepBetter_29 ⟨by decide, by decide⟩ rfl ?_
        refine st_goto (q := 34) dX4_keepBetter_30 (by decide) ?_
        refine st_istore (q := 36) dX4_keepBetter_34 (by decide) rfl ?_
        refine st_iload_n (q := 37) dX4_keepBetter_36 rfl rfl ?_
        refine st_aload_n (q := 38) dX4_keepBetter_37 rfl rfl ?_
        refine st_getI (q := 41) 4 4 dX4_keepBetter_38 fl_X4_24 (by decide) (by decide) rfl rfl (wfk w rfl) ?_
        refine st_icmp_lt (q := 44) (tgt := 57) dX4_keepBetter_41 (by decide) rfl (fun c41 => ?_) (fun c41 => ?_)
        · refine st_aload_n (q := 58) dX4_keepBetter_57 rfl rfl ?_
          refine st_iload_n (q := 59) dX4_keepBetter_58 rfl rfl ?_
          refine st_putI (q := 62) 4 3 dX4_keepBetter_59 fl_X4_21 (by decide) (by decide) (Or.inl rfl) rfl (Or.inl rfl) (wfk w rfl) ?_
          refine st_aload_n (q := 63) dX4_keepBetter_62 rfl rfl ?_
          refine st_iload_n (q := 64) dX4_keepBetter_63 rfl rfl ?_
          refine st_putI (q := 67) 4 4 dX4_keepBetter_64 fl_X4_24 (by decide) (by decide) (Or.inl rfl) rfl (Or.inl rfl) (wfk w rfl) ?_
          refine st_aload_n (q := 68) dX4_keepBetter_67 rfl rfl ?_
          refine st_iload_n (q := 69) dX4_keepBetter_68 rfl rfl ?_
          refine st_putI (q := 72) 4 2 dX4_keepBetter_69 fl_X4_18 (by decide) (by decide) (Or.inl rfl) rfl (Or.inl rfl) (wfk w rfl) ?_
          refine rt_v dX4_keepBetter_72 rfl ?_
          first | exact hU (by omega) | exact hK (by omega)
        · refine st_iload_n (q := 45) dX4_keepBetter_44 rfl rfl ?_
          refine st_aload_n (q := 46) dX4_keepBetter_45 rfl rfl ?_
          refine st_getI (q := 49) 4 4 dX4_keepBetter_46 fl_X4_24 (by decide) (by decide) rfl rfl (wfk w rfl) ?_
          refine st_icmp_ne (q := 52) (tgt := 72) dX4_keepBetter_49 (by decide) rfl (fun c49 => ?_) (fun c49 => ?_)
          · refine rt_v dX4_keepBetter_72 rfl ?_
            first | exact hU (by omega) | exact hK (by omega)
          · refine st_iload (q := 54) dX4_keepBetter_52 rfl rfl ?_
            refine st_if_eq (q := 57) (tgt := 72) dX4_keepBetter_54 (by decide) rfl (fun z => absurd z (by decide)) (fun _ => ?_)
            refine st_aload_n (q := 58) dX4_keepBetter_57 rfl rfl ?_
            refine st_iload_n (q := 59) dX4_keepBetter_58 rfl rfl ?_
            refine st_putI (q := 62) 4 3 dX4_keepBetter_59 fl_X4_21 (by decide) (by decide) (Or.inl rfl) rfl (Or.inl rfl) (wfk w rfl) ?_
            refine st_aload_n (q := 63) dX4_keepBetter_62 rfl rfl ?_
            refine st_iload_n (q := 64) dX4_keepBetter_63 rfl rfl ?_
            refine st_putI (q := 67) 4 4 dX4_keepBetter_64 fl_X4_24 (by decide) (by decide) (Or.inl rfl) rfl (Or.inl rfl) (wfk w rfl) ?_
            refine st_aload_n (q := 68) dX4_keepBetter_67 rfl rfl ?_
            refine st_iload_n (q := 69) dX4_keepBetter_68 rfl rfl ?_
            refine st_putI (q := 72) 4 2 dX4_keepBetter_69 fl_X4_18 (by decide) (by decide) (Or.inl rfl) rfl (Or.inl rfl) (wfk w rfl) ?_
            refine rt_v dX4_keepBetter_72 rfl ?_
            first | exact hU (by omega) | exact hK (by omega)
theorem TT.fr {h h' : JH} {st : Int × Int} (t : TT h st) (e2 : hI h' 40 2 = hI h 40 2) (e3 : hI h' 40 3 = hI h 40 3) (e4 : hI h' 40 4 = hI h 40 4) : TT h' st := by
  obtain ⟨F, L, t1, t2, t3, t4⟩ := t
  exact ⟨F, L, e4.trans t1, e2.trans t2, e3.trans t3, t4⟩
set_option maxHeartbeats 4000000 in
theorem c_X4_showFrom {h : JH} {y : SY} {b : Nat} (w0 : WF h) (x0 : SX h y b) (o : yOk y) : ∀ (m D s set mi : Nat) (st : Int × Int) (h' : JH) (P : JH → Prop), s + m = y.1 → m + 5 ≤ D → Fr ScNw h h' → TT h' st → set < 2 ^ s → mi < 256 → (∀ h2 st', Fr ScNw h h2 → TT h2 st' → Lst (taV y) st st' (rS y m s set mi) → P h2) → JRv D jX4_showFrom [vr 40, vr 13, vi s, vi set, vi (yLen y set s : Nat), vi mi] h' P := by
  intro m
  induction m with
  | zero =>
    intro D s set mi st h' P hm hD f t hs hi hP
    obtain ⟨d, rfl⟩ : ∃ d, D = d + 5 := ⟨D - 5, by omega⟩
    have w := f.wf w0
    have x := x0.nt o f
    have o1 := o.1
    have p2 : 2 ^ s ≤ 2 ^ 12 := Nat.pow_le_pow_right (by omega) (by omega)
    obtain ⟨F, L, t1, t2, t3, t4, t5⟩ := id t
    refine JRet.of rfl (Nat.le_of_ble_eq_true rfl) ?_
    refine st_iload_n (q := 1) dX4_showFrom_0 rfl rfl ?_
    refine iS1i (q := 4) dX4_showFrom_1 rfl ml_X4_99 ms_J6_bitCount_0f7a4 (Nat.le_of_ble_eq_true rfl) ?_
    refine c_bitCount (by omega) ?_
    refine st_aload_n (q := 5) dX4_showFrom_4 rfl rfl ?_
    refine st_getI (q := 8) 4 4 dX4_showFrom_5 fl_X4_24 (by decide) (by decide) rfl rfl (wfk w rfl) ?_
    refine st_icmp_le (q := 11) (tgt := 12) dX4_showFrom_8 (by decide) rfl (fun c8 => ?_) (fun c8 => ?_)
    · refine st_iload (q := 14) dX4_showFrom_12 rfl rfl ?_
      refine st_if_ne (q := 17) (tgt := 25) dX4_showFrom_14 (by decide) rfl (fun c14 => ?_) (fun c14 => ?_)
      · refine st_aload_n (q := 26) dX4_showFrom_25 rfl rfl ?_
        refine st_iload_n (q := 27) dX4_showFrom_26 rfl rfl ?_
        refine iV1i (q := 30) dX4_showFrom_27 rfl ml_X4_92 mv_X8_has (Nat.le_of_ble_eq_true rfl) (wfk w rfl) ?_
        refine c_X8_has w x ?_
        refine st_if_ne (q := 33) (tgt := 34) dX4_showFrom_30 (by decide) rfl (fun c30 => ?_) (fun c30 => ?_)
        · exfalso; omega
        · refine rt_v dX4_showFrom_33 rfl ?_
          exact hP _ st f t (Lst.non (fun c hc => absurd hc.1 (by omega)))
      · refine st_aload_n (q := 18) dX4_showFrom_17 rfl rfl ?_
        refine st_iload_n (q := 19) dX4_showFrom_18 rfl rfl ?_
        refine st_iload (q := 21) dX4_showFrom_19 rfl rfl ?_
        refine iV2v (q := 24) dX4_showFrom_21 rfl ml_X4_105 mv_X4_keepBetter (Nat.le_of_ble_eq_true rfl) (wfk w rfl) ?_
        refine c_X4_keepBetter w o t hs (by omega) (fun h2z st2z f2z t2z hLz => ?_)
        refine rt_v dX4_showFrom_24 rfl ?_
        exact hP _ st2z (f.tr f2z) t2z ((Lst.non (S := fun _ => False) (fun _ z => z.elim)).two hLz (fun c => ⟨fun q => Or.inr q.2, fun q => q.elim (fun z => z.elim) (fun q => ⟨by omega, q⟩)⟩))
    · refine rt_v dX4_showFrom_11 rfl ?_
      exact hP _ st f t (Lst.non (fun c hc => by have q := rS_sub hs hc; refine Or.inl ?_; show st.1 < ((10000 * pcN c 16 + yLen y c y.1 : Nat) : Int); have := pcN_le c 16; have pq12 := pc12 hs (by omega); omega))
  | succ m ih =>
    intro D s set mi st h' P hm hD f t hs hi hP
    obtain ⟨d, rfl⟩ : ∃ d, D = d + 5 := ⟨D - 5, by omega⟩
    have w := f.wf w0
    have x := x0.nt o f
    have o1 := o.1
    have b1 := x.1
    have hlt : s < y.1 := by omega
    have os := o.2 s hlt
    have cx := x.2.2.2.2 s hlt
    have p2 : 2 ^ s ≤ 2 ^ 12 := Nat.pow_le_pow_right (by omega) (by omega)
    have ot := or_tb hs
    have lc := yLen_le o set s (by omega)
    have nl := nandn_le mi (ySh y s)
    obtain ⟨F, L, t1, t2, t3, t4, t5⟩ := id t
    have hC : mi ≠ 0 → ∀ h3 st3 (j6 : JV), Fr ScNw h h3 → TT h3 st3 → Lst (taV y) st st3 (fun c => ySh y s &&& mi ≠ 0 ∧ rS y m (s + 1) (set ||| 2 ^ s) (nandn mi (ySh y s)) c) → JAt k0 (d + 5) jX4_showFrom 84 [vr 40, vr 13, vi s, vi set, vi (yLen y set s : Nat), vi mi, j6] [] h3 (jqv P) := by
      intro hmi h3 st3 j6 f3 t3 hL
      have el : ((yLen y set s : Nat) : Int) = ((yLen y set (s + 1) : Nat) : Int) := by rw [show yLen y set (s + 1) = yLen y set s + (if set.testBit s then yLe y s else 0) from rfl, ot.2.2]; simp
      refine st_aload_n (q := 85) dX4_showFrom_84 rfl rfl ?_
      refine st_aload_n (q := 86) dX4_showFrom_85 rfl rfl ?_
      refine st_iload_n (q := 87) dX4_showFrom_86 rfl rfl ?_
      refine st_iconst (q := 88) dX4_showFrom_87 ⟨by decide, by decide⟩ rfl ?_
      first | refine n_iadd (q := 89) dX4_showFrom_88 rfl ⟨by omega, by omega⟩ ?_ | refine st_iadd (q := 89) dX4_showFrom_88 rfl ?_
      refine st_iload_n (q := 90) dX4_showFrom_89 rfl rfl ?_
      refine st_iload (q := 92) dX4_showFrom_90 rfl rfl ?_
      refine st_iload (q := 94) dX4_showFrom_92 rfl rfl ?_
      refine iS6v (q := 97) dX4_showFrom_94 rfl ml_X4_96 ms_X4_showFrom (Nat.le_of_ble_eq_true rfl) ?_
      rw [el, show (s : Int) + 1 = ((s + 1 : Nat) : Int) by omega]
      refine ih (d + 4) (s + 1) set mi st3 _ _ (by omega) (by omega) f3 t3 (lt_succ hs) hi (fun h5z st5z f5z t5z hL5z => ?_)
      refine rt_v dX4_showFrom_97 rfl ?_
      exact hP _ st5z f5z t5z (hL.two hL5z (fun c => by show (if mi = 0 then c = set else _) ↔ _; rw [if_neg hmi]))
    refine JRet.of rfl (Nat.le_of_ble_eq_true rfl) ?_
    refine st_iload_n (q := 1) dX4_showFrom_0 rfl rfl ?_
    refine iS1i (q := 4) dX4_showFrom_1 rfl ml_X4_99 ms_J6_bitCount_0f7a4 (Nat.le_of_ble_eq_true rfl) ?_
    refine c_bitCount (by omega) ?_
    refine st_aload_n (q := 5) dX4_showFrom_4 rfl rfl ?_
    refine st_getI (q := 8) 4 4 dX4_showFrom_5 fl_X4_24 (by decide) (by decide) rfl rfl (by first | exact wfk w rfl | exact xsk (h := h') w x | exact xck (h := h') w x (by omega)) ?_
    refine st_icmp_le (q := 11) (tgt := 12) dX4_showFrom_8 (by decide) rfl (fun c8 => ?_) (fun c8 => ?_)
    · refine st_iload (q := 14) dX4_showFrom_12 rfl rfl ?_
      refine st_if_ne (q := 17) (tgt := 25) dX4_showFrom_14 (by decide) rfl (fun c14 => ?_) (fun c14 => ?_)
      · refine st_aload_n (q := 26) dX4_showFrom_25 rfl rfl ?_
        refine st_iload_n (q := 27) dX4_showFrom_26 rfl rfl ?_
        refine iV1i (q := 30) dX4_showFrom_27 rfl ml_X4_92 mv_X8_has (Nat.le_of_ble_eq_true rfl) (by first | exact wfk w rfl | exact xsk (h := h') w x | exact xck (h := h') w x (by omega)) ?_
        refine c_X8_has w x ?_
        refine st_if_ne (q := 33) (tgt := 34) dX4_showFrom_30 (by decide) rfl (fun c30 => ?_) (fun c30 => ?_)
        · refine st_aload_n (q := 35) dX4_showFrom_34 rfl rfl ?_
          refine st_getR (q := 38) 8 0 dX4_showFrom_35 fl_X4_63 (by decide) (by decide) rfl rfl (by first | exact wfk w rfl | exact xsk (h := h') w x | exact xck (h := h') w x (by omega)) (by first | exact wfR w rfl | exact x.2.1) ?_
          refine st_iload_n (q := 39) dX4_showFrom_38 rfl rfl ?_
          refine st_aaload (q := 40) (t := 4) dX4_showFrom_39 rfl ⟨by decide, by decide⟩ (by first | exact wfk w rfl | exact xsk (h := h') w x | exact xck (h := h') w x (by omega)) (by first | exact wfb w rfl ⟨by omega, by omega⟩ | exact xsb (h := h') w x ⟨by omega, by omega⟩) (xsc (h := h') w x (by omega)) ?_
          refine st_astore (q := 42) dX4_showFrom_40 (by decide) rfl ?_
          refine st_aload (q := 44) dX4_showFrom_42 rfl rfl ?_
          refine st_getI (q := 47) 5 0 dX4_showFrom_44 fl_X4_84 (by decide) (by decide) rfl rfl (by first | exact wfk w rfl | exact xsk (h := h') w x | exact xck (h := h') w x (by omega)) ?_
          refine j_top ((ySh y s : Nat) : Int) cx.1 ?_
          refine st_iload (q := 49) dX4_showFrom_47 rfl rfl ?_
          refine st_iand (q := 50) dX4_showFrom_49 rfl ?_
          refine j_top ((ySh y s &&& mi : Nat) : Int) (iand_n (by omega)) ?_
          refine st_if_eq (q := 53) (tgt := 84) dX4_showFrom_50 (by decide) rfl (fun c50 => ?_) (fun c50 => ?_)
          · first | exact hC (by omega) _ st3z _ f3z t3z ((Lst.non (S := fun _ => False) (fun _ z => z.elim)).two hL3z (fun c => ⟨fun q => Or.inr q.2, fun q => q.elim (fun z => z.elim) (fun q => ⟨by omega, q⟩)⟩)) | exact hC (by omega) _ st _ f t (Lst.non (fun c hc => absurd hc.1 (by omega)))
          · refine st_aload_n (q := 54) dX4_showFrom_53 rfl rfl ?_
            refine st_aload_n (q := 55) dX4_showFrom_54 rfl rfl ?_
            refine st_iload_n (q := 56) dX4_showFrom_55 rfl rfl ?_
            refine st_iconst (q := 57) dX4_showFrom_56 ⟨by decide, by decide⟩ rfl ?_
            first | refine n_iadd (q := 58) dX4_showFrom_57 rfl ⟨by omega, by omega⟩ ?_ | refine st_iadd (q := 58) dX4_showFrom_57 rfl ?_
            refine st_iload_n (q := 59) dX4_showFrom_58 rfl rfl ?_
            refine st_iconst (q := 60) dX4_showFrom_59 ⟨by decide, by decide⟩ rfl ?_
            refine st_iload_n (q := 61) dX4_showFrom_60 rfl rfl ?_
            refine st_ishl (q := 62) dX4_showFrom_61 rfl ?_
            refine j_top ((2 ^ s : Nat) : Int) (by have := ishl_n (a := 1) (k := s) (by omega) (by rw [Nat.one_mul]; exact p31 (by omega)); rw [Nat.one_mul] at this; exact this) ?_
            refine st_ior (q := 63) dX4_showFrom_62 rfl ?_
            rw [ior_n (by omega) (by omega)]
            refine st_iload (q := 65) dX4_showFrom_63 rfl rfl ?_
            refine st_aload (q := 67) dX4_showFrom_65 rfl rfl ?_
            refine st_getI (q := 70) 5 2 dX4_showFrom_67 fl_X4_74 (by decide) (by decide) rfl rfl (by first | exact wfk w rfl | exact xsk (h := h') w x | exact xck (h := h') w x (by omega)) ?_
            refine j_top ((yLe y s : Nat) : Int) cx.2.2.1 ?_
            first | refine n_iadd (q := 71) dX4_showFrom_70 rfl ⟨by omega, by omega⟩ ?_ | refine st_iadd (q := 71) dX4_showFrom_70 rfl ?_
            refine st_iload (q := 73) dX4_showFrom_71 rfl rfl ?_
            refine st_aload (q := 75) dX4_showFrom_73 rfl rfl ?_
            refine st_getI (q := 78) 5 0 dX4_showFrom_75 fl_X4_84 (by decide) (by decide) rfl rfl (by first | exact wfk w rfl | exact xsk (h := h') w x | exact xck (h := h') w x (by omega)) ?_
            refine j_top ((ySh y s : Nat) : Int) cx.1 ?_
            refine st_iconst (q := 79) dX4_showFrom_78 ⟨by decide, by decide⟩ rfl ?_
            refine st_ixor (q := 80) dX4_showFrom_79 rfl ?_
            refine st_iand (q := 81) dX4_showFrom_80 rfl ?_
            refine j_top ((nandn mi (ySh y s) : Nat) : Int) (iandn_n (by omega) (by omega)) ?_
            refine iS6v (q := 84) dX4_showFrom_81 rfl ml_X4_96 ms_X4_showFrom (Nat.le_of_ble_eq_true rfl) ?_
            have el : ((yLen y set s : Nat) : Int) + ((yLe y s : Nat) : Int) = ((yLen y (set ||| 2 ^ s) (s + 1) : Nat) : Int) := (by rw [show yLen y (set ||| 2 ^ s) (s + 1) = yLen y (set ||| 2 ^ s) s + (if (set ||| 2 ^ s).testBit s then yLe y s else 0) from rfl, ot.2.1, yLen_pre ot.1]; simp)
            rw [el, show (s : Int) + 1 = ((s + 1 : Nat) : Int) by omega]
            refine ih (d + 4) (s + 1) (set ||| 2 ^ s) (nandn mi (ySh y s)) st _ _ (by omega) (by omega) f t (or_lt hs) (by omega) (fun h3z st3z f3z t3z hL3z => ?_)
            first | exact hC (by omega) _ st3z _ f3z t3z ((Lst.non (S := fun _ => False) (fun _ z => z.elim)).two hL3z (fun c => ⟨fun q => Or.inr q.2, fun q => q.elim (fun z => z.elim) (fun q => ⟨by omega, q⟩)⟩)) | exact hC (by omega) _ st _ f t (Lst.non (fun c hc => absurd hc.1 (by omega)))
        · refine rt_v dX4_showFrom_33 rfl ?_
          exfalso; omega
      · refine st_aload_n (q := 18) dX4_showFrom_17 rfl rfl ?_
        refine st_iload_n (q := 19) dX4_showFrom_18 rfl rfl ?_
        refine st_iload (q := 21) dX4_showFrom_19 rfl rfl ?_
        refine iV2v (q := 24) dX4_showFrom_21 rfl ml_X4_105 mv_X4_keepBetter (Nat.le_of_ble_eq_true rfl) (by first | exact wfk w rfl | exact xsk (h := h') w x | exact xck (h := h') w x (by omega)) ?_
        refine c_X4_keepBetter w o t hs (by omega) (fun h2z st2z f2z t2z hLz => ?_)
        refine rt_v dX4_showFrom_24 rfl ?_
        exact hP _ st2z (f.tr f2z) t2z ((Lst.non (S := fun _ => False) (fun _ z => z.elim)).two hLz (fun c => by show (if mi = 0 then c = set else _) ↔ _; rw [if_pos (by omega)]; exact ⟨Or.inr, fun q => q.elim (fun z => z.elim) id⟩))
    · refine rt_v dX4_showFrom_11 rfl ?_
      exact hP _ st f t (Lst.non (fun c hc => by have q := rS_sub hs hc; refine Or.inl ?_; show st.1 < ((10000 * pcN c 16 + yLen y c y.1 : Nat) : Int); have := pcN_le c 16; have pq12 := pc12 hs (by omega); omega))

theorem ysn_tb {y : SY} {c x : Nat} : ∀ n, (ysn y c n).testBit x = true ↔ ∃ t, t < n ∧ c.testBit t = true ∧ (ySh y t).testBit x = true
  | 0 => by simp [ysn]
  | n + 1 => by
    show (ysn y c n ||| (if c.testBit n then ySh y n else 0)).testBit x = true ↔ _
    rw [Nat.testBit_or, Bool.or_eq_true, ysn_tb n]
    constructor
    · rintro (⟨t, t1, t2⟩ | h)
      · exact ⟨t, by omega, t2⟩
      · cases hb : c.testBit n
        · rw [hb] at h; simp at h
        · rw [hb, if_pos rfl] at h; exact ⟨n, by omega, hb, h⟩
    · rintro ⟨t, t1, t2, t3⟩
      rcases Nat.lt_or_ge t n with q | q
      · exact Or.inl ⟨t, q, t2, t3⟩
      · have e : t = n := by omega
        subst e
        exact Or.inr (by rw [t2, if_pos rfl]; exact t3)
theorem cvr_iff {y : SY} {c w : Nat} (hw : w < 256) : nandn w (ysn y c y.1) = 0 ↔ cvr y c 0 w := by
  rw [nandn_0 (by omega)]
  unfold cvr
  constructor
  · intro h x hx
    obtain ⟨t, t1, t2⟩ := (ysn_tb y.1).mp (h x hx)
    exact ⟨t, Nat.zero_le _, t1, t2⟩
  · intro h x hx
    obtain ⟨t, _, t1, t2⟩ := h x hx
    exact (ysn_tb y.1).mpr ⟨t, t1, t2⟩
theorem taleF_c (y : SY) (w : Nat) : ∀ N, ((taleF y w N) = (-9, 0) ∧ ∀ c, c < N → ¬ nandn w (ysn y c y.1) = 0) ∨ (∃ c, c < N ∧ nandn w (ysn y c y.1) = 0 ∧ taleF y w N = ((c : Int), yBy y c) ∧ ∀ c', c' < N → nandn w (ysn y c' y.1) = 0 → lxl (taV y c) (taV y c'))
  | 0 => Or.inl ⟨rfl, fun c hc => absurd hc (Nat.not_lt_zero c)⟩
  | N + 1 => by
    have e0 : taleF y w (N + 1) = if nandn w (ysn y N y.1) = 0 ∧ ((taleF y w N).1 < 0 ∨ yBy y N < (taleF y w N).2) then ((N : Int), yBy y N) else taleF y w N := rfl
    rcases taleF_c y w N with ⟨h1, h2⟩ | ⟨c, h1, h2, h3, h4⟩
    · by_cases g : nandn w (ysn y N y.1) = 0
      · right
        refine ⟨N, by omega, g, ?_, fun c' hc' g' => ?_⟩
        · rw [e0, if_pos ⟨g, Or.inl (by rw [h1]; decide)⟩]
        · by_cases e : c' = N
          · rw [e]; exact lxl.rf _
          · exact absurd g' (h2 c' (by omega))
      · left
        rw [e0, if_neg (fun z => g z.1)]
        refine ⟨h1, fun c hc => ?_⟩
        by_cases e : c = N
        · rw [e]; exact g
        · exact h2 c (by omega)
    · right
      by_cases z : nandn w (ysn y N y.1) = 0 ∧ yBy y N < yBy y c
      · refine ⟨N, by omega, z.1, ?_, fun c' hc' g' => ?_⟩
        · rw [e0, if_pos ⟨z.1, Or.inr (by rw [h3]; exact z.2)⟩]
        · by_cases e : c' = N
          · rw [e]; exact lxl.rf _
          · refine lxl.tr (b := taV y c) ?_ (h4 c' (by omega) g')
            exact Or.inl (by show (yBy y N : Int) < (yBy y c : Int); omega)
      · refine ⟨c, by omega, h2, ?_, fun c' hc' g' => ?_⟩
        · rw [e0, if_neg (fun t => by rw [h3] at t; rcases t.2 with q | q; (have q : (c : Int) < 0 := q; omega); exact z ⟨t.1, q⟩)]
          exact h3
        · by_cases e : c' = N
          · subst e
            have : ¬ yBy y c' < yBy y c := fun q => z ⟨g', q⟩
            unfold lxl taV
            show (yBy y c : Int) < (yBy y c' : Int) ∨ ((yBy y c : Int) = (yBy y c' : Int) ∧ (c : Int) ≤ (c' : Int))
            omega
          · exact h4 c' (by omega) g'
theorem pcN_drop {c t : Nat} (hc : c < 65536) (ht : c.testBit t = true) : pcN (nandn c (2 ^ t)) 16 < pcN c 16 := by
  have h1 : ∀ k, pcN (nandn c (2 ^ t)) k + (if t < k then 1 else 0) = pcN c k := fun k => by
    induction k with
    | zero => rfl
    | succ k ih =>
      show pcN (nandn c (2 ^ t)) k + (if (nandn c (2 ^ t)).testBit k then 1 else 0) + (if t < k + 1 then 1 else 0) = pcN c k + (if c.testBit k then 1 else 0)
      rw [← ih, nandn_tb (by omega), Nat.testBit_two_pow]
      by_cases e : t = k
      · subst e
        rw [ht]; simp
      · by_cases q : t < k
        · rw [if_pos q, if_pos (show t < k + 1 by omega), decide_eq_false e]; simp; omega
        · rw [if_neg q, if_neg (show ¬ t < k + 1 by omega), decide_eq_false e]; simp
  have t16 : t < 16 := by
    rcases Nat.lt_or_ge t 16 with q | q
    · exact q
    · rw [tb_hi hc q] at ht; cases ht
  have := h1 16
  rw [if_pos t16] at this
  omega
theorem tale_eq {y : SY} (o : yOk y) {w : Nat} (hw : w < 256) {st : Int × Int} (h : Lst (taV y) (1130000, -9) st (rS y y.1 0 0 w)) : st.2 = (taleF y w (2 ^ y.1)).1 ∧ (0 ≤ (taleF y w (2 ^ y.1)).1 → st.1 = (taleF y w (2 ^ y.1)).2) ∧ ((taleF y w (2 ^ y.1)).1 = -9 ∨ 0 ≤ (taleF y w (2 ^ y.1)).1) := by
  have hR : ∀ c, rS y y.1 0 0 w c → c < 2 ^ y.1 ∧ nandn w (ysn y c y.1) = 0 := fun c hc => by
    have p := (rS_pre (by decide) hc).1
    rw [Nat.zero_add] at p
    exact ⟨p, (cvr_iff hw).mpr (rS_cv (Nat.zero_add _) (by decide) hw hc)⟩
  have p1 := p12 o
  rcases taleF_c y w (2 ^ y.1) with ⟨h1, h2⟩ | ⟨c, h1, h2, h3, h4⟩
  · rcases h.1 with z | ⟨c, z1, z2⟩
    · rw [z, h1]
      exact ⟨rfl, fun t => absurd t (by decide), Or.inl rfl⟩
    · have := hR c z1
      exact absurd this.2 (h2 c this.1)
  · have cv := (cvr_iff hw).mp h2
    have hin : rS y y.1 0 0 w c := by
      refine rS_of (Nat.zero_add _) (by decide) hw h1 (fun t ht => absurd ht (Nat.not_lt_zero t)) cv (fun t _ hct => ?_)
      refine Classical.byContradiction fun hno => ?_
      have hc' : cvr y (nandn c (2 ^ t)) 0 w := fun x hx => by
        obtain ⟨t', u1, u2, u3, u4⟩ := cv x hx
        by_cases e : t' = t
        · subst e
          refine Classical.byContradiction fun hno2 => hno ⟨x, hx, u4, fun t'' v1 v2 v3 => ?_⟩
          cases hb : (ySh y t'').testBit x
          · rfl
          · exfalso
            have tn : t'' < y.1 := by
              rcases Nat.lt_or_ge t'' y.1 with q | q
              · exact q
              · rw [Nat.testBit_lt_two_pow (Nat.lt_of_lt_of_le h1 (Nat.pow_le_pow_right (by decide) q))] at v3; cases v3
            exact hno2 ⟨t'', v1, tn, by rw [nandn_tb (by omega), v3, Nat.testBit_two_pow, decide_eq_false (fun q => v2 q.symm)]; rfl, hb⟩
        · exact ⟨t', u1, u2, by rw [nandn_tb (by omega), u3, Nat.testBit_two_pow, decide_eq_false (fun q => e q.symm)]; rfl, u4⟩
      have lt := pcN_drop (c := c) (t := t) (by omega) hct
      have q := h4 (nandn c (2 ^ t)) (Nat.lt_of_le_of_lt (nandn_le _ _) h1) ((cvr_iff hw).mpr hc')
      have l1 := yLen_le o (nandn c (2 ^ t)) y.1 (Nat.le_refl _)
      have o1 := o.1
      unfold lxl taV yBy at q
      have q : ((10000 * pcN c 16 + yLen y c y.1 : Nat) : Int) < ((10000 * pcN (nandn c (2 ^ t)) 16 + yLen y (nandn c (2 ^ t)) y.1 : Nat) : Int) ∨ (((10000 * pcN c 16 + yLen y c y.1 : Nat) : Int) = ((10000 * pcN (nandn c (2 ^ t)) 16 + yLen y (nandn c (2 ^ t)) y.1 : Nat) : Int) ∧ (c : Int) ≤ ((nandn c (2 ^ t) : Nat) : Int)) := q
      omega
    have hc := h.2.2 c hin
    have ll := yBy_le o c
    rcases h.1 with z | ⟨c', z1, z2⟩
    · rw [z] at hc
      unfold lxl taV at hc
      have hc : (1130000 : Int) < (yBy y c : Int) ∨ ((1130000 : Int) = (yBy y c : Int) ∧ (-9 : Int) ≤ (c : Int)) := hc
      exfalso; omega
    · have g := hR c' z1
      have e := lxl.eq (a := st) (b := taV y c) hc (by rw [z2]; exact h4 c' g.1 g.2)
      rw [h3, e]
      exact ⟨rfl, fun _ => rfl, Or.inr (by show (0 : Int) ≤ (c : Int); omega)⟩
theorem c_X4_fewestThatShow {d : Nat} {h : JH} {P : Int → JH → Prop} {y : SY} {b wi : Nat} (w : WF h) (x : SX h y b) (o : yOk y) (hw : wi < 256) (hP : ∀ h', Fr ScNw h h' → (0 ≤ (taleF y wi (2 ^ y.1)).1 → hI h' 40 2 = ((taleF y wi (2 ^ y.1)).2 % 10000 : Nat)) → P (taleF y wi (2 ^ y.1)).1 h') : JRi (d + 18) jX4_fewestThatShow [vr 40, vr 13, vi wi] h P := by
  have o1 := o.1
  have f0 : Fr ScNw h (sI (sI (sI h 40 3 (-9)) 40 4 13) 40 2 1000000) := ((Fr.rf.sI _ (scNw_i _)).sI _ (scNw_i _)).sI _ (scNw_i _)
  refine JRet.of rfl (Nat.le_of_ble_eq_true rfl) ?_
  refine st_aload_n (q := 1) dX4_fewestThatShow_0 rfl rfl ?_
  refine st_bipush (q := 3) dX4_fewestThatShow_1 ⟨by decide, by decide⟩ rfl ?_
  refine st_putI (q := 6) 4 3 dX4_fewestThatShow_3 fl_X4_21 (by decide) (by decide) (Or.inl rfl) rfl (Or.inl rfl) (wfk w rfl) ?_
  refine st_aload_n (q := 7) dX4_fewestThatShow_6 rfl rfl ?_
  refine st_bipush (q := 9) dX4_fewestThatShow_7 ⟨by decide, by decide⟩ rfl ?_
  refine st_putI (q := 12) 4 4 dX4_fewestThatShow_9 fl_X4_24 (by decide) (by decide) (Or.inl rfl) rfl (Or.inl rfl) (wfk w rfl) ?_
  refine st_aload_n (q := 13) dX4_fewestThatShow_12 rfl rfl ?_
  refine st_ldc (q := 15) (x := 1000000) dX4_fewestThatShow_13 ⟨by decide, by decide⟩ co_X4_87 rfl ?_
  refine st_putI (q := 18) 4 2 dX4_fewestThatShow_15 fl_X4_18 (by decide) (by decide) (Or.inl rfl) rfl (Or.inl rfl) (wfk w rfl) ?_
  refine st_aload_n (q := 19) dX4_fewestThatShow_18 rfl rfl ?_
  refine st_aload_n (q := 20) dX4_fewestThatShow_19 rfl rfl ?_
  refine st_iconst (q := 21) dX4_fewestThatShow_20 ⟨by decide, by decide⟩ rfl ?_
  refine st_iconst (q := 22) dX4_fewestThatShow_21 ⟨by decide, by decide⟩ rfl ?_
  refine st_iconst (q := 23) dX4_fewestThatShow_22 ⟨by decide, by decide⟩ rfl ?_
  refine st_iload_n (q := 24) dX4_fewestThatShow_23 rfl rfl ?_
  refine iS6v (q := 27) dX4_fewestThatShow_24 rfl ml_X4_96 ms_X4_showFrom (Nat.le_of_ble_eq_true rfl) ?_
  refine c_X4_showFrom w x o y.1 (d + 17) 0 0 wi (1130000, -9) _ _ (by omega) (by omega) f0 ⟨13, 1000000, by rw [sI_k _ (by decide), sI_s], by rw [sI_s], by rw [sI_k _ (by decide), sI_k _ (by decide), sI_s], rfl, Or.inl ⟨rfl, rfl, rfl⟩⟩ (by decide) hw (fun h2z st2z f2z t2z hLz => ?_)
  have tez := tale_eq o hw hLz
  obtain ⟨Fz, Lz, r1z, r2z, r3z, r4z, r5z⟩ := t2z
  refine st_aload_n (q := 28) dX4_fewestThatShow_27 rfl rfl ?_
  refine st_getI (q := 31) 4 3 dX4_fewestThatShow_28 fl_X4_21 (by decide) (by decide) rfl rfl (wfk (f2z.wf w) rfl) ?_
  refine rt_i dX4_fewestThatShow_31 rfl ?_
  exact pq (hP _ f2z (fun t => by have q := tez.2.1 t; have q1 := tez.1; rw [r2z]; omega)) (by rw [r3z]; exact tez.1.symm) rfl
theorem pr_tale {d : Nat} {h : JH} {wi : Int} (I : Inv h) : Two (d + 20) jX11_tale jX12_tale [vi wi] h := by
  have w := I.1
  obtain ⟨y, b, ⟨o, o4⟩, m, x⟩ := I.2.2.2.2.2.1
  have bz : (taleF y wi.toNat (2 ^ y.1)).1 = -9 ∨ 0 ≤ (taleF y wi.toNat (2 ^ y.1)).1 := by
    rcases taleF_c y wi.toNat (2 ^ y.1) with ⟨h1, _⟩ | ⟨c, _, _, h3, _⟩
    · rw [h1]; exact Or.inl rfl
    · rw [h3]; exact Or.inr (by show (0 : Int) ≤ (c : Int); omega)
  have g0 : ¬ (0 ≤ wi ∧ wi ≤ 255) → JRi (d + 20) jX12_tale [vr 117, vi wi] h (fun v' h2 => -1 = v' ∧ Inv h2) := fun z => c_X12_tale w m o (fun _ => ⟨rfl, I⟩) (fun t => absurd t z) (fun t => absurd t z)
  have g1 : 0 ≤ wi ∧ wi ≤ 255 → ∀ h1, Fr ScNw h h1 → (taleF y wi.toNat (2 ^ y.1)).1 < 0 → JRi (d + 20) jX12_tale [vr 117, vi wi] h1 (fun v' h2 => (taleF y wi.toNat (2 ^ y.1)).1 = v' ∧ Inv h2) := fun q h1 f1 z => by
    have F1 : Fq rgS h h1 := Fq.rf.fr f1 scNw_S
    exact c_X12_tale (F1.wf w) (SM_nw m f1) o (fun t => absurd q t) (fun _ _ => ⟨by omega, inv_s I F1⟩) (fun _ t => by exfalso; omega)
  have g2 : 0 ≤ wi ∧ wi ≤ 255 → ∀ h1, Fr ScNw h h1 → 0 ≤ (taleF y wi.toNat (2 ^ y.1)).1 → JRi (d + 20) jX12_tale [vr 117, vi wi] (sI h1 0 11 ((taleF y wi.toNat (2 ^ y.1)).2 % 10000 : Nat)) (fun v' h2 => (taleF y wi.toNat (2 ^ y.1)).1 = v' ∧ Inv h2) := fun q h1 f1 z => by
    have F1 : Fq rgS h h1 := Fq.rf.fr f1 scNw_S
    have I1 : Inv h1 := inv_s I F1
    exact c_X12_tale (h := sI h1 0 11 ((taleF y wi.toNat (2 ^ y.1)).2 % 10000 : Nat)) I1.1 (SM_x (SM_nw m f1) (by decide)) o (fun t => absurd q t) (fun _ t => by exfalso; omega) (fun _ _ => ⟨rfl, inv_ask I1 _⟩)
  refine JRet.of rfl (Nat.le_of_ble_eq_true rfl) ?_
  refine st_iload_n (q := 1) dX11_tale_0 rfl rfl ?_
  refine st_sipush (q := 4) dX11_tale_1 ⟨by decide, by decide⟩ rfl ?_
  refine iS2i (q := 7) dX11_tale_4 rfl ml_X11_86 ms_X11_isNone (Nat.le_of_ble_eq_true rfl) ?_
  refine c_X11_isNone ?_
  refine st_if_eq (q := 10) (tgt := 12) dX11_tale_7 (by decide) rfl (fun c7 => ?_) (fun c7 => ?_)
  · refine st_aload_n (q := 13) dX11_tale_12 rfl rfl ?_
    refine st_getR (q := 16) 11 4 dX11_tale_13 fl_X11_35 (by decide) (by decide) rfl rfl (wfk w rfl) (wfR w rfl) ?_
    refine st_aload_n (q := 17) dX11_tale_16 rfl rfl ?_
    refine st_getR (q := 20) 11 3 dX11_tale_17 fl_X11_28 (by decide) (by decide) rfl rfl (wfk w rfl) (wfR w rfl) ?_
    refine st_iload_n (q := 21) dX11_tale_20 rfl rfl ?_
    refine iV2i (q := 24) dX11_tale_21 rfl ml_X11_285 mv_X4_fewestThatShow (Nat.le_of_ble_eq_true rfl) (wfk w rfl) ?_
    have ew : wi = (wi.toNat : Int) := (by omega)
    have gx := fun (Pz : Int → JH → Prop) => c_X4_fewestThatShow (d := d + 1) (P := Pz) (wi := wi.toNat) w x o (by omega)
    rw [← ew] at gx
    refine gx _ (fun h1z f1z ebz => ?_)
    have w1z := f1z.wf w
    refine st_istore_n (q := 25) (i := 2) dX11_tale_24 rfl (by decide) rfl ?_
    refine st_iload_n (q := 26) dX11_tale_25 rfl rfl ?_
    refine st_bipush (q := 28) dX11_tale_26 ⟨by decide, by decide⟩ rfl ?_
    refine st_icmp_eq (q := 31) (tgt := 43) dX11_tale_28 (by decide) rfl (fun c28 => ?_) (fun c28 => ?_)
    · refine st_iload_n (q := 44) dX11_tale_43 rfl rfl ?_
      refine rt_i dX11_tale_44 rfl ?_
      first | exact g0 (by omega) | exact g1 (by omega) _ f1z (by omega) | exact g2 (by omega) _ f1z (by omega)
    · refine st_aload_n (q := 32) dX11_tale_31 rfl rfl ?_
      refine st_aload_n (q := 33) dX11_tale_32 rfl rfl ?_
      refine st_getR (q := 36) 11 4 dX11_tale_33 fl_X11_35 (by decide) (by decide) rfl rfl (wfk w1z rfl) (wfR w1z rfl) ?_
      refine st_getI (q := 39) 4 2 dX11_tale_36 fl_X11_272 (by decide) (by decide) rfl rfl (wfk w1z rfl) ?_
      refine j_top _ (ebz (by omega)) ?_
      refine iV1i (q := 42) dX11_tale_39 rfl ml_X11_106 mv_X11_tell (Nat.le_of_ble_eq_true rfl) (wfk w1z rfl) ?_
      refine c_X11_tell w1z ?_
      refine st_pop (q := 43) dX11_tale_42 rfl rfl ?_
      refine st_iload_n (q := 44) dX11_tale_43 rfl rfl ?_
      refine rt_i dX11_tale_44 rfl ?_
      first | exact g0 (by omega) | exact g1 (by omega) _ f1z (by omega) | exact g2 (by omega) _ f1z (by omega)
  · refine st_iconst (q := 11) dX11_tale_10 ⟨by decide, by decide⟩ rfl ?_
    refine rt_i dX11_tale_11 rfl ?_
    first | exact g0 (by omega) | exact g1 (by omega) _ f1z (by omega) | exact g2 (by omega) _ f1z (by omega)

