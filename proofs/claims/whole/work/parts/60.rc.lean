/-! both sides answer alike: reaching -/
theorem inv_find2 {h h2 : JH} {v : Int} (I : Inv h) (hv : 1 ≤ v ∧ v ≤ 5) (f : Fq rgS (fnH h v) h2) : Inv (mtH h2 v) := by
  have e : hI h2 118 v.toNat = hI (fnH h v) 118 v.toNat := f.2.2.1 _ _ (by unfold rgS ScM; omega)
  have t := inv_find I hv
  unfold mtH at t ⊢
  rw [e]
  exact inv_s t (fq_re (fq_re f 117 0 v) 118 v.toNat _)
theorem rcF_cg {pl pl' : Nat → Int} {l : List Nat} (h : ∀ x ∈ l, pl x = pl' x) : ∀ k, k ≤ l.length → rcF pl l k = rcF pl' l k
  | 0, _ => rfl
  | k + 1, hk => by
    have ih := rcF_cg h k (by omega)
    have e := h (l.getD k 0) (List.mem_of_getElem? (getD_some (by omega)))
    show ((rcF pl l k).1 + (if pl (l.getD k 0) - (rcF pl l k).2 < 0 then -(pl (l.getD k 0) - (rcF pl l k).2) else pl (l.getD k 0) - (rcF pl l k).2), pl (l.getD k 0)) = ((rcF pl' l k).1 + (if pl' (l.getD k 0) - (rcF pl' l k).2 < 0 then -(pl' (l.getD k 0) - (rcF pl' l k).2) else pl' (l.getD k 0) - (rcF pl' l k).2), pl' (l.getD k 0))
    rw [ih, e]
theorem plF_cg {p0 p1 : Nat → Int} {od od' : Nat → Nat} {x : Nat} : ∀ {n : Nat}, (∀ i, i < n → od i = od' i) → (∃ i, i < n ∧ od i = x) → plF p0 od n x = plF p1 od' n x
  | 0, _, ⟨i, hi, _⟩ => absurd hi (Nat.not_lt_zero i)
  | n + 1, h, ⟨i, hi, e⟩ => by
    show (if x = od n then (n : Int) else plF p0 od n x) = (if x = od' n then (n : Int) else plF p1 od' n x)
    rw [h n (by omega)]
    by_cases z : x = od' n
    · rw [if_pos z, if_pos z]
    · rw [if_neg z, if_neg z]
      refine plF_cg (fun j hj => h j (by omega)) ⟨i, ?_, e⟩
      rcases Nat.lt_or_ge i n with q | q
      · exact q
      · exact absurd (by rw [← e, show i = n by omega]; exact h n (by omega)) z
theorem snF_cg {f g : Nat → Int} : ∀ {n : Nat}, (∀ k, k < n → f k = g k) → snF f n = snF g n
  | 0, _ => rfl
  | n + 1, e => by
    show snF f n ||| (if 0 ≤ f n ∧ f n ≤ 7 then 2 ^ (f n).toNat else 0) = snF g n ||| (if 0 ≤ g n ∧ g n ≤ 7 then 2 ^ (g n).toNat else 0)
    rw [snF_cg (fun k hk => e k (by omega)), e n (by omega)]
theorem TX.pl {h : JH} {l : List Nat} {f : Nat → Int} (t : TX h l) : TX (wI h 46 f) l := ⟨t.1, fun i x z => t.2 i x z⟩
theorem scPl_S : ∀ a k, ScPl a k → rgS a k := by intro a k z; unfold ScPl at z; unfold rgS; omega
theorem scPl_d : ∀ a k, (a = 13 ∧ k = 1) ∨ (16 ≤ a ∧ a ≤ 39) → ¬ ScPl a k := by intro a k z; unfold ScPl; omega
theorem c_X11_reaching {d : Nat} {h : JH} {P : Int → JH → Prop} {y : SY} {b : Nat} {r : Int} (w : WF h) (ir : iRw h) (x : SX h y b) (o : yOk y) (h1 : ¬ (0 ≤ r ∧ r ≤ 5) → P (-1) h) (h2 : 0 ≤ r ∧ r ≤ 5 → hI h (97 + 2 * r.toNat) 1 < 0 → P (-3) (fnH h 1)) (h3 : 0 ≤ r ∧ r ≤ 5 → 0 ≤ hI h (97 + 2 * r.toNat) 1 → hI h (97 + 2 * r.toNat) 1 ≠ pcN (yNm y y.1) 16 → P (-3) (fnH h 5)) (h4 : ∀ n : Nat, n ≤ 8 → 0 ≤ r ∧ r ≤ 5 → hI h (97 + 2 * r.toNat) 1 = n → n = pcN (yNm y y.1) 16 → snF (hI h (97 + 2 * r.toNat + 1)) n ≠ yNm y y.1 → ∀ h', Fq rgS h h' → P (-3) (fnH h' 3)) (h5 : ∀ n : Nat, n ≤ 8 → 0 ≤ r ∧ r ≤ 5 → hI h (97 + 2 * r.toNat) 1 = n → n = pcN (yNm y y.1) 16 → snF (hI h (97 + 2 * r.toNat + 1)) n = yNm y y.1 → ∀ h', Fq rgS h h' → P (rcF (plF (hI h 46) (fun i => (hI h (97 + 2 * r.toNat + 1) i).toNat) n) (tks y y.1) (tks y y.1).length).1 h') : JRi (d + 3) jX11_reaching [vr 0, vi r] h P := by
  have b1 := yNm_lt o y.1 (Nat.le_refl _)
  have b2 : pcN (yNm y y.1) 16 ≤ 8 := pcN8 b1
  have o1 := o.1
  have b3 := tks_len y y.1
  refine JRet.of rfl (Nat.le_of_ble_eq_true rfl) ?_
  refine st_aload_n (q := 1) dX11_reaching_0 rfl rfl ?_
  refine st_aload_n (q := 2) dX11_reaching_1 rfl rfl ?_
  refine st_getR (q := 5) 11 0 dX11_reaching_2 fl_X11_11 (by decide) (by decide) rfl rfl (wfk w rfl) (wfR w rfl) ?_
  refine st_iload_n (q := 6) dX11_reaching_5 rfl rfl ?_
  refine iV2i (q := 9) dX11_reaching_6 rfl ml_X11_109 mv_X11_refusesStrip (Nat.le_of_ble_eq_true rfl) (wfk w rfl) ?_
  refine c_X11_refusesStrip w (sa_rows w) (fun a1 => ?_) (fun a1 a2 => ?_) (fun a1 a2 => ?_)
  · refine st_istore_n (q := 10) (i := 2) dX11_reaching_9 rfl (by decide) rfl ?_
    refine st_iload_n (q := 11) dX11_reaching_10 rfl rfl ?_
    refine st_if_eq (q := 14) (tgt := 16) dX11_reaching_11 (by decide) rfl (fun z => absurd z (by decide)) (fun _ => ?_)
    refine st_iload_n (q := 15) dX11_reaching_14 rfl rfl ?_
    refine rt_i dX11_reaching_15 rfl ?_
    first | exact h1 (by omega) | exact h2 (by omega) (by omega)
  · refine st_istore_n (q := 10) (i := 2) dX11_reaching_9 rfl (by decide) rfl ?_
    refine st_iload_n (q := 11) dX11_reaching_10 rfl rfl ?_
    refine st_if_eq (q := 14) (tgt := 16) dX11_reaching_11 (by decide) rfl (fun z => absurd z (by decide)) (fun _ => ?_)
    refine st_iload_n (q := 15) dX11_reaching_14 rfl rfl ?_
    refine rt_i dX11_reaching_15 rfl ?_
    first | exact h1 (by omega) | exact h2 (by omega) (by omega)
  · refine st_istore_n (q := 10) (i := 2) dX11_reaching_9 rfl (by decide) rfl ?_
    refine st_iload_n (q := 11) dX11_reaching_10 rfl rfl ?_
    refine st_if_eq (q := 14) (tgt := 16) dX11_reaching_11 (by decide) rfl (fun _ => ?_) (fun z => absurd z (by decide))
    refine st_aload_n (q := 17) dX11_reaching_16 rfl rfl ?_
    refine st_getR (q := 20) 11 3 dX11_reaching_17 fl_X11_28 (by decide) (by decide) rfl rfl (wfk w rfl) (wfR w rfl) ?_
    refine iV0i (q := 23) dX11_reaching_20 rfl ml_X11_233 mv_X8_named (Nat.le_of_ble_eq_true rfl) (wfk w rfl) ?_
    refine c_X8_named w x o ?_
    refine st_istore_n (q := 24) (i := 3) dX11_reaching_23 rfl (by decide) rfl ?_
    refine st_aload_n (q := 25) dX11_reaching_24 rfl rfl ?_
    refine st_getR (q := 28) 11 0 dX11_reaching_25 fl_X11_11 (by decide) (by decide) rfl rfl (wfk w rfl) (wfR w rfl) ?_
    refine st_iload_n (q := 29) dX11_reaching_28 rfl rfl ?_
    refine st_aaload (q := 30) (t := 2) dX11_reaching_29 rfl ⟨by decide, by decide⟩ (wfk w rfl) (wfb w (n := 6) rfl ⟨by omega, by omega⟩) (xrow w (by omega)) ?_
    refine st_getI (q := 33) 9 1 dX11_reaching_30 fl_X11_135 (by decide) (by decide) rfl rfl ((sp_row w (by omega)).1) ?_
    refine st_iload_n (q := 34) dX11_reaching_33 rfl rfl ?_
    refine iS1i (q := 37) dX11_reaching_34 rfl ml_X11_157 ms_J6_bitCount_0f7a4 (Nat.le_of_ble_eq_true rfl) ?_
    refine c_bitCount (by omega) ?_
    refine st_icmp_eq (q := 40) (tgt := 46) dX11_reaching_37 (by decide) rfl (fun c37 => ?_) (fun c37 => ?_)
    · refine st_aload_n (q := 47) dX11_reaching_46 rfl rfl ?_
      refine st_getR (q := 50) 11 6 dX11_reaching_47 fl_X11_49 (by decide) (by decide) rfl rfl (wfk w rfl) (wfR w rfl) ?_
      refine st_aload_n (q := 51) dX11_reaching_50 rfl rfl ?_
      refine st_getR (q := 54) 11 0 dX11_reaching_51 fl_X11_11 (by decide) (by decide) rfl rfl (wfk w rfl) (wfR w rfl) ?_
      refine st_iload_n (q := 55) dX11_reaching_54 rfl rfl ?_
      refine st_aaload (q := 56) (t := 2) dX11_reaching_55 rfl ⟨by decide, by decide⟩ (wfk w rfl) (wfb w (n := 6) rfl ⟨by omega, by omega⟩) (xrow w (by omega)) ?_
      refine st_iload_n (q := 57) dX11_reaching_56 rfl rfl ?_
      refine iV2i (q := 60) dX11_reaching_57 rfl ml_X11_236 mv_X10_putInOrder (Nat.le_of_ble_eq_true rfl) (wfk w rfl) ?_
      have nzk : hI h (97 + 2 * r.toNat) 1 = ((pcN (yNm y y.1) 16 : Nat) : Int) := (by omega)
      refine c_X10_putInOrder w (sp_row w (by omega)) (by omega) nzk b2 b1 rfl (fun ez => ?_) (fun ez h1z f1z => ?_)
      · refine st_if_ne (q := 63) (tgt := 69) dX11_reaching_60 (by decide) rfl (fun _ => ?_) (fun z => absurd z (by decide))
        refine st_aload_n (q := 70) dX11_reaching_69 rfl rfl ?_
        refine st_getR (q := 73) 11 6 dX11_reaching_70 fl_X11_49 (by decide) (by decide) rfl rfl (wfk w rfl) (wfR w rfl) ?_
        refine st_aload_n (q := 74) dX11_reaching_73 rfl rfl ?_
        refine st_getR (q := 77) 11 3 dX11_reaching_74 fl_X11_28 (by decide) (by decide) rfl rfl (wfk w rfl) (wfR w rfl) ?_
        refine iV1v (q := 80) dX11_reaching_77 rfl ml_X11_222 mv_X10_gather (Nat.le_of_ble_eq_true rfl) (wfk w rfl) ?_
        have fz : Fr ScPl h (wI h 46 (plF (hI h 46) (fun i => (hI h (97 + 2 * r.toNat + 1) i).toNat) (pcN (yNm y y.1) 16))) := wI_fr (fun k => rfl)
        refine c_X10_gather (fz.wf w) (x.fr o fz scPl_d) o (fun h2z f2z tz => ?_)
        have w2z := f2z.wf (fz.wf w)
        have epz : hI h2z 46 = plF (hI h 46) (fun i => (hI h (97 + 2 * r.toNat + 1) i).toNat) (pcN (yNm y y.1) 16) := (by funext j; rw [f2z.2.2 _ _ (by unfold ScTx; omega), wI_at])
        refine st_aload_n (q := 81) dX11_reaching_80 rfl rfl ?_
        refine st_getR (q := 84) 11 6 dX11_reaching_81 fl_X11_49 (by decide) (by decide) rfl rfl (wfk w2z rfl) (wfR w2z rfl) ?_
        refine iV0i (q := 87) dX11_reaching_84 rfl ml_X11_240 mv_X10_reach (Nat.le_of_ble_eq_true rfl) (wfk w2z rfl) ?_
        refine c_X10_reach w2z tz (by omega) (fun xz hxz => tks_lt y hxz) (fun xz hxz => ?_) ?_
        · rw [epz]
          obtain ⟨s, hs1, hs2⟩ := tks_in o _ (Nat.le_refl _) hxz
          have hb := (yNm_tb (y := y) y.1).mpr ⟨s, hs1, hs2⟩
          rw [← ez] at hb
          obtain ⟨k, hk1, hk2, hk3, hk4⟩ := (snF_tb _ xz _).mp hb
          have := plF_in (p0 := hI h 46) (od := fun i => (hI h (97 + 2 * r.toNat + 1) i).toNat) (x := xz) (n := pcN (yNm y y.1) 16) ⟨k, hk1, hk4⟩
          omega
        refine rt_i dX11_reaching_87 rfl ?_
        rw [epz]
        exact h5 _ b2 (by omega) nzk rfl ez _ ((Fq.rf.fr fz scPl_S).fr f2z scTx_S)
      · refine st_if_ne (q := 63) (tgt := 69) dX11_reaching_60 (by decide) rfl (fun z => absurd z (by decide)) (fun _ => ?_)
        refine st_aload_n (q := 64) dX11_reaching_63 rfl rfl ?_
        refine st_iconst (q := 65) dX11_reaching_64 ⟨by decide, by decide⟩ rfl ?_
        refine iV1i (q := 68) dX11_reaching_65 rfl ml_X11_116 mv_X11_find (Nat.le_of_ble_eq_true rfl) (wfk (f1z.wf w) rfl) ?_
        refine c_X11_find (f1z.wf w) (by decide) ?_
        refine rt_i dX11_reaching_68 rfl ?_
        exact h4 _ b2 (by omega) nzk rfl ez _ (Fq.rf.fr f1z scPl_S)
    · refine st_aload_n (q := 41) dX11_reaching_40 rfl rfl ?_
      refine st_iconst (q := 42) dX11_reaching_41 ⟨by decide, by decide⟩ rfl ?_
      refine iV1i (q := 45) dX11_reaching_42 rfl ml_X11_116 mv_X11_find (Nat.le_of_ble_eq_true rfl) (wfk w rfl) ?_
      refine c_X11_find w (by decide) ?_
      refine rt_i dX11_reaching_45 rfl ?_
      exact h3 (by omega) (by omega) (by omega)
theorem S_sy : ∀ a k, rgSy a k → ¬ rgS a k := by intro a k z; simp only [rgSy, rgS, ScM] at z ⊢; omega
theorem S_rw : ∀ a k, rgRw a k → ¬ rgS a k := by intro a k z; simp only [rgRw, rgS, ScM] at z ⊢; omega
theorem pr_reaching {d : Nat} {h : JH} {r : Int} (I : Inv h) : Two (d + 4) jX11_reaching jX12_reaching [vi r] h := by
  have w := I.1
  obtain ⟨y, b, ⟨o, o4⟩, m, x⟩ := I.2.2.2.2.2.1
  have ir : 0 ≤ r ∧ r ≤ 5 → _ := fun z => (I.2.1 r.toNat (by omega)).1
  have ir2 : 0 ≤ r ∧ r ≤ 5 → _ := fun z => (I.2.1 r.toNat (by omega)).2
  refine c_X11_reaching w I.2.1 x o (fun q => ?_) (fun q q1 => ?_) (fun q q1 q2 => ?_) (fun n n8 q q1 q2 q3 h1 F1 => ?_) (fun n n8 q q1 q2 q3 h1 F1 => ?_)
  · exact c_X12_reaching w m o (fun _ => ⟨rfl, I⟩) (fun t => absurd t q) (fun t => absurd t q) (fun _ _ t => absurd t q) (fun _ _ t => absurd t q)
  · have i1 := ir q
    exact c_X12_reaching (h := fnH h 1) w m o (fun t => absurd q t) (fun _ _ => ⟨rfl, inv_find I (by decide)⟩) (fun _ (t : 0 ≤ hI h 119 r.toNat) _ => by exfalso; omega) (fun n _ _ (t : hI h 119 r.toNat = n) _ _ => by exfalso; omega) (fun n _ _ (t : hI h 119 r.toNat = n) _ _ => by exfalso; omega)
  · have i1 := ir q
    exact c_X12_reaching (h := fnH h 5) w m o (fun t => absurd q t) (fun _ (t : hI h 119 r.toNat < 0) => by exfalso; omega) (fun _ _ _ => ⟨rfl, inv_find I (by decide)⟩) (fun n _ _ (t : hI h 119 r.toNat = n) t2 _ => by exfalso; omega) (fun n _ _ (t : hI h 119 r.toNat = n) t2 _ => by exfalso; omega)
  · have i1 := ir q
    have I1 : Inv h1 := inv_s I F1
    have es : hI (fnH h1 3) 119 r.toNat = hI h 119 r.toNat := F1.2.2.1 _ _ (S_rw _ _ (rr3 _))
    have ea : ∀ j, j < n → hI h (97 + 2 * r.toNat + 1) j = hI (fnH h1 3) 120 (40 * r.toNat + j) := fun j hj => (ir2 q j (by omega)).trans (F1.2.2.1 _ _ (S_rw _ _ (rr4 _))).symm
    have m1 : SM (fnH h1 3) y := SM_x (SM_x (m.fq F1 S_sy) (by decide)) (by decide)
    refine c_X12_reaching (h := fnH h1 3) I1.1 m1 o (fun t => absurd q t) (fun _ t => by rw [es] at t; exfalso; omega) (fun _ _ t => by rw [es] at t; exfalso; omega) (fun n' _ _ t t2 _ h2 f2 => ⟨rfl, inv_find2 I1 (by decide) (Fq.rf.fr f2 scM_S)⟩) (fun n' _ _ t t2 t3 => ?_)
    have en : n' = n := by omega
    subst en
    exact absurd ((snF_cg ea).trans t3) q3
  · have i1 := ir q
    have I1 : Inv h1 := inv_s I F1
    have es : hI h1 119 r.toNat = hI h 119 r.toNat := F1.2.2.1 _ _ (S_rw _ _ (rr3 _))
    have ea : ∀ j, j < n → hI h (97 + 2 * r.toNat + 1) j = hI h1 120 (40 * r.toNat + j) := fun j hj => (ir2 q j (by omega)).trans (F1.2.2.1 _ _ (S_rw _ _ (rr4 _))).symm
    refine c_X12_reaching I1.1 (m.fq F1 S_sy) o (fun t => absurd q t) (fun _ t => by exfalso; omega) (fun _ _ t => by exfalso; omega) (fun n' _ _ t t2 t3 => ?_) (fun n' _ _ t t2 t3 p0 h2 f2 => ⟨?_, inv_s I1 (Fq.rf.fr f2 scM_S)⟩)
    · have en : n' = n := by omega
      subst en
      exact absurd ((snF_cg ea).symm.trans q3) t3
    · have en : n' = n := by omega
      subst en
      rw [rcF_cg (fun z hz => ?_) _ (Nat.le_refl _)]
      obtain ⟨s, hs1, hs2⟩ := tks_in o _ (Nat.le_refl _) hz
      have hb := (yNm_tb (y := y) y.1).mpr ⟨s, hs1, hs2⟩
      rw [← q3] at hb
      obtain ⟨k, hk1, hk2, hk3, hk4⟩ := (snF_tb _ z _).mp hb
      exact plF_cg (fun i hi => by rw [ea i hi]) ⟨k, hk1, hk4⟩

