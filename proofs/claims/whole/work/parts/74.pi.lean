/-! fault, story: both -/
theorem c_X11_fault {d : Nat} {h : JH} {P : Int → JH → Prop} {r : Int} {n b : Nat} {T : Nat → Int} (w : WF h) (x : 0 ≤ r ∧ r ≤ 3 → 0 ≤ hI h (109 + 2 * r.toNat) 1 → TD h r.toNat T n ∧ n ≤ 60) (hb : b ≤ 1) (hD : hR h 13 2 = some (14 + b)) (h1 : ¬ (0 ≤ r ∧ r ≤ 3) → P (-1) h) (h2 : 0 ≤ r ∧ r ≤ 3 → hI h (109 + 2 * r.toNat) 1 < 0 → P (-3) (fnH h 1)) (h3 : 0 ≤ r ∧ r ≤ 3 → 0 ≤ hI h (109 + 2 * r.toNat) 1 → ∀ h', Fr (ScV b) h h' → P (flP (chT T n) n) h') : JRi (d + 6) jX11_fault [vr 0, vi r] h P := by
  refine JRet.of rfl (Nat.le_of_ble_eq_true rfl) ?_
  refine st_aload_n (q := 1) dX11_fault_0 rfl rfl ?_
  refine st_aload_n (q := 2) dX11_fault_1 rfl rfl ?_
  refine st_getR (q := 5) 11 1 dX11_fault_2 fl_X11_15 (by decide) (by decide) rfl rfl (wfk w rfl) (wfR w rfl) ?_
  refine st_iload_n (q := 6) dX11_fault_5 rfl rfl ?_
  refine iV2i (q := 9) dX11_fault_6 rfl ml_X11_109 mv_X11_refusesStrip (Nat.le_of_ble_eq_true rfl) (wfk w rfl) ?_
  refine c_X11_refusesStrip w (sa_texts w) (fun a1 => ?_) (fun a1 a2 => ?_) (fun a1 a2 => ?_)
  · refine st_istore_n (q := 10) (i := 2) dX11_fault_9 rfl (by decide) rfl ?_
    refine st_iload_n (q := 11) dX11_fault_10 rfl rfl ?_
    refine st_if_eq (q := 14) (tgt := 18) dX11_fault_11 (by decide) rfl (fun z => absurd z (by decide)) (fun _ => ?_)
    refine st_iload_n (q := 15) dX11_fault_14 rfl rfl ?_
    refine st_goto (q := 31) dX11_fault_15 (by decide) ?_
    refine rt_i dX11_fault_31 rfl ?_
    first | exact h1 (by omega) | exact h2 (by omega) a2 | exact h3 (by omega) a2 _ f
  · refine st_istore_n (q := 10) (i := 2) dX11_fault_9 rfl (by decide) rfl ?_
    refine st_iload_n (q := 11) dX11_fault_10 rfl rfl ?_
    refine st_if_eq (q := 14) (tgt := 18) dX11_fault_11 (by decide) rfl (fun z => absurd z (by decide)) (fun _ => ?_)
    refine st_iload_n (q := 15) dX11_fault_14 rfl rfl ?_
    refine st_goto (q := 31) dX11_fault_15 (by decide) ?_
    refine rt_i dX11_fault_31 rfl ?_
    first | exact h1 (by omega) | exact h2 (by omega) a2 | exact h3 (by omega) a2 _ f
  · refine st_istore_n (q := 10) (i := 2) dX11_fault_9 rfl (by decide) rfl ?_
    refine st_iload_n (q := 11) dX11_fault_10 rfl rfl ?_
    refine st_if_eq (q := 14) (tgt := 18) dX11_fault_11 (by decide) rfl (fun _ => ?_) (fun z => absurd z (by decide))
    refine st_aload_n (q := 19) dX11_fault_18 rfl rfl ?_
    refine st_getR (q := 22) 11 3 dX11_fault_19 fl_X11_28 (by decide) (by decide) rfl rfl (wfk w rfl) (wfR w rfl) ?_
    refine st_aload_n (q := 23) dX11_fault_22 rfl rfl ?_
    refine st_getR (q := 26) 11 1 dX11_fault_23 fl_X11_15 (by decide) (by decide) rfl rfl (wfk w rfl) (wfR w rfl) ?_
    refine st_iload_n (q := 27) dX11_fault_26 rfl rfl ?_
    refine st_aaload (q := 28) (t := 2) dX11_fault_27 rfl ⟨by decide, by decide⟩ (wfk w rfl) (wfb w (n := 4) rfl ⟨by omega, by omega⟩) (xtext w (r := r.toNat) (by omega)) ?_
    refine iV1i (q := 31) dX11_fault_28 rfl ml_X11_196 mv_X8_read (Nat.le_of_ble_eq_true rfl) (wfk w rfl) ?_
    refine c_X8_read w (r := r.toNat) (by omega) (x (by omega) a2).1 (x (by omega) a2).2 hb hD (fun h' f g => ?_)
    refine rt_i dX11_fault_31 rfl ?_
    first | exact h1 (by omega) | exact h2 (by omega) a2 | exact h3 (by omega) a2 _ f
def tdH (h : JH) (b : Nat) : JH := sI (sR (sR h 13 0 (some (14 + b))) 13 2 (some (15 - b))) 13 1 (hI h 13 3)
theorem td_R (h : JH) (b a k : Nat) : hR (tdH h b) a k = if a = 13 ∧ k = 2 then some (15 - b) else if a = 13 ∧ k = 0 then some (14 + b) else hR h a k := rfl
theorem td_I (h : JH) (b a k : Nat) (z : ¬ (a = 13 ∧ k = 1)) : hI (tdH h b) a k = hI h a k := by
  unfold tdH
  rw [sI_I, if_neg z]
  rfl
theorem wtd {h : JH} {b : Nat} (w : WF h) (hb : b ≤ 1) : WF (tdH h b) := by
  refine ⟨w.1, fun a k z => ?_, ?_⟩
  · rw [td_R, if_neg (fun t => z ⟨t.1, Or.inr t.2⟩), if_neg (fun t => z ⟨t.1, Or.inl t.2⟩)]
    exact w.2.1 a k z
  · rw [td_R, td_R]
    rcases (show b = 0 ∨ b = 1 by omega) with q | q <;> subst q
    · exact Or.inl ⟨rfl, rfl⟩
    · exact Or.inr ⟨rfl, rfl⟩
theorem c_X8_takeDraft {d : Nat} {h : JH} {P : JH → Prop} {b : Nat} (w : WF h) (hb : b ≤ 1) (hD : hR h 13 2 = some (14 + b)) (hS : hR h 13 0 = some (15 - b)) (hP : P (tdH h b)) : JRv d jX8_takeDraft [vr 13] h P := by
  refine JRet.of rfl (Nat.le_of_ble_eq_true rfl) ?_
  refine st_aload_n (q := 1) dX8_takeDraft_0 rfl rfl ?_
  refine st_getR (q := 4) 8 0 dX8_takeDraft_1 fl_X8_11 (by decide) (by decide) rfl rfl (show kd h 13 = 8 from wfk w rfl) (hS) ?_
  refine st_astore_n (q := 5) (i := 1) dX8_takeDraft_4 rfl (by decide) rfl ?_
  refine st_aload_n (q := 6) dX8_takeDraft_5 rfl rfl ?_
  refine st_aload_n (q := 7) dX8_takeDraft_6 rfl rfl ?_
  refine st_getR (q := 10) 8 2 dX8_takeDraft_7 fl_X8_21 (by decide) (by decide) rfl rfl (show kd h 13 = 8 from wfk w rfl) (hD) ?_
  refine st_putR (q := 13) 8 0 dX8_takeDraft_10 fl_X8_11 (by decide) (by decide) (Or.inl rfl) rfl rfl (show kd h 13 = 8 from wfk w rfl) ?_
  refine st_aload_n (q := 14) dX8_takeDraft_13 rfl rfl ?_
  refine st_aload_n (q := 15) dX8_takeDraft_14 rfl rfl ?_
  refine st_putR (q := 18) 8 2 dX8_takeDraft_15 fl_X8_21 (by decide) (by decide) (Or.inl rfl) rfl rfl (show kd h 13 = 8 from wfk w rfl) ?_
  refine st_aload_n (q := 19) dX8_takeDraft_18 rfl rfl ?_
  refine st_aload_n (q := 20) dX8_takeDraft_19 rfl rfl ?_
  refine st_getI (q := 23) 8 3 dX8_takeDraft_20 fl_X8_24 (by decide) (by decide) rfl rfl (show kd h 13 = 8 from wfk w rfl) ?_
  refine st_putI (q := 26) 8 1 dX8_takeDraft_23 fl_X8_17 (by decide) (by decide) (Or.inl rfl) rfl (Or.inl rfl) (show kd h 13 = 8 from wfk w rfl) ?_
  refine rt_v dX8_takeDraft_26 rfl ?_
  exact hP
theorem c_X11_story {d : Nat} {h : JH} {P : Int → JH → Prop} {r : Int} {n b : Nat} {T : Nat → Int} (w : WF h) (x : 0 ≤ r ∧ r ≤ 3 → 0 ≤ hI h (109 + 2 * r.toNat) 1 → TD h r.toNat T n ∧ n ≤ 60) (hb : b ≤ 1) (hD : hR h 13 2 = some (14 + b)) (hS : hR h 13 0 = some (15 - b)) (h1 : ¬ (0 ≤ r ∧ r ≤ 3) → P (-1) h) (h2 : 0 ≤ r ∧ r ≤ 3 → hI h (109 + 2 * r.toNat) 1 < 0 → P (-3) (fnH h 1)) (h3 : 0 ≤ r ∧ r ≤ 3 → 0 ≤ hI h (109 + 2 * r.toNat) 1 → flP (chT T n) n ≠ -9 → ∀ h', Fr (ScV b) h h' → P (-4) h') (h4 : 0 ≤ r ∧ r ≤ 3 → 0 ≤ hI h (109 + 2 * r.toNat) 1 → flP (chT T n) n = -9 → ∀ h', Fr (ScV b) h h' → hI h' 13 3 = ((tP (chT T n) 12 0).2.1 : Int) → (∀ u, u < (tP (chT T n) 12 0).2.1 → XM h' (16 + 2 * u + b) (scP (chT T n) (stP (chT T n) u))) → P ((tP (chT T n) 12 0).2.1 : Int) (tdH h' b)) : JRi (d + 6) jX11_story [vr 0, vi r] h P := by
  refine JRet.of rfl (Nat.le_of_ble_eq_true rfl) ?_
  refine st_aload_n (q := 1) dX11_story_0 rfl rfl ?_
  refine st_aload_n (q := 2) dX11_story_1 rfl rfl ?_
  refine st_getR (q := 5) 11 1 dX11_story_2 fl_X11_15 (by decide) (by decide) rfl rfl (wfk w rfl) (wfR w rfl) ?_
  refine st_iload_n (q := 6) dX11_story_5 rfl rfl ?_
  refine iV2i (q := 9) dX11_story_6 rfl ml_X11_109 mv_X11_refusesStrip (Nat.le_of_ble_eq_true rfl) (wfk w rfl) ?_
  refine c_X11_refusesStrip w (sa_texts w) (fun a1 => ?_) (fun a1 a2 => ?_) (fun a1 a2 => ?_)
  · refine st_istore_n (q := 10) (i := 2) dX11_story_9 rfl (by decide) rfl ?_
    refine st_iload_n (q := 11) dX11_story_10 rfl rfl ?_
    refine st_if_eq (q := 14) (tgt := 16) dX11_story_11 (by decide) rfl (fun z => absurd z (by decide)) (fun _ => ?_)
    refine st_iload_n (q := 15) dX11_story_14 rfl rfl ?_
    refine rt_i dX11_story_15 rfl ?_
    first | exact h1 (by omega) | exact h2 (by omega) a2 | exact h3 (by omega) a2 (by omega) _ f | exact h4 (by omega) a2 (by omega) _ f g.1 g.2
  · refine st_istore_n (q := 10) (i := 2) dX11_story_9 rfl (by decide) rfl ?_
    refine st_iload_n (q := 11) dX11_story_10 rfl rfl ?_
    refine st_if_eq (q := 14) (tgt := 16) dX11_story_11 (by decide) rfl (fun z => absurd z (by decide)) (fun _ => ?_)
    refine st_iload_n (q := 15) dX11_story_14 rfl rfl ?_
    refine rt_i dX11_story_15 rfl ?_
    first | exact h1 (by omega) | exact h2 (by omega) a2 | exact h3 (by omega) a2 (by omega) _ f | exact h4 (by omega) a2 (by omega) _ f g.1 g.2
  · refine st_istore_n (q := 10) (i := 2) dX11_story_9 rfl (by decide) rfl ?_
    refine st_iload_n (q := 11) dX11_story_10 rfl rfl ?_
    refine st_if_eq (q := 14) (tgt := 16) dX11_story_11 (by decide) rfl (fun _ => ?_) (fun z => absurd z (by decide))
    refine st_aload_n (q := 17) dX11_story_16 rfl rfl ?_
    refine st_getR (q := 20) 11 3 dX11_story_17 fl_X11_28 (by decide) (by decide) rfl rfl (wfk w rfl) (wfR w rfl) ?_
    refine st_aload_n (q := 21) dX11_story_20 rfl rfl ?_
    refine st_getR (q := 24) 11 1 dX11_story_21 fl_X11_15 (by decide) (by decide) rfl rfl (wfk w rfl) (wfR w rfl) ?_
    refine st_iload_n (q := 25) dX11_story_24 rfl rfl ?_
    refine st_aaload (q := 26) (t := 2) dX11_story_25 rfl ⟨by decide, by decide⟩ (wfk w rfl) (wfb w (n := 4) rfl ⟨by omega, by omega⟩) (xtext w (r := r.toNat) (by omega)) ?_
    refine iV1i (q := 29) dX11_story_26 rfl ml_X11_196 mv_X8_read (Nat.le_of_ble_eq_true rfl) (wfk w rfl) ?_
    refine c_X8_read w (r := r.toNat) (by omega) (x (by omega) a2).1 (x (by omega) a2).2 hb hD (fun h' f g => ?_)
    refine st_bipush (q := 31) dX11_story_29 ⟨by decide, by decide⟩ rfl ?_
    refine st_icmp_eq (q := 34) (tgt := 37) dX11_story_31 (by decide) rfl (fun c31 => ?_) (fun c31 => ?_)
    · have g := g (by omega)
      have w := f.wf w
      have hD2 : hR h' 13 2 = some (14 + b) := (by unfold hR at *; rw [f.2.1]; exact hD)
      have hS2 : hR h' 13 0 = some (15 - b) := (by unfold hR at *; rw [f.2.1]; exact hS)
      refine st_aload_n (q := 38) dX11_story_37 rfl rfl ?_
      refine st_getR (q := 41) 11 3 dX11_story_38 fl_X11_28 (by decide) (by decide) rfl rfl (wfk w rfl) (wfR w rfl) ?_
      refine iV0v (q := 44) dX11_story_41 rfl ml_X11_200 mv_X8_takeDraft (Nat.le_of_ble_eq_true rfl) (wfk w rfl) ?_
      refine c_X8_takeDraft w hb hD2 hS2 ?_
      have w := wtd w hb
      refine st_aload_n (q := 45) dX11_story_44 rfl rfl ?_
      refine st_getR (q := 48) 11 3 dX11_story_45 fl_X11_28 (by decide) (by decide) rfl rfl (wfk w rfl) (wfR w rfl) ?_
      refine st_getI (q := 51) 8 1 dX11_story_48 fl_X11_203 (by decide) (by decide) rfl rfl (wfk w rfl) ?_
      refine j_top ((tP (chT T n) 12 0).2.1 : Int) (by unfold tdH; rw [sI_s]; exact g.1) ?_
      refine rt_i dX11_story_51 rfl ?_
      first | exact h1 (by omega) | exact h2 (by omega) a2 | exact h3 (by omega) a2 (by omega) _ f | exact h4 (by omega) a2 (by omega) _ f g.1 g.2
    · refine st_bipush (q := 36) dX11_story_34 ⟨by decide, by decide⟩ rfl ?_
      refine rt_i dX11_story_36 rfl ?_
      first | exact h1 (by omega) | exact h2 (by omega) a2 | exact h3 (by omega) a2 (by omega) _ f | exact h4 (by omega) a2 (by omega) _ f g.1 g.2
theorem tdX {h : JH} (i : iTx h) {r : Int} : 0 ≤ r ∧ r ≤ 3 → 0 ≤ hI h (109 + 2 * r.toNat) 1 → TD h r.toNat (fun j => hI h 123 (60 * r.toNat + j)) (hI h 122 r.toNat).toNat ∧ (hI h 122 r.toNat).toNat ≤ 60 := by
  intro a z
  have q := i r.toNat (by omega)
  exact ⟨⟨by omega, fun j hj => q.2 j (by omega)⟩, by omega⟩
theorem tmX {h h' : JH} (i : iTx h) (e1 : ∀ k, hI h' 122 k = hI h 122 k) (e2 : ∀ k, hI h' 123 k = hI h 123 k) {r : Int} : 0 ≤ r ∧ r ≤ 3 → 0 ≤ hI h' 122 r.toNat → TM h' r.toNat (fun j => hI h 123 (60 * r.toNat + j)) (hI h 122 r.toNat).toNat ∧ (hI h 122 r.toNat).toNat ≤ 60 := by
  intro a z
  have q := i r.toNat (by omega)
  rw [e1] at z
  exact ⟨⟨by rw [e1]; omega, fun j hj => by rw [e2]⟩, by omega⟩
theorem SM_lo {h h' : JH} {y : SY} (m : SM h y) (e : ∀ a k, 117 ≤ a → hI h' a k = hI h a k) : SM h' y := by
  refine ⟨(e _ _ (by decide)).trans m.1, fun s hs => ?_⟩
  have m2 := m.2 s hs
  rw [e _ _ (by decide), e _ _ (by decide), e _ _ (by decide), e _ _ (by decide), e _ _ (by decide), e _ _ (by decide), e _ _ (by decide), e _ _ (by decide)]
  exact m2
theorem sR_M : ∀ a k, ScR a k → ScM a k := by intro a k z; unfold ScR at z; unfold ScM; omega
theorem rgS_x {a k : Nat} (z : a = 13 ∧ (k = 3 ∨ k = 4)) : rgS a k := Or.inr (Or.inr (Or.inr (Or.inr (Or.inr (Or.inr (Or.inr (Or.inr (Or.inr (Or.inr (Or.inr (Or.inr (Or.inl z))))))))))))
def rgD (a k : Nat) : Prop := (16 ≤ a ∧ a ≤ 39) ∨ rgS a k
theorem sV_D {b : Nat} : ∀ a k, ScV b a k → rgD a k := fun _ _ z => z.elim (fun t => Or.inr (rgS_x t)) (fun t => Or.inl ⟨t.1, t.2.1⟩)
theorem sR_D : ∀ a k, ScR a k → rgD a k := fun a k z => Or.inr (Or.inl (sR_M a k z))
theorem inv_rd {h h1 h2 : JH} {b : Nat} (I : Inv h) (hb : b ≤ 1) (hS : hR h 13 0 = some (15 - b)) (f1 : Fr (ScV b) h h1) (f2 : Fr ScR h1 h2) : Inv h2 := by
  have f : Fq rgD h h2 := (Fq.rf.fr f1 sV_D).fr f2 sR_D
  obtain ⟨y, b', o, m, x⟩ := I.2.2.2.2.2.1
  have o1 := o.1.1
  have eb : b' = 1 - b := by
    have := x.2.1.symm.trans hS
    have : 14 + b' = 15 - b := Option.some.inj this
    omega
  subst eb
  have n : iSy h2 := by
    refine ⟨y, 1 - b, o, (SM_lo m (fun a k ha => f1.2.2 a k (by unfold ScV; omega))).fr (f2.up sR_M), x.1, ?_, ?_, ?_, fun s hs => ?_⟩
    · rw [f.2.1]; exact x.2.1
    · rw [f.2.1]; exact x.2.2.1
    · rw [f2.2.2 _ _ (by unfold ScR; omega), f1.2.2 _ _ (by unfold ScV; omega)]; exact x.2.2.2.1
    · have e : ∀ k, hI h2 (16 + 2 * s + (1 - b)) k = hI h (16 + 2 * s + (1 - b)) k := fun k => (f2.2.2 _ _ (by unfold ScR; omega)).trans (f1.2.2 _ _ (by unfold ScV; omega))
      have c := x.2.2.2.2 s hs
      unfold scX at *
      rw [e, e, e, e, e, e, e, e]
      exact c
  refine I.to f (Or.inl ?_) (Or.inl ?_) (Or.inl ?_) (Or.inl ?_) (Or.inr n) (Or.inl ?_) (Or.inl ?_) (Or.inl ?_) (Or.inl ?_) <;> intro a k z <;> simp only [rgRw, rgTx, rgHd, rgLm, rgSy, rgSg, rgMo, rgTl, rgMk, rgD, rgS, ScM] at z ⊢ <;> omega

