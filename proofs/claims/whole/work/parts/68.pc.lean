/-! the reference: a whole text read -/
theorem scP_b {T : Nat → Int} {n p : Nat} (hp : p ≤ n) : (scP (chT T n) p).2.1 ≤ n ∧ p ≤ (scP (chT T n) p).2.1 ∧ ((scP (chT T n) p).1 = true → (scP (chT T n) p).2.2.1 < 256 ∧ (scP (chT T n) p).2.2.2.1 < 256 ∧ (1 ≤ (scP (chT T n) p).2.2.2.2.1 ∧ (scP (chT T n) p).2.2.2.2.1 ≤ 99) ∧ ((scP (chT T n) p).2.2.2.2.1 ≤ (scP (chT T n) p).2.2.2.2.2.1 ∧ (scP (chT T n) p).2.2.2.2.2.1 ≤ 99) ∧ (0 ≤ (scP (chT T n) p).2.2.2.2.2.2 ∧ (scP (chT T n) p).2.2.2.2.2.2 ≤ 1)) := by
  have hr := hidP_n (T := T) (n := n) (61 - p) p 0 0 hp
  have hb := ltK_b (chT T n) (61 - p) p 0 0 (by decide) (by decide) (by rw [pcN_0]; omega)
  have hu := numP_b (T := T) (n := n) hr
  have hlt : ∀ q, chT T n q ≠ -9 → q < n := fun q z => chT_lt z
  have hv : (numP (chT T n) (hidP (chT T n) (61 - p) p 0 0).2.1).1 < n → _ := fun z => numP_b (T := T) (n := n) (p := (numP (chT T n) (hidP (chT T n) (61 - p) p 0 0).2.1).1 + 1) z
  have ha := hlt (numP (chT T n) (hidP (chT T n) (61 - p) p 0 0).2.1).1
  unfold scP
  dsimp only
  generalize hidP (chT T n) (61 - p) p 0 0 = r at *
  generalize numP (chT T n) r.2.1 = a at *
  generalize numP (chT T n) (a.1 + 1) = b at *
  generalize hC : chT T n = C at *
  by_cases z1 : r.1 = false
  · rw [if_pos z1]; exact ⟨hr, hb.2.2, fun t => Bool.noConfusion (show false = true from t)⟩
  · rw [if_neg z1]
    by_cases z2 : a.2 < 1
    · rw [if_pos z2]; exact ⟨hu.2.1, by show p ≤ a.1; omega, fun t => Bool.noConfusion (show false = true from t)⟩
    · rw [if_neg z2]
      by_cases z3 : C a.1 = 45
      · have hv := hv (ha (by omega))
        have hq := hlt b.1
        simp only [if_pos z3]
        by_cases z4 : b.2 < a.2
        · rw [if_pos z4]; exact ⟨hv.2.1, by show p ≤ b.1; omega, fun t => Bool.noConfusion (show false = true from t)⟩
        · rw [if_neg z4]
          by_cases z5 : C b.1 = 33
          · simp only [if_pos z5]; have := hq (by omega); exact ⟨by show b.1 + 1 ≤ n; omega, by show p ≤ b.1 + 1; omega, fun _ => ⟨hb.1, hb.2.1, ⟨by omega, by omega⟩, ⟨by omega, by omega⟩, ⟨by omega, by omega⟩⟩⟩
          · simp only [if_neg z5]; exact ⟨by show b.1 + 0 ≤ n; omega, by show p ≤ b.1 + 0; omega, fun _ => ⟨hb.1, hb.2.1, ⟨by omega, by omega⟩, ⟨by omega, by omega⟩, ⟨by omega, by omega⟩⟩⟩
      · have hq := hlt a.1
        simp only [if_neg z3]
        rw [if_neg (by omega)]
        by_cases z5 : C a.1 = 33
        · simp only [if_pos z5]; have := hq (by omega); exact ⟨by show a.1 + 1 ≤ n; omega, by show p ≤ a.1 + 1; omega, fun _ => ⟨hb.1, hb.2.1, ⟨by omega, by omega⟩, ⟨by omega, by omega⟩, ⟨by omega, by omega⟩⟩⟩
        · simp only [if_neg z5]; exact ⟨by show a.1 + 0 ≤ n; omega, by show p ≤ a.1 + 0; omega, fun _ => ⟨hb.1, hb.2.1, ⟨by omega, by omega⟩, ⟨by omega, by omega⟩, ⟨by omega, by omega⟩⟩⟩
theorem blP_n {T : Nat → Int} {n : Nat} : ∀ (m p : Nat), p ≤ n → blP (chT T n) m p ≤ n
  | 0, _, h => h
  | m + 1, p, h => by
    unfold blP
    by_cases z : chT T n p = 32
    · have := chT_lt (show chT T n p ≠ -9 by omega)
      rw [if_pos z]; exact blP_n m (p + 1) (by omega)
    · rw [if_neg z]; exact h
theorem tP_ok {T : Nat → Int} {n : Nat} : ∀ (m s : Nat), s + m = 12 → 1 ≤ m → stP (chT T n) s ≤ n → (tP (chT T n) m s).1 ≤ n ∧ ((tP (chT T n) m s).2.2 = false → s + 1 ≤ (tP (chT T n) m s).2.1 ∧ (tP (chT T n) m s).2.1 ≤ 12 ∧ ∀ u, s ≤ u → u < (tP (chT T n) m s).2.1 → stP (chT T n) u ≤ n ∧ (scP (chT T n) (stP (chT T n) u)).1 = true)
  | 0, _, _, h, _ => absurd h (by decide)
  | m + 1, s, e, _, h => by
    have sb := scP_b (T := T) h
    unfold tP
    generalize hC : chT T n = C at *
    by_cases z : (scP C (stP C s)).1 = false
    · rw [if_pos z]; exact ⟨sb.1, fun t => Bool.noConfusion (show true = false from t)⟩
    · have z' : (scP C (stP C s)).1 = true := by cases q : (scP C (stP C s)).1; exact absurd q z; rfl
      rw [if_neg z]
      by_cases z2 : C (scP C (stP C s)).2.1 = 47 ∧ s + 1 < 12
      · rw [if_pos z2]
        have := chT_lt (T := T) (n := n) (p := (scP C (stP C s)).2.1) (by rw [hC]; omega)
        subst hC
        have r := tP_ok (T := T) (n := n) m (s + 1) (by omega) (by omega) (by show (scP (chT T n) (stP (chT T n) s)).2.1 + 1 ≤ n; omega)
        refine ⟨r.1, fun t => ?_⟩
        have r := r.2 t
        refine ⟨by omega, r.2.1, fun u h1 h2 => ?_⟩
        by_cases zu : u = s
        · rw [zu]; exact ⟨h, z'⟩
        · exact r.2.2 u (by omega) h2
      · rw [if_neg z2]
        refine ⟨sb.1, fun _ => ⟨Nat.le_refl _, by show s + 1 ≤ 12; omega, fun u h1 h2 => ?_⟩⟩
        have h2 : u < s + 1 := h2
        rw [show u = s by omega]; exact ⟨h, z'⟩
def ScR (a k : Nat) : Prop := (a = 117 ∧ (k = 21 ∨ k = 27 ∨ k = 28)) ∨ (132 ≤ a ∧ a ≤ 136)
theorem sS_R {s : Nat} : ∀ a k, ScS s a k → ScR a k := by intro a k z; unfold ScS at z; unfold ScR; omega
theorem sR_21 : ScR 117 21 := by unfold ScR; omega
theorem sR_27 : ScR 117 27 := by unfold ScR; omega
theorem TM.fR {h h' : JH} {t n : Nat} {T : Nat → Int} (x : TM h t T n) (f : Fr ScR h h') : TM h' t T n := ⟨(f.2.2 _ _ (by unfold ScR; omega)).trans x.1, fun i hi => (f.2.2 _ _ (by unfold ScR; omega)).trans (x.2 i hi)⟩
theorem RM.sI {h : JH} {s : Nat} {r : Bool × Nat × Nat × Nat × Int × Int × Int} {k : Nat} {v : Int} (x : RM h s r) : RM (sI h 117 k v) s r := by
  unfold RM at *
  rw [sI_o _ (by decide), sI_o _ (by decide), sI_o _ (by decide), sI_o _ (by decide), sI_o _ (by decide)]
  exact x
theorem RM.fr {h h' : JH} {s u : Nat} {r : Bool × Nat × Nat × Nat × Int × Int × Int} (x : RM h u r) (f : Fr (ScS s) h h') (hu : u ≠ s) : RM h' u r := by
  unfold RM at *
  rw [f.2.2 _ _ (by unfold ScS; omega), f.2.2 _ _ (by unfold ScS; omega), f.2.2 _ _ (by unfold ScS; omega), f.2.2 _ _ (by unfold ScS; omega), f.2.2 _ _ (by unfold ScS; omega)]
  exact x
theorem sI_2 (h : JH) (a k : Nat) (u v : Int) : sI (sI h a k u) a k v = sI h a k v := by
  unfold sI
  have : (fun b j => if b = a ∧ j = k then v else (fun b j => if b = a ∧ j = k then u else h.2.1 b j) b j) = (fun b j => if b = a ∧ j = k then v else h.2.1 b j) := by
    funext b j
    by_cases e : b = a ∧ j = k
    · rw [if_pos e, if_pos e]
    · rw [if_neg e, if_neg e]; exact if_neg e
  exact congrArg (fun z => (h.1, z, h.2.2)) this
theorem lp_gOn {d : Nat} {h : JH} {P : Int → JH → Prop} {t n s : Nat} {T : Nat → Int} (w0 : WF h) (x0 : TM h t T n) (ht : t < 4) (hn : n ≤ 60) (hP : P (if n ≤ s then -9 else (s : Int)) (sI h 117 27 s)) : ∀ (m q : Nat), n ≤ q + m → q ≤ n → blP (chT T n) m q = s → JAt k0 (d + 3) jX12_goesOn 98 [vr 117, vi t, vi 0] [] (sI h 117 27 q) (jqi P) := by
  intro m
  induction m with
  | zero =>
    intro q hm hq e
    have e : q = s := e
    have w : WF (sI h 117 27 q) := (Fr.sI (Sc := ScR) Fr.rf _ sR_27).wf w0
    have x : TM (sI h 117 27 q) t T n := x0.fR (Fr.sI Fr.rf _ sR_27)
    have x1 : hI (sI h 117 27 q) 122 ((t : Int)).toNat = (n : Int) := x.1
    have hc : chT T n q = -9 := by unfold chT; rw [if_neg (by omega)]
    subst e
    refine st_aload_n (q := 99) dX12_goesOn_98 rfl rfl ?_
    refine st_iload_n (q := 100) dX12_goesOn_99 rfl rfl ?_
    refine iV1i (q := 103) dX12_goesOn_100 rfl ml_X12_197 mv_X12_here (Nat.le_of_ble_eq_true rfl) (wfk w rfl) ?_
    refine c_X12_here w x ht hn (by rw [sI_s]) ?_
    rw [hc]
    refine st_bipush (q := 105) dX12_goesOn_103 ⟨by decide, by decide⟩ rfl ?_
    refine st_icmp_ne (q := 108) (tgt := 121) dX12_goesOn_105 (by decide) rfl (fun c105 => ?_) (fun c105 => ?_)
    · refine st_aload_n (q := 122) dX12_goesOn_121 rfl rfl ?_
      refine st_getI (q := 125) 12 27 dX12_goesOn_122 fl_X12_191 (by decide) (by decide) rfl rfl (wfk w rfl) ?_
      refine j_top (q : Int) (by rw [sI_s]) ?_
      refine st_aload_n (q := 126) dX12_goesOn_125 rfl rfl ?_
      refine st_getR (q := 129) 12 8 dX12_goesOn_126 fl_X12_26 (by decide) (by decide) rfl rfl (wfk w rfl) (wfR w rfl) ?_
      refine st_iload_n (q := 130) dX12_goesOn_129 rfl rfl ?_
      refine st_iaload (q := 131) dX12_goesOn_130 rfl (wfk w rfl) (wfb w (n := 4) rfl ⟨by omega, by omega⟩) ?_
      refine j_top (n : Int) x1 ?_
      refine st_icmp_ne (q := 134) (tgt := 139) dX12_goesOn_131 (by decide) rfl (fun c131 => ?_) (fun c131 => ?_)
      · refine st_aload_n (q := 140) dX12_goesOn_139 rfl rfl ?_
        refine st_getI (q := 143) 12 27 dX12_goesOn_140 fl_X12_191 (by decide) (by decide) rfl rfl (wfk w rfl) ?_
        first | refine j_top (q : Int) (by rw [sI_s]) ?_ | skip
        refine rt_i dX12_goesOn_143 rfl ?_
        first | (rw [if_pos (by omega)] at hP; exact hP) | (rw [if_neg (by omega)] at hP; exact hP)
      · refine st_bipush (q := 136) dX12_goesOn_134 ⟨by decide, by decide⟩ rfl ?_
        refine st_goto (q := 143) dX12_goesOn_136 (by decide) ?_
        first | refine j_top (q : Int) (by rw [sI_s]) ?_ | skip
        refine rt_i dX12_goesOn_143 rfl ?_
        first | (rw [if_pos (by omega)] at hP; exact hP) | (rw [if_neg (by omega)] at hP; exact hP)
    · exact absurd c105 (by decide)
  | succ m ih =>
    intro q hm hq e
    have w : WF (sI h 117 27 q) := (Fr.sI (Sc := ScR) Fr.rf _ sR_27).wf w0
    have x : TM (sI h 117 27 q) t T n := x0.fR (Fr.sI Fr.rf _ sR_27)
    have x1 : hI (sI h 117 27 q) 122 ((t : Int)).toNat = (n : Int) := x.1
    unfold blP at e
    have lt : chT T n q ≠ -9 → q < n := chT_lt
    generalize hC : chT T n = C at *
    refine st_aload_n (q := 99) dX12_goesOn_98 rfl rfl ?_
    refine st_iload_n (q := 100) dX12_goesOn_99 rfl rfl ?_
    refine iV1i (q := 103) dX12_goesOn_100 rfl ml_X12_197 mv_X12_here (Nat.le_of_ble_eq_true rfl) (wfk w rfl) ?_
    refine c_X12_here w x ht hn (by rw [sI_s]) ?_
    rw [hC]
    refine st_bipush (q := 105) dX12_goesOn_103 ⟨by decide, by decide⟩ rfl ?_
    refine st_icmp_ne (q := 108) (tgt := 121) dX12_goesOn_105 (by decide) rfl (fun c105 => ?_) (fun c105 => ?_)
    · refine st_aload_n (q := 122) dX12_goesOn_121 rfl rfl ?_
      refine st_getI (q := 125) 12 27 dX12_goesOn_122 fl_X12_191 (by decide) (by decide) rfl rfl (wfk w rfl) ?_
      rw [if_neg c105] at e
      subst e
      refine j_top (q : Int) (by rw [sI_s]) ?_
      refine st_aload_n (q := 126) dX12_goesOn_125 rfl rfl ?_
      refine st_getR (q := 129) 12 8 dX12_goesOn_126 fl_X12_26 (by decide) (by decide) rfl rfl (wfk w rfl) (wfR w rfl) ?_
      refine st_iload_n (q := 130) dX12_goesOn_129 rfl rfl ?_
      refine st_iaload (q := 131) dX12_goesOn_130 rfl (wfk w rfl) (wfb w (n := 4) rfl ⟨by omega, by omega⟩) ?_
      refine j_top (n : Int) x1 ?_
      refine st_icmp_ne (q := 134) (tgt := 139) dX12_goesOn_131 (by decide) rfl (fun c131 => ?_) (fun c131 => ?_)
      · refine st_aload_n (q := 140) dX12_goesOn_139 rfl rfl ?_
        refine st_getI (q := 143) 12 27 dX12_goesOn_140 fl_X12_191 (by decide) (by decide) rfl rfl (wfk w rfl) ?_
        first | refine j_top (q : Int) (by rw [sI_s]) ?_ | skip
        refine rt_i dX12_goesOn_143 rfl ?_
        first | (rw [if_pos (by omega)] at hP; exact hP) | (rw [if_neg (by omega)] at hP; exact hP)
      · refine st_bipush (q := 136) dX12_goesOn_134 ⟨by decide, by decide⟩ rfl ?_
        refine st_goto (q := 143) dX12_goesOn_136 (by decide) ?_
        first | refine j_top (q : Int) (by rw [sI_s]) ?_ | skip
        refine rt_i dX12_goesOn_143 rfl ?_
        first | (rw [if_pos (by omega)] at hP; exact hP) | (rw [if_neg (by omega)] at hP; exact hP)
    · refine st_aload_n (q := 109) dX12_goesOn_108 rfl rfl ?_
      refine st_dup (q := 110) dX12_goesOn_109 rfl rfl ?_
      refine st_getI (q := 113) 12 27 dX12_goesOn_110 fl_X12_191 (by decide) (by decide) rfl rfl (wfk w rfl) ?_
      refine j_top (q : Int) (by rw [sI_s]) ?_
      refine st_iconst (q := 114) dX12_goesOn_113 ⟨by decide, by decide⟩ rfl ?_
      first | refine n_iadd (q := 115) dX12_goesOn_114 rfl ⟨by omega, by omega⟩ ?_ | refine st_iadd (q := 115) dX12_goesOn_114 rfl ?_
      refine st_putI (q := 118) 12 27 dX12_goesOn_115 fl_X12_191 (by decide) (by decide) (Or.inl rfl) rfl (Or.inl rfl) (wfk w rfl) ?_
      refine st_goto (q := 98) dX12_goesOn_118 (by decide) ?_
      rw [if_pos c105] at e
      have := lt (by omega)
      rw [sI_2]
      have tk := ih (q + 1) (by omega) (by omega) e
      rw [show ((q + 1 : Nat) : Int) = (q : Int) + 1 by omega] at tk
      exact tk
theorem lp_gO1 {d : Nat} {h : JH} {P : Int → JH → Prop} {t n s : Nat} {T : Nat → Int} {j2 : JV} (w0 : WF h) (x0 : TM h t T n) (ht : t < 4) (hn : n ≤ 60) (hP : JAt k0 (d + 3) jX12_goesOn 33 [vr 117, vi t, j2] [] (sI h 117 27 s) (jqi P)) : ∀ (m q : Nat), n ≤ q + m → q ≤ n → blP (chT T n) m q = s → JAt k0 (d + 3) jX12_goesOn 10 [vr 117, vi t, j2] [] (sI h 117 27 q) (jqi P) := by
  intro m
  induction m with
  | zero =>
    intro q hm hq e
    have e : q = s := e
    have w : WF (sI h 117 27 q) := (Fr.sI (Sc := ScR) Fr.rf _ sR_27).wf w0
    have x : TM (sI h 117 27 q) t T n := x0.fR (Fr.sI Fr.rf _ sR_27)
    have hc : chT T n q = -9 := by unfold chT; rw [if_neg (by omega)]
    subst e
    refine st_aload_n (q := 11) dX12_goesOn_10 rfl rfl ?_
    refine st_iload_n (q := 12) dX12_goesOn_11 rfl rfl ?_
    refine iV1i (q := 15) dX12_goesOn_12 rfl ml_X12_197 mv_X12_here (Nat.le_of_ble_eq_true rfl) (wfk w rfl) ?_
    refine c_X12_here w x ht hn (by rw [sI_s]) ?_
    rw [hc]
    refine st_bipush (q := 17) dX12_goesOn_15 ⟨by decide, by decide⟩ rfl ?_
    refine st_icmp_ne (q := 20) (tgt := 33) dX12_goesOn_17 (by decide) rfl (fun c17 => ?_) (fun c17 => ?_)
    · exact hP
    · exact absurd c17 (by decide)
  | succ m ih =>
    intro q hm hq e
    have w : WF (sI h 117 27 q) := (Fr.sI (Sc := ScR) Fr.rf _ sR_27).wf w0
    have x : TM (sI h 117 27 q) t T n := x0.fR (Fr.sI Fr.rf _ sR_27)
    unfold blP at e
    have lt : chT T n q ≠ -9 → q < n := chT_lt
    generalize hC : chT T n = C at *
    refine st_aload_n (q := 11) dX12_goesOn_10 rfl rfl ?_
    refine st_iload_n (q := 12) dX12_goesOn_11 rfl rfl ?_
    refine iV1i (q := 15) dX12_goesOn_12 rfl ml_X12_197 mv_X12_here (Nat.le_of_ble_eq_true rfl) (wfk w rfl) ?_
    refine c_X12_here w x ht hn (by rw [sI_s]) ?_
    rw [hC]
    refine st_bipush (q := 17) dX12_goesOn_15 ⟨by decide, by decide⟩ rfl ?_
    refine st_icmp_ne (q := 20) (tgt := 33) dX12_goesOn_17 (by decide) rfl (fun c17 => ?_) (fun c17 => ?_)
    · rw [if_neg c17] at e
      subst e
      exact hP
    · refine st_aload_n (q := 21) dX12_goesOn_20 rfl rfl ?_
      refine st_dup (q := 22) dX12_goesOn_21 rfl rfl ?_
      refine st_getI (q := 25) 12 27 dX12_goesOn_22 fl_X12_191 (by decide) (by decide) rfl rfl (wfk w rfl) ?_
      refine j_top (q : Int) (by rw [sI_s]) ?_
      refine st_iconst (q := 26) dX12_goesOn_25 ⟨by decide, by decide⟩ rfl ?_
      first | refine n_iadd (q := 27) dX12_goesOn_26 rfl ⟨by omega, by omega⟩ ?_ | refine st_iadd (q := 27) dX12_goesOn_26 rfl ?_
      refine st_putI (q := 30) 12 27 dX12_goesOn_27 fl_X12_191 (by decide) (by decide) (Or.inl rfl) rfl (Or.inl rfl) (wfk w rfl) ?_
      refine st_goto (q := 10) dX12_goesOn_30 (by decide) ?_
      rw [if_pos c17] at e
      have := lt (by omega)
      rw [sI_2]
      have tk := ih (q + 1) (by omega) (by omega) e
      rw [show ((q + 1 : Nat) : Int) = (q : Int) + 1 by omega] at tk
      exact tk
theorem lp_gOs {d : Nat} {h0 : JH} {P : Int → JH → Prop} {t n : Nat} {T : Nat → Int} (w0 : WF h0) (x0 : TM h0 t T n) (ht : t < 4) (hn : n ≤ 60) (hP : ∀ h', Fr ScR h0 h' → (flP (chT T n) n = -9 → hI h' 117 21 = ((tP (chT T n) 12 0).2.1 : Int) ∧ ∀ u, u < (tP (chT T n) 12 0).2.1 → RM h' u (scP (chT T n) (stP (chT T n) u))) → P (flP (chT T n) n) h') : ∀ (m s : Nat), s + m = 12 → 1 ≤ m → ∀ h', Fr ScR h0 h' → hI h' 117 21 = (s : Int) → hI h' 117 27 = (stP (chT T n) s : Int) → stP (chT T n) s ≤ n → (∀ u, u < s → RM h' u (scP (chT T n) (stP (chT T n) u))) → tP (chT T n) m s = tP (chT T n) 12 0 → JAt k0 (d + 3) jX12_goesOn 35 [vr 117, vi t, vi 1] [] h' (jqi P) := by
  intro m
  induction m with
  | zero => intro s e1 e2; omega
  | succ m ih =>
    intro s e1 _ h' f g21 g27 hp hM e
    have w := f.wf w0
    have x := x0.fR f
    have sb := scP_b (T := T) hp
    have lt : ∀ q, chT T n q ≠ -9 → q < n := fun q z => chT_lt z
    have bn : ∀ q, q ≤ n → _ := fun q z => blP_n (T := T) (n := n) 60 q z
    have hE : ∀ h2 (q k : Nat), q ≤ n → Fr ScR h0 h2 → hI h2 117 27 = (q : Int) → hI h2 117 21 = (k : Int) → tP (chT T n) 12 0 = (q, k, false) → (∀ u, u < k → RM h2 u (scP (chT T n) (stP (chT T n) u))) → JAt k0 (d + 3) jX12_goesOn 35 [vr 117, vi t, vi 0] [] h2 (jqi P) := by
      intro h2 q k hq f2 k27 k21 ke kR
      have e2 : h2 = sI h2 117 27 q := by rw [← k27, sI_id]
      have w := f2.wf w0
      refine st_iload_n (q := 36) dX12_goesOn_35 rfl rfl ?_
      refine st_if_eq (q := 39) (tgt := 98) dX12_goesOn_36 (by decide) rfl (fun c36 => ?_) (fun c36 => ?_)
      · rw [e2]
        refine lp_gOn (s := blP (chT T n) 60 q) (f2.wf w0) (x0.fR f2) ht hn ?_ 60 q (by omega) hq rfl
        have tk := hP (sI h2 117 27 (blP (chT T n) 60 q)) (f2.sI _ sR_27) (fun _ => by rw [ke]; exact ⟨by rw [sI_k _ (by decide)]; exact k21, fun u hu => (kR u hu).sI⟩)
        unfold flP at tk
        rw [ke] at tk
        exact tk
      · exact absurd rfl c36
    have eT : tP (chT T n) (m + 1) s = (if (scP (chT T n) (stP (chT T n) s)).1 = false then ((scP (chT T n) (stP (chT T n) s)).2.1, s, true) else if chT T n (scP (chT T n) (stP (chT T n) s)).2.1 = 47 ∧ s + 1 < 12 then tP (chT T n) m (s + 1) else ((scP (chT T n) (stP (chT T n) s)).2.1, s + 1, false)) := rfl
    rw [eT] at e
    refine st_iload_n (q := 36) dX12_goesOn_35 rfl rfl ?_
    refine st_if_eq (q := 39) (tgt := 98) dX12_goesOn_36 (by decide) rfl (fun c36 => ?_) (fun c36 => ?_)
    · exact absurd c36 (by decide)
    · refine st_aload_n (q := 40) dX12_goesOn_39 rfl rfl ?_
      refine st_iload_n (q := 41) dX12_goesOn_40 rfl rfl ?_
      refine iV1i (q := 44) dX12_goesOn_41 rfl ml_X12_209 mv_X12_readsScene (Nat.le_of_ble_eq_true rfl) (wfk w rfl) ?_
      refine c_X12_readsScene w x ht hn (by omega) g21 g27 hp (fun z0 h2 f2 k27 => ?_) (fun z1 h2 f2 k21 k27 kR => ?_)
      · refine st_if_ne (q := 47) (tgt := 52) dX12_goesOn_44 (by decide) rfl (fun z => absurd z (by decide)) (fun _ => ?_)
        have w := (f.tr (f2.up sS_R)).wf w0
        refine st_aload_n (q := 48) dX12_goesOn_47 rfl rfl ?_
        refine st_getI (q := 51) 12 27 dX12_goesOn_48 fl_X12_191 (by decide) (by decide) rfl rfl (wfk w rfl) ?_
        refine rt_i dX12_goesOn_51 rfl ?_
        rw [if_pos z0] at e
        have tk := hP _ (f.tr (f2.up sS_R)) (fun z => by exfalso; unfold flP at z; rw [← e] at z; have z : ((scP (chT T n) (stP (chT T n) s)).2.1 : Int) = -9 := z; omega)
        unfold flP at tk
        rw [← e] at tk
        rw [k27]
        exact tk
      · refine st_if_ne (q := 47) (tgt := 52) dX12_goesOn_44 (by decide) rfl (fun _ => ?_) (fun z => absurd z (by decide))
        have w := (f.tr (f2.up sS_R)).wf w0
        refine st_aload_n (q := 53) dX12_goesOn_52 rfl rfl ?_
        refine st_iload_n (q := 54) dX12_goesOn_53 rfl rfl ?_
        refine iV1i (q := 57) dX12_goesOn_54 rfl ml_X12_197 mv_X12_here (Nat.le_of_ble_eq_true rfl) (wfk w rfl) ?_
        have f3 := f.tr (f2.up sS_R)
        have w := f3.wf w0
        refine c_X12_here w (x0.fR f3) ht hn k27 ?_
        rw [if_neg (by rw [z1]; decide)] at e
        have hN : ∀ v u, u < s + 1 → RM (sI h2 117 27 v) u (scP (chT T n) (stP (chT T n) u)) := (fun v u hu => by by_cases zu : u = s; (rw [zu]; exact kR.sI); exact ((hM u (by omega)).fr f2 zu).sI)
        refine st_bipush (q := 59) dX12_goesOn_57 ⟨by decide, by decide⟩ rfl ?_
        refine st_icmp_ne (q := 62) (tgt := 75) dX12_goesOn_59 (by decide) rfl (fun c59 => ?_) (fun c59 => ?_)
        · refine st_iconst (q := 76) dX12_goesOn_75 ⟨by decide, by decide⟩ rfl ?_
          refine st_istore_n (q := 77) (i := 2) dX12_goesOn_76 rfl (by decide) rfl ?_
          refine st_aload_n (q := 78) dX12_goesOn_77 rfl rfl ?_
          refine st_dup (q := 79) dX12_goesOn_78 rfl rfl ?_
          refine st_getI (q := 82) 12 27 dX12_goesOn_79 fl_X12_191 (by decide) (by decide) rfl rfl (wfk w rfl) ?_
          refine j_top ((scP (chT T n) (stP (chT T n) s)).2.1 : Int) k27 ?_
          refine st_iload_n (q := 83) dX12_goesOn_82 rfl rfl ?_
          refine st_if_eq (q := 86) (tgt := 90) dX12_goesOn_83 (by decide) rfl (fun _ => ?_) (fun z => absurd z (by decide))
          refine st_iconst (q := 91) dX12_goesOn_90 ⟨by decide, by decide⟩ rfl ?_
          first | refine n_iadd (q := 92) dX12_goesOn_91 rfl ⟨by omega, by omega⟩ ?_ | refine st_iadd (q := 92) dX12_goesOn_91 rfl ?_
          refine st_putI (q := 95) 12 27 dX12_goesOn_92 fl_X12_191 (by decide) (by decide) (Or.inl rfl) rfl (Or.inl rfl) (wfk w rfl) ?_
          refine st_goto (q := 35) dX12_goesOn_95 (by decide) ?_
          first | exact absurd rfl c83 | exact absurd c83 (by decide) | (rw [if_neg (by omega)] at e; exact hE _ _ (s + 1) sb.1 (f3.sI _ sR_27) (by rw [sI_s]; omega) (by rw [sI_k _ (by decide)]; exact k21) e.symm (hN _)) | (rw [if_pos ⟨by omega, by omega⟩] at e; have hl := lt (scP (chT T n) (stP (chT T n) s)).2.1 (by omega); exact ih (s + 1) (by omega) (by omega) _ (f3.sI _ sR_27) (by rw [sI_k _ (by decide)]; exact k21) (by rw [sI_s]; show _ = (((scP (chT T n) (stP (chT T n) s)).2.1 + 1 : Nat) : Int); omega) (by show (scP (chT T n) (stP (chT T n) s)).2.1 + 1 ≤ n; omega) (hN _) e)
        · refine st_aload_n (q := 63) dX12_goesOn_62 rfl rfl ?_
          refine st_getI (q := 66) 12 21 dX12_goesOn_63 fl_X12_200 (by decide) (by decide) rfl rfl (wfk w rfl) ?_
          refine j_top ((s + 1 : Nat) : Int) k21 ?_
          refine st_bipush (q := 68) dX12_goesOn_66 ⟨by decide, by decide⟩ rfl ?_
          refine st_icmp_ge (q := 71) (tgt := 75) dX12_goesOn_68 (by decide) rfl (fun c68 => ?_) (fun c68 => ?_)
          · refine st_iconst (q := 76) dX12_goesOn_75 ⟨by decide, by decide⟩ rfl ?_
            refine st_istore_n (q := 77) (i := 2) dX12_goesOn_76 rfl (by decide) rfl ?_
            refine st_aload_n (q := 78) dX12_goesOn_77 rfl rfl ?_
            refine st_dup (q := 79) dX12_goesOn_78 rfl rfl ?_
            refine st_getI (q := 82) 12 27 dX12_goesOn_79 fl_X12_191 (by decide) (by decide) rfl rfl (wfk w rfl) ?_
            refine j_top ((scP (chT T n) (stP (chT T n) s)).2.1 : Int) k27 ?_
            refine st_iload_n (q := 83) dX12_goesOn_82 rfl rfl ?_
            refine st_if_eq (q := 86) (tgt := 90) dX12_goesOn_83 (by decide) rfl (fun _ => ?_) (fun z => absurd z (by decide))
            refine st_iconst (q := 91) dX12_goesOn_90 ⟨by decide, by decide⟩ rfl ?_
            first | refine n_iadd (q := 92) dX12_goesOn_91 rfl ⟨by omega, by omega⟩ ?_ | refine st_iadd (q := 92) dX12_goesOn_91 rfl ?_
            refine st_putI (q := 95) 12 27 dX12_goesOn_92 fl_X12_191 (by decide) (by decide) (Or.inl rfl) rfl (Or.inl rfl) (wfk w rfl) ?_
            refine st_goto (q := 35) dX12_goesOn_95 (by decide) ?_
            first | exact absurd rfl c83 | exact absurd c83 (by decide) | (rw [if_neg (by omega)] at e; exact hE _ _ (s + 1) sb.1 (f3.sI _ sR_27) (by rw [sI_s]; omega) (by rw [sI_k _ (by decide)]; exact k21) e.symm (hN _)) | (rw [if_pos ⟨by omega, by omega⟩] at e; have hl := lt (scP (chT T n) (stP (chT T n) s)).2.1 (by omega); exact ih (s + 1) (by omega) (by omega) _ (f3.sI _ sR_27) (by rw [sI_k _ (by decide)]; exact k21) (by rw [sI_s]; show _ = (((scP (chT T n) (stP (chT T n) s)).2.1 + 1 : Nat) : Int); omega) (by show (scP (chT T n) (stP (chT T n) s)).2.1 + 1 ≤ n; omega) (hN _) e)
          · refine st_iconst (q := 72) dX12_goesOn_71 ⟨by decide, by decide⟩ rfl ?_
            refine st_goto (q := 76) dX12_goesOn_72 (by decide) ?_
            refine st_istore_n (q := 77) (i := 2) dX12_goesOn_76 rfl (by decide) rfl ?_
            refine st_aload_n (q := 78) dX12_goesOn_77 rfl rfl ?_
            refine st_dup (q := 79) dX12_goesOn_78 rfl rfl ?_
            refine st_getI (q := 82) 12 27 dX12_goesOn_79 fl_X12_191 (by decide) (by decide) rfl rfl (wfk w rfl) ?_
            refine j_top ((scP (chT T n) (stP (chT T n) s)).2.1 : Int) k27 ?_
            refine st_iload_n (q := 83) dX12_goesOn_82 rfl rfl ?_
            refine st_if_eq (q := 86) (tgt := 90) dX12_goesOn_83 (by decide) rfl (fun z => absurd z (by decide)) (fun _ => ?_)
            refine st_iconst (q := 87) dX12_goesOn_86 ⟨by decide, by decide⟩ rfl ?_
            refine st_goto (q := 91) dX12_goesOn_87 (by decide) ?_
            first | refine n_iadd (q := 92) dX12_goesOn_91 rfl ⟨by omega, by omega⟩ ?_ | refine st_iadd (q := 92) dX12_goesOn_91 rfl ?_
            refine st_putI (q := 95) 12 27 dX12_goesOn_92 fl_X12_191 (by decide) (by decide) (Or.inl rfl) rfl (Or.inl rfl) (wfk w rfl) ?_
            refine st_goto (q := 35) dX12_goesOn_95 (by decide) ?_
            first | exact absurd rfl c83 | exact absurd c83 (by decide) | (rw [if_neg (by omega)] at e; exact hE _ _ (s + 1) sb.1 (f3.sI _ sR_27) (by rw [sI_s]; omega) (by rw [sI_k _ (by decide)]; exact k21) e.symm (hN _)) | (rw [if_pos ⟨by omega, by omega⟩] at e; have hl := lt (scP (chT T n) (stP (chT T n) s)).2.1 (by omega); exact ih (s + 1) (by omega) (by omega) _ (f3.sI _ sR_27) (by rw [sI_k _ (by decide)]; exact k21) (by rw [sI_s]; show _ = (((scP (chT T n) (stP (chT T n) s)).2.1 + 1 : Nat) : Int); omega) (by show (scP (chT T n) (stP (chT T n) s)).2.1 + 1 ≤ n; omega) (hN _) e)
theorem c_X12_goesOn {d : Nat} {h : JH} {P : Int → JH → Prop} {t n : Nat} {T : Nat → Int} (w : WF h) (x : TM h t T n) (ht : t < 4) (hn : n ≤ 60) (hP : ∀ h', Fr ScR h h' → (flP (chT T n) n = -9 → hI h' 117 21 = ((tP (chT T n) 12 0).2.1 : Int) ∧ ∀ u, u < (tP (chT T n) 12 0).2.1 → RM h' u (scP (chT T n) (stP (chT T n) u))) → P (flP (chT T n) n) h') : JRi (d + 3) jX12_goesOn [vr 117, vi t] h P := by
  have bn := blP_n (T := T) (n := n) 60 0 (by omega)
  have hS : ∀ j2 : JV, JAt k0 (d + 3) jX12_goesOn 33 [vr 117, vi t, j2] [] (sI (sI (sI h 117 27 0) 117 21 0) 117 27 (blP (chT T n) 60 0 : Int)) (jqi P) := by
    intro j2
    have f : Fr ScR h (sI (sI (sI h 117 27 0) 117 21 0) 117 27 (blP (chT T n) 60 0 : Int)) := ((Fr.rf.sI _ sR_27).sI _ sR_21).sI _ sR_27
    refine st_iconst (q := 34) dX12_goesOn_33 ⟨by decide, by decide⟩ rfl ?_
    refine st_istore_n (q := 35) (i := 2) dX12_goesOn_34 rfl (by decide) rfl ?_
    exact lp_gOs w x ht hn hP 12 0 (by omega) (by omega) _ f (by rw [sI_k _ (by decide), sI_s]; rfl) (by rw [sI_s]; rfl) bn (fun u hu => absurd hu (by omega)) rfl
  have e2 : sI (sI h 117 27 0) 117 21 0 = sI (sI (sI h 117 27 0) 117 21 0) 117 27 ((0 : Nat) : Int) := by
    have g : hI (sI (sI h 117 27 0) 117 21 0) 117 27 = ((0 : Nat) : Int) := by rw [sI_k _ (by decide), sI_s]; rfl
    rw [← g, sI_id]
  refine JRet.of rfl (Nat.le_of_ble_eq_true rfl) ?_
  refine st_aload_n (q := 1) dX12_goesOn_0 rfl rfl ?_
  refine st_iconst (q := 2) dX12_goesOn_1 ⟨by decide, by decide⟩ rfl ?_
  refine st_putI (q := 5) 12 27 dX12_goesOn_2 fl_X12_191 (by decide) (by decide) (Or.inl rfl) rfl (Or.inl rfl) (wfk w rfl) ?_
  refine st_aload_n (q := 6) dX12_goesOn_5 rfl rfl ?_
  refine st_iconst (q := 7) dX12_goesOn_6 ⟨by decide, by decide⟩ rfl ?_
  refine st_putI (q := 10) 12 21 dX12_goesOn_7 fl_X12_200 (by decide) (by decide) (Or.inl rfl) rfl (Or.inl rfl) (wfk w rfl) ?_
  rw [e2]
  exact lp_gO1 (((Fr.sI (Sc := ScR) Fr.rf _ sR_27).sI _ sR_21).wf w) (x.fR ((Fr.rf.sI _ sR_27).sI _ sR_21)) ht hn (hS _) 60 0 (by omega) (by omega) rfl

