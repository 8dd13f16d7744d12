/-! the class: a whole text read -/
def ScV (e a k : Nat) : Prop := (a = 13 ∧ (k = 3 ∨ k = 4)) ∨ (16 ≤ a ∧ a ≤ 39 ∧ a % 2 = e)
theorem sC_V {e s : Nat} (he : e ≤ 1) (hs : s < 12) : ∀ a k, ScC (16 + 2 * s + e) a k → ScV e a k := by intro a k z; unfold ScC at z; unfold ScV; omega
theorem sV_3 {e : Nat} : ScV e 13 3 := by unfold ScV; omega
theorem sV_4 {e : Nat} : ScV e 13 4 := by unfold ScV; omega
theorem TD.fV {h h' : JH} {r n e : Nat} {T : Nat → Int} (x : TD h r T n) (f : Fr (ScV e) h h') : TD h' r T n := ⟨(f.2.2 _ _ (by unfold ScV; omega)).trans x.1, fun i hi => (f.2.2 _ _ (by unfold ScV; omega)).trans (x.2 i hi)⟩
theorem ysk {h : JH} {e : Nat} (w : WF h) (he : e ≤ 1) : kd h (14 + e) = 24 := by
  rcases (show e = 0 ∨ e = 1 by omega) with q | q <;> subst q <;> exact wfk w rfl
theorem ysb {h : JH} {e : Nat} {i : Int} (w : WF h) (he : e ≤ 1) (hi : 0 ≤ i ∧ i < 12) : 0 ≤ i ∧ i < (ln h (14 + e) : Int) := by
  have q : ln h (14 + e) = 12 := by
    rcases (show e = 0 ∨ e = 1 by omega) with q | q <;> subst q <;> exact wfl w rfl
  rw [q]; exact hi
theorem ysc {h : JH} {e s : Nat} (w : WF h) (he : e ≤ 1) (hs : s < 12) : hR h (14 + e) s = some (16 + 2 * s + e) := by
  have q := sh_scenes s hs
  rcases (show e = 0 ∨ e = 1 by omega) with z | z
  · subst z; exact (w.2.1 14 s (fun z => absurd z.1 (by decide))).trans q.1
  · subst z; exact (w.2.1 15 s (fun z => absurd z.1 (by decide))).trans (by rw [q.2.1, show 16 + 2 * s + 1 = 17 + 2 * s by omega])
theorem yck {h : JH} {e s : Nat} (w : WF h) (he : e ≤ 1) (hs : s < 12) : kd h (16 + 2 * s + e) = 5 := by
  have q := sh_scenes s hs
  rcases (show e = 0 ∨ e = 1 by omega) with z | z
  · subst z; exact wfk w (by rw [Nat.add_zero, q.2.2.1])
  · subst z; exact wfk w (by rw [show 16 + 2 * s + 1 = 17 + 2 * s by omega, q.2.2.2])
theorem XM_o {h : JH} {c a k : Nat} {v : Int} {r : Bool × Nat × Nat × Nat × Int × Int × Int} (x : XM h c r) (z : a ≠ c) : XM (sI h a k v) c r := by
  unfold XM at *
  rw [sI_o _ z.symm, sI_o _ z.symm, sI_o _ z.symm, sI_o _ z.symm, sI_o _ z.symm, sI_o _ z.symm, sI_o _ z.symm, sI_o _ z.symm]
  exact x
theorem XM_f {h h' : JH} {c c' : Nat} {r : Bool × Nat × Nat × Nat × Int × Int × Int} (x : XM h c r) (f : Fr (ScC c') h h') (z : c ≠ c') (z2 : c ≠ 13) : XM h' c r := by
  have g : ∀ k, hI h' c k = hI h c k := fun k => f.2.2 _ _ (by unfold ScC; omega)
  unfold XM at *
  rw [g, g, g, g, g, g, g, g]
  exact x
theorem lp_X8_read {d : Nat} {h0 : JH} {P : Int → JH → Prop} {r n b : Nat} {T : Nat → Int} (w0 : WF h0) (hr : r < 4) (x0 : TD h0 r T n) (hn : n ≤ 60) (hb : b ≤ 1) (hD : hR h0 13 2 = some (14 + b)) (hP : ∀ h', Fr (ScV b) h0 h' → (flP (chT T n) n = -9 → hI h' 13 3 = ((tP (chT T n) 12 0).2.1 : Int) ∧ ∀ u, u < (tP (chT T n) 12 0).2.1 → XM h' (16 + 2 * u + b) (scP (chT T n) (stP (chT T n) u))) → P (flP (chT T n) n) h') : ∀ (m s : Nat), s + m = 12 → 1 ≤ m → ∀ h', Fr (ScV b) h0 h' → hI h' 13 4 = (stP (chT T n) s : Int) → stP (chT T n) s ≤ n → (∀ u, u < s → XM h' (16 + 2 * u + b) (scP (chT T n) (stP (chT T n) u))) → tP (chT T n) m s = tP (chT T n) 12 0 → JAt k0 (d + 5) jX8_read 19 [vr 13, vr ((109 + 2 * r : Nat)), vi 1, vi s] [] h' (jqi P) := by
  intro m
  induction m with
  | zero => intro s e1 e2; omega
  | succ m ih =>
    intro s e1 _ h' f g4 hp hM e
    have w := f.wf w0
    have x := x0.fV f
    have sb := scP_b (T := T) hp
    have lt : ∀ q, chT T n q ≠ -9 → q < n := fun q z => chT_lt z
    have bn : ∀ q, q ≤ n → _ := fun q z => blP_n (T := T) (n := n) 60 q z
    have hD' : hR h' 13 2 = some (14 + b) := by unfold hR at *; rw [f.2.1]; exact hD
    have hE : ∀ h2 (q k j : Nat), j ≤ 12 → q ≤ n → Fr (ScV b) h0 h2 → hI h2 13 4 = (q : Int) → hI h2 13 3 = (k : Int) → tP (chT T n) 12 0 = (q, k, false) → (∀ u, u < k → XM h2 (16 + 2 * u + b) (scP (chT T n) (stP (chT T n) u))) → JAt k0 (d + 5) jX8_read 19 [vr 13, vr ((109 + 2 * r : Nat)), vi 0, vi j] [] h2 (jqi P) := by
      intro h2 q k j hj hq f2 k4 k3 ke kR
      have w := f2.wf w0
      have x2 := x0.fV f2
      have tk := hP (sI h2 13 4 (blP (chT T n) 60 q : Int)) (f2.sI _ sV_4) (fun _ => by rw [ke]; exact ⟨by rw [sI_k _ (by decide)]; exact k3, fun u hu => XM_o (kR u hu) (by omega)⟩)
      unfold flP at tk
      rw [ke] at tk
      have tk : P (if n ≤ blP (chT T n) 60 q then -9 else (blP (chT T n) 60 q : Int)) (sI h2 13 4 (blP (chT T n) 60 q : Int)) := tk
      refine st_iload_n (q := 20) dX8_read_19 rfl rfl ?_
      refine st_bipush (q := 22) dX8_read_20 ⟨by decide, by decide⟩ rfl ?_
      refine st_icmp_ge (q := 25) (tgt := 100) dX8_read_22 (by decide) rfl (fun c22 => ?_) (fun c22 => ?_)
      · refine st_aload_n (q := 101) dX8_read_100 rfl rfl ?_
        refine st_aload_n (q := 102) dX8_read_101 rfl rfl ?_
        refine iV1v (q := 105) dX8_read_102 rfl ml_X8_38 mv_X8_skipBlanks (Nat.le_of_ble_eq_true rfl) (by first | exact (sp_text w hr).1 | exact wfk w rfl) ?_
        refine c_X8_skipBlanks w hr x2 hn k4 hq ?_
        refine st_aload_n (q := 106) dX8_read_105 rfl rfl ?_
        refine st_getI (q := 109) 8 4 dX8_read_106 fl_X8_27 (by decide) (by decide) rfl rfl (by first | exact (sp_text w hr).1 | exact wfk w rfl) ?_
        refine j_top (blP (chT T n) 60 q : Int) (by rw [sI_s]) ?_
        refine st_aload_n (q := 110) dX8_read_109 rfl rfl ?_
        refine st_getI (q := 113) 9 1 dX8_read_110 fl_X8_50 (by decide) (by decide) rfl rfl (by first | exact (sp_text w hr).1 | exact wfk w rfl) ?_
        refine j_top (n : Int) (by rw [sI_o _ (by omega)]; exact x2.1) ?_
        refine st_icmp_ge (q := 116) (tgt := 123) dX8_read_113 (by decide) rfl (fun c113 => ?_) (fun c113 => ?_)
        · refine st_bipush (q := 125) dX8_read_123 ⟨by decide, by decide⟩ rfl ?_
          refine rt_i dX8_read_125 rfl ?_
          first | (rw [if_pos (by omega)] at tk; exact tk) | (rw [if_neg (by omega)] at tk; exact tk)
        · refine st_aload_n (q := 117) dX8_read_116 rfl rfl ?_
          refine st_getI (q := 120) 8 4 dX8_read_117 fl_X8_27 (by decide) (by decide) rfl rfl (by first | exact (sp_text w hr).1 | exact wfk w rfl) ?_
          refine j_top (blP (chT T n) 60 q : Int) (by rw [sI_s]) ?_
          refine st_goto (q := 125) dX8_read_120 (by decide) ?_
          refine rt_i dX8_read_125 rfl ?_
          first | (rw [if_pos (by omega)] at tk; exact tk) | (rw [if_neg (by omega)] at tk; exact tk)
      · refine st_iload_n (q := 26) dX8_read_25 rfl rfl ?_
        refine st_if_eq (q := 29) (tgt := 100) dX8_read_26 (by decide) rfl (fun c26 => ?_) (fun c26 => ?_)
        · refine st_aload_n (q := 101) dX8_read_100 rfl rfl ?_
          refine st_aload_n (q := 102) dX8_read_101 rfl rfl ?_
          refine iV1v (q := 105) dX8_read_102 rfl ml_X8_38 mv_X8_skipBlanks (Nat.le_of_ble_eq_true rfl) (by first | exact (sp_text w hr).1 | exact wfk w rfl) ?_
          refine c_X8_skipBlanks w hr x2 hn k4 hq ?_
          refine st_aload_n (q := 106) dX8_read_105 rfl rfl ?_
          refine st_getI (q := 109) 8 4 dX8_read_106 fl_X8_27 (by decide) (by decide) rfl rfl (by first | exact (sp_text w hr).1 | exact wfk w rfl) ?_
          refine j_top (blP (chT T n) 60 q : Int) (by rw [sI_s]) ?_
          refine st_aload_n (q := 110) dX8_read_109 rfl rfl ?_
          refine st_getI (q := 113) 9 1 dX8_read_110 fl_X8_50 (by decide) (by decide) rfl rfl (by first | exact (sp_text w hr).1 | exact wfk w rfl) ?_
          refine j_top (n : Int) (by rw [sI_o _ (by omega)]; exact x2.1) ?_
          refine st_icmp_ge (q := 116) (tgt := 123) dX8_read_113 (by decide) rfl (fun c113 => ?_) (fun c113 => ?_)
          · refine st_bipush (q := 125) dX8_read_123 ⟨by decide, by decide⟩ rfl ?_
            refine rt_i dX8_read_125 rfl ?_
            first | (rw [if_pos (by omega)] at tk; exact tk) | (rw [if_neg (by omega)] at tk; exact tk)
          · refine st_aload_n (q := 117) dX8_read_116 rfl rfl ?_
            refine st_getI (q := 120) 8 4 dX8_read_117 fl_X8_27 (by decide) (by decide) rfl rfl (by first | exact (sp_text w hr).1 | exact wfk w rfl) ?_
            refine j_top (blP (chT T n) 60 q : Int) (by rw [sI_s]) ?_
            refine st_goto (q := 125) dX8_read_120 (by decide) ?_
            refine rt_i dX8_read_125 rfl ?_
            first | (rw [if_pos (by omega)] at tk; exact tk) | (rw [if_neg (by omega)] at tk; exact tk)
        · exact absurd rfl c26
    have eT : tP (chT T n) (m + 1) s = (if (scP (chT T n) (stP (chT T n) s)).1 = false then ((scP (chT T n) (stP (chT T n) s)).2.1, s, true) else if chT T n (scP (chT T n) (stP (chT T n) s)).2.1 = 47 ∧ s + 1 < 12 then tP (chT T n) m (s + 1) else ((scP (chT T n) (stP (chT T n) s)).2.1, s + 1, false)) := rfl
    rw [eT] at e
    refine st_iload_n (q := 20) dX8_read_19 rfl rfl ?_
    refine st_bipush (q := 22) dX8_read_20 ⟨by decide, by decide⟩ rfl ?_
    refine st_icmp_ge (q := 25) (tgt := 100) dX8_read_22 (by decide) rfl (fun c22 => ?_) (fun c22 => ?_)
    · first | exact absurd c26 (by decide) | (exfalso; omega)
    · refine st_iload_n (q := 26) dX8_read_25 rfl rfl ?_
      refine st_if_eq (q := 29) (tgt := 100) dX8_read_26 (by decide) rfl (fun c26 => ?_) (fun c26 => ?_)
      · first | exact absurd c26 (by decide) | (exfalso; omega)
      · refine st_aload_n (q := 30) dX8_read_29 rfl rfl ?_
        refine st_aload_n (q := 31) dX8_read_30 rfl rfl ?_
        refine st_aload_n (q := 32) dX8_read_31 rfl rfl ?_
        refine st_getR (q := 35) 8 2 dX8_read_32 fl_X8_21 (by decide) (by decide) rfl rfl (by first | exact ysk w hb | exact wfk w rfl) (by first | exact hD' | exact wfR w rfl) ?_
        refine st_iload_n (q := 36) dX8_read_35 rfl rfl ?_
        refine st_aaload (q := 37) (t := 4) dX8_read_36 rfl ⟨by decide, by decide⟩ (by first | exact ysk w hb | exact wfk w rfl) (ysb w hb ⟨by omega, by omega⟩) (ysc w hb (s := s) (by omega)) ?_
        refine iV2i (q := 40) dX8_read_37 rfl ml_X8_42 mv_X8_readScene (Nat.le_of_ble_eq_true rfl) (by first | exact ysk w hb | exact wfk w rfl) ?_
        refine c_X8_readScene w hr x hn (c := 16 + 2 * s + b) (by omega) (yck w hb (by omega)) g4 hp (fun z0 h2 f2 k4 => ?_) (fun z1 h2 f2 k4 kR => ?_)
        · refine st_if_ne (q := 43) (tgt := 48) dX8_read_40 (by decide) rfl (fun z => absurd z (by decide)) (fun _ => ?_)
          have w := f2.wf w
          refine st_aload_n (q := 44) dX8_read_43 rfl rfl ?_
          refine st_getI (q := 47) 8 4 dX8_read_44 fl_X8_27 (by decide) (by decide) rfl rfl (by first | exact ysk w hb | exact wfk w rfl) ?_
          refine rt_i dX8_read_47 rfl ?_
          rw [if_pos z0] at e
          have tk := hP _ (f.tr (f2.up (sC_V hb (by omega)))) (fun z => by exfalso; unfold flP at z; rw [← e] at z; have z : ((scP (chT T n) (stP (chT T n) s)).2.1 : Int) = -9 := z; omega)
          unfold flP at tk
          rw [← e] at tk
          rw [k4]
          exact tk
        · refine st_if_ne (q := 43) (tgt := 48) dX8_read_40 (by decide) rfl (fun _ => ?_) (fun z => absurd z (by decide))
          have f3 : Fr (ScV b) h0 (sI h2 13 3 ((s : Int) + 1)) := (f.tr (f2.up (sC_V hb (by omega)))).sI _ sV_3
          have k4' : hI (sI h2 13 3 ((s : Int) + 1)) 13 4 = ((scP (chT T n) (stP (chT T n) s)).2.1 : Int) := (by rw [sI_k _ (by decide)]; exact k4)
          have w := f3.wf w0
          have hN : ∀ u, u < s + 1 → XM (sI h2 13 3 ((s : Int) + 1)) (16 + 2 * u + b) (scP (chT T n) (stP (chT T n) u)) := (fun u hu => by by_cases zu : u = s; (rw [zu]; exact XM_o kR (by omega)); exact XM_o (XM_f (hM u (by omega)) f2 (by omega) (by omega)) (by omega))
          rw [if_neg (by rw [z1]; decide)] at e
          refine st_aload_n (q := 49) dX8_read_48 rfl rfl ?_
          refine st_iload_n (q := 50) dX8_read_49 rfl rfl ?_
          refine st_iconst (q := 51) dX8_read_50 ⟨by decide, by decide⟩ rfl ?_
          first | refine n_iadd (q := 52) dX8_read_51 rfl ⟨by omega, by omega⟩ ?_ | refine st_iadd (q := 52) dX8_read_51 rfl ?_
          refine st_putI (q := 55) 8 3 dX8_read_52 fl_X8_24 (by decide) (by decide) (Or.inl rfl) rfl (Or.inl rfl) (by first | exact ysk w hb | exact wfk w rfl) ?_
          refine st_aload_n (q := 56) dX8_read_55 rfl rfl ?_
          refine st_getI (q := 59) 8 3 dX8_read_56 fl_X8_24 (by decide) (by decide) rfl rfl (by first | exact ysk w hb | exact wfk w rfl) ?_
          refine j_top ((s : Int) + 1) (by rw [sI_s]) ?_
          refine st_bipush (q := 61) dX8_read_59 ⟨by decide, by decide⟩ rfl ?_
          refine st_icmp_ge (q := 64) (tgt := 78) dX8_read_61 (by decide) rfl (fun c61 => ?_) (fun c61 => ?_)
          · refine st_iconst (q := 79) dX8_read_78 ⟨by decide, by decide⟩ rfl ?_
            refine st_istore_n (q := 80) (i := 2) dX8_read_79 rfl (by decide) rfl ?_
            refine st_iload_n (q := 81) dX8_read_80 rfl rfl ?_
            refine st_if_eq (q := 84) (tgt := 94) dX8_read_81 (by decide) rfl (fun _ => ?_) (fun z => absurd z (by decide))
            first | refine n_iinc (q := 97) dX8_read_94 rfl (by decide) rfl ⟨by omega, by omega⟩ ?_ | refine st_iinc (q := 97) dX8_read_94 rfl (by decide) rfl ?_
            refine st_goto (q := 19) dX8_read_97 (by decide) ?_
            first | exact absurd rfl c81 | exact absurd c81 (by decide) | (rw [if_neg (by omega)] at e; exact hE _ _ (s + 1) (s + 1) (by omega) sb.1 f3 k4' (by rw [sI_s]; omega) e.symm hN) | (rw [if_pos ⟨by omega, by omega⟩] at e; have hl := lt (scP (chT T n) (stP (chT T n) s)).2.1 (by omega); exact ih (s + 1) (by omega) (by omega) _ (f3.sI _ sV_4) (by rw [sI_s]; show _ = (((scP (chT T n) (stP (chT T n) s)).2.1 + 1 : Nat) : Int); omega) (by show (scP (chT T n) (stP (chT T n) s)).2.1 + 1 ≤ n; omega) (fun u hu => XM_o (hN u hu) (by omega)) e)
          · refine st_aload_n (q := 65) dX8_read_64 rfl rfl ?_
            refine st_aload_n (q := 66) dX8_read_65 rfl rfl ?_
            refine iV1i (q := 69) dX8_read_66 rfl ml_X8_46 mv_X8_sign (Nat.le_of_ble_eq_true rfl) (by first | exact ysk w hb | exact wfk w rfl) ?_
            refine c_X8_sign w hr (x0.fV f3) hn k4' (fun v hv => ?_)
            refine st_bipush (q := 71) dX8_read_69 ⟨by decide, by decide⟩ rfl ?_
            refine st_icmp_ne (q := 74) (tgt := 78) dX8_read_71 (by decide) rfl (fun c71 => ?_) (fun c71 => ?_)
            · refine st_iconst (q := 79) dX8_read_78 ⟨by decide, by decide⟩ rfl ?_
              refine st_istore_n (q := 80) (i := 2) dX8_read_79 rfl (by decide) rfl ?_
              refine st_iload_n (q := 81) dX8_read_80 rfl rfl ?_
              refine st_if_eq (q := 84) (tgt := 94) dX8_read_81 (by decide) rfl (fun _ => ?_) (fun z => absurd z (by decide))
              first | refine n_iinc (q := 97) dX8_read_94 rfl (by decide) rfl ⟨by omega, by omega⟩ ?_ | refine st_iinc (q := 97) dX8_read_94 rfl (by decide) rfl ?_
              refine st_goto (q := 19) dX8_read_97 (by decide) ?_
              first | exact absurd rfl c81 | exact absurd c81 (by decide) | (rw [if_neg (by omega)] at e; exact hE _ _ (s + 1) (s + 1) (by omega) sb.1 f3 k4' (by rw [sI_s]; omega) e.symm hN) | (rw [if_pos ⟨by omega, by omega⟩] at e; have hl := lt (scP (chT T n) (stP (chT T n) s)).2.1 (by omega); exact ih (s + 1) (by omega) (by omega) _ (f3.sI _ sV_4) (by rw [sI_s]; show _ = (((scP (chT T n) (stP (chT T n) s)).2.1 + 1 : Nat) : Int); omega) (by show (scP (chT T n) (stP (chT T n) s)).2.1 + 1 ≤ n; omega) (fun u hu => XM_o (hN u hu) (by omega)) e)
            · refine st_iconst (q := 75) dX8_read_74 ⟨by decide, by decide⟩ rfl ?_
              refine st_goto (q := 79) dX8_read_75 (by decide) ?_
              refine st_istore_n (q := 80) (i := 2) dX8_read_79 rfl (by decide) rfl ?_
              refine st_iload_n (q := 81) dX8_read_80 rfl rfl ?_
              refine st_if_eq (q := 84) (tgt := 94) dX8_read_81 (by decide) rfl (fun z => absurd z (by decide)) (fun _ => ?_)
              refine st_aload_n (q := 85) dX8_read_84 rfl rfl ?_
              refine st_dup (q := 86) dX8_read_85 rfl rfl ?_
              refine st_getI (q := 89) 8 4 dX8_read_86 fl_X8_27 (by decide) (by decide) rfl rfl (by first | exact ysk w hb | exact wfk w rfl) ?_
              refine j_top ((scP (chT T n) (stP (chT T n) s)).2.1 : Int) k4' ?_
              refine st_iconst (q := 90) dX8_read_89 ⟨by decide, by decide⟩ rfl ?_
              first | refine n_iadd (q := 91) dX8_read_90 rfl ⟨by omega, by omega⟩ ?_ | refine st_iadd (q := 91) dX8_read_90 rfl ?_
              refine st_putI (q := 94) 8 4 dX8_read_91 fl_X8_27 (by decide) (by decide) (Or.inl rfl) rfl (Or.inl rfl) (by first | exact ysk w hb | exact wfk w rfl) ?_
              first | refine n_iinc (q := 97) dX8_read_94 rfl (by decide) rfl ⟨by omega, by omega⟩ ?_ | refine st_iinc (q := 97) dX8_read_94 rfl (by decide) rfl ?_
              refine st_goto (q := 19) dX8_read_97 (by decide) ?_
              first | exact absurd rfl c81 | exact absurd c81 (by decide) | (rw [if_neg (by omega)] at e; exact hE _ _ (s + 1) (s + 1) (by omega) sb.1 f3 k4' (by rw [sI_s]; omega) e.symm hN) | (rw [if_pos ⟨by omega, by omega⟩] at e; have hl := lt (scP (chT T n) (stP (chT T n) s)).2.1 (by omega); exact ih (s + 1) (by omega) (by omega) _ (f3.sI _ sV_4) (by rw [sI_s]; show _ = (((scP (chT T n) (stP (chT T n) s)).2.1 + 1 : Nat) : Int); omega) (by show (scP (chT T n) (stP (chT T n) s)).2.1 + 1 ≤ n; omega) (fun u hu => XM_o (hN u hu) (by omega)) e)
theorem c_X8_read {d : Nat} {h : JH} {P : Int → JH → Prop} {r n b : Nat} {T : Nat → Int} (w : WF h) (hr : r < 4) (x : TD h r T n) (hn : n ≤ 60) (hb : b ≤ 1) (hD : hR h 13 2 = some (14 + b)) (hP : ∀ h', Fr (ScV b) h h' → (flP (chT T n) n = -9 → hI h' 13 3 = ((tP (chT T n) 12 0).2.1 : Int) ∧ ∀ u, u < (tP (chT T n) 12 0).2.1 → XM h' (16 + 2 * u + b) (scP (chT T n) (stP (chT T n) u))) → P (flP (chT T n) n) h') : JRi (d + 5) jX8_read [vr 13, vr ((109 + 2 * r : Nat))] h P := by
  have bn := blP_n (T := T) (n := n) 60 0 (by omega)
  have f1 : Fr (ScV b) h (sI (sI h 13 4 0) 13 3 0) := (Fr.rf.sI _ sV_4).sI _ sV_3
  have f : Fr (ScV b) h (sI (sI (sI h 13 4 0) 13 3 0) 13 4 (blP (chT T n) 60 0 : Int)) := f1.sI _ sV_4
  refine JRet.of rfl (Nat.le_of_ble_eq_true rfl) ?_
  refine st_aload_n (q := 1) dX8_read_0 rfl rfl ?_
  refine st_iconst (q := 2) dX8_read_1 ⟨by decide, by decide⟩ rfl ?_
  refine st_putI (q := 5) 8 4 dX8_read_2 fl_X8_27 (by decide) (by decide) (Or.inl rfl) rfl (Or.inl rfl) (wfk w rfl) ?_
  refine st_aload_n (q := 6) dX8_read_5 rfl rfl ?_
  refine st_iconst (q := 7) dX8_read_6 ⟨by decide, by decide⟩ rfl ?_
  refine st_putI (q := 10) 8 3 dX8_read_7 fl_X8_24 (by decide) (by decide) (Or.inl rfl) rfl (Or.inl rfl) (wfk w rfl) ?_
  refine st_aload_n (q := 11) dX8_read_10 rfl rfl ?_
  refine st_aload_n (q := 12) dX8_read_11 rfl rfl ?_
  refine iV1v (q := 15) dX8_read_12 rfl ml_X8_38 mv_X8_skipBlanks (Nat.le_of_ble_eq_true rfl) (wfk w rfl) ?_
  refine c_X8_skipBlanks (q := 0) (f1.wf w) hr (x.fV f1) hn (by rw [sI_k _ (by decide), sI_s]; rfl) (by omega) ?_
  refine st_iconst (q := 16) dX8_read_15 ⟨by decide, by decide⟩ rfl ?_
  refine st_istore_n (q := 17) (i := 2) dX8_read_16 rfl (by decide) rfl ?_
  refine st_iconst (q := 18) dX8_read_17 ⟨by decide, by decide⟩ rfl ?_
  refine st_istore_n (q := 19) (i := 3) dX8_read_18 rfl (by decide) rfl ?_
  exact lp_X8_read w hr x hn hb hD hP 12 0 (by omega) (by omega) _ f (by rw [sI_s]; rfl) bn (fun u hu => absurd hu (by omega)) rfl

