/-! the reference: fault, story -/
def syP (C : Nat → Int) : SY := ((tP C 12 0).2.1, fun s => ((scP C (stP C s)).2.2.1, (scP C (stP C s)).2.2.2.1, (scP C (stP C s)).2.2.2.2.1.toNat, (scP C (stP C s)).2.2.2.2.2.1.toNat, (scP C (stP C s)).2.2.2.2.2.2.toNat, -9, -9, 0))
theorem flP_ok {C : Nat → Int} {n : Nat} (e : flP C n = -9) : (tP C 12 0).2.2 = false := by
  unfold flP at e
  cases z : (tP C 12 0).2.2
  · rfl
  · rw [z] at e
    have e : ((tP C 12 0).1 : Int) = -9 := e
    omega
theorem stP_0 {T : Nat → Int} {n : Nat} : stP (chT T n) 0 ≤ n := blP_n (T := T) (n := n) 60 0 (by omega)
theorem syP_b {T : Nat → Int} {n : Nat} (e : flP (chT T n) n = -9) : 1 ≤ (syP (chT T n)).1 ∧ (syP (chT T n)).1 ≤ 12 ∧ ∀ s, s < (syP (chT T n)).1 → (scP (chT T n) (stP (chT T n) s)).1 = true ∧ ((scP (chT T n) (stP (chT T n) s)).2.2.1 < 256 ∧ (scP (chT T n) (stP (chT T n) s)).2.2.2.1 < 256 ∧ (1 ≤ (scP (chT T n) (stP (chT T n) s)).2.2.2.2.1 ∧ (scP (chT T n) (stP (chT T n) s)).2.2.2.2.1 ≤ 99) ∧ ((scP (chT T n) (stP (chT T n) s)).2.2.2.2.1 ≤ (scP (chT T n) (stP (chT T n) s)).2.2.2.2.2.1 ∧ (scP (chT T n) (stP (chT T n) s)).2.2.2.2.2.1 ≤ 99) ∧ (0 ≤ (scP (chT T n) (stP (chT T n) s)).2.2.2.2.2.2 ∧ (scP (chT T n) (stP (chT T n) s)).2.2.2.2.2.2 ≤ 1)) := by
  have t := (tP_ok (T := T) (n := n) 12 0 (by omega) (by omega) stP_0).2 (flP_ok e)
  exact ⟨by have := t.1; show 1 ≤ (tP (chT T n) 12 0).2.1; omega, t.2.1, fun s hs => ⟨(t.2.2 s (by omega) hs).2, (scP_b (T := T) (t.2.2 s (by omega) hs).1).2.2 (t.2.2 s (by omega) hs).2⟩⟩
theorem syP_ok {T : Nat → Int} {n : Nat} (e : flP (chT T n) n = -9) : yOk (syP (chT T n)) ∧ yMk (syP (chT T n)) (syP (chT T n)).1 ≤ 4 := by
  have b := syP_b e
  refine ⟨⟨b.2.1, fun s hs => ?_⟩, ?_⟩
  · have q := (b.2.2 s hs).2
    unfold ySh yHd yLe yMo yKp yMf yMt yNd syP
    dsimp only
    exact ⟨q.1, q.2.1, ⟨by omega, by omega⟩, ⟨by omega, by omega⟩, by omega, Or.inl ⟨rfl, rfl⟩, by omega⟩
  · have : ∀ m, yMk (syP (chT T n)) m = 0 := by
      intro m
      induction m with
      | zero => rfl
      | succ m ih =>
        show yMk (syP (chT T n)) m + (if 0 ≤ yMf (syP (chT T n)) m then 1 else 0) = 0
        rw [ih, if_neg (by show ¬ (0 : Int) ≤ -9; omega)]
    rw [this]; omega
def ScY (a k : Nat) : Prop := ScR a k ∨ (a = 117 ∧ k = 15) ∨ (127 ≤ a ∧ a ≤ 131) ∨ (137 ≤ a ∧ a ≤ 139)
def sm1 (h : JH) (y : SY) (s : Nat) : Prop := hI h 127 s = (ySh y s : Nat) ∧ hI h 128 s = (yHd y s : Nat) ∧ hI h 129 s = (yLe y s : Nat) ∧ hI h 130 s = (yMo y s : Nat) ∧ hI h 131 s = (yKp y s : Nat) ∧ hI h 137 s = yMf y s ∧ hI h 138 s = yMt y s ∧ hI h 139 s = (yNd y s : Nat)
theorem sm1.k {h : JH} {y : SY} {s a k : Nat} {v : Int} (x : sm1 h y s) (z : s ≠ k) : sm1 (sI h a k v) y s := by
  unfold sm1 at *
  rw [sI_k _ z, sI_k _ z, sI_k _ z, sI_k _ z, sI_k _ z, sI_k _ z, sI_k _ z, sI_k _ z]
  exact x
theorem RM_o {h : JH} {s a k : Nat} {v : Int} {r : Bool × Nat × Nat × Nat × Int × Int × Int} (x : RM h s r) (z : ¬ (132 ≤ a ∧ a ≤ 136)) : RM (sI h a k v) s r := by
  unfold RM at *
  rw [sI_o _ (by omega), sI_o _ (by omega), sI_o _ (by omega), sI_o _ (by omega), sI_o _ (by omega)]
  exact x
theorem lp_X12_story {d : Nat} {h0 : JH} {P : Int → JH → Prop} {y : SY} {C : Nat → Int} {t : Int} {j2 : JV} (w0 : WF h0) (ey : y = syP C) (hy : y.1 ≤ 12) (hb : ∀ s, s < y.1 → 0 ≤ (scP C (stP C s)).2.2.2.2.1 ∧ 0 ≤ (scP C (stP C s)).2.2.2.2.2.1 ∧ 0 ≤ (scP C (stP C s)).2.2.2.2.2.2) (hP : ∀ h', Fr ScY h0 h' → SM h' y → P (y.1 : Int) h') (s : Nat) (hs : s ≤ y.1) : ∀ h', Fr ScY h0 h' → hI h' 117 15 = (y.1 : Int) → (∀ u, u < y.1 → RM h' u (scP C (stP C u))) → (∀ u, u < s → sm1 h' y u) → JAt k0 d jX12_story 35 [vr 117, vi t, j2, vi s] [] h' (jqi P) := by
  intro h' f g15 gR gm
  have w := f.wf w0
  have hs2 : s < y.1 → RM h' s (scP C (stP C s)) ∧ (0 ≤ (scP C (stP C s)).2.2.2.2.1 ∧ 0 ≤ (scP C (stP C s)).2.2.2.2.2.1 ∧ 0 ≤ (scP C (stP C s)).2.2.2.2.2.2) := fun z => ⟨gR s z, hb s z⟩
  have ye : ySh y s = (scP C (stP C s)).2.2.1 ∧ yHd y s = (scP C (stP C s)).2.2.2.1 ∧ yLe y s = (scP C (stP C s)).2.2.2.2.1.toNat ∧ yMo y s = (scP C (stP C s)).2.2.2.2.2.1.toNat ∧ yKp y s = (scP C (stP C s)).2.2.2.2.2.2.toNat ∧ yMf y s = -9 ∧ yMt y s = -9 ∧ yNd y s = 0 := by rw [ey]; exact ⟨rfl, rfl, rfl, rfl, rfl, rfl, rfl, rfl⟩
  refine st_iload_n (q := 36) dX12_story_35 rfl rfl ?_
  refine st_aload_n (q := 37) dX12_story_36 rfl rfl ?_
  refine st_getI (q := 40) 12 15 dX12_story_37 fl_X12_215 (by decide) (by decide) rfl rfl (wfk w rfl) ?_
  refine j_top (y.1 : Int) g15 ?_
  refine st_icmp_ge (q := 43) (tgt := 132) dX12_story_40 (by decide) rfl (fun c40 => ?_) (fun c40 => ?_)
  · refine st_aload_n (q := 133) dX12_story_132 rfl rfl ?_
    refine st_getI (q := 136) 12 15 dX12_story_133 fl_X12_215 (by decide) (by decide) rfl rfl (wfk w rfl) ?_
    refine j_top (y.1 : Int) g15 ?_
    refine rt_i dX12_story_136 rfl ?_
    exact hP _ f ⟨g15, fun u hu => gm u (by omega)⟩
  · refine st_aload_n (q := 44) dX12_story_43 rfl rfl ?_
    refine st_getR (q := 47) 12 16 dX12_story_44 fl_X12_48 (by decide) (by decide) rfl rfl (wfk w rfl) (wfR w rfl) ?_
    refine st_iload_n (q := 48) dX12_story_47 rfl rfl ?_
    refine st_aload_n (q := 49) dX12_story_48 rfl rfl ?_
    refine st_getR (q := 52) 12 22 dX12_story_49 fl_X12_63 (by decide) (by decide) rfl rfl (wfk w rfl) (wfR w rfl) ?_
    refine st_iload_n (q := 53) dX12_story_52 rfl rfl ?_
    refine st_iaload (q := 54) dX12_story_53 rfl (wfk w rfl) (wfb w (n := 12) rfl ⟨by omega, by omega⟩) ?_
    refine j_top (ySh y s : Int) (((hs2 (by omega)).1.1).trans (by rw [ye.1])) ?_
    refine st_iastore (q := 55) dX12_story_54 rfl (wfk w rfl) (wfb w (n := 12) rfl ⟨by omega, by omega⟩) ?_
    refine st_aload_n (q := 56) dX12_story_55 rfl rfl ?_
    refine st_getR (q := 59) 12 17 dX12_story_56 fl_X12_51 (by decide) (by decide) rfl rfl (wfk w rfl) (wfR w rfl) ?_
    refine st_iload_n (q := 60) dX12_story_59 rfl rfl ?_
    refine st_aload_n (q := 61) dX12_story_60 rfl rfl ?_
    refine st_getR (q := 64) 12 23 dX12_story_61 fl_X12_66 (by decide) (by decide) rfl rfl (wfk w rfl) (wfR w rfl) ?_
    refine st_iload_n (q := 65) dX12_story_64 rfl rfl ?_
    refine st_iaload (q := 66) dX12_story_65 rfl (wfk w rfl) (wfb w (n := 12) rfl ⟨by omega, by omega⟩) ?_
    refine j_top (yHd y s : Int) (((RM_o (hs2 (by omega)).1 (by omega)).2.1).trans (by rw [ye.2.1])) ?_
    refine st_iastore (q := 67) dX12_story_66 rfl (wfk w rfl) (wfb w (n := 12) rfl ⟨by omega, by omega⟩) ?_
    refine st_aload_n (q := 68) dX12_story_67 rfl rfl ?_
    refine st_getR (q := 71) 12 18 dX12_story_68 fl_X12_54 (by decide) (by decide) rfl rfl (wfk w rfl) (wfR w rfl) ?_
    refine st_iload_n (q := 72) dX12_story_71 rfl rfl ?_
    refine st_aload_n (q := 73) dX12_story_72 rfl rfl ?_
    refine st_getR (q := 76) 12 24 dX12_story_73 fl_X12_69 (by decide) (by decide) rfl rfl (wfk w rfl) (wfR w rfl) ?_
    refine st_iload_n (q := 77) dX12_story_76 rfl rfl ?_
    refine st_iaload (q := 78) dX12_story_77 rfl (wfk w rfl) (wfb w (n := 12) rfl ⟨by omega, by omega⟩) ?_
    refine j_top (yLe y s : Int) (((RM_o (RM_o (hs2 (by omega)).1 (by omega)) (by omega)).2.2.1).trans (by rw [ye.2.2.1]; omega)) ?_
    refine st_iastore (q := 79) dX12_story_78 rfl (wfk w rfl) (wfb w (n := 12) rfl ⟨by omega, by omega⟩) ?_
    refine st_aload_n (q := 80) dX12_story_79 rfl rfl ?_
    refine st_getR (q := 83) 12 19 dX12_story_80 fl_X12_57 (by decide) (by decide) rfl rfl (wfk w rfl) (wfR w rfl) ?_
    refine st_iload_n (q := 84) dX12_story_83 rfl rfl ?_
    refine st_aload_n (q := 85) dX12_story_84 rfl rfl ?_
    refine st_getR (q := 88) 12 25 dX12_story_85 fl_X12_72 (by decide) (by decide) rfl rfl (wfk w rfl) (wfR w rfl) ?_
    refine st_iload_n (q := 89) dX12_story_88 rfl rfl ?_
    refine st_iaload (q := 90) dX12_story_89 rfl (wfk w rfl) (wfb w (n := 12) rfl ⟨by omega, by omega⟩) ?_
    refine j_top (yMo y s : Int) (((RM_o (RM_o (RM_o (hs2 (by omega)).1 (by omega)) (by omega)) (by omega)).2.2.2.1).trans (by rw [ye.2.2.2.1]; omega)) ?_
    refine st_iastore (q := 91) dX12_story_90 rfl (wfk w rfl) (wfb w (n := 12) rfl ⟨by omega, by omega⟩) ?_
    refine st_aload_n (q := 92) dX12_story_91 rfl rfl ?_
    refine st_getR (q := 95) 12 20 dX12_story_92 fl_X12_60 (by decide) (by decide) rfl rfl (wfk w rfl) (wfR w rfl) ?_
    refine st_iload_n (q := 96) dX12_story_95 rfl rfl ?_
    refine st_aload_n (q := 97) dX12_story_96 rfl rfl ?_
    refine st_getR (q := 100) 12 26 dX12_story_97 fl_X12_75 (by decide) (by decide) rfl rfl (wfk w rfl) (wfR w rfl) ?_
    refine st_iload_n (q := 101) dX12_story_100 rfl rfl ?_
    refine st_iaload (q := 102) dX12_story_101 rfl (wfk w rfl) (wfb w (n := 12) rfl ⟨by omega, by omega⟩) ?_
    refine j_top (yKp y s : Int) (((RM_o (RM_o (RM_o (RM_o (hs2 (by omega)).1 (by omega)) (by omega)) (by omega)) (by omega)).2.2.2.2).trans (by rw [ye.2.2.2.2.1]; omega)) ?_
    refine st_iastore (q := 103) dX12_story_102 rfl (wfk w rfl) (wfb w (n := 12) rfl ⟨by omega, by omega⟩) ?_
    refine st_aload_n (q := 104) dX12_story_103 rfl rfl ?_
    refine st_getR (q := 107) 12 29 dX12_story_104 fl_X12_78 (by decide) (by decide) rfl rfl (wfk w rfl) (wfR w rfl) ?_
    refine st_iload_n (q := 108) dX12_story_107 rfl rfl ?_
    refine st_bipush (q := 110) dX12_story_108 ⟨by decide, by decide⟩ rfl ?_
    refine st_iastore (q := 111) dX12_story_110 rfl (wfk w rfl) (wfb w (n := 12) rfl ⟨by omega, by omega⟩) ?_
    refine st_aload_n (q := 112) dX12_story_111 rfl rfl ?_
    refine st_getR (q := 115) 12 30 dX12_story_112 fl_X12_81 (by decide) (by decide) rfl rfl (wfk w rfl) (wfR w rfl) ?_
    refine st_iload_n (q := 116) dX12_story_115 rfl rfl ?_
    refine st_bipush (q := 118) dX12_story_116 ⟨by decide, by decide⟩ rfl ?_
    refine st_iastore (q := 119) dX12_story_118 rfl (wfk w rfl) (wfb w (n := 12) rfl ⟨by omega, by omega⟩) ?_
    refine st_aload_n (q := 120) dX12_story_119 rfl rfl ?_
    refine st_getR (q := 123) 12 31 dX12_story_120 fl_X12_84 (by decide) (by decide) rfl rfl (wfk w rfl) (wfR w rfl) ?_
    refine st_iload_n (q := 124) dX12_story_123 rfl rfl ?_
    refine st_iconst (q := 125) dX12_story_124 ⟨by decide, by decide⟩ rfl ?_
    refine st_iastore (q := 126) dX12_story_125 rfl (wfk w rfl) (wfb w (n := 12) rfl ⟨by omega, by omega⟩) ?_
    first | refine n_iinc (q := 129) dX12_story_126 rfl (by decide) rfl ⟨by omega, by omega⟩ ?_ | refine st_iinc (q := 129) dX12_story_126 rfl (by decide) rfl ?_
    refine st_goto (q := 35) dX12_story_129 (by decide) ?_
    refine lp_X12_story w0 ey hy hb hP (s + 1) (by omega) (sI (sI (sI (sI (sI (sI (sI (sI h' 127 s (ySh y s : Int)) 128 s (yHd y s : Int)) 129 s (yLe y s : Int)) 130 s (yMo y s : Int)) 131 s (yKp y s : Int)) 137 s (-9)) 138 s (-9)) 139 s 0) ((((((((f.sI _ (by unfold ScY; omega)).sI _ (by unfold ScY; omega)).sI _ (by unfold ScY; omega)).sI _ (by unfold ScY; omega)).sI _ (by unfold ScY; omega)).sI _ (by unfold ScY; omega)).sI _ (by unfold ScY; omega)).sI _ (by unfold ScY; omega)) (by rw [sI_o _ (by decide), sI_o _ (by decide), sI_o _ (by decide), sI_o _ (by decide), sI_o _ (by decide), sI_o _ (by decide), sI_o _ (by decide), sI_o _ (by decide)]; exact g15) (fun u hu => (RM_o (RM_o (RM_o (RM_o (RM_o (RM_o (RM_o (RM_o (gR u hu) (by omega)) (by omega)) (by omega)) (by omega)) (by omega)) (by omega)) (by omega)) (by omega))) (fun u hu => ?_)
    by_cases hk : u = s
    · rw [hk]
      exact ⟨by rw [sI_o _ (by decide), sI_o _ (by decide), sI_o _ (by decide), sI_o _ (by decide), sI_o _ (by decide), sI_o _ (by decide), sI_o _ (by decide), sI_s], by rw [sI_o _ (by decide), sI_o _ (by decide), sI_o _ (by decide), sI_o _ (by decide), sI_o _ (by decide), sI_o _ (by decide), sI_s], by rw [sI_o _ (by decide), sI_o _ (by decide), sI_o _ (by decide), sI_o _ (by decide), sI_o _ (by decide), sI_s], by rw [sI_o _ (by decide), sI_o _ (by decide), sI_o _ (by decide), sI_o _ (by decide), sI_s], by rw [sI_o _ (by decide), sI_o _ (by decide), sI_o _ (by decide), sI_s], by rw [sI_o _ (by decide), sI_o _ (by decide), sI_s]; exact ye.2.2.2.2.2.1.symm, by rw [sI_o _ (by decide), sI_s]; exact ye.2.2.2.2.2.2.1.symm, by rw [sI_s]; rw [ye.2.2.2.2.2.2.2]; rfl⟩
    · have hu : u < s := (by omega)
      exact (((((((((gm u hu).k hk).k hk).k hk).k hk).k hk).k hk).k hk).k hk)
termination_by y.1 - s
theorem c_X12_fault {d : Nat} {h : JH} {P : Int → JH → Prop} {r : Int} {n : Nat} {T : Nat → Int} (w : WF h) (x : 0 ≤ r ∧ r ≤ 3 → 0 ≤ hI h 122 r.toNat → TM h r.toNat T n ∧ n ≤ 60) (h1 : ¬ (0 ≤ r ∧ r ≤ 3) → P (-1) h) (h2 : 0 ≤ r ∧ r ≤ 3 → hI h 122 r.toNat < 0 → P (-3) (mtH h 1)) (h3 : 0 ≤ r ∧ r ≤ 3 → 0 ≤ hI h 122 r.toNat → ∀ h', Fr ScR h h' → P (flP (chT T n) n) h') : JRi (d + 4) jX12_fault [vr 117, vi r] h P := by
  refine JRet.of rfl (Nat.le_of_ble_eq_true rfl) ?_
  refine st_aload_n (q := 1) dX12_fault_0 rfl rfl ?_
  refine st_iload_n (q := 2) dX12_fault_1 rfl rfl ?_
  refine iV1i (q := 5) dX12_fault_2 rfl ml_X12_158 mv_X12_askedText (Nat.le_of_ble_eq_true rfl) (wfk w rfl) ?_
  refine c_X12_askedText w (fun a1 => ?_) (fun a1 a2 => ?_) (fun a1 a2 => ?_)
  · refine st_istore_n (q := 6) (i := 2) dX12_fault_5 rfl (by decide) rfl ?_
    refine st_iload_n (q := 7) dX12_fault_6 rfl rfl ?_
    refine st_if_ge (q := 10) (tgt := 14) dX12_fault_7 (by decide) rfl (fun z => absurd z (by decide)) (fun _ => ?_)
    refine st_iload_n (q := 11) dX12_fault_10 rfl rfl ?_
    refine st_goto (q := 19) dX12_fault_11 (by decide) ?_
    refine rt_i dX12_fault_19 rfl ?_
    first | exact h1 a1 | exact h2 a1 a2 | exact k3 _ f
  · refine st_istore_n (q := 6) (i := 2) dX12_fault_5 rfl (by decide) rfl ?_
    refine st_iload_n (q := 7) dX12_fault_6 rfl rfl ?_
    refine st_if_ge (q := 10) (tgt := 14) dX12_fault_7 (by decide) rfl (fun z => absurd z (by decide)) (fun _ => ?_)
    refine st_iload_n (q := 11) dX12_fault_10 rfl rfl ?_
    refine st_goto (q := 19) dX12_fault_11 (by decide) ?_
    refine rt_i dX12_fault_19 rfl ?_
    first | exact h1 a1 | exact h2 a1 a2 | exact k3 _ f
  · refine st_istore_n (q := 6) (i := 2) dX12_fault_5 rfl (by decide) rfl ?_
    refine st_iload_n (q := 7) dX12_fault_6 rfl rfl ?_
    refine st_if_ge (q := 10) (tgt := 14) dX12_fault_7 (by decide) rfl (fun _ => ?_) (fun z => absurd z (by decide))
    have e : r = ((r.toNat : Nat) : Int) := (by omega)
    have xx := x a1 a2
    have k3 := h3 a1 a2
    rw [e]
    refine st_aload_n (q := 15) dX12_fault_14 rfl rfl ?_
    refine st_iload_n (q := 16) dX12_fault_15 rfl rfl ?_
    refine iV1i (q := 19) dX12_fault_16 rfl ml_X12_212 mv_X12_goesOn (Nat.le_of_ble_eq_true rfl) (wfk w rfl) ?_
    refine c_X12_goesOn w xx.1 (by omega) xx.2 (fun h' f g => ?_)
    refine rt_i dX12_fault_19 rfl ?_
    first | exact h1 a1 | exact h2 a1 a2 | exact k3 _ f
theorem c_X12_story {d : Nat} {h : JH} {P : Int → JH → Prop} {r : Int} {n : Nat} {T : Nat → Int} (w : WF h) (x : 0 ≤ r ∧ r ≤ 3 → 0 ≤ hI h 122 r.toNat → TM h r.toNat T n ∧ n ≤ 60) (h1 : ¬ (0 ≤ r ∧ r ≤ 3) → P (-1) h) (h2 : 0 ≤ r ∧ r ≤ 3 → hI h 122 r.toNat < 0 → P (-3) (mtH h 1)) (h3 : 0 ≤ r ∧ r ≤ 3 → 0 ≤ hI h 122 r.toNat → flP (chT T n) n ≠ -9 → ∀ h', Fr ScR h h' → P (-4) h') (h4 : 0 ≤ r ∧ r ≤ 3 → 0 ≤ hI h 122 r.toNat → flP (chT T n) n = -9 → ∀ h', Fr ScY h h' → SM h' (syP (chT T n)) → P ((syP (chT T n)).1 : Int) h') : JRi (d + 4) jX12_story [vr 117, vi r] h P := by
  refine JRet.of rfl (Nat.le_of_ble_eq_true rfl) ?_
  refine st_aload_n (q := 1) dX12_story_0 rfl rfl ?_
  refine st_iload_n (q := 2) dX12_story_1 rfl rfl ?_
  refine iV1i (q := 5) dX12_story_2 rfl ml_X12_158 mv_X12_askedText (Nat.le_of_ble_eq_true rfl) (wfk w rfl) ?_
  refine c_X12_askedText w (fun a1 => ?_) (fun a1 a2 => ?_) (fun a1 a2 => ?_)
  · refine st_istore_n (q := 6) (i := 2) dX12_story_5 rfl (by decide) rfl ?_
    refine st_iload_n (q := 7) dX12_story_6 rfl rfl ?_
    refine st_if_ge (q := 10) (tgt := 12) dX12_story_7 (by decide) rfl (fun z => absurd z (by decide)) (fun _ => ?_)
    refine st_iload_n (q := 11) dX12_story_10 rfl rfl ?_
    refine rt_i dX12_story_11 rfl ?_
    first | exact h1 a1 | exact h2 a1 a2
  · refine st_istore_n (q := 6) (i := 2) dX12_story_5 rfl (by decide) rfl ?_
    refine st_iload_n (q := 7) dX12_story_6 rfl rfl ?_
    refine st_if_ge (q := 10) (tgt := 12) dX12_story_7 (by decide) rfl (fun z => absurd z (by decide)) (fun _ => ?_)
    refine st_iload_n (q := 11) dX12_story_10 rfl rfl ?_
    refine rt_i dX12_story_11 rfl ?_
    first | exact h1 a1 | exact h2 a1 a2
  · refine st_istore_n (q := 6) (i := 2) dX12_story_5 rfl (by decide) rfl ?_
    refine st_iload_n (q := 7) dX12_story_6 rfl rfl ?_
    refine st_if_ge (q := 10) (tgt := 12) dX12_story_7 (by decide) rfl (fun _ => ?_) (fun z => absurd z (by decide))
    have e : r = ((r.toNat : Nat) : Int) := (by omega)
    have xx := x a1 a2
    have k3 := h3 a1 a2
    have k4 := h4 a1 a2
    rw [e]
    refine st_aload_n (q := 13) dX12_story_12 rfl rfl ?_
    refine st_iload_n (q := 14) dX12_story_13 rfl rfl ?_
    refine iV1i (q := 17) dX12_story_14 rfl ml_X12_212 mv_X12_goesOn (Nat.le_of_ble_eq_true rfl) (wfk w rfl) ?_
    refine c_X12_goesOn w xx.1 (by omega) xx.2 (fun h' f g => ?_)
    have w := f.wf w
    refine st_bipush (q := 19) dX12_story_17 ⟨by decide, by decide⟩ rfl ?_
    refine st_icmp_eq (q := 22) (tgt := 25) dX12_story_19 (by decide) rfl (fun c19 => ?_) (fun c19 => ?_)
    · have g2 := g (by omega)
      have sb := syP_b (by omega)
      refine st_aload_n (q := 26) dX12_story_25 rfl rfl ?_
      refine st_aload_n (q := 27) dX12_story_26 rfl rfl ?_
      refine st_getI (q := 30) 12 21 dX12_story_27 fl_X12_200 (by decide) (by decide) rfl rfl (wfk w rfl) ?_
      refine j_top ((syP (chT T n)).1 : Int) g2.1 ?_
      refine st_putI (q := 33) 12 15 dX12_story_30 fl_X12_215 (by decide) (by decide) (Or.inl rfl) rfl (Or.inl rfl) (wfk w rfl) ?_
      refine st_iconst (q := 34) dX12_story_33 ⟨by decide, by decide⟩ rfl ?_
      refine st_istore_n (q := 35) (i := 3) dX12_story_34 rfl (by decide) rfl ?_
      exact lp_X12_story w rfl sb.2.1 (fun s hs => by have := (sb.2.2 s hs).2; omega) (fun h3 f3 m3 => k4 (by omega) _ ((f.up (fun a k z => Or.inl z)).tr f3) m3) 0 (by omega) _ (Fr.rf.sI _ (by unfold ScY; omega)) (by rw [sI_s]) (fun u hu => RM_o (g2.2 u hu) (by omega)) (fun u hu => absurd hu (by omega))
    · refine st_bipush (q := 24) dX12_story_22 ⟨by decide, by decide⟩ rfl ?_
      refine rt_i dX12_story_24 rfl ?_
      exact k3 (by omega) _ f

