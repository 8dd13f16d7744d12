/-! both sides answer alike: best (its end) -/
theorem cS_0 {y : SY} {c : Nat} : cS y 0 0 0 0 c ↔ (c < 2 ^ y.1 ∧ yGood y c = true) := by
  unfold cS bsE yGood
  rw [Nat.pow_zero, Nat.mod_one]
  exact ⟨fun h => ⟨h.1, h.2.2⟩, fun h => ⟨h.1, rfl, h.2⟩⟩
/-- what the reference's search has found among the first N -/
theorem bestF_c (y : SY) : ∀ N, ((bestF y N) = (-9, 0) ∧ ∀ c, c < N → yGood y c = false) ∨ (∃ c, c < N ∧ yGood y c = true ∧ bestF y N = ((c : Int), yLen y c y.1) ∧ ∀ c', c' < N → yGood y c' = true → lxl (bsV y c) (bsV y c'))
  | 0 => Or.inl ⟨rfl, fun c hc => absurd hc (Nat.not_lt_zero c)⟩
  | N + 1 => by
    have e0 : bestF y (N + 1) = if yGood y N = true ∧ ((bestF y N).1 < 0 ∨ yLen y N y.1 < (bestF y N).2) then ((N : Int), yLen y N y.1) else bestF y N := rfl
    rcases bestF_c y N with ⟨h1, h2⟩ | ⟨c, h1, h2, h3, h4⟩
    · cases g : yGood y N
      · left
        rw [e0, if_neg (fun z => by rw [g] at z; cases z.1)]
        refine ⟨h1, fun c hc => ?_⟩
        by_cases e : c = N
        · rw [e]; exact g
        · exact h2 c (by omega)
      · right
        refine ⟨N, by omega, g, ?_, fun c' hc' g' => ?_⟩
        · rw [e0, if_pos ⟨g, Or.inl (by rw [h1]; decide)⟩]
        · by_cases e : c' = N
          · rw [e]; exact lxl.rf _
          · rw [h2 c' (by omega)] at g'; cases g'
    · right
      by_cases z : yGood y N = true ∧ yLen y N y.1 < yLen y c y.1
      · refine ⟨N, by omega, z.1, ?_, fun c' hc' g' => ?_⟩
        · rw [e0, if_pos ⟨z.1, Or.inr (by rw [h3]; exact z.2)⟩]
        · by_cases e : c' = N
          · rw [e]; exact lxl.rf _
          · refine lxl.tr (b := bsV y c) ?_ (h4 c' (by omega) g')
            exact Or.inl (by show (yLen y N y.1 : Int) < (yLen y c y.1 : Int); omega)
      · refine ⟨c, by omega, h2, ?_, fun c' hc' g' => ?_⟩
        · rw [e0, if_neg (fun t => by rw [h3] at t; rcases t.2 with q | q; (have q : (c : Int) < 0 := q; omega); exact z ⟨t.1, q⟩)]
          exact h3
        · by_cases e : c' = N
          · subst e
            have : ¬ yLen y c' y.1 < yLen y c y.1 := fun q => z ⟨g', q⟩
            unfold lxl bsV
            show (yLen y c y.1 : Int) < (yLen y c' y.1 : Int) ∨ ((yLen y c y.1 : Int) = (yLen y c' y.1 : Int) ∧ (c : Int) ≤ (c' : Int))
            omega
          · exact h4 c' (by omega) g'
theorem best_eq {y : SY} (o : yOk y) {L B : Int} (h : Lst (bsV y) (1000000, -9) (L, B) (cS y 0 0 0 0)) : B = (bestF y (2 ^ y.1)).1 ∧ (0 ≤ B → L = (bestF y (2 ^ y.1)).2) ∧ (B = -9 ∨ 0 ≤ B) := by
  rcases bestF_c y (2 ^ y.1) with ⟨h1, h2⟩ | ⟨c, h1, h2, h3, h4⟩
  · rcases h.1 with z | ⟨c, z1, z2⟩
    · cases z
      rw [h1]
      exact ⟨rfl, fun t => absurd t (by decide), Or.inl rfl⟩
    · have := cS_0.mp z1
      rw [h2 c this.1] at this
      cases this.2
  · have hc := h.2.2 c (cS_0.mpr ⟨h1, h2⟩)
    have ll := yLen_le o c y.1 (Nat.le_refl _)
    have o1 := o.1
    rcases h.1 with z | ⟨c', z1, z2⟩
    · cases z
      unfold lxl bsV at hc
      have hc : (1000000 : Int) < (yLen y c y.1 : Int) ∨ ((1000000 : Int) = (yLen y c y.1 : Int) ∧ (-9 : Int) ≤ (c : Int)) := hc
      exfalso; omega
    · have g := cS_0.mp z1
      have e := lxl.eq (a := (L, B)) (b := bsV y c) hc (by rw [z2]; exact h4 c' g.1 g.2)
      have e1 : L = (yLen y c y.1 : Int) := congrArg Prod.fst e
      have e2 : B = (c : Int) := congrArg Prod.snd e
      rw [h3]
      exact ⟨e2, fun _ => e1, Or.inr (by omega)⟩
theorem c_X4_leastCut {d : Nat} {h : JH} {P : Int → JH → Prop} {y : SY} {b : Nat} (w : WF h) (x : SX h y b) (o : yOk y) (hP : ∀ h', Fr ScNw h h' → (0 ≤ (bestF y (2 ^ y.1)).1 → hI h' 40 2 = (bestF y (2 ^ y.1)).2) → P (bestF y (2 ^ y.1)).1 h') : JRi (d + 18) jX4_leastCut [vr 40, vr 13] h P := by
  have o1 := o.1
  have f0 : Fr ScNw h (sI (sI (sI (sI h 40 0 0) 40 1 0) 40 3 (-9)) 40 2 1000000) := (((Fr.rf.sI _ (scNw_i _)).sI _ (scNw_i _)).sI _ (scNw_i _)).sI _ (scNw_i _)
  refine JRet.of rfl (Nat.le_of_ble_eq_true rfl) ?_
  refine st_aload_n (q := 1) dX4_leastCut_0 rfl rfl ?_
  refine iV0v (q := 4) dX4_leastCut_1 rfl ml_X4_55 mv_X4_open (Nat.le_of_ble_eq_true rfl) (wfk w rfl) ?_
  refine c_X4_open w ?_
  refine st_aload_n (q := 5) dX4_leastCut_4 rfl rfl ?_
  refine st_bipush (q := 7) dX4_leastCut_5 ⟨by decide, by decide⟩ rfl ?_
  refine st_putI (q := 10) 4 3 dX4_leastCut_7 fl_X4_21 (by decide) (by decide) (Or.inl rfl) rfl (Or.inl rfl) (wfk w rfl) ?_
  refine st_aload_n (q := 11) dX4_leastCut_10 rfl rfl ?_
  refine st_ldc (q := 13) (x := 1000000) dX4_leastCut_11 ⟨by decide, by decide⟩ co_X4_87 rfl ?_
  refine st_putI (q := 16) 4 2 dX4_leastCut_13 fl_X4_18 (by decide) (by decide) (Or.inl rfl) rfl (Or.inl rfl) (wfk w rfl) ?_
  refine st_aload_n (q := 17) dX4_leastCut_16 rfl rfl ?_
  refine st_aload_n (q := 18) dX4_leastCut_17 rfl rfl ?_
  refine st_iconst (q := 19) dX4_leastCut_18 ⟨by decide, by decide⟩ rfl ?_
  refine st_iconst (q := 20) dX4_leastCut_19 ⟨by decide, by decide⟩ rfl ?_
  refine st_iconst (q := 21) dX4_leastCut_20 ⟨by decide, by decide⟩ rfl ?_
  refine st_iconst (q := 22) dX4_leastCut_21 ⟨by decide, by decide⟩ rfl ?_
  refine iS6v (q := 25) dX4_leastCut_22 rfl ml_X4_88 ms_X4_cutFrom (Nat.le_of_ble_eq_true rfl) ?_
  refine c_X4_cutFrom w x o y.1 (d + 17) 0 0 0 0 0 1000000 (-9) _ _ (by omega) (by omega) f0 (by rw [sI_k _ (by decide), sI_k _ (by decide), sI_k _ (by decide), sI_s]) (by rw [sI_k _ (by decide), sI_k _ (by decide), sI_s]) (by rw [sI_s]) (by rw [sI_k _ (by decide), sI_s]) (by omega) (by omega) (by decide) rfl (fun h2z L2z B2z f2z k2z k3z hLz => ?_)
  have bez := best_eq o hLz
  refine st_aload_n (q := 26) dX4_leastCut_25 rfl rfl ?_
  refine st_getI (q := 29) 4 3 dX4_leastCut_26 fl_X4_21 (by decide) (by decide) rfl rfl (wfk (f2z.wf w) rfl) ?_
  refine rt_i dX4_leastCut_29 rfl ?_
  exact pq (hP _ f2z (fun t => by rw [k2z]; exact bez.2.1 (by rw [bez.1]; exact t))) (by rw [k3z]; exact bez.1.symm) rfl
theorem pr_best {d : Nat} {h : JH} (I : Inv h) : Two (d + 20) jX11_best jX12_best [] h := by
  have w := I.1
  obtain ⟨y, b, ⟨o, o4⟩, m, x⟩ := I.2.2.2.2.2.1
  have bb := bestF_b y o (2 ^ y.1)
  have bz : (bestF y (2 ^ y.1)).1 = -9 ∨ 0 ≤ (bestF y (2 ^ y.1)).1 := by
    rcases bestF_c y (2 ^ y.1) with ⟨h1, _⟩ | ⟨c, _, _, h3, _⟩
    · rw [h1]; exact Or.inl rfl
    · rw [h3]; exact Or.inr (by show (0 : Int) ≤ (c : Int); omega)
  have g1 : ∀ h1, Fr ScNw h h1 → (bestF y (2 ^ y.1)).1 < 0 → JRi (d + 20) jX12_best [vr 117] h1 (fun v' h2 => (bestF y (2 ^ y.1)).1 = v' ∧ Inv h2) := fun h1 f1 z => by
    have F1 : Fq rgS h h1 := Fq.rf.fr f1 scNw_S
    exact c_X12_best (F1.wf w) (SM_nw m f1) o (fun h2 f2 _ => ⟨by omega, inv_s I (F1.fr f2 scM_S)⟩) (fun h2 f2 t => by exfalso; omega)
  have g2 : ∀ h1, Fr ScNw h h1 → 0 ≤ (bestF y (2 ^ y.1)).1 → JRi (d + 20) jX12_best [vr 117] (sI h1 0 11 (bestF y (2 ^ y.1)).2) (fun v' h2 => (bestF y (2 ^ y.1)).1 = v' ∧ Inv h2) := fun h1 f1 z => by
    have F1 : Fq rgS h h1 := Fq.rf.fr f1 scNw_S
    have I1 : Inv h1 := inv_s I F1
    exact c_X12_best (h := sI h1 0 11 (bestF y (2 ^ y.1)).2) I1.1 (SM_x (SM_nw m f1) (by decide)) o (fun h2 f2 t => by exfalso; omega) (fun h2 f2 _ => ⟨rfl, inv_ask2 I1 (Fq.rf.fr f2 scM_S)⟩)
  refine JRet.of rfl (Nat.le_of_ble_eq_true rfl) ?_
  refine st_aload_n (q := 1) dX11_best_0 rfl rfl ?_
  refine st_getR (q := 4) 11 4 dX11_best_1 fl_X11_35 (by decide) (by decide) rfl rfl (wfk w rfl) (wfR w rfl) ?_
  refine st_aload_n (q := 5) dX11_best_4 rfl rfl ?_
  refine st_getR (q := 8) 11 3 dX11_best_5 fl_X11_28 (by decide) (by decide) rfl rfl (wfk w rfl) (wfR w rfl) ?_
  refine iV1i (q := 11) dX11_best_8 rfl ml_X11_269 mv_X4_leastCut (Nat.le_of_ble_eq_true rfl) (wfk w rfl) ?_
  refine c_X4_leastCut (y := y) w x o (fun h1z f1z ebz => ?_)
  have w1z := f1z.wf w
  refine st_istore_n (q := 12) (i := 1) dX11_best_11 rfl (by decide) rfl ?_
  refine st_iload_n (q := 13) dX11_best_12 rfl rfl ?_
  refine st_bipush (q := 15) dX11_best_13 ⟨by decide, by decide⟩ rfl ?_
  refine st_icmp_eq (q := 18) (tgt := 30) dX11_best_15 (by decide) rfl (fun c15 => ?_) (fun c15 => ?_)
  · refine st_iload_n (q := 31) dX11_best_30 rfl rfl ?_
    refine rt_i dX11_best_31 rfl ?_
    first | exact g1 _ f1z (by omega) | exact g2 _ f1z (by omega)
  · refine st_aload_n (q := 19) dX11_best_18 rfl rfl ?_
    refine st_aload_n (q := 20) dX11_best_19 rfl rfl ?_
    refine st_getR (q := 23) 11 4 dX11_best_20 fl_X11_35 (by decide) (by decide) rfl rfl (wfk w1z rfl) (wfR w1z rfl) ?_
    refine st_getI (q := 26) 4 2 dX11_best_23 fl_X11_272 (by decide) (by decide) rfl rfl (wfk w1z rfl) ?_
    refine j_top _ (ebz (by omega)) ?_
    refine iV1i (q := 29) dX11_best_26 rfl ml_X11_106 mv_X11_tell (Nat.le_of_ble_eq_true rfl) (wfk w1z rfl) ?_
    refine c_X11_tell w1z ?_
    refine st_pop (q := 30) dX11_best_29 rfl rfl ?_
    refine st_iload_n (q := 31) dX11_best_30 rfl rfl ?_
    refine rt_i dX11_best_31 rfl ?_
    first | exact g1 _ f1z (by omega) | exact g2 _ f1z (by omega)

