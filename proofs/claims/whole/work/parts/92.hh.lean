/-! hands: the class's whole; both -/
theorem scXc_d : ∀ a k, (a = 13 ∧ k = 1) ∨ (16 ≤ a ∧ a ≤ 39) → ¬ ScXc a k := by intro a k z; unfold ScXc; omega
theorem scXc_S : ∀ a k, ScXc a k → rgS a k := by intro a k z; unfold ScXc at z; unfold rgS; omega
theorem scXc_mk {h h' : JH} (k : iMk h) (f : Fr ScXc h h') : iMk h' := k.fr (Fq.rf.fr f (fun _ _ z => z)) (by intro a k z; unfold rgMk at z; unfold ScXc; omega)
theorem lp_fw62 {d : Nat} {h0 : JH} {P : Int → JH → Prop} {y : SY} {b N n : Nat} (w0 : WF h0) (x0 : SX h0 y b) (o : yOk y) (k0m : iMk h0) (hN : N < 256) (en : n = pcN N 8) (hn : n ≤ 6) (hP : ∀ C D h', R3P y (csF N 8) n y.1 C → ChP 3 n n C D → Fr ScXc h0 h' → P (D 0) h') (s : Nat) (hs : s ≤ y.1) : ∀ h' j6, Fr ScXc h0 h' → bdC 3 n (hI h' 43) → R3P y (csF N 8) n s (hI h' 43) → JAt k0 (d + 3) jX1_fewest 62 [vr 41, vr 13, vi N, vi n, vi (3 ^ n : Nat), vi s, j6] [] h' (jqi P) := by
  intro h' j6 f bd r
  have o1 := o.1
  have w := f.wf w0
  have x := x0.fr o f scXc_d
  have km := scXc_mk k0m f
  have x1 := x.2.2.2.1
  have bb := x.1
  have q : 2 ^ pcN N 8 ≤ 64 := show 2 ^ pcN N 8 ≤ 2 ^ 6 from Nat.pow_le_pow_right (by decide) (by omega)
  have lS : ∀ S, pkN S N 8 < 64 := fun S => by have := pkN_lt S N 8; omega
  have lH := lS (yHd y s)
  have lS := lS (ySh y s)
  refine st_iload (q := 64) dX1_fewest_62 rfl rfl ?_
  refine st_aload_n (q := 65) dX1_fewest_64 rfl rfl ?_
  refine st_getI (q := 68) 8 1 dX1_fewest_65 fl_X1_37 (by decide) (by decide) rfl rfl (by first | exact wfk w rfl | exact xsk w x | exact xck w x (by omega)) ?_
  refine j_top ((y.1 : Nat) : Int) x1 ?_
  refine st_icmp_ge (q := 71) (tgt := 120) dX1_fewest_68 (by decide) rfl (fun c68 => ?_) (fun c68 => ?_)
  · refine st_aload_n (q := 121) dX1_fewest_120 rfl rfl ?_
    refine st_iload (q := 123) dX1_fewest_121 rfl rfl ?_
    refine iV1v (q := 126) dX1_fewest_123 rfl ml_X1_45 mv_X1_change (Nat.le_of_ble_eq_true rfl) (by first | exact wfk w rfl | exact xsk w x | exact xck w x (by omega)) ?_
    have es : s = y.1 := (by omega)
    subst es
    refine c_X1_change w hn bd (fun h2 f2 b2 c2 => ?_)
    have w := f2.wf w
    refine st_aload_n (q := 127) dX1_fewest_126 rfl rfl ?_
    refine st_getR (q := 130) 1 1 dX1_fewest_127 fl_X1_15 (by decide) (by decide) rfl rfl (by first | exact wfk w rfl | exact xsk w x | exact xck w x (by omega)) (by first | exact wfR w rfl | exact x.2.1) ?_
    refine st_iconst (q := 131) dX1_fewest_130 ⟨by decide, by decide⟩ rfl ?_
    refine st_iaload (q := 132) dX1_fewest_131 rfl (by first | exact wfk w rfl | exact xsk w x | exact xck w x (by omega)) (wfb w (n := 729) rfl ⟨by decide, by decide⟩) ?_
    refine rt_i dX1_fewest_132 rfl ?_
    exact hP _ _ _ r c2 (f.tr f2)
  · refine st_aload_n (q := 72) dX1_fewest_71 rfl rfl ?_
    refine st_getR (q := 75) 8 0 dX1_fewest_72 fl_X1_41 (by decide) (by decide) rfl rfl (by first | exact wfk w rfl | exact xsk w x | exact xck w x (by omega)) (by first | exact wfR w rfl | exact x.2.1) ?_
    refine st_iload (q := 77) dX1_fewest_75 rfl rfl ?_
    refine st_aaload (q := 78) (t := 4) dX1_fewest_77 rfl ⟨by decide, by decide⟩ (by first | exact wfk w rfl | exact xsk w x | exact xck w x (by omega)) (by first | exact wfb w rfl ⟨by omega, by omega⟩ | exact xsb w x ⟨by omega, by omega⟩) (xsc w x (by omega)) ?_
    refine st_astore (q := 80) dX1_fewest_78 (by decide) rfl ?_
    refine st_aload_n (q := 81) dX1_fewest_80 rfl rfl ?_
    refine st_iload (q := 83) dX1_fewest_81 rfl rfl ?_
    refine iV1v (q := 86) dX1_fewest_83 rfl ml_X1_45 mv_X1_change (Nat.le_of_ble_eq_true rfl) (by first | exact wfk w rfl | exact xsk w x | exact xck w x (by omega)) ?_
    have sy : s < y.1 := (by omega)
    have os := o.2 s sy
    refine c_X1_change w hn bd (fun h2 f2 b2 c2 => ?_)
    have w := f2.wf w
    have x := x.fr o f2 scXc_d
    have km := scXc_mk km f2
    refine st_aload_n (q := 87) dX1_fewest_86 rfl rfl ?_
    refine st_iload (q := 89) dX1_fewest_87 rfl rfl ?_
    refine st_aload (q := 91) dX1_fewest_89 rfl rfl ?_
    refine st_getI (q := 94) 5 1 dX1_fewest_91 fl_X1_49 (by decide) (by decide) rfl rfl (by first | exact wfk w rfl | exact xsk w x | exact xck w x (by omega)) ?_
    refine j_top ((yHd y s : Nat) : Int) (x.2.2.2.2 s sy).2.1 ?_
    refine st_iload_n (q := 95) dX1_fewest_94 rfl rfl ?_
    refine iS2i (q := 98) dX1_fewest_95 rfl ml_X1_54 ms_X1_packed (Nat.le_of_ble_eq_true rfl) ?_
    refine c_X1_packed (by omega) hN ?_
    refine st_bipush (q := 100) dX1_fewest_98 ⟨by decide, by decide⟩ rfl ?_
    refine st_ishl (q := 101) dX1_fewest_100 rfl ?_
    refine j_top ((pkN (yHd y s) N 8 * 64 : Nat) : Int) (ishl_n (k := 6) (by decide) (by omega)) ?_
    refine st_aload (q := 103) dX1_fewest_101 rfl rfl ?_
    refine st_getI (q := 106) 5 0 dX1_fewest_103 fl_X1_58 (by decide) (by decide) rfl rfl (by first | exact wfk w rfl | exact xsk w x | exact xck w x (by omega)) ?_
    refine j_top ((ySh y s : Nat) : Int) (x.2.2.2.2 s sy).1 ?_
    refine st_iload_n (q := 107) dX1_fewest_106 rfl rfl ?_
    refine iS2i (q := 110) dX1_fewest_107 rfl ml_X1_54 ms_X1_packed (Nat.le_of_ble_eq_true rfl) ?_
    refine c_X1_packed (by omega) hN ?_
    refine st_ior (q := 111) dX1_fewest_110 rfl ?_
    refine j_top ((pkN (yHd y s) N 8 * 64 ||| pkN (ySh y s) N 8 : Nat) : Int) (ior_n (by omega) (by omega)) ?_
    refine iV2v (q := 114) dX1_fewest_111 rfl ml_X1_61 mv_X1_keepFitting (Nat.le_of_ble_eq_true rfl) (by first | exact wfk w rfl | exact xsk w x | exact xck w x (by omega)) ?_
    refine c_X1_keepFitting w km en hn b2 (fun h3 f3 b3 p3 => ?_)
    first | refine n_iinc (q := 117) dX1_fewest_114 rfl (by decide) rfl ⟨by omega, by omega⟩ ?_ | refine st_iinc (q := 117) dX1_fewest_114 rfl (by decide) rfl ?_
    refine st_goto (q := 62) dX1_fewest_117 (by decide) ?_
    exact lp_fw62 w0 x0 o k0m hN en hn hP (s + 1) (by omega) _ _ ((f.tr f2).tr f3) b3 ⟨_, _, r, c2, p3⟩
termination_by y.1 - s
theorem lp_fw25 {d : Nat} {h : JH} {Q : Option JV → JH → Prop} {N n : Nat} (hn : n ≤ 6) (hK : ∀ j5 j6, JAt k0 (d + 3) jX1_fewest 43 [vr 41, vr 13, vi N, vi n, vi (3 ^ n : Nat), j5, j6] [] h Q) (i : Nat) (hi : i ≤ n) : ∀ j6, JAt k0 (d + 3) jX1_fewest 25 [vr 41, vr 13, vi N, vi n, vi (3 ^ i : Nat), vi i, j6] [] h Q := by
  intro j6
  have h7 : 3 ^ i ≤ 729 := show 3 ^ i ≤ 3 ^ 6 from Nat.pow_le_pow_right (by decide) (by omega)
  have hp : 0 < 3 ^ i := Nat.pow_pos (by decide)
  refine st_iload (q := 27) dX1_fewest_25 rfl rfl ?_
  refine st_iload_n (q := 28) dX1_fewest_27 rfl rfl ?_
  refine st_icmp_ge (q := 31) (tgt := 43) dX1_fewest_28 (by decide) rfl (fun c28 => ?_) (fun c28 => ?_)
  · have e : i = n := by omega
    subst e
    exact hK _ _
  · refine st_iload (q := 33) dX1_fewest_31 rfl rfl ?_
    refine st_iconst (q := 34) dX1_fewest_33 ⟨by decide, by decide⟩ rfl ?_
    first | refine n_imul (q := 35) dX1_fewest_34 rfl ⟨by omega, by omega⟩ ?_ | refine st_imul (q := 35) dX1_fewest_34 rfl ?_
    refine j_top ((3 ^ (i + 1) : Nat) : Int) (by rw [Nat.pow_succ]; omega) ?_
    refine st_istore (q := 37) dX1_fewest_35 (by decide) rfl ?_
    first | refine n_iinc (q := 40) dX1_fewest_37 rfl (by decide) rfl ⟨by omega, by omega⟩ ?_ | refine st_iinc (q := 40) dX1_fewest_37 rfl (by decide) rfl ?_
    refine st_goto (q := 25) dX1_fewest_40 (by decide) ?_
    exact lp_fw25 hn hK (i + 1) (by omega) _
termination_by n - i
def fwH (h : JH) : JH := sI (wI h 43 (fillF (hI h 43) 0 729 1000000)) 43 0 0
theorem fwH_c (h : JH) {x : Nat} (hx : x < 729) : hI (fwH h) 43 x = if x = 0 then 0 else 1000000 := by
  unfold fwH
  by_cases e : x = 0
  · subst e; rw [sI_s]; rfl
  · rw [sI_k _ e, wI_I, if_pos rfl, fillF_in (by omega), if_neg e]
theorem fwH_f (h : JH) : Fr ScXc h (fwH h) := by
  refine ⟨rfl, rfl, fun a k z => ?_⟩
  unfold ScXc at z
  unfold fwH
  rw [sI_o _ z, wI_ne _ _ z]
theorem c_X1_fewest {d : Nat} {h : JH} {P : Int → JH → Prop} {y : SY} {b : Nat} (w : WF h) (x : SX h y b) (o : yOk y) (km : iMk h) (p1 : 6 < pcN (yNm y y.1) 8 → P (-6) h) (hP : pcN (yNm y y.1) 8 ≤ 6 → ∀ C D h', R3P y (csF (yNm y y.1) 8) (pcN (yNm y y.1) 8) y.1 C → ChP 3 (pcN (yNm y y.1) 8) (pcN (yNm y y.1) 8) C D → Fr ScXc h h' → P (D 0) h') : JRi (d + 3) jX1_fewest [vr 41, vr 13] h P := by
  have hN := yNm_lt o y.1 (Nat.le_refl _)
  have e8 := pcN_8 hN
  generalize eN : yNm y y.1 = N at *
  have go : pcN N 8 ≤ 6 → ∀ j6, JAt k0 (d + 3) jX1_fewest 62 [vr 41, vr 13, vi N, vi (pcN N 8 : Nat), vi (3 ^ pcN N 8 : Nat), vi ((0 : Nat) : Int), j6] [] (fwH h) (jqi P) := by
    intro hn j6
    have h7 : 3 ^ pcN N 8 ≤ 729 := show 3 ^ pcN N 8 ≤ 3 ^ 6 from Nat.pow_le_pow_right (by decide) (by omega)
    have f := fwH_f h
    exact lp_fw62 (h0 := fwH h) (f.wf w) (x.fr o f scXc_d) o (scXc_mk km f) hN rfl hn (fun C D h' r c f' => hP hn C D h' r c (f.tr f')) 0 (Nat.zero_le _) _ _ Fr.rf (fun x hx => by rw [fwH_c h (by omega)]; split <;> omega) (fun g dg => fwH_c h (by have := enc_lt dg; omega))
  have go2 : pcN N 8 ≤ 6 → ∀ j5 j6, JAt k0 (d + 3) jX1_fewest 43 [vr 41, vr 13, vi N, vi (pcN N 8 : Nat), vi (3 ^ pcN N 8 : Nat), j5, j6] [] h (jqi P) := by
    intro hn j5 j6
    have l7 : ln h 43 = 729 := wfl w rfl
    refine st_aload_n (q := 44) dX1_fewest_43 rfl rfl ?_
    refine st_getR (q := 47) 1 1 dX1_fewest_44 fl_X1_15 (by decide) (by decide) rfl rfl (wfk w rfl) (wfR w rfl) ?_
    refine st_ldc (q := 49) (x := 1000000) dX1_fewest_47 ⟨by decide, by decide⟩ co_X1_30 rfl ?_
    refine iS2v (q := 52) dX1_fewest_49 rfl ml_X1_31 ms_J7_fill_53178 (Nat.le_of_ble_eq_true rfl) ?_
    refine c_fillA (wfk w rfl) (by omega) ?_
    rw [l7]
    refine st_aload_n (q := 53) dX1_fewest_52 rfl rfl ?_
    refine st_getR (q := 56) 1 1 dX1_fewest_53 fl_X1_15 (by decide) (by decide) rfl rfl (wfk w rfl) (wfR w rfl) ?_
    refine st_iconst (q := 57) dX1_fewest_56 ⟨by decide, by decide⟩ rfl ?_
    refine st_iconst (q := 58) dX1_fewest_57 ⟨by decide, by decide⟩ rfl ?_
    refine st_iastore (q := 59) dX1_fewest_58 rfl (wfk w rfl) (wfb w (n := 729) rfl ⟨by omega, by omega⟩) ?_
    refine st_iconst (q := 60) dX1_fewest_59 ⟨by decide, by decide⟩ rfl ?_
    refine st_istore (q := 62) dX1_fewest_60 (by decide) rfl ?_
    exact go hn _
  refine JRet.of rfl (Nat.le_of_ble_eq_true rfl) ?_
  refine st_aload_n (q := 1) dX1_fewest_0 rfl rfl ?_
  refine iV0i (q := 4) dX1_fewest_1 rfl ml_X1_18 mv_X8_named (Nat.le_of_ble_eq_true rfl) (wfk w rfl) ?_
  refine c_X8_named w x o ?_
  rw [eN]
  refine st_istore_n (q := 5) (i := 2) dX1_fewest_4 rfl (by decide) rfl ?_
  refine st_iload_n (q := 6) dX1_fewest_5 rfl rfl ?_
  refine iS1i (q := 9) dX1_fewest_6 rfl ml_X1_24 ms_J6_bitCount_0f7a4 (Nat.le_of_ble_eq_true rfl) ?_
  refine c_bitCount (by omega) ?_
  refine j_top ((pcN N 8 : Nat) : Int) (by rw [e8]) ?_
  refine st_istore_n (q := 10) (i := 3) dX1_fewest_9 rfl (by decide) rfl ?_
  refine st_iload_n (q := 11) dX1_fewest_10 rfl rfl ?_
  refine st_bipush (q := 13) dX1_fewest_11 ⟨by decide, by decide⟩ rfl ?_
  refine st_icmp_le (q := 16) (tgt := 19) dX1_fewest_13 (by decide) rfl (fun c13 => ?_) (fun c13 => ?_)
  · refine st_iconst (q := 20) dX1_fewest_19 ⟨by decide, by decide⟩ rfl ?_
    refine st_istore (q := 22) dX1_fewest_20 (by decide) rfl ?_
    refine st_iconst (q := 23) dX1_fewest_22 ⟨by decide, by decide⟩ rfl ?_
    refine st_istore (q := 25) dX1_fewest_23 (by decide) rfl ?_
    exact lp_fw25 (by omega) (go2 (by omega)) 0 (Nat.zero_le _) _
  · refine st_bipush (q := 18) dX1_fewest_16 ⟨by decide, by decide⟩ rfl ?_
    refine rt_i dX1_fewest_18 rfl ?_
    exact p1 (by omega)
theorem pr_hands {d : Nat} {h : JH} (I : Inv h) : Two (d + 4) jX11_hands jX12_hands [] h := by
  have w := I.1
  obtain ⟨y, b, ⟨o, o4⟩, m, x⟩ := I.2.2.2.2.2.1
  have km := I.2.2.2.2.2.2.2.2.2
  have p1 : 6 < pcN (yNm y y.1) 8 → JRi (d + 4) jX12_hands [vr 117] h (fun v' h2 => (-6 : Int) = v' ∧ Inv h2) := fun q => c_X12_hands w m o (fun _ => ⟨rfl, I⟩) (fun z => absurd z (by omega))
  have p2 : pcN (yNm y y.1) 8 ≤ 6 → ∀ C D h', R3P y (csF (yNm y y.1) 8) (pcN (yNm y y.1) 8) y.1 C → ChP 3 (pcN (yNm y y.1) 8) (pcN (yNm y y.1) 8) C D → Fr ScXc h h' → JRi (d + 4) jX12_hands [vr 117] h' (fun v' h2 => D 0 = v' ∧ Inv h2) := fun q C D h1 r c f1 => by
    have F1 : Fq rgS h h1 := Fq.rf.fr f1 scXc_S
    have I1 : Inv h1 := inv_s I F1
    exact c_X12_hands I1.1 (m.fq F1 S_sy) o (fun z => by exfalso; omega) (fun _ C4 D4 h2 r4 c4 f2 => ⟨hands_eq r4 r c4 c, inv_s I1 (Fq.rf.fr f2 scM_S)⟩)
  refine JRet.of rfl (Nat.le_of_ble_eq_true rfl) ?_
  refine st_aload_n (q := 1) dX11_hands_0 rfl rfl ?_
  refine st_getR (q := 4) 11 5 dX11_hands_1 fl_X11_42 (by decide) (by decide) rfl rfl (wfk w rfl) (wfR w rfl) ?_
  refine st_aload_n (q := 5) dX11_hands_4 rfl rfl ?_
  refine st_getR (q := 8) 11 3 dX11_hands_5 fl_X11_28 (by decide) (by decide) rfl rfl (wfk w rfl) (wfR w rfl) ?_
  refine iV1i (q := 11) dX11_hands_8 rfl ml_X11_215 mv_X1_fewest (Nat.le_of_ble_eq_true rfl) (wfk w rfl) ?_
  refine c_X1_fewest w x o km (fun q => ?_) (fun q C D h' r c f => ?_)
  · refine rt_i dX11_hands_11 rfl ?_
    exact p1 q
  · refine rt_i dX11_hands_11 rfl ?_
    exact p2 q C D h' r c f

