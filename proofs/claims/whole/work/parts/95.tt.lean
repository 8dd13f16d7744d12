/-! trunk: the reference's whole -/
def ScTk (a k : Nat) : Prop := ScM a k ∨ a = 119 ∨ a = 120
def RwM (h h' : JH) (r n : Nat) (g : Nat → Nat) : Prop := hI h' 119 r = (n : Int) ∧ (∀ j, j ≠ r → hI h' 119 j = hI h 119 j) ∧ (∀ i, i < n → hI h' 120 (40 * r + i) = ((g i : Nat) : Int)) ∧ (∀ k, (k < 40 * r ∨ 40 * r + 40 ≤ k) → hI h' 120 k = hI h 120 k)
theorem lp_tr126 {d : Nat} {h0 : JH} {P : Int → JH → Prop} {r n : Nat} {best : Int} {g : Nat → Nat} (w0 : WF h0) (hr : r < 6) (hn : n ≤ 8) (mv : MvM h0 n g) (hP : ∀ h', Fr (fun a _ => a = 120) h0 h' → (∀ i, i < n → hI h' 120 (40 * r + i) = ((g i : Nat) : Int)) → (∀ k, (k < 40 * r ∨ 40 * r + 40 ≤ k) → hI h' 120 k = hI h0 120 k) → P best h') (i : Nat) (hi : i ≤ n) : ∀ h' j4 j6, Fr (fun a _ => a = 120) h0 h' → (∀ j, j < i → hI h' 120 (40 * r + j) = ((g j : Nat) : Int)) → (∀ k, (k < 40 * r ∨ 40 * r + 40 ≤ k) → hI h' 120 k = hI h0 120 k) → JAt k0 (d + 3) jX12_trunk 126 [vr 117, vi r, vi n, vi best, j4, vi i, j6] [] h' (jqi P) := by
  intro h' j4 j6 f m k
  have w := f.wf w0
  have oi : i < n → hI h' 121 i = ((g i : Nat) : Int) := fun z => (f.2.2 _ _ (by omega)).trans (mv i z)
  refine st_iload (q := 128) dX12_trunk_126 rfl rfl ?_
  refine st_iload_n (q := 129) dX12_trunk_128 rfl rfl ?_
  refine st_icmp_ge (q := 132) (tgt := 157) dX12_trunk_129 (by decide) rfl (fun c129 => ?_) (fun c129 => ?_)
  · refine st_iload_n (q := 158) dX12_trunk_157 rfl rfl ?_
    refine rt_i dX12_trunk_158 rfl ?_
    exact hP _ f (fun j hj => m j (by omega)) k
  · refine st_aload_n (q := 133) dX12_trunk_132 rfl rfl ?_
    refine st_getR (q := 136) 12 6 dX12_trunk_133 fl_X12_20 (by decide) (by decide) rfl rfl (wfk w rfl) (wfR w rfl) ?_
    refine st_bipush (q := 138) dX12_trunk_136 ⟨by decide, by decide⟩ rfl ?_
    refine st_iload_n (q := 139) dX12_trunk_138 rfl rfl ?_
    first | refine n_imul (q := 140) dX12_trunk_139 rfl ⟨by omega, by omega⟩ ?_ | refine st_imul (q := 140) dX12_trunk_139 rfl ?_
    refine st_iload (q := 142) dX12_trunk_140 rfl rfl ?_
    first | refine n_iadd (q := 143) dX12_trunk_142 rfl ⟨by omega, by omega⟩ ?_ | refine st_iadd (q := 143) dX12_trunk_142 rfl ?_
    refine j_top ((40 * r + i : Nat) : Int) (by omega) ?_
    refine st_aload_n (q := 144) dX12_trunk_143 rfl rfl ?_
    refine st_getR (q := 147) 12 7 dX12_trunk_144 fl_X12_23 (by decide) (by decide) rfl rfl (wfk w rfl) (wfR w rfl) ?_
    refine st_iload (q := 149) dX12_trunk_147 rfl rfl ?_
    refine st_iaload (q := 150) dX12_trunk_149 rfl (wfk w rfl) (wfb w (n := 40) rfl ⟨by omega, by omega⟩) ?_
    refine j_top ((g i : Nat) : Int) (oi (by omega)) ?_
    refine st_iastore (q := 151) dX12_trunk_150 rfl (wfk w rfl) (wfb w (n := 240) rfl ⟨by omega, by omega⟩) ?_
    first | refine n_iinc (q := 154) dX12_trunk_151 rfl (by decide) rfl ⟨by omega, by omega⟩ ?_ | refine st_iinc (q := 154) dX12_trunk_151 rfl (by decide) rfl ?_
    refine st_goto (q := 126) dX12_trunk_154 (by decide) ?_
    exact lp_tr126 w0 hr hn mv hP (i + 1) (by omega) _ _ _ (f.sI _ rfl) (fun j hj => by rw [show (((40 * r + i : Nat) : Int)).toNat = 40 * r + i from rfl]; by_cases e : j = i; (subst e; rw [sI_s]); (rw [sI_k _ (by omega)]; exact m j (by omega))) (fun x hx => by rw [show (((40 * r + i : Nat) : Int)).toNat = 40 * r + i from rfl, sI_k _ (by omega)]; exact k x hx)
termination_by n - i
theorem lp_tr116 {d : Nat} {h0 h1 : JH} {P : Int → JH → Prop} {r n : Nat} {best : Int} {g : Nat → Nat} (w1 : WF h1) (f1 : FrM h0 h1) (hr : r < 6) (hn : n ≤ 8) (mv : MvM h1 n g) (hP : ∀ h', Fr ScTk h0 h' → RwM h0 h' r n g → P best h') : ∀ j4 j5 j6, JAt k0 (d + 3) jX12_trunk 116 [vr 117, vi r, vi n, vi best, j4, j5, j6] [] h1 (jqi P) := by
  intro j4 j5 j6
  have eS : ∀ k, hI h1 119 k = hI h0 119 k := fun k => f1.2.2 _ _ (by unfold ScM; omega)
  have eR : ∀ k, hI h1 120 k = hI h0 120 k := fun k => f1.2.2 _ _ (by unfold ScM; omega)
  have fr : Fr ScTk h1 (rowH h1 r n) := (Fr.rf.sI _ (Or.inr (Or.inl rfl))).tr (wI_fr (fun k => Or.inr (Or.inr rfl)))
  have er : ((r : Int)).toNat = r := rfl
  have rS : ∀ j, hI (rowH h1 r n) 119 j = if j = r then (n : Int) else hI h1 119 j := fun j => by
    unfold rowH
    rw [wI_ne _ _ (by decide), er]
    by_cases z : j = r
    · subst z; rw [sI_s, if_pos rfl]
    · rw [sI_k _ z, if_neg z]
  have rR : ∀ k, (k < 40 * r ∨ 40 * r + 40 ≤ k) → hI (rowH h1 r n) 120 k = hI h1 120 k := fun k hk => by
    unfold rowH
    rw [wI_I, if_pos rfl, er, fillF_out (by omega)]
  have mv2 : MvM (rowH h1 r n) n g := fun i hi => by unfold rowH; rw [wI_ne _ _ (by decide), sI_o _ (by decide)]; exact mv i hi
  have go : ∀ j4 j6, JAt k0 (d + 3) jX12_trunk 126 [vr 117, vi r, vi n, vi best, j4, vi ((0 : Nat) : Int), j6] [] (rowH h1 r n) (jqi P) := fun j4 j6 => lp_tr126 (fr.wf w1) hr hn mv2 (fun h' f' a b => hP h' (((f1.up (fun _ _ z => Or.inl z)).tr fr).tr (f'.up (fun _ _ z => Or.inr (Or.inr z)))) ⟨by rw [f'.2.2 _ _ (by show ¬ (119 = 120); decide), rS, if_pos rfl], fun j hj => by rw [f'.2.2 _ _ (by show ¬ (119 = 120); decide), rS, if_neg hj, eS], a, fun k hk => by rw [b k hk, rR k hk, eR]⟩) 0 (Nat.zero_le _) _ _ _ Fr.rf (fun j hj => absurd hj (by omega)) (fun _ _ => rfl)
  refine st_aload_n (q := 117) dX12_trunk_116 rfl rfl ?_
  refine st_iload_n (q := 118) dX12_trunk_117 rfl rfl ?_
  refine st_iload_n (q := 119) dX12_trunk_118 rfl rfl ?_
  refine iV2i (q := 122) dX12_trunk_119 rfl ml_X12_258 mv_X12_row (Nat.le_of_ble_eq_true rfl) (wfk w1 rfl) ?_
  refine c_X12_row w1 (fun z => by exfalso; omega) (fun _ z => by exfalso; omega) (fun _ _ _ => ?_)
  refine st_pop (q := 123) dX12_trunk_122 rfl rfl ?_
  refine st_iconst (q := 124) dX12_trunk_123 ⟨by decide, by decide⟩ rfl ?_
  refine st_istore (q := 126) dX12_trunk_124 (by decide) rfl ?_
  exact go _ _
theorem lp_tr17 {d : Nat} {h0 : JH} {Q : Option JV → JH → Prop} {y : SY} {N r : Nat} (w0 : WF h0) (m0 : SM h0 y) (o : yOk y) (eN : yNm y y.1 = N) (hN : N < 256) (hK : ∀ h' j5 j6, Fr ScO h0 h' → OdM h' (pcN N 8) (csF N 8) → JAt k0 (d + 3) jX12_trunk 56 [vr 117, vi r, vi (pcN N 8 : Nat), vi 1000000, vi 1, j5, j6] [] h' Q) (k : Nat) (hk : k ≤ 8) : ∀ h' j4 j5 j6, Fr ScO h0 h' → OdM h' (pcN N k) (csF N k) → JAt k0 (d + 3) jX12_trunk 17 [vr 117, vi r, vi (pcN N k : Nat), vi k, j4, j5, j6] [] h' Q := by
  intro h' j4 j5 j6 f c1
  have w := f.wf w0
  have m := m0.fr (scO_M f)
  have l1 := pcN_le N k
  have e0 := pcN_bt N k
  have l2 := bt_b N k
  have ec : csF N (k + 1) = if N.testBit k then fup (csF N k) (pcN N k) k else csF N k := rfl
  refine st_iload_n (q := 18) dX12_trunk_17 rfl rfl ?_
  refine st_bipush (q := 20) dX12_trunk_18 ⟨by decide, by decide⟩ rfl ?_
  refine st_icmp_ge (q := 23) (tgt := 50) dX12_trunk_20 (by decide) rfl (fun c20 => ?_) (fun c20 => ?_)
  · refine st_ldc (q := 52) (x := 1000000) dX12_trunk_50 ⟨by decide, by decide⟩ co_X12_224 rfl ?_
    refine st_istore_n (q := 53) (i := 3) dX12_trunk_52 rfl (by decide) rfl ?_
    refine st_iconst (q := 54) dX12_trunk_53 ⟨by decide, by decide⟩ rfl ?_
    refine st_istore (q := 56) dX12_trunk_54 (by decide) rfl ?_
    have ek : k = 8 := by omega
    subst ek
    exact hK _ _ _ f c1
  · refine st_aload_n (q := 24) dX12_trunk_23 rfl rfl ?_
    refine iV0i (q := 27) dX12_trunk_24 rfl ml_X12_228 mv_X12_named (Nat.le_of_ble_eq_true rfl) (wfk w rfl) ?_
    refine c_X12_named w m o ?_
    rw [eN]
    refine st_iload_n (q := 28) dX12_trunk_27 rfl rfl ?_
    refine iS2i (q := 31) dX12_trunk_28 rfl ml_X12_174 ms_X12_has (Nat.le_of_ble_eq_true rfl) ?_
    refine c_X12_has ?_
    refine j_top ((bt N k : Nat) : Int) (bt_has hN (by omega)) ?_
    refine st_if_eq (q := 34) (tgt := 44) dX12_trunk_31 (by decide) rfl (fun c31 => ?_) (fun c31 => ?_)
    · first | refine n_iinc (q := 47) dX12_trunk_44 rfl (by decide) rfl ⟨by omega, by omega⟩ ?_ | refine st_iinc (q := 47) dX12_trunk_44 rfl (by decide) rfl ?_
      refine st_goto (q := 17) dX12_trunk_47 (by decide) ?_
      have t := lp_tr17 w0 m0 o eN hN hK (k + 1) (by omega)
      first | (have zb : N.testBit k = true := (by by_cases z : N.testBit k = true; exact z; (have := bt_1.mpr z; exfalso; omega)); rw [if_pos zb] at ec; rw [show pcN N (k + 1) = pcN N k + 1 by omega] at t; refine t _ _ _ _ (f.sI _ rfl) (fun i hi => ?_); rw [ec, show (((pcN N k : Nat) : Int)).toNat = pcN N k from rfl]; by_cases e : i = pcN N k; (subst e; rw [sI_s, fup_s]); (rw [sI_k _ e, fup_o _ e]; exact c1 i (by omega))) | (have zb : ¬ N.testBit k = true := bt_1.mp (by omega); rw [if_neg zb] at ec; rw [show pcN N (k + 1) = pcN N k by omega] at t; exact t _ _ _ _ f (fun i hi => by rw [ec]; exact c1 i (by omega)))
    · refine st_aload_n (q := 35) dX12_trunk_34 rfl rfl ?_
      refine st_getR (q := 38) 12 37 dX12_trunk_35 fl_X12_99 (by decide) (by decide) rfl rfl (wfk w rfl) (wfR w rfl) ?_
      refine st_iload_n (q := 39) dX12_trunk_38 rfl rfl ?_
      refine st_iload_n (q := 40) dX12_trunk_39 rfl rfl ?_
      refine st_iastore (q := 41) dX12_trunk_40 rfl (wfk w rfl) (wfb w (n := 8) rfl ⟨by omega, by omega⟩) ?_
      first | refine n_iinc (q := 44) dX12_trunk_41 rfl (by decide) rfl ⟨by omega, by omega⟩ ?_ | refine st_iinc (q := 44) dX12_trunk_41 rfl (by decide) rfl ?_
      first | refine n_iinc (q := 47) dX12_trunk_44 rfl (by decide) rfl ⟨by omega, by omega⟩ ?_ | refine st_iinc (q := 47) dX12_trunk_44 rfl (by decide) rfl ?_
      refine st_goto (q := 17) dX12_trunk_47 (by decide) ?_
      have t := lp_tr17 w0 m0 o eN hN hK (k + 1) (by omega)
      first | (have zb : N.testBit k = true := (by by_cases z : N.testBit k = true; exact z; (have := bt_1.mpr z; exfalso; omega)); rw [if_pos zb] at ec; rw [show pcN N (k + 1) = pcN N k + 1 by omega] at t; refine t _ _ _ _ (f.sI _ rfl) (fun i hi => ?_); rw [ec, show (((pcN N k : Nat) : Int)).toNat = pcN N k from rfl]; by_cases e : i = pcN N k; (subst e; rw [sI_s, fup_s]); (rw [sI_k _ e, fup_o _ e]; exact c1 i (by omega))) | (have zb : ¬ N.testBit k = true := bt_1.mp (by omega); rw [if_neg zb] at ec; rw [show pcN N (k + 1) = pcN N k by omega] at t; exact t _ _ _ _ f (fun i hi => by rw [ec]; exact c1 i (by omega)))
termination_by 8 - k
theorem c_X12_trunk {d : Nat} {h : JH} {P : Int → JH → Prop} {y : SY} {r : Int} (w : WF h) (m : SM h y) (o : yOk y) (h1 : ¬ (0 ≤ r ∧ r ≤ 5) → P (-1) h) (h2 : 0 ≤ r ∧ r ≤ 5 → ∀ (g : Nat → Nat) (best : Int) (h' : JH), IsO (yNm y y.1) (pcN (yNm y y.1) 8) g → best = cst (tks y y.1) (pcN (yNm y y.1) 8) g → (∀ f, IsO (yNm y y.1) (pcN (yNm y y.1) 8) f → best ≤ cst (tks y y.1) (pcN (yNm y y.1) 8) f) → (∀ f, IsO (yNm y y.1) (pcN (yNm y y.1) 8) f → lx (pcN (yNm y y.1) 8) f g → best < cst (tks y y.1) (pcN (yNm y y.1) 8) f) → Fr ScTk h h' → RwM h h' r.toNat (pcN (yNm y y.1) 8) g → P best h') : JRi (d + 3) jX12_trunk [vr 117, vi r] h P := by
  have hN := yNm_lt o y.1 (Nat.le_refl _)
  have hl : (tks y y.1).length ≤ 96 := by have := tks_len y y.1; have := o.1; omega
  have hlN : ∀ x ∈ tks y y.1, (yNm y y.1).testBit x = true := fun x hx => by
    obtain ⟨s, hs1, hs2⟩ := tks_in o _ (Nat.le_refl _) hx
    exact (yNm_tb (y := y) y.1).mpr ⟨s, hs1, hs2⟩
  have hx : ∀ x ∈ tks y y.1, x < 8 := fun x hx => tks_lt y hx
  generalize eN : yNm y y.1 = N at *
  have n8 := pcN_le N 8
  have go : 0 ≤ r ∧ r ≤ 5 → ∀ h1, Fr ScT h h1 → TK h1 (tks y y.1) → ∀ j4 j5 j6, JAt k0 (d + 3) jX12_trunk 17 [vr 117, vi r, vi ((0 : Nat) : Int), vi ((0 : Nat) : Int), j4, j5, j6] [] h1 (jqi P) := by
    intro q h1 f1 t1 j4 j5 j6
    have er : r = ((r.toNat : Nat) : Int) := by omega
    rw [er]
    have w1 := f1.wf w
    refine lp_tr17 w1 (m.fr (scM_T f1)) o eN hN (fun h3 j5 j6 f3 od3 => ?_) 0 (by omega) _ _ _ _ Fr.rf (fun i hi => absurd hi (by show ¬ i < 0; omega))
    have oc := csF_o hN
    have w3 := f3.wf w1
    refine lp_tr56 w3 (t1.fr f3 (by unfold ScO; omega) (fun k => by unfold ScO; omega)) hl hx hlN n8 (fun h4 best j4 j5 j6 f4 fn => ?_) (8 ^ pcN N 8) (csF N 8) 1000000 h3 _ _ (by omega) Fr.rf od3 oc ⟨fun f of z => absurd z (ord_first oc of (csF_ok N 8).2.1), Or.inl rfl⟩ (by decide)
    obtain ⟨g, g1, g2, g3, g4, g5⟩ := fn
    exact lp_tr116 (h0 := h) (f4.wf w3) (((scM_T f1).tr (scO_M f3)).tr (f4.up scSo_M)) (by omega) n8 g2 (fun h' f' rw' => h2 q g best h' g1 g3 g4 g5 f' rw') _ _ _
  refine JRet.of rfl (Nat.le_of_ble_eq_true rfl) ?_
  refine st_iload_n (q := 1) dX12_trunk_0 rfl rfl ?_
  refine iS1i (q := 4) dX12_trunk_1 rfl ml_X12_134 ms_X12_isRow (Nat.le_of_ble_eq_true rfl) ?_
  refine c_X12_isRow ?_
  refine st_if_ne (q := 7) (tgt := 9) dX12_trunk_4 (by decide) rfl (fun c4 => ?_) (fun c4 => ?_)
  · refine st_aload_n (q := 10) dX12_trunk_9 rfl rfl ?_
    refine iV0v (q := 13) dX12_trunk_10 rfl ml_X12_242 mv_X12_setTakes (Nat.le_of_ble_eq_true rfl) (wfk w rfl) ?_
    refine c_X12_setTakes w m o (fun h1z f1z t1z => ?_)
    refine st_iconst (q := 14) dX12_trunk_13 ⟨by decide, by decide⟩ rfl ?_
    refine st_istore_n (q := 15) (i := 2) dX12_trunk_14 rfl (by decide) rfl ?_
    refine st_iconst (q := 16) dX12_trunk_15 ⟨by decide, by decide⟩ rfl ?_
    refine st_istore_n (q := 17) (i := 3) dX12_trunk_16 rfl (by decide) rfl ?_
    exact go (by omega) h1z f1z t1z _ _ _
  · refine st_iconst (q := 8) dX12_trunk_7 ⟨by decide, by decide⟩ rfl ?_
    refine rt_i dX12_trunk_8 rfl ?_
    exact h1 (by omega)

