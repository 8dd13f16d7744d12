/-! both sides answer alike: begins, laughter -/
theorem lp_X4_canBegin {d : Nat} {h : JH} {P : Int → JH → Prop} {y : SY} {b c to : Nat} {R : Option (Int × Int)} (w0 : WF h) (x0 : SX h y b) (o : yOk y) (hc : c < 4096) (hto : to < y.1) (hct : c.testBit to = false) (hN : R = none → ∀ h', Fr ScNt h h' → P 0 h') (hS : ∀ fr ti, R = some (fr, ti) → ∀ h', Fr ScNt h h' → hI h' 40 0 = fr → hI h' 40 1 = ti → P 1 h') (s : Nat) (hs : s ≤ to) : ∀ (h' : JH) (fr ti : Int) (j5 : JV), Fr ScNt h h' → hI h' 40 0 = fr → hI h' 40 1 = ti → (0 ≤ fr ∧ fr ≤ 1000 + 200 * s) → (0 ≤ ti ∧ ti ≤ 200 * s) → goS y c to (-9) 0 (13 - s) s fr ti = R → JAt k0 (d + 2) jX4_canBegin 25 [vr 40, vr 13, vi c, vi to, vi s, j5] [] h' (jqi P) := by
  intro h' fr ti j5 f e0 e1 bf bt he
  have w := f.wf w0
  have x := x0.fr o f scNt_d
  have x1 := x.2.2.2.1
  have o1 := o.1
  have b1 := x.1
  have cx := x.2.2.2.2 s (by omega)
  have os := o.2 s (by omega)
  have kx := xck (h := h') (s := s) w x (by omega)
  have b2 := upF_b o (show s < y.1 by omega) (by omega) bf
  have b3 := dnF_b o (show s < y.1 by omega) bt
  have g0 : s < to → goS y c to (-9) 0 (13 - s) s fr ti = if c.testBit s then goS y c to (-9) 0 (13 - (s + 1)) (s + 1) fr ti else if dnF y s ti < upF y s fr then none else goS y c to (-9) 0 (13 - (s + 1)) (s + 1) (upF y s fr + (yLe y s : Nat)) (dnF y s ti + (yMo y s : Nat)) := fun z => by
    rw [show 13 - s = (12 - s) + 1 by omega, goS, if_pos ⟨by omega, by omega⟩, show 13 - (s + 1) = 12 - s by omega, if_neg (show ¬ (s : Int) = -9 by omega), if_neg (show ¬ (s : Int) = -9 by omega), if_pos z, Int.add_zero]
  have g1 : s = to → goS y c to (-9) 0 (13 - s) s fr ti = if dnF y s ti < upF y s fr then none else some (upF y s fr, dnF y s ti) := fun z => by
    rw [show 13 - s = (12 - s) + 1 by omega, goS, if_pos ⟨by omega, by omega⟩, if_neg (show ¬ c.testBit s = true by rw [z, hct]; decide), if_neg (show ¬ s < to by omega)]
    split
    · rfl
    · cases q : 12 - s with
      | zero => rfl
      | succ n => rw [goS, if_neg (by omega)]
  refine st_iload (q := 27) dX4_canBegin_25 rfl rfl ?_
  refine st_iload_n (q := 28) dX4_canBegin_27 rfl rfl ?_
  refine st_icmp_ge (q := 31) (tgt := 80) dX4_canBegin_28 (by decide) rfl (fun c28 => ?_) (fun c28 => ?_)
  · refine st_aload_n (q := 81) dX4_canBegin_80 rfl rfl ?_
    refine st_aload_n (q := 82) dX4_canBegin_81 rfl rfl ?_
    refine st_getR (q := 85) 8 0 dX4_canBegin_82 fl_X4_63 (by decide) (by decide) rfl rfl (by first | exact wfk w rfl | exact xsk (h := h') w x | exact xck (h := h') w x (by omega)) (by first | exact wfR w rfl | exact x.2.1) ?_
    refine st_iload_n (q := 86) dX4_canBegin_85 rfl rfl ?_
    refine st_aaload (q := 87) (t := 4) dX4_canBegin_86 rfl ⟨by decide, by decide⟩ (by first | exact wfk w rfl | exact xsk (h := h') w x | exact xck (h := h') w x (by omega)) (by first | exact wfb w rfl ⟨by omega, by omega⟩ | exact xsb (h := h') w x ⟨by omega, by omega⟩) (xsc (h := h') w x (by omega)) ?_
    refine iV1i (q := 90) dX4_canBegin_87 rfl ml_X4_51 mv_X4_meets (Nat.le_of_ble_eq_true rfl) (by first | exact wfk w rfl | exact xsk (h := h') w x | exact xck (h := h') w x (by omega)) ?_
    have es : s = to := (by omega)
    subst es
    have g2 := g1 rfl
    refine c_X4_meets w kx (by show 16 + 2 * s + b ≠ 40; omega) cx os.2.2.2.2.2.1 e0 e1 (fun h2k f2k u0k u1k => ?_)
    refine rt_z dX4_canBegin_90 rfl (by (repeat' split) <;> omega) ?_
    by_cases zz : dnF y s ti < upF y s fr
    · rw [if_neg (show ¬ upF y s fr ≤ dnF y s ti by omega)]
      exact hN (by rw [← he, g2, if_pos zz]) _ (f.tr f2k)
    · rw [if_pos (show upF y s fr ≤ dnF y s ti by omega)]
      exact hS _ _ (by rw [← he, g2, if_neg zz]) _ (f.tr f2k) u0k u1k
  · refine st_aload_n (q := 32) dX4_canBegin_31 rfl rfl ?_
    refine st_getR (q := 35) 8 0 dX4_canBegin_32 fl_X4_63 (by decide) (by decide) rfl rfl (by first | exact wfk w rfl | exact xsk (h := h') w x | exact xck (h := h') w x (by omega)) (by first | exact wfR w rfl | exact x.2.1) ?_
    refine st_iload (q := 37) dX4_canBegin_35 rfl rfl ?_
    refine st_aaload (q := 38) (t := 4) dX4_canBegin_37 rfl ⟨by decide, by decide⟩ (by first | exact wfk w rfl | exact xsk (h := h') w x | exact xck (h := h') w x (by omega)) (by first | exact wfb w rfl ⟨by omega, by omega⟩ | exact xsb (h := h') w x ⟨by omega, by omega⟩) (xsc (h := h') w x (by omega)) ?_
    refine st_astore (q := 40) dX4_canBegin_38 (by decide) rfl ?_
    have g2 := g0 (by omega)
    refine st_iload_n (q := 41) dX4_canBegin_40 rfl rfl ?_
    refine st_iload (q := 43) dX4_canBegin_41 rfl rfl ?_
    refine st_ishr (q := 44) dX4_canBegin_43 rfl ?_
    refine st_iconst (q := 45) dX4_canBegin_44 ⟨by decide, by decide⟩ rfl ?_
    refine st_iand (q := 46) dX4_canBegin_45 rfl ?_
    refine j_top (if c.testBit s then 1 else 0) (bit_n (by omega) (by omega)) ?_
    refine st_if_ne (q := 49) (tgt := 74) dX4_canBegin_46 (by decide) rfl (fun c46 => ?_) (fun c46 => ?_)
    · first | refine n_iinc (q := 77) dX4_canBegin_74 rfl (by decide) rfl ⟨by omega, by omega⟩ ?_ | refine st_iinc (q := 77) dX4_canBegin_74 rfl (by decide) rfl ?_
      refine st_goto (q := 25) dX4_canBegin_77 (by decide) ?_
      first | (have btk : c.testBit s = true := (by first | exact tb1.mp c46 | (cases z : c.testBit s; (simp [z] at c46); rfl)); rw [if_pos btk] at g2; exact lp_X4_canBegin w0 x0 o hc hto hct hN hS (s + 1) (by omega) _ fr ti _ f e0 e1 (by omega) (by omega) (by rw [← he, g2])) | exact lp_X4_canBegin w0 x0 o hc hto hct hN hS (s + 1) (by omega) _ (upF y s fr + (yLe y s : Nat)) (dnF y s ti + (yMo y s : Nat)) _ (((f.tr f2k).sI _ (scNt_i _)).sI _ (scNt_i _)) (by rw [sI_k _ (by decide), sI_s, u0k]) (by rw [sI_s, u1k]) (by omega) (by omega) (by rw [← he, g2, if_neg (show ¬ dnF y s ti < upF y s fr by omega)])
    · refine st_aload_n (q := 50) dX4_canBegin_49 rfl rfl ?_
      refine st_aload (q := 52) dX4_canBegin_50 rfl rfl ?_
      refine iV1i (q := 55) dX4_canBegin_52 rfl ml_X4_51 mv_X4_meets (Nat.le_of_ble_eq_true rfl) (by first | exact wfk w rfl | exact xsk (h := h') w x | exact xck (h := h') w x (by omega)) ?_
      have btk : c.testBit s = false := (by first | exact tb0.mp c46 | (cases z : c.testBit s; rfl; (simp [z] at c46)))
      rw [if_neg (show ¬ c.testBit s = true by rw [btk]; decide)] at g2
      refine c_X4_meets w kx (by show 16 + 2 * s + b ≠ 40; omega) cx os.2.2.2.2.2.1 e0 e1 (fun h2k f2k u0k u1k => ?_)
      have w2k := f2k.wf w
      have x2k := x.fr o f2k scNt_d
      have cx2k := x2k.2.2.2.2 s (by omega)
      have kx2k := xck (h := h2k) (s := s) w2k x2k (by omega)
      refine st_if_ne (q := 58) (tgt := 60) dX4_canBegin_55 (by decide) rfl (fun c55 => ?_) (fun c55 => ?_)
      · refine st_aload_n (q := 61) dX4_canBegin_60 rfl rfl ?_
        refine st_aload (q := 63) dX4_canBegin_61 rfl rfl ?_
        refine st_getI (q := 66) 5 2 dX4_canBegin_63 fl_X4_74 (by decide) (by decide) rfl rfl (kx2k) ?_
        refine j_top ((yLe y s : Nat) : Int) cx2k.2.2.1 ?_
        refine st_aload (q := 68) dX4_canBegin_66 rfl rfl ?_
        refine st_getI (q := 71) 5 3 dX4_canBegin_68 fl_X4_77 (by decide) (by decide) rfl rfl (kx2k) ?_
        refine j_top ((yMo y s : Nat) : Int) cx2k.2.2.2.1 ?_
        refine iV2v (q := 74) dX4_canBegin_71 rfl ml_X4_80 mv_X4_pass (Nat.le_of_ble_eq_true rfl) (wfk w2k rfl) ?_
        refine c_X4_pass w2k (by omega) (by omega) (by omega) (by omega) ?_
        first | refine n_iinc (q := 77) dX4_canBegin_74 rfl (by decide) rfl ⟨by omega, by omega⟩ ?_ | refine st_iinc (q := 77) dX4_canBegin_74 rfl (by decide) rfl ?_
        refine st_goto (q := 25) dX4_canBegin_77 (by decide) ?_
        first | (have btk : c.testBit s = true := (by first | exact tb1.mp c46 | (cases z : c.testBit s; (simp [z] at c46); rfl)); rw [if_pos btk] at g2; exact lp_X4_canBegin w0 x0 o hc hto hct hN hS (s + 1) (by omega) _ fr ti _ f e0 e1 (by omega) (by omega) (by rw [← he, g2])) | exact lp_X4_canBegin w0 x0 o hc hto hct hN hS (s + 1) (by omega) _ (upF y s fr + (yLe y s : Nat)) (dnF y s ti + (yMo y s : Nat)) _ (((f.tr f2k).sI _ (scNt_i _)).sI _ (scNt_i _)) (by rw [sI_k _ (by decide), sI_s, u0k]) (by rw [sI_s, u1k]) (by omega) (by omega) (by rw [← he, g2, if_neg (show ¬ dnF y s ti < upF y s fr by omega)])
      · refine st_iconst (q := 59) dX4_canBegin_58 ⟨by decide, by decide⟩ rfl ?_
        refine rt_z dX4_canBegin_59 rfl (by (repeat' split) <;> omega) ?_
        exact hN (by rw [← he, g2, if_pos (show dnF y s ti < upF y s fr by omega)]) _ (f.tr f2k)
termination_by to - s
theorem c_X4_canBegin {d : Nat} {h : JH} {P : Int → JH → Prop} {y : SY} {b c to : Nat} (w : WF h) (x : SX h y b) (o : yOk y) (hc : c < 4096) (hto : to < y.1) (hN : (c.testBit to = true ∨ goS y c to (-9) 0 13 0 0 0 = none) → ∀ h', Fr ScNt h h' → P 0 h') (hS : c.testBit to = false → ∀ fr ti, goS y c to (-9) 0 13 0 0 0 = some (fr, ti) → ∀ h', Fr ScNt h h' → hI h' 40 0 = fr → hI h' 40 1 = ti → P 1 h') : JRi (d + 2) jX4_canBegin [vr 40, vr 13, vi c, vi to] h P := by
  have o1 := o.1
  refine JRet.of rfl (Nat.le_of_ble_eq_true rfl) ?_
  refine st_aload_n (q := 1) dX4_canBegin_0 rfl rfl ?_
  refine st_iload_n (q := 2) dX4_canBegin_1 rfl rfl ?_
  refine iV1i (q := 5) dX4_canBegin_2 rfl ml_X4_92 mv_X8_has (Nat.le_of_ble_eq_true rfl) (wfk w rfl) ?_
  refine c_X8_has w x ?_
  refine st_if_eq (q := 8) (tgt := 16) dX4_canBegin_5 (by decide) rfl (fun c5 => ?_) (fun c5 => ?_)
  · refine st_iconst (q := 17) dX4_canBegin_16 ⟨by decide, by decide⟩ rfl ?_
    refine rt_z dX4_canBegin_17 rfl (by (repeat' split) <;> omega) ?_
    first | (exfalso; omega) | exact hN (Or.inl (by first | exact tb1.mp c13 | (cases z : c.testBit to; (simp [z] at c13); rfl))) _ Fr.rf
  · refine st_iload_n (q := 9) dX4_canBegin_8 rfl rfl ?_
    refine st_iload_n (q := 10) dX4_canBegin_9 rfl rfl ?_
    refine st_ishr (q := 11) dX4_canBegin_10 rfl ?_
    refine st_iconst (q := 12) dX4_canBegin_11 ⟨by decide, by decide⟩ rfl ?_
    refine st_iand (q := 13) dX4_canBegin_12 rfl ?_
    refine j_top (if c.testBit to then 1 else 0) (bit_n (by omega) (by omega)) ?_
    refine st_if_eq (q := 16) (tgt := 18) dX4_canBegin_13 (by decide) rfl (fun c13 => ?_) (fun c13 => ?_)
    · refine st_aload_n (q := 19) dX4_canBegin_18 rfl rfl ?_
      refine iV0v (q := 22) dX4_canBegin_19 rfl ml_X4_55 mv_X4_open (Nat.le_of_ble_eq_true rfl) (wfk w rfl) ?_
      refine c_X4_open w ?_
      refine st_iconst (q := 23) dX4_canBegin_22 ⟨by decide, by decide⟩ rfl ?_
      refine st_istore (q := 25) dX4_canBegin_23 (by decide) rfl ?_
      have btk : c.testBit to = false := (by first | exact tb0.mp c13 | (cases z : c.testBit to; rfl; (simp [z] at c13)))
      exact lp_X4_canBegin w x o hc hto btk (fun z => hN (Or.inr z)) (hS btk) 0 (by omega) _ 0 0 _ ((Fr.rf.sI _ (scNt_i _)).sI _ (scNt_i _)) (by rw [sI_k _ (by decide), sI_s]) (by rw [sI_s]) (by omega) (by omega) rfl
    · refine st_iconst (q := 17) dX4_canBegin_16 ⟨by decide, by decide⟩ rfl ?_
      refine rt_z dX4_canBegin_17 rfl (by (repeat' split) <;> omega) ?_
      first | (exfalso; omega) | exact hN (Or.inl (by first | exact tb1.mp c13 | (cases z : c.testBit to; (simp [z] at c13); rfl))) _ Fr.rf
theorem nt_sy : ∀ a k, rgSy a k → ¬ ScNt a k := by intro a k z; simp only [rgSy, ScNt] at z ⊢; omega
theorem SM_nt {h h' : JH} {y : SY} (m : SM h y) (f : Fr ScNt h h') : SM h' y := m.fq (Fq.rf.fr (Sc := ScNt) f (fun _ _ z => z)) nt_sy
theorem pr_begins {d : Nat} {h : JH} {c s : Int} (I : Inv h) : Two (d + 4) jX11_begins jX12_begins [vi c, vi s] h := by
  have w := I.1
  obtain ⟨y, b, ⟨o, o4⟩, m, x⟩ := I.2.2.2.2.2.1
  have p1 := p12 o
  have hX : (¬ ((0 ≤ c ∧ c < (2 ^ y.1 : Nat)) ∧ (0 ≤ s ∧ s < y.1)) → JRi (d + 4) jX12_begins [vr 117, vi c, vi s] h (fun v' h2 => -1 = v' ∧ Inv h2)) → ((0 ≤ c ∧ c < (2 ^ y.1 : Nat)) ∧ (0 ≤ s ∧ s < y.1) → (c.toNat.testBit s.toNat = true ∨ goS y c.toNat s.toNat (-9) 0 13 0 0 0 = none) → ∀ h', Fr ScNt h h' → JRi (d + 4) jX12_begins [vr 117, vi c, vi s] h' (fun v' h2 => -9 = v' ∧ Inv h2)) → ((0 ≤ c ∧ c < (2 ^ y.1 : Nat)) ∧ (0 ≤ s ∧ s < y.1) → c.toNat.testBit s.toNat = false → ∀ fr ti, goS y c.toNat s.toNat (-9) 0 13 0 0 0 = some (fr, ti) → ∀ h', Fr ScNt h h' → JRi (d + 4) jX12_begins [vr 117, vi c, vi s] (sI h' 0 11 ti) (fun v' h2 => fr = v' ∧ Inv h2)) → Two (d + 4) jX11_begins jX12_begins [vi c, vi s] h := by
    intro g1 g2 g3
    generalize hG : 2 ^ y.1 = G at *
    refine JRet.of rfl (Nat.le_of_ble_eq_true rfl) ?_
    refine st_aload_n (q := 1) dX11_begins_0 rfl rfl ?_
    refine st_getR (q := 4) 11 3 dX11_begins_1 fl_X11_28 (by decide) (by decide) rfl rfl (wfk w rfl) (wfR w rfl) ?_
    refine st_iload_n (q := 5) dX11_begins_4 rfl rfl ?_
    refine iV1i (q := 8) dX11_begins_5 rfl ml_X11_262 mv_X8_hasAll (Nat.le_of_ble_eq_true rfl) (wfk w rfl) ?_
    refine c_X8_hasAll w x o ?_
    rw [hG]
    refine st_if_eq (q := 11) (tgt := 22) dX11_begins_8 (by decide) rfl (fun c8 => ?_) (fun c8 => ?_)
    · refine st_iconst (q := 23) dX11_begins_22 ⟨by decide, by decide⟩ rfl ?_
      refine rt_i dX11_begins_23 rfl ?_
      first | exact g1 (by omega) | exact g2 (by omega) zn _ f1z | exact g3 (by omega) zs _ _ ez _ f1z
    · refine st_aload_n (q := 12) dX11_begins_11 rfl rfl ?_
      refine st_getR (q := 15) 11 3 dX11_begins_12 fl_X11_28 (by decide) (by decide) rfl rfl (wfk w rfl) (wfR w rfl) ?_
      refine st_iload_n (q := 16) dX11_begins_15 rfl rfl ?_
      refine iV1i (q := 19) dX11_begins_16 rfl ml_X11_204 mv_X8_has (Nat.le_of_ble_eq_true rfl) (wfk w rfl) ?_
      refine c_X8_has w x ?_
      refine st_if_ne (q := 22) (tgt := 24) dX11_begins_19 (by decide) rfl (fun c19 => ?_) (fun c19 => ?_)
      · refine st_aload_n (q := 25) dX11_begins_24 rfl rfl ?_
        refine st_getR (q := 28) 11 4 dX11_begins_25 fl_X11_35 (by decide) (by decide) rfl rfl (wfk w rfl) (wfR w rfl) ?_
        refine st_aload_n (q := 29) dX11_begins_28 rfl rfl ?_
        refine st_getR (q := 32) 11 3 dX11_begins_29 fl_X11_28 (by decide) (by decide) rfl rfl (wfk w rfl) (wfR w rfl) ?_
        refine st_iload_n (q := 33) dX11_begins_32 rfl rfl ?_
        refine st_iload_n (q := 34) dX11_begins_33 rfl rfl ?_
        refine iV3i (q := 37) dX11_begins_34 rfl ml_X11_275 mv_X4_canBegin (Nat.le_of_ble_eq_true rfl) (wfk w rfl) ?_
        have ec : c = (c.toNat : Int) := by omega
        have es : s = (s.toNat : Int) := by omega
        have gx := fun (Pz : Int → JH → Prop) => c_X4_canBegin (d := d + 1) (P := Pz) (c := c.toNat) (to := s.toNat) w x o (by omega) (by omega)
        rw [← ec, ← es] at gx
        refine gx _ (fun zn h1z f1z => ?_) (fun zs frz tiz ez h1z f1z u0z u1z => ?_)
        · refine st_if_ne (q := 40) (tgt := 43) dX11_begins_37 (by decide) rfl (fun z => absurd z (by decide)) (fun _ => ?_)
          refine st_bipush (q := 42) dX11_begins_40 ⟨by decide, by decide⟩ rfl ?_
          refine rt_i dX11_begins_42 rfl ?_
          first | exact g1 (by omega) | exact g2 (by omega) zn _ f1z | exact g3 (by omega) zs _ _ ez _ f1z
        · refine st_if_ne (q := 40) (tgt := 43) dX11_begins_37 (by decide) rfl (fun _ => ?_) (fun z => absurd z (by decide))
          refine st_aload_n (q := 44) dX11_begins_43 rfl rfl ?_
          refine st_aload_n (q := 45) dX11_begins_44 rfl rfl ?_
          refine st_getR (q := 48) 11 4 dX11_begins_45 fl_X11_35 (by decide) (by decide) rfl rfl (wfk (f1z.wf w) rfl) (wfR (f1z.wf w) rfl) ?_
          refine st_getI (q := 51) 4 1 dX11_begins_48 fl_X11_279 (by decide) (by decide) rfl rfl (wfk (f1z.wf w) rfl) ?_
          refine j_top tiz u1z ?_
          refine iV1i (q := 54) dX11_begins_51 rfl ml_X11_106 mv_X11_tell (Nat.le_of_ble_eq_true rfl) (wfk (f1z.wf w) rfl) ?_
          refine c_X11_tell (f1z.wf w) ?_
          refine st_pop (q := 55) dX11_begins_54 rfl rfl ?_
          refine st_aload_n (q := 56) dX11_begins_55 rfl rfl ?_
          refine st_getR (q := 59) 11 4 dX11_begins_56 fl_X11_35 (by decide) (by decide) rfl rfl (wfk (f1z.wf w) rfl) (wfR (f1z.wf w) rfl) ?_
          refine st_getI (q := 62) 4 0 dX11_begins_59 fl_X11_282 (by decide) (by decide) rfl rfl (wfk (f1z.wf w) rfl) ?_
          refine j_top frz u0z ?_
          refine rt_i dX11_begins_62 rfl ?_
          first | exact g1 (by omega) | exact g2 (by omega) zn _ f1z | exact g3 (by omega) zs _ _ ez _ f1z
      · refine st_iconst (q := 23) dX11_begins_22 ⟨by decide, by decide⟩ rfl ?_
        refine rt_i dX11_begins_23 rfl ?_
        first | exact g1 (by omega) | exact g2 (by omega) zn _ f1z | exact g3 (by omega) zs _ _ ez _ f1z
  refine hX (fun q => ?_) (fun q q1 h1 f1 => ?_) (fun q q1 fr ti e h1 f1 => ?_)
  · exact c_X12_begins w m o (fun _ => ⟨rfl, I⟩) (fun z => absurd z q) (fun z => absurd z q)
  · have F1 : Fq rgS h h1 := Fq.rf.fr f1 scNt_S
    exact c_X12_begins (F1.wf w) (SM_nt m f1) o (fun z => absurd q z) (fun _ _ h2 f2 => ⟨rfl, inv_s I (F1.fr f2 scM_S)⟩) (fun _ z fr ti e => by rcases q1 with t | t; (rw [t] at z; cases z); (rw [t] at e; cases e))
  · have F1 : Fq rgS h h1 := Fq.rf.fr f1 scNt_S
    have I1 : Inv h1 := inv_s I F1
    refine c_X12_begins (h := sI h1 0 11 ti) I1.1 (SM_x (SM_nt m f1) (by decide)) o (fun z => absurd q z) (fun _ z => by rcases z with t | t; (rw [t] at q1; cases q1); (rw [t] at e; cases e)) (fun _ _ fr' ti' e' h2 f2 => ?_)
    rw [e] at e'
    cases e'
    exact ⟨rfl, inv_ask2 I1 (Fq.rf.fr f2 scM_S)⟩
def laX (y : SY) (c : Nat) (s : Int) : Nat → Int
  | 0 => -9
  | m + 1 => if ((ymc y c y.1).2 && (goS y c y.1 s m 13 0 0 0).isSome) = true then (m : Int) else laX y c s m
theorem laX_t {y : SY} {c : Nat} {s : Int} (h : (ymc y c y.1).2 = true) : ∀ m, laX y c s m = lauS y c s m
  | 0 => rfl
  | m + 1 => by
    show (if ((ymc y c y.1).2 && (goS y c y.1 s m 13 0 0 0).isSome) = true then (m : Int) else laX y c s m) = (if (goS y c y.1 s m 13 0 0 0).isSome = true then (m : Int) else lauS y c s m)
    rw [h, laX_t h m, Bool.true_and]
theorem laX_f {y : SY} {c : Nat} {s : Int} (h : (ymc y c y.1).2 = false) : ∀ m, laX y c s m = -9
  | 0 => rfl
  | m + 1 => by
    show (if ((ymc y c y.1).2 && (goS y c y.1 s m 13 0 0 0).isSome) = true then (m : Int) else laX y c s m) = -9
    rw [h, laX_f h m, Bool.false_and]
    rfl
theorem lp_X11_laughter {d : Nat} {h : JH} {P : Int → JH → Prop} {y : SY} {b c s : Nat} (w0 : WF h) (x0 : SX h y b) (o : yOk y) (hc : c < 4096) (hP : ∀ h', Fr ScNt h h' → P (laX y c s 100) h') : ∀ (l : Nat), l ≤ 100 → laX y c s l = laX y c s 100 → ∀ (h' : JH), Fr ScNt h h' → JAt k0 (d + 4) jX11_laughter 35 [vr 0, vi c, vi s, vi ((l : Int) - 1)] [] h' (jqi P) := by
  intro l
  induction l with
  | zero =>
    intro hl he h' f
    have w := f.wf w0
    refine st_iload_n (q := 36) dX11_laughter_35 rfl rfl ?_
    refine st_if_lt (q := 39) (tgt := 64) dX11_laughter_36 (by decide) rfl (fun c36 => ?_) (fun c36 => ?_)
    · refine st_bipush (q := 66) dX11_laughter_64 ⟨by decide, by decide⟩ rfl ?_
      refine rt_i dX11_laughter_66 rfl ?_
      exact pq (hP _ f) (by rw [← he]; rfl) rfl
    · refine st_aload_n (q := 40) dX11_laughter_39 rfl rfl ?_
      refine st_getR (q := 43) 11 4 dX11_laughter_40 fl_X11_35 (by decide) (by decide) rfl rfl (wfk w rfl) (wfR w rfl) ?_
      refine st_aload_n (q := 44) dX11_laughter_43 rfl rfl ?_
      refine st_getR (q := 47) 11 3 dX11_laughter_44 fl_X11_28 (by decide) (by decide) rfl rfl (wfk w rfl) (wfR w rfl) ?_
      refine st_iload_n (q := 48) dX11_laughter_47 rfl rfl ?_
      refine st_iload_n (q := 49) dX11_laughter_48 rfl rfl ?_
      refine st_iload_n (q := 50) dX11_laughter_49 rfl rfl ?_
      refine iV4i (q := 53) dX11_laughter_50 rfl ml_X11_265 mv_X4_isGood (Nat.le_of_ble_eq_true rfl) (wfk w rfl) ?_
      exfalso; omega
  | succ l ih =>
    intro hl he h' f
    have w := f.wf w0
    have x := x0.fr o f scNt_d
    have e0 : laX y c s (l + 1) = if ((ymc y c y.1).2 && (goS y c y.1 s l 13 0 0 0).isSome) = true then (l : Int) else laX y c s l := rfl
    rw [show ((l + 1 : Nat) : Int) - 1 = (l : Int) by omega]
    refine st_iload_n (q := 36) dX11_laughter_35 rfl rfl ?_
    refine st_if_lt (q := 39) (tgt := 64) dX11_laughter_36 (by decide) rfl (fun c36 => ?_) (fun c36 => ?_)
    · refine st_bipush (q := 66) dX11_laughter_64 ⟨by decide, by decide⟩ rfl ?_
      refine rt_i dX11_laughter_66 rfl ?_
      first | (exfalso; omega) | (rw [if_pos (tb1.mp c53)] at e0; exact pq (hP _ (f.tr f2k)) (by rw [← he, e0]) rfl)
    · refine st_aload_n (q := 40) dX11_laughter_39 rfl rfl ?_
      refine st_getR (q := 43) 11 4 dX11_laughter_40 fl_X11_35 (by decide) (by decide) rfl rfl (wfk w rfl) (wfR w rfl) ?_
      refine st_aload_n (q := 44) dX11_laughter_43 rfl rfl ?_
      refine st_getR (q := 47) 11 3 dX11_laughter_44 fl_X11_28 (by decide) (by decide) rfl rfl (wfk w rfl) (wfR w rfl) ?_
      refine st_iload_n (q := 48) dX11_laughter_47 rfl rfl ?_
      refine st_iload_n (q := 49) dX11_laughter_48 rfl rfl ?_
      refine st_iload_n (q := 50) dX11_laughter_49 rfl rfl ?_
      refine iV4i (q := 53) dX11_laughter_50 rfl ml_X11_265 mv_X4_isGood (Nat.le_of_ble_eq_true rfl) (wfk w rfl) ?_
      refine c_X4_isGood w x o hc (by omega) (fun hhk f2k => ?_)
      refine st_if_eq (q := 56) (tgt := 58) dX11_laughter_53 (by decide) rfl (fun c53 => ?_) (fun c53 => ?_)
      · first | refine n_iinc (q := 61) dX11_laughter_58 rfl (by decide) rfl ⟨by omega, by omega⟩ ?_ | refine st_iinc (q := 61) dX11_laughter_58 rfl (by decide) rfl ?_
        refine st_goto (q := 35) dX11_laughter_61 (by decide) ?_
        rw [if_neg (by rw [tb0.mp c53]; decide)] at e0
        exact ih (by omega) (e0.symm.trans he) _ (f.tr f2k)
      · refine st_iload_n (q := 57) dX11_laughter_56 rfl rfl ?_
        refine rt_i dX11_laughter_57 rfl ?_
        first | (exfalso; omega) | (rw [if_pos (tb1.mp c53)] at e0; exact pq (hP _ (f.tr f2k)) (by rw [← he, e0]) rfl)
theorem pr_laughter {d : Nat} {h : JH} {c s : Int} (I : Inv h) : Two (d + 4) jX11_laughter jX12_laughter [vi c, vi s] h := by
  have w := I.1
  obtain ⟨y, b, ⟨o, o4⟩, m, x⟩ := I.2.2.2.2.2.1
  have p1 := p12 o
  have o1 := o.1
  have hX : (¬ ((0 ≤ c ∧ c < (2 ^ y.1 : Nat)) ∧ (0 ≤ s ∧ s < y.1) ∧ c.toNat.testBit s.toNat = false) → JRi (d + 4) jX12_laughter [vr 117, vi c, vi s] h (fun v' h2 => -1 = v' ∧ Inv h2)) → ((0 ≤ c ∧ c < (2 ^ y.1 : Nat)) ∧ (0 ≤ s ∧ s < y.1) ∧ c.toNat.testBit s.toNat = false → ∀ h', Fr ScNt h h' → JRi (d + 4) jX12_laughter [vr 117, vi c, vi s] h' (fun v' h2 => laX y c.toNat s.toNat 100 = v' ∧ Inv h2)) → Two (d + 4) jX11_laughter jX12_laughter [vi c, vi s] h := by
    intro g1 g2
    generalize hG : 2 ^ y.1 = G at *
    refine JRet.of rfl (Nat.le_of_ble_eq_true rfl) ?_
    refine st_aload_n (q := 1) dX11_laughter_0 rfl rfl ?_
    refine st_getR (q := 4) 11 3 dX11_laughter_1 fl_X11_28 (by decide) (by decide) rfl rfl (wfk w rfl) (wfR w rfl) ?_
    refine st_iload_n (q := 5) dX11_laughter_4 rfl rfl ?_
    refine iV1i (q := 8) dX11_laughter_5 rfl ml_X11_262 mv_X8_hasAll (Nat.le_of_ble_eq_true rfl) (wfk w rfl) ?_
    refine c_X8_hasAll w x o ?_
    rw [hG]
    refine st_if_eq (q := 11) (tgt := 30) dX11_laughter_8 (by decide) rfl (fun c8 => ?_) (fun c8 => ?_)
    · refine st_iconst (q := 31) dX11_laughter_30 ⟨by decide, by decide⟩ rfl ?_
      refine rt_i dX11_laughter_31 rfl ?_
      first | exact g1 (by omega) | exact g1 (fun z => by have z2 := z.2.2; simp [z2] at c27)
    · refine st_aload_n (q := 12) dX11_laughter_11 rfl rfl ?_
      refine st_getR (q := 15) 11 3 dX11_laughter_12 fl_X11_28 (by decide) (by decide) rfl rfl (wfk w rfl) (wfR w rfl) ?_
      refine st_iload_n (q := 16) dX11_laughter_15 rfl rfl ?_
      refine iV1i (q := 19) dX11_laughter_16 rfl ml_X11_204 mv_X8_has (Nat.le_of_ble_eq_true rfl) (wfk w rfl) ?_
      refine c_X8_has w x ?_
      refine st_if_eq (q := 22) (tgt := 30) dX11_laughter_19 (by decide) rfl (fun c19 => ?_) (fun c19 => ?_)
      · refine st_iconst (q := 31) dX11_laughter_30 ⟨by decide, by decide⟩ rfl ?_
        refine rt_i dX11_laughter_31 rfl ?_
        first | exact g1 (by omega) | exact g1 (fun z => by have z2 := z.2.2; simp [z2] at c27)
      · refine st_iload_n (q := 23) dX11_laughter_22 rfl rfl ?_
        refine st_iload_n (q := 24) dX11_laughter_23 rfl rfl ?_
        refine st_ishr (q := 25) dX11_laughter_24 rfl ?_
        refine st_iconst (q := 26) dX11_laughter_25 ⟨by decide, by decide⟩ rfl ?_
        refine st_iand (q := 27) dX11_laughter_26 rfl ?_
        refine j_top (if c.toNat.testBit s.toNat then 1 else 0) (by have ec : c = (c.toNat : Int) := (by omega); have es : s = (s.toNat : Int) := (by omega); have := bit_n (a := c.toNat) (k := s.toNat) (by omega) (by omega); rw [← ec, ← es] at this; exact this) ?_
        refine st_if_eq (q := 30) (tgt := 32) dX11_laughter_27 (by decide) rfl (fun c27 => ?_) (fun c27 => ?_)
        · refine st_bipush (q := 34) dX11_laughter_32 ⟨by decide, by decide⟩ rfl ?_
          refine st_istore_n (q := 35) (i := 3) dX11_laughter_34 rfl (by decide) rfl ?_
          have ec : c = (c.toNat : Int) := (by omega)
          have es : s = (s.toNat : Int) := (by omega)
          have btk : c.toNat.testBit s.toNat = false := (by first | exact tb0.mp c27 | (cases z : c.toNat.testBit s.toNat; rfl; (simp [z] at c27)))
          have gx := fun (Pz : Int → JH → Prop) (hPz : ∀ h', Fr ScNt h h' → Pz (laX y c.toNat s.toNat 100) h') => lp_X11_laughter (d := d) (P := Pz) (c := c.toNat) (s := s.toNat) w x o (by omega) hPz 100 (by omega) rfl h Fr.rf
          rw [← ec, ← es] at gx
          refine gx _ (fun h' f => ?_)
          have tq := g2 ⟨by omega, by omega, btk⟩ h' f
          rw [← es] at tq
          exact tq
        · refine st_iconst (q := 31) dX11_laughter_30 ⟨by decide, by decide⟩ rfl ?_
          refine rt_i dX11_laughter_31 rfl ?_
          first | exact g1 (by omega) | exact g1 (fun z => by have z2 := z.2.2; simp [z2] at c27)
  refine hX (fun q => ?_) (fun q h1 f1 => ?_)
  · exact c_X12_laughter w m o (fun _ => ⟨rfl, I⟩) (fun z => absurd z q) (fun z => absurd z q)
  · have F1 : Fq rgS h h1 := Fq.rf.fr f1 scNt_S
    have es : s = (s.toNat : Int) := by omega
    exact c_X12_laughter (F1.wf w) (SM_nt m f1) o (fun z => absurd q z) (fun _ z => ⟨laX_f z 100, inv_s I F1⟩) (fun _ z h2 f2 => ⟨by rw [laX_t z 100, ← es], inv_s I (F1.fr f2 scM_S)⟩)

