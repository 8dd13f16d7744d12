/-! the model: best, begins, laughter, tale -/
def yGood (y : SY) (c : Nat) : Bool := (ymc y c y.1).2 && (goS y c y.1 (-9) 0 13 0 0 0).isSome
def bestF (y : SY) : Nat → Int × Nat
  | 0 => (-9, 0)
  | c + 1 => if yGood y c = true ∧ ((bestF y c).1 < 0 ∨ yLen y c y.1 < (bestF y c).2) then ((c : Int), yLen y c y.1) else bestF y c
theorem bestF_b (y : SY) (o : yOk y) : ∀ c, -9 ≤ (bestF y c).1 ∧ (bestF y c).1 ≤ c ∧ (bestF y c).2 ≤ 2000
  | 0 => by simp [bestF]
  | c + 1 => by
    have h1 := bestF_b y o c
    have h2 := yLen_le o c y.1 (Nat.le_refl _)
    have h3 := o.1
    unfold bestF
    split
    · exact ⟨by show -9 ≤ (c : Int); omega, by show (c : Int) ≤ _; omega, by show yLen y c y.1 ≤ 2000; omega⟩
    · exact ⟨h1.1, by omega, h1.2.2⟩
theorem lp_X12_best {d : Nat} {h : JH} {P : Int → JH → Prop} {y : SY} (w0 : WF h) (m0 : SM h y) (o : yOk y) (hN : ∀ h', FrM h h' → (bestF y (2 ^ y.1)).1 < 0 → P (-9) h') (hB : ∀ h', FrM h h' → 0 ≤ (bestF y (2 ^ y.1)).1 → P (bestF y (2 ^ y.1)).1 (sI h' 117 2 (bestF y (2 ^ y.1)).2)) (c : Nat) (hc : c ≤ 2 ^ y.1) : ∀ (h' : JH), FrM h h' → JAt k0 (d + 2) jX12_best 7 [vr 117, vi (bestF y c).1, vi (bestF y c).2, vi c] [] h' (jqi P) := by
  intro h' f
  have w := f.wf w0
  have m := m0.fr f
  have m1 := m.1
  have o1 := o.1
  have p1 : 2 ^ y.1 ≤ 2 ^ 12 := Nat.pow_le_pow_right (by omega) o1
  have b1 := bestF_b y o c
  have e0 : c < 2 ^ y.1 → bestF y (c + 1) = if yGood y c = true ∧ ((bestF y c).1 < 0 ∨ yLen y c y.1 < (bestF y c).2) then ((c : Int), yLen y c y.1) else bestF y c := fun _ => rfl
  refine st_iload_n (q := 8) dX12_best_7 rfl rfl ?_
  refine st_iconst (q := 9) dX12_best_8 ⟨by decide, by decide⟩ rfl ?_
  refine st_aload_n (q := 10) dX12_best_9 rfl rfl ?_
  refine st_getI (q := 13) 12 15 dX12_best_10 fl_X12_215 (by decide) (by decide) rfl rfl (wfk w rfl) ?_
  refine st_ishl (q := 14) dX12_best_13 rfl ?_
  rw [m1, show (1 : Int) = ((1 : Nat) : Int) from rfl, ishl_n (by omega) (by rw [Nat.one_mul]; exact p31 (by omega)), Nat.one_mul]
  refine st_icmp_ge (q := 17) (tgt := 67) dX12_best_14 (by decide) rfl (fun c14 => ?_) (fun c14 => ?_)
  · refine st_iload_n (q := 68) dX12_best_67 rfl rfl ?_
    refine st_if_ge (q := 71) (tgt := 76) dX12_best_68 (by decide) rfl (fun c68 => ?_) (fun c68 => ?_)
    · refine st_aload_n (q := 77) dX12_best_76 rfl rfl ?_
      refine st_iload_n (q := 78) dX12_best_77 rfl rfl ?_
      refine st_iload_n (q := 79) dX12_best_78 rfl rfl ?_
      refine iV2i (q := 82) dX12_best_79 rfl ml_X12_152 mv_X12_ask (Nat.le_of_ble_eq_true rfl) (wfk w rfl) ?_
      refine c_X12_ask w ?_
      refine rt_i dX12_best_82 rfl ?_
      have ec : c = 2 ^ y.1 := by omega
      subst ec
      first | exact hN _ f (by omega) | exact hB _ f (by omega)
    · refine st_bipush (q := 73) dX12_best_71 ⟨by decide, by decide⟩ rfl ?_
      refine st_goto (q := 82) dX12_best_73 (by decide) ?_
      refine rt_i dX12_best_82 rfl ?_
      have ec : c = 2 ^ y.1 := by omega
      subst ec
      first | exact hN _ f (by omega) | exact hB _ f (by omega)
  · refine st_aload_n (q := 18) dX12_best_17 rfl rfl ?_
    refine st_iload_n (q := 19) dX12_best_18 rfl rfl ?_
    refine iV1i (q := 22) dX12_best_19 rfl ml_X12_273 mv_X12_mayCut (Nat.le_of_ble_eq_true rfl) (wfk w rfl) ?_
    refine c_X12_mayCut w m o (by omega) ?_
    refine st_if_eq (q := 25) (tgt := 61) dX12_best_22 (by decide) rfl (fun c22 => ?_) (fun c22 => ?_)
    · first | refine n_iinc (q := 64) dX12_best_61 rfl (by decide) rfl ⟨by omega, by omega⟩ ?_ | refine st_iinc (q := 64) dX12_best_61 rfl (by decide) rfl ?_
      refine st_goto (q := 7) dX12_best_64 (by decide) ?_
      have hlt : c < 2 ^ y.1 := by omega
      have e := e0 hlt
      first | (have g1 := tb0.mp c22; have gg : ¬ yGood y c = true := (by simp [yGood, g1]); rw [if_neg (fun z => gg z.1)] at e; have := lp_X12_best (d := d) w0 m0 o hN hB (c + 1) (by omega) _ f; rw [e] at this; exact this) | (have g2 := tb0.mp c37; have gg : ¬ yGood y c = true := (by simp [yGood, g2]); rw [if_neg (fun z => gg z.1)] at e; have := lp_X12_best (d := d) w0 m0 o hN hB (c + 1) (by omega) _ fa; rw [e] at this; exact this) | (have gg : yGood y c = true := (by unfold yGood; rw [tb1.mp c22, tb1.mp c37]; rfl); rw [if_pos ⟨gg, by omega⟩] at e; have := lp_X12_best (d := d) w0 m0 o hN hB (c + 1) (by omega) _ fa; rw [e] at this; exact this) | (rw [if_neg (fun z => by have := z.2; omega)] at e; have := lp_X12_best (d := d) w0 m0 o hN hB (c + 1) (by omega) _ fa; rw [e] at this; exact this)
    · refine st_aload_n (q := 26) dX12_best_25 rfl rfl ?_
      refine st_iload_n (q := 27) dX12_best_26 rfl rfl ?_
      refine st_aload_n (q := 28) dX12_best_27 rfl rfl ?_
      refine st_getI (q := 31) 12 15 dX12_best_28 fl_X12_215 (by decide) (by decide) rfl rfl (wfk w rfl) ?_
      refine st_bipush (q := 33) dX12_best_31 ⟨by decide, by decide⟩ rfl ?_
      refine st_iconst (q := 34) dX12_best_33 ⟨by decide, by decide⟩ rfl ?_
      refine iV4i (q := 37) dX12_best_34 rfl ml_X12_276 mv_X12_goes (Nat.le_of_ble_eq_true rfl) (wfk w rfl) ?_
      rw [m1]
      refine c_X12_goes w m o (by omega) o1 (by omega) (fun hh f2 hf2 => ?_)
      have w2 := f2.wf w
      have m2 := m.fr f2
      have fa := f.tr f2
      refine st_if_eq (q := 40) (tgt := 61) dX12_best_37 (by decide) rfl (fun c37 => ?_) (fun c37 => ?_)
      · first | refine n_iinc (q := 64) dX12_best_61 rfl (by decide) rfl ⟨by omega, by omega⟩ ?_ | refine st_iinc (q := 64) dX12_best_61 rfl (by decide) rfl ?_
        refine st_goto (q := 7) dX12_best_64 (by decide) ?_
        have hlt : c < 2 ^ y.1 := by omega
        have e := e0 hlt
        first | (have g1 := tb0.mp c22; have gg : ¬ yGood y c = true := (by simp [yGood, g1]); rw [if_neg (fun z => gg z.1)] at e; have := lp_X12_best (d := d) w0 m0 o hN hB (c + 1) (by omega) _ f; rw [e] at this; exact this) | (have g2 := tb0.mp c37; have gg : ¬ yGood y c = true := (by simp [yGood, g2]); rw [if_neg (fun z => gg z.1)] at e; have := lp_X12_best (d := d) w0 m0 o hN hB (c + 1) (by omega) _ fa; rw [e] at this; exact this) | (have gg : yGood y c = true := (by unfold yGood; rw [tb1.mp c22, tb1.mp c37]; rfl); rw [if_pos ⟨gg, by omega⟩] at e; have := lp_X12_best (d := d) w0 m0 o hN hB (c + 1) (by omega) _ fa; rw [e] at this; exact this) | (rw [if_neg (fun z => by have := z.2; omega)] at e; have := lp_X12_best (d := d) w0 m0 o hN hB (c + 1) (by omega) _ fa; rw [e] at this; exact this)
      · refine st_iload_n (q := 41) dX12_best_40 rfl rfl ?_
        refine st_if_lt (q := 44) (tgt := 53) dX12_best_41 (by decide) rfl (fun c41 => ?_) (fun c41 => ?_)
        · refine st_iload_n (q := 54) dX12_best_53 rfl rfl ?_
          refine st_istore_n (q := 55) (i := 1) dX12_best_54 rfl (by decide) rfl ?_
          refine st_aload_n (q := 56) dX12_best_55 rfl rfl ?_
          refine st_iload_n (q := 57) dX12_best_56 rfl rfl ?_
          refine iV1i (q := 60) dX12_best_57 rfl ml_X12_280 mv_X12_lengthOf (Nat.le_of_ble_eq_true rfl) (wfk w2 rfl) ?_
          refine c_X12_lengthOf w2 m2 o (by omega) ?_
          refine st_istore_n (q := 61) (i := 2) dX12_best_60 rfl (by decide) rfl ?_
          first | refine n_iinc (q := 64) dX12_best_61 rfl (by decide) rfl ⟨by omega, by omega⟩ ?_ | refine st_iinc (q := 64) dX12_best_61 rfl (by decide) rfl ?_
          refine st_goto (q := 7) dX12_best_64 (by decide) ?_
          have hlt : c < 2 ^ y.1 := by omega
          have e := e0 hlt
          first | (have g1 := tb0.mp c22; have gg : ¬ yGood y c = true := (by simp [yGood, g1]); rw [if_neg (fun z => gg z.1)] at e; have := lp_X12_best (d := d) w0 m0 o hN hB (c + 1) (by omega) _ f; rw [e] at this; exact this) | (have g2 := tb0.mp c37; have gg : ¬ yGood y c = true := (by simp [yGood, g2]); rw [if_neg (fun z => gg z.1)] at e; have := lp_X12_best (d := d) w0 m0 o hN hB (c + 1) (by omega) _ fa; rw [e] at this; exact this) | (have gg : yGood y c = true := (by unfold yGood; rw [tb1.mp c22, tb1.mp c37]; rfl); rw [if_pos ⟨gg, by omega⟩] at e; have := lp_X12_best (d := d) w0 m0 o hN hB (c + 1) (by omega) _ fa; rw [e] at this; exact this) | (rw [if_neg (fun z => by have := z.2; omega)] at e; have := lp_X12_best (d := d) w0 m0 o hN hB (c + 1) (by omega) _ fa; rw [e] at this; exact this)
        · refine st_aload_n (q := 45) dX12_best_44 rfl rfl ?_
          refine st_iload_n (q := 46) dX12_best_45 rfl rfl ?_
          refine iV1i (q := 49) dX12_best_46 rfl ml_X12_280 mv_X12_lengthOf (Nat.le_of_ble_eq_true rfl) (wfk w2 rfl) ?_
          refine c_X12_lengthOf w2 m2 o (by omega) ?_
          refine st_iload_n (q := 50) dX12_best_49 rfl rfl ?_
          refine st_icmp_ge (q := 53) (tgt := 61) dX12_best_50 (by decide) rfl (fun c50 => ?_) (fun c50 => ?_)
          · first | refine n_iinc (q := 64) dX12_best_61 rfl (by decide) rfl ⟨by omega, by omega⟩ ?_ | refine st_iinc (q := 64) dX12_best_61 rfl (by decide) rfl ?_
            refine st_goto (q := 7) dX12_best_64 (by decide) ?_
            have hlt : c < 2 ^ y.1 := by omega
            have e := e0 hlt
            first | (have g1 := tb0.mp c22; have gg : ¬ yGood y c = true := (by simp [yGood, g1]); rw [if_neg (fun z => gg z.1)] at e; have := lp_X12_best (d := d) w0 m0 o hN hB (c + 1) (by omega) _ f; rw [e] at this; exact this) | (have g2 := tb0.mp c37; have gg : ¬ yGood y c = true := (by simp [yGood, g2]); rw [if_neg (fun z => gg z.1)] at e; have := lp_X12_best (d := d) w0 m0 o hN hB (c + 1) (by omega) _ fa; rw [e] at this; exact this) | (have gg : yGood y c = true := (by unfold yGood; rw [tb1.mp c22, tb1.mp c37]; rfl); rw [if_pos ⟨gg, by omega⟩] at e; have := lp_X12_best (d := d) w0 m0 o hN hB (c + 1) (by omega) _ fa; rw [e] at this; exact this) | (rw [if_neg (fun z => by have := z.2; omega)] at e; have := lp_X12_best (d := d) w0 m0 o hN hB (c + 1) (by omega) _ fa; rw [e] at this; exact this)
          · refine st_iload_n (q := 54) dX12_best_53 rfl rfl ?_
            refine st_istore_n (q := 55) (i := 1) dX12_best_54 rfl (by decide) rfl ?_
            refine st_aload_n (q := 56) dX12_best_55 rfl rfl ?_
            refine st_iload_n (q := 57) dX12_best_56 rfl rfl ?_
            refine iV1i (q := 60) dX12_best_57 rfl ml_X12_280 mv_X12_lengthOf (Nat.le_of_ble_eq_true rfl) (wfk w2 rfl) ?_
            refine c_X12_lengthOf w2 m2 o (by omega) ?_
            refine st_istore_n (q := 61) (i := 2) dX12_best_60 rfl (by decide) rfl ?_
            first | refine n_iinc (q := 64) dX12_best_61 rfl (by decide) rfl ⟨by omega, by omega⟩ ?_ | refine st_iinc (q := 64) dX12_best_61 rfl (by decide) rfl ?_
            refine st_goto (q := 7) dX12_best_64 (by decide) ?_
            have hlt : c < 2 ^ y.1 := by omega
            have e := e0 hlt
            first | (have g1 := tb0.mp c22; have gg : ¬ yGood y c = true := (by simp [yGood, g1]); rw [if_neg (fun z => gg z.1)] at e; have := lp_X12_best (d := d) w0 m0 o hN hB (c + 1) (by omega) _ f; rw [e] at this; exact this) | (have g2 := tb0.mp c37; have gg : ¬ yGood y c = true := (by simp [yGood, g2]); rw [if_neg (fun z => gg z.1)] at e; have := lp_X12_best (d := d) w0 m0 o hN hB (c + 1) (by omega) _ fa; rw [e] at this; exact this) | (have gg : yGood y c = true := (by unfold yGood; rw [tb1.mp c22, tb1.mp c37]; rfl); rw [if_pos ⟨gg, by omega⟩] at e; have := lp_X12_best (d := d) w0 m0 o hN hB (c + 1) (by omega) _ fa; rw [e] at this; exact this) | (rw [if_neg (fun z => by have := z.2; omega)] at e; have := lp_X12_best (d := d) w0 m0 o hN hB (c + 1) (by omega) _ fa; rw [e] at this; exact this)
termination_by 2 ^ y.1 - c
theorem c_X12_best {d : Nat} {h : JH} {P : Int → JH → Prop} {y : SY} (w : WF h) (m : SM h y) (o : yOk y) (hN : ∀ h', FrM h h' → (bestF y (2 ^ y.1)).1 < 0 → P (-9) h') (hB : ∀ h', FrM h h' → 0 ≤ (bestF y (2 ^ y.1)).1 → P (bestF y (2 ^ y.1)).1 (sI h' 117 2 (bestF y (2 ^ y.1)).2)) : JRi (d + 2) jX12_best [vr 117] h P := by
  refine JRet.of rfl (Nat.le_of_ble_eq_true rfl) ?_
  refine st_bipush (q := 2) dX12_best_0 ⟨by decide, by decide⟩ rfl ?_
  refine st_istore_n (q := 3) (i := 1) dX12_best_2 rfl (by decide) rfl ?_
  refine st_iconst (q := 4) dX12_best_3 ⟨by decide, by decide⟩ rfl ?_
  refine st_istore_n (q := 5) (i := 2) dX12_best_4 rfl (by decide) rfl ?_
  refine st_iconst (q := 6) dX12_best_5 ⟨by decide, by decide⟩ rfl ?_
  refine st_istore_n (q := 7) (i := 3) dX12_best_6 rfl (by decide) rfl ?_
  exact lp_X12_best w m o hN hB 0 (Nat.zero_le _) _ Fr.rf
theorem c_X12_begins {d : Nat} {h : JH} {P : Int → JH → Prop} {y : SY} {c s : Int} (w : WF h) (m : SM h y) (o : yOk y) (h1 : ¬ ((0 ≤ c ∧ c < (2 ^ y.1 : Nat)) ∧ (0 ≤ s ∧ s < y.1)) → P (-1) h) (h2 : (0 ≤ c ∧ c < (2 ^ y.1 : Nat)) ∧ (0 ≤ s ∧ s < y.1) → (c.toNat.testBit s.toNat = true ∨ goS y c.toNat s.toNat (-9) 0 13 0 0 0 = none) → ∀ h', FrM h h' → P (-9) h') (h3 : (0 ≤ c ∧ c < (2 ^ y.1 : Nat)) ∧ (0 ≤ s ∧ s < y.1) → c.toNat.testBit s.toNat = false → ∀ fr ti, goS y c.toNat s.toNat (-9) 0 13 0 0 0 = some (fr, ti) → ∀ h', FrM h h' → P fr (sI h' 117 2 ti)) : JRi (d + 2) jX12_begins [vr 117, vi c, vi s] h P := by
  have m1 := m.1
  have o1 := o.1
  have p1 : 2 ^ y.1 ≤ 2 ^ 12 := Nat.pow_le_pow_right (by omega) o1
  generalize hG : 2 ^ y.1 = G at *
  refine JRet.of rfl (Nat.le_of_ble_eq_true rfl) ?_
  refine st_aload_n (q := 1) dX12_begins_0 rfl rfl ?_
  refine st_iload_n (q := 2) dX12_begins_1 rfl rfl ?_
  refine iV1i (q := 5) dX12_begins_2 rfl ml_X12_270 mv_X12_isCut (Nat.le_of_ble_eq_true rfl) (wfk w rfl) ?_
  refine c_X12_isCut w m o ?_
  rw [hG]
  refine st_if_eq (q := 8) (tgt := 16) dX12_begins_5 (by decide) rfl (fun c5 => ?_) (fun c5 => ?_)
  · refine st_iconst (q := 17) dX12_begins_16 ⟨by decide, by decide⟩ rfl ?_
    refine rt_i dX12_begins_17 rfl ?_
    first | exact h1 (by omega) | exact h2 (by omega) (Or.inl (tb1.mp c23)) _ Fr.rf | (cases go with | none => exact h2 (by omega) (Or.inr rfl) _ f | some q => exact absurd c35 (by simp)) | (cases go with | none => exact absurd rfl c35 | some q => (have e2 := hf q.1 q.2 rfl; refine pq (h3 (by omega) (tb0.mp c23) q.1 q.2 rfl _ f) e2.1.symm ?_; rw [e2.2]))
  · refine st_aload_n (q := 9) dX12_begins_8 rfl rfl ?_
    refine st_iload_n (q := 10) dX12_begins_9 rfl rfl ?_
    refine iV1i (q := 13) dX12_begins_10 rfl ml_X12_218 mv_X12_isScene (Nat.le_of_ble_eq_true rfl) (wfk w rfl) ?_
    refine c_X12_isScene w m o ?_
    refine st_if_ne (q := 16) (tgt := 18) dX12_begins_13 (by decide) rfl (fun c13 => ?_) (fun c13 => ?_)
    · refine st_iload_n (q := 19) dX12_begins_18 rfl rfl ?_
      refine st_iload_n (q := 20) dX12_begins_19 rfl rfl ?_
      refine iS2i (q := 23) dX12_begins_20 rfl ml_X12_174 ms_X12_has (Nat.le_of_ble_eq_true rfl) ?_
      rw [show c = (c.toNat : Int) by omega, show s = (s.toNat : Int) by omega]
      refine c_X12_hasN (by omega) (by omega) ?_
      refine st_if_ne (q := 26) (tgt := 38) dX12_begins_23 (by decide) rfl (fun c23 => ?_) (fun c23 => ?_)
      · refine st_bipush (q := 40) dX12_begins_38 ⟨by decide, by decide⟩ rfl ?_
        refine st_goto (q := 55) dX12_begins_40 (by decide) ?_
        refine rt_i dX12_begins_55 rfl ?_
        first | exact h1 (by omega) | exact h2 (by omega) (Or.inl (tb1.mp c23)) _ Fr.rf | (cases go with | none => exact h2 (by omega) (Or.inr rfl) _ f | some q => exact absurd c35 (by simp)) | (cases go with | none => exact absurd rfl c35 | some q => (have e2 := hf q.1 q.2 rfl; refine pq (h3 (by omega) (tb0.mp c23) q.1 q.2 rfl _ f) e2.1.symm ?_; rw [e2.2]))
      · refine st_aload_n (q := 27) dX12_begins_26 rfl rfl ?_
        refine st_iload_n (q := 28) dX12_begins_27 rfl rfl ?_
        refine st_iload_n (q := 29) dX12_begins_28 rfl rfl ?_
        refine st_bipush (q := 31) dX12_begins_29 ⟨by decide, by decide⟩ rfl ?_
        refine st_iconst (q := 32) dX12_begins_31 ⟨by decide, by decide⟩ rfl ?_
        refine iV4i (q := 35) dX12_begins_32 rfl ml_X12_276 mv_X12_goes (Nat.le_of_ble_eq_true rfl) (wfk w rfl) ?_
        refine c_X12_goes (c := c.toNat) (to := s.toNat) w m o (by omega) (by omega) (by omega) (fun h' f hf => ?_)
        have w2 := f.wf w
        generalize hgo : goS y c.toNat s.toNat (-9) 0 13 0 0 0 = go at *
        refine st_if_ne (q := 38) (tgt := 43) dX12_begins_35 (by decide) rfl (fun c35 => ?_) (fun c35 => ?_)
        · refine st_aload_n (q := 44) dX12_begins_43 rfl rfl ?_
          refine st_aload_n (q := 45) dX12_begins_44 rfl rfl ?_
          refine st_getI (q := 48) 12 40 dX12_begins_45 fl_X12_267 (by decide) (by decide) rfl rfl (wfk w2 rfl) ?_
          refine st_aload_n (q := 49) dX12_begins_48 rfl rfl ?_
          refine st_getI (q := 52) 12 39 dX12_begins_49 fl_X12_264 (by decide) (by decide) rfl rfl (wfk w2 rfl) ?_
          refine iV2i (q := 55) dX12_begins_52 rfl ml_X12_152 mv_X12_ask (Nat.le_of_ble_eq_true rfl) (wfk w2 rfl) ?_
          refine c_X12_ask w2 ?_
          refine rt_i dX12_begins_55 rfl ?_
          first | exact h1 (by omega) | exact h2 (by omega) (Or.inl (tb1.mp c23)) _ Fr.rf | (cases go with | none => exact h2 (by omega) (Or.inr rfl) _ f | some q => exact absurd c35 (by simp)) | (cases go with | none => exact absurd rfl c35 | some q => (have e2 := hf q.1 q.2 rfl; refine pq (h3 (by omega) (tb0.mp c23) q.1 q.2 rfl _ f) e2.1.symm ?_; rw [e2.2]))
        · refine st_bipush (q := 40) dX12_begins_38 ⟨by decide, by decide⟩ rfl ?_
          refine st_goto (q := 55) dX12_begins_40 (by decide) ?_
          refine rt_i dX12_begins_55 rfl ?_
          first | exact h1 (by omega) | exact h2 (by omega) (Or.inl (tb1.mp c23)) _ Fr.rf | (cases go with | none => exact h2 (by omega) (Or.inr rfl) _ f | some q => exact absurd c35 (by simp)) | (cases go with | none => exact absurd rfl c35 | some q => (have e2 := hf q.1 q.2 rfl; refine pq (h3 (by omega) (tb0.mp c23) q.1 q.2 rfl _ f) e2.1.symm ?_; rw [e2.2]))
    · refine st_iconst (q := 17) dX12_begins_16 ⟨by decide, by decide⟩ rfl ?_
      refine rt_i dX12_begins_17 rfl ?_
      first | exact h1 (by omega) | exact h2 (by omega) (Or.inl (tb1.mp c23)) _ Fr.rf | (cases go with | none => exact h2 (by omega) (Or.inr rfl) _ f | some q => exact absurd c35 (by simp)) | (cases go with | none => exact absurd rfl c35 | some q => (have e2 := hf q.1 q.2 rfl; refine pq (h3 (by omega) (tb0.mp c23) q.1 q.2 rfl _ f) e2.1.symm ?_; rw [e2.2]))
def lauS (y : SY) (c : Nat) (s : Int) : Nat → Int
  | 0 => -9
  | m + 1 => if (goS y c y.1 s m 13 0 0 0).isSome = true then (m : Int) else lauS y c s m
theorem lp_X12_laughter {d : Nat} {h : JH} {P : Int → JH → Prop} {y : SY} {c s : Nat} (w0 : WF h) (m0 : SM h y) (o : yOk y) (hc : c < 4096) (hP : ∀ h', FrM h h' → P (lauS y c s 100) h') : ∀ (l : Nat), l ≤ 100 → lauS y c s l = lauS y c s 100 → ∀ (h' : JH), FrM h h' → JAt k0 (d + 2) jX12_laughter 40 [vr 117, vi c, vi s, vi ((l : Int) - 1)] [] h' (jqi P) := by
  intro l
  induction l with
  | zero =>
    intro hl he h' f
    have w := f.wf w0
    have m := m0.fr f
    have m1 := m.1
    have o1 := o.1
    refine st_iload_n (q := 41) dX12_laughter_40 rfl rfl ?_
    refine st_if_lt (q := 44) (tgt := 64) dX12_laughter_41 (by decide) rfl (fun c41 => ?_) (fun c41 => ?_)
    · refine st_iload_n (q := 65) dX12_laughter_64 rfl rfl ?_
      refine st_if_ge (q := 68) (tgt := 73) dX12_laughter_65 (by decide) rfl (fun c65 => ?_) (fun c65 => ?_)
      · refine st_iload_n (q := 74) dX12_laughter_73 rfl rfl ?_
        refine rt_i dX12_laughter_74 rfl ?_
        first | exact pq (hP _ f) (by rw [← he]; rfl) rfl | (exact absurd c65 (by omega))
      · refine st_bipush (q := 70) dX12_laughter_68 ⟨by decide, by decide⟩ rfl ?_
        refine st_goto (q := 74) dX12_laughter_70 (by decide) ?_
        refine rt_i dX12_laughter_74 rfl ?_
        first | exact pq (hP _ f) (by rw [← he]; rfl) rfl | (exact absurd c65 (by omega))
    · refine st_aload_n (q := 45) dX12_laughter_44 rfl rfl ?_
      refine st_iload_n (q := 46) dX12_laughter_45 rfl rfl ?_
      refine st_aload_n (q := 47) dX12_laughter_46 rfl rfl ?_
      refine st_getI (q := 50) 12 15 dX12_laughter_47 fl_X12_215 (by decide) (by decide) rfl rfl (wfk w rfl) ?_
      refine st_iload_n (q := 51) dX12_laughter_50 rfl rfl ?_
      refine st_iload_n (q := 52) dX12_laughter_51 rfl rfl ?_
      refine iV4i (q := 55) dX12_laughter_52 rfl ml_X12_276 mv_X12_goes (Nat.le_of_ble_eq_true rfl) (wfk w rfl) ?_
      exact absurd c41 (by omega)
  | succ l ih =>
    intro hl he h' f
    have w := f.wf w0
    have m := m0.fr f
    have m1 := m.1
    have o1 := o.1
    have e0 : lauS y c s (l + 1) = if (goS y c y.1 s l 13 0 0 0).isSome = true then (l : Int) else lauS y c s l := rfl
    rw [show ((l + 1 : Nat) : Int) - 1 = (l : Int) by omega]
    refine st_iload_n (q := 41) dX12_laughter_40 rfl rfl ?_
    refine st_if_lt (q := 44) (tgt := 64) dX12_laughter_41 (by decide) rfl (fun c41 => ?_) (fun c41 => ?_)
    · refine st_iload_n (q := 65) dX12_laughter_64 rfl rfl ?_
      refine st_if_ge (q := 68) (tgt := 73) dX12_laughter_65 (by decide) rfl (fun c65 => ?_) (fun c65 => ?_)
      · refine st_iload_n (q := 74) dX12_laughter_73 rfl rfl ?_
        refine rt_i dX12_laughter_74 rfl ?_
        first | (exact absurd c41 (by omega)) | (exact absurd c65 (by omega)) | (rw [if_pos (tb1.mp c55)] at e0; exact pq (hP _ (f.tr f2)) (by rw [← he, e0]) rfl)
      · refine st_bipush (q := 70) dX12_laughter_68 ⟨by decide, by decide⟩ rfl ?_
        refine st_goto (q := 74) dX12_laughter_70 (by decide) ?_
        refine rt_i dX12_laughter_74 rfl ?_
        first | (exact absurd c41 (by omega)) | (exact absurd c65 (by omega)) | (rw [if_pos (tb1.mp c55)] at e0; exact pq (hP _ (f.tr f2)) (by rw [← he, e0]) rfl)
    · refine st_aload_n (q := 45) dX12_laughter_44 rfl rfl ?_
      refine st_iload_n (q := 46) dX12_laughter_45 rfl rfl ?_
      refine st_aload_n (q := 47) dX12_laughter_46 rfl rfl ?_
      refine st_getI (q := 50) 12 15 dX12_laughter_47 fl_X12_215 (by decide) (by decide) rfl rfl (wfk w rfl) ?_
      refine st_iload_n (q := 51) dX12_laughter_50 rfl rfl ?_
      refine st_iload_n (q := 52) dX12_laughter_51 rfl rfl ?_
      refine iV4i (q := 55) dX12_laughter_52 rfl ml_X12_276 mv_X12_goes (Nat.le_of_ble_eq_true rfl) (wfk w rfl) ?_
      rw [m1]
      refine c_X12_goes w m o hc o1 (by omega) (fun hh f2 hf2 => ?_)
      refine st_if_ne (q := 58) (tgt := 64) dX12_laughter_55 (by decide) rfl (fun c55 => ?_) (fun c55 => ?_)
      · refine st_iload_n (q := 65) dX12_laughter_64 rfl rfl ?_
        refine st_if_ge (q := 68) (tgt := 73) dX12_laughter_65 (by decide) rfl (fun c65 => ?_) (fun c65 => ?_)
        · refine st_iload_n (q := 74) dX12_laughter_73 rfl rfl ?_
          refine rt_i dX12_laughter_74 rfl ?_
          first | (exact absurd c41 (by omega)) | (exact absurd c65 (by omega)) | (rw [if_pos (tb1.mp c55)] at e0; exact pq (hP _ (f.tr f2)) (by rw [← he, e0]) rfl)
        · refine st_bipush (q := 70) dX12_laughter_68 ⟨by decide, by decide⟩ rfl ?_
          refine st_goto (q := 74) dX12_laughter_70 (by decide) ?_
          refine rt_i dX12_laughter_74 rfl ?_
          first | (exact absurd c41 (by omega)) | (exact absurd c65 (by omega)) | (rw [if_pos (tb1.mp c55)] at e0; exact pq (hP _ (f.tr f2)) (by rw [← he, e0]) rfl)
      · first | refine n_iinc (q := 61) dX12_laughter_58 rfl (by decide) rfl ⟨by omega, by omega⟩ ?_ | refine st_iinc (q := 61) dX12_laughter_58 rfl (by decide) rfl ?_
        refine st_goto (q := 40) dX12_laughter_61 (by decide) ?_
        rw [if_neg (by rw [tb0.mp c55]; decide)] at e0
        exact ih (by omega) (e0.symm.trans he) _ (f.tr f2)
theorem c_X12_laughter {d : Nat} {h : JH} {P : Int → JH → Prop} {y : SY} {c s : Int} (w : WF h) (m : SM h y) (o : yOk y) (h1 : ¬ ((0 ≤ c ∧ c < (2 ^ y.1 : Nat)) ∧ (0 ≤ s ∧ s < y.1) ∧ c.toNat.testBit s.toNat = false) → P (-1) h) (h2 : (0 ≤ c ∧ c < (2 ^ y.1 : Nat)) ∧ (0 ≤ s ∧ s < y.1) ∧ c.toNat.testBit s.toNat = false → (ymc y c.toNat y.1).2 = false → P (-9) h) (h3 : (0 ≤ c ∧ c < (2 ^ y.1 : Nat)) ∧ (0 ≤ s ∧ s < y.1) ∧ c.toNat.testBit s.toNat = false → (ymc y c.toNat y.1).2 = true → ∀ h', FrM h h' → P (lauS y c.toNat s 100) h') : JRi (d + 2) jX12_laughter [vr 117, vi c, vi s] h P := by
  have m1 := m.1
  have o1 := o.1
  have p1 : 2 ^ y.1 ≤ 2 ^ 12 := Nat.pow_le_pow_right (by omega) o1
  generalize hG : 2 ^ y.1 = G at *
  refine JRet.of rfl (Nat.le_of_ble_eq_true rfl) ?_
  refine st_aload_n (q := 1) dX12_laughter_0 rfl rfl ?_
  refine st_iload_n (q := 2) dX12_laughter_1 rfl rfl ?_
  refine iV1i (q := 5) dX12_laughter_2 rfl ml_X12_270 mv_X12_isCut (Nat.le_of_ble_eq_true rfl) (wfk w rfl) ?_
  refine c_X12_isCut w m o ?_
  rw [hG]
  refine st_if_eq (q := 8) (tgt := 24) dX12_laughter_5 (by decide) rfl (fun c5 => ?_) (fun c5 => ?_)
  · refine st_iconst (q := 25) dX12_laughter_24 ⟨by decide, by decide⟩ rfl ?_
    refine rt_i dX12_laughter_25 rfl ?_
    first | exact h1 (by omega) | exact h1 (fun z => by have z2 := z.2.2; rw [tb1.mp c21] at z2; cases z2) | exact h2 ⟨by omega, by omega, tb0.mp c21⟩ (tb0.mp c31)
  · refine st_aload_n (q := 9) dX12_laughter_8 rfl rfl ?_
    refine st_iload_n (q := 10) dX12_laughter_9 rfl rfl ?_
    refine iV1i (q := 13) dX12_laughter_10 rfl ml_X12_218 mv_X12_isScene (Nat.le_of_ble_eq_true rfl) (wfk w rfl) ?_
    refine c_X12_isScene w m o ?_
    refine st_if_eq (q := 16) (tgt := 24) dX12_laughter_13 (by decide) rfl (fun c13 => ?_) (fun c13 => ?_)
    · refine st_iconst (q := 25) dX12_laughter_24 ⟨by decide, by decide⟩ rfl ?_
      refine rt_i dX12_laughter_25 rfl ?_
      first | exact h1 (by omega) | exact h1 (fun z => by have z2 := z.2.2; rw [tb1.mp c21] at z2; cases z2) | exact h2 ⟨by omega, by omega, tb0.mp c21⟩ (tb0.mp c31)
    · refine st_iload_n (q := 17) dX12_laughter_16 rfl rfl ?_
      refine st_iload_n (q := 18) dX12_laughter_17 rfl rfl ?_
      refine iS2i (q := 21) dX12_laughter_18 rfl ml_X12_174 ms_X12_has (Nat.le_of_ble_eq_true rfl) ?_
      rw [show c = (c.toNat : Int) by omega, show s = (s.toNat : Int) by omega]
      refine c_X12_hasN (by omega) (by omega) ?_
      refine st_if_eq (q := 24) (tgt := 26) dX12_laughter_21 (by decide) rfl (fun c21 => ?_) (fun c21 => ?_)
      · refine st_aload_n (q := 27) dX12_laughter_26 rfl rfl ?_
        refine st_iload_n (q := 28) dX12_laughter_27 rfl rfl ?_
        refine iV1i (q := 31) dX12_laughter_28 rfl ml_X12_273 mv_X12_mayCut (Nat.le_of_ble_eq_true rfl) (wfk w rfl) ?_
        refine c_X12_mayCut w m o (by omega) ?_
        refine st_if_ne (q := 34) (tgt := 37) dX12_laughter_31 (by decide) rfl (fun c31 => ?_) (fun c31 => ?_)
        · refine st_bipush (q := 39) dX12_laughter_37 ⟨by decide, by decide⟩ rfl ?_
          refine st_istore_n (q := 40) (i := 3) dX12_laughter_39 rfl (by decide) rfl ?_
          have e1 : c = (c.toNat : Int) := by omega
          have e2 : s = (s.toNat : Int) := by omega
          have := lp_X12_laughter (d := d) (P := P) (c := c.toNat) (s := s.toNat) w m o (by omega) (by rw [← e2]; exact h3 ⟨by omega, by omega, tb0.mp c21⟩ (tb1.mp c31)) 100 (by omega) rfl _ Fr.rf
          exact this
        · refine st_bipush (q := 36) dX12_laughter_34 ⟨by decide, by decide⟩ rfl ?_
          refine rt_i dX12_laughter_36 rfl ?_
          first | exact h1 (by omega) | exact h1 (fun z => by have z2 := z.2.2; rw [tb1.mp c21] at z2; cases z2) | exact h2 ⟨by omega, by omega, tb0.mp c21⟩ (tb0.mp c31)
      · refine st_iconst (q := 25) dX12_laughter_24 ⟨by decide, by decide⟩ rfl ?_
        refine rt_i dX12_laughter_25 rfl ?_
        first | exact h1 (by omega) | exact h1 (fun z => by have z2 := z.2.2; rw [tb1.mp c21] at z2; cases z2) | exact h2 ⟨by omega, by omega, tb0.mp c21⟩ (tb0.mp c31)

