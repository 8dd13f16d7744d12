/-! the model: tale -/
def ysn (y : SY) (set : Nat) : Nat → Nat
  | 0 => 0
  | s + 1 => ysn y set s ||| (if set.testBit s then ySh y s else 0)
theorem ysn_lt {y : SY} (o : yOk y) (set : Nat) : ∀ s, s ≤ y.1 → ysn y set s < 256
  | 0, _ => by show 0 < 256; decide
  | s + 1, h => by
    have h1 := ysn_lt o set s (by omega)
    have h2 := (o.2 s (by omega)).1
    show ysn y set s ||| (if set.testBit s then ySh y s else 0) < 256
    refine Nat.or_lt_two_pow (n := 8) h1 ?_
    split <;> omega
def yBy (y : SY) (c : Nat) : Nat := 10000 * pcN c 16 + yLen y c y.1
def taleF (y : SY) (wish : Nat) : Nat → Int × Nat
  | 0 => (-9, 0)
  | c + 1 => if nandn wish (ysn y c y.1) = 0 ∧ ((taleF y wish c).1 < 0 ∨ yBy y c < (taleF y wish c).2) then ((c : Int), yBy y c) else taleF y wish c
theorem yBy_le {y : SY} (o : yOk y) (c : Nat) : yBy y c ≤ 162000 := by
  have h1 := yLen_le o c y.1 (Nat.le_refl _)
  have h2 := pcN_le c 16
  have h3 := o.1
  unfold yBy
  omega
theorem taleF_b (y : SY) (o : yOk y) (wish : Nat) : ∀ c, -9 ≤ (taleF y wish c).1 ∧ (taleF y wish c).1 ≤ c ∧ (taleF y wish c).2 ≤ 162000
  | 0 => by simp [taleF]
  | c + 1 => by
    have h1 := taleF_b y o wish c
    have h2 := yBy_le o c
    unfold taleF
    split
    · exact ⟨by show -9 ≤ (c : Int); omega, by show (c : Int) ≤ _; omega, h2⟩
    · exact ⟨h1.1, by omega, h1.2.2⟩
theorem lp2_X12_tale {d : Nat} {h : JH} {P : Int → JH → Prop} {y : SY} {wish c : Nat} {b1 b2 : Int} (w : WF h) (m : SM h y) (o : yOk y) (hc : c < 4096) (hK : ∀ j, JAt k0 (d + 2) jX12_tale 79 [vr 117, vi wish, vi b1, vi b2, vi c, vi (ysn y c y.1 : Nat), j] [] h (jqi P)) (s : Nat) (hs : s ≤ y.1) : JAt k0 (d + 2) jX12_tale 38 [vr 117, vi wish, vi b1, vi b2, vi c, vi (ysn y c s : Nat), vi s] [] h (jqi P) := by
  have m1 := m.1
  have o1 := o.1
  have n1 := ysn_lt o c s hs
  refine st_iload (q := 40) dX12_tale_38 rfl rfl ?_
  refine st_aload_n (q := 41) dX12_tale_40 rfl rfl ?_
  refine st_getI (q := 44) 12 15 dX12_tale_41 fl_X12_215 (by decide) (by decide) rfl rfl (wfk w rfl) ?_
  refine st_icmp_ge (q := 47) (tgt := 79) dX12_tale_44 (by decide) rfl (fun c44 => ?_) (fun c44 => ?_)
  · rw [show s = y.1 by omega]
    exact hK _
  · refine st_iload (q := 49) dX12_tale_47 rfl rfl ?_
    refine st_iload (q := 51) dX12_tale_49 rfl rfl ?_
    refine st_iload (q := 53) dX12_tale_51 rfl rfl ?_
    refine iS2i (q := 56) dX12_tale_53 rfl ml_X12_174 ms_X12_has (Nat.le_of_ble_eq_true rfl) ?_
    refine c_X12_hasN (by omega) (by omega) ?_
    apply j_mg 70
    · intro K1 K2
      refine st_if_eq (q := 59) (tgt := 69) dX12_tale_56 (by decide) rfl (fun c56 => ?_) (fun c56 => ?_)
      · refine st_iconst (q := 70) dX12_tale_69 ⟨by decide, by decide⟩ rfl ?_
        exact K1 c56
      · refine st_aload_n (q := 60) dX12_tale_59 rfl rfl ?_
        refine st_getR (q := 63) 12 16 dX12_tale_60 fl_X12_48 (by decide) (by decide) rfl rfl (wfk w rfl) (wfR w rfl) ?_
        refine st_iload (q := 65) dX12_tale_63 rfl rfl ?_
        refine st_iaload (q := 66) dX12_tale_65 rfl (wfk w rfl) (wfb w (n := 12) rfl ⟨by omega, by omega⟩) ?_
        refine st_goto (q := 70) dX12_tale_66 (by decide) ?_
        exact K2 c56
    · simp only [jif_if]
      refine j_top ((if c.testBit s then ySh y s else 0 : Nat) : Int) (by rw [show ((s : Int)).toNat = s from rfl, (m.2 s (by omega)).1]; cases c.testBit s <;> simp) ?_
      have n2 : (if c.testBit s then ySh y s else 0 : Nat) < 256 := by have := (o.2 s (by omega)).1; split <;> omega
      refine st_ior (q := 71) dX12_tale_70 rfl ?_
      rw [ior_n (by omega) (by omega)]
      refine st_istore (q := 73) dX12_tale_71 (by decide) rfl ?_
      first | refine n_iinc (q := 76) dX12_tale_73 rfl (by decide) rfl ⟨by omega, by omega⟩ ?_ | refine st_iinc (q := 76) dX12_tale_73 rfl (by decide) rfl ?_
      refine st_goto (q := 38) dX12_tale_76 (by decide) ?_
      exact lp2_X12_tale w m o hc hK (s + 1) (by omega)
termination_by y.1 - s
theorem lp_X12_tale {d : Nat} {h : JH} {P : Int → JH → Prop} {y : SY} {wish : Nat} (w : WF h) (m : SM h y) (o : yOk y) (hw : wish < 256) (hN : (taleF y wish (2 ^ y.1)).1 < 0 → P (-9) h) (hB : 0 ≤ (taleF y wish (2 ^ y.1)).1 → P (taleF y wish (2 ^ y.1)).1 (sI h 117 2 ((taleF y wish (2 ^ y.1)).2 % 10000 : Nat))) (c : Nat) (hc : c ≤ 2 ^ y.1) : ∀ (j5 j6 : JV), JAt k0 (d + 2) jX12_tale 21 [vr 117, vi wish, vi (taleF y wish c).1, vi (taleF y wish c).2, vi c, j5, j6] [] h (jqi P) := by
  intro j5 j6
  have m1 := m.1
  have o1 := o.1
  have p1 : 2 ^ y.1 ≤ 2 ^ 12 := Nat.pow_le_pow_right (by omega) o1
  have b1 := taleF_b y o wish c
  have b2 := yBy_le o c
  have b3 := pcN_le c 16
  have b4 := yLen_le o c y.1 (Nat.le_refl _)
  have b5 := ysn_lt o c y.1 (Nat.le_refl _)
  have e0 : taleF y wish (c + 1) = if nandn wish (ysn y c y.1) = 0 ∧ ((taleF y wish c).1 < 0 ∨ yBy y c < (taleF y wish c).2) then ((c : Int), yBy y c) else taleF y wish c := rfl
  have eb : yBy y c = 10000 * pcN c 16 + yLen y c y.1 := rfl
  have hS : c < 2 ^ y.1 → ∀ j, JAt k0 (d + 2) jX12_tale 79 [vr 117, vi wish, vi (taleF y wish c).1, vi (taleF y wish c).2, vi c, vi (ysn y c y.1 : Nat), j] [] h (jqi P) := by
    intro hlt j
    refine st_sipush (q := 82) dX12_tale_79 ⟨by decide, by decide⟩ rfl ?_
    refine st_iload (q := 84) dX12_tale_82 rfl rfl ?_
    refine iS1i (q := 87) dX12_tale_84 rfl ml_X12_168 ms_X12_bits (Nat.le_of_ble_eq_true rfl) ?_
    refine c_X12_bits ?_
    rw [bitsF_n (by omega) 16 (by omega)]
    first | refine n_imul (q := 88) dX12_tale_87 rfl ⟨by omega, by omega⟩ ?_ | refine st_imul (q := 88) dX12_tale_87 rfl ?_
    refine st_aload_n (q := 89) dX12_tale_88 rfl rfl ?_
    refine st_iload (q := 91) dX12_tale_89 rfl rfl ?_
    refine iV1i (q := 94) dX12_tale_91 rfl ml_X12_280 mv_X12_lengthOf (Nat.le_of_ble_eq_true rfl) (wfk w rfl) ?_
    refine c_X12_lengthOf w m o (by omega) ?_
    first | refine n_iadd (q := 95) dX12_tale_94 rfl ⟨by omega, by omega⟩ ?_ | refine st_iadd (q := 95) dX12_tale_94 rfl ?_
    refine st_istore (q := 97) dX12_tale_95 (by decide) rfl ?_
    refine st_iload_n (q := 98) dX12_tale_97 rfl rfl ?_
    refine st_iload (q := 100) dX12_tale_98 rfl rfl ?_
    refine st_iconst (q := 101) dX12_tale_100 ⟨by decide, by decide⟩ rfl ?_
    refine st_ixor (q := 102) dX12_tale_101 rfl ?_
    refine st_iand (q := 103) dX12_tale_102 rfl ?_
    rw [iandn_n (by omega) (by omega)]
    refine st_if_ne (q := 106) (tgt := 122) dX12_tale_103 (by decide) rfl (fun c103 => ?_) (fun c103 => ?_)
    · first | refine n_iinc (q := 125) dX12_tale_122 rfl (by decide) rfl ⟨by omega, by omega⟩ ?_ | refine st_iinc (q := 125) dX12_tale_122 rfl (by decide) rfl ?_
      refine st_goto (q := 21) dX12_tale_125 (by decide) ?_
      first | (rw [if_pos ⟨by omega, by omega⟩] at e0; have := lp_X12_tale (d := d) w m o hw hN hB (c + 1) (by omega) (vi (ysn y c y.1 : Nat)) (vi (yBy y c : Nat)); rw [e0] at this; exact this) | (rw [if_neg (fun z => by have z1 := z.1; have z2 := z.2; omega)] at e0; have := lp_X12_tale (d := d) w m o hw hN hB (c + 1) (by omega) (vi (ysn y c y.1 : Nat)) (vi (yBy y c : Nat)); rw [e0] at this; exact this)
    · refine st_iload_n (q := 107) dX12_tale_106 rfl rfl ?_
      refine st_if_lt (q := 110) (tgt := 116) dX12_tale_107 (by decide) rfl (fun c107 => ?_) (fun c107 => ?_)
      · refine st_iload (q := 118) dX12_tale_116 rfl rfl ?_
        refine st_istore_n (q := 119) (i := 2) dX12_tale_118 rfl (by decide) rfl ?_
        refine st_iload (q := 121) dX12_tale_119 rfl rfl ?_
        refine st_istore_n (q := 122) (i := 3) dX12_tale_121 rfl (by decide) rfl ?_
        first | refine n_iinc (q := 125) dX12_tale_122 rfl (by decide) rfl ⟨by omega, by omega⟩ ?_ | refine st_iinc (q := 125) dX12_tale_122 rfl (by decide) rfl ?_
        refine st_goto (q := 21) dX12_tale_125 (by decide) ?_
        first | (rw [if_pos ⟨by omega, by omega⟩] at e0; have := lp_X12_tale (d := d) w m o hw hN hB (c + 1) (by omega) (vi (ysn y c y.1 : Nat)) (vi (yBy y c : Nat)); rw [e0] at this; exact this) | (rw [if_neg (fun z => by have z1 := z.1; have z2 := z.2; omega)] at e0; have := lp_X12_tale (d := d) w m o hw hN hB (c + 1) (by omega) (vi (ysn y c y.1 : Nat)) (vi (yBy y c : Nat)); rw [e0] at this; exact this)
      · refine st_iload (q := 112) dX12_tale_110 rfl rfl ?_
        refine st_iload_n (q := 113) dX12_tale_112 rfl rfl ?_
        refine st_icmp_ge (q := 116) (tgt := 122) dX12_tale_113 (by decide) rfl (fun c113 => ?_) (fun c113 => ?_)
        · first | refine n_iinc (q := 125) dX12_tale_122 rfl (by decide) rfl ⟨by omega, by omega⟩ ?_ | refine st_iinc (q := 125) dX12_tale_122 rfl (by decide) rfl ?_
          refine st_goto (q := 21) dX12_tale_125 (by decide) ?_
          first | (rw [if_pos ⟨by omega, by omega⟩] at e0; have := lp_X12_tale (d := d) w m o hw hN hB (c + 1) (by omega) (vi (ysn y c y.1 : Nat)) (vi (yBy y c : Nat)); rw [e0] at this; exact this) | (rw [if_neg (fun z => by have z1 := z.1; have z2 := z.2; omega)] at e0; have := lp_X12_tale (d := d) w m o hw hN hB (c + 1) (by omega) (vi (ysn y c y.1 : Nat)) (vi (yBy y c : Nat)); rw [e0] at this; exact this)
        · refine st_iload (q := 118) dX12_tale_116 rfl rfl ?_
          refine st_istore_n (q := 119) (i := 2) dX12_tale_118 rfl (by decide) rfl ?_
          refine st_iload (q := 121) dX12_tale_119 rfl rfl ?_
          refine st_istore_n (q := 122) (i := 3) dX12_tale_121 rfl (by decide) rfl ?_
          first | refine n_iinc (q := 125) dX12_tale_122 rfl (by decide) rfl ⟨by omega, by omega⟩ ?_ | refine st_iinc (q := 125) dX12_tale_122 rfl (by decide) rfl ?_
          refine st_goto (q := 21) dX12_tale_125 (by decide) ?_
          first | (rw [if_pos ⟨by omega, by omega⟩] at e0; have := lp_X12_tale (d := d) w m o hw hN hB (c + 1) (by omega) (vi (ysn y c y.1 : Nat)) (vi (yBy y c : Nat)); rw [e0] at this; exact this) | (rw [if_neg (fun z => by have z1 := z.1; have z2 := z.2; omega)] at e0; have := lp_X12_tale (d := d) w m o hw hN hB (c + 1) (by omega) (vi (ysn y c y.1 : Nat)) (vi (yBy y c : Nat)); rw [e0] at this; exact this)
  refine st_iload (q := 23) dX12_tale_21 rfl rfl ?_
  refine st_iconst (q := 24) dX12_tale_23 ⟨by decide, by decide⟩ rfl ?_
  refine st_aload_n (q := 25) dX12_tale_24 rfl rfl ?_
  refine st_getI (q := 28) 12 15 dX12_tale_25 fl_X12_215 (by decide) (by decide) rfl rfl (wfk w rfl) ?_
  refine st_ishl (q := 29) dX12_tale_28 rfl ?_
  rw [m1, show (1 : Int) = ((1 : Nat) : Int) from rfl, ishl_n (by omega) (by rw [Nat.one_mul]; exact p31 (by omega)), Nat.one_mul]
  refine st_icmp_ge (q := 32) (tgt := 128) dX12_tale_29 (by decide) rfl (fun c29 => ?_) (fun c29 => ?_)
  · refine st_iload_n (q := 129) dX12_tale_128 rfl rfl ?_
    refine st_if_ge (q := 132) (tgt := 137) dX12_tale_129 (by decide) rfl (fun c129 => ?_) (fun c129 => ?_)
    · refine st_aload_n (q := 138) dX12_tale_137 rfl rfl ?_
      refine st_iload_n (q := 139) dX12_tale_138 rfl rfl ?_
      refine st_sipush (q := 142) dX12_tale_139 ⟨by decide, by decide⟩ rfl ?_
      refine st_irem (q := 143) dX12_tale_142 (by omega) rfl ?_
      rw [show (10000 : Int) = ((10000 : Nat) : Int) from rfl, tmod_n]
      refine st_iload_n (q := 144) dX12_tale_143 rfl rfl ?_
      refine iV2i (q := 147) dX12_tale_144 rfl ml_X12_152 mv_X12_ask (Nat.le_of_ble_eq_true rfl) (wfk w rfl) ?_
      refine c_X12_ask w ?_
      refine rt_i dX12_tale_147 rfl ?_
      have ec : c = 2 ^ y.1 := by omega
      subst ec
      first | exact hN (by omega) | exact hB (by omega)
    · refine st_bipush (q := 134) dX12_tale_132 ⟨by decide, by decide⟩ rfl ?_
      refine st_goto (q := 147) dX12_tale_134 (by decide) ?_
      refine rt_i dX12_tale_147 rfl ?_
      have ec : c = 2 ^ y.1 := by omega
      subst ec
      first | exact hN (by omega) | exact hB (by omega)
  · refine st_iconst (q := 33) dX12_tale_32 ⟨by decide, by decide⟩ rfl ?_
    refine st_istore (q := 35) dX12_tale_33 (by decide) rfl ?_
    refine st_iconst (q := 36) dX12_tale_35 ⟨by decide, by decide⟩ rfl ?_
    refine st_istore (q := 38) dX12_tale_36 (by decide) rfl ?_
    exact lp2_X12_tale w m o (by omega) (hS (by omega)) 0 (by omega)
termination_by 2 ^ y.1 - c
theorem c_X12_tale {d : Nat} {h : JH} {P : Int → JH → Prop} {y : SY} {wish : Int} (w : WF h) (m : SM h y) (o : yOk y) (h1 : ¬ (0 ≤ wish ∧ wish ≤ 255) → P (-1) h) (hN : 0 ≤ wish ∧ wish ≤ 255 → (taleF y wish.toNat (2 ^ y.1)).1 < 0 → P (-9) h) (hB : 0 ≤ wish ∧ wish ≤ 255 → 0 ≤ (taleF y wish.toNat (2 ^ y.1)).1 → P (taleF y wish.toNat (2 ^ y.1)).1 (sI h 117 2 ((taleF y wish.toNat (2 ^ y.1)).2 % 10000 : Nat))) : JRi (d + 2) jX12_tale [vr 117, vi wish] h P := by
  refine JRet.of rfl (Nat.le_of_ble_eq_true rfl) ?_
  refine st_iload_n (q := 1) dX12_tale_0 rfl rfl ?_
  refine st_iconst (q := 2) dX12_tale_1 ⟨by decide, by decide⟩ rfl ?_
  refine st_sipush (q := 5) dX12_tale_2 ⟨by decide, by decide⟩ rfl ?_
  refine iS3i (q := 8) dX12_tale_5 rfl ml_X12_130 ms_X12_in (Nat.le_of_ble_eq_true rfl) ?_
  refine c_X12_in ?_
  refine st_if_ne (q := 11) (tgt := 13) dX12_tale_8 (by decide) rfl (fun c8 => ?_) (fun c8 => ?_)
  · refine st_bipush (q := 15) dX12_tale_13 ⟨by decide, by decide⟩ rfl ?_
    refine st_istore_n (q := 16) (i := 2) dX12_tale_15 rfl (by decide) rfl ?_
    refine st_iconst (q := 17) dX12_tale_16 ⟨by decide, by decide⟩ rfl ?_
    refine st_istore_n (q := 18) (i := 3) dX12_tale_17 rfl (by decide) rfl ?_
    refine st_iconst (q := 19) dX12_tale_18 ⟨by decide, by decide⟩ rfl ?_
    refine st_istore (q := 21) dX12_tale_19 (by decide) rfl ?_
    have e1 : wish = (wish.toNat : Int) := by omega
    have := lp_X12_tale (d := d) (wish := wish.toNat) w m o (by omega) (hN (by omega)) (hB (by omega)) 0 (Nat.zero_le _) vn vn
    rw [← e1] at this
    exact this
  · refine st_iconst (q := 12) dX12_tale_11 ⟨by decide, by decide⟩ rfl ?_
    refine rt_i dX12_tale_12 rfl ?_
    exact h1 (by omega)

