/-! hands: the reference's changes -/
theorem p4e (i : Nat) : 2 ^ (2 * i) = 4 ^ i := by rw [Nat.pow_mul]
theorem p4b {n : Nat} (hn : n ≤ 6) : 4 ^ n ≤ 4096 := Nat.pow_le_pow_right (n := 4) (by decide) hn
theorem p4i {i n : Nat} (hn : n ≤ 6) (hi : i < n) : 4 ^ i ≤ 1024 := show 4 ^ i ≤ 4 ^ 5 from Nat.pow_le_pow_right (by decide) (by omega)
theorem ix_up {s n i a : Nat} (hs : s < 4 ^ n) (hi : i < n) (hn : n ≤ 6) (ha : a < 4) : nandn s (3 * 2 ^ (2 * i)) ||| a * 2 ^ (2 * i) = enc 4 (fup (dgF 4 s) i a) n := by
  have hb := p4b hn
  obtain ⟨r, hr⟩ := enc_sp (B := 4) (f := dgF 4 s) hi
  have hu := enc_up (B := 4) (f := dgF 4 s) (a := a) hi
  rw [enc_of hs] at hr hu
  have hL : enc 4 (dgF 4 s) i < 2 ^ (2 * i) := by rw [p4e]; exact enc_lt (dgF_dg (by decide))
  have hd : dgF 4 s i < 4 := Nat.mod_lt _ (by decide)
  have e1 : s = 2 ^ (2 * i) * (2 ^ 2 * r + dgF 4 s i) + enc 4 (dgF 4 s) i := by
    show s = 2 ^ (2 * i) * (4 * r + dgF 4 s i) + enc 4 (dgF 4 s) i
    rw [p4e, Nat.add_comm (4 * r)]; omega
  have e2 : enc 4 (fup (dgF 4 s) i a) n = 2 ^ (2 * i) * (2 ^ 2 * r + a) + enc 4 (dgF 4 s) i := by
    show enc 4 (fup (dgF 4 s) i a) n = 2 ^ (2 * i) * (4 * r + a) + enc 4 (dgF 4 s) i
    clear e1
    rw [p4e, Nat.mul_add]
    rw [Nat.mul_add] at hr
    rw [Nat.mul_comm (dgF 4 s i), Nat.mul_comm a] at hu
    omega
  have nb := nandn_tb (a := s) (b := 3 * 2 ^ (2 * i)) (by omega)
  apply Nat.eq_of_testBit_eq
  intro j
  rw [Nat.testBit_or, nb, e2]
  generalize dgF 4 s i = dd at *
  generalize enc 4 (dgF 4 s) i = LL at *
  rw [e1, Nat.testBit_two_pow_mul_add _ hL, Nat.testBit_two_pow_mul_add _ hL, Nat.testBit_mul_two_pow, Nat.testBit_mul_two_pow]
  by_cases z : j < 2 * i
  · rw [if_pos z, if_pos z, decide_eq_false (by omega)]
    simp
  · rw [if_neg z, if_neg z, decide_eq_true (by omega), Nat.testBit_two_pow_mul_add _ hd, Nat.testBit_two_pow_mul_add _ ha]
    generalize j - 2 * i = t
    by_cases z2 : t < 2
    · rw [if_pos z2, if_pos z2]
      rcases (show t = 0 ∨ t = 1 by omega) with e | e <;> subst e <;> simp [show Nat.testBit 3 0 = true from rfl, show Nat.testBit 3 1 = true from rfl]
    · have q : ∀ x, x < 4 → x.testBit t = false := fun x hx => Nat.testBit_lt_two_pow (Nat.lt_of_lt_of_le hx (show 2 ^ 2 ≤ 2 ^ t from Nat.pow_le_pow_right (by decide) (by omega)))
      rw [if_neg z2, if_neg z2, q 3 (by decide), q a ha]
      simp
def mnF (g : Nat → Int) : Nat → Int
  | 0 => 1000000
  | k + 1 => if g k < mnF g k then g k else mnF g k
theorem mnF_le {g : Nat → Int} : ∀ {k a : Nat}, a < k → mnF g k ≤ g a
  | 0, _, h => absurd h (by omega)
  | k + 1, a, h => by
    have e : mnF g (k + 1) = if g k < mnF g k then g k else mnF g k := rfl
    rw [e]
    by_cases z : a = k
    · subst z; split <;> omega
    · have := mnF_le (g := g) (k := k) (a := a) (by omega)
      split <;> omega
theorem mnF_ex {g : Nat → Int} : ∀ k : Nat, mnF g k = 1000000 ∨ ∃ a, a < k ∧ mnF g k = g a
  | 0 => Or.inl rfl
  | k + 1 => by
    have e : mnF g (k + 1) = if g k < mnF g k then g k else mnF g k := rfl
    rw [e]
    by_cases z : g k < mnF g k
    · rw [if_pos z]; exact Or.inr ⟨k, by omega, rfl⟩
    · rw [if_neg z]
      rcases mnF_ex (g := g) k with h | ⟨a, ha, h⟩
      · exact Or.inl h
      · exact Or.inr ⟨a, by omega, h⟩
theorem mnF_b {g : Nat → Int} : ∀ k : Nat, (∀ a, a < k → 0 ≤ g a) → 0 ≤ mnF g k ∧ mnF g k ≤ 1000000
  | 0, _ => by show (0 : Int) ≤ 1000000 ∧ (1000000 : Int) ≤ 1000000; omega
  | k + 1, h => by
    have e : mnF g (k + 1) = if g k < mnF g k then g k else mnF g k := rfl
    have h1 := mnF_b (g := g) k (fun a ha => h a (by omega))
    have h2 := h k (by omega)
    rw [e]
    split <;> omega
/-- what a word costs after a change of digit i from a -/
def gOf (C : Nat → Int) (n i x : Nat) : Nat → Int := fun a => C (enc 4 (fup (dgF 4 x) i a) n) + chg (a : Nat) (dgF 4 x i : Nat)
def bdC (B n : Nat) (C : Nat → Int) : Prop := ∀ x, x < B ^ n → 0 ≤ C x ∧ C x ≤ 1000000
theorem gOf_b {C : Nat → Int} {n i x a : Nat} (b : bdC 4 n C) (ha : a < 4) : 0 ≤ gOf C n i x a ∧ gOf C n i x a ≤ 1000002 := by
  have h1 := b _ (enc_lt (fup_dg (i := i) (a := a) (dgF_dg (B := 4) (s := x) (n := n) (by decide)) ha))
  have h2 := chg_b (a : Nat) (dgF 4 x i : Nat)
  unfold gOf
  omega
theorem mn_St {C E : Nat → Int} {n i : Nat} (hi : i < n) (b : bdC 4 n C) (e : ∀ x, x < 4 ^ n → E x = mnF (gOf C n i x) 4) : StP 4 n i C E := fun f df => by
  have e1 := e _ (enc_lt df)
  have dd : ∀ j, j < n → dgF 4 (enc 4 f n) j = f j := fun j hj => enc_dg df hj
  have e2 : ∀ a, gOf C n i (enc 4 f n) a = C (enc 4 (fup f i a) n) + chg (a : Nat) (f i : Nat) := fun a => by
    unfold gOf
    rw [dd i hi, enc_cg (B := 4) (f := fup (dgF 4 (enc 4 f n)) i a) (g := fup f i a) (fun j hj => by
      by_cases z : j = i
      · subst z; rw [fup_s, fup_s]
      · rw [fup_o _ z, fup_o _ z]; exact dd j hj)]
  refine ⟨fun a ha => ?_, ?_⟩
  · rw [e1, ← e2]; exact mnF_le ha
  · rcases mnF_ex (g := gOf C n i (enc 4 f n)) 4 with h | ⟨a, ha, h⟩
    · have h1 : mnF (gOf C n i (enc 4 f n)) 4 ≤ gOf C n i (enc 4 f n) (f i) := mnF_le (df i hi)
      refine ⟨f i, df i hi, ?_⟩
      have h2 := e2 (f i)
      rw [chg_s, enc_cg (B := 4) (f := fup f i (f i)) (g := f) (fun j hj => by
        by_cases z : j = i
        · subst z; rw [fup_s]
        · rw [fup_o _ z])] at h2
      rw [chg_s, enc_cg (B := 4) (f := fup f i (f i)) (g := f) (fun j hj => by
        by_cases z : j = i
        · subst z; rw [fup_s]
        · rw [fup_o _ z])]
      have h3 := (b _ (enc_lt df)).2
      omega
    · exact ⟨a, ha, by rw [e1, h, e2]⟩
def ScCo (a _k : Nat) : Prop := a = 140 ∨ a = 141
theorem ishl3 {i : Nat} (hi : i < 6) {a : Nat} (ha : a < 4) : ishl (a : Nat) (2 * (i : Int)) = ((a * 2 ^ (2 * i) : Nat) : Int) := by
  rw [show (2 * (i : Int)) = ((2 * i : Nat) : Int) by omega]
  refine ishl_n (by omega) ?_
  rw [p4e]
  have h1 : 4 ^ i ≤ 1024 := show 4 ^ i ≤ 4 ^ 5 from Nat.pow_le_pow_right (by decide) (by omega)
  have h2 := Nat.mul_le_mul (show a ≤ 3 by omega) h1
  omega
theorem ishl1 {n : Nat} (hn : n ≤ 6) : ishl 1 (2 * (n : Int)) = ((4 ^ n : Nat) : Int) := by
  rw [show (2 * (n : Int)) = ((2 * n : Nat) : Int) by omega, show (1 : Int) = ((1 : Nat) : Int) from rfl, ← p4e]
  have := p4b hn
  rw [← p4e] at this
  rw [ishl_n (by omega) (by omega), Nat.one_mul]
theorem shr4 {s i n : Nat} (hs : s < 4 ^ n) (hn : n ≤ 6) (hi : i < n) : iand (ishr (s : Nat) (2 * (i : Int))) 3 = ((dgF 4 s i : Nat) : Int) := by
  have hb := p4b hn
  have h1 : s / 2 ^ (2 * i) ≤ s := Nat.div_le_self _ _
  rw [show (2 * (i : Int)) = ((2 * i : Nat) : Int) by omega, ishr_n (by omega) (by omega), show (3 : Int) = ((3 : Nat) : Int) from rfl, iand_n (by omega), p4e]
  rw [show (3 : Nat) = 2 ^ 2 - 1 from rfl, Nat.and_two_pow_sub_one_eq_mod]
  rfl
theorem lp_ch25 {d : Nat} {h : JH} {Q : Option JV → JH → Prop} {n i s : Nat} (w : WF h) (hn : n ≤ 6) (hi : i < n) (hs : s < 4 ^ n) (b : bdC 4 n (hI h 140)) (hK : ∀ j5 j6, JAt k0 (d + 1) jX12_changes 89 [vr 117, vi n, vi i, vi s, vi (mnF (gOf (hI h 140) n i s) 4), j5, j6] [] h Q) (a : Nat) (ha : a ≤ 4) : ∀ j6, JAt k0 (d + 1) jX12_changes 25 [vr 117, vi n, vi i, vi s, vi (mnF (gOf (hI h 140) n i s) a), vi a, j6] [] h Q := by
  intro j6
  have hb := p4b hn
  have e0 : mnF (gOf (hI h 140) n i s) (a + 1) = if gOf (hI h 140) n i s a < mnF (gOf (hI h 140) n i s) a then gOf (hI h 140) n i s a else mnF (gOf (hI h 140) n i s) a := rfl
  have l1 : a < 4 → enc 4 (fup (dgF 4 s) i a) n < 4 ^ n := fun z => enc_lt (fup_dg (dgF_dg (by decide)) z)
  have l2 : ∀ z : a < 4, 0 ≤ hI h 140 (enc 4 (fup (dgF 4 s) i a) n) ∧ hI h 140 (enc 4 (fup (dgF 4 s) i a) n) ≤ 1000000 := fun z => b _ (l1 z)
  have l3 := chg_b (a : Nat) (dgF 4 s i : Nat)
  have l4 : 4 ^ i ≤ 1024 := p4i hn hi
  have l5 : nandn s (3 * 2 ^ (2 * i)) ≤ s := nandn_le _ _
  have l6 : a < 4 → a * 2 ^ (2 * i) ≤ 3072 := fun z => by rw [p4e]; have := Nat.mul_le_mul (show a ≤ 3 by omega) l4; omega
  have l7 : 3 * 2 ^ (2 * i) ≤ 3072 := by rw [p4e]; omega
  refine st_iload (q := 27) dX12_changes_25 rfl rfl ?_
  refine st_iconst (q := 28) dX12_changes_27 ⟨by decide, by decide⟩ rfl ?_
  refine st_icmp_ge (q := 31) (tgt := 89) dX12_changes_28 (by decide) rfl (fun c28 => ?_) (fun c28 => ?_)
  · have e4 : a = 4 := by omega
    subst e4
    exact hK _ _
  · have a4 : a < 4 := (by omega)
    have l1 := l1 a4
    have l2 := l2 a4
    have l6 := l6 a4
    refine st_aload_n (q := 32) dX12_changes_31 rfl rfl ?_
    refine st_getR (q := 35) 12 32 dX12_changes_32 fl_X12_87 (by decide) (by decide) rfl rfl (wfk w rfl) (wfR w rfl) ?_
    refine st_iload_n (q := 36) dX12_changes_35 rfl rfl ?_
    refine st_iconst (q := 37) dX12_changes_36 ⟨by decide, by decide⟩ rfl ?_
    refine st_iconst (q := 38) dX12_changes_37 ⟨by decide, by decide⟩ rfl ?_
    refine st_iload_n (q := 39) dX12_changes_38 rfl rfl ?_
    first | refine n_imul (q := 40) dX12_changes_39 rfl ⟨by omega, by omega⟩ ?_ | refine st_imul (q := 40) dX12_changes_39 rfl ?_
    refine st_ishl (q := 41) dX12_changes_40 rfl ?_
    refine j_top ((3 * 2 ^ (2 * i) : Nat) : Int) (ishl3 (a := 3) (by omega) (by decide)) ?_
    refine st_iconst (q := 42) dX12_changes_41 ⟨by decide, by decide⟩ rfl ?_
    refine st_ixor (q := 43) dX12_changes_42 rfl ?_
    refine st_iand (q := 44) dX12_changes_43 rfl ?_
    refine j_top ((nandn s (3 * 2 ^ (2 * i)) : Nat) : Int) (iandn_n (by omega) (by omega)) ?_
    refine st_iload (q := 46) dX12_changes_44 rfl rfl ?_
    refine st_iconst (q := 47) dX12_changes_46 ⟨by decide, by decide⟩ rfl ?_
    refine st_iload_n (q := 48) dX12_changes_47 rfl rfl ?_
    first | refine n_imul (q := 49) dX12_changes_48 rfl ⟨by omega, by omega⟩ ?_ | refine st_imul (q := 49) dX12_changes_48 rfl ?_
    refine st_ishl (q := 50) dX12_changes_49 rfl ?_
    refine j_top ((a * 2 ^ (2 * i) : Nat) : Int) (ishl3 (by omega) a4) ?_
    refine st_ior (q := 51) dX12_changes_50 rfl ?_
    refine j_top ((enc 4 (fup (dgF 4 s) i a) n : Nat) : Int) (by rw [ior_n (by omega) (by omega), ix_up hs hi hn a4]) ?_
    refine st_iaload (q := 52) dX12_changes_51 rfl (wfk w rfl) (wfb w (n := 4096) rfl ⟨by omega, by omega⟩) ?_
    refine j_top (hI h 140 (enc 4 (fup (dgF 4 s) i a) n)) rfl ?_
    refine st_iload (q := 54) dX12_changes_52 rfl rfl ?_
    refine st_iload_n (q := 55) dX12_changes_54 rfl rfl ?_
    refine st_iconst (q := 56) dX12_changes_55 ⟨by decide, by decide⟩ rfl ?_
    refine st_iload_n (q := 57) dX12_changes_56 rfl rfl ?_
    first | refine n_imul (q := 58) dX12_changes_57 rfl ⟨by omega, by omega⟩ ?_ | refine st_imul (q := 58) dX12_changes_57 rfl ?_
    refine st_ishr (q := 59) dX12_changes_58 rfl ?_
    refine st_iconst (q := 60) dX12_changes_59 ⟨by decide, by decide⟩ rfl ?_
    refine st_iand (q := 61) dX12_changes_60 rfl ?_
    refine j_top ((dgF 4 s i : Nat) : Int) (shr4 hs hn hi) ?_
    refine iS2i (q := 64) dX12_changes_61 rfl ml_X12_225 ms_X12_change (Nat.le_of_ble_eq_true rfl) ?_
    refine c_X12_change ?_
    first | refine n_iadd (q := 65) dX12_changes_64 rfl ⟨by omega, by omega⟩ ?_ | refine st_iadd (q := 65) dX12_changes_64 rfl ?_
    refine j_top (gOf (hI h 140) n i s a) rfl ?_
    refine st_istore (q := 67) dX12_changes_65 (by decide) rfl ?_
    refine st_iload (q := 69) dX12_changes_67 rfl rfl ?_
    refine st_iload (q := 71) dX12_changes_69 rfl rfl ?_
    refine st_icmp_ge (q := 74) (tgt := 79) dX12_changes_71 (by decide) rfl (fun c71 => ?_) (fun c71 => ?_)
    · refine st_iload (q := 81) dX12_changes_79 rfl rfl ?_
      refine st_istore (q := 83) dX12_changes_81 (by decide) rfl ?_
      first | refine n_iinc (q := 86) dX12_changes_83 rfl (by decide) rfl ⟨by omega, by omega⟩ ?_ | refine st_iinc (q := 86) dX12_changes_83 rfl (by decide) rfl ?_
      refine st_goto (q := 25) dX12_changes_86 (by decide) ?_
      first | (rw [if_pos (by omega)] at e0; have t := lp_ch25 w hn hi hs b hK (a + 1) (by omega); rw [e0] at t; exact t _) | (rw [if_neg (by omega)] at e0; have t := lp_ch25 w hn hi hs b hK (a + 1) (by omega); rw [e0] at t; exact t _)
    · refine st_iload (q := 76) dX12_changes_74 rfl rfl ?_
      refine st_goto (q := 81) dX12_changes_76 (by decide) ?_
      refine st_istore (q := 83) dX12_changes_81 (by decide) rfl ?_
      first | refine n_iinc (q := 86) dX12_changes_83 rfl (by decide) rfl ⟨by omega, by omega⟩ ?_ | refine st_iinc (q := 86) dX12_changes_83 rfl (by decide) rfl ?_
      refine st_goto (q := 25) dX12_changes_86 (by decide) ?_
      first | (rw [if_pos (by omega)] at e0; have t := lp_ch25 w hn hi hs b hK (a + 1) (by omega); rw [e0] at t; exact t _) | (rw [if_neg (by omega)] at e0; have t := lp_ch25 w hn hi hs b hK (a + 1) (by omega); rw [e0] at t; exact t _)
termination_by 4 - a
theorem lp_ch105 {d : Nat} {h0 : JH} {Q : Option JV → JH → Prop} {n i : Nat} (w0 : WF h0) (hn : n ≤ 6) (hK : ∀ h' j3 j4 j5 j6, Fr ScCo h0 h' → (∀ x, x < 4 ^ n → hI h' 140 x = hI h0 141 x) → JAt k0 (d + 1) jX12_changes 132 [vr 117, vi n, vi i, j3, j4, j5, j6] [] h' Q) (s : Nat) (hs : s ≤ 4 ^ n) : ∀ h' j4 j5 j6, Fr ScCo h0 h' → (∀ x, hI h' 141 x = hI h0 141 x) → (∀ x, x < s → hI h' 140 x = hI h0 141 x) → JAt k0 (d + 1) jX12_changes 105 [vr 117, vi n, vi i, vi s, j4, j5, j6] [] h' Q := by
  intro h' j4 j5 j6 f n1 c1
  have hb := p4b hn
  have w := f.wf w0
  refine st_iload_n (q := 106) dX12_changes_105 rfl rfl ?_
  refine st_iconst (q := 107) dX12_changes_106 ⟨by decide, by decide⟩ rfl ?_
  refine st_iconst (q := 108) dX12_changes_107 ⟨by decide, by decide⟩ rfl ?_
  refine st_iload_n (q := 109) dX12_changes_108 rfl rfl ?_
  first | refine n_imul (q := 110) dX12_changes_109 rfl ⟨by omega, by omega⟩ ?_ | refine st_imul (q := 110) dX12_changes_109 rfl ?_
  refine st_ishl (q := 111) dX12_changes_110 rfl ?_
  refine j_top ((4 ^ n : Nat) : Int) (ishl1 hn) ?_
  refine st_icmp_ge (q := 114) (tgt := 132) dX12_changes_111 (by decide) rfl (fun c111 => ?_) (fun c111 => ?_)
  · exact hK _ _ _ _ _ f (fun x hx => c1 x (by omega))
  · refine st_aload_n (q := 115) dX12_changes_114 rfl rfl ?_
    refine st_getR (q := 118) 12 32 dX12_changes_115 fl_X12_87 (by decide) (by decide) rfl rfl (wfk w rfl) (wfR w rfl) ?_
    refine st_iload_n (q := 119) dX12_changes_118 rfl rfl ?_
    refine st_aload_n (q := 120) dX12_changes_119 rfl rfl ?_
    refine st_getR (q := 123) 12 33 dX12_changes_120 fl_X12_90 (by decide) (by decide) rfl rfl (wfk w rfl) (wfR w rfl) ?_
    refine st_iload_n (q := 124) dX12_changes_123 rfl rfl ?_
    refine st_iaload (q := 125) dX12_changes_124 rfl (wfk w rfl) (wfb w (n := 4096) rfl ⟨by omega, by omega⟩) ?_
    refine st_iastore (q := 126) dX12_changes_125 rfl (wfk w rfl) (wfb w (n := 4096) rfl ⟨by omega, by omega⟩) ?_
    first | refine n_iinc (q := 129) dX12_changes_126 rfl (by decide) rfl ⟨by omega, by omega⟩ ?_ | refine st_iinc (q := 129) dX12_changes_126 rfl (by decide) rfl ?_
    refine st_goto (q := 105) dX12_changes_129 (by decide) ?_
    exact lp_ch105 w0 hn hK (s + 1) (by omega) _ _ _ _ (f.sI _ (Or.inl rfl)) (fun x => by rw [sI_o _ (by decide)]; exact n1 x) (fun x hx => by by_cases e : x = s; (subst e; rw [show ((x : Int)).toNat = x from rfl, sI_s]; exact n1 x); (rw [show ((s : Int)).toNat = s from rfl, sI_k _ e]; exact c1 x (by omega)))
termination_by 4 ^ n - s
theorem lp_ch9 {d : Nat} {h0 : JH} {Q : Option JV → JH → Prop} {n i : Nat} (w0 : WF h0) (hn : n ≤ 6) (hi : i < n) (b0 : bdC 4 n (hI h0 140)) (hK : ∀ h' j3 j4 j5 j6, Fr ScCo h0 h' → (∀ x, x < 4 ^ n → hI h' 140 x = mnF (gOf (hI h0 140) n i x) 4) → JAt k0 (d + 1) jX12_changes 132 [vr 117, vi n, vi i, j3, j4, j5, j6] [] h' Q) (s : Nat) (hs : s ≤ 4 ^ n) : ∀ h' j4 j5 j6, Fr ScCo h0 h' → hI h' 140 = hI h0 140 → (∀ x, x < s → hI h' 141 x = mnF (gOf (hI h0 140) n i x) 4) → JAt k0 (d + 1) jX12_changes 9 [vr 117, vi n, vi i, vi s, j4, j5, j6] [] h' Q := by
  intro h' j4 j5 j6 f c1 n1
  have hb := p4b hn
  have w := f.wf w0
  have nx : s < 4 ^ n → ∀ j5 j6, JAt k0 (d + 1) jX12_changes 89 [vr 117, vi n, vi i, vi s, vi (mnF (gOf (hI h' 140) n i s) 4), j5, j6] [] h' Q := by
    intro hs4 j5 j6
    refine st_aload_n (q := 90) dX12_changes_89 rfl rfl ?_
    refine st_getR (q := 93) 12 33 dX12_changes_90 fl_X12_90 (by decide) (by decide) rfl rfl (wfk w rfl) (wfR w rfl) ?_
    refine st_iload_n (q := 94) dX12_changes_93 rfl rfl ?_
    refine st_iload (q := 96) dX12_changes_94 rfl rfl ?_
    refine st_iastore (q := 97) dX12_changes_96 rfl (wfk w rfl) (wfb w (n := 4096) rfl ⟨by omega, by omega⟩) ?_
    first | refine n_iinc (q := 100) dX12_changes_97 rfl (by decide) rfl ⟨by omega, by omega⟩ ?_ | refine st_iinc (q := 100) dX12_changes_97 rfl (by decide) rfl ?_
    refine st_goto (q := 9) dX12_changes_100 (by decide) ?_
    exact lp_ch9 w0 hn hi b0 hK (s + 1) (by omega) _ _ _ _ (f.sI _ (Or.inr rfl)) (by rw [sI_ne _ _ _ _ (by decide)]; exact c1) (fun x hx => by by_cases e : x = s; (subst e; rw [show ((x : Int)).toNat = x from rfl, sI_s, c1]); (rw [show ((s : Int)).toNat = s from rfl, sI_k _ e]; exact n1 x (by omega)))
  refine st_iload_n (q := 10) dX12_changes_9 rfl rfl ?_
  refine st_iconst (q := 11) dX12_changes_10 ⟨by decide, by decide⟩ rfl ?_
  refine st_iconst (q := 12) dX12_changes_11 ⟨by decide, by decide⟩ rfl ?_
  refine st_iload_n (q := 13) dX12_changes_12 rfl rfl ?_
  first | refine n_imul (q := 14) dX12_changes_13 rfl ⟨by omega, by omega⟩ ?_ | refine st_imul (q := 14) dX12_changes_13 rfl ?_
  refine st_ishl (q := 15) dX12_changes_14 rfl ?_
  refine j_top ((4 ^ n : Nat) : Int) (ishl1 hn) ?_
  refine st_icmp_ge (q := 18) (tgt := 103) dX12_changes_15 (by decide) rfl (fun c15 => ?_) (fun c15 => ?_)
  · refine st_iconst (q := 104) dX12_changes_103 ⟨by decide, by decide⟩ rfl ?_
    refine st_istore_n (q := 105) (i := 3) dX12_changes_104 rfl (by decide) rfl ?_
    exact lp_ch105 w hn (fun h2 j3 j4 j5 j6 f2 c2 => hK h2 j3 j4 j5 j6 (f.tr f2) (fun x hx => (c2 x hx).trans (n1 x (by omega)))) 0 (Nat.zero_le _) _ _ _ _ Fr.rf (fun _ => rfl) (fun x hx => absurd hx (by omega))
  · refine st_ldc (q := 20) (x := 1000000) dX12_changes_18 ⟨by decide, by decide⟩ co_X12_224 rfl ?_
    refine st_istore (q := 22) dX12_changes_20 (by decide) rfl ?_
    refine st_iconst (q := 23) dX12_changes_22 ⟨by decide, by decide⟩ rfl ?_
    refine st_istore (q := 25) dX12_changes_23 (by decide) rfl ?_
    exact lp_ch25 w hn hi (by omega) (by rw [c1]; exact b0) (nx (by omega)) 0 (Nat.zero_le _) _
termination_by 4 ^ n - s
theorem lp_ch2 {d : Nat} {h0 : JH} {P : JH → Prop} {n : Nat} (w0 : WF h0) (hn : n ≤ 6) (hP : ∀ h', Fr ScCo h0 h' → bdC 4 n (hI h' 140) → ChP 4 n n (hI h0 140) (hI h' 140) → P h') (i : Nat) (hi : i ≤ n) : ∀ h' j3 j4 j5 j6, Fr ScCo h0 h' → bdC 4 n (hI h' 140) → ChP 4 n i (hI h0 140) (hI h' 140) → JAt k0 (d + 1) jX12_changes 2 [vr 117, vi n, vi i, j3, j4, j5, j6] [] h' (jqv P) := by
  intro h' j3 j4 j5 j6 f b c
  have w := f.wf w0
  have nx : i < n → ∀ h2 j3 j4 j5 j6, Fr ScCo h' h2 → (∀ x, x < 4 ^ n → hI h2 140 x = mnF (gOf (hI h' 140) n i x) 4) → JAt k0 (d + 1) jX12_changes 132 [vr 117, vi n, vi i, j3, j4, j5, j6] [] h2 (jqv P) := by
    intro hi4 h2 j3 j4 j5 j6 f2 e2
    first | refine n_iinc (q := 135) dX12_changes_132 rfl (by decide) rfl ⟨by omega, by omega⟩ ?_ | refine st_iinc (q := 135) dX12_changes_132 rfl (by decide) rfl ?_
    refine st_goto (q := 2) dX12_changes_135 (by decide) ?_
    exact lp_ch2 w0 hn hP (i + 1) (by omega) _ _ _ _ _ (f.tr f2) (fun x hx => by rw [e2 x hx]; exact mnF_b 4 (fun a ha => (gOf_b b ha).1)) (c.s hi4 (mn_St hi4 b e2))
  refine st_iload_n (q := 3) dX12_changes_2 rfl rfl ?_
  refine st_iload_n (q := 4) dX12_changes_3 rfl rfl ?_
  refine st_icmp_ge (q := 7) (tgt := 138) dX12_changes_4 (by decide) rfl (fun c4 => ?_) (fun c4 => ?_)
  · refine rt_v dX12_changes_138 rfl ?_
    have e : i = n := by omega
    subst e
    exact hP _ f b c
  · refine st_iconst (q := 8) dX12_changes_7 ⟨by decide, by decide⟩ rfl ?_
    refine st_istore_n (q := 9) (i := 3) dX12_changes_8 rfl (by decide) rfl ?_
    exact lp_ch9 w hn (by omega) b (nx (by omega)) 0 (Nat.zero_le _) _ _ _ _ Fr.rf rfl (fun x hx => absurd hx (by omega))
termination_by n - i
theorem c_X12_changes {d : Nat} {h : JH} {P : JH → Prop} {n : Nat} (w : WF h) (hn : n ≤ 6) (b : bdC 4 n (hI h 140)) (hP : ∀ h', Fr ScCo h h' → bdC 4 n (hI h' 140) → ChP 4 n n (hI h 140) (hI h' 140) → P h') : JRv (d + 1) jX12_changes [vr 117, vi n] h P := by
  refine JRet.of rfl (Nat.le_of_ble_eq_true rfl) ?_
  refine st_iconst (q := 1) dX12_changes_0 ⟨by decide, by decide⟩ rfl ?_
  refine st_istore_n (q := 2) (i := 2) dX12_changes_1 rfl (by decide) rfl ?_
  exact lp_ch2 w hn hP 0 (Nat.zero_le _) _ _ _ _ _ Fr.rf b (ChP.z (fun _ _ => rfl))

