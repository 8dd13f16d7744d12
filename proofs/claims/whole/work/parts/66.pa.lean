/-! texts of scenes, read: plain functions, and the reference's reading -/
def chT (T : Nat → Int) (n p : Nat) : Int := if p < n then T p else -9
def numP (C : Nat → Int) (p : Nat) : Nat × Int := if 48 ≤ C p ∧ C p ≤ 57 then (if 48 ≤ C (p + 1) ∧ C (p + 1) ≤ 57 then (p + 2, 10 * (C p - 48) + (C (p + 1) - 48)) else (p + 1, C p - 48)) else (p, 0)
def ltK (c : Int) : Nat := (if c < 97 then c - 65 else c - 97).toNat
def hidP (C : Nat → Int) : Nat → Nat → Nat → Nat → Bool × Nat × Nat × Nat
  | 0, p, sh, hd => (true, p, sh, hd)
  | m + 1, p, sh, hd => if (97 ≤ C p ∧ C p ≤ 104) ∨ (65 ≤ C p ∧ C p ≤ 72) then (if sh.testBit (ltK (C p)) = true ∨ (C p < 97 ∧ pcN hd 16 = 2) then (false, p, sh, hd) else hidP C m (p + 1) (sh ||| 2 ^ ltK (C p)) (if C p < 97 then hd ||| 2 ^ ltK (C p) else hd)) else (true, p, sh, hd)
/-- a scene, read from p on: whether it is one, where the reading ends, shown, in hand, least, most, kept -/
def scP (C : Nat → Int) (p : Nat) : Bool × Nat × Nat × Nat × Int × Int × Int :=
  let r := hidP C (61 - p) p 0 0
  let a := numP C r.2.1
  let b := numP C (a.1 + 1)
  let m := if C a.1 = 45 then b.2 else a.2
  let q := if C a.1 = 45 then b.1 else a.1
  let k : Int := if C q = 33 then 1 else 0
  if r.1 = false then (false, r.2.1, 0, 0, 0, 0, 0) else if a.2 < 1 then (false, a.1, 0, 0, 0, 0, 0) else if m < a.2 then (false, q, 0, 0, 0, 0, 0) else (true, q + k.toNat, r.2.2.1, r.2.2.2, a.2, m, k)
def blP (C : Nat → Int) : Nat → Nat → Nat
  | 0, p => p
  | m + 1, p => if C p = 32 then blP C m (p + 1) else p
def stP (C : Nat → Int) : Nat → Nat
  | 0 => blP C 60 0
  | s + 1 => (scP C (stP C s)).2.1 + 1
/-- where the scenes end, how many they are, whether one failed -/
def tP (C : Nat → Int) : Nat → Nat → Nat × Nat × Bool
  | 0, s => (stP C s, s, false)
  | m + 1, s => if (scP C (stP C s)).1 = false then ((scP C (stP C s)).2.1, s, true) else if C (scP C (stP C s)).2.1 = 47 ∧ s + 1 < 12 then tP C m (s + 1) else ((scP C (stP C s)).2.1, s + 1, false)
def flP (C : Nat → Int) (n : Nat) : Int := if (tP C 12 0).2.2 = true then ((tP C 12 0).1 : Int) else if n ≤ blP C 60 (tP C 12 0).1 then -9 else (blP C 60 (tP C 12 0).1 : Int)
theorem chT_lt {T : Nat → Int} {n p : Nat} (h : chT T n p ≠ -9) : p < n := by
  unfold chT at h
  by_cases z : p < n
  · exact z
  · rw [if_neg z] at h; exact absurd rfl h
theorem numP_b {T : Nat → Int} {n p : Nat} (hp : p ≤ n) : p ≤ (numP (chT T n) p).1 ∧ (numP (chT T n) p).1 ≤ n ∧ (0 ≤ (numP (chT T n) p).2 ∧ (numP (chT T n) p).2 ≤ 99) ∧ (1 ≤ (numP (chT T n) p).2 → p < (numP (chT T n) p).1) := by
  unfold numP
  by_cases z : 48 ≤ chT T n p ∧ chT T n p ≤ 57
  · have q := chT_lt (show chT T n p ≠ -9 by omega)
    rw [if_pos z]
    by_cases z2 : 48 ≤ chT T n (p + 1) ∧ chT T n (p + 1) ≤ 57
    · have q2 := chT_lt (show chT T n (p + 1) ≠ -9 by omega)
      rw [if_pos z2]
      exact ⟨by show p ≤ p + 2; omega, by show p + 2 ≤ n; omega, by show 0 ≤ 10 * (chT T n p - 48) + (chT T n (p + 1) - 48) ∧ 10 * (chT T n p - 48) + (chT T n (p + 1) - 48) ≤ 99; omega, fun _ => by show p < p + 2; omega⟩
    · rw [if_neg z2]
      exact ⟨by show p ≤ p + 1; omega, by show p + 1 ≤ n; omega, by show 0 ≤ chT T n p - 48 ∧ chT T n p - 48 ≤ 99; omega, fun _ => by show p < p + 1; omega⟩
  · rw [if_neg z]
    exact ⟨Nat.le_refl _, hp, by show (0 : Int) ≤ 0 ∧ (0 : Int) ≤ 99; omega, fun t => by have t : (1 : Int) ≤ 0 := t; omega⟩
theorem ltK_lt {c : Int} (h : (97 ≤ c ∧ c ≤ 104) ∨ (65 ≤ c ∧ c ≤ 72)) : ltK c < 8 := by unfold ltK; split <;> omega
theorem pc_or1 {a k : Nat} (hk : k < 8) : pcN (a ||| 2 ^ k) 16 ≤ pcN a 16 + 1 := by
  have := pcN_or a (2 ^ k) 16
  rw [pcN_pow k hk] at this
  exact this
/-- texts of the reference -/
def TM (h : JH) (t : Nat) (T : Nat → Int) (n : Nat) : Prop := hI h 122 t = (n : Int) ∧ ∀ i, i < n → hI h 123 (60 * t + i) = T i
def ScS (s a k : Nat) : Prop := (a = 117 ∧ (k = 21 ∨ k = 27 ∨ k = 28)) ∨ (132 ≤ a ∧ a ≤ 136 ∧ k = s)
theorem scS_M {s : Nat} : ∀ a k, ScS s a k → ScM a k := by intro a k z; unfold ScS at z; unfold ScM; omega
theorem TM.fr {h h' : JH} {t n s : Nat} {T : Nat → Int} (x : TM h t T n) (f : Fr (ScS s) h h') : TM h' t T n := ⟨(f.2.2 _ _ (by unfold ScS; omega)).trans x.1, fun i hi => (f.2.2 _ _ (by unfold ScS; omega)).trans (x.2 i hi)⟩
theorem sS_21 {s : Nat} : ScS s 117 21 := by unfold ScS; omega
theorem sS_27 {s : Nat} : ScS s 117 27 := by unfold ScS; omega
theorem sS_28 {s : Nat} : ScS s 117 28 := by unfold ScS; omega
theorem c_X12_here {d : Nat} {h : JH} {P : Int → JH → Prop} {t n p : Nat} {T : Nat → Int} (w : WF h) (x : TM h t T n) (ht : t < 4) (hn : n ≤ 60) (hp : hI h 117 27 = (p : Int)) (hP : P (chT T n p) h) : JRi d jX12_here [vr 117, vi t] h P := by
  have x1 : hI h 122 ((t : Int)).toNat = (n : Int) := x.1
  refine JRet.of rfl (Nat.le_of_ble_eq_true rfl) ?_
  refine st_aload_n (q := 1) dX12_here_0 rfl rfl ?_
  refine st_getI (q := 4) 12 27 dX12_here_1 fl_X12_191 (by decide) (by decide) rfl rfl (wfk w rfl) ?_
  refine st_aload_n (q := 5) dX12_here_4 rfl rfl ?_
  refine st_getR (q := 8) 12 8 dX12_here_5 fl_X12_26 (by decide) (by decide) rfl rfl (wfk w rfl) (wfR w rfl) ?_
  refine st_iload_n (q := 9) dX12_here_8 rfl rfl ?_
  refine st_iaload (q := 10) dX12_here_9 rfl (wfk w rfl) (wfb w (n := 4) rfl ⟨by omega, by omega⟩) ?_
  refine st_icmp_ge (q := 13) (tgt := 30) dX12_here_10 (by decide) rfl (fun c10 => ?_) (fun c10 => ?_)
  · refine st_bipush (q := 32) dX12_here_30 ⟨by decide, by decide⟩ rfl ?_
    refine rt_i dX12_here_32 rfl ?_
    first | (refine pq hP ?_ rfl; unfold chT; rw [if_pos (by omega), show (60 * (t : Int) + p).toNat = 60 * t + p by omega]; exact (x.2 p (by omega)).symm) | (refine pq hP ?_ rfl; unfold chT; rw [if_neg (by omega)])
  · refine st_aload_n (q := 14) dX12_here_13 rfl rfl ?_
    refine st_getR (q := 17) 12 9 dX12_here_14 fl_X12_29 (by decide) (by decide) rfl rfl (wfk w rfl) (wfR w rfl) ?_
    refine st_bipush (q := 19) dX12_here_17 ⟨by decide, by decide⟩ rfl ?_
    refine st_iload_n (q := 20) dX12_here_19 rfl rfl ?_
    first | refine n_imul (q := 21) dX12_here_20 rfl ⟨by omega, by omega⟩ ?_ | refine st_imul (q := 21) dX12_here_20 rfl ?_
    refine st_aload_n (q := 22) dX12_here_21 rfl rfl ?_
    refine st_getI (q := 25) 12 27 dX12_here_22 fl_X12_191 (by decide) (by decide) rfl rfl (wfk w rfl) ?_
    first | refine n_iadd (q := 26) dX12_here_25 rfl ⟨by omega, by omega⟩ ?_ | refine st_iadd (q := 26) dX12_here_25 rfl ?_
    refine j_top (60 * (t : Int) + p) (by rw [hp]) ?_
    refine st_iaload (q := 27) dX12_here_26 rfl (wfk w rfl) (wfb w (n := 240) rfl ⟨by omega, by omega⟩) ?_
    refine st_goto (q := 32) dX12_here_27 (by decide) ?_
    refine rt_i dX12_here_32 rfl ?_
    first | (refine pq hP ?_ rfl; unfold chT; rw [if_pos (by omega), show (60 * (t : Int) + p).toNat = 60 * t + p by omega]; exact (x.2 p (by omega)).symm) | (refine pq hP ?_ rfl; unfold chT; rw [if_neg (by omega)])
theorem c_X12_readsNumber {d : Nat} {h : JH} {P : Int → JH → Prop} {t n p s : Nat} {T : Nat → Int} {fr : Int} (w : WF h) (x : TM h t T n) (ht : t < 4) (hn : n ≤ 60) (hp : hI h 117 27 = (p : Int)) (hpn : p ≤ n) (hP : ∀ h', Fr (ScS s) h h' → hI h' 117 21 = hI h 117 21 → (∀ a k, a ≠ 117 → hI h' a k = hI h a k) → hI h' 117 27 = ((numP (chT T n) p).1 : Int) → hI h' 117 28 = (numP (chT T n) p).2 → P (if p < (numP (chT T n) p).1 ∧ fr ≤ (numP (chT T n) p).2 then 1 else 0) h') : JRi (d + 1) jX12_readsNumber [vr 117, vi t, vi fr] h P := by
  have nb := numP_b (T := T) hpn
  generalize hC : chT T n = C at *
  have hE : ∀ h' (q : Nat) (v : Int), Fr (ScS s) h h' → hI h' 117 21 = hI h 117 21 → (∀ a k, a ≠ 117 → hI h' a k = hI h a k) → hI h' 117 27 = (q : Int) → hI h' 117 28 = v → (q, v) = numP C p → JAt k0 (d + 1) jX12_readsNumber 68 [vr 117, vi t, vi fr, vi p] [] h' (jqi P) := by
    intro h' q v f g21 ga g27 g28 e
    have e1 : q = (numP C p).1 := congrArg Prod.fst e
    have e2 : v = (numP C p).2 := congrArg Prod.snd e
    have w' := f.wf w
    refine st_aload_n (q := 69) dX12_readsNumber_68 rfl rfl ?_
    refine st_getI (q := 72) 12 27 dX12_readsNumber_69 fl_X12_191 (by decide) (by decide) rfl rfl (wfk w' rfl) ?_
    refine st_iload_n (q := 73) dX12_readsNumber_72 rfl rfl ?_
    apply j_mg 89
    · intro K1 K2
      refine st_icmp_le (q := 76) (tgt := 88) dX12_readsNumber_73 (by decide) rfl (fun c73 => ?_) (fun c73 => ?_)
      · refine st_iconst (q := 89) dX12_readsNumber_88 ⟨by decide, by decide⟩ rfl ?_
        exact K1 c73
      · refine st_aload_n (q := 77) dX12_readsNumber_76 rfl rfl ?_
        refine st_getI (q := 80) 12 28 dX12_readsNumber_77 fl_X12_194 (by decide) (by decide) rfl rfl (wfk w' rfl) ?_
        refine st_iload_n (q := 81) dX12_readsNumber_80 rfl rfl ?_
        apply j_mg 89
        · intro K3 K4
          refine st_icmp_lt (q := 84) (tgt := 88) dX12_readsNumber_81 (by decide) rfl (fun c81 => ?_) (fun c81 => ?_)
          · refine st_iconst (q := 89) dX12_readsNumber_88 ⟨by decide, by decide⟩ rfl ?_
            exact K3 c81
          · refine st_iconst (q := 85) dX12_readsNumber_84 ⟨by decide, by decide⟩ rfl ?_
            refine st_goto (q := 89) dX12_readsNumber_85 (by decide) ?_
            exact K4 c81
        · simp only [jif_if]
          exact K2 c73
    · simp only [jif_if]
      refine rt_z dX12_readsNumber_89 rfl (by (repeat' split) <;> omega) ?_
      refine pq (hP _ f g21 ga (by rw [g27, e1]) (by rw [g28, e2])) ?_ rfl
      (repeat' split) <;> omega
  have hQ : ∀ h' (q : Nat) (v : Int) (b : Bool), q ≤ n → q = p + 2 ∨ (q = p + 1 ∧ (48 ≤ C p ∧ C p ≤ 57)) ∨ q = p → Fr (ScS s) h h' → hI h' 117 21 = hI h 117 21 → (∀ a k, a ≠ 117 → hI h' a k = hI h a k) → hI h' 117 27 = (q : Int) → hI h' 117 28 = v → (0 ≤ v ∧ v ≤ 99) → (q = p + 2 → (q, v) = numP C p) → (¬ (48 ≤ C q ∧ C q ≤ 57) → (q, v) = numP C p) → (q ≠ p + 2 → 48 ≤ C q ∧ C q ≤ 57 → ∀ h2, Fr (ScS s) h h2 → hI h2 117 21 = hI h 117 21 → (∀ a k, a ≠ 117 → hI h2 a k = hI h a k) → hI h2 117 27 = ((q + 1 : Nat) : Int) → hI h2 117 28 = 10 * v + C q - 48 → JAt k0 (d + 1) jX12_readsNumber 10 [vr 117, vi t, vi fr, vi p] [] h2 (jqi P)) → JAt k0 (d + 1) jX12_readsNumber 10 [vr 117, vi t, vi fr, vi p] [] h' (jqi P) := by
    intro h' q v b hq hqp f g21 ga g27 g28 hv k1 k2 k3
    have w' := f.wf w
    have x' : TM h' t T n := x.fr f
    refine st_aload_n (q := 11) dX12_readsNumber_10 rfl rfl ?_
    refine st_getI (q := 14) 12 27 dX12_readsNumber_11 fl_X12_191 (by decide) (by decide) rfl rfl (wfk w' rfl) ?_
    refine st_iload_n (q := 15) dX12_readsNumber_14 rfl rfl ?_
    first | refine n_isub (q := 16) dX12_readsNumber_15 rfl ⟨by omega, by omega⟩ ?_ | refine st_isub (q := 16) dX12_readsNumber_15 rfl ?_
    refine st_iconst (q := 17) dX12_readsNumber_16 ⟨by decide, by decide⟩ rfl ?_
    refine st_icmp_ge (q := 20) (tgt := 68) dX12_readsNumber_17 (by decide) rfl (fun c17 => ?_) (fun c17 => ?_)
    · first | exact hE _ q v f g21 ga g27 g28 (k1 (by omega)) | exact hE _ q v f g21 ga g27 g28 (k2 (by omega))
    · refine st_aload_n (q := 21) dX12_readsNumber_20 rfl rfl ?_
      refine st_iload_n (q := 22) dX12_readsNumber_21 rfl rfl ?_
      refine iV1i (q := 25) dX12_readsNumber_22 rfl ml_X12_197 mv_X12_here (Nat.le_of_ble_eq_true rfl) (wfk w' rfl) ?_
      refine c_X12_here w' x' ht hn g27 ?_
      rw [hC]
      refine st_bipush (q := 27) dX12_readsNumber_25 ⟨by decide, by decide⟩ rfl ?_
      refine st_bipush (q := 29) dX12_readsNumber_27 ⟨by decide, by decide⟩ rfl ?_
      refine iS3i (q := 32) dX12_readsNumber_29 rfl ml_X12_130 ms_X12_in (Nat.le_of_ble_eq_true rfl) ?_
      refine c_X12_in ?_
      refine st_if_eq (q := 35) (tgt := 68) dX12_readsNumber_32 (by decide) rfl (fun c32 => ?_) (fun c32 => ?_)
      · first | exact hE _ q v f g21 ga g27 g28 (k1 (by omega)) | exact hE _ q v f g21 ga g27 g28 (k2 (by omega))
      · refine st_aload_n (q := 36) dX12_readsNumber_35 rfl rfl ?_
        refine st_bipush (q := 38) dX12_readsNumber_36 ⟨by decide, by decide⟩ rfl ?_
        refine st_aload_n (q := 39) dX12_readsNumber_38 rfl rfl ?_
        refine st_getI (q := 42) 12 28 dX12_readsNumber_39 fl_X12_194 (by decide) (by decide) rfl rfl (wfk w' rfl) ?_
        refine j_top v g28 ?_
        first | refine n_imul (q := 43) dX12_readsNumber_42 rfl ⟨by omega, by omega⟩ ?_ | refine st_imul (q := 43) dX12_readsNumber_42 rfl ?_
        refine st_aload_n (q := 44) dX12_readsNumber_43 rfl rfl ?_
        refine st_iload_n (q := 45) dX12_readsNumber_44 rfl rfl ?_
        refine iV1i (q := 48) dX12_readsNumber_45 rfl ml_X12_197 mv_X12_here (Nat.le_of_ble_eq_true rfl) (wfk w' rfl) ?_
        refine c_X12_here w' x' ht hn g27 ?_
        rw [hC]
        first | refine n_iadd (q := 49) dX12_readsNumber_48 rfl ⟨by omega, by omega⟩ ?_ | refine st_iadd (q := 49) dX12_readsNumber_48 rfl ?_
        refine st_bipush (q := 51) dX12_readsNumber_49 ⟨by decide, by decide⟩ rfl ?_
        first | refine n_isub (q := 52) dX12_readsNumber_51 rfl ⟨by omega, by omega⟩ ?_ | refine st_isub (q := 52) dX12_readsNumber_51 rfl ?_
        refine st_putI (q := 55) 12 28 dX12_readsNumber_52 fl_X12_194 (by decide) (by decide) (Or.inl rfl) rfl (Or.inl rfl) (wfk w' rfl) ?_
        refine st_aload_n (q := 56) dX12_readsNumber_55 rfl rfl ?_
        refine st_dup (q := 57) dX12_readsNumber_56 rfl rfl ?_
        refine st_getI (q := 60) 12 27 dX12_readsNumber_57 fl_X12_191 (by decide) (by decide) rfl rfl (wfk w' rfl) ?_
        refine j_top (q : Int) (by rw [sI_k _ (by decide)]; exact g27) ?_
        refine st_iconst (q := 61) dX12_readsNumber_60 ⟨by decide, by decide⟩ rfl ?_
        first | refine n_iadd (q := 62) dX12_readsNumber_61 rfl ⟨by omega, by omega⟩ ?_ | refine st_iadd (q := 62) dX12_readsNumber_61 rfl ?_
        refine st_putI (q := 65) 12 27 dX12_readsNumber_62 fl_X12_191 (by decide) (by decide) (Or.inl rfl) rfl (Or.inl rfl) (wfk w' rfl) ?_
        refine st_goto (q := 10) dX12_readsNumber_65 (by decide) ?_
        exact k3 (by omega) (by omega) _ ((f.sI _ sS_28).sI _ sS_27) (by rw [sI_k _ (by decide), sI_k _ (by decide)]; exact g21) (fun a k hne => by rw [sI_o _ hne, sI_o _ hne]; exact ga a k hne) (by rw [sI_s]; omega) (by rw [sI_k _ (by decide), sI_s])
  have lt : ∀ q, 48 ≤ C q ∧ C q ≤ 57 → q < n := fun q z => chT_lt (T := T) (by rw [hC]; omega)
  refine JRet.of rfl (Nat.le_of_ble_eq_true rfl) ?_
  refine st_aload_n (q := 1) dX12_readsNumber_0 rfl rfl ?_
  refine st_getI (q := 4) 12 27 dX12_readsNumber_1 fl_X12_191 (by decide) (by decide) rfl rfl (wfk w rfl) ?_
  refine j_top (p : Int) hp ?_
  refine st_istore_n (q := 5) (i := 3) dX12_readsNumber_4 rfl (by decide) rfl ?_
  refine st_aload_n (q := 6) dX12_readsNumber_5 rfl rfl ?_
  refine st_iconst (q := 7) dX12_readsNumber_6 ⟨by decide, by decide⟩ rfl ?_
  refine st_putI (q := 10) 12 28 dX12_readsNumber_7 fl_X12_194 (by decide) (by decide) (Or.inl rfl) rfl (Or.inl rfl) (wfk w rfl) ?_
  refine hQ _ p 0 true hpn (Or.inr (Or.inr rfl)) (Fr.rf.sI _ sS_28) (by rw [sI_k _ (by decide)]) (fun a k hne => by rw [sI_o _ hne]) (by rw [sI_k _ (by decide)]; exact hp) (by rw [sI_s]) (by omega) (fun e => by omega) (fun z => by unfold numP; rw [if_neg z]) (fun _ z h2 f2 g21 ga g27 g28 => ?_)
  refine hQ _ (p + 1) (C p - 48) true (by have := lt p z; omega) (Or.inr (Or.inl ⟨rfl, z⟩)) f2 g21 ga g27 (by rw [g28]; omega) (by omega) (fun e => by omega) (fun z2 => by unfold numP; rw [if_pos z, if_neg z2]) (fun _ z2 h3 f3 k21 ka k27 k28 => ?_)
  exact hQ _ (p + 2) (10 * (C p - 48) + (C (p + 1) - 48)) true (by have := lt (p + 1) z2; omega) (Or.inl rfl) f3 k21 ka k27 (by rw [k28]; omega) (by omega) (fun _ => by unfold numP; rw [if_pos z, if_pos z2]) (fun _ => by unfold numP; rw [if_pos z, if_pos z2]) (fun ne => absurd rfl ne)

