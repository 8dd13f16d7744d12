/-! hands: the class's changes -/
def mi2 (a b : Int) : Int := if a ≤ b then a else b
def tri (t u v : Int) (e : Nat) : Int := if e = 0 then mi2 t (mi2 (v + 1) (u + 2)) else if e = 1 then mi2 u (mi2 (v + 1) (t + 2)) else mi2 v (mi2 t u + 1)
theorem mi2_l (a b : Int) : mi2 a b ≤ a ∧ mi2 a b ≤ b ∧ (mi2 a b = a ∨ mi2 a b = b) := by unfold mi2; split <;> omega
def pk3 (t u v : Int) (a : Nat) : Int := if a = 0 then t else if a = 1 then u else v
theorem chg_3 : chg (0 : Nat) (0 : Nat) = 0 ∧ chg (0 : Nat) (1 : Nat) = 2 ∧ chg (0 : Nat) (2 : Nat) = 1 ∧ chg (1 : Nat) (0 : Nat) = 2 ∧ chg (1 : Nat) (1 : Nat) = 0 ∧ chg (1 : Nat) (2 : Nat) = 1 ∧ chg (2 : Nat) (0 : Nat) = 1 ∧ chg (2 : Nat) (1 : Nat) = 1 ∧ chg (2 : Nat) (2 : Nat) = 0 := by decide +kernel
theorem tri_le {t u v : Int} {e a : Nat} (he : e < 3) (ha : a < 3) : tri t u v e ≤ pk3 t u v a + chg (a : Nat) (e : Nat) := by
  have c := chg_3
  have m1 := mi2_l (v + 1) (u + 2)
  have m2 := mi2_l t (mi2 (v + 1) (u + 2))
  have m3 := mi2_l (v + 1) (t + 2)
  have m4 := mi2_l u (mi2 (v + 1) (t + 2))
  have m5 := mi2_l t u
  have m6 := mi2_l v (mi2 t u + 1)
  rcases (show e = 0 ∨ e = 1 ∨ e = 2 by omega) with q | q | q <;> subst q <;> rcases (show a = 0 ∨ a = 1 ∨ a = 2 by omega) with q | q | q <;> subst q
  · show mi2 t (mi2 (v + 1) (u + 2)) ≤ t + chg (0 : Nat) (0 : Nat); omega
  · show mi2 t (mi2 (v + 1) (u + 2)) ≤ u + chg (1 : Nat) (0 : Nat); omega
  · show mi2 t (mi2 (v + 1) (u + 2)) ≤ v + chg (2 : Nat) (0 : Nat); omega
  · show mi2 u (mi2 (v + 1) (t + 2)) ≤ t + chg (0 : Nat) (1 : Nat); omega
  · show mi2 u (mi2 (v + 1) (t + 2)) ≤ u + chg (1 : Nat) (1 : Nat); omega
  · show mi2 u (mi2 (v + 1) (t + 2)) ≤ v + chg (2 : Nat) (1 : Nat); omega
  · show mi2 v (mi2 t u + 1) ≤ t + chg (0 : Nat) (2 : Nat); omega
  · show mi2 v (mi2 t u + 1) ≤ u + chg (1 : Nat) (2 : Nat); omega
  · show mi2 v (mi2 t u + 1) ≤ v + chg (2 : Nat) (2 : Nat); omega
theorem tri_ex {t u v : Int} {e : Nat} (he : e < 3) : ∃ a, a < 3 ∧ tri t u v e = pk3 t u v a + chg (a : Nat) (e : Nat) := by
  have c := chg_3
  have m1 := mi2_l (v + 1) (u + 2)
  have m2 := mi2_l t (mi2 (v + 1) (u + 2))
  have m3 := mi2_l (v + 1) (t + 2)
  have m4 := mi2_l u (mi2 (v + 1) (t + 2))
  have m5 := mi2_l t u
  have m6 := mi2_l v (mi2 t u + 1)
  have k : ∀ x : Int, (x = t + chg (0 : Nat) (e : Nat) ∨ x = u + chg (1 : Nat) (e : Nat) ∨ x = v + chg (2 : Nat) (e : Nat)) → ∃ a, a < 3 ∧ x = pk3 t u v a + chg (a : Nat) (e : Nat) := fun x hx => by
    rcases hx with z | z | z
    · exact ⟨0, by decide, z⟩
    · exact ⟨1, by decide, z⟩
    · exact ⟨2, by decide, z⟩
  apply k
  rcases (show e = 0 ∨ e = 1 ∨ e = 2 by omega) with q | q | q <;> subst q
  · show mi2 t (mi2 (v + 1) (u + 2)) = _ ∨ mi2 t (mi2 (v + 1) (u + 2)) = _ ∨ mi2 t (mi2 (v + 1) (u + 2)) = _; omega
  · show mi2 u (mi2 (v + 1) (t + 2)) = _ ∨ mi2 u (mi2 (v + 1) (t + 2)) = _ ∨ mi2 u (mi2 (v + 1) (t + 2)) = _; omega
  · show mi2 v (mi2 t u + 1) = _ ∨ mi2 v (mi2 t u + 1) = _ ∨ mi2 v (mi2 t u + 1) = _; omega
theorem w3_I (h : JH) (a b c e : Nat) (v0 v1 v2 : Int) (x : Nat) : hI (sI (sI (sI h a b v0) a c v1) a e v2) a x = if x = e then v2 else if x = c then v1 else if x = b then v0 else hI h a x := by
  by_cases z2 : x = e
  · subst z2; rw [sI_s, if_pos rfl]
  · rw [sI_k _ z2, if_neg z2]
    by_cases z1 : x = c
    · subst z1; rw [sI_s, if_pos rfl]
    · rw [sI_k _ z1, if_neg z1]
      by_cases z0 : x = b
      · subst z0; rw [sI_s, if_pos rfl]
      · rw [sI_k _ z0, if_neg z0]
def ScXc (a _k : Nat) : Prop := a = 43
theorem c_X1_changeOne {d : Nat} {h : JH} {P : JH → Prop} {b p : Nat} (w : WF h) (hb : b + 2 * p < 729) (c0 : 0 ≤ hI h 43 b ∧ hI h 43 b ≤ 1000000) (c1 : 0 ≤ hI h 43 (b + p) ∧ hI h 43 (b + p) ≤ 1000000) (c2 : 0 ≤ hI h 43 (b + 2 * p) ∧ hI h 43 (b + 2 * p) ≤ 1000000) (hP : ∀ h', Fr ScXc h h' → (∀ x, hI h' 43 x = if x = b + 2 * p then tri (hI h 43 b) (hI h 43 (b + p)) (hI h 43 (b + 2 * p)) 2 else if x = b + p then tri (hI h 43 b) (hI h 43 (b + p)) (hI h 43 (b + 2 * p)) 1 else if x = b then tri (hI h 43 b) (hI h 43 (b + p)) (hI h 43 (b + 2 * p)) 0 else hI h 43 x) → P h') : JRv (d + 1) jX1_changeOne [vr 41, vi b, vi p] h P := by
  have z := hP _ (((Fr.rf.sI _ (show ScXc 43 b from rfl)).sI _ (show ScXc 43 (b + p) from rfl)).sI _ (show ScXc 43 (b + 2 * p) from rfl)) (w3_I h 43 b (b + p) (b + 2 * p) _ _ _)
  refine JRet.of rfl (Nat.le_of_ble_eq_true rfl) ?_
  refine st_iload_n (q := 1) dX1_changeOne_0 rfl rfl ?_
  refine st_if_lt (q := 4) (tgt := 19) dX1_changeOne_1 (by decide) rfl (fun c1 => ?_) (fun c1 => ?_)
  · refine rt_v dX1_changeOne_19 rfl ?_
    first | (exfalso; omega) | exact z
  · refine st_iload_n (q := 5) dX1_changeOne_4 rfl rfl ?_
    refine st_if_lt (q := 8) (tgt := 19) dX1_changeOne_5 (by decide) rfl (fun c5 => ?_) (fun c5 => ?_)
    · refine rt_v dX1_changeOne_19 rfl ?_
      first | (exfalso; omega) | exact z
    · refine st_iload_n (q := 9) dX1_changeOne_8 rfl rfl ?_
      refine st_iconst (q := 10) dX1_changeOne_9 ⟨by decide, by decide⟩ rfl ?_
      refine st_iload_n (q := 11) dX1_changeOne_10 rfl rfl ?_
      first | refine n_imul (q := 12) dX1_changeOne_11 rfl ⟨by omega, by omega⟩ ?_ | refine st_imul (q := 12) dX1_changeOne_11 rfl ?_
      first | refine n_iadd (q := 13) dX1_changeOne_12 rfl ⟨by omega, by omega⟩ ?_ | refine st_iadd (q := 13) dX1_changeOne_12 rfl ?_
      refine st_sipush (q := 16) dX1_changeOne_13 ⟨by decide, by decide⟩ rfl ?_
      refine st_icmp_lt (q := 19) (tgt := 20) dX1_changeOne_16 (by decide) rfl (fun c16 => ?_) (fun c16 => ?_)
      · refine st_aload_n (q := 21) dX1_changeOne_20 rfl rfl ?_
        refine st_getR (q := 24) 1 1 dX1_changeOne_21 fl_X1_15 (by decide) (by decide) rfl rfl (wfk w rfl) (wfR w rfl) ?_
        refine st_iload_n (q := 25) dX1_changeOne_24 rfl rfl ?_
        refine st_iaload (q := 26) dX1_changeOne_25 rfl (wfk w rfl) (wfb w (n := 729) rfl ⟨by omega, by omega⟩) ?_
        refine j_top (hI h 43 b) rfl ?_
        refine st_istore_n (q := 27) (i := 3) dX1_changeOne_26 rfl (by decide) rfl ?_
        refine st_aload_n (q := 28) dX1_changeOne_27 rfl rfl ?_
        refine st_getR (q := 31) 1 1 dX1_changeOne_28 fl_X1_15 (by decide) (by decide) rfl rfl (wfk w rfl) (wfR w rfl) ?_
        refine st_iload_n (q := 32) dX1_changeOne_31 rfl rfl ?_
        refine st_iload_n (q := 33) dX1_changeOne_32 rfl rfl ?_
        first | refine n_iadd (q := 34) dX1_changeOne_33 rfl ⟨by omega, by omega⟩ ?_ | refine st_iadd (q := 34) dX1_changeOne_33 rfl ?_
        refine j_top ((b + p : Nat) : Int) (by omega) ?_
        refine st_iaload (q := 35) dX1_changeOne_34 rfl (wfk w rfl) (wfb w (n := 729) rfl ⟨by omega, by omega⟩) ?_
        refine j_top (hI h 43 (b + p)) rfl ?_
        refine st_istore (q := 37) dX1_changeOne_35 (by decide) rfl ?_
        refine st_aload_n (q := 38) dX1_changeOne_37 rfl rfl ?_
        refine st_getR (q := 41) 1 1 dX1_changeOne_38 fl_X1_15 (by decide) (by decide) rfl rfl (wfk w rfl) (wfR w rfl) ?_
        refine st_iload_n (q := 42) dX1_changeOne_41 rfl rfl ?_
        refine st_iconst (q := 43) dX1_changeOne_42 ⟨by decide, by decide⟩ rfl ?_
        refine st_iload_n (q := 44) dX1_changeOne_43 rfl rfl ?_
        first | refine n_imul (q := 45) dX1_changeOne_44 rfl ⟨by omega, by omega⟩ ?_ | refine st_imul (q := 45) dX1_changeOne_44 rfl ?_
        first | refine n_iadd (q := 46) dX1_changeOne_45 rfl ⟨by omega, by omega⟩ ?_ | refine st_iadd (q := 46) dX1_changeOne_45 rfl ?_
        refine j_top ((b + 2 * p : Nat) : Int) (by omega) ?_
        refine st_iaload (q := 47) dX1_changeOne_46 rfl (wfk w rfl) (wfb w (n := 729) rfl ⟨by omega, by omega⟩) ?_
        refine j_top (hI h 43 (b + 2 * p)) rfl ?_
        refine st_istore (q := 49) dX1_changeOne_47 (by decide) rfl ?_
        refine st_aload_n (q := 50) dX1_changeOne_49 rfl rfl ?_
        refine st_getR (q := 53) 1 1 dX1_changeOne_50 fl_X1_15 (by decide) (by decide) rfl rfl (wfk w rfl) (wfR w rfl) ?_
        refine st_iload_n (q := 54) dX1_changeOne_53 rfl rfl ?_
        refine st_iload_n (q := 55) dX1_changeOne_54 rfl rfl ?_
        refine st_iload (q := 57) dX1_changeOne_55 rfl rfl ?_
        refine st_iconst (q := 58) dX1_changeOne_57 ⟨by decide, by decide⟩ rfl ?_
        first | refine n_iadd (q := 59) dX1_changeOne_58 rfl ⟨by omega, by omega⟩ ?_ | refine st_iadd (q := 59) dX1_changeOne_58 rfl ?_
        refine st_iload (q := 61) dX1_changeOne_59 rfl rfl ?_
        refine st_iconst (q := 62) dX1_changeOne_61 ⟨by decide, by decide⟩ rfl ?_
        first | refine n_iadd (q := 63) dX1_changeOne_62 rfl ⟨by omega, by omega⟩ ?_ | refine st_iadd (q := 63) dX1_changeOne_62 rfl ?_
        refine st_mmin (q := 66) dX1_changeOne_63 rfl ml_X1_68 (Nat.le_of_ble_eq_true rfl) ?_
        refine st_mmin (q := 69) dX1_changeOne_66 rfl ml_X1_68 (Nat.le_of_ble_eq_true rfl) ?_
        refine st_iastore (q := 70) dX1_changeOne_69 rfl (wfk w rfl) (wfb w (n := 729) rfl ⟨by omega, by omega⟩) ?_
        refine st_aload_n (q := 71) dX1_changeOne_70 rfl rfl ?_
        refine st_getR (q := 74) 1 1 dX1_changeOne_71 fl_X1_15 (by decide) (by decide) rfl rfl (wfk w rfl) (wfR w rfl) ?_
        refine st_iload_n (q := 75) dX1_changeOne_74 rfl rfl ?_
        refine st_iload_n (q := 76) dX1_changeOne_75 rfl rfl ?_
        first | refine n_iadd (q := 77) dX1_changeOne_76 rfl ⟨by omega, by omega⟩ ?_ | refine st_iadd (q := 77) dX1_changeOne_76 rfl ?_
        refine j_top ((b + p : Nat) : Int) (by omega) ?_
        refine st_iload (q := 79) dX1_changeOne_77 rfl rfl ?_
        refine st_iload (q := 81) dX1_changeOne_79 rfl rfl ?_
        refine st_iconst (q := 82) dX1_changeOne_81 ⟨by decide, by decide⟩ rfl ?_
        first | refine n_iadd (q := 83) dX1_changeOne_82 rfl ⟨by omega, by omega⟩ ?_ | refine st_iadd (q := 83) dX1_changeOne_82 rfl ?_
        refine st_iload_n (q := 84) dX1_changeOne_83 rfl rfl ?_
        refine st_iconst (q := 85) dX1_changeOne_84 ⟨by decide, by decide⟩ rfl ?_
        first | refine n_iadd (q := 86) dX1_changeOne_85 rfl ⟨by omega, by omega⟩ ?_ | refine st_iadd (q := 86) dX1_changeOne_85 rfl ?_
        refine st_mmin (q := 89) dX1_changeOne_86 rfl ml_X1_68 (Nat.le_of_ble_eq_true rfl) ?_
        refine st_mmin (q := 92) dX1_changeOne_89 rfl ml_X1_68 (Nat.le_of_ble_eq_true rfl) ?_
        refine st_iastore (q := 93) dX1_changeOne_92 rfl (wfk w rfl) (wfb w (n := 729) rfl ⟨by omega, by omega⟩) ?_
        refine st_aload_n (q := 94) dX1_changeOne_93 rfl rfl ?_
        refine st_getR (q := 97) 1 1 dX1_changeOne_94 fl_X1_15 (by decide) (by decide) rfl rfl (wfk w rfl) (wfR w rfl) ?_
        refine st_iload_n (q := 98) dX1_changeOne_97 rfl rfl ?_
        refine st_iconst (q := 99) dX1_changeOne_98 ⟨by decide, by decide⟩ rfl ?_
        refine st_iload_n (q := 100) dX1_changeOne_99 rfl rfl ?_
        first | refine n_imul (q := 101) dX1_changeOne_100 rfl ⟨by omega, by omega⟩ ?_ | refine st_imul (q := 101) dX1_changeOne_100 rfl ?_
        first | refine n_iadd (q := 102) dX1_changeOne_101 rfl ⟨by omega, by omega⟩ ?_ | refine st_iadd (q := 102) dX1_changeOne_101 rfl ?_
        refine j_top ((b + 2 * p : Nat) : Int) (by omega) ?_
        refine st_iload (q := 104) dX1_changeOne_102 rfl rfl ?_
        refine st_iload_n (q := 105) dX1_changeOne_104 rfl rfl ?_
        refine st_iload (q := 107) dX1_changeOne_105 rfl rfl ?_
        refine st_mmin (q := 110) dX1_changeOne_107 rfl ml_X1_68 (Nat.le_of_ble_eq_true rfl) ?_
        refine st_iconst (q := 111) dX1_changeOne_110 ⟨by decide, by decide⟩ rfl ?_
        first | refine n_iadd (q := 112) dX1_changeOne_111 rfl ⟨by omega, by omega⟩ ?_ | refine st_iadd (q := 112) dX1_changeOne_111 rfl ?_
        refine j_top (mi2 (hI h 43 b) (hI h 43 (b + p)) + 1) rfl ?_
        refine st_mmin (q := 115) dX1_changeOne_112 rfl ml_X1_68 (Nat.le_of_ble_eq_true rfl) ?_
        refine st_iastore (q := 116) dX1_changeOne_115 rfl (wfk w rfl) (wfb w (n := 729) rfl ⟨by omega, by omega⟩) ?_
        refine rt_v dX1_changeOne_116 rfl ?_
        first | (exfalso; omega) | exact z
      · refine rt_v dX1_changeOne_19 rfl ?_
        first | (exfalso; omega) | exact z
def ixc (p H e L : Nat) : Nat := 3 * (H * p) + e * p + L
theorem ixc_e (p H e L : Nat) : ixc p H e L = L + p * (e + 3 * H) := by
  unfold ixc
  rw [Nat.mul_add, Nat.mul_left_comm p 3, Nat.mul_comm p H, Nat.mul_comm p e]
  omega
theorem ixc_inj {p H e L H' e' L' : Nat} (hL : L < p) (hL' : L' < p) (he : e < 3) (he' : e' < 3) (q : ixc p H e L = ixc p H' e' L') : H = H' ∧ e = e' ∧ L = L' := by
  have k : ∀ H e L, L < p → ixc p H e L / p = e + 3 * H ∧ ixc p H e L % p = L := fun H e L hL => by
    rw [ixc_e, Nat.add_mul_div_left _ _ (by omega), Nat.div_eq_of_lt hL, Nat.zero_add, Nat.add_mul_mod_self_left, Nat.mod_eq_of_lt hL]
    exact ⟨rfl, rfl⟩
  have a1 := k H e L hL
  have a2 := k H' e' L' hL'
  rw [q] at a1
  omega
theorem ixc_lt {p N H e L : Nat} (hH : H < N) (he : e < 3) (hL : L < p) : ixc p H e L < 3 * (N * p) := by
  have h1 : (H + 1) * p ≤ N * p := Nat.mul_le_mul_right p hH
  rw [Nat.add_mul, Nat.one_mul] at h1
  have h2 : e * p ≤ 2 * p := Nat.mul_le_mul_right p (by omega)
  unfold ixc
  omega
def CIc (C C' : Nat → Int) (p N H L : Nat) : Prop := ∀ H' e L', H' < N → e < 3 → L' < p → C' (ixc p H' e L') = if H' < H ∨ (H' = H ∧ L' < L) then tri (C (ixc p H' 0 L')) (C (ixc p H' 1 L')) (C (ixc p H' 2 L')) e else C (ixc p H' e L')
theorem CIc.s {C C' C'' : Nat → Int} {p N H L : Nat} (c : CIc C C' p N H L) (hH : H < N) (hL : L < p) (e : ∀ x, C'' x = if x = ixc p H 2 L then tri (C' (ixc p H 0 L)) (C' (ixc p H 1 L)) (C' (ixc p H 2 L)) 2 else if x = ixc p H 1 L then tri (C' (ixc p H 0 L)) (C' (ixc p H 1 L)) (C' (ixc p H 2 L)) 1 else if x = ixc p H 0 L then tri (C' (ixc p H 0 L)) (C' (ixc p H 1 L)) (C' (ixc p H 2 L)) 0 else C' x) : CIc C C'' p N H (L + 1) := fun H' x L' h1 h2 h3 => by
  have o : ∀ x, x < 3 → C' (ixc p H x L) = C (ixc p H x L) := fun x hx => by rw [c H x L hH hx hL, if_neg (by omega)]
  rw [e, o 0 (by decide), o 1 (by decide), o 2 (by decide)]
  by_cases z : H' = H ∧ L' = L
  · rw [z.1, z.2, if_pos (show H < H ∨ (H = H ∧ L < L + 1) by omega)]
    rcases (show x = 0 ∨ x = 1 ∨ x = 2 by omega) with q | q | q <;> subst q
    · rw [if_neg (fun t => by have := ixc_inj hL hL (by decide) (by decide) t; omega), if_neg (fun t => by have := ixc_inj hL hL (by decide) (by decide) t; omega), if_pos rfl]
    · rw [if_neg (fun t => by have := ixc_inj hL hL (by decide) (by decide) t; omega), if_pos rfl]
    · rw [if_pos rfl]
  · have n : ∀ y, y < 3 → ¬ ixc p H' x L' = ixc p H y L := fun y hy t => by
      have := ixc_inj h3 hL h2 hy t
      omega
    rw [if_neg (n 2 (by decide)), if_neg (n 1 (by decide)), if_neg (n 0 (by decide)), c H' x L' h1 h2 h3]
    by_cases z2 : H' < H ∨ (H' = H ∧ L' < L)
    · rw [if_pos z2, if_pos (by omega)]
    · rw [if_neg z2, if_neg (by omega)]
theorem CIc.r {C C' : Nat → Int} {p N H : Nat} (c : CIc C C' p N H p) : CIc C C' p N (H + 1) 0 := fun H' x L' h1 h2 h3 => by
  rw [c H' x L' h1 h2 h3]
  by_cases z2 : H' < H ∨ (H' = H ∧ L' < p)
  · rw [if_pos z2, if_pos (by omega)]
  · rw [if_neg z2, if_neg (by omega)]
theorem CIc.z {C : Nat → Int} {p N : Nat} : CIc C C p N 0 0 := fun H' x L' h1 h2 h3 => by rw [if_neg (by omega)]
theorem tri_b {t u v : Int} {e : Nat} (he : e < 3) (h1 : 0 ≤ t ∧ t ≤ 1000000) (h2 : 0 ≤ u ∧ u ≤ 1000000) (h3 : 0 ≤ v ∧ v ≤ 1000000) : 0 ≤ tri t u v e ∧ tri t u v e ≤ 1000000 := by
  rcases (show e = 0 ∨ e = 1 ∨ e = 2 by omega) with q | q | q <;> subst q <;> simp only [tri, mi2] <;> (repeat' split) <;> omega
theorem CIc.st {C E : Nat → Int} {n k N : Nat} (hk : k < n) (hN : 3 ^ n = 3 * (N * 3 ^ k)) (c : CIc C E (3 ^ k) N N 0) : StP 3 n k C E := fun f df => by
  obtain ⟨r, hr⟩ := enc_sp (B := 3) (f := f) hk
  have hL : enc 3 f k < 3 ^ k := enc_lt (fun j hj => df j (by omega))
  have hl := enc_lt df
  have hp : 0 < 3 ^ k := Nat.pow_pos (by decide)
  have i0 : enc 3 f n = ixc (3 ^ k) r (f k) (enc 3 f k) := by rw [ixc_e]; exact hr
  have rN : r < N := by
    by_cases z : r < N
    · exact z
    · have := Nat.mul_le_mul_right (3 ^ k) (show N ≤ r by omega)
      unfold ixc at i0
      omega
  have ia : ∀ a, enc 3 (fup f k a) n = ixc (3 ^ k) r a (enc 3 f k) := fun a => by
    have := enc_up (B := 3) (f := f) (a := a) hk
    rw [i0] at this
    unfold ixc at this ⊢
    omega
  have e := c r (f k) (enc 3 f k) rN (df k hk) hL
  rw [if_pos (by omega), ← i0] at e
  have pk : ∀ a, a < 3 → pk3 (C (ixc (3 ^ k) r 0 (enc 3 f k))) (C (ixc (3 ^ k) r 1 (enc 3 f k))) (C (ixc (3 ^ k) r 2 (enc 3 f k))) a = C (enc 3 (fup f k a) n) := fun a ha => by
    rw [ia]
    rcases (show a = 0 ∨ a = 1 ∨ a = 2 by omega) with q | q | q <;> subst q <;> rfl
  refine ⟨fun a ha => ?_, ?_⟩
  · rw [e, ← pk a ha]; exact tri_le (df k hk) ha
  · obtain ⟨a, ha, h1⟩ := tri_ex (t := C (ixc (3 ^ k) r 0 (enc 3 f k))) (u := C (ixc (3 ^ k) r 1 (enc 3 f k))) (v := C (ixc (3 ^ k) r 2 (enc 3 f k))) (df k hk)
    exact ⟨a, ha, by rw [e, ← pk a ha]; exact h1⟩
theorem CIc.bd {C E : Nat → Int} {n k N : Nat} (hk : k < n) (hN : 3 ^ n = 3 * (N * 3 ^ k)) (c : CIc C E (3 ^ k) N N 0) (b : bdC 3 n C) : bdC 3 n E := fun x hx => by
  have ex := enc_of (B := 3) hx
  have df : Dg 3 n (dgF 3 x) := dgF_dg (by decide)
  obtain ⟨a, ha, h1⟩ := (c.st hk hN (dgF 3 x) df).2
  have h2 := (c.st hk hN (dgF 3 x) df).1 (dgF 3 x k) (df k hk)
  rw [chg_s, enc_cg (B := 3) (f := fup (dgF 3 x) k (dgF 3 x k)) (g := dgF 3 x) (fun j hj => by
        by_cases z : j = k
        · subst z; rw [fup_s]
        · rw [fup_o _ z])] at h2
  have h3 := b _ (enc_lt (fup_dg (i := k) (a := a) df ha))
  have h4 := chg_b (a : Nat) (dgF 3 x k : Nat)
  rw [ex] at h1 h2
  have h5 := b x hx
  omega
theorem lp_cg17 {d : Nat} {h0 : JH} {Q : Option JV → JH → Prop} {p N H M : Nat} (w0 : WF h0) (hM : M = 3 * (N * p)) (hM7 : M ≤ 729) (hH : H < N) (b : ∀ x, x < M → 0 ≤ hI h0 43 x ∧ hI h0 43 x ≤ 1000000) (hK : ∀ h' j4, Fr ScXc h0 h' → CIc (hI h0 43) (hI h' 43) p N H p → JAt k0 (d + 2) jX1_change 38 [vr 41, vi M, vi p, vi (3 * (H * p) : Nat), j4] [] h' Q) (L : Nat) (hL : L ≤ p) : ∀ h', Fr ScXc h0 h' → CIc (hI h0 43) (hI h' 43) p N H L → JAt k0 (d + 2) jX1_change 17 [vr 41, vi M, vi p, vi (3 * (H * p) : Nat), vi L] [] h' Q := by
  intro h' f c
  have w := f.wf w0
  have h1 : (H + 1) * p ≤ N * p := Nat.mul_le_mul_right p hH
  rw [Nat.add_mul, Nat.one_mul] at h1
  have i1 : ixc p H 0 L + p = ixc p H 1 L := by unfold ixc; omega
  have i2 : ixc p H 0 L + 2 * p = ixc p H 2 L := by unfold ixc; omega
  have bb : L < p → ∀ e, e < 3 → 0 ≤ hI h' 43 (ixc p H e L) ∧ hI h' 43 (ixc p H e L) ≤ 1000000 := fun z e he => by
    rw [c H e L hH he z, if_neg (by omega)]
    exact b _ (by rw [hM]; exact ixc_lt hH he z)
  have bl : L < p → ixc p H 2 L < 729 := fun z => by have := ixc_lt (N := N) hH (show 2 < 3 by decide) z; omega
  refine st_iload (q := 19) dX1_change_17 rfl rfl ?_
  refine st_iload_n (q := 20) dX1_change_19 rfl rfl ?_
  refine st_icmp_ge (q := 23) (tgt := 38) dX1_change_20 (by decide) rfl (fun c20 => ?_) (fun c20 => ?_)
  · have eL : L = p := by omega
    subst eL
    exact hK _ _ f c
  · refine st_aload_n (q := 24) dX1_change_23 rfl rfl ?_
    refine st_iload_n (q := 25) dX1_change_24 rfl rfl ?_
    refine st_iload (q := 27) dX1_change_25 rfl rfl ?_
    first | refine n_iadd (q := 28) dX1_change_27 rfl ⟨by omega, by omega⟩ ?_ | refine st_iadd (q := 28) dX1_change_27 rfl ?_
    refine j_top ((ixc p H 0 L : Nat) : Int) (by unfold ixc; omega) ?_
    refine st_iload_n (q := 29) dX1_change_28 rfl rfl ?_
    refine iV2v (q := 32) dX1_change_29 rfl ml_X1_65 mv_X1_changeOne (Nat.le_of_ble_eq_true rfl) (wfk w rfl) ?_
    have zL : L < p := (by omega)
    refine c_X1_changeOne w (by rw [i2]; exact bl zL) (bb zL 0 (by decide)) (by rw [i1]; exact bb zL 1 (by decide)) (by rw [i2]; exact bb zL 2 (by decide)) (fun h2 f2 e2 => ?_)
    rw [i1, i2] at e2
    first | refine n_iinc (q := 35) dX1_change_32 rfl (by decide) rfl ⟨by omega, by omega⟩ ?_ | refine st_iinc (q := 35) dX1_change_32 rfl (by decide) rfl ?_
    refine st_goto (q := 17) dX1_change_35 (by decide) ?_
    exact lp_cg17 w0 hM hM7 hH b hK (L + 1) (by omega) _ (f.tr f2) (c.s hH zL e2)
termination_by p - L
theorem lp_cg9 {d : Nat} {h0 : JH} {Q : Option JV → JH → Prop} {p N M : Nat} (w0 : WF h0) (hM : M = 3 * (N * p)) (hM7 : M ≤ 729) (hp : 0 < p) (b : ∀ x, x < M → 0 ≤ hI h0 43 x ∧ hI h0 43 x ≤ 1000000) (hK : ∀ h' j3 j4, Fr ScXc h0 h' → CIc (hI h0 43) (hI h' 43) p N N 0 → JAt k0 (d + 2) jX1_change 47 [vr 41, vi M, vi p, j3, j4] [] h' Q) (H : Nat) (hH : H ≤ N) : ∀ h' j4, Fr ScXc h0 h' → CIc (hI h0 43) (hI h' 43) p N H 0 → JAt k0 (d + 2) jX1_change 9 [vr 41, vi M, vi p, vi (3 * (H * p) : Nat), j4] [] h' Q := by
  intro h' j4 f c
  have w := f.wf w0
  have hx : (H < N ∧ H * p + p ≤ N * p) ∨ (H = N ∧ H * p = N * p) := by
    by_cases z : H < N
    · have h1 : (H + 1) * p ≤ N * p := Nat.mul_le_mul_right p z
      rw [Nat.add_mul, Nat.one_mul] at h1
      exact Or.inl ⟨z, h1⟩
    · have : H = N := by omega
      exact Or.inr ⟨this, by rw [this]⟩
  have go : H < N → JAt k0 (d + 2) jX1_change 17 [vr 41, vi M, vi p, vi (3 * (H * p) : Nat), vi ((0 : Nat) : Int)] [] h' Q := by
    intro hH4
    exact lp_cg17 (h0 := h0) w0 hM hM7 hH4 b (fun h2 j4 f2 c2 => by
      refine st_iload_n (q := 39) dX1_change_38 rfl rfl ?_
      refine st_iconst (q := 40) dX1_change_39 ⟨by decide, by decide⟩ rfl ?_
      refine st_iload_n (q := 41) dX1_change_40 rfl rfl ?_
      first | refine n_imul (q := 42) dX1_change_41 rfl ⟨by omega, by omega⟩ ?_ | refine st_imul (q := 42) dX1_change_41 rfl ?_
      first | refine n_iadd (q := 43) dX1_change_42 rfl ⟨by omega, by omega⟩ ?_ | refine st_iadd (q := 43) dX1_change_42 rfl ?_
      refine j_top ((3 * ((H + 1) * p) : Nat) : Int) (by rw [Nat.add_mul, Nat.one_mul]; omega) ?_
      refine st_istore_n (q := 44) (i := 3) dX1_change_43 rfl (by decide) rfl ?_
      refine st_goto (q := 9) dX1_change_44 (by decide) ?_
      exact lp_cg9 w0 hM hM7 hp b hK (H + 1) (by omega) _ _ f2 c2.r) 0 (Nat.zero_le _) _ f c
  refine st_iload_n (q := 10) dX1_change_9 rfl rfl ?_
  refine st_iload_n (q := 11) dX1_change_10 rfl rfl ?_
  refine st_icmp_ge (q := 14) (tgt := 47) dX1_change_11 (by decide) rfl (fun c11 => ?_) (fun c11 => ?_)
  · have eH : H = N := by omega
    subst eH
    exact hK _ _ _ f c
  · refine st_iconst (q := 15) dX1_change_14 ⟨by decide, by decide⟩ rfl ?_
    refine st_istore (q := 17) dX1_change_15 (by decide) rfl ?_
    exact go (by omega)
termination_by N - H
theorem lp_cg2 {d : Nat} {h0 : JH} {P : JH → Prop} {n : Nat} (w0 : WF h0) (hn : n ≤ 6) (hP : ∀ h', Fr ScXc h0 h' → bdC 3 n (hI h' 43) → ChP 3 n n (hI h0 43) (hI h' 43) → P h') (k : Nat) (hk : k ≤ n) : ∀ h' j3 j4, Fr ScXc h0 h' → bdC 3 n (hI h' 43) → ChP 3 n k (hI h0 43) (hI h' 43) → JAt k0 (d + 2) jX1_change 2 [vr 41, vi (3 ^ n : Nat), vi (3 ^ k : Nat), j3, j4] [] h' (jqv P) := by
  intro h' j3 j4 f b c
  have w := f.wf w0
  have h7 : 3 ^ n ≤ 729 := show 3 ^ n ≤ 3 ^ 6 from Nat.pow_le_pow_right (by decide) hn
  have hp : 0 < 3 ^ k := Nat.pow_pos (by decide)
  have hx : (k < n ∧ 3 ^ k < 3 ^ n) ∨ (k = n ∧ 3 ^ k = 3 ^ n) := by
    by_cases z : k < n
    · exact Or.inl ⟨z, Nat.pow_lt_pow_right (by decide) z⟩
    · have : k = n := by omega
      exact Or.inr ⟨this, by rw [this]⟩
  have go : k < n → JAt k0 (d + 2) jX1_change 9 [vr 41, vi (3 ^ n : Nat), vi (3 ^ k : Nat), vi ((0 : Nat) : Int), j4] [] h' (jqv P) := by
    intro z
    have hN : 3 ^ n = 3 * (3 ^ (n - k - 1) * 3 ^ k) := by
      rw [← Nat.pow_add, Nat.mul_comm, ← Nat.pow_succ, show (n - k - 1 + k).succ = n by omega]
    have t := lp_cg9 (d := d) (Q := jqv P) (p := 3 ^ k) (N := 3 ^ (n - k - 1)) (M := 3 ^ n) w hN h7 hp b (fun h2 j3 j4 f2 c2 => by
      refine st_iload_n (q := 48) dX1_change_47 rfl rfl ?_
      refine st_iconst (q := 49) dX1_change_48 ⟨by decide, by decide⟩ rfl ?_
      first | refine n_imul (q := 50) dX1_change_49 rfl ⟨by omega, by omega⟩ ?_ | refine st_imul (q := 50) dX1_change_49 rfl ?_
      refine j_top ((3 ^ (k + 1) : Nat) : Int) (by rw [Nat.pow_succ]; omega) ?_
      refine st_istore_n (q := 51) (i := 2) dX1_change_50 rfl (by decide) rfl ?_
      refine st_goto (q := 2) dX1_change_51 (by decide) ?_
      exact lp_cg2 w0 hn hP (k + 1) (by omega) _ _ _ (f.tr f2) (c2.bd z hN b) (c.s z (c2.st z hN))) 0 (Nat.zero_le _) h' j4 Fr.rf CIc.z
    rw [Nat.zero_mul] at t
    exact t
  refine st_iload_n (q := 3) dX1_change_2 rfl rfl ?_
  refine st_iload_n (q := 4) dX1_change_3 rfl rfl ?_
  refine st_icmp_ge (q := 7) (tgt := 54) dX1_change_4 (by decide) rfl (fun c4 => ?_) (fun c4 => ?_)
  · refine rt_v dX1_change_54 rfl ?_
    have e : k = n := by omega
    subst e
    exact hP _ f b c
  · refine st_iconst (q := 8) dX1_change_7 ⟨by decide, by decide⟩ rfl ?_
    refine st_istore_n (q := 9) (i := 3) dX1_change_8 rfl (by decide) rfl ?_
    exact go (by omega)
termination_by n - k
theorem c_X1_change {d : Nat} {h : JH} {P : JH → Prop} {n : Nat} (w : WF h) (hn : n ≤ 6) (b : bdC 3 n (hI h 43)) (hP : ∀ h', Fr ScXc h h' → bdC 3 n (hI h' 43) → ChP 3 n n (hI h 43) (hI h' 43) → P h') : JRv (d + 2) jX1_change [vr 41, vi (3 ^ n : Nat)] h P := by
  refine JRet.of rfl (Nat.le_of_ble_eq_true rfl) ?_
  refine st_iconst (q := 1) dX1_change_0 ⟨by decide, by decide⟩ rfl ?_
  refine st_istore_n (q := 2) (i := 2) dX1_change_1 rfl (by decide) rfl ?_
  exact lp_cg2 w hn hP 0 (Nat.zero_le _) _ _ _ Fr.rf b (ChP.z (fun _ _ => rfl))

