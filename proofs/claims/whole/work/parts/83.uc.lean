/-! sure: both -/
theorem lp_sure37 {d : Nat} {h0 : JH} {P : Int → JH → Prop} {g : SG} (w0 : WF h0) (x0 : GM h0 g) (o : gOk g) (p0 : emp g → ∀ h', Fr ScW h0 h' → P 0 h') (p1 : ¬ emp g → ∀ h', Fr ScW h0 h' → P 1 h') (a c : Nat) (ha : a < 8) (hc : c ≤ 8) : ∀ (h' : JH) (j3 j4 : JV), Fr ScW h0 h' → MS g h' → E1 g h' a c → JAt k0 (d + 1) jX12_sure 37 [vr 117, vi a, vi c, j3, j4] [] h' (jqi P) := by
  intro h' j3 j4 f q x1
  have w := f.wf w0
  have gx := GM_w x0 f
  have oa := o a ha
  have xa : hI h' 146 ((a : Int)).toNat = ((g a).1 : Int) := (gx a ha).1
  have ya : 0 < (g a).1 → hI h' 147 ((a : Int)).toNat = ((g a).2 : Int) := (gx a ha).2
  have xc : c < 8 → hI h' 146 ((c : Int)).toNat = ((g c).1 : Int) := fun z => (gx c z).1
  have yc : c < 8 → 0 < (g c).1 → hI h' 147 ((c : Int)).toNat = ((g c).2 : Int) := fun z => (gx c z).2
  have oc : c < 8 → (g c).1 ≤ 8 ∧ (g c).2 < 2 ^ (g c).1 := fun z => o c z
  have pc : c < 8 → 2 ^ (g c).1 ≤ 256 := fun z => Nat.pow_le_pow_right (n := 2) (by decide) (oc z).1
  have e140 : c = 8 → a = 7 → ∀ j2 j3 j4 : JV, JAt k0 (d + 1) jX12_sure 140 [vr 117, vi ((0 : Nat) : Int), j2, j3, j4] [] h' (jqi P) := fun z1 z2 j2 j3 j4 => lp_sure140 w0 x0 o p0 p1 512 0 (by omega) h' j2 j3 j4 f q (fun k b h1 h2 _ => x1 k b h1 h2 (by omega)) (fun j hj => absurd hj (by omega))
  have nx : c < 8 → ∀ h3, Fr ScW h' h3 → MS g h3 → Gw h' h3 → ST g h3 a c → ∀ j3 j4 : JV, JAt k0 (d + 1) jX12_sure 126 [vr 117, vi a, vi c, j3, j4] [] h3 (jqi P) := by
    intro hc8 h3 f3 q3 g3 st j3 j4
    first | refine n_iinc (q := 129) dX12_sure_126 rfl (by decide) rfl ⟨by omega, by omega⟩ ?_ | refine st_iinc (q := 129) dX12_sure_126 rfl (by decide) rfl ?_
    refine st_goto (q := 37) dX12_sure_129 (by decide) ?_
    exact lp_sure37 w0 x0 o p0 p1 a (c + 1) ha (by omega) h3 _ _ (f.tr f3) q3 (fun k b h1 h2 h4 => by by_cases e : k = a ∧ b = c; (rw [e.1, e.2]; exact st); exact (x1 k b h1 h2 (by omega)).gr g3)
  refine st_iload_n (q := 38) dX12_sure_37 rfl rfl ?_
  refine st_bipush (q := 40) dX12_sure_38 ⟨by decide, by decide⟩ rfl ?_
  refine st_icmp_ge (q := 43) (tgt := 132) dX12_sure_40 (by decide) rfl (fun c40 => ?_) (fun c40 => ?_)
  · first | refine n_iinc (q := 135) dX12_sure_132 rfl (by decide) rfl ⟨by omega, by omega⟩ ?_ | refine st_iinc (q := 135) dX12_sure_132 rfl (by decide) rfl ?_
    refine st_goto (q := 29) dX12_sure_135 (by decide) ?_
    refine st_iload_n (q := 30) dX12_sure_29 rfl rfl ?_
    refine st_bipush (q := 32) dX12_sure_30 ⟨by decide, by decide⟩ rfl ?_
    refine st_icmp_ge (q := 35) (tgt := 138) dX12_sure_32 (by decide) rfl (fun c32 => ?_) (fun c32 => ?_)
    · refine st_iconst (q := 139) dX12_sure_138 ⟨by decide, by decide⟩ rfl ?_
      refine st_istore_n (q := 140) (i := 1) dX12_sure_139 rfl (by decide) rfl ?_
      exact e140 (by omega) (by omega) _ _ _
    · refine st_iconst (q := 36) dX12_sure_35 ⟨by decide, by decide⟩ rfl ?_
      refine st_istore_n (q := 37) (i := 2) dX12_sure_36 rfl (by decide) rfl ?_
      exact lp_sure37 w0 x0 o p0 p1 (a + 1) 0 (by omega) (by omega) _ _ _ f q (fun k b h1 h2 h4 => x1 k b h1 h2 (by omega))
  · have hc8 : c < 8 := (by omega)
    have xc := xc hc8
    have yc := yc hc8
    have oc := oc hc8
    have pc := pc hc8
    refine st_iload_n (q := 44) dX12_sure_43 rfl rfl ?_
    refine st_iload_n (q := 45) dX12_sure_44 rfl rfl ?_
    refine st_icmp_eq (q := 48) (tgt := 126) dX12_sure_45 (by decide) rfl (fun c45 => ?_) (fun c45 => ?_)
    · first | exact nx hc8 _ f3 q3 g3 (fun _ _ _ _ _ => e3) _ _ | exact nx hc8 _ Fr.rf q Gw.rf (fun z1 z2 z3 z4 z5 => absurd ⟨z4, z5⟩ (ifz c93)) _ _ | exact nx hc8 _ Fr.rf q Gw.rf (fun z1 z2 z3 z4 z5 => by exfalso; omega) _ _
    · refine st_aload_n (q := 49) dX12_sure_48 rfl rfl ?_
      refine st_getR (q := 52) 12 41 dX12_sure_49 fl_X12_105 (by decide) (by decide) rfl rfl (wfk w rfl) (wfR w rfl) ?_
      refine st_iload_n (q := 53) dX12_sure_52 rfl rfl ?_
      refine st_iaload (q := 54) dX12_sure_53 rfl (wfk w rfl) (wfb w (n := 8) rfl ⟨by omega, by omega⟩) ?_
      refine j_top ((g a).1 : Int) xa ?_
      refine st_if_le (q := 57) (tgt := 126) dX12_sure_54 (by decide) rfl (fun c54 => ?_) (fun c54 => ?_)
      · first | exact nx hc8 _ f3 q3 g3 (fun _ _ _ _ _ => e3) _ _ | exact nx hc8 _ Fr.rf q Gw.rf (fun z1 z2 z3 z4 z5 => absurd ⟨z4, z5⟩ (ifz c93)) _ _ | exact nx hc8 _ Fr.rf q Gw.rf (fun z1 z2 z3 z4 z5 => by exfalso; omega) _ _
      · refine st_aload_n (q := 58) dX12_sure_57 rfl rfl ?_
        refine st_getR (q := 61) 12 41 dX12_sure_58 fl_X12_105 (by decide) (by decide) rfl rfl (wfk w rfl) (wfR w rfl) ?_
        refine st_iload_n (q := 62) dX12_sure_61 rfl rfl ?_
        refine st_iaload (q := 63) dX12_sure_62 rfl (wfk w rfl) (wfb w (n := 8) rfl ⟨by omega, by omega⟩) ?_
        refine j_top ((g c).1 : Int) xc ?_
        refine st_if_le (q := 66) (tgt := 126) dX12_sure_63 (by decide) rfl (fun c63 => ?_) (fun c63 => ?_)
        · first | exact nx hc8 _ f3 q3 g3 (fun _ _ _ _ _ => e3) _ _ | exact nx hc8 _ Fr.rf q Gw.rf (fun z1 z2 z3 z4 z5 => absurd ⟨z4, z5⟩ (ifz c93)) _ _ | exact nx hc8 _ Fr.rf q Gw.rf (fun z1 z2 z3 z4 z5 => by exfalso; omega) _ _
        · refine st_aload_n (q := 67) dX12_sure_66 rfl rfl ?_
          refine st_getR (q := 70) 12 41 dX12_sure_67 fl_X12_105 (by decide) (by decide) rfl rfl (wfk w rfl) (wfR w rfl) ?_
          refine st_iload_n (q := 71) dX12_sure_70 rfl rfl ?_
          refine st_iaload (q := 72) dX12_sure_71 rfl (wfk w rfl) (wfb w (n := 8) rfl ⟨by omega, by omega⟩) ?_
          refine j_top ((g a).1 : Int) xa ?_
          refine st_aload_n (q := 73) dX12_sure_72 rfl rfl ?_
          refine st_getR (q := 76) 12 42 dX12_sure_73 fl_X12_108 (by decide) (by decide) rfl rfl (wfk w rfl) (wfR w rfl) ?_
          refine st_iload_n (q := 77) dX12_sure_76 rfl rfl ?_
          refine st_iaload (q := 78) dX12_sure_77 rfl (wfk w rfl) (wfb w (n := 8) rfl ⟨by omega, by omega⟩) ?_
          refine j_top ((g a).2 : Int) (ya (by omega)) ?_
          refine st_aload_n (q := 79) dX12_sure_78 rfl rfl ?_
          refine st_getR (q := 82) 12 41 dX12_sure_79 fl_X12_105 (by decide) (by decide) rfl rfl (wfk w rfl) (wfR w rfl) ?_
          refine st_iload_n (q := 83) dX12_sure_82 rfl rfl ?_
          refine st_iaload (q := 84) dX12_sure_83 rfl (wfk w rfl) (wfb w (n := 8) rfl ⟨by omega, by omega⟩) ?_
          refine j_top ((g c).1 : Int) xc ?_
          refine st_aload_n (q := 85) dX12_sure_84 rfl rfl ?_
          refine st_getR (q := 88) 12 42 dX12_sure_85 fl_X12_108 (by decide) (by decide) rfl rfl (wfk w rfl) (wfR w rfl) ?_
          refine st_iload_n (q := 89) dX12_sure_88 rfl rfl ?_
          refine st_iaload (q := 90) dX12_sure_89 rfl (wfk w rfl) (wfb w (n := 8) rfl ⟨by omega, by omega⟩) ?_
          refine j_top ((g c).2 : Int) (yc (by omega)) ?_
          refine iS4i (q := 93) dX12_sure_90 rfl ml_X12_283 ms_X12_isBeginning (Nat.le_of_ble_eq_true rfl) ?_
          refine c_X12_isBeginning (by omega) (by omega) ?_
          refine st_if_eq (q := 96) (tgt := 126) dX12_sure_93 (by decide) rfl (fun c93 => ?_) (fun c93 => ?_)
          · first | exact nx hc8 _ f3 q3 g3 (fun _ _ _ _ _ => e3) _ _ | exact nx hc8 _ Fr.rf q Gw.rf (fun z1 z2 z3 z4 z5 => absurd ⟨z4, z5⟩ (ifz c93)) _ _ | exact nx hc8 _ Fr.rf q Gw.rf (fun z1 z2 z3 z4 z5 => by exfalso; omega) _ _
          · refine st_aload_n (q := 97) dX12_sure_96 rfl rfl ?_
            refine st_aload_n (q := 98) dX12_sure_97 rfl rfl ?_
            refine st_getR (q := 101) 12 41 dX12_sure_98 fl_X12_105 (by decide) (by decide) rfl rfl (wfk w rfl) (wfR w rfl) ?_
            refine st_iload_n (q := 102) dX12_sure_101 rfl rfl ?_
            refine st_iaload (q := 103) dX12_sure_102 rfl (wfk w rfl) (wfb w (n := 8) rfl ⟨by omega, by omega⟩) ?_
            have cA : (g a).1 ≤ (g c).1 ∧ (g c).2 % 2 ^ (g a).1 = (g a).2 := (by by_cases zz : (g a).1 ≤ (g c).1 ∧ (g c).2 % 2 ^ (g a).1 = (g a).2; exact zz; (rw [if_neg zz] at c93; exact absurd rfl c93))
            refine j_top ((g c).1 : Int) xc ?_
            refine st_aload_n (q := 104) dX12_sure_103 rfl rfl ?_
            refine st_getR (q := 107) 12 41 dX12_sure_104 fl_X12_105 (by decide) (by decide) rfl rfl (wfk w rfl) (wfR w rfl) ?_
            refine st_iload_n (q := 108) dX12_sure_107 rfl rfl ?_
            refine st_iaload (q := 109) dX12_sure_108 rfl (wfk w rfl) (wfb w (n := 8) rfl ⟨by omega, by omega⟩) ?_
            refine j_top ((g a).1 : Int) xa ?_
            first | refine n_isub (q := 110) dX12_sure_109 rfl ⟨by omega, by omega⟩ ?_ | refine st_isub (q := 110) dX12_sure_109 rfl ?_
            refine j_top (((g c).1 - (g a).1 : Nat) : Int) (by omega) ?_
            refine st_aload_n (q := 111) dX12_sure_110 rfl rfl ?_
            refine st_getR (q := 114) 12 42 dX12_sure_111 fl_X12_108 (by decide) (by decide) rfl rfl (wfk w rfl) (wfR w rfl) ?_
            refine st_iload_n (q := 115) dX12_sure_114 rfl rfl ?_
            refine st_iaload (q := 116) dX12_sure_115 rfl (wfk w rfl) (wfb w (n := 8) rfl ⟨by omega, by omega⟩) ?_
            refine j_top ((g c).2 : Int) (yc (by omega)) ?_
            refine st_aload_n (q := 117) dX12_sure_116 rfl rfl ?_
            refine st_getR (q := 120) 12 41 dX12_sure_117 fl_X12_105 (by decide) (by decide) rfl rfl (wfk w rfl) (wfR w rfl) ?_
            refine st_iload_n (q := 121) dX12_sure_120 rfl rfl ?_
            refine st_iaload (q := 122) dX12_sure_121 rfl (wfk w rfl) (wfb w (n := 8) rfl ⟨by omega, by omega⟩) ?_
            refine j_top ((g a).1 : Int) xa ?_
            refine st_ishr (q := 123) dX12_sure_122 rfl ?_
            refine j_top (((g c).2 / 2 ^ (g a).1 : Nat) : Int) (ishr_n (by omega) (by omega)) ?_
            refine iV2v (q := 126) dX12_sure_123 rfl ml_X12_289 mv_X12_leaves (Nat.le_of_ble_eq_true rfl) (wfk w rfl) ?_
            refine c_X12_leaves w q (by omega) (div_lt2 oc.2 cA.1) ((RC_cl g).1 a c ha hc8 (by omega) (by omega) (by omega) cA.1 cA.2) (fun h3 f3 q3 g3 e3 => ?_)
            first | exact nx hc8 _ f3 q3 g3 (fun _ _ _ _ _ => e3) _ _ | exact nx hc8 _ Fr.rf q Gw.rf (fun z1 z2 z3 z4 z5 => absurd ⟨z4, z5⟩ (ifz c93)) _ _ | exact nx hc8 _ Fr.rf q Gw.rf (fun z1 z2 z3 z4 z5 => by exfalso; omega) _ _
termination_by 9 * (8 - a) + (8 - c)
theorem lp_sure2 {d : Nat} {h0 : JH} {P : Int → JH → Prop} {g : SG} (w0 : WF h0) (x0 : GM h0 g) (o : gOk g) (p0 : emp g → ∀ h', Fr ScW h0 h' → P 0 h') (p1 : ¬ emp g → ∀ h', Fr ScW h0 h' → P 1 h') (i : Nat) (hi : i ≤ 512) : ∀ (h' : JH) (j2 j3 j4 : JV), Fr ScW h0 h' → (∀ x, x < i → hI h' 148 x = 0) → JAt k0 (d + 1) jX12_sure 2 [vr 117, vi i, j2, j3, j4] [] h' (jqi P) := by
  intro h' j2 j3 j4 f z
  have w := f.wf w0
  refine st_iload_n (q := 3) dX12_sure_2 rfl rfl ?_
  refine st_sipush (q := 6) dX12_sure_3 ⟨by decide, by decide⟩ rfl ?_
  refine st_icmp_ge (q := 9) (tgt := 22) dX12_sure_6 (by decide) rfl (fun c6 => ?_) (fun c6 => ?_)
  · refine st_aload_n (q := 23) dX12_sure_22 rfl rfl ?_
    refine st_iconst (q := 24) dX12_sure_23 ⟨by decide, by decide⟩ rfl ?_
    refine st_putI (q := 27) 12 45 dX12_sure_24 fl_X12_286 (by decide) (by decide) (Or.inl rfl) rfl (Or.inl rfl) (wfk w rfl) ?_
    refine st_iconst (q := 28) dX12_sure_27 ⟨by decide, by decide⟩ rfl ?_
    refine st_istore_n (q := 29) (i := 1) dX12_sure_28 rfl (by decide) rfl ?_
    refine st_iload_n (q := 30) dX12_sure_29 rfl rfl ?_
    refine st_bipush (q := 32) dX12_sure_30 ⟨by decide, by decide⟩ rfl ?_
    refine st_icmp_ge (q := 35) (tgt := 138) dX12_sure_32 (by decide) rfl (fun z => absurd z (by decide)) (fun _ => ?_)
    refine st_iconst (q := 36) dX12_sure_35 ⟨by decide, by decide⟩ rfl ?_
    refine st_istore_n (q := 37) (i := 2) dX12_sure_36 rfl (by decide) rfl ?_
    have z2 : ∀ x, x < 512 → hI (sI h' 117 45 0) 148 x = 0 := (fun x hx => by rw [sI_o _ (by decide)]; exact z x (by omega))
    exact lp_sure37 w0 x0 o p0 p1 0 0 (by omega) (by omega) _ _ _ (f.sI _ (Or.inr (Or.inr ⟨rfl, rfl⟩))) ⟨fun x hx => Or.inl (z2 x hx), by rw [sI_s, cnM_z 512 z2], fun j hj => by rw [sI_s] at hj; omega, fun x hx e => by rw [z2 x hx] at e; exact absurd e (by decide), fun x hx e => by rw [z2 x hx] at e; exact absurd e (by decide)⟩ (fun k b h1 h2 h4 => by exfalso; omega)
  · refine st_aload_n (q := 10) dX12_sure_9 rfl rfl ?_
    refine st_getR (q := 13) 12 43 dX12_sure_10 fl_X12_111 (by decide) (by decide) rfl rfl (wfk w rfl) (wfR w rfl) ?_
    refine st_iload_n (q := 14) dX12_sure_13 rfl rfl ?_
    refine st_iconst (q := 15) dX12_sure_14 ⟨by decide, by decide⟩ rfl ?_
    refine st_bastore (q := 16) dX12_sure_15 rfl (wfk w rfl) (wfb w (n := 512) rfl ⟨by omega, by omega⟩) (by omega) ?_
    first | refine n_iinc (q := 19) dX12_sure_16 rfl (by decide) rfl ⟨by omega, by omega⟩ ?_ | refine st_iinc (q := 19) dX12_sure_16 rfl (by decide) rfl ?_
    refine st_goto (q := 2) dX12_sure_19 (by decide) ?_
    exact lp_sure2 w0 x0 o p0 p1 (i + 1) (by omega) _ _ _ _ (f.sI _ (Or.inr (Or.inl rfl))) (fun x hx => by by_cases e : x = i; (rw [e, show ((i : Int)).toNat = i from rfl, sI_s]); (rw [show ((i : Int)).toNat = i from rfl, sI_k _ e]; exact z x (by omega)))
termination_by 512 - i
theorem c_X12_sure {d : Nat} {h : JH} {P : Int → JH → Prop} {g : SG} (w : WF h) (x : GM h g) (o : gOk g) (p0 : emp g → ∀ h', Fr ScW h h' → P 0 h') (p1 : ¬ emp g → ∀ h', Fr ScW h h' → P 1 h') : JRi (d + 1) jX12_sure [vr 117] h P := by
  refine JRet.of rfl (Nat.le_of_ble_eq_true rfl) ?_
  refine st_iconst (q := 1) dX12_sure_0 ⟨by decide, by decide⟩ rfl ?_
  refine st_istore_n (q := 2) (i := 1) dX12_sure_1 rfl (by decide) rfl ?_
  exact lp_sure2 w x o p0 p1 0 (by omega) _ _ _ _ Fr.rf (fun x hx => absurd hx (by omega))

