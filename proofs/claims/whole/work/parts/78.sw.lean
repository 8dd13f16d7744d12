/-! sure: the class's search -/
def FO (g : SG) (h : JH) (k f b : Nat) : Prop := 0 < (g b).1 → 0 < (g k).1 - f → agP g k f b → ((g b).1 < (g k).1 - f → hI h 53 (8 * k + (f + (g b).1)) = 1) ∧ ((g k).1 - f < (g b).1 → hI h 53 (8 * b + ((g k).1 - f)) = 1) ∧ (g k).1 - f ≠ (g b).1
theorem FO.gr {g : SG} {h h' : JH} {k f b : Nat} (x : FO g h k f b) (r : Gr h h') : FO g h' k f b := fun z1 z2 z3 => ⟨fun z => r.1 _ ((x z1 z2 z3).1 z), fun z => r.1 _ ((x z1 z2 z3).2.1 z), (x z1 z2 z3).2.2⟩
def D1 (g : SG) (h : JH) (a c : Nat) : Prop := ∀ k b, k < b → b < 8 → k < a ∨ (k = a ∧ b < c) → FO g h k 0 b
def D2 (g : SG) (h : JH) (i : Nat) : Prop := ∀ j, j < i → (j : Int) < hI h 48 5 → ∀ b, b < 8 → FO g h ((hI h 52 j).toNat / 8) ((hI h 52 j).toNat % 8) b
theorem D1.gr {g : SG} {h h' : JH} {a c : Nat} (x : D1 g h a c) (r : Gr h h') : D1 g h' a c := fun k b h1 h2 h3 => (x k b h1 h2 h3).gr r
theorem D2.gr {g : SG} {h h' : JH} {i : Nat} (x : D2 g h i) (r : Gr h h') (hi : (i : Int) ≤ hI h 48 5) : D2 g h' i := fun j h1 _ b hb => by
  rw [r.2.1 j (by omega)]
  exact (x j h1 (by omega) b hb).gr r
theorem sure_end {g : SG} {h : JH} (o : gOk g) (q : QS g h) (x1 : D1 g h 8 0) {i : Nat} (x2 : D2 g h i) (hi : hI h 48 5 ≤ i) : ¬ emp g := by
  have rs : ∀ k f, RS g k f → ∀ b, b < 8 → FO g h k f b := by
    intro k f s b hb
    have t := s (fun k f => k < 8 ∧ f < (g k).1 ∧ hI h 53 (8 * k + f) = 1) ⟨fun a b h1 h2 h3 h4 h5 => ?_, fun k f b s h1 h2 h3 => ?_⟩
    · have ok := (o k t.1).1
      obtain ⟨j, j1, j2⟩ := q.2.2.2.1 (8 * k + f) (by omega) t.2.2
      have e := x2 j (by omega) j1 b hb
      rw [j2, show ((8 * k + f : Nat) : Int).toNat = 8 * k + f from rfl, show (8 * k + f) / 8 = k by omega, show (8 * k + f) % 8 = f by omega] at e
      exact e
    · have e := x1 a b h1 h2 (by omega) h4 (by omega) h5
      exact ⟨fun z => ⟨by omega, z, by have := e.1 (by omega); rw [Nat.zero_add] at this; exact this⟩, fun z => ⟨h2, z, e.2.1 (by omega)⟩⟩
    · have ok := (o k s.1).1
      obtain ⟨j, j1, j2⟩ := q.2.2.2.1 (8 * k + f) (by omega) s.2.2
      have e := x2 j (by omega) j1 b h1
      rw [j2, show ((8 * k + f : Nat) : Int).toNat = 8 * k + f from rfl, show (8 * k + f) / 8 = k by omega, show (8 * k + f) % 8 = f by omega] at e
      have e := e h2 (by omega) h3
      exact ⟨fun z => ⟨s.1, by omega, e.1 z⟩, fun z => ⟨h1, z, e.2.1 z⟩⟩
  rintro (⟨a, b, h1, h2, h3, h4, h5, h6⟩ | ⟨k, f, b, s, h1, h2, h3, h4⟩)
  · exact (x1 a b h1 h2 (by omega) h4 (by omega) h5).2.2 (by omega)
  · exact (rs k f s b h1 h2 (by have := RS_ok o s; omega) h3).2.2 h4
theorem idiv8 {x : Nat} (h : x < 64) : idiv (x : Int) 8 = ((x / 8 : Nat) : Int) := idiv_n (a := x) (b := 8) (by omega)
theorem lp_sure57 {d : Nat} {h0 : JH} {P : Int → JH → Prop} {g : SG} (w0 : WF h0) (x0 : GX h0 g) (o : gOk g) (p0 : emp g → ∀ h', Fr ScQ h0 h' → P 0 h') (p1 : ¬ emp g → ∀ h', Fr ScQ h0 h' → P 1 h') : ∀ (m i : Nat), i + m = 64 → ∀ (h' : JH) (j2 j3 : JV), Fr ScQ h0 h' → QS g h' → D1 g h' 8 0 → D2 g h' i → JAt k0 (d + 3) jX6_areSure 57 [vr 48, vi i, j2, j3] [] h' (jqi P) := by
  intro m
  induction m with
  | zero =>
    intro i hi h' j2 j3 f q x1 x2
    have w := f.wf w0
    have cb := cnM_b (hI h' 53) 64
    rw [← q.2.1] at cb
    refine st_iload_n (q := 58) dX6_areSure_57 rfl rfl ?_
    refine st_aload_n (q := 59) dX6_areSure_58 rfl rfl ?_
    refine st_getI (q := 62) 6 5 dX6_areSure_59 fl_X6_28 (by decide) (by decide) rfl rfl (wfk w rfl) ?_
    refine st_icmp_ge (q := 65) (tgt := 125) dX6_areSure_62 (by decide) rfl (fun c62 => ?_) (fun c62 => ?_)
    · refine st_iconst (q := 126) dX6_areSure_125 ⟨by decide, by decide⟩ rfl ?_
      refine rt_z dX6_areSure_126 rfl (by (repeat' split) <;> omega) ?_
      exact p1 (sure_end o q x1 x2 (by omega)) _ f
    · refine st_iload_n (q := 66) dX6_areSure_65 rfl rfl ?_
      refine st_bipush (q := 68) dX6_areSure_66 ⟨by decide, by decide⟩ rfl ?_
      refine st_icmp_ge (q := 71) (tgt := 125) dX6_areSure_68 (by decide) rfl (fun c68 => ?_) (fun c68 => ?_)
      · refine st_iconst (q := 126) dX6_areSure_125 ⟨by decide, by decide⟩ rfl ?_
        refine rt_z dX6_areSure_126 rfl (by (repeat' split) <;> omega) ?_
        exact p1 (sure_end o q x1 x2 (by omega)) _ f
      · exfalso; omega
  | succ m ih =>
    intro i hi h' j2 j3 f q x1 x2
    have w := f.wf w0
    have cb := cnM_b (hI h' 53) 64
    rw [← q.2.1] at cb
    have hI8 : ∀ (n b : Nat), b + n = 8 → ∀ (h2 : JH) (x : Nat), Fr ScQ h0 h2 → QS g h2 → D1 g h2 8 0 → D2 g h2 i → (i : Int) < hI h2 48 5 → hI h2 52 i = (x : Int) → (∀ c, c < b → FO g h2 (x / 8) (x % 8) c) → JAt k0 (d + 3) jX6_areSure 80 [vr 48, vi i, vi x, vi b] [] h2 (jqi P) := by
      intro n
      induction n with
      | zero =>
        intro b hb h2 x f q x1 x2 hlt ex y
        have w := f.wf w0
        refine st_iload_n (q := 81) dX6_areSure_80 rfl rfl ?_
        refine st_bipush (q := 83) dX6_areSure_81 ⟨by decide, by decide⟩ rfl ?_
        refine st_icmp_ge (q := 86) (tgt := 119) dX6_areSure_83 (by decide) rfl (fun c83 => ?_) (fun c83 => ?_)
        · first | refine n_iinc (q := 122) dX6_areSure_119 rfl (by decide) rfl ⟨by omega, by omega⟩ ?_ | refine st_iinc (q := 122) dX6_areSure_119 rfl (by decide) rfl ?_
          refine st_goto (q := 57) dX6_areSure_122 (by decide) ?_
          refine ih (i + 1) (by omega) _ _ _ f q x1 (fun j hj h3 c hc => ?_)
          by_cases e : j = i
          · rw [e, ex]
            exact y c (by omega)
          · exact x2 j (by omega) h3 c hc
        · exfalso; omega
      | succ n ih8 =>
        intro b hb h2 x f q x1 x2 hlt ex y
        have w := f.wf w0
        have gx := GX_q x0 f
        have xb : hI h2 49 ((b : Int)).toNat = ((g b).1 : Int) := (gx b (by omega)).1
        have qx := q.2.2.1 i hlt
        rw [ex] at qx
        have rs : RS g (x / 8) (x % 8) := q.2.2.2.2 x (by omega) qx.2.2
        refine st_iload_n (q := 81) dX6_areSure_80 rfl rfl ?_
        refine st_bipush (q := 83) dX6_areSure_81 ⟨by decide, by decide⟩ rfl ?_
        refine st_icmp_ge (q := 86) (tgt := 119) dX6_areSure_83 (by decide) rfl (fun c83 => ?_) (fun c83 => ?_)
        · exfalso; omega
        · refine st_aload_n (q := 87) dX6_areSure_86 rfl rfl ?_
          refine st_getR (q := 90) 6 0 dX6_areSure_87 fl_X6_9 (by decide) (by decide) rfl rfl (wfk w rfl) (wfR w rfl) ?_
          refine st_iload_n (q := 91) dX6_areSure_90 rfl rfl ?_
          refine st_iaload (q := 92) dX6_areSure_91 rfl (wfk w rfl) (wfb w (n := 8) rfl ⟨by omega, by omega⟩) ?_
          refine j_top ((g b).1 : Int) xb ?_
          refine st_if_le (q := 95) (tgt := 113) dX6_areSure_92 (by decide) rfl (fun c92 => ?_) (fun c92 => ?_)
          · first | refine n_iinc (q := 116) dX6_areSure_113 rfl (by decide) rfl ⟨by omega, by omega⟩ ?_ | refine st_iinc (q := 116) dX6_areSure_113 rfl (by decide) rfl ?_
            refine st_goto (q := 80) dX6_areSure_116 (by decide) ?_
            first | exact ih8 (b + 1) (by omega) h3 x (f.tr f3) q3 (x1.gr g3) (x2.gr g3 (by omega)) (by have := g3.2.2; omega) (by rw [g3.2.1 i hlt]; exact ex) (fun c hc => by by_cases e : c = b; (rw [e]; exact fun _ => fo); exact (y c (by omega)).gr g3) | exact ih8 (b + 1) (by omega) h2 x f q x1 x2 hlt ex (fun c hc => by by_cases e : c = b; (rw [e]; exact fun z => absurd z (by omega)); exact y c (by omega))
          · refine st_aload_n (q := 96) dX6_areSure_95 rfl rfl ?_
            refine st_iload_n (q := 97) dX6_areSure_96 rfl rfl ?_
            refine st_bipush (q := 99) dX6_areSure_97 ⟨by decide, by decide⟩ rfl ?_
            refine st_idiv (q := 100) dX6_areSure_99 (by omega) rfl ?_
            refine j_top ((x / 8 : Nat) : Int) (idiv8 (by omega)) ?_
            refine st_iload_n (q := 101) dX6_areSure_100 rfl rfl ?_
            refine st_bipush (q := 103) dX6_areSure_101 ⟨by decide, by decide⟩ rfl ?_
            refine st_irem (q := 104) dX6_areSure_103 (by omega) rfl ?_
            refine j_top ((x % 8 : Nat) : Int) rfl ?_
            refine st_iload_n (q := 105) dX6_areSure_104 rfl rfl ?_
            refine iV3i (q := 108) dX6_areSure_105 rfl ml_X6_52 mv_X6_follow (Nat.le_of_ble_eq_true rfl) (wfk w rfl) ?_
            refine c_X6_follow w gx o q (by omega) (by omega) (by omega) (by omega) (Or.inl rs) (fun z h3 f3 => ?_) (fun h3 f3 q3 g3 fo => ?_)
            · refine st_if_ne (q := 111) (tgt := 113) dX6_areSure_108 (by decide) rfl (fun z => absurd z (by decide)) (fun _ => ?_)
              refine st_iconst (q := 112) dX6_areSure_111 ⟨by decide, by decide⟩ rfl ?_
              refine rt_z dX6_areSure_112 rfl (by (repeat' split) <;> omega) ?_
              exact p0 z _ (f.tr f3)
            · refine st_if_ne (q := 111) (tgt := 113) dX6_areSure_108 (by decide) rfl (fun _ => ?_) (fun z => absurd z (by decide))
              first | refine n_iinc (q := 116) dX6_areSure_113 rfl (by decide) rfl ⟨by omega, by omega⟩ ?_ | refine st_iinc (q := 116) dX6_areSure_113 rfl (by decide) rfl ?_
              refine st_goto (q := 80) dX6_areSure_116 (by decide) ?_
              first | exact ih8 (b + 1) (by omega) h3 x (f.tr f3) q3 (x1.gr g3) (x2.gr g3 (by omega)) (by have := g3.2.2; omega) (by rw [g3.2.1 i hlt]; exact ex) (fun c hc => by by_cases e : c = b; (rw [e]; exact fun _ => fo); exact (y c (by omega)).gr g3) | exact ih8 (b + 1) (by omega) h2 x f q x1 x2 hlt ex (fun c hc => by by_cases e : c = b; (rw [e]; exact fun z => absurd z (by omega)); exact y c (by omega))
    refine st_iload_n (q := 58) dX6_areSure_57 rfl rfl ?_
    refine st_aload_n (q := 59) dX6_areSure_58 rfl rfl ?_
    refine st_getI (q := 62) 6 5 dX6_areSure_59 fl_X6_28 (by decide) (by decide) rfl rfl (wfk w rfl) ?_
    refine st_icmp_ge (q := 65) (tgt := 125) dX6_areSure_62 (by decide) rfl (fun c62 => ?_) (fun c62 => ?_)
    · refine st_iconst (q := 126) dX6_areSure_125 ⟨by decide, by decide⟩ rfl ?_
      refine rt_z dX6_areSure_126 rfl (by (repeat' split) <;> omega) ?_
      exact p1 (sure_end o q x1 x2 (by omega)) _ f
    · refine st_iload_n (q := 66) dX6_areSure_65 rfl rfl ?_
      refine st_bipush (q := 68) dX6_areSure_66 ⟨by decide, by decide⟩ rfl ?_
      refine st_icmp_ge (q := 71) (tgt := 125) dX6_areSure_68 (by decide) rfl (fun c68 => ?_) (fun c68 => ?_)
      · refine st_iconst (q := 126) dX6_areSure_125 ⟨by decide, by decide⟩ rfl ?_
        refine rt_z dX6_areSure_126 rfl (by (repeat' split) <;> omega) ?_
        exact p1 (sure_end o q x1 x2 (by omega)) _ f
      · refine st_aload_n (q := 72) dX6_areSure_71 rfl rfl ?_
        refine st_getR (q := 75) 6 3 dX6_areSure_72 fl_X6_21 (by decide) (by decide) rfl rfl (wfk w rfl) (wfR w rfl) ?_
        refine st_iload_n (q := 76) dX6_areSure_75 rfl rfl ?_
        refine st_iaload (q := 77) dX6_areSure_76 rfl (wfk w rfl) (wfb w (n := 64) rfl ⟨by omega, by omega⟩) ?_
        have qx := q.2.2.1 i (by omega)
        obtain ⟨x, ex⟩ : ∃ x : Nat, hI h' 52 i = (x : Int) := ⟨(hI h' 52 i).toNat, by omega⟩
        refine j_top (x : Int) ex ?_
        refine st_istore_n (q := 78) (i := 2) dX6_areSure_77 rfl (by decide) rfl ?_
        refine st_iconst (q := 79) dX6_areSure_78 ⟨by decide, by decide⟩ rfl ?_
        refine st_istore_n (q := 80) (i := 3) dX6_areSure_79 rfl (by decide) rfl ?_
        exact hI8 8 0 (by omega) h' x f q x1 x2 (by omega) ex (fun c hc => absurd hc (by omega))
theorem lp_sure16 {d : Nat} {h0 : JH} {P : Int → JH → Prop} {g : SG} (w0 : WF h0) (x0 : GX h0 g) (o : gOk g) (p0 : emp g → ∀ h', Fr ScQ h0 h' → P 0 h') (p1 : ¬ emp g → ∀ h', Fr ScQ h0 h' → P 1 h') (a c : Nat) (ha : a < 8) (hac : a < c) (hc : c ≤ 8) : ∀ (h' : JH) (j3 : JV), Fr ScQ h0 h' → QS g h' → D1 g h' a c → JAt k0 (d + 3) jX6_areSure 16 [vr 48, vi a, vi c, j3] [] h' (jqi P) := by
  intro h' j3 f q x1
  have w := f.wf w0
  have gx := GX_q x0 f
  have xc : c < 8 → hI h' 49 ((c : Int)).toNat = ((g c).1 : Int) := fun z => (gx c z).1
  have e57 : c = 8 → a = 7 → ∀ j2 j3 : JV, JAt k0 (d + 3) jX6_areSure 57 [vr 48, vi ((0 : Nat) : Int), j2, j3] [] h' (jqi P) := fun z1 z2 j2 j3 => lp_sure57 w0 x0 o p0 p1 64 0 (by omega) h' j2 j3 f q (fun k b h1 h2 _ => x1 k b h1 h2 (by omega)) (fun j hj => absurd hj (by omega))
  refine st_iload_n (q := 17) dX6_areSure_16 rfl rfl ?_
  refine st_bipush (q := 19) dX6_areSure_17 ⟨by decide, by decide⟩ rfl ?_
  refine st_icmp_ge (q := 22) (tgt := 49) dX6_areSure_19 (by decide) rfl (fun c19 => ?_) (fun c19 => ?_)
  · first | refine n_iinc (q := 52) dX6_areSure_49 rfl (by decide) rfl ⟨by omega, by omega⟩ ?_ | refine st_iinc (q := 52) dX6_areSure_49 rfl (by decide) rfl ?_
    refine st_goto (q := 6) dX6_areSure_52 (by decide) ?_
    refine st_iload_n (q := 7) dX6_areSure_6 rfl rfl ?_
    refine st_bipush (q := 9) dX6_areSure_7 ⟨by decide, by decide⟩ rfl ?_
    refine st_icmp_ge (q := 12) (tgt := 55) dX6_areSure_9 (by decide) rfl (fun c9 => ?_) (fun c9 => ?_)
    · refine st_iconst (q := 56) dX6_areSure_55 ⟨by decide, by decide⟩ rfl ?_
      refine st_istore_n (q := 57) (i := 1) dX6_areSure_56 rfl (by decide) rfl ?_
      exact e57 (by omega) (by omega) _ _
    · refine st_iload_n (q := 13) dX6_areSure_12 rfl rfl ?_
      refine st_iconst (q := 14) dX6_areSure_13 ⟨by decide, by decide⟩ rfl ?_
      first | refine n_iadd (q := 15) dX6_areSure_14 rfl ⟨by omega, by omega⟩ ?_ | refine st_iadd (q := 15) dX6_areSure_14 rfl ?_
      refine st_istore_n (q := 16) (i := 2) dX6_areSure_15 rfl (by decide) rfl ?_
      first | exact lp_sure16 w0 x0 o p0 p1 a (c + 1) ha (by omega) (by omega) _ _ (f.tr f3) q3 (fun k b h1 h2 h4 => by by_cases e : k = a ∧ b = c; (rw [e.1, e.2]; exact fun _ => fo); exact (x1 k b h1 h2 (by omega)).gr g3) | exact lp_sure16 w0 x0 o p0 p1 a (c + 1) ha (by omega) (by omega) _ _ f q (fun k b h1 h2 h4 => by by_cases e : k = a ∧ b = c; (rw [e.1, e.2]; exact fun z => absurd z (by omega)); exact x1 k b h1 h2 (by omega)) | exact lp_sure16 w0 x0 o p0 p1 (a + 1) (a + 2) (by omega) (by omega) (by omega) _ _ f q (fun k b h1 h2 h4 => x1 k b h1 h2 (by omega))
  · refine st_aload_n (q := 23) dX6_areSure_22 rfl rfl ?_
    refine st_getR (q := 26) 6 0 dX6_areSure_23 fl_X6_9 (by decide) (by decide) rfl rfl (wfk w rfl) (wfR w rfl) ?_
    refine st_iload_n (q := 27) dX6_areSure_26 rfl rfl ?_
    refine st_iaload (q := 28) dX6_areSure_27 rfl (wfk w rfl) (wfb w (n := 8) rfl ⟨by omega, by omega⟩) ?_
    refine j_top ((g c).1 : Int) (xc (by omega)) ?_
    refine st_if_le (q := 31) (tgt := 43) dX6_areSure_28 (by decide) rfl (fun c28 => ?_) (fun c28 => ?_)
    · first | refine n_iinc (q := 46) dX6_areSure_43 rfl (by decide) rfl ⟨by omega, by omega⟩ ?_ | refine st_iinc (q := 46) dX6_areSure_43 rfl (by decide) rfl ?_
      refine st_goto (q := 16) dX6_areSure_46 (by decide) ?_
      first | exact lp_sure16 w0 x0 o p0 p1 a (c + 1) ha (by omega) (by omega) _ _ (f.tr f3) q3 (fun k b h1 h2 h4 => by by_cases e : k = a ∧ b = c; (rw [e.1, e.2]; exact fun _ => fo); exact (x1 k b h1 h2 (by omega)).gr g3) | exact lp_sure16 w0 x0 o p0 p1 a (c + 1) ha (by omega) (by omega) _ _ f q (fun k b h1 h2 h4 => by by_cases e : k = a ∧ b = c; (rw [e.1, e.2]; exact fun z => absurd z (by omega)); exact x1 k b h1 h2 (by omega)) | exact lp_sure16 w0 x0 o p0 p1 (a + 1) (a + 2) (by omega) (by omega) (by omega) _ _ f q (fun k b h1 h2 h4 => x1 k b h1 h2 (by omega))
    · refine st_aload_n (q := 32) dX6_areSure_31 rfl rfl ?_
      refine st_iload_n (q := 33) dX6_areSure_32 rfl rfl ?_
      refine st_iconst (q := 34) dX6_areSure_33 ⟨by decide, by decide⟩ rfl ?_
      refine st_iload_n (q := 35) dX6_areSure_34 rfl rfl ?_
      refine iV3i (q := 38) dX6_areSure_35 rfl ml_X6_52 mv_X6_follow (Nat.le_of_ble_eq_true rfl) (wfk w rfl) ?_
      refine c_X6_follow (f := 0) w gx o q ha (by omega) (by omega) (by omega) (Or.inr ⟨rfl, hac⟩) (fun z h3 f3 => ?_) (fun h3 f3 q3 g3 fo => ?_)
      · refine st_if_ne (q := 41) (tgt := 43) dX6_areSure_38 (by decide) rfl (fun z => absurd z (by decide)) (fun _ => ?_)
        refine st_iconst (q := 42) dX6_areSure_41 ⟨by decide, by decide⟩ rfl ?_
        refine rt_z dX6_areSure_42 rfl (by (repeat' split) <;> omega) ?_
        exact p0 z _ (f.tr f3)
      · refine st_if_ne (q := 41) (tgt := 43) dX6_areSure_38 (by decide) rfl (fun _ => ?_) (fun z => absurd z (by decide))
        first | refine n_iinc (q := 46) dX6_areSure_43 rfl (by decide) rfl ⟨by omega, by omega⟩ ?_ | refine st_iinc (q := 46) dX6_areSure_43 rfl (by decide) rfl ?_
        refine st_goto (q := 16) dX6_areSure_46 (by decide) ?_
        first | exact lp_sure16 w0 x0 o p0 p1 a (c + 1) ha (by omega) (by omega) _ _ (f.tr f3) q3 (fun k b h1 h2 h4 => by by_cases e : k = a ∧ b = c; (rw [e.1, e.2]; exact fun _ => fo); exact (x1 k b h1 h2 (by omega)).gr g3) | exact lp_sure16 w0 x0 o p0 p1 a (c + 1) ha (by omega) (by omega) _ _ f q (fun k b h1 h2 h4 => by by_cases e : k = a ∧ b = c; (rw [e.1, e.2]; exact fun z => absurd z (by omega)); exact x1 k b h1 h2 (by omega)) | exact lp_sure16 w0 x0 o p0 p1 (a + 1) (a + 2) (by omega) (by omega) (by omega) _ _ f q (fun k b h1 h2 h4 => x1 k b h1 h2 (by omega))
termination_by 9 * (8 - a) + (8 - c)
theorem c_X6_areSure {d : Nat} {h : JH} {P : Int → JH → Prop} {g : SG} (w : WF h) (x : GX h g) (o : gOk g) (p0 : emp g → ∀ h', Fr ScQ h h' → P 0 h') (p1 : ¬ emp g → ∀ h', Fr ScQ h h' → P 1 h') : JRi (d + 3) jX6_areSure [vr 48] h P := by
  refine JRet.of rfl (Nat.le_of_ble_eq_true rfl) ?_
  refine st_aload_n (q := 1) dX6_areSure_0 rfl rfl ?_
  refine iV0v (q := 4) dX6_areSure_1 rfl ml_X6_49 mv_X6_emptyQueue (Nat.le_of_ble_eq_true rfl) (wfk w rfl) ?_
  refine c_X6_emptyQueue (g := g) w (fun h2 f2 q2 e2 => ?_)
  refine st_iconst (q := 5) dX6_areSure_4 ⟨by decide, by decide⟩ rfl ?_
  refine st_istore_n (q := 6) (i := 1) dX6_areSure_5 rfl (by decide) rfl ?_
  refine st_iload_n (q := 7) dX6_areSure_6 rfl rfl ?_
  refine st_bipush (q := 9) dX6_areSure_7 ⟨by decide, by decide⟩ rfl ?_
  refine st_icmp_ge (q := 12) (tgt := 55) dX6_areSure_9 (by decide) rfl (fun z => absurd z (by decide)) (fun _ => ?_)
  refine st_iload_n (q := 13) dX6_areSure_12 rfl rfl ?_
  refine st_iconst (q := 14) dX6_areSure_13 ⟨by decide, by decide⟩ rfl ?_
  first | refine n_iadd (q := 15) dX6_areSure_14 rfl ⟨by omega, by omega⟩ ?_ | refine st_iadd (q := 15) dX6_areSure_14 rfl ?_
  refine st_istore_n (q := 16) (i := 2) dX6_areSure_15 rfl (by decide) rfl ?_
  exact lp_sure16 w x o p0 p1 0 1 (by omega) (by omega) (by omega) _ _ f2 q2 (fun k b h1 h2 h4 => by exfalso; omega)

