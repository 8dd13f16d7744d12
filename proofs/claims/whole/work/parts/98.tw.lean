/-! trunk: the class's whole; both -/
theorem or_gt {S k : Nat} (h : S.testBit k = false) : S < S ||| 2 ^ k := by
  have h1 : S ≤ S ||| 2 ^ k := Nat.left_le_or
  have h2 : S ≠ S ||| 2 ^ k := fun e => by
    rw [e, Nat.testBit_or, Nat.testBit_two_pow_self, Bool.or_true] at h
    exact absurd h (by decide)
  omega
theorem sub_or {S N k : Nat} (s : sub S N) (h : N.testBit k = true) : sub (S ||| 2 ^ k) N := fun j hj => by
  rw [Nat.testBit_or, Bool.or_eq_true, Nat.testBit_two_pow] at hj
  rcases hj with z | z
  · exact s j z
  · rw [← of_decide_eq_true z]; exact h
theorem sub_le {T N : Nat} (s : sub T N) : T ≤ N := by
  have e : T &&& N = T := by
    apply Nat.eq_of_testBit_eq
    intro i
    rw [Nat.testBit_and]
    cases h : T.testBit i
    · rfl
    · rw [s i h]; rfl
  have : T &&& N ≤ N := Nat.and_le_right
  omega
theorem LFp.cg {W W' : Nat → Int} {N T : Nat} {v : Int} (a : LFp W N T v) (e : ∀ k, av N T k → W' (T ||| 2 ^ k) = W (T ||| 2 ^ k)) : LFp W' N T v := ⟨fun k h => by rw [e k h]; exact a.1 k h, a.2.elim (fun ⟨k, h1, h2⟩ => Or.inl ⟨k, h1, by rw [e k h1]; exact h2⟩) (fun z => Or.inr z)⟩
def DPI (W : Nat → Int) (l : List Nat) (N s : Nat) : Prop := ∀ T, s < T → sub T N → DPp W l N T ∧ 0 ≤ W T ∧ W T ≤ 96 * (256 - (T : Int))
def ScRe (a _k : Nat) : Prop := a = 47
theorem TX.fr {Sc : Nat → Nat → Prop} {h h' : JH} {l : List Nat} (t : TX h l) (f : Fr Sc h h') (z1 : ¬ Sc 44 1) (z2 : ∀ k, ¬ Sc 45 k) : TX h' l := ⟨(f.2.2 _ _ z1).trans t.1, fun i x e => (f.2.2 _ _ (z2 i)).trans (t.2 i x e)⟩
theorem DPI.hb {W : Nat → Int} {l : List Nat} {N s S : Nat} (D : DPI W l N s) (hs : s ≤ S) (sb : sub S N) : ∀ k, av N S k → 0 ≤ W (S ||| 2 ^ k) ∧ W (S ||| 2 ^ k) ≤ 96 * (255 - (S : Int)) ∧ W (S ||| 2 ^ k) ≤ 100000 := fun k a => by
  have g := or_gt a.2
  have q := D (S ||| 2 ^ k) (by omega) (sub_or sb a.1)
  omega
theorem lp_lr2 {d : Nat} {h0 : JH} {Q : Option JV → JH → Prop} {l : List Nat} {N a : Nat} (w0 : WF h0) (t0 : TX h0 l) (hl : l.length ≤ 96) (hx : ∀ x ∈ l, x < 8) (hN : N < 256) (hK : ∀ h' j3 j4 j5, Fr ScRe h0 h' → DPI (hI h' 47) l N 0 → JAt k0 (d + 3) jX10_leastReach 38 [vr 44, vi N, vr a, j3, j4, j5] [] h' Q) (s : Nat) (hs : s ≤ N) : ∀ h' j4 j5, Fr ScRe h0 h' → DPI (hI h' 47) l N s → JAt k0 (d + 3) jX10_leastReach 2 [vr 44, vi N, vr a, vi s, j4, j5] [] h' Q := by
  intro h' j4 j5 f D
  have w := f.wf w0
  have t := t0.fr f (by unfold ScRe; omega) (fun k => by unfold ScRe; omega)
  have pb := (poF_b l s l.length).1
  have pe : poW l s = (poF l s l.length).1 := rfl
  have skp : 0 < s → ¬ sub s N → DPI (hI h' 47) l N (s - 1) := fun h1 h2 T hT sT => by
    by_cases e : T = s
    · subst e; exact absurd sT h2
    · exact D T (by omega) sT
  have stp : ∀ v, 0 < s → sub s N → LFp (hI h' 47) N s v → 0 ≤ v → DPI (hI (sI h' 47 s ((poW l s : Nat) + v)) 47) l N (s - 1) := fun v h1 h2 lf hv T hT sT => by
    have oth : ∀ T, s < T → hI (sI h' 47 s ((poW l s : Nat) + v)) 47 T = hI h' 47 T := fun T hT => sI_k _ (by omega)
    have lfT : ∀ T u, s ≤ T → LFp (hI h' 47) N T u → LFp (hI (sI h' 47 s ((poW l s : Nat) + v)) 47) N T u := fun T u hT lf => lf.cg (fun k ak => oth _ (by have := or_gt ak.2; omega))
    by_cases e : T = s
    · subst e
      rw [sI_s]
      have vb : v ≤ 96 * (255 - (T : Int)) := by
        rcases lf.2 with ⟨k, h3, h4⟩ | ⟨h3, h4⟩
        · have := (D.hb (Nat.le_refl _) h2 k h3).2.1; omega
        · have := sub_le h2; omega
      exact ⟨⟨v, lfT T v (Nat.le_refl _) lf, by rw [sI_s]⟩, by omega, by omega⟩
    · obtain ⟨⟨u, u1, u2⟩, u3⟩ := D T (by omega) sT
      rw [oth T (by omega)]
      exact ⟨⟨u, lfT T u (by omega) u1, by rw [oth T (by omega)]; exact u2⟩, u3⟩
  have nsub : nandn s N = 0 ↔ sub s N := nandn_0 (by omega)
  have nle := nandn_le s N
  refine st_iload_n (q := 3) dX10_leastReach_2 rfl rfl ?_
  refine st_if_le (q := 6) (tgt := 38) dX10_leastReach_3 (by decide) rfl (fun c3 => ?_) (fun c3 => ?_)
  · have es : s = 0 := by omega
    subst es
    exact hK _ _ _ _ f D
  · refine st_iload_n (q := 7) dX10_leastReach_6 rfl rfl ?_
    refine st_iload_n (q := 8) dX10_leastReach_7 rfl rfl ?_
    refine st_iconst (q := 9) dX10_leastReach_8 ⟨by decide, by decide⟩ rfl ?_
    refine st_ixor (q := 10) dX10_leastReach_9 rfl ?_
    refine st_iand (q := 11) dX10_leastReach_10 rfl ?_
    refine j_top ((nandn s N : Nat) : Int) (iandn_n (by omega) (by omega)) ?_
    refine st_if_ne (q := 14) (tgt := 32) dX10_leastReach_11 (by decide) rfl (fun c11 => ?_) (fun c11 => ?_)
    · first | refine n_iinc (q := 35) dX10_leastReach_32 rfl (by decide) rfl ⟨by omega, by omega⟩ ?_ | refine st_iinc (q := 35) dX10_leastReach_32 rfl (by decide) rfl ?_
      refine st_goto (q := 2) dX10_leastReach_35 (by decide) ?_
      first | (have tz9 := lp_lr2 (d := d) (a := a) w0 t0 hl hx hN hK (s - 1) (by omega) _ j4 j5 (f.sI _ rfl) (stp vz9 (by omega) sbz9 lfz9 v0z9); rw [show ((s - 1 : Nat) : Int) = (s : Int) + -1 by omega] at tz9; exact tz9) | (have tz9 := lp_lr2 (d := d) (a := a) w0 t0 hl hx hN hK (s - 1) (by omega) _ j4 j5 f (skp (by omega) (fun z => by have := nsub.mpr z; omega)); rw [show ((s - 1 : Nat) : Int) = (s : Int) + -1 by omega] at tz9; exact tz9)
    · have sbz9 : sub s N := nsub.mp (by omega)
      refine st_aload_n (q := 15) dX10_leastReach_14 rfl rfl ?_
      refine st_getR (q := 18) 10 3 dX10_leastReach_15 fl_X10_22 (by decide) (by decide) rfl rfl (wfk w rfl) (wfR w rfl) ?_
      refine st_iload_n (q := 19) dX10_leastReach_18 rfl rfl ?_
      refine st_aload_n (q := 20) dX10_leastReach_19 rfl rfl ?_
      refine st_iload_n (q := 21) dX10_leastReach_20 rfl rfl ?_
      refine iV1i (q := 24) dX10_leastReach_21 rfl ml_X10_55 mv_X10_passedOver (Nat.le_of_ble_eq_true rfl) (wfk w rfl) ?_
      refine c_X10_passedOver w t hl hx (by omega) ?_
      refine st_aload_n (q := 25) dX10_leastReach_24 rfl rfl ?_
      refine st_iload_n (q := 26) dX10_leastReach_25 rfl rfl ?_
      refine st_iload_n (q := 27) dX10_leastReach_26 rfl rfl ?_
      refine iV2i (q := 30) dX10_leastReach_27 rfl ml_X10_58 mv_X10_leastFrom (Nat.le_of_ble_eq_true rfl) (wfk w rfl) ?_
      refine c_X10_leastFrom w hN (by omega) (fun k ak => by have := D.hb (Nat.le_refl _) sbz9 k ak; omega) (fun vz9 lfz9 v0z9 v1z9 => ?_)
      first | refine n_iadd (q := 31) dX10_leastReach_30 rfl ⟨by omega, by omega⟩ ?_ | refine st_iadd (q := 31) dX10_leastReach_30 rfl ?_
      refine st_iastore (q := 32) dX10_leastReach_31 rfl (wfk w rfl) (wfb w (n := 256) rfl ⟨by omega, by omega⟩) ?_
      first | refine n_iinc (q := 35) dX10_leastReach_32 rfl (by decide) rfl ⟨by omega, by omega⟩ ?_ | refine st_iinc (q := 35) dX10_leastReach_32 rfl (by decide) rfl ?_
      refine st_goto (q := 2) dX10_leastReach_35 (by decide) ?_
      first | (have tz9 := lp_lr2 (d := d) (a := a) w0 t0 hl hx hN hK (s - 1) (by omega) _ j4 j5 (f.sI _ rfl) (stp vz9 (by omega) sbz9 lfz9 v0z9); rw [show ((s - 1 : Nat) : Int) = (s : Int) + -1 by omega] at tz9; exact tz9) | (have tz9 := lp_lr2 (d := d) (a := a) w0 t0 hl hx hN hK (s - 1) (by omega) _ j4 j5 f (skp (by omega) (fun z => by have := nsub.mpr z; omega)); rw [show ((s - 1 : Nat) : Int) = (s : Int) + -1 by omega] at tz9; exact tz9)
termination_by s
def ScSt (r : Nat) (a k : Nat) : Prop := (a = 97 + 2 * r ∧ k = 1) ∨ a = 97 + 2 * r + 1
theorem pfx_lt {N i : Nat} {g : Nat → Nat} (hN : N < 256) (s : sub (pfx g i) N) : pfx g i < 256 := by have := sub_le s; omega
theorem gd_add {W : Nat → Int} {N i k : Nat} {g : Nat → Nat} (G : GdP W N i g) (k8 : k < 8) (a : av N (pfx g i) k) (lf : LFp W N (pfx g i) (W (pfx g i ||| 2 ^ k))) (no : ∀ j, j < k → av N (pfx g i) j → W (pfx g i ||| 2 ^ j) ≠ W (pfx g i ||| 2 ^ k)) : GdP W N (i + 1) (fup g i k) ∧ pfx (fup g i k) (i + 1) = pfx g i ||| 2 ^ k := by
  have ep : ∀ j, j ≤ i → pfx (fup g i k) j = pfx g j := fun j hj => pfx_cg (fun x hx => fup_o _ (by omega))
  have e1 : pfx (fup g i k) (i + 1) = pfx g i ||| 2 ^ k := by
    show pfx (fup g i k) i ||| 2 ^ (fup g i k i) = _
    rw [ep i (Nat.le_refl _), fup_s]
  refine ⟨fun j hj => ?_, e1⟩
  by_cases z : j = i
  · subst z
    rw [e1, ep j (Nat.le_refl _), fup_s]
    exact ⟨k8, a, lf, no⟩
  · rw [ep j (by omega), ep (j + 1) (by omega), fup_o _ z]
    exact G j (by omega)
theorem lp_lr52 {d : Nat} {h0 : JH} {P : Int → JH → Prop} {l : List Nat} {N n r : Nat} (w0 : WF h0) (hr : r < 6) (hN : N < 256) (en : n = pcN N 8) (D : DPI (hI h0 47) l N 0) (hP : ∀ g v h', GdP (hI h0 47) N n g → LFp (hI h0 47) N 0 v → Fr (ScSt r) h0 h' → hI h' (97 + 2 * r) 1 = (n : Int) → (∀ j, j < n → hI h' (97 + 2 * r + 1) j = ((g j : Nat) : Int)) → P v h') (i : Nat) (hi : i ≤ n) : ∀ (g : Nat → Nat) (h' : JH) (j5 : JV), Fr (ScSt r) h0 h' → hI h' (97 + 2 * r) 1 = (n : Int) → (∀ j, j < i → hI h' (97 + 2 * r + 1) j = ((g j : Nat) : Int)) → GdP (hI h0 47) N i g → JAt k0 (d + 3) jX10_leastReach 52 [vr 44, vi N, vr (97 + 2 * r), vi (pfx g i : Nat), vi i, j5] [] h' (jqi P) := by
  intro g h' j5 f sz cl G
  have w := f.wf w0
  have sp := sp_row w hr
  have n8 := pcN_le N 8
  have eW : hI h' 47 = hI h0 47 := by funext k; exact f.2.2 _ _ (by unfold ScSt; omega)
  have sb : sub (pfx g i) N := pfx_sub (fun j hj => (G j hj).2.1.1) (Nat.le_refl _)
  have pl := pfx_lt hN sb
  have pc := gd_pc G i (Nat.le_refl _)
  have hb : ∀ S, sub S N → ∀ k, av N S k → 0 ≤ hI h' 47 (S ||| 2 ^ k) ∧ hI h' 47 (S ||| 2 ^ k) ≤ 100000 := fun S sS k ak => by
    rw [eW]
    have := D.hb (Nat.zero_le _) sS k ak
    omega
  have ex : i < n → ∀ v, LFp (hI h' 47) N (pfx g i) v → ∃ k, av N (pfx g i) k ∧ v = hI h' 47 (pfx g i ||| 2 ^ k) := fun z v lf => by
    rcases lf.2 with q | ⟨q, _⟩
    · exact q
    · exfalso
      have := (pcN_sb (S := N) (N := pfx g i) (fun k hk => by
        cases h : (pfx g i).testBit k
        · exact absurd ⟨hk, h⟩ (q k)
        · rfl) 8).1
      omega
  refine st_iload (q := 54) dX10_leastReach_52 rfl rfl ?_
  refine st_aload_n (q := 55) dX10_leastReach_54 rfl rfl ?_
  refine st_getI (q := 58) 9 1 dX10_leastReach_55 fl_X10_39 (by decide) (by decide) rfl rfl (sp.1) ?_
  refine j_top ((n : Nat) : Int) sz ?_
  refine st_icmp_ge (q := 61) (tgt := 96) dX10_leastReach_58 (by decide) rfl (fun c58 => ?_) (fun c58 => ?_)
  · refine st_aload_n (q := 97) dX10_leastReach_96 rfl rfl ?_
    refine st_iconst (q := 98) dX10_leastReach_97 ⟨by decide, by decide⟩ rfl ?_
    refine st_iload_n (q := 99) dX10_leastReach_98 rfl rfl ?_
    refine iV2i (q := 102) dX10_leastReach_99 rfl ml_X10_58 mv_X10_leastFrom (Nat.le_of_ble_eq_true rfl) (wfk w rfl) ?_
    refine c_X10_leastFrom w hN (by decide) (fun k ak => hb 0 (fun k hk => by simp at hk) k ak) (fun vy9 lfy9 v0y9 v1y9 => ?_)
    refine rt_i dX10_leastReach_102 rfl ?_
    have es : i = n := by omega
    subst es
    exact hP g _ _ G (by rw [← eW]; exact lfy9) f sz cl
  · refine st_aload_n (q := 62) dX10_leastReach_61 rfl rfl ?_
    refine st_iload_n (q := 63) dX10_leastReach_62 rfl rfl ?_
    refine st_iload_n (q := 64) dX10_leastReach_63 rfl rfl ?_
    refine st_aload_n (q := 65) dX10_leastReach_64 rfl rfl ?_
    refine st_iload_n (q := 66) dX10_leastReach_65 rfl rfl ?_
    refine st_iload_n (q := 67) dX10_leastReach_66 rfl rfl ?_
    refine iV2i (q := 70) dX10_leastReach_67 rfl ml_X10_58 mv_X10_leastFrom (Nat.le_of_ble_eq_true rfl) (wfk w rfl) ?_
    refine c_X10_leastFrom w hN pl (hb _ sb) (fun vz9 lfz9 v0z9 v1z9 => ?_)
    refine iV3i (q := 73) dX10_leastReach_70 rfl ml_X10_71 mv_X10_firstLeast (Nat.le_of_ble_eq_true rfl) (wfk w rfl) ?_
    refine c_X10_firstLeast w hN pl (ex (by omega) vz9 lfz9) (fun kz9 k8z9 akz9 ekz9 noz9 => ?_)
    refine st_istore (q := 75) dX10_leastReach_73 (by decide) rfl ?_
    refine st_aload_n (q := 76) dX10_leastReach_75 rfl rfl ?_
    refine st_iload (q := 78) dX10_leastReach_76 rfl rfl ?_
    refine st_iload (q := 80) dX10_leastReach_78 rfl rfl ?_
    refine iV2v (q := 83) dX10_leastReach_80 rfl ml_X10_75 mv_X9_set (Nat.le_of_ble_eq_true rfl) (sp.1) ?_
    refine c_X9_set sp (by omega) (by omega) ?_
    refine st_iload_n (q := 84) dX10_leastReach_83 rfl rfl ?_
    refine st_iconst (q := 85) dX10_leastReach_84 ⟨by decide, by decide⟩ rfl ?_
    refine st_iload (q := 87) dX10_leastReach_85 rfl rfl ?_
    refine st_ishl (q := 88) dX10_leastReach_87 rfl ?_
    refine j_top ((2 ^ kz9 : Nat) : Int) (p2k k8z9) ?_
    refine st_ior (q := 89) dX10_leastReach_88 rfl ?_
    have gaz9 := gd_add (W := hI h0 47) G k8z9 akz9 (by rw [← eW, ← ekz9]; exact lfz9) (fun j hj aj => by rw [← eW, ← ekz9]; exact noz9 j hj aj)
    have p8z9 := p8 k8z9
    refine j_top ((pfx (fup g i kz9) (i + 1) : Nat) : Int) (by rw [gaz9.2]; exact ior_n (by omega) (by omega)) ?_
    refine st_istore_n (q := 90) (i := 3) dX10_leastReach_89 rfl (by decide) rfl ?_
    first | refine n_iinc (q := 93) dX10_leastReach_90 rfl (by decide) rfl ⟨by omega, by omega⟩ ?_ | refine st_iinc (q := 93) dX10_leastReach_90 rfl (by decide) rfl ?_
    refine st_goto (q := 52) dX10_leastReach_93 (by decide) ?_
    exact lp_lr52 w0 hr hN en D hP (i + 1) (by omega) (fup g i kz9) _ _ (f.sI _ (Or.inr rfl)) (by rw [sI_o _ (by omega)]; exact sz) (fun j hj => by rw [show ((i : Int)).toNat = i from rfl]; by_cases e : j = i; (subst e; rw [sI_s, fup_s]); (rw [sI_k _ e, fup_o _ e]; exact cl j (by omega))) gaz9.1
termination_by n - i
def ScLr (r : Nat) (a k : Nat) : Prop := a = 47 ∨ ScSt r a k
theorem c_X10_leastReach {d : Nat} {h : JH} {P : Int → JH → Prop} {l : List Nat} {N r : Nat} (w : WF h) (t : TX h l) (hl : l.length ≤ 96) (hx : ∀ x ∈ l, x < 8) (hN : N < 256) (hr : r < 6) (hP : ∀ (W : Nat → Int) g v h', (∀ T, 0 < T → sub T N → DPp W l N T) → GdP W N (pcN N 8) g → LFp W N 0 v → Fr (ScLr r) h h' → hI h' (97 + 2 * r) 1 = ((pcN N 8 : Nat) : Int) → (∀ j, j < pcN N 8 → hI h' (97 + 2 * r + 1) j = ((g j : Nat) : Int)) → P v h') : JRi (d + 3) jX10_leastReach [vr 44, vi N, vr (97 + 2 * r)] h P := by
  have n8 := pcN_le N 8
  have e8 := pcN_8 hN
  have go : ∀ h1, Fr ScRe h h1 → DPI (hI h1 47) l N 0 → ∀ j3 j4 j5, JAt k0 (d + 3) jX10_leastReach 38 [vr 44, vi N, vr (97 + 2 * r), j3, j4, j5] [] h1 (jqi P) := by
    intro h1 f1 D j3 j4 j5
    have w1 := f1.wf w
    have sp := sp_row w1 hr
    have fm : Fr (ScSt r) h1 (mkH h1 (97 + 2 * r) ((pcN N 8 : Nat) : Int) 0) := (wI_fr (fun k => Or.inr rfl)).sI _ (Or.inl ⟨rfl, rfl⟩)
    have eW : hI (mkH h1 (97 + 2 * r) ((pcN N 8 : Nat) : Int) 0) 47 = hI h1 47 := by funext k; exact fm.2.2 _ _ (by unfold ScSt; omega)
    have tl : ∀ j5, JAt k0 (d + 3) jX10_leastReach 52 [vr 44, vi N, vr (97 + 2 * r), vi ((0 : Nat) : Int), vi ((0 : Nat) : Int), j5] [] (mkH h1 (97 + 2 * r) ((pcN N 8 : Nat) : Int) 0) (jqi P) := fun j5 => lp_lr52 (g := fun _ => 0) (fm.wf w1) hr hN rfl (by rw [eW]; exact D) (fun g v h' G lf f' sz cl => hP _ g v h' (fun T hT sT => (D T hT sT).1) (by rw [← eW]; exact G) (by rw [← eW]; exact lf) (((f1.up (fun _ _ z => Or.inl z)).tr (fm.up (fun _ _ z => Or.inr z))).tr (f'.up (fun _ _ z => Or.inr z))) sz cl) 0 (Nat.zero_le _) _ _ Fr.rf (by unfold mkH; rw [sI_s]) (fun j hj => absurd hj (by omega)) (fun j hj => absurd hj (by omega))
    refine st_aload_n (q := 39) dX10_leastReach_38 rfl rfl ?_
    refine st_iload_n (q := 40) dX10_leastReach_39 rfl rfl ?_
    refine iS1i (q := 43) dX10_leastReach_40 rfl ml_X10_62 ms_J6_bitCount_0f7a4 (Nat.le_of_ble_eq_true rfl) ?_
    refine c_bitCount (by omega) ?_
    rw [e8]
    refine st_iconst (q := 44) dX10_leastReach_43 ⟨by decide, by decide⟩ rfl ?_
    refine iV2v (q := 47) dX10_leastReach_44 rfl ml_X10_67 mv_X9_make (Nat.le_of_ble_eq_true rfl) (sp.1) ?_
    refine c_X9_make sp (by omega) ?_
    refine st_iconst (q := 48) dX10_leastReach_47 ⟨by decide, by decide⟩ rfl ?_
    refine st_istore_n (q := 49) (i := 3) dX10_leastReach_48 rfl (by decide) rfl ?_
    refine st_iconst (q := 50) dX10_leastReach_49 ⟨by decide, by decide⟩ rfl ?_
    refine st_istore (q := 52) dX10_leastReach_50 (by decide) rfl ?_
    exact tl _
  refine JRet.of rfl (Nat.le_of_ble_eq_true rfl) ?_
  refine st_iload_n (q := 1) dX10_leastReach_0 rfl rfl ?_
  refine st_istore_n (q := 2) (i := 3) dX10_leastReach_1 rfl (by decide) rfl ?_
  exact lp_lr2 w t hl hx hN (fun h' j3 j4 j5 f D => go h' f D j3 j4 j5) N (Nat.le_refl _) _ _ _ Fr.rf (fun T hT sT => by have := sub_le sT; omega)
theorem c_X11_trunk {d : Nat} {h : JH} {P : Int → JH → Prop} {y : SY} {b : Nat} {r : Int} (w : WF h) (x : SX h y b) (o : yOk y) (h1 : ¬ (0 ≤ r ∧ r ≤ 5) → P (-1) h) (h2 : 0 ≤ r ∧ r ≤ 5 → ∀ (W : Nat → Int) g v h', (∀ T, 0 < T → sub T (yNm y y.1) → DPp W (tks y y.1) (yNm y y.1) T) → GdP W (yNm y y.1) (pcN (yNm y y.1) 8) g → LFp W (yNm y y.1) 0 v → Fr (fun a k => ScTx a k ∨ ScLr r.toNat a k) h h' → hI h' (97 + 2 * r.toNat) 1 = ((pcN (yNm y y.1) 8 : Nat) : Int) → (∀ j, j < pcN (yNm y y.1) 8 → hI h' (97 + 2 * r.toNat + 1) j = ((g j : Nat) : Int)) → P v h') : JRi (d + 4) jX11_trunk [vr 0, vi r] h P := by
  have hN := yNm_lt o y.1 (Nat.le_refl _)
  have hl : (tks y y.1).length ≤ 96 := by have := tks_len y y.1; have := o.1; omega
  have hx : ∀ x ∈ tks y y.1, x < 8 := fun x hx => tks_lt y hx
  refine JRet.of rfl (Nat.le_of_ble_eq_true rfl) ?_
  refine st_iload_n (q := 1) dX11_trunk_0 rfl rfl ?_
  refine st_bipush (q := 3) dX11_trunk_1 ⟨by decide, by decide⟩ rfl ?_
  refine iS2i (q := 6) dX11_trunk_3 rfl ml_X11_86 ms_X11_isNone (Nat.le_of_ble_eq_true rfl) ?_
  refine c_X11_isNone ?_
  refine st_if_eq (q := 9) (tgt := 11) dX11_trunk_6 (by decide) rfl (fun c6 => ?_) (fun c6 => ?_)
  · refine st_aload_n (q := 12) dX11_trunk_11 rfl rfl ?_
    refine st_getR (q := 15) 11 6 dX11_trunk_12 fl_X11_49 (by decide) (by decide) rfl rfl (wfk w rfl) (wfR w rfl) ?_
    refine st_aload_n (q := 16) dX11_trunk_15 rfl rfl ?_
    refine st_getR (q := 19) 11 3 dX11_trunk_16 fl_X11_28 (by decide) (by decide) rfl rfl (wfk w rfl) (wfR w rfl) ?_
    refine iV1v (q := 22) dX11_trunk_19 rfl ml_X11_222 mv_X10_gather (Nat.le_of_ble_eq_true rfl) (wfk w rfl) ?_
    refine c_X10_gather w x o (fun h1z f1z tz => ?_)
    have wz := f1z.wf w
    have xz := x.fr o f1z scTx_d
    refine st_aload_n (q := 23) dX11_trunk_22 rfl rfl ?_
    refine st_getR (q := 26) 11 6 dX11_trunk_23 fl_X11_49 (by decide) (by decide) rfl rfl (wfk wz rfl) (wfR wz rfl) ?_
    refine st_aload_n (q := 27) dX11_trunk_26 rfl rfl ?_
    refine st_getR (q := 30) 11 3 dX11_trunk_27 fl_X11_28 (by decide) (by decide) rfl rfl (wfk wz rfl) (wfR wz rfl) ?_
    refine iV0i (q := 33) dX11_trunk_30 rfl ml_X11_233 mv_X8_named (Nat.le_of_ble_eq_true rfl) (wfk wz rfl) ?_
    refine c_X8_named wz xz o ?_
    refine st_aload_n (q := 34) dX11_trunk_33 rfl rfl ?_
    refine st_getR (q := 37) 11 0 dX11_trunk_34 fl_X11_11 (by decide) (by decide) rfl rfl (wfk wz rfl) (wfR wz rfl) ?_
    refine st_iload_n (q := 38) dX11_trunk_37 rfl rfl ?_
    refine st_aaload (q := 39) (t := 2) dX11_trunk_38 rfl ⟨by decide, by decide⟩ (wfk wz rfl) (wfb wz (n := 6) rfl ⟨by omega, by omega⟩) (xrow wz (by omega)) ?_
    refine iV2i (q := 42) dX11_trunk_39 rfl ml_X11_243 mv_X10_leastReach (Nat.le_of_ble_eq_true rfl) (wfk wz rfl) ?_
    refine c_X10_leastReach wz tz hl hx hN (by omega) (fun W g v h' dp G lf f sz cl => ?_)
    refine rt_i dX11_trunk_42 rfl ?_
    exact h2 (by omega) W g v h' dp G lf ((f1z.up (fun _ _ z => Or.inl z)).tr (f.up (fun _ _ z => Or.inr z))) sz cl
  · refine st_iconst (q := 10) dX11_trunk_9 ⟨by decide, by decide⟩ rfl ?_
    refine rt_i dX11_trunk_10 rfl ?_
    exact h1 (by omega)
theorem pr_trunk {d : Nat} {h : JH} {r : Int} (I : Inv h) : Two (d + 4) jX11_trunk jX12_trunk [vi r] h := by
  have w := I.1
  obtain ⟨y, b, ⟨o, o4⟩, m, x⟩ := I.2.2.2.2.2.1
  have hN := yNm_lt o y.1 (Nat.le_refl _)
  have n8 := pcN_le (yNm y y.1) 8
  have hlN : ∀ x ∈ tks y y.1, (yNm y y.1).testBit x = true := fun x hx => by
    obtain ⟨s, hs1, hs2⟩ := tks_in o _ (Nat.le_refl _) hx
    exact (yNm_tb (y := y) y.1).mpr ⟨s, hs1, hs2⟩
  refine c_X11_trunk w x o (fun q => c_X12_trunk w m o (fun _ => ⟨rfl, I⟩) (fun z => absurd z q)) (fun q W g v h1 dp G lf f1 sz cl => ?_)
  have m1 : SM h1 y := m.fq (Fq.rf.fr f1 (fun _ _ z => z)) (by intro a k z; simp only [rgSy, ScTx, ScLr, ScSt] at z ⊢; omega)
  refine c_X12_trunk (f1.wf w) m1 o (fun z => absurd q z) (fun _ g' best h2 o' b1 b2 b3 f2 rw2 => ?_)
  have te := trunk_eq hN rfl hlN dp G lf o' b1 b2 b3
  refine ⟨te.1, ?_⟩
  have F : Fq (fun a k => rgRw a k ∨ rgS a k) h h2 := (Fq.rf.fr f1 (fun a k z => by simp only [ScTx, ScLr, ScSt] at z; simp only [rgRw, rgS]; omega)).fr f2 (fun a k z => by
    rcases z with z | z | z
    · exact Or.inr (Or.inl z)
    · exact Or.inl (Or.inl z)
    · exact Or.inl (Or.inr (Or.inl z)))
  have a1 : ∀ a k, ¬ (a = 97 + 2 * r.toNat ∧ k = 1) → a ≠ 97 + 2 * r.toNat + 1 → 97 ≤ a → hI h1 a k = hI h a k := fun a k z1 z2 z3 => f1.2.2 _ _ (by simp only [ScTx, ScLr, ScSt]; omega)
  have a2 : ∀ a k, 97 ≤ a → a ≤ 108 → hI h2 a k = hI h1 a k := fun a k z1 z2 => f2.2.2 _ _ (by unfold ScTk ScM; omega)
  refine inv_rw I (F.up (fun a k z => z.elim Or.inl (fun z => Or.inr (Or.inr z)))) (iRw_of I.2.1 (r := r.toNat) (by omega) (fun j hj => ⟨?_, fun j6 => ⟨?_, fun k => ?_⟩⟩) (fun k hk => ?_) ⟨Or.inr ⟨?_, ?_, ?_⟩, fun i hi => ?_⟩) (I.2.2.2.2.2.2.2.2.1.fr F (by intro a k z; simp only [rgTl, rgRw, rgS, ScM] at z ⊢; omega))
  · rw [rw2.2.1 j hj, a1 _ _ (by omega) (by omega) (by omega)]
  · rw [a2 _ _ (by omega) (by omega), a1 _ _ (by omega) (by omega) (by omega)]
  · rw [a2 _ _ (by omega) (by omega), a1 _ _ (by omega) (by omega) (by omega)]
  · rw [rw2.2.2.2 k hk, a1 _ _ (by omega) (by omega) (by omega)]
  · rw [rw2.1]; omega
  · rw [rw2.1]; omega
  · rw [rw2.1, a2 _ _ (by omega) (by omega), sz]
  · rw [rw2.1] at hi
    rw [rw2.2.2.1 i (by omega), a2 _ _ (by omega) (by omega), cl i (by omega), te.2 i (by omega)]

