/-! trunk: the reference -/
theorem csF_ok (N : Nat) : ∀ k, (∀ i, i < pcN N k → csF N k i < k ∧ N.testBit (csF N k i) = true) ∧ Asc (csF N k) 0 (pcN N k) ∧ (∀ x, x < k → N.testBit x = true → ∃ i, i < pcN N k ∧ csF N k i = x)
  | 0 => ⟨fun i hi => absurd hi (by show ¬ i < 0; omega), fun a b _ _ h => absurd h (by show ¬ b < 0; omega), fun x hx => absurd hx (by omega)⟩
  | k + 1 => by
    obtain ⟨i1, i2, i3⟩ := csF_ok N k
    have e0 := pcN_bt N k
    have ec : csF N (k + 1) = if N.testBit k then fup (csF N k) (pcN N k) k else csF N k := rfl
    by_cases z : N.testBit k = true
    · rw [show bt N k = 1 from if_pos z] at e0
      rw [if_pos z] at ec
      rw [ec, e0]
      refine ⟨fun i hi => ?_, fun a b h1 h2 h3 => ?_, fun x hx hb => ?_⟩
      · by_cases q : i = pcN N k
        · rw [q, fup_s]; exact ⟨by omega, z⟩
        · rw [fup_o _ q]; have := i1 i (by omega); exact ⟨by omega, this.2⟩
      · rw [fup_o _ (show a ≠ pcN N k by omega)]
        by_cases q : b = pcN N k
        · rw [q, fup_s]; exact (i1 a (by omega)).1
        · rw [fup_o _ q]; exact i2 a b h1 h2 (by omega)
      · by_cases q : x = k
        · exact ⟨pcN N k, by omega, by rw [fup_s, q]⟩
        · obtain ⟨i, hi, e⟩ := i3 x (by omega) hb
          exact ⟨i, by omega, by rw [fup_o _ (by omega)]; exact e⟩
    · rw [show bt N k = 0 from if_neg z, Nat.add_zero] at e0
      rw [if_neg z] at ec
      rw [ec, e0]
      refine ⟨fun i hi => ?_, i2, fun x hx hb => ?_⟩
      · have := i1 i hi; exact ⟨by omega, this.2⟩
      · have : x ≠ k := fun q => z (q ▸ hb)
        exact i3 x (by omega) hb
theorem csF_o {N : Nat} (hN : N < 256) : IsO N (pcN N 8) (csF N 8) := by
  obtain ⟨i1, i2, i3⟩ := csF_ok N 8
  refine ⟨i1, fun i j hi hj e => ?_, fun k hk => i3 k ?_ hk⟩
  · rcases Nat.lt_trichotomy i j with q | q | q
    · have := i2 i j (by omega) q hj; omega
    · exact q
    · have := i2 j i (by omega) q hi; omega
  · by_cases z : k < 8
    · exact z
    · rw [Nat.testBit_lt_two_pow (Nat.lt_of_lt_of_le hN (show 2 ^ 8 ≤ 2 ^ k from Nat.pow_le_pow_right (by decide) (by omega)))] at hk
      exact absurd hk (by decide)
def kyF (c : Nat → Nat) : Nat → Nat
  | 0 => 0
  | n + 1 => kyF c n * 8 + c n
theorem kyF_eq {c x : Nat → Nat} : ∀ {n : Nat}, eqn n c x → kyF c n = kyF x n
  | 0, _ => rfl
  | n + 1, e => by
    show kyF c n * 8 + c n = kyF x n * 8 + x n
    rw [kyF_eq (fun j hj => e j (by omega)), e n (by omega)]
theorem kyF_lt {c x : Nat → Nat} : ∀ {n : Nat}, (∀ i, i < n → c i < 8) → lx n c x → kyF c n < kyF x n
  | 0, _, ⟨d, h, _⟩ => absurd h (by omega)
  | n + 1, b, ⟨d, h1, h2, h3⟩ => by
    show kyF c n * 8 + c n < kyF x n * 8 + x n
    have := b n (by omega)
    by_cases z : d = n
    · subst z
      rw [kyF_eq h2]
      omega
    · have := kyF_lt (fun i hi => b i (by omega)) (show lx n c x from ⟨d, by omega, h2, h3⟩)
      omega
theorem kyF_b {c : Nat → Nat} : ∀ {n : Nat}, (∀ i, i < n → c i < 8) → kyF c n < 8 ^ n
  | 0, _ => by show 0 < 1; decide
  | n + 1, b => by
    have h1 := kyF_b (c := c) (n := n) (fun i hi => b i (by omega))
    have h2 := b n (by omega)
    show kyF c n * 8 + c n < 8 ^ (n + 1)
    rw [Nat.pow_succ]
    omega
/-- what an order costs -/
def cst (l : List Nat) (n : Nat) (f : Nat → Nat) : Int := (rcF (plF (fun _ => 0) f n) l l.length).1
theorem cst_p {l : List Nat} {n : Nat} {f g : Nat → Nat} {p0 : Nat → Int} (hin : ∀ x ∈ l, ∃ i, i < n ∧ f i = x) (e : eqn n f g) : (rcF (plF p0 f n) l l.length).1 = cst l n g := by
  unfold cst
  rw [rcF_cg (fun x hx => plF_cg (p0 := p0) (p1 := fun _ => 0) e (hin x hx)) _ (Nat.le_refl _)]
theorem cst_b {l : List Nat} {n : Nat} {f : Nat → Nat} (hin : ∀ x ∈ l, ∃ i, i < n ∧ f i = x) (hn : n ≤ 8) (hl : l.length ≤ 96) : 0 ≤ cst l n f ∧ cst l n f ≤ 768 := by
  have := (rcF_b (pl := plF (fun _ => 0) f n) (l := l) (fun x hx => by have := plF_in (p0 := fun _ => 0) (hin x hx); omega) l.length (Nat.le_refl _)).1
  unfold cst
  omega
def MvM (h : JH) (n : Nat) (f : Nat → Nat) : Prop := ∀ i, i < n → hI h 121 i = ((f i : Nat) : Int)
/-- what the reference's search may change -/
def ScSo (a _k : Nat) : Prop := a = 144 ∨ a = 145 ∨ a = 121
theorem scSo_M : ∀ a k, ScSo a k → ScM a k := by intro a k z; unfold ScSo at z; unfold ScM; omega
theorem TK.fr {Sc : Nat → Nat → Prop} {h h' : JH} {l : List Nat} (t : TK h l) (f : Fr Sc h h') (z1 : ¬ Sc 117 35) (z2 : ∀ k, ¬ Sc 143 k) : TK h' l := ⟨(f.2.2 _ _ z1).trans t.1, fun i x e => (f.2.2 _ _ (z2 i)).trans (t.2 i x e)⟩
theorem tkS {h h' : JH} {l : List Nat} (t : TK h l) (f : Fr ScSo h h') : TK h' l := t.fr f (by unfold ScSo; omega) (fun k => by unfold ScSo; omega)
/-- the best so far: no order ahead of c is less, none ahead of the kept one as little -/
def BsO (l : List Nat) (N n : Nat) (h : JH) (best : Int) (c : Nat → Nat) : Prop := (∀ f, IsO N n f → lx n f c → best ≤ cst l n f) ∧ (best = 1000000 ∨ ∃ g, IsO N n g ∧ MvM h n g ∧ best = cst l n g ∧ ∀ f, IsO N n f → lx n f g → best < cst l n f)
def FnO (l : List Nat) (N n : Nat) (h : JH) (best : Int) : Prop := ∃ g, IsO N n g ∧ MvM h n g ∧ best = cst l n g ∧ (∀ f, IsO N n f → best ≤ cst l n f) ∧ ∀ f, IsO N n f → lx n f g → best < cst l n f
theorem lp_tr80 {d : Nat} {h0 : JH} {Q : Option JV → JH → Prop} {n : Nat} {r best by_ : Int} {c : Nat → Nat} (w0 : WF h0) (hn : n ≤ 8) (od : OdM h0 n c) (hK : ∀ h' j6, Fr (fun a _ => a = 121) h0 h' → MvM h' n c → JAt k0 (d + 3) jX12_trunk 106 [vr 117, vi r, vi n, vi best, vi 1, vi by_, j6] [] h' Q) (i : Nat) (hi : i ≤ n) : ∀ h', Fr (fun a _ => a = 121) h0 h' → (∀ j, j < i → hI h' 121 j = ((c j : Nat) : Int)) → JAt k0 (d + 3) jX12_trunk 80 [vr 117, vi r, vi n, vi best, vi 1, vi by_, vi i] [] h' Q := by
  intro h' f m
  have w := f.wf w0
  have oi : i < n → hI h' 144 i = ((c i : Nat) : Int) := fun z => (f.2.2 _ _ (by omega)).trans (od i z)
  refine st_iload (q := 82) dX12_trunk_80 rfl rfl ?_
  refine st_iload_n (q := 83) dX12_trunk_82 rfl rfl ?_
  refine st_icmp_ge (q := 86) (tgt := 106) dX12_trunk_83 (by decide) rfl (fun c83 => ?_) (fun c83 => ?_)
  · exact hK _ _ f (fun j hj => m j (by omega))
  · refine st_aload_n (q := 87) dX12_trunk_86 rfl rfl ?_
    refine st_getR (q := 90) 12 7 dX12_trunk_87 fl_X12_23 (by decide) (by decide) rfl rfl (wfk w rfl) (wfR w rfl) ?_
    refine st_iload (q := 92) dX12_trunk_90 rfl rfl ?_
    refine st_aload_n (q := 93) dX12_trunk_92 rfl rfl ?_
    refine st_getR (q := 96) 12 37 dX12_trunk_93 fl_X12_99 (by decide) (by decide) rfl rfl (wfk w rfl) (wfR w rfl) ?_
    refine st_iload (q := 98) dX12_trunk_96 rfl rfl ?_
    refine st_iaload (q := 99) dX12_trunk_98 rfl (wfk w rfl) (wfb w (n := 8) rfl ⟨by omega, by omega⟩) ?_
    refine j_top ((c i : Nat) : Int) (oi (by omega)) ?_
    refine st_iastore (q := 100) dX12_trunk_99 rfl (wfk w rfl) (wfb w (n := 40) rfl ⟨by omega, by omega⟩) ?_
    first | refine n_iinc (q := 103) dX12_trunk_100 rfl (by decide) rfl ⟨by omega, by omega⟩ ?_ | refine st_iinc (q := 103) dX12_trunk_100 rfl (by decide) rfl ?_
    refine st_goto (q := 80) dX12_trunk_103 (by decide) ?_
    exact lp_tr80 w0 hn od hK (i + 1) (by omega) _ (f.sI _ rfl) (fun j hj => by rw [show ((i : Int)).toNat = i from rfl]; by_cases e : j = i; (subst e; rw [sI_s]); (rw [sI_k _ e]; exact m j (by omega)))
termination_by n - i
theorem cst_e {l : List Nat} {n : Nat} {f g : Nat → Nat} (hin : ∀ x ∈ l, ∃ i, i < n ∧ f i = x) (e : eqn n f g) : cst l n f = cst l n g := cst_p (p0 := fun _ => 0) hin e
theorem lp_tr56z {d : Nat} {h : JH} {Q : Option JV → JH → Prop} {n : Nat} {r best : Int} (hK : ∀ j4 j5 j6, JAt k0 (d + 3) jX12_trunk 116 [vr 117, vi r, vi n, vi best, j4, j5, j6] [] h Q) : ∀ j5 j6, JAt k0 (d + 3) jX12_trunk 56 [vr 117, vi r, vi n, vi best, vi 0, j5, j6] [] h Q := by
  intro j5 j6
  refine st_iload (q := 58) dX12_trunk_56 rfl rfl ?_
  refine st_if_eq (q := 61) (tgt := 116) dX12_trunk_58 (by decide) rfl (fun c58 => ?_) (fun c58 => ?_)
  · exact hK _ _ _
  · exact absurd rfl c58
theorem lp_tr56 {d : Nat} {h0 : JH} {Q : Option JV → JH → Prop} {N n : Nat} {r : Int} {l : List Nat} (w0 : WF h0) (t0 : TK h0 l) (hl : l.length ≤ 96) (hx : ∀ x ∈ l, x < 8) (hlN : ∀ x ∈ l, N.testBit x = true) (hn : n ≤ 8) (hK : ∀ h' best j4 j5 j6, Fr ScSo h0 h' → FnO l N n h' best → JAt k0 (d + 3) jX12_trunk 116 [vr 117, vi r, vi n, vi best, j4, j5, j6] [] h' Q) (m : Nat) : ∀ (c : Nat → Nat) (best : Int) (h' : JH) (j5 j6 : JV), 8 ^ n ≤ kyF c n + m → Fr ScSo h0 h' → OdM h' n c → IsO N n c → BsO l N n h' best c → best ≤ 1000000 → JAt k0 (d + 3) jX12_trunk 56 [vr 117, vi r, vi n, vi best, vi 1, j5, j6] [] h' Q := by
  intro c best h' j5 j6 hm f od o bs bb
  have w := f.wf w0
  have t := tkS t0 f
  have c8 : ∀ {g : Nat → Nat}, IsO N n g → ∀ i, i < n → g i < 8 := fun og i hi => (og.1 i hi).1
  have k8 := kyF_b (c8 o)
  obtain ⟨m', rfl⟩ : ∃ m', m = m' + 1 := ⟨m - 1, by omega⟩
  have hin : ∀ {g : Nat → Nat}, IsO N n g → ∀ x ∈ l, ∃ i, i < n ∧ g i = x := fun og x hxl => og.2.2 x (hlN x hxl)
  have cb := cst_b (hin o) hn hl
  have e0 : (rcF (plF (hI h' 145) c n) l l.length).1 = cst l n c := cst_p (hin o) (fun _ _ => rfl)
  have nx : ∀ (h2 : JH) (b2 : Int) (j6 : JV), Fr ScSo h0 h2 → OdM h2 n c → b2 ≤ 1000000 → (∀ f, IsO N n f → (lx n f c ∨ eqn n f c) → b2 ≤ cst l n f) → (∃ g, IsO N n g ∧ MvM h2 n g ∧ b2 = cst l n g ∧ ∀ f, IsO N n f → lx n f g → b2 < cst l n f) → JAt k0 (d + 3) jX12_trunk 106 [vr 117, vi r, vi n, vi b2, vi 1, vi (cst l n c), j6] [] h2 Q := by
    intro h2 b2 j6 f2 od2 bb2 a1 a2
    have w2 := f2.wf w0
    have fin : Ds c 0 n → FnO l N n h2 b2 := fun ds => by
      obtain ⟨g, g1, g2, g3, g4⟩ := a2
      refine ⟨g, g1, g2, g3, fun fo ofo => ?_, g4⟩
      rcases lx_tri fo c n with e | e | e
      · exact a1 fo ofo (Or.inr e)
      · exact a1 fo ofo (Or.inl e)
      · exact absurd e (ord_last o ofo ds)
    have stp : ∀ (i : Nat) (x : Nat → Nat) (h3 : JH), Fr ScO h2 h3 → OdM h3 n x → IsO N n x → Nxt n i c x → ∀ j5 j6 : JV, JAt k0 (d + 3) jX12_trunk 56 [vr 117, vi r, vi n, vi b2, vi 1, j5, j6] [] h3 Q := fun i x h3 f3 od3 ox nxt j5 j6 => by
      have kl := kyF_lt (c8 o) (Nxt_lx nxt)
      refine lp_tr56 w0 t0 hl hx hlN hn hK m' x b2 h3 j5 j6 (by omega) (f2.tr (f3.up (fun _ _ z => Or.inl z))) od3 ox ⟨fun fo ofo z => ?_, Or.inr ?_⟩ bb2
      · rcases lx_tri fo c n with e | e | e
        · exact a1 fo ofo (Or.inr e)
        · exact a1 fo ofo (Or.inl e)
        · rcases Nxt_no nxt o ox ofo e with q | q
          · exact (lx_irr z q).elim
          · exact absurd (kyF_lt (c8 ofo) z) (by have := kyF_lt (c8 ox) q; omega)
      · obtain ⟨g, g1, g2, g3, g4⟩ := a2
        exact ⟨g, g1, fun i hi => (f3.2.2 _ _ (by unfold ScO; omega)).trans (g2 i hi), g3, g4⟩
    refine st_aload_n (q := 107) dX12_trunk_106 rfl rfl ?_
    refine st_iload_n (q := 108) dX12_trunk_107 rfl rfl ?_
    refine iV1i (q := 111) dX12_trunk_108 rfl ml_X12_255 mv_X12_nextOrder (Nat.le_of_ble_eq_true rfl) (wfk w2 rfl) ?_
    refine c_X12_nextOrder w2 hn od2 o (fun dsz => ?_) (fun iz xz h3z f3z od3z oxz nxtz => ?_)
    · refine st_istore (q := 113) dX12_trunk_111 (by decide) rfl ?_
      refine st_goto (q := 56) dX12_trunk_113 (by decide) ?_
      first | exact stp iz xz h3z f3z od3z oxz nxtz _ _ | exact lp_tr56z (fun j4 j5 j6 => hK _ _ _ _ _ f2 (fin dsz)) _ _
    · refine st_istore (q := 113) dX12_trunk_111 (by decide) rfl ?_
      refine st_goto (q := 56) dX12_trunk_113 (by decide) ?_
      first | exact stp iz xz h3z f3z od3z oxz nxtz _ _ | exact lp_tr56z (fun j4 j5 j6 => hK _ _ _ _ _ f2 (fin dsz)) _ _
  have hz : Fr ScSo h' (wI h' 145 (plF (hI h' 145) c n)) := wI_fr (fun k => Or.inr (Or.inl rfl))
  have oz : OdM (wI h' 145 (plF (hI h' 145) c n)) n c := fun i hi => by rw [wI_ne _ _ (by decide)]; exact od i hi
  refine st_iload (q := 58) dX12_trunk_56 rfl rfl ?_
  refine st_if_eq (q := 61) (tgt := 116) dX12_trunk_58 (by decide) rfl (fun c58 => ?_) (fun c58 => ?_)
  · exact absurd c58 (by decide)
  · refine st_aload_n (q := 62) dX12_trunk_61 rfl rfl ?_
    refine st_iload_n (q := 63) dX12_trunk_62 rfl rfl ?_
    refine iV1i (q := 66) dX12_trunk_63 rfl ml_X12_248 mv_X12_reaches (Nat.le_of_ble_eq_true rfl) (wfk w rfl) ?_
    refine c_X12_reaches (od := c) w t hl hx hn (fun i hi => ⟨od i hi, c8 o i hi⟩) (hin o) ?_
    rw [e0]
    refine st_istore (q := 68) dX12_trunk_66 (by decide) rfl ?_
    refine st_iload (q := 70) dX12_trunk_68 rfl rfl ?_
    refine st_iload_n (q := 71) dX12_trunk_70 rfl rfl ?_
    refine st_icmp_ge (q := 74) (tgt := 106) dX12_trunk_71 (by decide) rfl (fun c71 => ?_) (fun c71 => ?_)
    · refine nx _ best _ (f.tr hz) oz bb (fun fo ofo z => z.elim (fun z => bs.1 fo ofo z) (fun z => by rw [cst_e (hin ofo) z]; omega)) (bs.2.elim (fun z => by exfalso; omega) (fun ⟨g, g1, g2, g3, g4⟩ => ⟨g, g1, fun i hi => by rw [wI_ne _ _ (by decide)]; exact g2 i hi, g3, g4⟩))
    · refine st_iload (q := 76) dX12_trunk_74 rfl rfl ?_
      refine st_istore_n (q := 77) (i := 3) dX12_trunk_76 rfl (by decide) rfl ?_
      refine st_iconst (q := 78) dX12_trunk_77 ⟨by decide, by decide⟩ rfl ?_
      refine st_istore (q := 80) dX12_trunk_78 (by decide) rfl ?_
      exact lp_tr80 (hz.wf w) hn oz (fun h2 j6 f2 mv2 => nx h2 (cst l n c) j6 ((f.tr hz).tr (f2.up (fun _ _ z => Or.inr (Or.inr z)))) (fun i hi => (f2.2.2 _ _ (by omega)).trans (oz i hi)) (by omega) (fun fo ofo z => z.elim (fun z => by have := bs.1 fo ofo z; omega) (fun z => by rw [cst_e (hin ofo) z]; omega)) ⟨c, o, mv2, rfl, fun fo ofo z => by have := bs.1 fo ofo z; omega⟩) 0 (Nat.zero_le _) _ Fr.rf (fun j hj => absurd hj (by omega))
termination_by m

