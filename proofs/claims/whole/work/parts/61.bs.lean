/-! both sides answer alike: best -/
def lxl (a b : Int × Int) : Prop := a.1 < b.1 ∨ (a.1 = b.1 ∧ a.2 ≤ b.2)
theorem lxl.rf (a : Int × Int) : lxl a a := Or.inr ⟨rfl, Int.le_refl _⟩
theorem lxl.tr {a b c : Int × Int} (h : lxl a b) (g : lxl b c) : lxl a c := by unfold lxl at *; omega
theorem lxl.eq {a b : Int × Int} (h : lxl a b) (g : lxl b a) : a = b := by
  unfold lxl at *
  exact Prod.ext (by omega) (by omega)
/-- st' is the least of st and of all that a set holds -/
def Lst (v : Nat → Int × Int) (st st' : Int × Int) (S : Nat → Prop) : Prop := (st' = st ∨ ∃ c, S c ∧ st' = v c) ∧ lxl st' st ∧ ∀ c, S c → lxl st' (v c)
theorem Lst.non {v : Nat → Int × Int} {st : Int × Int} {S : Nat → Prop} (h : ∀ c, S c → lxl st (v c)) : Lst v st st S := ⟨Or.inl rfl, lxl.rf _, h⟩
theorem Lst.two {v : Nat → Int × Int} {a b c : Int × Int} {S T U : Nat → Prop} (h : Lst v a b S) (g : Lst v b c T) (e : ∀ x, U x ↔ (S x ∨ T x)) : Lst v a c U := by
  refine ⟨?_, g.2.1.tr h.2.1, fun x hx => ((e x).mp hx).elim (fun z => g.2.1.tr (h.2.2 x z)) (fun z => g.2.2 x z)⟩
  rcases g.1 with z | ⟨x, hx, z⟩
  · rw [z]
    rcases h.1 with t | ⟨x, hx, t⟩
    · exact Or.inl t
    · exact Or.inr ⟨x, (e x).mpr (Or.inl hx), t⟩
  · exact Or.inr ⟨x, (e x).mpr (Or.inr hx), z⟩
def bsV (y : SY) (c : Nat) : Int × Int := ((yLen y c y.1 : Int), (c : Int))
theorem ymc_pre {y : SY} {c c' : Nat} : ∀ {s : Nat}, (∀ t, t < s → c.testBit t = c'.testBit t) → ymc y c s = ymc y c' s
  | 0, _ => rfl
  | s + 1, e => by
    have ih := ymc_pre (y := y) (s := s) (fun t ht => e t (by omega))
    show (if c.testBit s then ((ymc y c s).1, (ymc y c s).2 && decide (yKp y s = 0) && decide (yMf y s < 0)) else ((ymc y c s).1 ||| ySh y s, (ymc y c s).2 && decide (nandn (yNd y s) (ymc y c s).1 = 0))) = (if c'.testBit s then ((ymc y c' s).1, (ymc y c' s).2 && decide (yKp y s = 0) && decide (yMf y s < 0)) else ((ymc y c' s).1 ||| ySh y s, (ymc y c' s).2 && decide (nandn (yNd y s) (ymc y c' s).1 = 0)))
    rw [ih, e s (by omega)]
theorem yLen_pre {y : SY} {c c' : Nat} : ∀ {s : Nat}, (∀ t, t < s → c.testBit t = c'.testBit t) → yLen y c s = yLen y c' s
  | 0, _ => rfl
  | s + 1, e => by
    show yLen y c s + (if c.testBit s then yLe y s else 0) = yLen y c' s + (if c'.testBit s then yLe y s else 0)
    rw [yLen_pre (fun t ht => e t (by omega)), e s (by omega)]
theorem yLen_mono {y : SY} {c s : Nat} : ∀ n, s ≤ n → yLen y c s ≤ yLen y c n
  | 0, h => by rw [show s = 0 by omega]; exact Nat.le_refl _
  | n + 1, h => by
    by_cases e : s = n + 1
    · rw [e]; exact Nat.le_refl _
    · have := yLen_mono (y := y) (c := c) (s := s) n (by omega)
      show _ ≤ yLen y c n + (if c.testBit n then yLe y n else 0)
      omega
theorem mod_bits {c s cut : Nat} (h : c % 2 ^ s = cut) : ∀ t, t < s → c.testBit t = cut.testBit t := fun t ht => by
  rw [← h, Nat.testBit_mod_two_pow, decide_eq_true ht, Bool.true_and]
theorem or_add {s cut : Nat} (h : cut < 2 ^ s) : cut ||| 2 ^ s = cut + 2 ^ s := by
  have := Nat.two_pow_add_eq_or_of_lt h 1
  rw [Nat.mul_one] at this
  rw [Nat.or_comm, ← this, Nat.add_comm]
theorem mod_split {c s cut : Nat} (h : cut < 2 ^ s) : (c % 2 ^ s = cut ∧ c.testBit s = false ↔ c % 2 ^ (s + 1) = cut) ∧ (c % 2 ^ s = cut ∧ c.testBit s = true ↔ c % 2 ^ (s + 1) = cut ||| 2 ^ s) := by
  have e0 := Nat.mod_pow_succ (x := c) (b := 2) (k := s)
  have e : c % 2 ^ (s + 1) = c % 2 ^ s + 2 ^ s * (c.testBit s).toNat := by
    rw [e0, Nat.testBit_eq_decide_div_mod_eq]
    have hl : c / 2 ^ s % 2 < 2 := Nat.mod_lt _ (by omega)
    rcases (show c / 2 ^ s % 2 = 0 ∨ c / 2 ^ s % 2 = 1 by omega) with z | z <;> rw [z] <;> rfl
  have l := Nat.mod_lt c (Nat.two_pow_pos s)
  rw [or_add h]
  cases hb : c.testBit s
  · rw [hb] at e
    simp only [Bool.toNat_false, Nat.mul_zero, Nat.add_zero] at e
    rw [e]
    constructor
    · exact ⟨fun z => z.1, fun z => ⟨z, rfl⟩⟩
    · constructor
      · intro z; cases z.2
      · intro z; exfalso; omega
  · rw [hb] at e
    simp only [Bool.toNat_true, Nat.mul_one] at e
    rw [e]
    constructor
    · constructor
      · intro z; cases z.2
      · intro z; exfalso; omega
    · exact ⟨fun z => by omega, fun z => ⟨by omega, rfl⟩⟩
theorem or_tb {s cut : Nat} (h : cut < 2 ^ s) : (∀ t, t < s → (cut ||| 2 ^ s).testBit t = cut.testBit t) ∧ (cut ||| 2 ^ s).testBit s = true ∧ cut.testBit s = false := by
  refine ⟨fun t ht => ?_, ?_, Nat.testBit_lt_two_pow h⟩
  · rw [Nat.testBit_or, Nat.testBit_two_pow, decide_eq_false (by omega), Bool.or_false]
  · rw [Nat.testBit_or, Nat.testBit_two_pow_self, Bool.or_true]
/-- c can be cut, from s on, where s is come to between fr and ti -/
def bsE (y : SY) (c s : Nat) (fr ti : Int) : Bool := (ymc y c y.1).2 && (goS y c y.1 (-9) 0 (13 - s) s fr ti).isSome
def cS (y : SY) (s cut : Nat) (fr ti : Int) (c : Nat) : Prop := c < 2 ^ y.1 ∧ c % 2 ^ s = cut ∧ bsE y c s fr ti = true
theorem bsE_g {y : SY} (o : yOk y) {c s : Nat} {fr ti : Int} (hs : s < y.1) : goS y c y.1 (-9) 0 (13 - s) s fr ti = if c.testBit s then goS y c y.1 (-9) 0 (13 - (s + 1)) (s + 1) fr ti else if dnF y s ti < upF y s fr then none else goS y c y.1 (-9) 0 (13 - (s + 1)) (s + 1) (upF y s fr + (yLe y s : Nat)) (dnF y s ti + (yMo y s : Nat)) := by
  have o1 := o.1
  rw [show 13 - s = (12 - s) + 1 by omega, goS, if_pos ⟨by omega, hs⟩, show 13 - (s + 1) = 12 - s by omega, if_neg (show ¬ (s : Int) = -9 by omega), if_neg (show ¬ (s : Int) = -9 by omega), if_pos hs, Int.add_zero]
theorem bsE_1 {y : SY} (o : yOk y) {c s cut sh : Nat} {fr ti : Int} (hs : s < y.1) (hm : ∀ t, t < s → c.testBit t = cut.testBit t) (hy : ymc y cut s = (sh, true)) (hb : c.testBit s = true) : bsE y c s fr ti = true ↔ (yKp y s = 0 ∧ yMf y s < 0) ∧ bsE y c (s + 1) fr ti = true := by
  have e0 : ymc y c (s + 1) = if c.testBit s then ((ymc y c s).1, (ymc y c s).2 && decide (yKp y s = 0) && decide (yMf y s < 0)) else ((ymc y c s).1 ||| ySh y s, (ymc y c s).2 && decide (nandn (yNd y s) (ymc y c s).1 = 0)) := rfl
  rw [if_pos hb, ymc_pre hm, hy, Bool.true_and] at e0
  have g := bsE_g o (c := c) (fr := fr) (ti := ti) hs
  rw [if_pos hb] at g
  unfold bsE
  rw [g]
  constructor
  · intro h
    refine ⟨?_, h⟩
    rw [Bool.and_eq_true] at h
    cases z : (ymc y c (s + 1)).2
    · rw [ymc_f z y.1 (by omega)] at h; cases h.1
    · rw [e0] at z
      have z : (decide (yKp y s = 0) && decide (yMf y s < 0)) = true := z
      rw [Bool.and_eq_true] at z
      exact ⟨of_decide_eq_true z.1, of_decide_eq_true z.2⟩
  · intro h; exact h.2
theorem bsE_0 {y : SY} (o : yOk y) {c s cut sh : Nat} {fr ti : Int} (hs : s < y.1) (hm : ∀ t, t < s → c.testBit t = cut.testBit t) (hy : ymc y cut s = (sh, true)) (hb : c.testBit s = false) : bsE y c s fr ti = true ↔ (nandn (yNd y s) sh = 0 ∧ upF y s fr ≤ dnF y s ti) ∧ bsE y c (s + 1) (upF y s fr + (yLe y s : Nat)) (dnF y s ti + (yMo y s : Nat)) = true := by
  have e0 : ymc y c (s + 1) = if c.testBit s then ((ymc y c s).1, (ymc y c s).2 && decide (yKp y s = 0) && decide (yMf y s < 0)) else ((ymc y c s).1 ||| ySh y s, (ymc y c s).2 && decide (nandn (yNd y s) (ymc y c s).1 = 0)) := rfl
  rw [if_neg (by rw [hb]; decide), ymc_pre hm, hy, Bool.true_and] at e0
  have g := bsE_g o (c := c) (fr := fr) (ti := ti) hs
  rw [if_neg (by rw [hb]; decide)] at g
  unfold bsE
  rw [g]
  constructor
  · intro h
    rw [Bool.and_eq_true] at h
    have hnd : nandn (yNd y s) sh = 0 := by
      cases z : (ymc y c (s + 1)).2
      · rw [ymc_f z y.1 (by omega)] at h; cases h.1
      · rw [e0] at z
        exact of_decide_eq_true z
    by_cases q : dnF y s ti < upF y s fr
    · rw [if_pos q] at h; cases h.2
    · rw [if_neg q] at h
      exact ⟨⟨hnd, by omega⟩, by rw [h.1, h.2]; rfl⟩
  · intro h
    rw [if_neg (by have := h.1.2; omega)]
    exact h.2
theorem cS_end {y : SY} (o : yOk y) {cut sh c : Nat} {fr ti : Int} (hc : cut < 2 ^ y.1) (hy : ymc y cut y.1 = (sh, true)) : cS y y.1 cut fr ti c ↔ c = cut := by
  have o1 := o.1
  unfold cS bsE
  constructor
  · rintro ⟨h1, h2, _⟩
    rw [Nat.mod_eq_of_lt h1] at h2
    exact h2
  · rintro rfl
    refine ⟨hc, Nat.mod_eq_of_lt hc, ?_⟩
    rw [hy, show 13 - y.1 = (12 - y.1) + 1 by omega, goS, if_neg (by omega)]
    rfl
def ScNw (a _k : Nat) : Prop := a = 40
theorem scNw_i (k : Nat) : ScNw 40 k := rfl
theorem scNw_d : ∀ a k, (a = 13 ∧ k = 1) ∨ (16 ≤ a ∧ a ≤ 39) → ¬ ScNw a k := by intro a k z; unfold ScNw; omega
theorem scNw_S : ∀ a k, ScNw a k → rgS a k := by intro a k z; unfold ScNw at z; unfold rgS; omega
theorem nt_nw : ∀ a k, ScNt a k → ScNw a k := fun _ _ z => z.1
theorem SM_nw {h h' : JH} {y : SY} (m : SM h y) (f : Fr ScNw h h') : SM h' y := m.fq (Fq.rf.fr (Sc := ScNw) f (fun _ _ z => z)) (by intro a k z; simp only [rgSy, ScNw] at z ⊢; omega)
theorem SX.nt {h h' : JH} {y : SY} {b : Nat} (x : SX h y b) (o : yOk y) (f : Fr ScNw h h') : SX h' y b := x.fr o f scNw_d
set_option maxHeartbeats 4000000 in
theorem c_X4_cutFrom {h : JH} {y : SY} {b : Nat} (w0 : WF h) (x0 : SX h y b) (o : yOk y) : ∀ (m D s cut sh : Nat) (fr ti L B : Int) (h' : JH) (P : JH → Prop), s + m = y.1 → m + 5 ≤ D → Fr ScNw h h' → hI h' 40 0 = fr → hI h' 40 1 = ti → hI h' 40 2 = L → hI h' 40 3 = B → (0 ≤ fr ∧ fr ≤ 1000 + 200 * s) → (0 ≤ ti ∧ ti ≤ 200 * s) → cut < 2 ^ s → ymc y cut s = (sh, true) → (∀ h2 L' B', Fr ScNw h h2 → hI h2 40 2 = L' → hI h2 40 3 = B' → Lst (bsV y) (L, B) (L', B') (cS y s cut fr ti) → P h2) → JRv D jX4_cutFrom [vr 40, vr 13, vi s, vi cut, vi (yLen y cut s : Nat), vi sh] h' P
  | 0, D, s, cut, sh, fr, ti, L, B, h', P, hm, hD, f, e0, e1, e2, e3, bf, bt, hc, hy, hP => by
    obtain ⟨d, rfl⟩ : ∃ d, D = d + 5 := ⟨D - 5, by omega⟩
    have w := f.wf w0
    have x := x0.nt o f
    have es : s = y.1 := by omega
    subst es
    have hS : ∀ c, cS y y.1 cut fr ti c ↔ c = cut := fun c => cS_end o hc hy
    have vl' : bsV y cut = ((yLen y cut y.1 : Int), (cut : Int)) := rfl
    refine JRet.of rfl (Nat.le_of_ble_eq_true rfl) ?_
    refine st_iload (q := 2) dX4_cutFrom_0 rfl rfl ?_
    refine st_aload_n (q := 3) dX4_cutFrom_2 rfl rfl ?_
    refine st_getI (q := 6) 4 2 dX4_cutFrom_3 fl_X4_18 (by decide) (by decide) rfl rfl (wfk w rfl) ?_
    refine st_icmp_le (q := 9) (tgt := 10) dX4_cutFrom_6 (by decide) rfl (fun c6 => ?_) (fun c6 => ?_)
    · refine st_aload_n (q := 11) dX4_cutFrom_10 rfl rfl ?_
      refine st_iload_n (q := 12) dX4_cutFrom_11 rfl rfl ?_
      refine iV1i (q := 15) dX4_cutFrom_12 rfl ml_X4_92 mv_X8_has (Nat.le_of_ble_eq_true rfl) (wfk w rfl) ?_
      refine c_X8_has w x ?_
      refine st_if_ne (q := 18) (tgt := 50) dX4_cutFrom_15 (by decide) rfl (fun c15 => ?_) (fun c15 => ?_)
      · exfalso; omega
      · refine st_aload_n (q := 19) dX4_cutFrom_18 rfl rfl ?_
        refine st_iload (q := 21) dX4_cutFrom_19 rfl rfl ?_
        refine st_aload_n (q := 22) dX4_cutFrom_21 rfl rfl ?_
        refine st_getI (q := 25) 4 2 dX4_cutFrom_22 fl_X4_18 (by decide) (by decide) rfl rfl (wfk w rfl) ?_
        apply j_mg 40
        · intro K1 K2
          refine st_icmp_ge (q := 28) (tgt := 32) dX4_cutFrom_25 (by decide) rfl (fun c25 => ?_) (fun c25 => ?_)
          · refine st_iload_n (q := 33) dX4_cutFrom_32 rfl rfl ?_
            refine st_aload_n (q := 34) dX4_cutFrom_33 rfl rfl ?_
            refine st_getI (q := 37) 4 3 dX4_cutFrom_34 fl_X4_21 (by decide) (by decide) rfl rfl (wfk w rfl) ?_
            refine st_mmin (q := 40) dX4_cutFrom_37 rfl ml_X4_45 (Nat.le_of_ble_eq_true rfl) ?_
            exact K1 c25
          · refine st_iload_n (q := 29) dX4_cutFrom_28 rfl rfl ?_
            refine st_goto (q := 40) dX4_cutFrom_29 (by decide) ?_
            exact K2 c25
        · simp only [jif_if]
          refine j_top (if (yLen y cut y.1 : Int) < L then (cut : Int) else if (cut : Int) ≤ B then (cut : Int) else B) (by (repeat' split) <;> omega) ?_
          refine st_putI (q := 43) 4 3 dX4_cutFrom_40 fl_X4_21 (by decide) (by decide) (Or.inl rfl) rfl (Or.inl rfl) (wfk w rfl) ?_
          refine st_aload_n (q := 44) dX4_cutFrom_43 rfl rfl ?_
          refine st_iload (q := 46) dX4_cutFrom_44 rfl rfl ?_
          refine st_putI (q := 49) 4 2 dX4_cutFrom_46 fl_X4_18 (by decide) (by decide) (Or.inl rfl) rfl (Or.inl rfl) (wfk w rfl) ?_
          refine rt_v dX4_cutFrom_49 rfl ?_
          refine hP _ (yLen y cut y.1 : Int) (if (yLen y cut y.1 : Int) < L then (cut : Int) else if (cut : Int) ≤ B then (cut : Int) else B) ((f.sI _ (scNw_i _)).sI _ (scNw_i _)) (by rw [sI_s]) (by rw [sI_k _ (by decide), sI_s]) ⟨?_, ?_, fun c hcc => ?_⟩
          · by_cases z : (yLen y cut y.1 : Int) < L
            · rw [if_pos z]; exact Or.inr ⟨cut, (hS cut).mpr rfl, rfl⟩
            · rw [if_neg z]
              by_cases z2 : (cut : Int) ≤ B
              · rw [if_pos z2]; exact Or.inr ⟨cut, (hS cut).mpr rfl, rfl⟩
              · rw [if_neg z2]; exact Or.inl (Prod.ext (by show (yLen y cut y.1 : Int) = L; omega) rfl)
          · unfold lxl; show (yLen y cut y.1 : Int) < L ∨ ((yLen y cut y.1 : Int) = L ∧ (if (yLen y cut y.1 : Int) < L then (cut : Int) else if (cut : Int) ≤ B then (cut : Int) else B) ≤ B); (repeat' split) <;> omega
          · rw [(hS c).mp hcc, vl']; refine Or.inr ⟨rfl, ?_⟩; show (if (yLen y cut y.1 : Int) < L then (cut : Int) else if (cut : Int) ≤ B then (cut : Int) else B) ≤ (cut : Int); (repeat' split) <;> omega
    · refine rt_v dX4_cutFrom_9 rfl ?_
      exact hP _ L B f e2 e3 (Lst.non (fun c hcc => by rw [(hS c).mp hcc, vl']; exact Or.inl (by show L < (yLen y cut y.1 : Int); omega)))
  | m + 1, D, s, cut, sh, fr, ti, L, B, h', P, hm, hD, f, e0, e1, e2, e3, bf, bt, hc, hy, hP => by
    obtain ⟨d, rfl⟩ : ∃ d, D = d + 5 := ⟨D - 5, by omega⟩
    have w := f.wf w0
    have x := x0.nt o f
    have o1 := o.1
    have b1 := x.1
    have hlt : s < y.1 := by omega
    have os := o.2 s hlt
    have cx := x.2.2.2.2 s hlt
    have kx := xck (h := h') (s := s) w x (by omega)
    have b2 := upF_b o hlt (by omega) bf
    have b3 := dnF_b o hlt bt
    have hsh : sh < 256 := by have := ymc_lt o cut s (by omega); rw [hy] at this; exact this
    have lc := yLen_le o cut s (by omega)
    have p2 : 2 ^ s ≤ 2 ^ 12 := Nat.pow_le_pow_right (by omega) (by omega)
    have ot := or_tb hc
    have ms := fun c => mod_split (c := c) hc
    have hC : ∀ h3 L1 B1, Fr ScNw h h3 → hI h3 40 2 = L1 → hI h3 40 3 = B1 → Lst (bsV y) (L, B) (L1, B1) (fun c => cS y s cut fr ti c ∧ c.testBit s = false) → JAt k0 (d + 5) jX4_cutFrom 114 [vr 40, vr 13, vi s, vi cut, vi (yLen y cut s : Nat), vi sh, vr (16 + 2 * s + b), vi fr, vi ti] [] h3 (jqv P) := by
      intro h3 L1 B1 f3 g2 g3 hL
      have w3 := f3.wf w0
      have x3 := x0.nt o f3
      have cx3 := x3.2.2.2.2 s hlt
      have kx3 := xck (h := h3) (s := s) w3 x3 (by omega)
      have f4 : Fr ScNw h (sI (sI h3 40 0 fr) 40 1 ti) := (f3.sI _ (scNw_i _)).sI _ (scNw_i _)
      have x4 := x0.nt o f4
      have cx4 := x4.2.2.2.2 s hlt
      refine st_aload_n (q := 115) dX4_cutFrom_114 rfl rfl ?_
      refine st_iload (q := 117) dX4_cutFrom_115 rfl rfl ?_
      refine st_putI (q := 120) 4 0 dX4_cutFrom_117 fl_X4_9 (by decide) (by decide) (Or.inl rfl) rfl (Or.inl rfl) (by first | exact wfk w3 rfl | exact kx3) ?_
      refine st_aload_n (q := 121) dX4_cutFrom_120 rfl rfl ?_
      refine st_iload (q := 123) dX4_cutFrom_121 rfl rfl ?_
      refine st_putI (q := 126) 4 1 dX4_cutFrom_123 fl_X4_15 (by decide) (by decide) (Or.inl rfl) rfl (Or.inl rfl) (by first | exact wfk w3 rfl | exact kx3) ?_
      refine st_aload (q := 128) dX4_cutFrom_126 rfl rfl ?_
      refine iV0i (q := 131) dX4_cutFrom_128 rfl ml_X4_67 mv_X5_canBeCut (Nat.le_of_ble_eq_true rfl) (by first | exact wfk w3 rfl | exact kx3) ?_
      refine c_X5_canBeCut (h := sI (sI h3 40 0 fr) 40 1 ti) kx3 cx4 os.2.2.2.2.2.1 ?_
      refine st_if_eq (q := 134) (tgt := 157) dX4_cutFrom_131 (by decide) rfl (fun c131 => ?_) (fun c131 => ?_)
      · refine rt_v dX4_cutFrom_157 rfl ?_
        first | (refine hP _ L2 B2 f5 k2 k3 (hL.two hL2 (fun c => ?_)); unfold cS; constructor; (rintro ⟨c1, c2, c3⟩; cases hb : c.testBit s; exact Or.inl ⟨⟨c1, c2, c3⟩, rfl⟩; exact Or.inr ⟨c1, (ms c).2.mp ⟨c2, hb⟩, ((bsE_1 o hlt (mod_bits c2) hy hb).mp c3).2⟩); (rintro (⟨c1, _⟩ | ⟨c1, c2, c3⟩); exact c1; exact ⟨c1, ((ms c).2.mpr c2).1, (bsE_1 o hlt (mod_bits ((ms c).2.mpr c2).1) hy ((ms c).2.mpr c2).2).mpr ⟨by omega, c3⟩⟩)) | (refine hP _ L1 B1 f4 (by rw [sI_k _ (by decide), sI_k _ (by decide)]; exact g2) (by rw [sI_k _ (by decide), sI_k _ (by decide)]; exact g3) (hL.two (Lst.non (S := fun _ => False) (fun _ z => z.elim)) (fun c => ?_)); constructor; (intro hcc; cases hb : c.testBit s; exact Or.inl ⟨hcc, rfl⟩; exact absurd ((bsE_1 o hlt (mod_bits hcc.2.1) hy hb).mp hcc.2.2).1 (by omega)); (rintro (c1 | c1); exact c1.1; exact c1.elim))
      · refine st_aload_n (q := 135) dX4_cutFrom_134 rfl rfl ?_
        refine st_aload_n (q := 136) dX4_cutFrom_135 rfl rfl ?_
        refine st_iload_n (q := 137) dX4_cutFrom_136 rfl rfl ?_
        refine st_iconst (q := 138) dX4_cutFrom_137 ⟨by decide, by decide⟩ rfl ?_
        first | refine n_iadd (q := 139) dX4_cutFrom_138 rfl ⟨by omega, by omega⟩ ?_ | refine st_iadd (q := 139) dX4_cutFrom_138 rfl ?_
        refine st_iload_n (q := 140) dX4_cutFrom_139 rfl rfl ?_
        refine st_iconst (q := 141) dX4_cutFrom_140 ⟨by decide, by decide⟩ rfl ?_
        refine st_iload_n (q := 142) dX4_cutFrom_141 rfl rfl ?_
        refine st_ishl (q := 143) dX4_cutFrom_142 rfl ?_
        refine j_top ((2 ^ s : Nat) : Int) (by have := ishl_n (a := 1) (k := s) (by omega) (by rw [Nat.one_mul]; exact p31 (by omega)); rw [Nat.one_mul] at this; exact this) ?_
        refine st_ior (q := 144) dX4_cutFrom_143 rfl ?_
        rw [ior_n (by omega) (by omega)]
        refine st_iload (q := 146) dX4_cutFrom_144 rfl rfl ?_
        refine st_aload (q := 148) dX4_cutFrom_146 rfl rfl ?_
        refine st_getI (q := 151) 5 2 dX4_cutFrom_148 fl_X4_74 (by decide) (by decide) rfl rfl (by first | exact wfk w3 rfl | exact kx3) ?_
        refine j_top ((yLe y s : Nat) : Int) cx4.2.2.1 ?_
        first | refine n_iadd (q := 152) dX4_cutFrom_151 rfl ⟨by omega, by omega⟩ ?_ | refine st_iadd (q := 152) dX4_cutFrom_151 rfl ?_
        refine st_iload (q := 154) dX4_cutFrom_152 rfl rfl ?_
        refine iS6v (q := 157) dX4_cutFrom_154 rfl ml_X4_88 ms_X4_cutFrom (Nat.le_of_ble_eq_true rfl) ?_
        have el : ((yLen y cut s : Nat) : Int) + ((yLe y s : Nat) : Int) = ((yLen y (cut ||| 2 ^ s) (s + 1) : Nat) : Int) := (by rw [show yLen y (cut ||| 2 ^ s) (s + 1) = yLen y (cut ||| 2 ^ s) s + (if (cut ||| 2 ^ s).testBit s then yLe y s else 0) from rfl, ot.2.1, yLen_pre ot.1]; simp)
        rw [el, show (s : Int) + 1 = ((s + 1 : Nat) : Int) by omega]
        refine c_X4_cutFrom w0 x0 o m (d + 4) (s + 1) (cut ||| 2 ^ s) sh fr ti L1 B1 _ _ (by omega) (by omega) f4 (by rw [sI_k _ (by decide), sI_s]) (by rw [sI_s]) (by rw [sI_k _ (by decide), sI_k _ (by decide)]; exact g2) (by rw [sI_k _ (by decide), sI_k _ (by decide)]; exact g3) (by omega) (by omega) (by rw [or_add hc, Nat.pow_succ]; omega) ?_ (fun h5 L2 B2 f5 k2 k3 hL2 => ?_)
        · rw [show ymc y (cut ||| 2 ^ s) (s + 1) = (if (cut ||| 2 ^ s).testBit s then ((ymc y (cut ||| 2 ^ s) s).1, (ymc y (cut ||| 2 ^ s) s).2 && decide (yKp y s = 0) && decide (yMf y s < 0)) else ((ymc y (cut ||| 2 ^ s) s).1 ||| ySh y s, (ymc y (cut ||| 2 ^ s) s).2 && decide (nandn (yNd y s) (ymc y (cut ||| 2 ^ s) s).1 = 0))) from rfl, if_pos ot.2.1, ymc_pre ot.1, hy, decide_eq_true (show yKp y s = 0 by omega), decide_eq_true (show yMf y s < 0 by omega)]; rfl
        refine rt_v dX4_cutFrom_157 rfl ?_
        first | (refine hP _ L2 B2 f5 k2 k3 (hL.two hL2 (fun c => ?_)); unfold cS; constructor; (rintro ⟨c1, c2, c3⟩; cases hb : c.testBit s; exact Or.inl ⟨⟨c1, c2, c3⟩, rfl⟩; exact Or.inr ⟨c1, (ms c).2.mp ⟨c2, hb⟩, ((bsE_1 o hlt (mod_bits c2) hy hb).mp c3).2⟩); (rintro (⟨c1, _⟩ | ⟨c1, c2, c3⟩); exact c1; exact ⟨c1, ((ms c).2.mpr c2).1, (bsE_1 o hlt (mod_bits ((ms c).2.mpr c2).1) hy ((ms c).2.mpr c2).2).mpr ⟨by omega, c3⟩⟩)) | (refine hP _ L1 B1 f4 (by rw [sI_k _ (by decide), sI_k _ (by decide)]; exact g2) (by rw [sI_k _ (by decide), sI_k _ (by decide)]; exact g3) (hL.two (Lst.non (S := fun _ => False) (fun _ z => z.elim)) (fun c => ?_)); constructor; (intro hcc; cases hb : c.testBit s; exact Or.inl ⟨hcc, rfl⟩; exact absurd ((bsE_1 o hlt (mod_bits hcc.2.1) hy hb).mp hcc.2.2).1 (by omega)); (rintro (c1 | c1); exact c1.1; exact c1.elim))
    have hN : (∀ c, cS y s cut fr ti c → c.testBit s = false → (nandn (yNd y s) sh = 0 ∧ upF y s fr ≤ dnF y s ti)) := fun c hcc hb => ((bsE_0 o hlt (mod_bits hcc.2.1) hy hb).mp hcc.2.2).1
    refine JRet.of rfl (Nat.le_of_ble_eq_true rfl) ?_
    refine st_iload (q := 2) dX4_cutFrom_0 rfl rfl ?_
    refine st_aload_n (q := 3) dX4_cutFrom_2 rfl rfl ?_
    refine st_getI (q := 6) 4 2 dX4_cutFrom_3 fl_X4_18 (by decide) (by decide) rfl rfl (by first | exact wfk w rfl | exact xsk (h := h') w x | exact xck (h := h') w x (by omega)) ?_
    refine st_icmp_le (q := 9) (tgt := 10) dX4_cutFrom_6 (by decide) rfl (fun c6 => ?_) (fun c6 => ?_)
    · refine st_aload_n (q := 11) dX4_cutFrom_10 rfl rfl ?_
      refine st_iload_n (q := 12) dX4_cutFrom_11 rfl rfl ?_
      refine iV1i (q := 15) dX4_cutFrom_12 rfl ml_X4_92 mv_X8_has (Nat.le_of_ble_eq_true rfl) (by first | exact wfk w rfl | exact xsk (h := h') w x | exact xck (h := h') w x (by omega)) ?_
      refine c_X8_has w x ?_
      refine st_if_ne (q := 18) (tgt := 50) dX4_cutFrom_15 (by decide) rfl (fun c15 => ?_) (fun c15 => ?_)
      · refine st_aload_n (q := 51) dX4_cutFrom_50 rfl rfl ?_
        refine st_getR (q := 54) 8 0 dX4_cutFrom_51 fl_X4_63 (by decide) (by decide) rfl rfl (by first | exact wfk w rfl | exact xsk (h := h') w x | exact xck (h := h') w x (by omega)) (by first | exact wfR w rfl | exact x.2.1) ?_
        refine st_iload_n (q := 55) dX4_cutFrom_54 rfl rfl ?_
        refine st_aaload (q := 56) (t := 4) dX4_cutFrom_55 rfl ⟨by decide, by decide⟩ (by first | exact wfk w rfl | exact xsk (h := h') w x | exact xck (h := h') w x (by omega)) (by first | exact wfb w rfl ⟨by omega, by omega⟩ | exact xsb (h := h') w x ⟨by omega, by omega⟩) (xsc (h := h') w x (by omega)) ?_
        refine st_astore (q := 58) dX4_cutFrom_56 (by decide) rfl ?_
        refine st_aload_n (q := 59) dX4_cutFrom_58 rfl rfl ?_
        refine st_getI (q := 62) 4 0 dX4_cutFrom_59 fl_X4_9 (by decide) (by decide) rfl rfl (by first | exact wfk w rfl | exact xsk (h := h') w x | exact xck (h := h') w x (by omega)) ?_
        refine j_top fr e0 ?_
        refine st_istore (q := 64) dX4_cutFrom_62 (by decide) rfl ?_
        refine st_aload_n (q := 65) dX4_cutFrom_64 rfl rfl ?_
        refine st_getI (q := 68) 4 1 dX4_cutFrom_65 fl_X4_15 (by decide) (by decide) rfl rfl (by first | exact wfk w rfl | exact xsk (h := h') w x | exact xck (h := h') w x (by omega)) ?_
        refine j_top ti e1 ?_
        refine st_istore (q := 70) dX4_cutFrom_68 (by decide) rfl ?_
        refine st_aload_n (q := 71) dX4_cutFrom_70 rfl rfl ?_
        refine st_aload (q := 73) dX4_cutFrom_71 rfl rfl ?_
        refine st_iload (q := 75) dX4_cutFrom_73 rfl rfl ?_
        refine iV2i (q := 78) dX4_cutFrom_75 rfl ml_X4_70 mv_X4_canStay (Nat.le_of_ble_eq_true rfl) (by first | exact wfk w rfl | exact xsk (h := h') w x | exact xck (h := h') w x (by omega)) ?_
        refine c_X4_canStay w kx (by show 16 + 2 * s + b ≠ 40; omega) cx os.2.2.2.2.2.1 os.2.2.2.2.2.2 hsh e0 e1 (fun nzk => ?_) (fun nzk h2k f2k u0k u1k => ?_)
        rotate_left
        have fk := f.tr (f2k.up nt_nw)
        have g2k : hI h2k 40 2 = L := (f2k.2.2 _ _ (by unfold ScNt; omega)).trans e2
        have g3k : hI h2k 40 3 = B := (f2k.2.2 _ _ (by unfold ScNt; omega)).trans e3
        have w2k := fk.wf w0
        have x2k := x0.nt o fk
        have cx2k := x2k.2.2.2.2 s hlt
        have kx2k := xck (h := h2k) (s := s) w2k x2k (by omega)
        rotate_left
        · refine st_if_eq (q := 81) (tgt := 114) dX4_cutFrom_78 (by decide) rfl (fun _ => ?_) (fun z => absurd z (by decide))
          first | (refine hC h5z L2z B2z f5z k2z k3z ((Lst.non (S := fun _ => False) (fun _ z => z.elim)).two hL2z (fun c => ?_)); unfold cS; constructor; (rintro ⟨⟨c1, c2, c3⟩, hb⟩; exact Or.inr ⟨c1, (ms c).1.mp ⟨c2, hb⟩, ((bsE_0 o hlt (mod_bits c2) hy hb).mp c3).2⟩); (rintro (c1 | ⟨c1, c2, c3⟩); exact c1.elim; exact ⟨⟨c1, ((ms c).1.mpr c2).1, (bsE_0 o hlt (mod_bits ((ms c).1.mpr c2).1) hy ((ms c).1.mpr c2).2).mpr ⟨⟨nzk, by omega⟩, c3⟩⟩, ((ms c).1.mpr c2).2⟩)) | exact hC _ L B f e2 e3 (Lst.non (fun c hcc => absurd (hN c hcc.1 hcc.2).1 nzk)) | exact hC _ L B fk g2k g3k (Lst.non (fun c hcc => absurd (hN c hcc.1 hcc.2).2 (by omega)))
        · refine st_if_eq (q := 81) (tgt := 114) dX4_cutFrom_78 (by decide) rfl (fun c78 => ?_) (fun c78 => ?_)
          · first | (refine hC h5z L2z B2z f5z k2z k3z ((Lst.non (S := fun _ => False) (fun _ z => z.elim)).two hL2z (fun c => ?_)); unfold cS; constructor; (rintro ⟨⟨c1, c2, c3⟩, hb⟩; exact Or.inr ⟨c1, (ms c).1.mp ⟨c2, hb⟩, ((bsE_0 o hlt (mod_bits c2) hy hb).mp c3).2⟩); (rintro (c1 | ⟨c1, c2, c3⟩); exact c1.elim; exact ⟨⟨c1, ((ms c).1.mpr c2).1, (bsE_0 o hlt (mod_bits ((ms c).1.mpr c2).1) hy ((ms c).1.mpr c2).2).mpr ⟨⟨nzk, by omega⟩, c3⟩⟩, ((ms c).1.mpr c2).2⟩)) | exact hC _ L B f e2 e3 (Lst.non (fun c hcc => absurd (hN c hcc.1 hcc.2).1 nzk)) | exact hC _ L B fk g2k g3k (Lst.non (fun c hcc => absurd (hN c hcc.1 hcc.2).2 (by omega)))
          · refine st_aload_n (q := 82) dX4_cutFrom_81 rfl rfl ?_
            refine st_aload (q := 84) dX4_cutFrom_82 rfl rfl ?_
            refine st_getI (q := 87) 5 2 dX4_cutFrom_84 fl_X4_74 (by decide) (by decide) rfl rfl (kx2k) ?_
            refine j_top ((yLe y s : Nat) : Int) cx2k.2.2.1 ?_
            refine st_aload (q := 89) dX4_cutFrom_87 rfl rfl ?_
            refine st_getI (q := 92) 5 3 dX4_cutFrom_89 fl_X4_77 (by decide) (by decide) rfl rfl (kx2k) ?_
            refine j_top ((yMo y s : Nat) : Int) cx2k.2.2.2.1 ?_
            refine iV2v (q := 95) dX4_cutFrom_92 rfl ml_X4_80 mv_X4_pass (Nat.le_of_ble_eq_true rfl) (wfk w2k rfl) ?_
            refine c_X4_pass w2k (by omega) (by omega) (by omega) (by omega) ?_
            refine st_aload_n (q := 96) dX4_cutFrom_95 rfl rfl ?_
            refine st_aload_n (q := 97) dX4_cutFrom_96 rfl rfl ?_
            refine st_iload_n (q := 98) dX4_cutFrom_97 rfl rfl ?_
            refine st_iconst (q := 99) dX4_cutFrom_98 ⟨by decide, by decide⟩ rfl ?_
            first | refine n_iadd (q := 100) dX4_cutFrom_99 rfl ⟨by omega, by omega⟩ ?_ | refine st_iadd (q := 100) dX4_cutFrom_99 rfl ?_
            refine st_iload_n (q := 101) dX4_cutFrom_100 rfl rfl ?_
            refine st_iload (q := 103) dX4_cutFrom_101 rfl rfl ?_
            refine st_iload (q := 105) dX4_cutFrom_103 rfl rfl ?_
            refine st_aload (q := 107) dX4_cutFrom_105 rfl rfl ?_
            refine st_getI (q := 110) 5 0 dX4_cutFrom_107 fl_X4_84 (by decide) (by decide) rfl rfl (kx2k) ?_
            refine j_top ((ySh y s : Nat) : Int) (by rw [sI_o _ (by omega), sI_o _ (by omega)]; exact cx2k.1) ?_
            refine st_ior (q := 111) dX4_cutFrom_110 rfl ?_
            rw [ior_n (by omega) (by omega)]
            refine iS6v (q := 114) dX4_cutFrom_111 rfl ml_X4_88 ms_X4_cutFrom (Nat.le_of_ble_eq_true rfl) ?_
            have el : ((yLen y cut s : Nat) : Int) = ((yLen y cut (s + 1) : Nat) : Int) := (by rw [show yLen y cut (s + 1) = yLen y cut s + (if cut.testBit s then yLe y s else 0) from rfl, ot.2.2]; simp)
            rw [el, show (s : Int) + 1 = ((s + 1 : Nat) : Int) by omega]
            refine c_X4_cutFrom w0 x0 o m (d + 4) (s + 1) cut (sh ||| ySh y s) (upF y s fr + (yLe y s : Nat)) (dnF y s ti + (yMo y s : Nat)) L B _ _ (by omega) (by omega) ((fk.sI _ (scNw_i _)).sI _ (scNw_i _)) (by rw [sI_k _ (by decide), sI_s, u0k]) (by rw [sI_s, u1k]) (by rw [sI_k _ (by decide), sI_k _ (by decide)]; exact g2k) (by rw [sI_k _ (by decide), sI_k _ (by decide)]; exact g3k) (by omega) (by omega) (by rw [Nat.pow_succ]; omega) ?_ (fun h5z L2z B2z f5z k2z k3z hL2z => ?_)
            · rw [show ymc y cut (s + 1) = (if cut.testBit s then ((ymc y cut s).1, (ymc y cut s).2 && decide (yKp y s = 0) && decide (yMf y s < 0)) else ((ymc y cut s).1 ||| ySh y s, (ymc y cut s).2 && decide (nandn (yNd y s) (ymc y cut s).1 = 0))) from rfl, if_neg (by rw [ot.2.2]; decide), hy]; show (sh ||| ySh y s, decide (nandn (yNd y s) sh = 0)) = _; rw [decide_eq_true nzk]
            rw [← el]
            first | (refine hC h5z L2z B2z f5z k2z k3z ((Lst.non (S := fun _ => False) (fun _ z => z.elim)).two hL2z (fun c => ?_)); unfold cS; constructor; (rintro ⟨⟨c1, c2, c3⟩, hb⟩; exact Or.inr ⟨c1, (ms c).1.mp ⟨c2, hb⟩, ((bsE_0 o hlt (mod_bits c2) hy hb).mp c3).2⟩); (rintro (c1 | ⟨c1, c2, c3⟩); exact c1.elim; exact ⟨⟨c1, ((ms c).1.mpr c2).1, (bsE_0 o hlt (mod_bits ((ms c).1.mpr c2).1) hy ((ms c).1.mpr c2).2).mpr ⟨⟨nzk, by omega⟩, c3⟩⟩, ((ms c).1.mpr c2).2⟩)) | exact hC _ L B f e2 e3 (Lst.non (fun c hcc => absurd (hN c hcc.1 hcc.2).1 nzk)) | exact hC _ L B fk g2k g3k (Lst.non (fun c hcc => absurd (hN c hcc.1 hcc.2).2 (by omega)))
      · exfalso; omega
    · refine rt_v dX4_cutFrom_9 rfl ?_
      exact hP _ L B f e2 e3 (Lst.non (fun c hcc => Or.inl (by have t1 := yLen_mono (y := y) (c := c) (s := s) y.1 (by omega); rw [yLen_pre (mod_bits hcc.2.1)] at t1; show L < (yLen y c y.1 : Int); omega)))

