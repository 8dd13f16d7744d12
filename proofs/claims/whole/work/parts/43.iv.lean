/-! what holds between the cells of the class and those of the reference; what changes leave alone -/
def Fq (Sc : Nat → Nat → Prop) (h h' : JH) : Prop := h'.1 = h.1 ∧ hR h' = hR h ∧ (∀ a k, ¬ Sc a k → hI h' a k = hI h a k) ∧ (∀ a k, ¬ Sc a k → hJ h' a k = hJ h a k)
theorem Fq.rf {Sc : Nat → Nat → Prop} {h : JH} : Fq Sc h h := ⟨rfl, rfl, fun _ _ _ => rfl, fun _ _ _ => rfl⟩
theorem Fq.tr {Sc : Nat → Nat → Prop} {h h' h'' : JH} (f : Fq Sc h h') (g : Fq Sc h' h'') : Fq Sc h h'' := ⟨g.1.trans f.1, g.2.1.trans f.2.1, fun a k z => (g.2.2.1 a k z).trans (f.2.2.1 a k z), fun a k z => (g.2.2.2 a k z).trans (f.2.2.2 a k z)⟩
theorem Fq.sI {Sc : Nat → Nat → Prop} {h h' : JH} (f : Fq Sc h h') {a k : Nat} (v : Int) (z : Sc a k) : Fq Sc h (sI h' a k v) := ⟨f.1, f.2.1, fun b j q => by rw [sI_I, if_neg (fun t => q (by rw [t.1, t.2]; exact z))]; exact f.2.2.1 b j q, f.2.2.2⟩
theorem Fq.sJ {Sc : Nat → Nat → Prop} {h h' : JH} (f : Fq Sc h h') {a k : Nat} (v : Int) (z : Sc a k) : Fq Sc h (sJ h' a k v) := ⟨f.1, f.2.1, f.2.2.1, fun b j q => by rw [sJ_J, if_neg (fun t => q (by rw [t.1, t.2]; exact z))]; exact f.2.2.2 b j q⟩
theorem Fq.wI {Sc : Nat → Nat → Prop} {h h' : JH} (f : Fq Sc h h') {a : Nat} (g : Nat → Int) (z : ∀ k, Sc a k) : Fq Sc h (wI h' a g) := ⟨f.1, f.2.1, fun b j q => by rw [wI_I, if_neg (fun t => q (by rw [t]; exact z j))]; exact f.2.2.1 b j q, f.2.2.2⟩
theorem Fq.fr {Sc Sc' : Nat → Nat → Prop} {h h' h'' : JH} (f : Fq Sc h h') (g : Fr Sc' h' h'') (z : ∀ a k, Sc' a k → Sc a k) : Fq Sc h h'' := f.tr ⟨g.1, by unfold hR; rw [g.2.1], fun a k q => g.2.2 a k (fun t => q (z a k t)), fun a k _ => by unfold hJ; rw [g.2.1]⟩
theorem Fq.wf {Sc : Nat → Nat → Prop} {h h' : JH} (f : Fq Sc h h') (w : WF h) : WF h' := ⟨f.1.trans w.1, fun a k z => by rw [f.2.1]; exact w.2.1 a k z, by rw [f.2.1]; exact w.2.2⟩
theorem Fq.up {Sc Sc' : Nat → Nat → Prop} {h h' : JH} (f : Fq Sc h h') (z : ∀ a k, Sc a k → Sc' a k) : Fq Sc' h h' := ⟨f.1, f.2.1, fun a k q => f.2.2.1 a k (fun t => q (z a k t)), fun a k q => f.2.2.2 a k (fun t => q (z a k t))⟩
def iRw (h : JH) : Prop := ∀ r, r < 6 → ((hI h 119 r = -9 ∧ hI h (97 + 2 * r) 1 = -1) ∨ (0 ≤ hI h 119 r ∧ hI h 119 r ≤ 40 ∧ hI h (97 + 2 * r) 1 = hI h 119 r)) ∧ ∀ i : Nat, (i : Int) < hI h 119 r → hI h (97 + 2 * r + 1) i = hI h 120 (40 * r + i)
def iTx (h : JH) : Prop := ∀ r, r < 4 → ((hI h 122 r = -9 ∧ hI h (109 + 2 * r) 1 = -1) ∨ (0 ≤ hI h 122 r ∧ hI h 122 r ≤ 60 ∧ hI h (109 + 2 * r) 1 = hI h 122 r)) ∧ ∀ i : Nat, (i : Int) < hI h 122 r → hI h (109 + 2 * r + 1) i = hI h 123 (60 * r + i)
def HX (h : JH) (u : HD) : Prop := ∀ k, k < 8 → hI h (5 + k) 0 = (if uO u k = 0 then 0 else 1) ∧ (uO u k ≠ 0 → hI h (5 + k) 1 = (uW u k : Nat) ∧ hI h (5 + k) 2 = (uH u k : Nat) ∧ hI h (5 + k) 3 = (uO u k : Nat))
def iHd (h : JH) : Prop := ∃ u, uOk u ∧ HM h u ∧ HX h u
def iLm (h : JH) : Prop := hI h 3 1 = hI h 117 13 ∧ hI h 3 2 = hI h 117 14 ∧ (2 ≤ hI h 117 13 ∧ hI h 117 13 ≤ 60) ∧ (0 ≤ hI h 117 14 ∧ hI h 117 14 ≤ 9)
/-- a scene of the class lies at a -/
def scX (h : JH) (a : Nat) (y : SY) (s : Nat) : Prop := hI h a 0 = (ySh y s : Nat) ∧ hI h a 1 = (yHd y s : Nat) ∧ hI h a 2 = (yLe y s : Nat) ∧ hI h a 3 = (yMo y s : Nat) ∧ hI h a 4 = (yKp y s : Nat) ∧ hI h a 5 = yMf y s ∧ hI h a 6 = yMt y s ∧ hI h a 7 = (yNd y s : Nat)
def SX (h : JH) (y : SY) (b : Nat) : Prop := b ≤ 1 ∧ hR h 13 0 = some (14 + b) ∧ hR h 13 2 = some (15 - b) ∧ hI h 13 1 = (y.1 : Int) ∧ ∀ s, s < y.1 → scX h (16 + 2 * s + b) y s
def iSy (h : JH) : Prop := ∃ y b, (yOk y ∧ yMk y y.1 ≤ 4) ∧ SM h y ∧ SX h y b
def GX (h : JH) (g : SG) : Prop := ∀ k, k < 8 → hI h 49 k = ((g k).1 : Int) ∧ ∀ i, i < (g k).1 → hI h 50 (8 * k + i) = (if (g k).2.testBit i then 1 else 0)
def iSg (h : JH) : Prop := ∃ g, gOk g ∧ GM h g ∧ GX h g
def NX (h : JH) (q : MO) : Prop := hI h 54 1 = (q.1 : Int) ∧ ∀ m, m < q.1 → ∀ x, x < 5 → hI h (56 + m) x = q.2 m x
def iMo (h : JH) : Prop := ∃ q, qOk q ∧ NM h q ∧ NX h q
def iTl (h : JH) : Prop := hI h 0 10 = hI h 117 0 ∧ (∀ f, 1 ≤ f ∧ f ≤ 5 → hI h 96 f = hI h 118 f) ∧ hI h 0 11 = hI h 117 2 ∧ hJ h 0 12 = hJ h 117 3 ∧ hJ h 0 13 = hJ h 117 4
/-- figures in threes -/
def dg3 (s i : Nat) : Nat := s / 3 ^ i % 3
def outN (s : Nat) : Nat → Nat
  | 0 => 0
  | i + 1 => outN s i ||| (if 0 < dg3 s i then 2 ^ i else 0)
def helN (s : Nat) : Nat → Nat
  | 0 => 0
  | i + 1 => helN s i ||| (if 1 < dg3 s i then 2 ^ i else 0)
def iMk (h : JH) : Prop := ∀ s, s < 729 → hI h 42 s = ((helN s 6 * 64 ||| outN s 6 : Nat) : Int)
def Inv (h : JH) : Prop := WF h ∧ iRw h ∧ iTx h ∧ iHd h ∧ iLm h ∧ iSy h ∧ iSg h ∧ iMo h ∧ iTl h ∧ iMk h
def rgRw (a _k : Nat) : Prop := a = 119 ∨ a = 120 ∨ (97 ≤ a ∧ a ≤ 108)
def rgTx (a _k : Nat) : Prop := a = 122 ∨ a = 123 ∨ (109 ≤ a ∧ a ≤ 116)
def rgHd (a _k : Nat) : Prop := (124 ≤ a ∧ a ≤ 126) ∨ (5 ≤ a ∧ a ≤ 12)
def rgLm (a k : Nat) : Prop := (a = 3 ∧ (k = 1 ∨ k = 2)) ∨ (a = 117 ∧ (k = 13 ∨ k = 14))
def rgSy (a k : Nat) : Prop := (a = 117 ∧ k = 15) ∨ (127 ≤ a ∧ a ≤ 131) ∨ (137 ≤ a ∧ a ≤ 139) ∨ (a = 13 ∧ k = 1) ∨ (16 ≤ a ∧ a ≤ 39)
def rgSg (a _k : Nat) : Prop := a = 146 ∨ a = 147 ∨ a = 49 ∨ a = 50
def rgMo (a k : Nat) : Prop := a = 150 ∨ (a = 117 ∧ k = 47) ∨ (a = 54 ∧ k = 1) ∨ (56 ≤ a ∧ a ≤ 95)
def rgTl (a k : Nat) : Prop := (a = 117 ∧ (k = 0 ∨ k = 2 ∨ k = 3 ∨ k = 4)) ∨ a = 118 ∨ (a = 0 ∧ 10 ≤ k ∧ k ≤ 13) ∨ a = 96
def rgMk (a _k : Nat) : Prop := a = 42
theorem iRw.fr {Sc : Nat → Nat → Prop} {h h' : JH} (i : iRw h) (f : Fq Sc h h') (z : ∀ a k, rgRw a k → ¬ Sc a k) : iRw h' := fun r hr => by
  have e1 : hI h' 119 r = hI h 119 r := f.2.2.1 _ _ (z _ _ (by unfold rgRw; omega))
  have e2 : hI h' (97 + 2 * r) 1 = hI h (97 + 2 * r) 1 := f.2.2.1 _ _ (z _ _ (by unfold rgRw; omega))
  rw [e1, e2]
  refine ⟨(i r hr).1, fun j hj => ?_⟩
  rw [f.2.2.1 _ _ (z _ _ (by unfold rgRw; omega)), f.2.2.1 _ _ (z 120 _ (by unfold rgRw; omega))]
  exact (i r hr).2 j hj
theorem iTx.fr {Sc : Nat → Nat → Prop} {h h' : JH} (i : iTx h) (f : Fq Sc h h') (z : ∀ a k, rgTx a k → ¬ Sc a k) : iTx h' := fun r hr => by
  have e1 : hI h' 122 r = hI h 122 r := f.2.2.1 _ _ (z _ _ (by unfold rgTx; omega))
  have e2 : hI h' (109 + 2 * r) 1 = hI h (109 + 2 * r) 1 := f.2.2.1 _ _ (z _ _ (by unfold rgTx; omega))
  rw [e1, e2]
  refine ⟨(i r hr).1, fun j hj => ?_⟩
  rw [f.2.2.1 _ _ (z _ _ (by unfold rgTx; omega)), f.2.2.1 _ _ (z 123 _ (by unfold rgTx; omega))]
  exact (i r hr).2 j hj
theorem HM.fq {Sc : Nat → Nat → Prop} {h h' : JH} {u : HD} (m : HM h u) (f : Fq Sc h h') (z : ∀ a k, rgHd a k → ¬ Sc a k) : HM h' u := fun k hk => ⟨(f.2.2.1 _ _ (z _ _ (by unfold rgHd; omega))).trans (m k hk).1, (f.2.2.1 _ _ (z _ _ (by unfold rgHd; omega))).trans (m k hk).2.1, (f.2.2.1 _ _ (z _ _ (by unfold rgHd; omega))).trans (m k hk).2.2⟩
theorem HX.fq {Sc : Nat → Nat → Prop} {h h' : JH} {u : HD} (m : HX h u) (f : Fq Sc h h') (z : ∀ a k, rgHd a k → ¬ Sc a k) : HX h' u := fun k hk => by
  have e : ∀ x, hI h' (5 + k) x = hI h (5 + k) x := fun x => f.2.2.1 _ _ (z _ _ (by unfold rgHd; omega))
  rw [e, e, e, e]
  exact m k hk
theorem iHd.fr {Sc : Nat → Nat → Prop} {h h' : JH} (i : iHd h) (f : Fq Sc h h') (z : ∀ a k, rgHd a k → ¬ Sc a k) : iHd h' := by
  obtain ⟨u, o, m, x⟩ := i
  exact ⟨u, o, m.fq f z, x.fq f z⟩
theorem iLm.fr {Sc : Nat → Nat → Prop} {h h' : JH} (i : iLm h) (f : Fq Sc h h') (z : ∀ a k, rgLm a k → ¬ Sc a k) : iLm h' := by
  unfold iLm
  rw [f.2.2.1 _ _ (z 3 1 (by unfold rgLm; omega)), f.2.2.1 _ _ (z 3 2 (by unfold rgLm; omega)), f.2.2.1 _ _ (z 117 13 (by unfold rgLm; omega)), f.2.2.1 _ _ (z 117 14 (by unfold rgLm; omega))]
  exact i
theorem SM.fq {Sc : Nat → Nat → Prop} {h h' : JH} {y : SY} (m : SM h y) (f : Fq Sc h h') (z : ∀ a k, rgSy a k → ¬ Sc a k) : SM h' y := by
  refine ⟨(f.2.2.1 117 15 (z _ _ (by unfold rgSy; omega))).trans m.1, fun s hs => ?_⟩
  have m2 := m.2 s hs
  exact ⟨(f.2.2.1 _ _ (z _ _ (by unfold rgSy; omega))).trans m2.1, (f.2.2.1 _ _ (z _ _ (by unfold rgSy; omega))).trans m2.2.1, (f.2.2.1 _ _ (z _ _ (by unfold rgSy; omega))).trans m2.2.2.1, (f.2.2.1 _ _ (z _ _ (by unfold rgSy; omega))).trans m2.2.2.2.1, (f.2.2.1 _ _ (z _ _ (by unfold rgSy; omega))).trans m2.2.2.2.2.1, (f.2.2.1 _ _ (z _ _ (by unfold rgSy; omega))).trans m2.2.2.2.2.2.1, (f.2.2.1 _ _ (z _ _ (by unfold rgSy; omega))).trans m2.2.2.2.2.2.2.1, (f.2.2.1 _ _ (z _ _ (by unfold rgSy; omega))).trans m2.2.2.2.2.2.2.2⟩
theorem scX.fq {Sc : Nat → Nat → Prop} {h h' : JH} {y : SY} {a s : Nat} (m : scX h a y s) (f : Fq Sc h h') (z : ∀ k, ¬ Sc a k) : scX h' a y s := by
  have e : ∀ x, hI h' a x = hI h a x := fun x => f.2.2.1 _ _ (z x)
  unfold scX
  rw [e, e, e, e, e, e, e, e]
  exact m
theorem SX.fq {Sc : Nat → Nat → Prop} {h h' : JH} {y : SY} {b : Nat} (m : SX h y b) (o : yOk y) (f : Fq Sc h h') (z : ∀ a k, rgSy a k → ¬ Sc a k) : SX h' y b := by
  have o1 := o.1
  refine ⟨m.1, by rw [f.2.1]; exact m.2.1, by rw [f.2.1]; exact m.2.2.1, (f.2.2.1 13 1 (z _ _ (by unfold rgSy; omega))).trans m.2.2.2.1, fun s hs => ?_⟩
  have b1 := m.1
  exact (m.2.2.2.2 s hs).fq f (fun k => z _ _ (by unfold rgSy; omega))
theorem iSy.fr {Sc : Nat → Nat → Prop} {h h' : JH} (i : iSy h) (f : Fq Sc h h') (z : ∀ a k, rgSy a k → ¬ Sc a k) : iSy h' := by
  obtain ⟨y, b, o, m, x⟩ := i
  exact ⟨y, b, o, m.fq f z, x.fq o.1 f z⟩
theorem GM.fq {Sc : Nat → Nat → Prop} {h h' : JH} {g : SG} (m : GM h g) (f : Fq Sc h h') (z : ∀ a k, rgSg a k → ¬ Sc a k) : GM h' g := fun k hk => ⟨(f.2.2.1 _ _ (z _ _ (by unfold rgSg; omega))).trans (m k hk).1, fun q => (f.2.2.1 _ _ (z _ _ (by unfold rgSg; omega))).trans ((m k hk).2 q)⟩
theorem GX.fq {Sc : Nat → Nat → Prop} {h h' : JH} {g : SG} (m : GX h g) (f : Fq Sc h h') (z : ∀ a k, rgSg a k → ¬ Sc a k) : GX h' g := fun k hk => ⟨(f.2.2.1 _ _ (z _ _ (by unfold rgSg; omega))).trans (m k hk).1, fun j q => (f.2.2.1 _ _ (z _ _ (by unfold rgSg; omega))).trans ((m k hk).2 j q)⟩
theorem iSg.fr {Sc : Nat → Nat → Prop} {h h' : JH} (i : iSg h) (f : Fq Sc h h') (z : ∀ a k, rgSg a k → ¬ Sc a k) : iSg h' := by
  obtain ⟨g, o, m, x⟩ := i
  exact ⟨g, o, m.fq f z, x.fq f z⟩
theorem NM.fq {Sc : Nat → Nat → Prop} {h h' : JH} {q : MO} (m : NM h q) (f : Fq Sc h h') (z : ∀ a k, rgMo a k → ¬ Sc a k) : NM h' q := ⟨(f.2.2.1 _ _ (z _ _ (by unfold rgMo; omega))).trans m.1, fun j hj x hx => (f.2.2.1 _ _ (z _ _ (by unfold rgMo; omega))).trans (m.2 j hj x hx)⟩
theorem NX.fq {Sc : Nat → Nat → Prop} {h h' : JH} {q : MO} (m : NX h q) (o : qOk q) (f : Fq Sc h h') (z : ∀ a k, rgMo a k → ¬ Sc a k) : NX h' q := ⟨(f.2.2.1 _ _ (z _ _ (by unfold rgMo; omega))).trans m.1, fun j hj x hx => (f.2.2.1 _ _ (z _ _ (by have := o.1; unfold rgMo; omega))).trans (m.2 j hj x hx)⟩
theorem iMo.fr {Sc : Nat → Nat → Prop} {h h' : JH} (i : iMo h) (f : Fq Sc h h') (z : ∀ a k, rgMo a k → ¬ Sc a k) : iMo h' := by
  obtain ⟨q, o, m, x⟩ := i
  exact ⟨q, o, m.fq f z, x.fq o f z⟩
theorem iTl.fr {Sc : Nat → Nat → Prop} {h h' : JH} (i : iTl h) (f : Fq Sc h h') (z : ∀ a k, rgTl a k → ¬ Sc a k) : iTl h' := by
  unfold iTl
  rw [f.2.2.1 _ _ (z 0 10 (by unfold rgTl; omega)), f.2.2.1 _ _ (z 0 11 (by unfold rgTl; omega)), f.2.2.1 _ _ (z 117 0 (by unfold rgTl; omega)), f.2.2.1 _ _ (z 117 2 (by unfold rgTl; omega)), f.2.2.2 _ _ (z 0 12 (by unfold rgTl; omega)), f.2.2.2 _ _ (z 0 13 (by unfold rgTl; omega)), f.2.2.2 _ _ (z 117 3 (by unfold rgTl; omega)), f.2.2.2 _ _ (z 117 4 (by unfold rgTl; omega))]
  refine ⟨i.1, fun k hk => ?_, i.2.2⟩
  rw [f.2.2.1 _ _ (z 96 k (by unfold rgTl; omega)), f.2.2.1 _ _ (z 118 k (by unfold rgTl; omega))]
  exact i.2.1 k hk
theorem iMk.fr {Sc : Nat → Nat → Prop} {h h' : JH} (i : iMk h) (f : Fq Sc h h') (z : ∀ a k, rgMk a k → ¬ Sc a k) : iMk h' := fun s hs => (f.2.2.1 _ _ (z _ _ rfl)).trans (i s hs)
/-- all of it, where each region is left alone or anew -/
theorem Inv.to {Sc : Nat → Nat → Prop} {h h' : JH} (I : Inv h) (f : Fq Sc h h') (h1 : (∀ a k, rgRw a k → ¬ Sc a k) ∨ iRw h') (h2 : (∀ a k, rgTx a k → ¬ Sc a k) ∨ iTx h') (h3 : (∀ a k, rgHd a k → ¬ Sc a k) ∨ iHd h') (h4 : (∀ a k, rgLm a k → ¬ Sc a k) ∨ iLm h') (h5 : (∀ a k, rgSy a k → ¬ Sc a k) ∨ iSy h') (h6 : (∀ a k, rgSg a k → ¬ Sc a k) ∨ iSg h') (h7 : (∀ a k, rgMo a k → ¬ Sc a k) ∨ iMo h') (h8 : (∀ a k, rgTl a k → ¬ Sc a k) ∨ iTl h') (h9 : (∀ a k, rgMk a k → ¬ Sc a k) ∨ iMk h') : Inv h' := by
  obtain ⟨w, i1, i2, i3, i4, i5, i6, i7, i8, i9⟩ := I
  exact ⟨f.wf w, h1.elim (fun z => i1.fr f z) id, h2.elim (fun z => i2.fr f z) id, h3.elim (fun z => i3.fr f z) id, h4.elim (fun z => i4.fr f z) id, h5.elim (fun z => i5.fr f z) id, h6.elim (fun z => i6.fr f z) id, h7.elim (fun z => i7.fr f z) id, h8.elim (fun z => i8.fr f z) id, h9.elim (fun z => i9.fr f z) id⟩
/-- scratch of both sides -/
def rgS (a k : Nat) : Prop := ScM a k ∨ a = 40 ∨ (a = 3 ∧ k = 3) ∨ a = 43 ∨ (a = 44 ∧ k = 1) ∨ a = 45 ∨ a = 46 ∨ a = 47 ∨ (a = 48 ∧ k = 5) ∨ a = 51 ∨ a = 52 ∨ a = 53 ∨ (a = 13 ∧ (k = 3 ∨ k = 4)) ∨ (a = 117 ∧ k = 49)
theorem inv_rw {h h' : JH} (I : Inv h) (f : Fq (fun a k => rgRw a k ∨ rgTl a k ∨ rgS a k) h h') (n : iRw h') (t : iTl h') : Inv h' := by
  refine I.to f (Or.inr n) (Or.inl ?_) (Or.inl ?_) (Or.inl ?_) (Or.inl ?_) (Or.inl ?_) (Or.inl ?_) (Or.inr t) (Or.inl ?_) <;> intro a k z <;> simp only [rgRw, rgTx, rgHd, rgLm, rgSy, rgSg, rgMo, rgTl, rgMk, rgS, ScM] at z ⊢ <;> omega
theorem inv_tx {h h' : JH} (I : Inv h) (f : Fq (fun a k => rgTx a k ∨ rgTl a k ∨ rgS a k) h h') (n : iTx h') (t : iTl h') : Inv h' := by
  refine I.to f (Or.inl ?_) (Or.inr n) (Or.inl ?_) (Or.inl ?_) (Or.inl ?_) (Or.inl ?_) (Or.inl ?_) (Or.inr t) (Or.inl ?_) <;> intro a k z <;> simp only [rgRw, rgTx, rgHd, rgLm, rgSy, rgSg, rgMo, rgTl, rgMk, rgS, ScM] at z ⊢ <;> omega
theorem inv_hd {h h' : JH} (I : Inv h) (f : Fq (fun a k => rgHd a k ∨ rgTl a k ∨ rgS a k) h h') (n : iHd h') (t : iTl h') : Inv h' := by
  refine I.to f (Or.inl ?_) (Or.inl ?_) (Or.inr n) (Or.inl ?_) (Or.inl ?_) (Or.inl ?_) (Or.inl ?_) (Or.inr t) (Or.inl ?_) <;> intro a k z <;> simp only [rgRw, rgTx, rgHd, rgLm, rgSy, rgSg, rgMo, rgTl, rgMk, rgS, ScM] at z ⊢ <;> omega
theorem inv_lm {h h' : JH} (I : Inv h) (f : Fq (fun a k => rgLm a k ∨ rgTl a k ∨ rgS a k) h h') (n : iLm h') (t : iTl h') : Inv h' := by
  refine I.to f (Or.inl ?_) (Or.inl ?_) (Or.inl ?_) (Or.inr n) (Or.inl ?_) (Or.inl ?_) (Or.inl ?_) (Or.inr t) (Or.inl ?_) <;> intro a k z <;> simp only [rgRw, rgTx, rgHd, rgLm, rgSy, rgSg, rgMo, rgTl, rgMk, rgS, ScM] at z ⊢ <;> omega
theorem inv_sy {h h' : JH} (I : Inv h) (f : Fq (fun a k => rgSy a k ∨ rgTl a k ∨ rgS a k) h h') (n : iSy h') (t : iTl h') : Inv h' := by
  refine I.to f (Or.inl ?_) (Or.inl ?_) (Or.inl ?_) (Or.inl ?_) (Or.inr n) (Or.inl ?_) (Or.inl ?_) (Or.inr t) (Or.inl ?_) <;> intro a k z <;> simp only [rgRw, rgTx, rgHd, rgLm, rgSy, rgSg, rgMo, rgTl, rgMk, rgS, ScM] at z ⊢ <;> omega
theorem inv_sg {h h' : JH} (I : Inv h) (f : Fq (fun a k => rgSg a k ∨ rgTl a k ∨ rgS a k) h h') (n : iSg h') (t : iTl h') : Inv h' := by
  refine I.to f (Or.inl ?_) (Or.inl ?_) (Or.inl ?_) (Or.inl ?_) (Or.inl ?_) (Or.inr n) (Or.inl ?_) (Or.inr t) (Or.inl ?_) <;> intro a k z <;> simp only [rgRw, rgTx, rgHd, rgLm, rgSy, rgSg, rgMo, rgTl, rgMk, rgS, ScM] at z ⊢ <;> omega
theorem inv_mo {h h' : JH} (I : Inv h) (f : Fq (fun a k => rgMo a k ∨ rgTl a k ∨ rgS a k) h h') (n : iMo h') (t : iTl h') : Inv h' := by
  refine I.to f (Or.inl ?_) (Or.inl ?_) (Or.inl ?_) (Or.inl ?_) (Or.inl ?_) (Or.inl ?_) (Or.inr n) (Or.inr t) (Or.inl ?_) <;> intro a k z <;> simp only [rgRw, rgTx, rgHd, rgLm, rgSy, rgSg, rgMo, rgTl, rgMk, rgS, ScM] at z ⊢ <;> omega
theorem inv_tl {h h' : JH} (I : Inv h) (f : Fq (fun a k => rgTl a k ∨ rgS a k) h h') (t : iTl h') : Inv h' := by
  refine I.to f (Or.inl ?_) (Or.inl ?_) (Or.inl ?_) (Or.inl ?_) (Or.inl ?_) (Or.inl ?_) (Or.inl ?_) (Or.inr t) (Or.inl ?_) <;> intro a k z <;> simp only [rgRw, rgTx, rgHd, rgLm, rgSy, rgSg, rgMo, rgTl, rgMk, rgS, ScM] at z ⊢ <;> omega
theorem tl_S : ∀ a k, rgTl a k → ¬ rgS a k := by
  intro a k z
  simp only [rgTl, rgS, ScM] at z ⊢
  omega
theorem inv_s {h h' : JH} (I : Inv h) (f : Fq rgS h h') : Inv h' := inv_tl I (f.up (fun _ _ z => Or.inr z)) (I.2.2.2.2.2.2.2.2.1.fr f tl_S)
theorem rt0 : rgTl 0 10 := by unfold rgTl; omega
theorem rt1 : rgTl 0 11 := by unfold rgTl; omega
theorem rt2 : rgTl 117 0 := by unfold rgTl; omega
theorem rt3 : rgTl 117 2 := by unfold rgTl; omega
theorem rt4 (k : Nat) : rgTl 118 k := by unfold rgTl; omega
theorem rt5 (k : Nat) : rgTl 96 k := by unfold rgTl; omega
theorem iTl_ask {h : JH} (t : iTl h) (v : Int) : iTl (sI (sI h 0 11 v) 117 2 v) := ⟨t.1, t.2.1, by rw [sI_s, sI_o _ (by decide), sI_s], t.2.2.2⟩
theorem iTl_find {h : JH} (t : iTl h) {v : Int} (hv : 1 ≤ v ∧ v ≤ 5) : iTl (mtH (fnH h v) v) := by
  refine ⟨rfl, fun k hk => ?_, t.2.2⟩
  have e1 : hI (fnH h v) 118 v.toNat = hI h 118 v.toNat := rfl
  have e2 := t.2.1 v.toNat (by omega)
  unfold mtH
  rw [e1, sI_o _ (by decide), sI_o _ (by decide)]
  unfold fnH
  by_cases e : k = v.toNat
  · subst e
    rw [sI_s, sI_s, e2]
  · rw [sI_k _ e, sI_k _ e, sI_o _ (by decide), sI_o _ (by decide), sI_o _ (by decide), sI_o _ (by decide)]
    exact t.2.1 k hk
theorem inv_find {h : JH} (I : Inv h) {v : Int} (hv : 1 ≤ v ∧ v ≤ 5) : Inv (mtH (fnH h v) v) := inv_tl I ((((Fq.rf.sI _ (Or.inl rt0)).sI _ (Or.inl (rt5 _))).sI _ (Or.inl rt2)).sI _ (Or.inl (rt4 _))) (iTl_find I.2.2.2.2.2.2.2.2.1 hv)
theorem inv_ask {h : JH} (I : Inv h) (v : Int) : Inv (sI (sI h 0 11 v) 117 2 v) := inv_tl I ((Fq.rf.sI _ (Or.inl rt1)).sI _ (Or.inl rt3)) (iTl_ask I.2.2.2.2.2.2.2.2.1 v)

