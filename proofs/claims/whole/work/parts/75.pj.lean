/-! fault, story: the pairs -/
theorem pr_fault {d : Nat} {h : JH} {r : Int} (I : Inv h) : Two (d + 6) jX11_fault jX12_fault [vi r] h := by
  have w := I.1
  have it : 0 ≤ r ∧ r ≤ 3 → _ := fun z => (I.2.2.1 r.toNat (by omega)).1
  obtain ⟨y, b', o, m, x⟩ := I.2.2.2.2.2.1
  have b1 := x.1
  have hD : hR h 13 2 = some (14 + (1 - b')) := by rw [x.2.2.1, show 15 - b' = 14 + (1 - b') by omega]
  have hS : hR h 13 0 = some (15 - (1 - b')) := by rw [x.2.1, show 15 - (1 - b') = 14 + b' by omega]
  refine c_X11_fault (b := 1 - b') w (tdX I.2.2.1) (by omega) hD (fun a => ?_) (fun a c => ?_) (fun a c h1 f1 => ?_)
  · exact c_X12_fault w (tmX I.2.2.1 (fun _ => rfl) (fun _ => rfl)) (fun _ => ⟨rfl, I⟩) (fun z => absurd z a) (fun z => absurd z a)
  · have i := it a
    exact c_X12_fault (h := fnH h 1) w (tmX I.2.2.1 (fun _ => rfl) (fun _ => rfl)) (fun z => absurd a z) (fun _ _ => ⟨rfl, inv_find I (by decide)⟩) (fun _ (z : 0 ≤ hI h 122 r.toNat) => by exfalso; omega)
  · have i := it a
    have e1 : ∀ k, hI h1 122 k = hI h 122 k := fun k => f1.2.2 _ _ (by unfold ScV; omega)
    have e2 : ∀ k, hI h1 123 k = hI h 123 k := fun k => f1.2.2 _ _ (by unfold ScV; omega)
    exact c_X12_fault (h := h1) (f1.wf w) (tmX I.2.2.1 e1 e2) (fun z => absurd a z) (fun _ z => by rw [e1] at z; exfalso; omega) (fun _ _ h2 f2 => ⟨rfl, inv_rd I (by omega) hS f1 f2⟩)
def rgY (a k : Nat) : Prop := rgSy a k ∨ rgS a k
theorem sV_Y {b : Nat} : ∀ a k, ScV b a k → rgY a k := fun _ _ z => z.elim (fun t => Or.inr (rgS_x t)) (fun t => Or.inl (by unfold rgSy; omega))
theorem sY_Y : ∀ a k, ScY a k → rgY a k := fun a k z => z.elim (fun t => Or.inr (Or.inl (sR_M a k t))) (fun t => Or.inl (by unfold rgSy; omega))
theorem inv_st {h h1 h3 : JH} {b n : Nat} {T : Nat → Int} (I : Inv h) (hb : b ≤ 1) (e9 : flP (chT T n) n = -9) (f1 : Fr (ScV b) h h1) (g3 : hI h1 13 3 = ((tP (chT T n) 12 0).2.1 : Int)) (gx : ∀ u, u < (tP (chT T n) 12 0).2.1 → XM h1 (16 + 2 * u + b) (scP (chT T n) (stP (chT T n) u))) (f3 : Fr ScY (tdH h1 b) h3) (m3 : SM h3 (syP (chT T n))) : Inv h3 := by
  have w3 : WF h3 := f3.wf (wtd (f1.wf I.1) hb)
  have sb := syP_b e9
  have so := syP_ok e9
  have fI : ∀ a k, ¬ rgY a k → hI h3 a k = hI h a k := fun a k z => (f3.2.2 a k (fun t => z (sY_Y a k t))).trans ((td_I h1 b a k (fun t => z (Or.inl (by unfold rgSy; omega)))).trans (f1.2.2 a k (fun t => z (sV_Y a k t))))
  have fJ : ∀ a k, hJ h3 a k = hJ h a k := fun a k => by
    have e1 : hJ h3 a k = hJ (tdH h1 b) a k := by unfold hJ; rw [f3.2.1]
    have e2 : hJ h1 a k = hJ h a k := by unfold hJ; rw [f1.2.1]
    exact e1.trans e2
  have f : Fq rgY h (h3.1, h3.2.1, h3.2.2.1, h.2.2.2) := ⟨f3.1.trans f1.1, rfl, fI, fun a k _ => fJ a k⟩
  have n5 : iSy h3 := by
    refine ⟨syP (chT T n), b, so, m3, hb, ?_, ?_, ?_, fun s hs => ?_⟩
    · have : hR h3 = hR (tdH h1 b) := by unfold hR; rw [f3.2.1]
      rw [this, td_R, if_neg (by decide), if_pos ⟨rfl, rfl⟩]
    · have : hR h3 = hR (tdH h1 b) := by unfold hR; rw [f3.2.1]
      rw [this, td_R, if_pos ⟨rfl, rfl⟩]
    · rw [f3.2.2 _ _ (by unfold ScY ScR; omega)]
      unfold tdH
      rw [sI_s]
      exact g3
    · have q := gx s hs
      have o2 := (sb.2.2 s hs).2
      have s12 : s < 12 := by have := sb.2.1; omega
      have e : ∀ k, hI h3 (16 + 2 * s + b) k = hI h1 (16 + 2 * s + b) k := fun k => (f3.2.2 _ _ (by unfold ScY ScR; omega)).trans (td_I h1 b _ _ (by omega))
      unfold scX
      rw [e, e, e, e, e, e, e, e, q.1, q.2.1, q.2.2.1, q.2.2.2.1, q.2.2.2.2.1, q.2.2.2.2.2.1, q.2.2.2.2.2.2.1, q.2.2.2.2.2.2.2]
      unfold ySh yHd yLe yMo yKp yMf yMt yNd syP
      dsimp only
      exact ⟨rfl, rfl, by omega, by omega, by omega, rfl, rfl, rfl⟩
  obtain ⟨w, i1, i2, i3, i4, i5, i6, i7, i8, i9⟩ := I
  refine ⟨w3, iRw.fr (h' := (h3.1, h3.2.1, h3.2.2.1, h.2.2.2)) i1 f ?_, iTx.fr (h' := (h3.1, h3.2.1, h3.2.2.1, h.2.2.2)) i2 f ?_, iHd.fr (h' := (h3.1, h3.2.1, h3.2.2.1, h.2.2.2)) i3 f ?_, iLm.fr (h' := (h3.1, h3.2.1, h3.2.2.1, h.2.2.2)) i4 f ?_, n5, iSg.fr (h' := (h3.1, h3.2.1, h3.2.2.1, h.2.2.2)) i6 f ?_, iMo.fr (h' := (h3.1, h3.2.1, h3.2.2.1, h.2.2.2)) i7 f ?_, iTl.fr (h' := (h3.1, h3.2.1, h3.2.2.1, h.2.2.2)) i8 f ?_, iMk.fr (h' := (h3.1, h3.2.1, h3.2.2.1, h.2.2.2)) i9 f ?_⟩ <;> intro a k z <;> simp only [rgRw, rgTx, rgHd, rgLm, rgSy, rgSg, rgMo, rgTl, rgMk, rgY, rgS, ScM] at z ⊢ <;> omega
theorem pr_story {d : Nat} {h : JH} {r : Int} (I : Inv h) : Two (d + 6) jX11_story jX12_story [vi r] h := by
  have w := I.1
  have it : 0 ≤ r ∧ r ≤ 3 → _ := fun z => (I.2.2.1 r.toNat (by omega)).1
  obtain ⟨y, b', o, m, x⟩ := I.2.2.2.2.2.1
  have b1 := x.1
  have hD : hR h 13 2 = some (14 + (1 - b')) := by rw [x.2.2.1, show 15 - b' = 14 + (1 - b') by omega]
  have hS : hR h 13 0 = some (15 - (1 - b')) := by rw [x.2.1, show 15 - (1 - b') = 14 + b' by omega]
  refine c_X11_story (b := 1 - b') w (tdX I.2.2.1) (by omega) hD hS (fun a => ?_) (fun a c => ?_) (fun a c e h1 f1 => ?_) (fun a c e h1 f1 g3 gx => ?_)
  · exact c_X12_story w (tmX I.2.2.1 (fun _ => rfl) (fun _ => rfl)) (fun _ => ⟨rfl, I⟩) (fun z => absurd z a) (fun z => absurd z a) (fun z => absurd z a)
  · have i := it a
    exact c_X12_story (h := fnH h 1) w (tmX I.2.2.1 (fun _ => rfl) (fun _ => rfl)) (fun z => absurd a z) (fun _ _ => ⟨rfl, inv_find I (by decide)⟩) (fun _ (z : 0 ≤ hI h 122 r.toNat) => by exfalso; omega) (fun _ (z : 0 ≤ hI h 122 r.toNat) => by exfalso; omega)
  · have i := it a
    have e1 : ∀ k, hI h1 122 k = hI h 122 k := fun k => f1.2.2 _ _ (by unfold ScV; omega)
    have e2 : ∀ k, hI h1 123 k = hI h 123 k := fun k => f1.2.2 _ _ (by unfold ScV; omega)
    exact c_X12_story (h := h1) (f1.wf w) (tmX I.2.2.1 e1 e2) (fun z => absurd a z) (fun _ z => by rw [e1] at z; exfalso; omega) (fun _ _ _ h2 f2 => ⟨rfl, inv_rd I (by omega) hS f1 f2⟩) (fun _ _ z => absurd z e)
  · have i := it a
    have e1 : ∀ k, hI (tdH h1 (1 - b')) 122 k = hI h 122 k := fun k => (td_I _ _ _ _ (by omega)).trans (f1.2.2 _ _ (by unfold ScV; omega))
    have e2 : ∀ k, hI (tdH h1 (1 - b')) 123 k = hI h 123 k := fun k => (td_I _ _ _ _ (by omega)).trans (f1.2.2 _ _ (by unfold ScV; omega))
    exact c_X12_story (h := tdH h1 (1 - b')) (wtd (f1.wf w) (by omega)) (tmX I.2.2.1 e1 e2) (fun z => absurd a z) (fun _ z => by rw [e1] at z; exfalso; omega) (fun _ _ z => absurd e z) (fun _ _ _ h3 f3 m3 => ⟨rfl, inv_st I (by omega) e f1 g3 gx f3 m3⟩)

