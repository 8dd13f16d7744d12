/-! both sides answer alike: lay, put, mean, copy -/
theorem pr_lay {d : Nat} {h : JH} {r i v : Int} (I : Inv h) : Two (d + 4) jX11_lay jX12_lay [vi r, vi i, vi v] h := by
  have w := I.1
  have ir : 0 ≤ r ∧ r ≤ 5 → _ := fun z => (I.2.1 r.toNat (by omega)).1
  have ir2 : 0 ≤ r ∧ r ≤ 5 → _ := fun z => (I.2.1 r.toNat (by omega)).2
  have hz := I.2.1.sz
  refine c_X11_lay w (fun k hk => (I.2.1.sx k hk).2) (fun a => ?_) (fun a b => ?_) (fun a b c => ?_) (fun a b => ?_)
  · exact c_X12_lay w hz (fun _ => ⟨rfl, I⟩) (fun _ _ => by exfalso; omega) (fun _ _ _ => by exfalso; omega) (fun _ _ _ => by exfalso; omega)
  · have i1 := ir a
    exact c_X12_lay (h := fnH h 1) w hz (fun _ => by exfalso; omega) (fun _ _ => ⟨rfl, inv_find I (by decide)⟩) (fun _ (z : 0 ≤ hI h 119 r.toNat) _ => by exfalso; omega) (fun _ (z : 0 ≤ hI h 119 r.toNat) _ => by exfalso; omega)
  · have i1 := ir a
    exact c_X12_lay (h := fnH h 2) w hz (fun _ => by exfalso; omega) (fun _ (z : hI h 119 r.toNat < 0) => by exfalso; omega) (fun _ _ _ => ⟨rfl, inv_find I (by decide)⟩) (fun _ _ (z : 0 ≤ i ∧ i < hI h 119 r.toNat) => by exfalso; omega)
  · have i1 := ir a
    have i2 := ir2 a i.toNat (by omega)
    have hr : r.toNat < 6 := by omega
    rw [i2]
    generalize hx : hI h 120 (40 * r.toNat + i.toNat) = x
    have es : ∀ k, hI (sI (sI h (97 + 2 * r.toNat + 1) i.toNat v) 0 11 x) 119 k = hI h 119 k := fun k => by rw [sI_o _ (by decide), sI_o _ (by omega)]
    have ew : ∀ k, hI (sI (sI h (97 + 2 * r.toNat + 1) i.toNat v) 0 11 x) 120 k = hI h 120 k := fun k => by rw [sI_o _ (by decide), sI_o _ (by omega)]
    refine c_X12_lay (h := sI (sI h (97 + 2 * r.toNat + 1) i.toNat v) 0 11 x) w (fun k hk => by rw [es]; exact hz k hk) (fun _ => by exfalso; omega) (fun _ z => by rw [es] at z; exfalso; omega) (fun _ _ z => by rw [es] at z; exfalso; omega) (fun _ _ _ => ⟨rfl, ?_⟩)
    rw [show (40 * r + i).toNat = 40 * r.toNat + i.toNat by omega, ew, hx]
    have f : Fq (fun a k => rgRw a k ∨ rgTl a k ∨ rgS a k) h (sI (sI (sI (sI h (97 + 2 * r.toNat + 1) i.toNat v) 0 11 x) 117 2 x) 120 (40 * r.toNat + i.toNat) v) := (((Fq.rf.sI _ (Or.inl (rr2 hr _))).sI _ (Or.inr (Or.inl rt1))).sI _ (Or.inr (Or.inl rt3))).sI _ (Or.inl (rr4 _))
    have t0 : iTl (sI h (97 + 2 * r.toNat + 1) i.toNat v) := I.2.2.2.2.2.2.2.2.1.fr (Sc := rgRw) (Fq.rf.sI _ (rr2 hr _)) (by intro a k z; simp only [rgTl, rgRw] at z ⊢; omega)
    refine inv_rw I f (iRw_of I.2.1 hr (fun j hj => ⟨?_, fun h6 => ⟨?_, fun k => ?_⟩⟩) (fun k hk => ?_) ⟨Or.inr ?_, fun k hk => ?_⟩) ((iTl_ask t0 x).fr (Sc := rgRw) (Fq.rf.sI _ (rr4 _)) (by intro a k z; simp only [rgTl, rgRw] at z ⊢; omega))
    · rw [sI_o _ (by decide), sI_o _ (by decide), es]
    · rw [sI_o _ (by omega), sI_o _ (by omega), sI_o _ (by omega), sI_o _ (by omega)]
    · rw [sI_o _ (by omega), sI_o _ (by omega), sI_o _ (by omega), sI_o _ (by omega)]
    · rw [sI_k _ (by omega), sI_o _ (by decide), ew]
    · rw [sI_o _ (by decide), sI_o _ (by decide), es, sI_o _ (by omega), sI_o _ (by omega), sI_o _ (by omega), sI_o _ (by omega)]
      omega
    · rw [sI_o _ (by decide), sI_o _ (by decide), es] at hk
      rw [sI_o _ (by omega), sI_o _ (by omega), sI_o _ (by omega)]
      by_cases e : k = i.toNat
      · subst e
        rw [sI_s, sI_s]
      · rw [sI_k _ e, sI_k _ (by omega), sI_o _ (by decide), ew]
        exact ir2 a k hk
theorem pr_put {d : Nat} {h : JH} {r i v : Int} (I : Inv h) : Two (d + 4) jX11_put jX12_put [vi r, vi i, vi v] h := by
  have w := I.1
  have ir : 0 ≤ r ∧ r ≤ 3 → _ := fun z => (I.2.2.1 r.toNat (by omega)).1
  have ir2 : 0 ≤ r ∧ r ≤ 3 → _ := fun z => (I.2.2.1 r.toNat (by omega)).2
  have hz := I.2.2.1.sz
  refine c_X11_put w I.2.2.1.sx (fun a => ?_) (fun a b => ?_) (fun a b c => ?_) (fun a b => ?_)
  · exact c_X12_put w hz (fun _ => ⟨rfl, I⟩) (fun _ _ => by exfalso; omega) (fun _ _ _ => by exfalso; omega) (fun _ _ _ => by exfalso; omega)
  · have i1 := ir a
    exact c_X12_put (h := fnH h 1) w hz (fun _ => by exfalso; omega) (fun _ _ => ⟨rfl, inv_find I (by decide)⟩) (fun _ (z : 0 ≤ hI h 122 r.toNat) _ => by exfalso; omega) (fun _ (z : 0 ≤ hI h 122 r.toNat) _ => by exfalso; omega)
  · have i1 := ir a
    exact c_X12_put (h := fnH h 2) w hz (fun _ => by exfalso; omega) (fun _ (z : hI h 122 r.toNat < 0) => by exfalso; omega) (fun _ _ _ => ⟨rfl, inv_find I (by decide)⟩) (fun _ _ (z : 0 ≤ i ∧ i < hI h 122 r.toNat) => by exfalso; omega)
  · have i1 := ir a
    have i2 := ir2 a i.toNat (by omega)
    have hr : r.toNat < 4 := by omega
    rw [i2]
    have es : ∀ k, hI (sI h (109 + 2 * r.toNat + 1) i.toNat (i2b v)) 122 k = hI h 122 k := fun k => by rw [sI_o _ (by omega)]
    have ew : ∀ k, hI (sI h (109 + 2 * r.toNat + 1) i.toNat (i2b v)) 123 k = hI h 123 k := fun k => by rw [sI_o _ (by omega)]
    refine c_X12_put (h := sI h (109 + 2 * r.toNat + 1) i.toNat (i2b v)) w (fun k hk => by rw [es]; exact hz k hk) (fun _ => by exfalso; omega) (fun _ z => by rw [es] at z; exfalso; omega) (fun _ _ z => by rw [es] at z; exfalso; omega) (fun _ _ _ => ⟨?_, ?_⟩)
    · rw [show (60 * r + i).toNat = 60 * r.toNat + i.toNat by omega, ew]
    rw [show (60 * r + i).toNat = 60 * r.toNat + i.toNat by omega]
    have f : Fq rgTx h (sI (sI h (109 + 2 * r.toNat + 1) i.toNat (i2b v)) 123 (60 * r.toNat + i.toNat) (i2b v)) := (Fq.rf.sI _ (rx2 hr _)).sI _ (rx4 _)
    refine inv_tx I (f.up (fun _ _ z => Or.inl z)) (iTx_of I.2.2.1 hr (fun j hj => ⟨?_, fun h6 => ⟨?_, fun k => ?_⟩⟩) (fun k hk => ?_) ⟨Or.inr ?_, fun k hk => ?_⟩) (I.2.2.2.2.2.2.2.2.1.fr f (by intro a k z; simp only [rgTl, rgTx] at z ⊢; omega))
    · rw [sI_o _ (by decide), es]
    · rw [sI_o _ (by omega), sI_o _ (by omega)]
    · rw [sI_o _ (by omega), sI_o _ (by omega)]
    · rw [sI_k _ (by omega), ew]
    · rw [sI_o _ (by decide), es, sI_o _ (by omega), sI_o _ (by omega)]
      omega
    · rw [sI_o _ (by decide), es] at hk
      rw [sI_o _ (by omega)]
      by_cases e : k = i.toNat
      · subst e
        rw [sI_s, sI_s]
      · rw [sI_k _ e, sI_k _ (by omega), ew]
        exact ir2 a k hk
theorem sumF_cg {f g : Nat → Int} {lo lo' : Nat} : ∀ {n : Nat}, (∀ k, k < n → f (lo + k) = g (lo' + k)) → sumF f lo n = sumF g lo' n
  | 0, _ => rfl
  | n + 1, e => by
    show sumF f lo n + f (lo + n) = sumF g lo' n + g (lo' + n)
    rw [sumF_cg (fun k hk => e k (by omega)), e n (by omega)]
theorem pr_mean {d : Nat} {h : JH} {r : Int} (I : Inv h) : Two (d + 4) jX11_mean jX12_mean [vi r] h := by
  have w := I.1
  have ir : 0 ≤ r ∧ r ≤ 5 → _ := fun z => (I.2.1 r.toNat (by omega)).1
  have ir2 : 0 ≤ r ∧ r ≤ 5 → _ := fun z => (I.2.1 r.toNat (by omega)).2
  have hz := I.2.1.sz
  refine c_X11_mean w (fun k hk => (I.2.1.sx k hk).2) (fun a => ?_) (fun a b => ?_) (fun a b => ?_) (fun a b => ?_)
  · exact c_X12_mean w hz (fun _ => ⟨rfl, I⟩) (fun _ _ => by exfalso; omega) (fun _ _ => by exfalso; omega) (fun _ _ => by exfalso; omega)
  · have i1 := ir a
    exact c_X12_mean (h := fnH h 1) w hz (fun _ => by exfalso; omega) (fun _ _ => ⟨rfl, inv_find I (by decide)⟩) (fun _ (z : hI h 119 r.toNat = 0) => by exfalso; omega) (fun _ (z : 0 < hI h 119 r.toNat) => by exfalso; omega)
  · have i1 := ir a
    exact c_X12_mean (h := fnH h 4) w hz (fun _ => by exfalso; omega) (fun _ (z : hI h 119 r.toNat < 0) => by exfalso; omega) (fun _ _ => ⟨rfl, inv_find I (by decide)⟩) (fun _ (z : 0 < hI h 119 r.toNat) => by exfalso; omega)
  · have i1 := ir a
    have e1 : hI h (97 + 2 * r.toNat) 1 = hI h 119 r.toNat := by omega
    have e2 : sumF (hI h (97 + 2 * r.toNat + 1)) 0 (hI h 119 r.toNat).toNat = sumF (hI h 120) (40 * r.toNat) (hI h 119 r.toNat).toNat := sumF_cg (fun k hk => by rw [Nat.zero_add]; exact ir2 a k (by omega))
    rw [e1, e2]
    generalize hx : w32 (w64 ((sumF (hI h 120) (40 * r.toNat) (hI h 119 r.toNat).toNat).tdiv (hI h 119 r.toNat))) = x
    refine c_X12_mean (h := sI h 0 11 x) w hz (fun _ => by exfalso; omega) (fun _ (z : hI h 119 r.toNat < 0) => by exfalso; omega) (fun _ (z : hI h 119 r.toNat = 0) => by exfalso; omega) (fun _ _ => ⟨rfl, ?_⟩)
    have e3 : w32 (w64 ((sumF (hI (sI h 0 11 x) 120) (40 * r.toNat) (hI (sI h 0 11 x) 119 r.toNat).toNat).tdiv (hI (sI h 0 11 x) 119 r.toNat))) = x := by
      rw [sI_o _ (by decide), show hI (sI h 0 11 x) 120 = hI h 120 from sI_ne _ _ _ _ (by decide)]
      exact hx
    rw [e3]
    exact inv_ask I _
theorem cpF_out {f g : Nat → Int} {lo n j : Nat} (h : ¬ (lo ≤ j ∧ j < lo + n)) : cpF f g lo n j = f j := by unfold cpF; rw [if_neg h]
theorem pr_copy {d : Nat} {h : JH} {r i to j n : Int} (I : Inv h) : Two (d + 4) jX11_copy jX12_copy [vi r, vi i, vi to, vi j, vi n] h := by
  have w := I.1
  have ir : 0 ≤ r ∧ r ≤ 5 → _ := fun z => (I.2.1 r.toNat (by omega)).1
  have ir2 : 0 ≤ r ∧ r ≤ 5 → _ := fun z => (I.2.1 r.toNat (by omega)).2
  have it : 0 ≤ to ∧ to ≤ 5 → _ := fun z => (I.2.1 to.toNat (by omega)).1
  have it2 : 0 ≤ to ∧ to ≤ 5 → _ := fun z => (I.2.1 to.toNat (by omega)).2
  have hz := I.2.1.sz
  refine c_X11_copy w I.2.1.sx (fun a => ?_) (fun a b c => ?_) (fun a b c e => ?_) (fun a b c e g k => ?_) (fun a b c e g k => ?_)
  · exact c_X12_copy w hz (fun _ => ⟨rfl, I⟩) (fun _ _ _ => by exfalso; omega) (fun _ _ _ _ => by exfalso; omega) (fun _ _ _ _ _ _ => by exfalso; omega) (fun _ _ _ _ _ _ => by exfalso; omega)
  · exact c_X12_copy (h := fnH h 5) w hz (fun _ => by exfalso; omega) (fun _ _ _ => ⟨rfl, inv_find I (by decide)⟩) (fun _ _ _ _ => by exfalso; omega) (fun _ _ _ _ _ _ => by exfalso; omega) (fun _ _ _ _ _ _ => by exfalso; omega)
  · have i1 := ir a
    have i2 := it b
    exact c_X12_copy (h := fnH h 1) w hz (fun _ => by exfalso; omega) (fun _ _ _ => by exfalso; omega) (fun _ _ _ _ => ⟨rfl, inv_find I (by decide)⟩) (fun _ _ _ (z : 0 ≤ hI h 119 r.toNat) (z2 : 0 ≤ hI h 119 to.toNat) _ => by exfalso; omega) (fun _ _ _ (z : 0 ≤ hI h 119 r.toNat) (z2 : 0 ≤ hI h 119 to.toNat) _ => by exfalso; omega)
  · have i1 := ir a
    have i2 := it b
    exact c_X12_copy (h := fnH h 2) w hz (fun _ => by exfalso; omega) (fun _ _ _ => by exfalso; omega) (fun _ _ _ (z : hI h 119 r.toNat < 0 ∨ hI h 119 to.toNat < 0) => by exfalso; omega) (fun _ _ _ _ _ _ => ⟨rfl, inv_find I (by decide)⟩) (fun _ _ _ _ _ (z : 0 ≤ i ∧ 0 ≤ j ∧ i + n ≤ hI h 119 r.toNat ∧ j + n ≤ hI h 119 to.toNat) => by exfalso; omega)
  · have i1 := ir a
    have i2 := it b
    have hr : r.toNat < 6 := by omega
    have ht : to.toNat < 6 := by omega
    generalize hG : jcpy (hI h (97 + 2 * r.toNat + 1)) (hI h (97 + 2 * to.toNat + 1)) i j n = G
    have es : ∀ k, hI (wI h (97 + 2 * to.toNat + 1) G) 119 k = hI h 119 k := fun k => by rw [wI_ne _ _ (by omega)]
    have ew : hI (wI h (97 + 2 * to.toNat + 1) G) 120 = hI h 120 := by rw [wI_ne _ _ (by omega)]
    refine c_X12_copy (h := wI h (97 + 2 * to.toNat + 1) G) w (fun k hk => by rw [es]; exact hz k hk) (fun _ => by exfalso; omega) (fun _ _ _ => by exfalso; omega) (fun _ _ _ z => by rw [es, es] at z; exfalso; omega) (fun _ _ _ _ _ z => by rw [es, es] at z; exfalso; omega) (fun _ _ _ _ _ _ fm => ⟨rfl, ?_⟩)
    rw [ew]
    have f : Fq (fun a k => rgRw a k ∨ rgS a k) h (wI (wI (wI h (97 + 2 * to.toNat + 1) G) 121 fm) 120 (cpF (hI h 120) (fun k => hI h 120 (40 * r.toNat + i.toNat + k)) (40 * to.toNat + j.toNat) n.toNat)) := ((Fq.rf.wI _ (fun k => Or.inl (rr2 ht k))).wI _ (fun k => Or.inr (rs_mv k))).wI _ (fun k => Or.inl (rr4 k))
    refine inv_rw I (f.up (fun _ _ z => z.elim Or.inl (fun z => Or.inr (Or.inr z)))) (iRw_of I.2.1 ht (fun x hx => ⟨?_, fun h6 => ⟨?_, fun k => ?_⟩⟩) (fun k hk => ?_) ⟨Or.inr ?_, fun x hx => ?_⟩) (I.2.2.2.2.2.2.2.2.1.fr f (by intro a k z; simp only [rgTl, rgRw, rgS, ScM] at z ⊢; omega))
    · rw [wI_ne _ _ (by decide), wI_ne _ _ (by decide), es]
    · rw [wI_ne _ _ (by omega), wI_ne _ _ (by omega), wI_ne _ _ (by omega)]
    · rw [wI_ne _ _ (by omega), wI_ne _ _ (by omega), wI_ne _ _ (by omega)]
    · rw [wI_at, cpF_out (by omega)]
    · rw [wI_ne _ _ (by decide), wI_ne _ _ (by decide), es, wI_ne _ _ (by omega), wI_ne _ _ (by omega), wI_ne _ _ (by omega)]
      omega
    · rw [wI_ne _ _ (by decide), wI_ne _ _ (by decide), es] at hx
      rw [wI_at, wI_ne _ _ (by omega), wI_ne _ _ (by omega), wI_at, ← hG]
      unfold jcpy cpF
      by_cases z : j ≤ x ∧ (x : Int) < j + n
      · rw [if_pos z, if_pos (by omega), ir2 a (i + (x - j)).toNat (by omega)]
        congr 1
        omega
      · rw [if_neg z, if_neg (by omega)]
        exact it2 b x hx

