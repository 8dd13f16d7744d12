/-! both sides answer alike: rows and texts -/
/-- a call of the class and then of the reference: the same answer, and all holds again -/
def Two (d : Nat) (yX yM : JM) (vs : List JV) (h : JH) : Prop := JRi d yX (vr 0 :: vs) h (fun v h1 => JRi d yM (vr 117 :: vs) h1 (fun v' h2 => v = v' ∧ Inv h2))
theorem rr1 {r : Nat} (hr : r < 6) (k : Nat) : rgRw (97 + 2 * r) k := by unfold rgRw; omega
theorem rr2 {r : Nat} (hr : r < 6) (k : Nat) : rgRw (97 + 2 * r + 1) k := by unfold rgRw; omega
theorem rr3 (k : Nat) : rgRw 119 k := by unfold rgRw; omega
theorem rr4 (k : Nat) : rgRw 120 k := by unfold rgRw; omega
theorem rx1 {r : Nat} (hr : r < 4) (k : Nat) : rgTx (109 + 2 * r) k := by unfold rgTx; omega
theorem rx2 {r : Nat} (hr : r < 4) (k : Nat) : rgTx (109 + 2 * r + 1) k := by unfold rgTx; omega
theorem rx3 (k : Nat) : rgTx 122 k := by unfold rgTx; omega
theorem rx4 (k : Nat) : rgTx 123 k := by unfold rgTx; omega
theorem rs_mv (k : Nat) : rgS 121 k := by unfold rgS ScM; omega
theorem iRw.sz {h : JH} (i : iRw h) : ∀ k, k < 6 → hI h 119 k ≤ 40 := fun k hk => by have := (i k hk).1; omega
theorem iRw.sx {h : JH} (i : iRw h) : ∀ k, k < 6 → -1 ≤ hI h (97 + 2 * k) 1 ∧ hI h (97 + 2 * k) 1 ≤ 60 := fun k hk => by have := (i k hk).1; omega
theorem iTx.sz {h : JH} (i : iTx h) : ∀ k, k < 4 → hI h 122 k ≤ 60 := fun k hk => by have := (i k hk).1; omega
theorem iTx.sx {h : JH} (i : iTx h) : ∀ k, k < 4 → hI h (109 + 2 * k) 1 ≤ 60 := fun k hk => by have := (i k hk).1; omega
/-- rows are told anew by what the cells hold -/
theorem iRw_of {h h' : JH} (i : iRw h) {r : Nat} (hr : r < 6) (e0 : ∀ j, j ≠ r → hI h' 119 j = hI h 119 j ∧ (j < 6 → hI h' (97 + 2 * j) 1 = hI h (97 + 2 * j) 1 ∧ ∀ k, hI h' (97 + 2 * j + 1) k = hI h (97 + 2 * j + 1) k)) (e1 : ∀ k, (k < 40 * r ∨ 40 * r + 40 ≤ k) → hI h' 120 k = hI h 120 k) (e2 : ((hI h' 119 r = -9 ∧ hI h' (97 + 2 * r) 1 = -1) ∨ (0 ≤ hI h' 119 r ∧ hI h' 119 r ≤ 40 ∧ hI h' (97 + 2 * r) 1 = hI h' 119 r)) ∧ ∀ i : Nat, (i : Int) < hI h' 119 r → hI h' (97 + 2 * r + 1) i = hI h' 120 (40 * r + i)) : iRw h' := fun j hj => by
  by_cases e : j = r
  · subst e; exact e2
  · have q := e0 j e
    have q2 := q.2 hj
    have ij := i j hj
    rw [q.1, q2.1]
    refine ⟨ij.1, fun k hk => ?_⟩
    have := i.sz j hj
    rw [q2.2, e1 _ (by omega)]
    exact ij.2 k hk
theorem iTx_of {h h' : JH} (i : iTx h) {r : Nat} (hr : r < 4) (e0 : ∀ j, j ≠ r → hI h' 122 j = hI h 122 j ∧ (j < 4 → hI h' (109 + 2 * j) 1 = hI h (109 + 2 * j) 1 ∧ ∀ k, hI h' (109 + 2 * j + 1) k = hI h (109 + 2 * j + 1) k)) (e1 : ∀ k, (k < 60 * r ∨ 60 * r + 60 ≤ k) → hI h' 123 k = hI h 123 k) (e2 : ((hI h' 122 r = -9 ∧ hI h' (109 + 2 * r) 1 = -1) ∨ (0 ≤ hI h' 122 r ∧ hI h' 122 r ≤ 60 ∧ hI h' (109 + 2 * r) 1 = hI h' 122 r)) ∧ ∀ i : Nat, (i : Int) < hI h' 122 r → hI h' (109 + 2 * r + 1) i = hI h' 123 (60 * r + i)) : iTx h' := fun j hj => by
  by_cases e : j = r
  · subst e; exact e2
  · have q := e0 j e
    have q2 := q.2 hj
    have ij := i j hj
    rw [q.1, q2.1]
    refine ⟨ij.1, fun k hk => ?_⟩
    have := i.sz j hj
    rw [q2.2, e1 _ (by omega)]
    exact ij.2 k hk
theorem fillF_in {f : Nat → Int} {lo n j : Nat} {v : Int} (h : lo ≤ j ∧ j < lo + n) : fillF f lo n v j = v := by unfold fillF; rw [if_pos h]
theorem fillF_out {f : Nat → Int} {lo n j : Nat} {v : Int} (h : ¬ (lo ≤ j ∧ j < lo + n)) : fillF f lo n v j = f j := by unfold fillF; rw [if_neg h]
theorem iRw_row {h : JH} (i : iRw h) {r n : Int} (hr : 0 ≤ r ∧ r ≤ 5) (hn : 0 ≤ n ∧ n ≤ 40) : iRw (rowH (mkH h (97 + 2 * r.toNat) n 0) r n) := by
  refine iRw_of i (r := r.toNat) (by omega) (fun j hj => ⟨?_, fun h6 => ⟨?_, fun k => ?_⟩⟩) (fun k hk => ?_) ⟨Or.inr ⟨?_, ?_, ?_⟩, fun k hk => ?_⟩
  · unfold rowH mkH
    rw [wI_ne _ _ (by decide), sI_k _ hj, sI_o _ (by omega), wI_ne _ _ (by omega)]
  · unfold rowH mkH
    rw [wI_ne _ _ (by omega), sI_o _ (by omega), sI_o _ (by omega), wI_ne _ _ (by omega)]
  · unfold rowH mkH
    rw [wI_ne _ _ (by omega), sI_o _ (by omega), sI_o _ (by omega), wI_ne _ _ (by omega)]
  · unfold rowH
    rw [wI_at, fillF_out (by omega)]
    unfold mkH
    rw [sI_o _ (by omega), wI_ne _ _ (by omega)]
  · unfold rowH
    rw [wI_ne _ _ (by decide), sI_s]; exact hn.1
  · unfold rowH
    rw [wI_ne _ _ (by decide), sI_s]; exact hn.2
  · unfold rowH mkH
    rw [wI_ne _ _ (by omega), sI_o _ (by omega), sI_s, wI_ne _ _ (by decide), sI_s]
  · have e : hI (rowH (mkH h (97 + 2 * r.toNat) n 0) r n) 119 r.toNat = n := by
      unfold rowH
      rw [wI_ne _ _ (by decide), sI_s]
    rw [e] at hk
    unfold rowH
    rw [wI_at, fillF_in (by omega), wI_ne _ _ (by omega), sI_o _ (by omega)]
    unfold mkH
    rw [sI_o _ (by omega), wI_at, fillF_in (by omega)]
theorem iTx_text {h : JH} (i : iTx h) {r n : Int} (hr : 0 ≤ r ∧ r ≤ 3) (hn : 0 ≤ n ∧ n ≤ 60) : iTx (textH (mkH h (109 + 2 * r.toNat) n 32) r n) := by
  refine iTx_of i (r := r.toNat) (by omega) (fun j hj => ⟨?_, fun h6 => ⟨?_, fun k => ?_⟩⟩) (fun k hk => ?_) ⟨Or.inr ⟨?_, ?_, ?_⟩, fun k hk => ?_⟩
  · unfold textH mkH
    rw [wI_ne _ _ (by decide), sI_k _ hj, sI_o _ (by omega), wI_ne _ _ (by omega)]
  · unfold textH mkH
    rw [wI_ne _ _ (by omega), sI_o _ (by omega), sI_o _ (by omega), wI_ne _ _ (by omega)]
  · unfold textH mkH
    rw [wI_ne _ _ (by omega), sI_o _ (by omega), sI_o _ (by omega), wI_ne _ _ (by omega)]
  · unfold textH
    rw [wI_at, fillF_out (by omega)]
    unfold mkH
    rw [sI_o _ (by omega), wI_ne _ _ (by omega)]
  · unfold textH
    rw [wI_ne _ _ (by decide), sI_s]; exact hn.1
  · unfold textH
    rw [wI_ne _ _ (by decide), sI_s]; exact hn.2
  · unfold textH mkH
    rw [wI_ne _ _ (by omega), sI_o _ (by omega), sI_s, wI_ne _ _ (by decide), sI_s]
  · have e : hI (textH (mkH h (109 + 2 * r.toNat) n 32) r n) 122 r.toNat = n := by
      unfold textH
      rw [wI_ne _ _ (by decide), sI_s]
    rw [e] at hk
    unfold textH
    rw [wI_at, fillF_in (by omega), wI_ne _ _ (by omega), sI_o _ (by omega)]
    unfold mkH
    rw [sI_o _ (by omega), wI_at, fillF_in (by omega)]
theorem pr_row {d : Nat} {h : JH} {r n : Int} (I : Inv h) : Two (d + 4) jX11_row jX12_row [vi r, vi n] h := by
  have w := I.1
  refine c_X11_row w (fun a => ?_) (fun a b => ?_) (fun a b c => ?_)
  · exact c_X12_row w (fun _ => ⟨rfl, I⟩) (fun _ _ => by exfalso; omega) (fun _ _ _ => by exfalso; omega)
  · exact c_X12_row (h := fnH h 5) w (fun _ => by exfalso; omega) (fun _ _ => ⟨rfl, inv_find I (by decide)⟩) (fun _ _ _ => by exfalso; omega)
  · have hr : r.toNat < 6 := by omega
    refine c_X12_row (h := mkH h (97 + 2 * r.toNat) n 0) w (fun _ => by exfalso; omega) (fun _ _ => by exfalso; omega) (fun _ _ _ => ⟨rfl, ?_⟩)
    have f : Fq rgRw h (rowH (mkH h (97 + 2 * r.toNat) n 0) r n) := (((Fq.rf.wI _ (rr2 hr)).sI _ (rr1 hr _)).sI _ (rr3 _)).wI _ rr4
    refine inv_rw I (f.up (fun _ _ z => Or.inl z)) (iRw_row I.2.1 a ⟨b, c⟩) (I.2.2.2.2.2.2.2.2.1.fr f ?_)
    intro a k z; simp only [rgTl, rgRw] at z ⊢; omega
theorem pr_text {d : Nat} {h : JH} {r n : Int} (I : Inv h) : Two (d + 4) jX11_text jX12_text [vi r, vi n] h := by
  have w := I.1
  refine c_X11_text w (fun a => ?_) (fun a b => ?_) (fun a b c => ?_)
  · exact c_X12_text w (fun _ => ⟨rfl, I⟩) (fun _ _ => by exfalso; omega) (fun _ _ _ => by exfalso; omega)
  · exact c_X12_text (h := fnH h 5) w (fun _ => by exfalso; omega) (fun _ _ => ⟨rfl, inv_find I (by decide)⟩) (fun _ _ _ => by exfalso; omega)
  · have hr : r.toNat < 4 := by omega
    refine c_X12_text (h := mkH h (109 + 2 * r.toNat) n 32) w (fun _ => by exfalso; omega) (fun _ _ => by exfalso; omega) (fun _ _ _ => ⟨rfl, ?_⟩)
    have f : Fq rgTx h (textH (mkH h (109 + 2 * r.toNat) n 32) r n) := (((Fq.rf.wI _ (rx2 hr)).sI _ (rx1 hr _)).sI _ (rx3 _)).wI _ rx4
    refine inv_tx I (f.up (fun _ _ z => Or.inl z)) (iTx_text I.2.2.1 a ⟨b, c⟩) (I.2.2.2.2.2.2.2.2.1.fr f ?_)
    intro a k z; simp only [rgTl, rgTx] at z ⊢; omega
theorem pr_tear {d : Nat} {h : JH} {r : Int} (I : Inv h) : Two (d + 4) jX11_tear jX12_tear [vi r] h := by
  have w := I.1
  have ir : 0 ≤ r ∧ r ≤ 5 → _ := fun z => (I.2.1 r.toNat (by omega)).1
  refine c_X11_tear w (fun a => ?_) (fun a b => ?_) (fun a b => ?_)
  · exact c_X12_tear w (fun _ => ⟨rfl, I⟩) (fun _ _ => by exfalso; omega) (fun _ _ => by exfalso; omega)
  · have i := ir a
    exact c_X12_tear (h := fnH h 1) w (fun _ => by exfalso; omega) (fun _ _ => ⟨rfl, inv_find I (by decide)⟩) (fun _ (z : 0 ≤ hI h 119 r.toNat) => by exfalso; omega)
  · have i := ir a
    have hr : r.toNat < 6 := by omega
    have e0 : hI (sI h (97 + 2 * r.toNat) 1 (-1)) 119 r.toNat = hI h 119 r.toNat := by rw [sI_o _ (by omega)]
    refine c_X12_tear (h := sI h (97 + 2 * r.toNat) 1 (-1)) w (fun _ => by exfalso; omega) (fun _ z => by rw [e0] at z; exfalso; omega) (fun _ _ => ⟨rfl, ?_⟩)
    have f : Fq rgRw h (sI (sI h (97 + 2 * r.toNat) 1 (-1)) 119 r.toNat (-9)) := (Fq.rf.sI _ (rr1 hr _)).sI _ (rr3 _)
    refine inv_rw I (f.up (fun _ _ z => Or.inl z)) (iRw_of I.2.1 hr (fun j hj => ⟨?_, fun h6 => ⟨?_, fun k => ?_⟩⟩) (fun k hk => ?_) ⟨Or.inl ⟨?_, ?_⟩, fun k hk => ?_⟩) (I.2.2.2.2.2.2.2.2.1.fr f ?_)
    · rw [sI_k _ hj, sI_o _ (by omega)]
    · rw [sI_o _ (by omega), sI_o _ (by omega)]
    · rw [sI_o _ (by omega), sI_o _ (by omega)]
    · rw [sI_o _ (by decide), sI_o _ (by omega)]
    · rw [sI_s]
    · rw [sI_o _ (by omega), sI_s]
    · rw [sI_s] at hk; exfalso; omega
    · intro a k z; simp only [rgTl, rgRw] at z ⊢; omega
theorem pr_at {d : Nat} {h : JH} {r i : Int} (I : Inv h) : Two (d + 4) jX11_at jX12_at [vi r, vi i] h := by
  have w := I.1
  have ir : 0 ≤ r ∧ r ≤ 5 → _ := fun z => (I.2.1 r.toNat (by omega)).1
  have ir2 : 0 ≤ r ∧ r ≤ 5 → _ := fun z => (I.2.1 r.toNat (by omega)).2
  have hz := I.2.1.sz
  refine c_X11_at w (fun k hk => (I.2.1.sx k hk).2) (fun a => ?_) (fun a b => ?_) (fun a b c => ?_) (fun a b => ?_)
  · exact c_X12_at w hz (fun _ => ⟨rfl, I⟩) (fun _ _ => by exfalso; omega) (fun _ _ _ => by exfalso; omega) (fun _ _ _ => by exfalso; omega)
  · have i1 := ir a
    exact c_X12_at (h := fnH h 1) w hz (fun _ => by exfalso; omega) (fun _ _ => ⟨rfl, inv_find I (by decide)⟩) (fun _ (z : 0 ≤ hI h 119 r.toNat) _ => by exfalso; omega) (fun _ (z : 0 ≤ hI h 119 r.toNat) _ => by exfalso; omega)
  · have i1 := ir a
    exact c_X12_at (h := fnH h 2) w hz (fun _ => by exfalso; omega) (fun _ (z : hI h 119 r.toNat < 0) => by exfalso; omega) (fun _ _ _ => ⟨rfl, inv_find I (by decide)⟩) (fun _ _ (z : 0 ≤ i ∧ i < hI h 119 r.toNat) => by exfalso; omega)
  · have i1 := ir a
    have i2 := ir2 a i.toNat (by omega)
    rw [i2]
    refine c_X12_at (h := sI h 0 11 (hI h 120 (40 * r.toNat + i.toNat))) w hz (fun _ => by exfalso; omega) (fun _ (z : hI h 119 r.toNat < 0) => by exfalso; omega) (fun _ _ (z : ¬ (0 ≤ i ∧ i < hI h 119 r.toNat)) => by exfalso; omega) (fun _ _ _ => ⟨rfl, ?_⟩)
    rw [show (40 * r + i).toNat = 40 * r.toNat + i.toNat by omega]
    exact inv_ask I _

