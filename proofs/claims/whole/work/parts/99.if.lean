/-! the constructors: the class itself -/
theorem j_hp {κ : JK} {d : Nat} {y : JM} {pc : Nat} {ls st : List JV} {h : JH} {Q : Option JV → JH → Prop} (h' : JH) (e : h = h') (k : JAt κ d y pc ls st h' Q) : JAt κ d y pc ls st h Q := by rw [e]; exact k
def FG (j m x y : Nat) : Prop := (x = 0 ∧ y < j) ∨ (3 ≤ x ∧ x < m)
def Fz (a k : Nat) : Prop := (a = 0 ∧ k < 10) ∨ (a = 1 ∧ k < 6) ∨ (a = 2 ∧ k < 4) ∨ (a = 3 ∧ k = 0) ∨ (a = 4 ∧ k < 8) ∨ (a = 13 ∧ (k = 0 ∨ k = 2)) ∨ ((a = 14 ∨ a = 15) ∧ k < 12) ∨ (a = 41 ∧ k < 2) ∨ (a = 44 ∧ (k = 0 ∨ k = 2 ∨ k = 3)) ∨ (a = 48 ∧ k < 5) ∨ (a = 54 ∧ k = 0) ∨ (a = 55 ∧ k < 40) ∨ (97 ≤ a ∧ a ≤ 115 ∧ a % 2 = 1 ∧ k = 0) ∨ (a = 117 ∧ k < 49)
theorem R0t_len : R0t.length = 151 := by decide +kernel
theorem R0_b : ∀ a, a < 151 → (R0t.getD a []).length ≤ 49 := by decide +kernel
def fzb (a k : Nat) : Bool := ((decide (a = 0) && decide (k < 10)) || ((decide (a = 1) && decide (k < 6)) || ((decide (a = 2) && decide (k < 4)) || ((decide (a = 3) && decide (k = 0)) || ((decide (a = 4) && decide (k < 8)) || ((decide (a = 13) && (decide (k = 0) || decide (k = 2))) || (((decide (a = 14) || decide (a = 15)) && decide (k < 12)) || ((decide (a = 41) && decide (k < 2)) || ((decide (a = 44) && (decide (k = 0) || (decide (k = 2) || decide (k = 3)))) || ((decide (a = 48) && decide (k < 5)) || ((decide (a = 54) && decide (k = 0)) || ((decide (a = 55) && decide (k < 40)) || ((decide (97 ≤ a) && (decide (a ≤ 115) && (decide (a % 2 = 1) && decide (k = 0)))) || (decide (a = 117) && decide (k < 49)))))))))))))))
theorem fzb_s {a k : Nat} (h : fzb a k = true) : Fz a k := by
  simp only [fzb, Bool.or_eq_true, Bool.and_eq_true, decide_eq_true_eq] at h
  exact h
theorem R0_zb : (List.range 151).all (fun a => (List.range 49).all (fun k => fzb a k || (R0 a k).isNone)) = true := by decide +kernel
theorem R0_z (a : Nat) (h1 : a < 151) (k : Nat) (h2 : k < 49) (h : ¬ Fz a k) : R0 a k = none := by
  have z1 := List.all_eq_true.mp R0_zb a (List.mem_range.mpr h1)
  have z2 := List.all_eq_true.mp z1 k (List.mem_range.mpr h2)
  rcases Bool.or_eq_true_iff.mp z2 with z | z
  · exact absurd (fzb_s z) h
  · exact Option.isNone_iff_eq_none.mp z
theorem R0_n {a k : Nat} (h : ¬ Fz a k) : R0 a k = none := by
  by_cases h1 : a < 151
  · by_cases h2 : k < 49
    · exact R0_z a h1 k h2 h
    · have h3 := R0_b a h1
      unfold R0
      generalize R0t.getD a [] = l at *
      rw [List.getD_eq_getElem?_getD, List.getElem?_eq_none_iff.mpr (by omega)]
      rfl
  · unfold R0
    rw [List.getD_eq_getElem?_getD (l := R0t), List.getElem?_eq_none_iff.mpr (by rw [R0t_len]; omega)]
    rfl
theorem RF.fill {F F' : Nat → Nat → Prop} {h : JH} (r : RF F h) (z1 : ∀ a k, F a k → F' a k) (z2 : ∀ a k, F' a k → ¬ F a k → R0 a k = none) : RF F' h := fun a k => by
  by_cases q : F a k
  · exact ⟨fun _ => (r a k).1 q, fun w => absurd (z1 a k q) w⟩
  · exact ⟨fun w => ((r a k).2 q).trans (z2 a k w q).symm, fun _ => (r a k).2 q⟩
theorem r0_x : R0 0 0 = some 1 ∧ R0 0 1 = some 2 ∧ R0 0 2 = some 3 ∧ R0 0 3 = some 13 ∧ R0 0 4 = some 40 ∧ R0 0 5 = some 41 ∧ R0 0 6 = some 44 ∧ R0 0 7 = some 48 ∧ R0 0 8 = some 54 ∧ R0 0 9 = some 96 := by decide +kernel
theorem r0_y : R0 44 0 = some 45 ∧ R0 44 2 = some 46 ∧ R0 44 3 = some 47 ∧ R0 48 0 = some 49 ∧ R0 48 1 = some 50 ∧ R0 48 2 = some 51 ∧ R0 48 3 = some 52 ∧ R0 48 4 = some 53 := by decide +kernel
/-- one more reference of the class itself -/
theorem RF_x0 {j m : Nat} {h : JH} {b : Nat} (r : RF (FG j m) h) (e : R0 0 j = some b) : RF (FG (j + 1) m) (sR h 0 j (some b)) := (r.sR e).up (fun x y => by unfold FG; omega)
theorem fl_7 {h : JH} (r : RF (FX7 (FG 2 3) 8) h) : RF (FG 2 13) h := r.fill (fun a k z => by unfold FX7 FG at *; omega) (fun a k z q => R0_n (by unfold Fz; unfold FX7 FG at *; omega))
theorem fl_8 {h : JH} (r : RF (FX8 (FG 3 13) 12 12) h) : RF (FG 3 40) h := r.fill (fun a k z => by unfold FX8 FG at *; omega) (fun a k z q => R0_n (by unfold Fz; unfold FX8 FG at *; omega))
theorem fl_4 {h : JH} (r : RF (FG 4 40) h) : RF (FG 4 41) h := r.fill (fun a k z => by unfold FG at *; omega) (fun a k z q => R0_n (by unfold Fz; unfold FG at *; omega))
theorem fl_1 {h : JH} (r : RF (fun x y => (FG 5 41 x y ∨ (x = 41 ∧ y = 0)) ∨ (x = 41 ∧ y = 1)) h) : RF (FG 5 44) h := r.fill (fun a k z => by unfold FG at *; omega) (fun a k z q => R0_n (by unfold Fz; unfold FG at *; omega))
theorem fl_0 {h : JH} (r : RF (FX0 (FG 8 54) 40) h) : RF (FG 8 96) h := r.fill (fun a k z => by unfold FX0 FG at *; omega) (fun a k z q => R0_n (by unfold Fz; unfold FX0 FG at *; omega))
theorem fl_9 {h : JH} (r : RF (FG 10 96) h) : RF (FG 10 97) h := r.fill (fun a k z => by unfold FG at *; omega) (fun a k z q => R0_n (by unfold Fz; unfold FG at *; omega))
theorem GI.zz {D a k : Nat} {h : JH} (g : GI D h) (z : I0 a k = 0) : GI D (sI h a k 0) := fun x y w => by
  by_cases q : x = a ∧ y = k
  · rw [sI_I, if_pos q, q.1, q.2, z]; split <;> rfl
  · rw [sI_I, if_neg q]; exact g x y w
theorem I0_z {a k : Nat} (h : a ≠ 3 ∧ a ≠ 42 ∧ ¬ (97 ≤ a ∧ a ≤ 115) ∧ a ≠ 117 ∧ a ≠ 119 ∧ a ≠ 122) : I0 a k = 0 := by
  unfold I0
  (repeat' split) <;> omega
/-- the night -/
theorem ex_4 {h : JH} (t : Tk 40 h) (r : RF (FG 4 40) h) (g : GI 40 h) : Tk 41 (sI (sI (sI (sI (sI (nw h 4 5) 40 0 0) 40 1 0) 40 2 0) 40 3 (-9)) 40 4 0) ∧ RF (FG 4 41) (sI (sI (sI (sI (sI (nw h 4 5) 40 0 0) 40 1 0) 40 2 0) 40 3 (-9)) 40 4 0) ∧ GI 41 (sI (sI (sI (sI (sI (nw h 4 5) 40 0 0) 40 1 0) 40 2 0) 40 3 (-9)) 40 4 0) := by
  have ir : ∀ k, Irr 40 k := fun k => Or.inr (Or.inl (by omega))
  have t1 : Tk 41 (nw h 4 5) := Tk_nw t (by decide) (by decide +kernel)
  have r1 : RF (FG 4 40) (nw h 4 5) := RF_nw r t (fun k => by unfold FG; omega)
  have g1 : GI 40 (nw h 4 5) := GI_nw g t (by decide)
  refine ⟨t1, fl_4 r1, ?_⟩
  exact (((((g1.ir (ir _)).ir (ir _)).ir (ir _)).ir (ir _)).ir (ir _)).up (fun a k h1 h2 => I0_z (by omega)) (by decide)
/-- the trunk -/
theorem ex_10 {h : JH} (t : Tk 45 h) (r : RF (FG 6 44) h) (g : GI 44 h) : Tk 48 (sR (nw (sR (nw (sI (sR (nw h 20 96) 44 0 (some 45)) 44 1 0) 20 8) 44 2 (some 46)) 20 256) 44 3 (some 47)) ∧ RF (FG 6 48) (sR (nw (sR (nw (sI (sR (nw h 20 96) 44 0 (some 45)) 44 1 0) 20 8) 44 2 (some 46)) 20 256) 44 3 (some 47)) ∧ GI 48 (sR (nw (sR (nw (sI (sR (nw h 20 96) 44 0 (some 45)) 44 1 0) 20 8) 44 2 (some 46)) 20 256) 44 3 (some 47)) := by
  have t1 : Tk 46 (sI (nwR h 20 96 44 0 45) 44 1 0) := nwR_T (a := 44) (k := 0) t (by decide) (by decide +kernel)
  have r1 := nwR_F (kind := 20) (n := 96) t r (fun k => by unfold FG; omega) r0_y.1
  have g1 : GI 44 (sI (nwR h 20 96 44 0 45) 44 1 0) := (nwR_G (kind := 20) (n := 96) (a := 44) (k := 0) t g (by decide)).z (by decide)
  have r1 : RF (fun x y => FG 6 44 x y ∨ (x = 44 ∧ y = 0)) (sI (nwR h 20 96 44 0 45) 44 1 0) := r1
  have e0 : sI (sR (nw h 20 96) 44 0 (some 45)) 44 1 0 = sI (nwR h 20 96 44 0 45) 44 1 0 := rfl
  rw [e0]
  generalize sI (nwR h 20 96 44 0 45) 44 1 0 = h1 at *
  have t2 : Tk 47 (nwR h1 20 8 44 2 46) := nwR_T t1 (by decide) (by decide +kernel)
  have r2 := nwR_F (kind := 20) (n := 8) t1 r1 (fun k => by unfold FG; omega) r0_y.2.1
  have g2 : GI 44 (nwR h1 20 8 44 2 46) := nwR_G t1 g1 (by decide)
  have e1 : sR (nw h1 20 8) 44 2 (some 46) = nwR h1 20 8 44 2 46 := rfl
  rw [e1]
  generalize nwR h1 20 8 44 2 46 = h2 at *
  have t3 : Tk 48 (nwR h2 20 256 44 3 47) := nwR_T t2 (by decide) (by decide +kernel)
  have r3 := nwR_F (kind := 20) (n := 256) t2 r2 (fun k => by unfold FG; omega) r0_y.2.2.1
  have g3 : GI 44 (nwR h2 20 256 44 3 47) := nwR_G t2 g2 (by decide)
  refine ⟨t3, r3.fill (fun a k z => by unfold FG at *; omega) (fun a k z q => ?_), g3.up (fun a k h1 h2 => I0_z (by omega)) (by decide)⟩
  exact R0_n (by unfold Fz; unfold FG at *; omega)
/-- the signs -/
theorem ex_6 {h : JH} (t : Tk 49 h) (r : RF (FG 7 48) h) (g : GI 48 h) : Tk 54 (sI (nwR (nwR (nwR (nwR (nwR h 20 8 48 0 49) 20 64 48 1 50) 20 8 48 2 51) 20 64 48 3 52) 21 64 48 4 53) 48 5 0) ∧ RF (FG 7 54) (sI (nwR (nwR (nwR (nwR (nwR h 20 8 48 0 49) 20 64 48 1 50) 20 8 48 2 51) 20 64 48 3 52) 21 64 48 4 53) 48 5 0) ∧ GI 54 (sI (nwR (nwR (nwR (nwR (nwR h 20 8 48 0 49) 20 64 48 1 50) 20 8 48 2 51) 20 64 48 3 52) 21 64 48 4 53) 48 5 0) := by
  have t1 : Tk 50 (nwR h 20 8 48 0 49) := nwR_T t (by decide) (by decide +kernel)
  have r1 := nwR_F (kind := 20) (n := 8) t r (fun k => by unfold FG; omega) r0_y.2.2.2.1
  have g1 : GI 48 (nwR h 20 8 48 0 49) := nwR_G t g (by decide)
  generalize nwR h 20 8 48 0 49 = h1 at *
  have t2 : Tk 51 (nwR h1 20 64 48 1 50) := nwR_T t1 (by decide) (by decide +kernel)
  have r2 := nwR_F (kind := 20) (n := 64) t1 r1 (fun k => by unfold FG; omega) r0_y.2.2.2.2.1
  have g2 : GI 48 (nwR h1 20 64 48 1 50) := nwR_G t1 g1 (by decide)
  generalize nwR h1 20 64 48 1 50 = h2 at *
  have t3 : Tk 52 (nwR h2 20 8 48 2 51) := nwR_T t2 (by decide) (by decide +kernel)
  have r3 := nwR_F (kind := 20) (n := 8) t2 r2 (fun k => by unfold FG; omega) r0_y.2.2.2.2.2.1
  have g3 : GI 48 (nwR h2 20 8 48 2 51) := nwR_G t2 g2 (by decide)
  generalize nwR h2 20 8 48 2 51 = h3 at *
  have t4 : Tk 53 (nwR h3 20 64 48 3 52) := nwR_T t3 (by decide) (by decide +kernel)
  have r4 := nwR_F (kind := 20) (n := 64) t3 r3 (fun k => by unfold FG; omega) r0_y.2.2.2.2.2.2.1
  have g4 : GI 48 (nwR h3 20 64 48 3 52) := nwR_G t3 g3 (by decide)
  generalize nwR h3 20 64 48 3 52 = h4 at *
  have t5 : Tk 54 (nwR h4 21 64 48 4 53) := nwR_T t4 (by decide) (by decide +kernel)
  have r5 := nwR_F (kind := 21) (n := 64) t4 r4 (fun k => by unfold FG; omega) r0_y.2.2.2.2.2.2.2
  have g5 : GI 48 (nwR h4 21 64 48 4 53) := nwR_G t4 g4 (by decide)
  have r5' := r5.fill (F' := FG 7 54) (fun a k z => by unfold FG at *; omega) (fun a k z q => R0_n (by unfold Fz; unfold FG at *; omega))
  exact ⟨t5, r5', (g5.z (by decide)).up (fun a k h1 h2 => I0_z (by omega)) (by decide)⟩
/-- the strips -/
def FS (i j x y : Nat) : Prop := FG 10 (97 + 2 * i + 2 * j) x y ∨ (x = 1 ∧ y < i) ∨ (x = 2 ∧ y < j)
theorem GI.st {D : Nat} {h : JH} (g : GI D h) (hD : D % 2 = 1 ∧ 97 ≤ D ∧ D ≤ 115) : GI (D + 2) (sI h D 1 (-1)) := fun x y w => by
  by_cases q : x = D ∧ y = 1
  · rw [sI_I, if_pos q, if_pos (by omega)]
    unfold I0
    rw [if_neg (by omega), if_neg (by omega), if_pos (by omega)]
  · rw [sI_I, if_neg q, g x y w]
    by_cases q1 : x < D
    · rw [if_pos q1, if_pos (by omega)]
    · rw [if_neg q1]
      by_cases q2 : x < D + 2
      · rw [if_pos q2]
        unfold I0
        (repeat' split) <;> omega
      · rw [if_neg q2]
def spI (h : JH) (a : Nat) : JH := sI (sR (nw (nw h 9 2) 20 60) a 0 (some (a + 1))) a 1 (-1)
theorem ex_9 {h : JH} {F : Nat → Nat → Prop} {s : Nat} (hs : s < 10) (hF : ∀ x y, 97 + 2 * s ≤ x → ¬ F x y) (t : Tk (97 + 2 * s) h) (r : RF F h) (g : GI (97 + 2 * s) h) : Tk (99 + 2 * s) (spI h (97 + 2 * s)) ∧ RF (fun x y => F x y ∨ (97 + 2 * s ≤ x ∧ x < 99 + 2 * s)) (spI h (97 + 2 * s)) ∧ GI (99 + 2 * s) (spI h (97 + 2 * s)) ∧ (∀ k, hJ (spI h (97 + 2 * s)) 0 k = hJ h 0 k) := by
  have sh := sh_strip s hs
  have t1 : Tk (97 + 2 * s + 1) (nw h 9 2) := Tk_nw t (by omega) sh.1
  have t1 : Tk (98 + 2 * s) (nw h 9 2) := by rw [show 98 + 2 * s = 97 + 2 * s + 1 by omega]; exact t1
  have r1 : RF F (nw h 9 2) := RF_nw r t (fun k => hF _ _ (by omega))
  have g1 : GI (97 + 2 * s) (nw h 9 2) := GI_nw g t (by omega)
  have j1 : ∀ k, hJ (nw h 9 2) 0 k = hJ h 0 k := fun k => by
    have e : hJ (nw h 9 2) 0 k = if 0 = h.1.length then 0 else hJ h 0 k := rfl
    rw [e, t.len, if_neg (by omega)]
  unfold spI
  generalize nw h 9 2 = h1 at *
  have t2 : Tk (98 + 2 * s + 1) (nw h1 20 60) := Tk_nw t1 (by omega) sh.2.1
  have r2 : RF F (nw h1 20 60) := RF_nw r1 t1 (fun k => hF _ _ (by omega))
  have g2 : GI (97 + 2 * s) (nw h1 20 60) := GI_nw g1 t1 (by omega)
  have j2 : ∀ k, hJ (nw h1 20 60) 0 k = hJ h 0 k := fun k => by
    have e : hJ (nw h1 20 60) 0 k = if 0 = h1.1.length then 0 else hJ h1 0 k := rfl
    rw [e, t1.len, if_neg (by omega)]; exact j1 k
  generalize nw h1 20 60 = h2 at *
  have r3 := r2.sR (show R0 (97 + 2 * s) 0 = some (97 + 2 * s + 1) by rw [sh.2.2]; congr 1; omega)
  have g3 : GI (97 + 2 * s) (sR h2 (97 + 2 * s) 0 (some (97 + 2 * s + 1))) := g2
  have g4 := g3.st (by omega)
  refine ⟨?_, ?_, ?_, j2⟩
  · rw [show 99 + 2 * s = 98 + 2 * s + 1 by omega]; exact t2
  · refine RF.fill (h := sI (sR h2 (97 + 2 * s) 0 (some (97 + 2 * s + 1))) (97 + 2 * s) 1 (-1)) r3 (fun a k z => ?_) (fun a k z q => ?_)
    · rcases z with z | z
      · exact Or.inl z
      · exact Or.inr (by omega)
    · rcases z with z | z
      · exact absurd (Or.inl z) q
      · have q2 : ¬ (a = 97 + 2 * s ∧ k = 0) := fun w => q (Or.inr w)
        exact R0_n (by unfold Fz; omega)
  · rw [show 99 + 2 * s = 97 + 2 * s + 2 by omega]; exact g4

