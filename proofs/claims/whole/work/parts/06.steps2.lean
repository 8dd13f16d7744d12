/-! rows of the plain machine: rests of longs, stores, joins, returns -/
theorem lrem_eq_mod (x y : Int64) : x - (x / y) * y = x % y := by
  apply Int64.toInt_inj.mp
  rw [Int64.toInt_mod, Int64.toInt_sub, Int64.toInt_mul, Int64.toInt_div]
  have h : x.toInt.tmod y.toInt = x.toInt - y.toInt * x.toInt.tdiv y.toInt := Int.tmod_def _ _
  have hr : (x.toInt.tmod y.toInt).bmod (2 ^ 64) = x.toInt.tmod y.toInt := by
    rw [← Int64.toInt_mod, ← Int64.toInt_ofInt, Int64.ofInt_toInt]
  rw [Int.bmod_mul_bmod, Int.sub_bmod_bmod, Int.mul_comm, ← h, hr]
theorem st_lrem {κ : JK} {d : Nat} {y : JM} {pc q : Nat} {ls st : List JV} {h : JH} {Q : Option JV → JH → Prop} {a b : Int} (hd : decode y.2.1 pc = .ok (.lrem, 1)) (hb0 : b ≠ 0) (hq : pc + 1 = q) (k : JAt κ d y q ls (vl (a.tmod b) :: st) h Q) : JAt κ d y pc ls (vl b :: vl a :: st) h Q := by
  subst hq
  refine JAt.stk k (fun o _ => ok_c (show r64 (a.tmod b) from tm_r64 (ok_h (ok_t o)) hb0) (ok_t (ok_t o))) (fun p l e R s m args below meth c H locs cells slots Qw lsA ad hx hb _ _ o _ kk => ?_)
  have ra : r64 a := ok_h (ok_t o)
  have rb : r64 b := ok_h o
  have e : Int64.ofInt (a.tmod b) = Int64.ofInt a - Int64.ofInt a / Int64.ofInt b * Int64.ofInt b := by
    apply Int64.toInt_inj.mp
    rw [lrem_eq_mod, Int64.toInt_mod, ol_to ra, ol_to rb]
    exact ol_to (tm_r64 ra hb0)
  refine lv_lrem hx hb hd (fun q => hb0 ?_) ?_
  · exact (ol_eq rb ⟨by decide, by decide⟩).mp q
  · rw [← e]; exact kk
/-! stores -/
def clr : JV → JV
  | .inl (.inr _) => vn
  | v => v
def lst1 : List JV → Nat → JV → List JV
  | [], _, _ => []
  | _ :: xs, 0, v => v :: xs
  | x :: xs, 1, v => clr x :: lst1 xs 0 v
  | x :: xs, i + 2, v => x :: lst1 xs (i + 1) v
def lst2 : List JV → Nat → JV → List JV
  | [], _, _ => []
  | [_], 0, v => [v]
  | _ :: _ :: xs, 0, v => v :: vn :: xs
  | x :: xs, 1, v => clr x :: lst2 xs 0 v
  | x :: xs, i + 2, v => x :: lst2 xs (i + 1) v
theorem lst1_at : ∀ (ls : List JV) (i : Nat) (v : JV) (j : Nat) (w : JV), (lst1 ls i v)[j]? = some w → w ≠ vn → (j = i ∧ w = v) ∨ (j ≠ i ∧ ls[j]? = some w ∧ ¬ (j + 1 = i ∧ jcat w = 2))
  | [], _, _, j, w, h, _ => by simp [lst1] at h
  | x :: xs, 0, v, 0, w, h, _ => by simp [lst1] at h; exact Or.inl ⟨rfl, h.symm⟩
  | x :: xs, 0, v, j + 1, w, h, _ => by simp [lst1] at h; exact Or.inr ⟨by omega, by simpa using h, by omega⟩
  | x :: xs, 1, v, 0, w, h, hn => by
    simp [lst1] at h
    rcases x with (x | x) | (_ | a)
    · refine Or.inr ⟨by omega, by simpa [clr] using h, fun q => ?_⟩; subst h; simp [clr, jcat] at q
    · exact absurd h.symm hn
    · exact absurd h.symm hn
    · refine Or.inr ⟨by omega, by simpa [clr] using h, fun q => ?_⟩; subst h; simp [clr, jcat] at q
  | x :: xs, 1, v, j + 1, w, h, hn => by
    have h : (lst1 xs 0 v)[j]? = some w := by simpa [lst1] using h
    rcases lst1_at xs 0 v j w h hn with q | ⟨q1, q2, q3⟩
    · exact Or.inl ⟨by omega, q.2⟩
    · exact Or.inr ⟨by omega, by simpa using q2, fun z => by omega⟩
  | x :: xs, i + 2, v, 0, w, h, hn => by
    have h : x = w := by simpa [lst1] using h
    exact Or.inr ⟨by omega, by simpa using h, by omega⟩
  | x :: xs, i + 2, v, j + 1, w, h, hn => by
    have h : (lst1 xs (i + 1) v)[j]? = some w := by simpa [lst1] using h
    rcases lst1_at xs (i + 1) v j w h hn with q | ⟨q1, q2, q3⟩
    · exact Or.inl ⟨by omega, q.2⟩
    · exact Or.inr ⟨by omega, by simpa using q2, fun z => q3 ⟨by omega, z.2⟩⟩
theorem lst2_at : ∀ (ls : List JV) (i : Nat) (v : JV) (j : Nat) (w : JV), (lst2 ls i v)[j]? = some w → w ≠ vn → (j = i ∧ w = v) ∨ (j ≠ i ∧ j ≠ i + 1 ∧ ls[j]? = some w ∧ ¬ (j + 1 = i ∧ jcat w = 2))
  | [], _, _, j, w, h, _ => by simp [lst2] at h
  | [x], 0, v, 0, w, h, _ => by simp [lst2] at h; exact Or.inl ⟨rfl, h.symm⟩
  | [x], 0, v, j + 1, w, h, _ => by simp [lst2] at h
  | x :: z :: xs, 0, v, 0, w, h, _ => by simp [lst2] at h; exact Or.inl ⟨rfl, h.symm⟩
  | x :: z :: xs, 0, v, 1, w, h, hn => by simp [lst2] at h; exact absurd h.symm hn
  | x :: z :: xs, 0, v, j + 2, w, h, _ => by simp [lst2] at h; exact Or.inr ⟨by omega, by omega, by simpa using h, by omega⟩
  | x :: xs, 1, v, 0, w, h, hn => by
    have h : clr x = w := by simpa [lst2] using h
    rcases x with (x | x) | (_ | a)
    · refine Or.inr ⟨by omega, by omega, by simpa [clr] using h, fun q => ?_⟩; subst h; simp [clr, jcat] at q
    · exact absurd h.symm hn
    · exact absurd h.symm hn
    · refine Or.inr ⟨by omega, by omega, by simpa [clr] using h, fun q => ?_⟩; subst h; simp [clr, jcat] at q
  | x :: xs, 1, v, j + 1, w, h, hn => by
    have h : (lst2 xs 0 v)[j]? = some w := by simpa [lst2] using h
    rcases lst2_at xs 0 v j w h hn with q | ⟨q1, q4, q2, q3⟩
    · exact Or.inl ⟨by omega, q.2⟩
    · exact Or.inr ⟨by omega, by omega, by simpa using q2, fun z => by omega⟩
  | x :: xs, i + 2, v, 0, w, h, hn => by
    have h : x = w := by simpa [lst2] using h
    exact Or.inr ⟨by omega, by omega, by simpa using h, by omega⟩
  | x :: xs, i + 2, v, j + 1, w, h, hn => by
    have h : (lst2 xs (i + 1) v)[j]? = some w := by simpa [lst2] using h
    rcases lst2_at xs (i + 1) v j w h hn with q | ⟨q1, q4, q2, q3⟩
    · exact Or.inl ⟨by omega, q.2⟩
    · exact Or.inr ⟨by omega, by omega, by simpa using q2, fun z => q3 ⟨by omega, z.2⟩⟩
theorem lst1_ok {n : Nat} {ls : List JV} {i : Nat} {v : JV} (o : ∀ w ∈ ls, okv n w) (hv : okv n v) : ∀ w ∈ lst1 ls i v, okv n w := by
  intro w hw
  obtain ⟨j, hj⟩ := List.mem_iff_getElem?.mp hw
  by_cases e : w = vn
  · subst e; exact trivial
  · rcases lst1_at ls i v j w hj e with q | ⟨-, q, -⟩
    · rw [q.2]; exact hv
    · exact o w (List.mem_of_getElem? q)
theorem lst2_ok {n : Nat} {ls : List JV} {i : Nat} {v : JV} (o : ∀ w ∈ ls, okv n w) (hv : okv n v) : ∀ w ∈ lst2 ls i v, okv n w := by
  intro w hw
  obtain ⟨j, hj⟩ := List.mem_iff_getElem?.mp hw
  by_cases e : w = vn
  · subst e; exact trivial
  · rcases lst2_at ls i v j w hj e with q | ⟨-, -, q, -⟩
    · rw [q.2]; exact hv
    · exact o w (List.mem_of_getElem? q)
/-- the known locals as pairs -/
def jas1 (ad : Nat → Nat) (i : Nat) : Option JV → Option (Nat × Value)
  | some (Sum.inr none) => none
  | some v => some (i, cvv ad v)
  | none => none
def jas (ad : Nat → Nat) (ls : List JV) : List (Nat × Value) := (List.range ls.length).filterMap (fun i => jas1 ad i ls[i]?)
theorem jas_mem {ad : Nat → Nat} {ls : List JV} {i : Nat} {v : JV} (h : ls[i]? = some v) (hn : v ≠ vn) : (i, cvv ad v) ∈ jas ad ls := by
  unfold jas
  rw [List.mem_filterMap]
  refine ⟨i, List.mem_range.mpr (List.getElem?_eq_some_iff.mp h).1, ?_⟩
  rw [h]
  rcases v with (x | x) | (_ | a)
  · rfl
  · rfl
  · exact absurd rfl hn
  · rfl
theorem jas_of {ad : Nat → Nat} {ls : List JV} {q : Nat × Value} (h : q ∈ jas ad ls) : ∃ v, ls[q.1]? = some v ∧ v ≠ vn ∧ q.2 = cvv ad v := by
  unfold jas at h
  obtain ⟨i, hi, e⟩ := List.mem_filterMap.mp h
  generalize hv : ls[i]? = o at e
  rcases o with _ | (x | x) | (_ | a)
  · cases e
  · cases e; exact ⟨_, hv, (fun q => by cases q), rfl⟩
  · cases e; exact ⟨_, hv, (fun q => by cases q), rfl⟩
  · cases e
  · cases e; exact ⟨_, hv, (fun q => by cases q), rfl⟩
theorem JL.has {ad : Nat → Nat} {lsA : Array Slot} {nL : Nat} {ls : List JV} (L : JL ad lsA nL ls) : lv_has lsA nL (jas ad ls) := by
  refine ⟨L.1, L.2.1, fun q hq => ?_⟩
  obtain ⟨v, h1, h2, h3⟩ := jas_of hq
  rw [h3]
  exact L.2.2 _ _ h1 h2
theorem JL.put1 {ad : Nat → Nat} {lsA : Array Slot} {nL i : Nat} {ls : List JV} {v : JV} (h : lv_has lsA nL ((i, cvv ad v) :: (jas ad ls).filter (fun q => !(q.1 == i) && !(q.1 + 1 == i && q.2.category == 2)))) : JL ad lsA nL (lst1 ls i v) := by
  refine ⟨h.1, h.2.1, fun j w hj hn => ?_⟩
  rcases lst1_at ls i v j w hj hn with q | ⟨q1, q2, q3⟩
  · rw [q.1, q.2]; exact h.2.2 _ List.mem_cons_self
  · refine h.2.2 (j, cvv ad w) (List.mem_cons_of_mem _ (List.mem_filter.mpr ⟨jas_mem q2 hn, ?_⟩))
    have e := jcat_e ad w
    by_cases z : j + 1 = i
    · have : ¬ jcat w = 2 := fun t => q3 ⟨z, t⟩
      simp [q1, e, this]
    · simp [q1, z]
theorem JL.put2 {ad : Nat → Nat} {lsA : Array Slot} {nL i : Nat} {ls : List JV} {v : JV} (h : lv_has lsA nL ((i, cvv ad v) :: (jas ad ls).filter (fun q => !(q.1 == i) && (!(q.1 == i + 1) && !(q.1 + 1 == i && q.2.category == 2))))) : JL ad lsA nL (lst2 ls i v) := by
  refine ⟨h.1, h.2.1, fun j w hj hn => ?_⟩
  rcases lst2_at ls i v j w hj hn with q | ⟨q1, q4, q2, q3⟩
  · rw [q.1, q.2]; exact h.2.2 _ List.mem_cons_self
  · refine h.2.2 (j, cvv ad w) (List.mem_cons_of_mem _ (List.mem_filter.mpr ⟨jas_mem q2 hn, ?_⟩))
    have e := jcat_e ad w
    by_cases z : j + 1 = i
    · have : ¬ jcat w = 2 := fun t => q3 ⟨z, t⟩
      simp [q1, q4, e, this]
    · simp [q1, q4, z]
theorem st_istore_n {κ : JK} {d : Nat} {y : JM} {pc q : Nat} {ls st : List JV} {h : JH} {Q : Option JV → JH → Prop} {k : Fin 4} {i : Nat} {x : Int} (hd : decode y.2.1 pc = .ok (.istore_n k, 1)) (hi : (k : Nat) = i) (hn : i < y.2.2.1) (hq : pc + 1 = q) (kk : JAt κ d y q (lst1 ls i (vi x)) st h Q) : JAt κ d y pc ls (vi x :: st) h Q := by
  subst hq
  intro p l e s m args below meth c D cA A n0 ad0 C ad H locs lsA P
  refine lv_istore_n C.1 C.2.1 hd hi (P.2.2.2.2.2.2.2.2.has) hn rfl (fun ls' hl => ?_)
  exact kk p l e s m args below meth c D cA A n0 ad0 C ad H locs ls' ⟨P.1, ok_t P.2.1, lst1_ok P.2.2.1 (ok_h P.2.1), P.2.2.2.1, P.2.2.2.2.1, P.2.2.2.2.2.1, P.2.2.2.2.2.2.1, P.2.2.2.2.2.2.2.1, JL.put1 hl⟩
theorem st_istore {κ : JK} {d : Nat} {y : JM} {pc q : Nat} {ls st : List JV} {h : JH} {Q : Option JV → JH → Prop} {i : Nat} {x : Int} (hd : decode y.2.1 pc = .ok (.istore i, 2)) (hn : i < y.2.2.1) (hq : pc + 2 = q) (kk : JAt κ d y q (lst1 ls i (vi x)) st h Q) : JAt κ d y pc ls (vi x :: st) h Q := by
  subst hq
  intro p l e s m args below meth c D cA A n0 ad0 C ad H locs lsA P
  refine lv_istore C.1 C.2.1 hd (P.2.2.2.2.2.2.2.2.has) hn rfl (fun ls' hl => ?_)
  exact kk p l e s m args below meth c D cA A n0 ad0 C ad H locs ls' ⟨P.1, ok_t P.2.1, lst1_ok P.2.2.1 (ok_h P.2.1), P.2.2.2.1, P.2.2.2.2.1, P.2.2.2.2.2.1, P.2.2.2.2.2.2.1, P.2.2.2.2.2.2.2.1, JL.put1 hl⟩
theorem st_lstore_n {κ : JK} {d : Nat} {y : JM} {pc q : Nat} {ls st : List JV} {h : JH} {Q : Option JV → JH → Prop} {k : Fin 4} {i : Nat} {x : Int} (hd : decode y.2.1 pc = .ok (.lstore_n k, 1)) (hi : (k : Nat) = i) (hn : i + 1 < y.2.2.1) (hq : pc + 1 = q) (kk : JAt κ d y q (lst2 ls i (vl x)) st h Q) : JAt κ d y pc ls (vl x :: st) h Q := by
  subst hq
  intro p l e s m args below meth c D cA A n0 ad0 C ad H locs lsA P
  refine lv_lstore_n C.1 C.2.1 hd hi (P.2.2.2.2.2.2.2.2.has) hn rfl (fun ls' hl => ?_)
  exact kk p l e s m args below meth c D cA A n0 ad0 C ad H locs ls' ⟨P.1, ok_t P.2.1, lst2_ok P.2.2.1 (ok_h P.2.1), P.2.2.2.1, P.2.2.2.2.1, P.2.2.2.2.2.1, P.2.2.2.2.2.2.1, P.2.2.2.2.2.2.2.1, JL.put2 hl⟩
theorem st_lstore {κ : JK} {d : Nat} {y : JM} {pc q : Nat} {ls st : List JV} {h : JH} {Q : Option JV → JH → Prop} {i : Nat} {x : Int} (hd : decode y.2.1 pc = .ok (.lstore i, 2)) (hn : i + 1 < y.2.2.1) (hq : pc + 2 = q) (kk : JAt κ d y q (lst2 ls i (vl x)) st h Q) : JAt κ d y pc ls (vl x :: st) h Q := by
  subst hq
  intro p l e s m args below meth c D cA A n0 ad0 C ad H locs lsA P
  refine lv_lstore C.1 C.2.1 hd (P.2.2.2.2.2.2.2.2.has) hn rfl (fun ls' hl => ?_)
  exact kk p l e s m args below meth c D cA A n0 ad0 C ad H locs ls' ⟨P.1, ok_t P.2.1, lst2_ok P.2.2.1 (ok_h P.2.1), P.2.2.2.1, P.2.2.2.2.1, P.2.2.2.2.2.1, P.2.2.2.2.2.2.1, P.2.2.2.2.2.2.2.1, JL.put2 hl⟩
theorem st_astore_n {κ : JK} {d : Nat} {y : JM} {pc q : Nat} {ls st : List JV} {h : JH} {Q : Option JV → JH → Prop} {k : Fin 4} {i : Nat} {x : Nat} (hd : decode y.2.1 pc = .ok (.astore_n k, 1)) (hi : (k : Nat) = i) (hn : i < y.2.2.1) (hq : pc + 1 = q) (kk : JAt κ d y q (lst1 ls i (vr x)) st h Q) : JAt κ d y pc ls (vr x :: st) h Q := by
  subst hq
  intro p l e s m args below meth c D cA A n0 ad0 C ad H locs lsA P
  refine lv_astore_n C.1 C.2.1 hd hi (P.2.2.2.2.2.2.2.2.has) hn rfl (fun ls' hl => ?_)
  exact kk p l e s m args below meth c D cA A n0 ad0 C ad H locs ls' ⟨P.1, ok_t P.2.1, lst1_ok P.2.2.1 (ok_h P.2.1), P.2.2.2.1, P.2.2.2.2.1, P.2.2.2.2.2.1, P.2.2.2.2.2.2.1, P.2.2.2.2.2.2.2.1, JL.put1 hl⟩
theorem st_astore {κ : JK} {d : Nat} {y : JM} {pc q : Nat} {ls st : List JV} {h : JH} {Q : Option JV → JH → Prop} {i : Nat} {x : Nat} (hd : decode y.2.1 pc = .ok (.astore i, 2)) (hn : i < y.2.2.1) (hq : pc + 2 = q) (kk : JAt κ d y q (lst1 ls i (vr x)) st h Q) : JAt κ d y pc ls (vr x :: st) h Q := by
  subst hq
  intro p l e s m args below meth c D cA A n0 ad0 C ad H locs lsA P
  refine lv_astore C.1 C.2.1 hd (P.2.2.2.2.2.2.2.2.has) hn rfl (fun ls' hl => ?_)
  exact kk p l e s m args below meth c D cA A n0 ad0 C ad H locs ls' ⟨P.1, ok_t P.2.1, lst1_ok P.2.2.1 (ok_h P.2.1), P.2.2.2.1, P.2.2.2.2.1, P.2.2.2.2.2.1, P.2.2.2.2.2.2.1, P.2.2.2.2.2.2.2.1, JL.put1 hl⟩
theorem st_iinc {κ : JK} {d : Nat} {y : JM} {pc q : Nat} {ls st : List JV} {h : JH} {Q : Option JV → JH → Prop} {i : Nat} {n x : Int} (hd : decode y.2.1 pc = .ok (.iinc i n, 3)) (hl : ls[i]? = some (vi x)) (hn : i < y.2.2.1) (hq : pc + 3 = q) (kk : JAt κ d y q (lst1 ls i (vi (w32 (x + n)))) st h Q) : JAt κ d y pc ls st h Q := by
  subst hq
  intro p l e s m args below meth c D cA A n0 ad0 C ad H locs lsA P
  obtain ⟨j, hj⟩ := List.mem_iff_getElem?.mp (jas_mem (ad := ad) hl (by intro q; cases q))
  refine lv_iinc (v := Int32.ofInt (w32 (x + n))) C.1 C.2.1 hd (P.2.2.2.2.2.2.2.2.has) hj (by rw [oi_w32, Int32.ofInt_add]) hn rfl (fun ls' hl => ?_)
  exact kk p l e s m args below meth c D cA A n0 ad0 C ad H locs ls' ⟨P.1, P.2.1, lst1_ok P.2.2.1 (show r32 (w32 (x + n)) from w32_r _), P.2.2.2.1, P.2.2.2.2.1, P.2.2.2.2.2.1, P.2.2.2.2.2.2.1, P.2.2.2.2.2.2.2.1, JL.put1 (v := vi (w32 (x + n))) hl⟩
/-- two ways that come together with another number on the stack -/
theorem j_mrg {κ : JK} {d : Nat} {y : JM} {pc q : Nat} {ls st : List JV} {h : JH} {Q : Option JV → JH → Prop} {c : Prop} [Decidable c] {pj : Nat} {ls' st' : List JV} {x z : Int} (f : (c → JAt κ d y pj ls' (vi x :: st') h Q) → (¬ c → JAt κ d y pj ls' (vi z :: st') h Q) → JAt κ d y pc ls st h Q) (k : JAt κ d y pj ls' (vi (if c then x else z) :: st') h Q) : JAt κ d y pc ls st h Q := f (fun hc => by rw [if_pos hc] at k; exact k) (fun hc => by rw [if_neg hc] at k; exact k)
/-! returns -/
theorem st_ireturn {κ : JK} {d : Nat} {y : JM} {pc : Nat} {ls : List JV} {h : JH} {Q : Option JV → JH → Prop} {x : Int} (hd : decode y.2.1 pc = .ok (.ireturn, 1)) (hr : y.2.2.2 = some .int ∨ (y.2.2.2 = some .boolean ∧ (x = 0 ∨ x = 1))) (hκ : κ.2.2.1 ≤ κ.1 ∧ κ.2.2.2 ≤ κ.2.1) (k : Q (some (vi x)) h) : JAt κ d y pc ls [vi x] h Q := by
  intro p l e s m args below meth c D cA A n0 ad0 C ad H locs lsA P
  refine W.widen hκ.1 hκ.2 ?_
  have hlocks := C.2.2.2.2.1
  have hq : ∀ t : State, t.heap = H → s.WarmedH t.vm → JQ Q n0 ad0 D cA A args s (.returned (some (.int (Int32.ofInt x)))) t := fun t ht _ => ⟨⟨some (vi x), h, ad, rfl, k, P.1, fun v hv => by cases hv; exact ok_h P.2.1, P.2.2.2.2.2.2.1, P.2.2.2.2.2.2.2.1, by rw [ht]; exact P.2.2.2.1, P.2.2.2.2.1⟩, P.2.2.2.2.2.1.F ht⟩
  rcases hr with hr | ⟨hr, hx⟩
  · exact W.iret (v := Int32.ofInt x) C.1 C.2.1 (C.2.2.2.1.trans hr) hq P.2.2.2.2.2.1.2.2 hd
  · refine W.zret (v := Int32.ofInt x) C.1 C.2.1 (C.2.2.2.1.trans hr) ?_ hq P.2.2.2.2.2.1.2.2 hd
    rcases hx with rfl | rfl <;> decide
theorem st_lreturn {κ : JK} {d : Nat} {y : JM} {pc : Nat} {ls : List JV} {h : JH} {Q : Option JV → JH → Prop} {x : Int} (hd : decode y.2.1 pc = .ok (.lreturn, 1)) (hr : y.2.2.2 = some .long) (hκ : κ.2.2.1 ≤ κ.1 ∧ κ.2.2.2 ≤ κ.2.1) (k : Q (some (vl x)) h) : JAt κ d y pc ls [vl x] h Q := by
  intro p l e s m args below meth c D cA A n0 ad0 C ad H locs lsA P
  refine W.widen hκ.1 hκ.2 ?_
  have hlocks := C.2.2.2.2.1
  exact W.lret (v := Int64.ofInt x) C.1 C.2.1 (C.2.2.2.1.trans hr) (fun t ht _ => ⟨⟨some (vl x), h, ad, rfl, k, P.1, fun v hv => by cases hv; exact ok_h P.2.1, P.2.2.2.2.2.2.1, P.2.2.2.2.2.2.2.1, by rw [ht]; exact P.2.2.2.1, P.2.2.2.2.1⟩, P.2.2.2.2.2.1.F ht⟩) P.2.2.2.2.2.1.2.2 hd
theorem st_return {κ : JK} {d : Nat} {y : JM} {pc : Nat} {ls : List JV} {h : JH} {Q : Option JV → JH → Prop} (hd : decode y.2.1 pc = .ok (.return_, 1)) (hr : y.2.2.2 = none) (hκ : κ.2.2.1 ≤ κ.1 ∧ κ.2.2.2 ≤ κ.2.1) (k : Q none h) : JAt κ d y pc ls [] h Q := by
  intro p l e s m args below meth c D cA A n0 ad0 C ad H locs lsA P
  refine W.widen hκ.1 hκ.2 ?_
  have hlocks := C.2.2.2.2.1
  exact W.vret C.1 C.2.1 (C.2.2.2.1.trans hr) (fun t ht _ => ⟨⟨none, h, ad, rfl, k, P.1, (fun v hv => by cases hv), P.2.2.2.2.2.2.1, P.2.2.2.2.2.2.2.1, by rw [ht]; exact P.2.2.2.1, P.2.2.2.2.1⟩, P.2.2.2.2.2.1.F ht⟩) P.2.2.2.2.2.1.2.2 hd
