/-! rows of the plain machine: constants, locals, stack, arithmetic, branches -/
theorem ok_c {n : Nat} {v : JV} {st : List JV} (h1 : okv n v) (h2 : ∀ w ∈ st, okv n w) : ∀ w ∈ v :: st, okv n w := fun w hw => (List.mem_cons.mp hw).elim (fun e => e ▸ h1) (h2 w)
theorem ok_t {n : Nat} {v : JV} {st : List JV} (h2 : ∀ w ∈ v :: st, okv n w) : ∀ w ∈ st, okv n w := fun w hw => h2 w (List.mem_cons_of_mem _ hw)
theorem ok_h {n : Nat} {v : JV} {st : List JV} (h2 : ∀ w ∈ v :: st, okv n w) : okv n v := h2 v List.mem_cons_self
theorem ok_at {n : Nat} {v : JV} {ls : List JV} {i : Nat} (h2 : ∀ w ∈ ls, okv n w) (h : ls[i]? = some v) : okv n v := h2 v (List.mem_of_getElem? h)
theorem JAt.stk {κ : JK} {d : Nat} {y : JM} {pc q : Nat} {ls st st' : List JV} {h : JH} {Q : Option JV → JH → Prop} (k : JAt κ d y q ls st' h Q) (hok : (∀ v ∈ st, okv h.1.length v) → (∀ v ∈ ls, okv h.1.length v) → ∀ v ∈ st', okv h.1.length v)
    (hw : ∀ (p : Program) (l : Launch) (e : Env) (R : Room) (s : State) (m : MethodId) (args : Array Value) (below : List Frame) (meth : Method) (c : Code) (H : Heap) (locs : List Loc) (cells slots : Nat) (Qw : State → Prop) (lsA : Array Slot) (ad : Nat → Nat), p.tables.exec = Jvm.exec → c.code = y.2.1 → s.vm.findClass y.1.cls = some m.cls → (∀ w ∈ jw y, w.before args s = true) → (∀ v ∈ st, okv h.1.length v) → JL ad lsA y.2.2.1 ls →
      W p l e R s m args below meth c H locs cells slots Qw (F0 m q lsA (st'.map (cvv ad))) → W p l e R s m args below meth c H locs cells slots Qw (F0 m pc lsA (st.map (cvv ad)))) : JAt κ d y pc ls st h Q := by
  intro p l e s m args below meth c D cA A n0 ad0 C ad H locs lsA P
  refine hw p l e _ s m args below meth c H locs _ _ _ lsA ad C.1 C.2.1 C.2.2.2.2.2.1 C.2.2.2.2.2.2.2.1 P.2.1 P.2.2.2.2.2.2.2.2 ?_
  exact k p l e s m args below meth c D cA A n0 ad0 C ad H locs lsA ⟨P.1, hok P.2.1 P.2.2.1, P.2.2⟩
theorem st_iconst {κ : JK} {d : Nat} {y : JM} {pc q : Nat} {ls st : List JV} {h : JH} {Q : Option JV → JH → Prop} {n : Int} (hd : decode y.2.1 pc = .ok (.iconst n, 1)) (hn : r32 n) (hq : pc + 1 = q) (k : JAt κ d y q ls (vi n :: st) h Q) : JAt κ d y pc ls st h Q := by
  subst hq
  exact JAt.stk k (fun o _ => ok_c hn o) (fun p l e R s m args below meth c H locs cells slots Qw lsA ad hx hb _ _ _ _ kk => lv_iconst hx hb hd rfl kk)
theorem oi_8 {n : Int} (h1 : -128 ≤ n) (h2 : n < 128) : (Int8.ofInt n).toInt32 = Int32.ofInt n := by
  apply Int32.toInt_inj.mp
  rw [Int8.toInt_toInt32, Int8.toInt_ofInt_of_le h1 h2, oi_to ⟨by omega, by omega⟩]
theorem oi_16 {n : Int} (h1 : -32768 ≤ n) (h2 : n < 32768) : (Int16.ofInt n).toInt32 = Int32.ofInt n := by
  apply Int32.toInt_inj.mp
  rw [Int16.toInt_toInt32, Int16.toInt_ofInt_of_le h1 h2, oi_to ⟨by omega, by omega⟩]
theorem st_bipush {κ : JK} {d : Nat} {y : JM} {pc q : Nat} {ls st : List JV} {h : JH} {Q : Option JV → JH → Prop} {n : Int} (hd : decode y.2.1 pc = .ok (.bipush n, 2)) (hn : -128 ≤ n ∧ n < 128) (hq : pc + 2 = q) (k : JAt κ d y q ls (vi n :: st) h Q) : JAt κ d y pc ls st h Q := by
  subst hq
  exact JAt.stk k (fun o _ => ok_c (show r32 n from ⟨by omega, by omega⟩) o) (fun p l e R s m args below meth c H locs cells slots Qw lsA ad hx hb _ _ _ _ kk => lv_bipush hx hb hd (oi_8 hn.1 hn.2) kk)
theorem st_sipush {κ : JK} {d : Nat} {y : JM} {pc q : Nat} {ls st : List JV} {h : JH} {Q : Option JV → JH → Prop} {n : Int} (hd : decode y.2.1 pc = .ok (.sipush n, 3)) (hn : -32768 ≤ n ∧ n < 32768) (hq : pc + 3 = q) (k : JAt κ d y q ls (vi n :: st) h Q) : JAt κ d y pc ls st h Q := by
  subst hq
  exact JAt.stk k (fun o _ => ok_c (show r32 n from ⟨by omega, by omega⟩) o) (fun p l e R s m args below meth c H locs cells slots Qw lsA ad hx hb _ _ _ _ kk => lv_sipush hx hb hd (oi_16 hn.1 hn.2) kk)
theorem st_lconst {κ : JK} {d : Nat} {y : JM} {pc q : Nat} {ls st : List JV} {h : JH} {Q : Option JV → JH → Prop} {n : Fin 2} {x : Int} (hd : decode y.2.1 pc = .ok (.lconst n, 1)) (hn : Int64.ofNat (n : Nat) = Int64.ofInt x ∧ r64 x) (hq : pc + 1 = q) (k : JAt κ d y q ls (vl x :: st) h Q) : JAt κ d y pc ls st h Q := by
  subst hq
  exact JAt.stk k (fun o _ => ok_c hn.2 o) (fun p l e R s m args below meth c H locs cells slots Qw lsA ad hx hb _ _ _ _ kk => lv_lconst hx hb hd hn.1 kk)
theorem st_ldc {κ : JK} {d : Nat} {y : JM} {pc q : Nat} {ls st : List JV} {h : JH} {Q : Option JV → JH → Prop} {x : Int} {idx : Nat} (hd : decode y.2.1 pc = .ok (.ldc idx, 2)) (hn : r32 x) (hw : Cond.constant y.1.cls idx (Int32.ofInt x) ∈ wsG) (hq : pc + 2 = q) (k : JAt κ d y q ls (vi x :: st) h Q) : JAt κ d y pc ls st h Q := by
  subst hq
  exact JAt.stk k (fun o _ => ok_c hn o) (fun p l e R s m args below meth c H locs cells slots Qw lsA ad hx hb ho hts _ _ kk => lv_ldc hx hb ho (hts _ (jw_in y _ hw)) hd kk)
theorem st_ldc_w {κ : JK} {d : Nat} {y : JM} {pc q : Nat} {ls st : List JV} {h : JH} {Q : Option JV → JH → Prop} {x : Int} {idx : Nat} (hd : decode y.2.1 pc = .ok (.ldc_w idx, 3)) (hn : r32 x) (hw : Cond.constant y.1.cls idx (Int32.ofInt x) ∈ wsG) (hq : pc + 3 = q) (k : JAt κ d y q ls (vi x :: st) h Q) : JAt κ d y pc ls st h Q := by
  subst hq
  exact JAt.stk k (fun o _ => ok_c hn o) (fun p l e R s m args below meth c H locs cells slots Qw lsA ad hx hb ho hts _ _ kk => lv_ldcw hx hb ho (hts _ (jw_in y _ hw)) hd kk)
theorem st_ldc2_w {κ : JK} {d : Nat} {y : JM} {pc q : Nat} {ls st : List JV} {h : JH} {Q : Option JV → JH → Prop} {x : Int} {idx : Nat} (hd : decode y.2.1 pc = .ok (.ldc2_w idx, 3)) (hn : r64 x) (hw : Cond.constantLong y.1.cls idx (Int64.ofInt x) ∈ wsG) (hq : pc + 3 = q) (k : JAt κ d y q ls (vl x :: st) h Q) : JAt κ d y pc ls st h Q := by
  subst hq
  exact JAt.stk k (fun o _ => ok_c hn o) (fun p l e R s m args below meth c H locs cells slots Qw lsA ad hx hb ho hts _ _ kk => lv_ldc2 hx hb ho (hts _ (jw_in y _ hw)) hd kk)
theorem st_iload_n {κ : JK} {d : Nat} {y : JM} {pc q : Nat} {ls st : List JV} {h : JH} {Q : Option JV → JH → Prop} {i : Fin 4} {x : Int} (hd : decode y.2.1 pc = .ok (.iload_n i, 1)) (hl : ls[(i : Nat)]? = some (vi x)) (hq : pc + 1 = q) (k : JAt κ d y q ls (vi x :: st) h Q) : JAt κ d y pc ls st h Q := by
  subst hq
  exact JAt.stk k (fun o o2 => ok_c (ok_at o2 hl) o) (fun p l e R s m args below meth c H locs cells slots Qw lsA ad hx hb _ _ _ L kk => lv_iload_n hx hb hd rfl (L.2.2 _ _ hl (by intro q; cases q)) kk)
theorem st_iload {κ : JK} {d : Nat} {y : JM} {pc q : Nat} {ls st : List JV} {h : JH} {Q : Option JV → JH → Prop} {i : Nat} {x : Int} (hd : decode y.2.1 pc = .ok (.iload i, 2)) (hl : ls[i]? = some (vi x)) (hq : pc + 2 = q) (k : JAt κ d y q ls (vi x :: st) h Q) : JAt κ d y pc ls st h Q := by
  subst hq
  exact JAt.stk k (fun o o2 => ok_c (ok_at o2 hl) o) (fun p l e R s m args below meth c H locs cells slots Qw lsA ad hx hb _ _ _ L kk => lv_iload hx hb hd (L.2.2 _ _ hl (by intro q; cases q)) kk)
theorem st_lload_n {κ : JK} {d : Nat} {y : JM} {pc q : Nat} {ls st : List JV} {h : JH} {Q : Option JV → JH → Prop} {i : Fin 4} {x : Int} (hd : decode y.2.1 pc = .ok (.lload_n i, 1)) (hl : ls[(i : Nat)]? = some (vl x)) (hq : pc + 1 = q) (k : JAt κ d y q ls (vl x :: st) h Q) : JAt κ d y pc ls st h Q := by
  subst hq
  exact JAt.stk k (fun o o2 => ok_c (ok_at o2 hl) o) (fun p l e R s m args below meth c H locs cells slots Qw lsA ad hx hb _ _ _ L kk => lv_lload_n hx hb hd rfl (L.2.2 _ _ hl (by intro q; cases q)) kk)
theorem st_lload {κ : JK} {d : Nat} {y : JM} {pc q : Nat} {ls st : List JV} {h : JH} {Q : Option JV → JH → Prop} {i : Nat} {x : Int} (hd : decode y.2.1 pc = .ok (.lload i, 2)) (hl : ls[i]? = some (vl x)) (hq : pc + 2 = q) (k : JAt κ d y q ls (vl x :: st) h Q) : JAt κ d y pc ls st h Q := by
  subst hq
  exact JAt.stk k (fun o o2 => ok_c (ok_at o2 hl) o) (fun p l e R s m args below meth c H locs cells slots Qw lsA ad hx hb _ _ _ L kk => lv_lload hx hb hd (L.2.2 _ _ hl (by intro q; cases q)) kk)
theorem st_aload_n {κ : JK} {d : Nat} {y : JM} {pc q : Nat} {ls st : List JV} {h : JH} {Q : Option JV → JH → Prop} {i : Fin 4} {x : Nat} (hd : decode y.2.1 pc = .ok (.aload_n i, 1)) (hl : ls[(i : Nat)]? = some (vr x)) (hq : pc + 1 = q) (k : JAt κ d y q ls (vr x :: st) h Q) : JAt κ d y pc ls st h Q := by
  subst hq
  exact JAt.stk k (fun o o2 => ok_c (ok_at o2 hl) o) (fun p l e R s m args below meth c H locs cells slots Qw lsA ad hx hb _ _ _ L kk => lv_aload_n hx hb hd rfl (L.2.2 _ _ hl (by intro q; cases q)) kk)
theorem st_aload {κ : JK} {d : Nat} {y : JM} {pc q : Nat} {ls st : List JV} {h : JH} {Q : Option JV → JH → Prop} {i : Nat} {x : Nat} (hd : decode y.2.1 pc = .ok (.aload i, 2)) (hl : ls[i]? = some (vr x)) (hq : pc + 2 = q) (k : JAt κ d y q ls (vr x :: st) h Q) : JAt κ d y pc ls st h Q := by
  subst hq
  exact JAt.stk k (fun o o2 => ok_c (ok_at o2 hl) o) (fun p l e R s m args below meth c H locs cells slots Qw lsA ad hx hb _ _ _ L kk => lv_aload hx hb hd (L.2.2 _ _ hl (by intro q; cases q)) kk)
theorem st_iadd {κ : JK} {d : Nat} {y : JM} {pc q : Nat} {ls st : List JV} {h : JH} {Q : Option JV → JH → Prop} {a b : Int} (hd : decode y.2.1 pc = .ok (.iadd, 1)) (hq : pc + 1 = q) (k : JAt κ d y q ls (vi (w32 (a + b)) :: st) h Q) : JAt κ d y pc ls (vi b :: vi a :: st) h Q := by
  subst hq
  refine JAt.stk k (fun o _ => ok_c (show r32 (w32 (a + b)) from w32_r _) (ok_t (ok_t o))) (fun p l e R s m args below meth c H locs cells slots Qw lsA ad hx hb _ _ o _ kk => ?_)
  have ra : r32 a := ok_h (ok_t o)
  have rb : r32 b := ok_h o
  have e : Int32.ofInt (w32 (a + b)) = Int32.ofInt a + Int32.ofInt b := by rw [oi_w32, Int32.ofInt_add]
  refine lv_iadd hx hb hd ?_
  rw [← e]
  exact kk
theorem st_isub {κ : JK} {d : Nat} {y : JM} {pc q : Nat} {ls st : List JV} {h : JH} {Q : Option JV → JH → Prop} {a b : Int} (hd : decode y.2.1 pc = .ok (.isub, 1)) (hq : pc + 1 = q) (k : JAt κ d y q ls (vi (w32 (a - b)) :: st) h Q) : JAt κ d y pc ls (vi b :: vi a :: st) h Q := by
  subst hq
  refine JAt.stk k (fun o _ => ok_c (show r32 (w32 (a - b)) from w32_r _) (ok_t (ok_t o))) (fun p l e R s m args below meth c H locs cells slots Qw lsA ad hx hb _ _ o _ kk => ?_)
  have ra : r32 a := ok_h (ok_t o)
  have rb : r32 b := ok_h o
  have e : Int32.ofInt (w32 (a - b)) = Int32.ofInt a - Int32.ofInt b := by rw [oi_w32, Int32.ofInt_sub]
  refine lv_isub hx hb hd ?_
  rw [← e]
  exact kk
theorem st_imul {κ : JK} {d : Nat} {y : JM} {pc q : Nat} {ls st : List JV} {h : JH} {Q : Option JV → JH → Prop} {a b : Int} (hd : decode y.2.1 pc = .ok (.imul, 1)) (hq : pc + 1 = q) (k : JAt κ d y q ls (vi (w32 (a * b)) :: st) h Q) : JAt κ d y pc ls (vi b :: vi a :: st) h Q := by
  subst hq
  refine JAt.stk k (fun o _ => ok_c (show r32 (w32 (a * b)) from w32_r _) (ok_t (ok_t o))) (fun p l e R s m args below meth c H locs cells slots Qw lsA ad hx hb _ _ o _ kk => ?_)
  have ra : r32 a := ok_h (ok_t o)
  have rb : r32 b := ok_h o
  have e : Int32.ofInt (w32 (a * b)) = Int32.ofInt a * Int32.ofInt b := by rw [oi_w32, Int32.ofInt_mul]
  refine lv_imul hx hb hd ?_
  rw [← e]
  exact kk
def iand (a b : Int) : Int := (Int32.ofInt a &&& Int32.ofInt b).toInt
def ior (a b : Int) : Int := (Int32.ofInt a ||| Int32.ofInt b).toInt
def ixor (a b : Int) : Int := (Int32.ofInt a ^^^ Int32.ofInt b).toInt
def ishl (a b : Int) : Int := (Int32.ofInt a <<< (Int32.ofInt b &&& 31)).toInt
def ishr (a b : Int) : Int := (Int32.ofInt a >>> (Int32.ofInt b &&& 31)).toInt
def iushr (a b : Int) : Int := ((Int32.ofInt a).toUInt32 >>> ((Int32.ofInt b).toUInt32 &&& Int32.toUInt32 31)).toInt32.toInt
def idiv (a b : Int) : Int := w32 (a.tdiv b)
theorem st_iand {κ : JK} {d : Nat} {y : JM} {pc q : Nat} {ls st : List JV} {h : JH} {Q : Option JV → JH → Prop} {a b : Int} (hd : decode y.2.1 pc = .ok (.iand, 1)) (hq : pc + 1 = q) (k : JAt κ d y q ls (vi (iand a b) :: st) h Q) : JAt κ d y pc ls (vi b :: vi a :: st) h Q := by
  subst hq
  refine JAt.stk k (fun o _ => ok_c (show r32 (iand a b) from ti_r _) (ok_t (ok_t o))) (fun p l e R s m args below meth c H locs cells slots Qw lsA ad hx hb _ _ o _ kk => ?_)
  have ra : r32 a := ok_h (ok_t o)
  have rb : r32 b := ok_h o
  have e : Int32.ofInt (iand a b) = Int32.ofInt a &&& Int32.ofInt b := Int32.ofInt_toInt _
  refine lv_iand hx hb hd ?_
  rw [← e]
  exact kk
theorem st_ior {κ : JK} {d : Nat} {y : JM} {pc q : Nat} {ls st : List JV} {h : JH} {Q : Option JV → JH → Prop} {a b : Int} (hd : decode y.2.1 pc = .ok (.ior, 1)) (hq : pc + 1 = q) (k : JAt κ d y q ls (vi (ior a b) :: st) h Q) : JAt κ d y pc ls (vi b :: vi a :: st) h Q := by
  subst hq
  refine JAt.stk k (fun o _ => ok_c (show r32 (ior a b) from ti_r _) (ok_t (ok_t o))) (fun p l e R s m args below meth c H locs cells slots Qw lsA ad hx hb _ _ o _ kk => ?_)
  have ra : r32 a := ok_h (ok_t o)
  have rb : r32 b := ok_h o
  have e : Int32.ofInt (ior a b) = Int32.ofInt a ||| Int32.ofInt b := Int32.ofInt_toInt _
  refine lv_ior hx hb hd ?_
  rw [← e]
  exact kk
theorem st_ixor {κ : JK} {d : Nat} {y : JM} {pc q : Nat} {ls st : List JV} {h : JH} {Q : Option JV → JH → Prop} {a b : Int} (hd : decode y.2.1 pc = .ok (.ixor, 1)) (hq : pc + 1 = q) (k : JAt κ d y q ls (vi (ixor a b) :: st) h Q) : JAt κ d y pc ls (vi b :: vi a :: st) h Q := by
  subst hq
  refine JAt.stk k (fun o _ => ok_c (show r32 (ixor a b) from ti_r _) (ok_t (ok_t o))) (fun p l e R s m args below meth c H locs cells slots Qw lsA ad hx hb _ _ o _ kk => ?_)
  have ra : r32 a := ok_h (ok_t o)
  have rb : r32 b := ok_h o
  have e : Int32.ofInt (ixor a b) = Int32.ofInt a ^^^ Int32.ofInt b := Int32.ofInt_toInt _
  refine lv_ixor hx hb hd ?_
  rw [← e]
  exact kk
theorem st_ishl {κ : JK} {d : Nat} {y : JM} {pc q : Nat} {ls st : List JV} {h : JH} {Q : Option JV → JH → Prop} {a b : Int} (hd : decode y.2.1 pc = .ok (.ishl, 1)) (hq : pc + 1 = q) (k : JAt κ d y q ls (vi (ishl a b) :: st) h Q) : JAt κ d y pc ls (vi b :: vi a :: st) h Q := by
  subst hq
  refine JAt.stk k (fun o _ => ok_c (show r32 (ishl a b) from ti_r _) (ok_t (ok_t o))) (fun p l e R s m args below meth c H locs cells slots Qw lsA ad hx hb _ _ o _ kk => ?_)
  have ra : r32 a := ok_h (ok_t o)
  have rb : r32 b := ok_h o
  have e : Int32.ofInt (ishl a b) = Int32.ofInt a <<< (Int32.ofInt b &&& 31) := Int32.ofInt_toInt _
  refine lv_ishl hx hb hd ?_
  rw [← e]
  exact kk
theorem st_ishr {κ : JK} {d : Nat} {y : JM} {pc q : Nat} {ls st : List JV} {h : JH} {Q : Option JV → JH → Prop} {a b : Int} (hd : decode y.2.1 pc = .ok (.ishr, 1)) (hq : pc + 1 = q) (k : JAt κ d y q ls (vi (ishr a b) :: st) h Q) : JAt κ d y pc ls (vi b :: vi a :: st) h Q := by
  subst hq
  refine JAt.stk k (fun o _ => ok_c (show r32 (ishr a b) from ti_r _) (ok_t (ok_t o))) (fun p l e R s m args below meth c H locs cells slots Qw lsA ad hx hb _ _ o _ kk => ?_)
  have ra : r32 a := ok_h (ok_t o)
  have rb : r32 b := ok_h o
  have e : Int32.ofInt (ishr a b) = Int32.ofInt a >>> (Int32.ofInt b &&& 31) := Int32.ofInt_toInt _
  refine lv_ishr hx hb hd ?_
  rw [← e]
  exact kk
theorem st_iushr {κ : JK} {d : Nat} {y : JM} {pc q : Nat} {ls st : List JV} {h : JH} {Q : Option JV → JH → Prop} {a b : Int} (hd : decode y.2.1 pc = .ok (.iushr, 1)) (hq : pc + 1 = q) (k : JAt κ d y q ls (vi (iushr a b) :: st) h Q) : JAt κ d y pc ls (vi b :: vi a :: st) h Q := by
  subst hq
  refine JAt.stk k (fun o _ => ok_c (show r32 (iushr a b) from ti_r _) (ok_t (ok_t o))) (fun p l e R s m args below meth c H locs cells slots Qw lsA ad hx hb _ _ o _ kk => ?_)
  have ra : r32 a := ok_h (ok_t o)
  have rb : r32 b := ok_h o
  refine lv_iushr hx hb hd (v := Int32.ofInt (iushr a b)) ?_ kk
  exact (Int32.ofInt_toInt _).symm
theorem st_idiv {κ : JK} {d : Nat} {y : JM} {pc q : Nat} {ls st : List JV} {h : JH} {Q : Option JV → JH → Prop} {a b : Int} (hd : decode y.2.1 pc = .ok (.idiv, 1)) (hb0 : b ≠ 0) (hq : pc + 1 = q) (k : JAt κ d y q ls (vi (idiv a b) :: st) h Q) : JAt κ d y pc ls (vi b :: vi a :: st) h Q := by
  subst hq
  refine JAt.stk k (fun o _ => ok_c (show r32 (idiv a b) from w32_r _) (ok_t (ok_t o))) (fun p l e R s m args below meth c H locs cells slots Qw lsA ad hx hb _ _ o _ kk => ?_)
  have ra : r32 a := ok_h (ok_t o)
  have rb : r32 b := ok_h o
  have e : Int32.ofInt (idiv a b) = Int32.ofInt a / Int32.ofInt b := by
    rw [idiv, oi_w32]
    apply Int32.toInt_inj.mp
    rw [Int32.toInt_div, oi_to ra, oi_to rb, Int32.toInt_ofInt]
  refine lv_idiv hx hb hd (fun q => hb0 ?_) ?_
  · exact (oi_eq rb ⟨by decide, by decide⟩).mp q
  · rw [← e]; exact kk
theorem tm_r {a b : Int} (ra : r32 a) (hb0 : b ≠ 0) : r32 (a.tmod b) := by
  have h1 : (a.tmod b).natAbs = a.natAbs % b.natAbs := Int.natAbs_tmod a b
  have h2 : a.natAbs % b.natAbs ≤ a.natAbs := Nat.mod_le _ _
  by_cases h4 : 0 ≤ a
  · have := Int.tmod_nonneg b h4
    unfold r32 at ra ⊢; omega
  · have : a.tmod b ≤ 0 := by
      have := Int.tmod_nonneg b (show 0 ≤ -a by omega)
      rw [Int.neg_tmod] at this
      omega
    unfold r32 at ra ⊢; omega
theorem tm_r64 {a b : Int} (ra : r64 a) (hb0 : b ≠ 0) : r64 (a.tmod b) := by
  have h1 : (a.tmod b).natAbs = a.natAbs % b.natAbs := Int.natAbs_tmod a b
  have h2 : a.natAbs % b.natAbs ≤ a.natAbs := Nat.mod_le _ _
  by_cases h4 : 0 ≤ a
  · have := Int.tmod_nonneg b h4
    unfold r64 at ra ⊢; omega
  · have : a.tmod b ≤ 0 := by
      have := Int.tmod_nonneg b (show 0 ≤ -a by omega)
      rw [Int.neg_tmod] at this
      omega
    unfold r64 at ra ⊢; omega
theorem st_irem {κ : JK} {d : Nat} {y : JM} {pc q : Nat} {ls st : List JV} {h : JH} {Q : Option JV → JH → Prop} {a b : Int} (hd : decode y.2.1 pc = .ok (.irem, 1)) (hb0 : b ≠ 0) (hq : pc + 1 = q) (k : JAt κ d y q ls (vi (a.tmod b) :: st) h Q) : JAt κ d y pc ls (vi b :: vi a :: st) h Q := by
  subst hq
  refine JAt.stk k (fun o _ => ok_c (show r32 (a.tmod b) from tm_r (ok_h (ok_t o)) hb0) (ok_t (ok_t o))) (fun p l e R s m args below meth c H locs cells slots Qw lsA ad hx hb _ _ o _ kk => ?_)
  have ra : r32 a := ok_h (ok_t o)
  have rb : r32 b := ok_h o
  have e : Int32.ofInt (a.tmod b) = Int32.ofInt a - Int32.ofInt a / Int32.ofInt b * Int32.ofInt b := by
    apply Int32.toInt_inj.mp
    rw [rem_toInt, oi_to ra, oi_to rb]
    have := tm_r ra hb0
    exact oi_to this
  refine lv_irem hx hb hd (fun q => hb0 ?_) ?_
  · exact (oi_eq rb ⟨by decide, by decide⟩).mp q
  · rw [← e]; exact kk
theorem st_ineg {κ : JK} {d : Nat} {y : JM} {pc q : Nat} {ls st : List JV} {h : JH} {Q : Option JV → JH → Prop} {a : Int} (hd : decode y.2.1 pc = .ok (.ineg, 1)) (hq : pc + 1 = q) (k : JAt κ d y q ls (vi (w32 (-a)) :: st) h Q) : JAt κ d y pc ls (vi a :: st) h Q := by
  subst hq
  refine JAt.stk k (fun o _ => ok_c (show r32 (w32 (-a)) from w32_r _) (ok_t o)) (fun p l e R s m args below meth c H locs cells slots Qw lsA ad hx hb _ _ o _ kk => ?_)
  have e : Int32.ofInt (w32 (-a)) = -Int32.ofInt a := by rw [oi_w32, Int32.ofInt_neg]
  refine lv_ineg hx hb hd ?_
  rw [← e]
  exact kk
theorem st_ladd {κ : JK} {d : Nat} {y : JM} {pc q : Nat} {ls st : List JV} {h : JH} {Q : Option JV → JH → Prop} {a b : Int} (hd : decode y.2.1 pc = .ok (.ladd, 1)) (hq : pc + 1 = q) (k : JAt κ d y q ls (vl (w64 (a + b)) :: st) h Q) : JAt κ d y pc ls (vl b :: vl a :: st) h Q := by
  subst hq
  refine JAt.stk k (fun o _ => ok_c (show r64 (w64 (a + b)) from w64_r _) (ok_t (ok_t o))) (fun p l e R s m args below meth c H locs cells slots Qw lsA ad hx hb _ _ o _ kk => ?_)
  have ra : r64 a := ok_h (ok_t o)
  have rb : r64 b := ok_h o
  have e : Int64.ofInt (w64 (a + b)) = Int64.ofInt a + Int64.ofInt b := by rw [ol_w64, Int64.ofInt_add]
  refine lv_ladd hx hb hd ?_
  rw [← e]
  exact kk
theorem st_lsub {κ : JK} {d : Nat} {y : JM} {pc q : Nat} {ls st : List JV} {h : JH} {Q : Option JV → JH → Prop} {a b : Int} (hd : decode y.2.1 pc = .ok (.lsub, 1)) (hq : pc + 1 = q) (k : JAt κ d y q ls (vl (w64 (a - b)) :: st) h Q) : JAt κ d y pc ls (vl b :: vl a :: st) h Q := by
  subst hq
  refine JAt.stk k (fun o _ => ok_c (show r64 (w64 (a - b)) from w64_r _) (ok_t (ok_t o))) (fun p l e R s m args below meth c H locs cells slots Qw lsA ad hx hb _ _ o _ kk => ?_)
  have ra : r64 a := ok_h (ok_t o)
  have rb : r64 b := ok_h o
  have e : Int64.ofInt (w64 (a - b)) = Int64.ofInt a - Int64.ofInt b := by rw [ol_w64, Int64.ofInt_sub]
  refine lv_lsub hx hb hd ?_
  rw [← e]
  exact kk
theorem st_lmul {κ : JK} {d : Nat} {y : JM} {pc q : Nat} {ls st : List JV} {h : JH} {Q : Option JV → JH → Prop} {a b : Int} (hd : decode y.2.1 pc = .ok (.lmul, 1)) (hq : pc + 1 = q) (k : JAt κ d y q ls (vl (w64 (a * b)) :: st) h Q) : JAt κ d y pc ls (vl b :: vl a :: st) h Q := by
  subst hq
  refine JAt.stk k (fun o _ => ok_c (show r64 (w64 (a * b)) from w64_r _) (ok_t (ok_t o))) (fun p l e R s m args below meth c H locs cells slots Qw lsA ad hx hb _ _ o _ kk => ?_)
  have ra : r64 a := ok_h (ok_t o)
  have rb : r64 b := ok_h o
  have e : Int64.ofInt (w64 (a * b)) = Int64.ofInt a * Int64.ofInt b := by rw [ol_w64, Int64.ofInt_mul]
  refine lv_lmul hx hb hd ?_
  rw [← e]
  exact kk
theorem st_ldiv {κ : JK} {d : Nat} {y : JM} {pc q : Nat} {ls st : List JV} {h : JH} {Q : Option JV → JH → Prop} {a b : Int} (hd : decode y.2.1 pc = .ok (.ldiv, 1)) (hb0 : b ≠ 0) (hq : pc + 1 = q) (k : JAt κ d y q ls (vl (w64 (a.tdiv b)) :: st) h Q) : JAt κ d y pc ls (vl b :: vl a :: st) h Q := by
  subst hq
  refine JAt.stk k (fun o _ => ok_c (show r64 (w64 (a.tdiv b)) from w64_r _) (ok_t (ok_t o))) (fun p l e R s m args below meth c H locs cells slots Qw lsA ad hx hb _ _ o _ kk => ?_)
  have ra : r64 a := ok_h (ok_t o)
  have rb : r64 b := ok_h o
  have e : Int64.ofInt (w64 (a.tdiv b)) = Int64.ofInt a / Int64.ofInt b := by
    rw [ol_w64]
    apply Int64.toInt_inj.mp
    rw [Int64.toInt_div, ol_to ra, ol_to rb, Int64.toInt_ofInt]
  refine lv_ldiv hx hb hd (fun q => hb0 ?_) ?_
  · exact (ol_eq rb ⟨by decide, by decide⟩).mp q
  · rw [← e]; exact kk
theorem st_lneg {κ : JK} {d : Nat} {y : JM} {pc q : Nat} {ls st : List JV} {h : JH} {Q : Option JV → JH → Prop} {a : Int} (hd : decode y.2.1 pc = .ok (.lneg, 1)) (hq : pc + 1 = q) (k : JAt κ d y q ls (vl (w64 (-a)) :: st) h Q) : JAt κ d y pc ls (vl a :: st) h Q := by
  subst hq
  refine JAt.stk k (fun o _ => ok_c (show r64 (w64 (-a)) from w64_r _) (ok_t o)) (fun p l e R s m args below meth c H locs cells slots Qw lsA ad hx hb _ _ o _ kk => ?_)
  have e : Int64.ofInt (w64 (-a)) = -Int64.ofInt a := by rw [ol_w64, Int64.ofInt_neg]
  refine lv_lneg hx hb hd ?_
  rw [← e]
  exact kk
theorem st_i2l {κ : JK} {d : Nat} {y : JM} {pc q : Nat} {ls st : List JV} {h : JH} {Q : Option JV → JH → Prop} {a : Int} (hd : decode y.2.1 pc = .ok (.i2l, 1)) (hq : pc + 1 = q) (k : JAt κ d y q ls (vl a :: st) h Q) : JAt κ d y pc ls (vi a :: st) h Q := by
  subst hq
  refine JAt.stk k (fun o _ => ok_c (show r64 a from by have : r32 a := ok_h o; unfold r32 at this; unfold r64; omega) (ok_t o)) (fun p l e R s m args below meth c H locs cells slots Qw lsA ad hx hb _ _ o _ kk => ?_)
  have ra : r32 a := ok_h o
  refine lv_i2l hx hb hd (v := Int64.ofInt a) ?_ kk
  apply Int64.toInt_inj.mp
  rw [Int32.toInt_toInt64, oi_to ra, ol_to (by unfold r32 at ra; unfold r64; omega)]
theorem st_l2i {κ : JK} {d : Nat} {y : JM} {pc q : Nat} {ls st : List JV} {h : JH} {Q : Option JV → JH → Prop} {a : Int} (hd : decode y.2.1 pc = .ok (.l2i, 1)) (hq : pc + 1 = q) (k : JAt κ d y q ls (vi (w32 a) :: st) h Q) : JAt κ d y pc ls (vl a :: st) h Q := by
  subst hq
  refine JAt.stk k (fun o _ => ok_c (show r32 (w32 a) from w32_r _) (ok_t o)) (fun p l e R s m args below meth c H locs cells slots Qw lsA ad hx hb _ _ o _ kk => ?_)
  have ra : r64 a := ok_h o
  refine lv_l2i hx hb hd (v := Int32.ofInt (w32 a)) ?_ kk
  rw [oi_w32]
  apply Int32.toInt_inj.mp
  rw [Int64.toInt_toInt32, ol_to ra, Int32.toInt_ofInt]
def i2b (a : Int) : Int := (Int8.ofInt a).toInt
theorem i2b_r (a : Int) : -128 ≤ i2b a ∧ i2b a < 128 := ⟨Int8.le_toInt _, Int8.toInt_lt _⟩
theorem st_i2b {κ : JK} {d : Nat} {y : JM} {pc q : Nat} {ls st : List JV} {h : JH} {Q : Option JV → JH → Prop} {a : Int} (hd : decode y.2.1 pc = .ok (.i2b, 1)) (hq : pc + 1 = q) (k : JAt κ d y q ls (vi (i2b a) :: st) h Q) : JAt κ d y pc ls (vi a :: st) h Q := by
  subst hq
  have rb := i2b_r a
  have rr : r32 (i2b a) := ⟨by omega, by omega⟩
  refine JAt.stk k (fun o _ => ok_c rr (ok_t o)) (fun p l e R s m args below meth c H locs cells slots Qw lsA ad hx hb _ _ o _ kk => ?_)
  refine lv_i2b hx hb hd (v := Int32.ofInt (i2b a)) ?_ kk
  apply Int32.toInt_inj.mp
  rw [Int32.toInt8_ofInt, Int8.toInt_toInt32, oi_to rr]
  rfl
def jcmp (a b : Int) : Int := if b < a then 1 else if a = b then 0 else -1
theorem st_lcmp {κ : JK} {d : Nat} {y : JM} {pc q : Nat} {ls st : List JV} {h : JH} {Q : Option JV → JH → Prop} {a b : Int} (hd : decode y.2.1 pc = .ok (.lcmp, 1)) (hq : pc + 1 = q) (k : JAt κ d y q ls (vi (jcmp a b) :: st) h Q) : JAt κ d y pc ls (vl b :: vl a :: st) h Q := by
  subst hq
  refine JAt.stk k (fun o _ => ok_c (show r32 (jcmp a b) from by unfold jcmp r32; split <;> (try split) <;> omega) (ok_t (ok_t o))) (fun p l e R s m args below meth c H locs cells slots Qw lsA ad hx hb _ _ o _ kk => ?_)
  have ra : r64 a := ok_h (ok_t o)
  have rb : r64 b := ok_h o
  refine W.lcmp hx hb hd ?_
  have e : lg_cmp (Int64.ofInt a) (Int64.ofInt b) = Int32.ofInt (jcmp a b) := by
    unfold lg_cmp jcmp
    by_cases h1 : b < a
    · rw [if_pos h1, if_pos ((ol_lt rb ra).mpr h1)]; rfl
    · rw [if_neg h1, if_neg (fun q => h1 ((ol_lt rb ra).mp q))]
      by_cases h2 : a = b
      · rw [if_pos h2, if_pos ((ol_eq ra rb).mpr h2)]; rfl
      · rw [if_neg h2, if_neg (fun q => h2 ((ol_eq ra rb).mp q))]; rfl
  rw [e]
  exact kk
def jcat (v : JV) : Nat := match v with | .inl (.inr _) => 2 | _ => 1
theorem jcat_e (ad : Nat → Nat) (v : JV) : (cvv ad v).category = jcat v := by rcases v with (x | x) | (_ | a) <;> rfl
theorem st_dup {κ : JK} {d : Nat} {y : JM} {pc q : Nat} {ls st : List JV} {h : JH} {Q : Option JV → JH → Prop} {v : JV} (hd : decode y.2.1 pc = .ok (.dup, 1)) (hv : jcat v = 1) (hq : pc + 1 = q) (k : JAt κ d y q ls (v :: v :: st) h Q) : JAt κ d y pc ls (v :: st) h Q := by
  subst hq
  exact JAt.stk k (fun o _ => ok_c (ok_h o) o) (fun p l e R s m args below meth c H locs cells slots Qw lsA ad hx hb _ _ _ _ kk => lv_dup hx hb hd ((jcat_e ad v).trans hv) kk)
theorem st_dup2 {κ : JK} {d : Nat} {y : JM} {pc q : Nat} {ls st : List JV} {h : JH} {Q : Option JV → JH → Prop} {v w : JV} (hd : decode y.2.1 pc = .ok (.dup2, 1)) (hv : jcat v = 1) (hw : jcat w = 1) (hq : pc + 1 = q) (k : JAt κ d y q ls (v :: w :: v :: w :: st) h Q) : JAt κ d y pc ls (v :: w :: st) h Q := by
  subst hq
  exact JAt.stk k (fun o _ => ok_c (ok_h o) (ok_c (ok_h (ok_t o)) o)) (fun p l e R s m args below meth c H locs cells slots Qw lsA ad hx hb _ _ _ _ kk => lv_dup2_11 hx hb hd ((jcat_e ad v).trans hv) ((jcat_e ad w).trans hw) kk)
theorem st_pop {κ : JK} {d : Nat} {y : JM} {pc q : Nat} {ls st : List JV} {h : JH} {Q : Option JV → JH → Prop} {v : JV} (hd : decode y.2.1 pc = .ok (.pop, 1)) (hv : jcat v = 1) (hq : pc + 1 = q) (k : JAt κ d y q ls st h Q) : JAt κ d y pc ls (v :: st) h Q := by
  subst hq
  exact JAt.stk k (fun o _ => ok_t o) (fun p l e R s m args below meth c H locs cells slots Qw lsA ad hx hb _ _ _ _ kk => lv_pop hx hb hd ((jcat_e ad v).trans hv) kk)
theorem st_goto {κ : JK} {d : Nat} {y : JM} {pc q : Nat} {ls st : List JV} {h : JH} {Q : Option JV → JH → Prop} {off : Int} (hd : decode y.2.1 pc = .ok (.goto off, 3)) (ht : (pc : Int) + off = (q : Int)) (k : JAt κ d y q ls st h Q) : JAt κ d y pc ls st h Q :=
  JAt.stk k (fun o _ => o) (fun p l e R s m args below meth c H locs cells slots Qw lsA ad hx hb _ _ _ _ kk => lv_goto hx hb hd ht kk)
theorem st_icmp_eq {κ : JK} {d : Nat} {y : JM} {pc q tgt : Nat} {ls st : List JV} {h : JH} {Q : Option JV → JH → Prop} {off : Int} {a b : Int} (hd : decode y.2.1 pc = .ok (.if_icmp .eq off, 3)) (ht : (pc : Int) + off = (tgt : Int)) (hq : pc + 3 = q) (kt : a = b → JAt κ d y tgt ls st h Q) (kf : ¬ (a = b) → JAt κ d y q ls st h Q) : JAt κ d y pc ls (vi b :: vi a :: st) h Q := by
  subst hq
  intro p l e s m args below meth c D cA A n0 ad0 C ad H locs lsA P
  have ra : r32 a := ok_h (ok_t P.2.1)
  have rb : r32 b := ok_h P.2.1
  have P' : JP y D cA A s H locs n0 ad0 ad lsA ls st h := ⟨P.1, ok_t (ok_t P.2.1), P.2.2⟩
  exact lv_icmp_eq C.1 C.2.1 hd ht (fun z => kt ((oi_eq ra rb).mp z) p l e s m args below meth c D cA A n0 ad0 C ad H locs lsA P') (fun z => kf (fun w => z ((oi_eq ra rb).mpr w)) p l e s m args below meth c D cA A n0 ad0 C ad H locs lsA P')
theorem st_icmp_ne {κ : JK} {d : Nat} {y : JM} {pc q tgt : Nat} {ls st : List JV} {h : JH} {Q : Option JV → JH → Prop} {off : Int} {a b : Int} (hd : decode y.2.1 pc = .ok (.if_icmp .ne off, 3)) (ht : (pc : Int) + off = (tgt : Int)) (hq : pc + 3 = q) (kt : a ≠ b → JAt κ d y tgt ls st h Q) (kf : a = b → JAt κ d y q ls st h Q) : JAt κ d y pc ls (vi b :: vi a :: st) h Q := by
  subst hq
  intro p l e s m args below meth c D cA A n0 ad0 C ad H locs lsA P
  have ra : r32 a := ok_h (ok_t P.2.1)
  have rb : r32 b := ok_h P.2.1
  have P' : JP y D cA A s H locs n0 ad0 ad lsA ls st h := ⟨P.1, ok_t (ok_t P.2.1), P.2.2⟩
  exact lv_icmp_ne C.1 C.2.1 hd ht (fun z => kt ((not_congr (oi_eq ra rb)).mp z) p l e s m args below meth c D cA A n0 ad0 C ad H locs lsA P') (fun z => kf (((oi_eq ra rb)).mp z) p l e s m args below meth c D cA A n0 ad0 C ad H locs lsA P')
theorem st_icmp_lt {κ : JK} {d : Nat} {y : JM} {pc q tgt : Nat} {ls st : List JV} {h : JH} {Q : Option JV → JH → Prop} {off : Int} {a b : Int} (hd : decode y.2.1 pc = .ok (.if_icmp .lt off, 3)) (ht : (pc : Int) + off = (tgt : Int)) (hq : pc + 3 = q) (kt : a < b → JAt κ d y tgt ls st h Q) (kf : ¬ (a < b) → JAt κ d y q ls st h Q) : JAt κ d y pc ls (vi b :: vi a :: st) h Q := by
  subst hq
  intro p l e s m args below meth c D cA A n0 ad0 C ad H locs lsA P
  have ra : r32 a := ok_h (ok_t P.2.1)
  have rb : r32 b := ok_h P.2.1
  have P' : JP y D cA A s H locs n0 ad0 ad lsA ls st h := ⟨P.1, ok_t (ok_t P.2.1), P.2.2⟩
  exact lv_icmp_lt C.1 C.2.1 hd ht (fun z => kt ((oi_lt ra rb).mp z) p l e s m args below meth c D cA A n0 ad0 C ad H locs lsA P') (fun z => kf (fun w => z ((oi_lt ra rb).mpr w)) p l e s m args below meth c D cA A n0 ad0 C ad H locs lsA P')
theorem st_icmp_ge {κ : JK} {d : Nat} {y : JM} {pc q tgt : Nat} {ls st : List JV} {h : JH} {Q : Option JV → JH → Prop} {off : Int} {a b : Int} (hd : decode y.2.1 pc = .ok (.if_icmp .ge off, 3)) (ht : (pc : Int) + off = (tgt : Int)) (hq : pc + 3 = q) (kt : b ≤ a → JAt κ d y tgt ls st h Q) (kf : ¬ (b ≤ a) → JAt κ d y q ls st h Q) : JAt κ d y pc ls (vi b :: vi a :: st) h Q := by
  subst hq
  intro p l e s m args below meth c D cA A n0 ad0 C ad H locs lsA P
  have ra : r32 a := ok_h (ok_t P.2.1)
  have rb : r32 b := ok_h P.2.1
  have P' : JP y D cA A s H locs n0 ad0 ad lsA ls st h := ⟨P.1, ok_t (ok_t P.2.1), P.2.2⟩
  exact lv_icmp_ge C.1 C.2.1 hd ht (fun z => kt ((oi_le rb ra).mp z) p l e s m args below meth c D cA A n0 ad0 C ad H locs lsA P') (fun z => kf (fun w => z ((oi_le rb ra).mpr w)) p l e s m args below meth c D cA A n0 ad0 C ad H locs lsA P')
theorem st_icmp_gt {κ : JK} {d : Nat} {y : JM} {pc q tgt : Nat} {ls st : List JV} {h : JH} {Q : Option JV → JH → Prop} {off : Int} {a b : Int} (hd : decode y.2.1 pc = .ok (.if_icmp .gt off, 3)) (ht : (pc : Int) + off = (tgt : Int)) (hq : pc + 3 = q) (kt : b < a → JAt κ d y tgt ls st h Q) (kf : ¬ (b < a) → JAt κ d y q ls st h Q) : JAt κ d y pc ls (vi b :: vi a :: st) h Q := by
  subst hq
  intro p l e s m args below meth c D cA A n0 ad0 C ad H locs lsA P
  have ra : r32 a := ok_h (ok_t P.2.1)
  have rb : r32 b := ok_h P.2.1
  have P' : JP y D cA A s H locs n0 ad0 ad lsA ls st h := ⟨P.1, ok_t (ok_t P.2.1), P.2.2⟩
  exact lv_icmp_gt C.1 C.2.1 hd ht (fun z => kt ((oi_lt rb ra).mp z) p l e s m args below meth c D cA A n0 ad0 C ad H locs lsA P') (fun z => kf (fun w => z ((oi_lt rb ra).mpr w)) p l e s m args below meth c D cA A n0 ad0 C ad H locs lsA P')
theorem st_icmp_le {κ : JK} {d : Nat} {y : JM} {pc q tgt : Nat} {ls st : List JV} {h : JH} {Q : Option JV → JH → Prop} {off : Int} {a b : Int} (hd : decode y.2.1 pc = .ok (.if_icmp .le off, 3)) (ht : (pc : Int) + off = (tgt : Int)) (hq : pc + 3 = q) (kt : a ≤ b → JAt κ d y tgt ls st h Q) (kf : ¬ (a ≤ b) → JAt κ d y q ls st h Q) : JAt κ d y pc ls (vi b :: vi a :: st) h Q := by
  subst hq
  intro p l e s m args below meth c D cA A n0 ad0 C ad H locs lsA P
  have ra : r32 a := ok_h (ok_t P.2.1)
  have rb : r32 b := ok_h P.2.1
  have P' : JP y D cA A s H locs n0 ad0 ad lsA ls st h := ⟨P.1, ok_t (ok_t P.2.1), P.2.2⟩
  exact lv_icmp_le C.1 C.2.1 hd ht (fun z => kt ((oi_le ra rb).mp z) p l e s m args below meth c D cA A n0 ad0 C ad H locs lsA P') (fun z => kf (fun w => z ((oi_le ra rb).mpr w)) p l e s m args below meth c D cA A n0 ad0 C ad H locs lsA P')
theorem r32_0 : r32 0 := ⟨by decide, by decide⟩
theorem st_if_eq {κ : JK} {d : Nat} {y : JM} {pc q tgt : Nat} {ls st : List JV} {h : JH} {Q : Option JV → JH → Prop} {off : Int} {a : Int} (hd : decode y.2.1 pc = .ok (.ifCond .eq off, 3)) (ht : (pc : Int) + off = (tgt : Int)) (hq : pc + 3 = q) (kt : a = 0 → JAt κ d y tgt ls st h Q) (kf : ¬ (a = 0) → JAt κ d y q ls st h Q) : JAt κ d y pc ls (vi a :: st) h Q := by
  subst hq
  intro p l e s m args below meth c D cA A n0 ad0 C ad H locs lsA P
  have ra : r32 a := ok_h P.2.1
  have P' : JP y D cA A s H locs n0 ad0 ad lsA ls st h := ⟨P.1, ok_t P.2.1, P.2.2⟩
  exact lv_if_eq C.1 C.2.1 hd ht (fun z => kt ((oi_eq ra r32_0).mp z) p l e s m args below meth c D cA A n0 ad0 C ad H locs lsA P') (fun z => kf (fun w => z ((oi_eq ra r32_0).mpr w)) p l e s m args below meth c D cA A n0 ad0 C ad H locs lsA P')
theorem st_if_ne {κ : JK} {d : Nat} {y : JM} {pc q tgt : Nat} {ls st : List JV} {h : JH} {Q : Option JV → JH → Prop} {off : Int} {a : Int} (hd : decode y.2.1 pc = .ok (.ifCond .ne off, 3)) (ht : (pc : Int) + off = (tgt : Int)) (hq : pc + 3 = q) (kt : a ≠ 0 → JAt κ d y tgt ls st h Q) (kf : a = 0 → JAt κ d y q ls st h Q) : JAt κ d y pc ls (vi a :: st) h Q := by
  subst hq
  intro p l e s m args below meth c D cA A n0 ad0 C ad H locs lsA P
  have ra : r32 a := ok_h P.2.1
  have P' : JP y D cA A s H locs n0 ad0 ad lsA ls st h := ⟨P.1, ok_t P.2.1, P.2.2⟩
  exact lv_if_ne C.1 C.2.1 hd ht (fun z => kt ((not_congr (oi_eq ra r32_0)).mp z) p l e s m args below meth c D cA A n0 ad0 C ad H locs lsA P') (fun z => kf (((oi_eq ra r32_0)).mp z) p l e s m args below meth c D cA A n0 ad0 C ad H locs lsA P')
theorem st_if_lt {κ : JK} {d : Nat} {y : JM} {pc q tgt : Nat} {ls st : List JV} {h : JH} {Q : Option JV → JH → Prop} {off : Int} {a : Int} (hd : decode y.2.1 pc = .ok (.ifCond .lt off, 3)) (ht : (pc : Int) + off = (tgt : Int)) (hq : pc + 3 = q) (kt : a < 0 → JAt κ d y tgt ls st h Q) (kf : ¬ (a < 0) → JAt κ d y q ls st h Q) : JAt κ d y pc ls (vi a :: st) h Q := by
  subst hq
  intro p l e s m args below meth c D cA A n0 ad0 C ad H locs lsA P
  have ra : r32 a := ok_h P.2.1
  have P' : JP y D cA A s H locs n0 ad0 ad lsA ls st h := ⟨P.1, ok_t P.2.1, P.2.2⟩
  exact lv_if_lt C.1 C.2.1 hd ht (fun z => kt ((oi_lt ra r32_0).mp z) p l e s m args below meth c D cA A n0 ad0 C ad H locs lsA P') (fun z => kf (fun w => z ((oi_lt ra r32_0).mpr w)) p l e s m args below meth c D cA A n0 ad0 C ad H locs lsA P')
theorem st_if_ge {κ : JK} {d : Nat} {y : JM} {pc q tgt : Nat} {ls st : List JV} {h : JH} {Q : Option JV → JH → Prop} {off : Int} {a : Int} (hd : decode y.2.1 pc = .ok (.ifCond .ge off, 3)) (ht : (pc : Int) + off = (tgt : Int)) (hq : pc + 3 = q) (kt : 0 ≤ a → JAt κ d y tgt ls st h Q) (kf : ¬ (0 ≤ a) → JAt κ d y q ls st h Q) : JAt κ d y pc ls (vi a :: st) h Q := by
  subst hq
  intro p l e s m args below meth c D cA A n0 ad0 C ad H locs lsA P
  have ra : r32 a := ok_h P.2.1
  have P' : JP y D cA A s H locs n0 ad0 ad lsA ls st h := ⟨P.1, ok_t P.2.1, P.2.2⟩
  exact lv_if_ge C.1 C.2.1 hd ht (fun z => kt ((oi_le r32_0 ra).mp z) p l e s m args below meth c D cA A n0 ad0 C ad H locs lsA P') (fun z => kf (fun w => z ((oi_le r32_0 ra).mpr w)) p l e s m args below meth c D cA A n0 ad0 C ad H locs lsA P')
theorem st_if_gt {κ : JK} {d : Nat} {y : JM} {pc q tgt : Nat} {ls st : List JV} {h : JH} {Q : Option JV → JH → Prop} {off : Int} {a : Int} (hd : decode y.2.1 pc = .ok (.ifCond .gt off, 3)) (ht : (pc : Int) + off = (tgt : Int)) (hq : pc + 3 = q) (kt : 0 < a → JAt κ d y tgt ls st h Q) (kf : ¬ (0 < a) → JAt κ d y q ls st h Q) : JAt κ d y pc ls (vi a :: st) h Q := by
  subst hq
  intro p l e s m args below meth c D cA A n0 ad0 C ad H locs lsA P
  have ra : r32 a := ok_h P.2.1
  have P' : JP y D cA A s H locs n0 ad0 ad lsA ls st h := ⟨P.1, ok_t P.2.1, P.2.2⟩
  exact lv_if_gt C.1 C.2.1 hd ht (fun z => kt ((oi_lt r32_0 ra).mp z) p l e s m args below meth c D cA A n0 ad0 C ad H locs lsA P') (fun z => kf (fun w => z ((oi_lt r32_0 ra).mpr w)) p l e s m args below meth c D cA A n0 ad0 C ad H locs lsA P')
theorem st_if_le {κ : JK} {d : Nat} {y : JM} {pc q tgt : Nat} {ls st : List JV} {h : JH} {Q : Option JV → JH → Prop} {off : Int} {a : Int} (hd : decode y.2.1 pc = .ok (.ifCond .le off, 3)) (ht : (pc : Int) + off = (tgt : Int)) (hq : pc + 3 = q) (kt : a ≤ 0 → JAt κ d y tgt ls st h Q) (kf : ¬ (a ≤ 0) → JAt κ d y q ls st h Q) : JAt κ d y pc ls (vi a :: st) h Q := by
  subst hq
  intro p l e s m args below meth c D cA A n0 ad0 C ad H locs lsA P
  have ra : r32 a := ok_h P.2.1
  have P' : JP y D cA A s H locs n0 ad0 ad lsA ls st h := ⟨P.1, ok_t P.2.1, P.2.2⟩
  exact lv_if_le C.1 C.2.1 hd ht (fun z => kt ((oi_le ra r32_0).mp z) p l e s m args below meth c D cA A n0 ad0 C ad H locs lsA P') (fun z => kf (fun w => z ((oi_le ra r32_0).mpr w)) p l e s m args below meth c D cA A n0 ad0 C ad H locs lsA P')
theorem st_tableOut {κ : JK} {d : Nat} {y : JM} {pc tgt : Nat} {ls st : List JV} {h : JH} {Q : Option JV → JH → Prop} {dflt lo hi : Int} {offs : Array Int} {len : Nat} {a : Int} (hd : decode y.2.1 pc = .ok (.tableswitch dflt lo hi offs, len)) (ha : a < lo ∨ hi < a) (ht : (pc : Int) + dflt = (tgt : Int)) (k : JAt κ d y tgt ls st h Q) : JAt κ d y pc ls (vi a :: st) h Q := by
  intro p l e s m args below meth c D cA A n0 ad0 C ad H locs lsA P
  have ra : r32 a := ok_h P.2.1
  exact lv_tableOut C.1 C.2.1 hd (by rw [oi_to ra]; exact ha) ht (k p l e s m args below meth c D cA A n0 ad0 C ad H locs lsA ⟨P.1, ok_t P.2.1, P.2.2⟩)
theorem st_tableIn {κ : JK} {d : Nat} {y : JM} {pc tgt : Nat} {ls st : List JV} {h : JH} {Q : Option JV → JH → Prop} {dflt lo hi : Int} {offs : Array Int} {len : Nat} {a off : Int} (hd : decode y.2.1 pc = .ok (.tableswitch dflt lo hi offs, len)) (v : Int) (ha : a = v) (h1 : ¬ v < lo) (h2 : ¬ hi < v) (ho : offs[(v - lo).toNat]? = some off) (ht : (pc : Int) + off = (tgt : Int)) (k : JAt κ d y tgt ls st h Q) : JAt κ d y pc ls (vi a :: st) h Q := by
  subst ha
  intro p l e s m args below meth c D cA A n0 ad0 C ad H locs lsA P
  have ra : r32 a := ok_h P.2.1
  exact lv_tableIn C.1 C.2.1 hd (by rw [oi_to ra]; exact h1) (by rw [oi_to ra]; exact h2) (by rw [oi_to ra]; exact ho) ht (k p l e s m args below meth c D cA A n0 ad0 C ad H locs lsA ⟨P.1, ok_t P.2.1, P.2.2⟩)
