/-! the law: what the skeleton says -/
def R_law : String := "ShadowNightLaw"
def lw_P (b : Addr) (xs : List Int32) (args : Array Value) (s : State) : Prop := args = #[.ref b] ∧ s.IntsAt b xs ∧ xs.length ≤ 3584 ∧ (Jvm.Cond.and given_1 narrow_1).before args s = true
def lw_Q (_ : Array Value) (s : State) (o : Outcome) (t : State) : Prop := o = .returned (some (.int 1)) ∧ Framed s o t [] 600000 7302250
def lw_Z (below : List Frame) (a : Array Value) (s : State) : State → Prop := fun t => ∃ o, t.status = .running ∧ Ended t below o ∧ lw_Q a s o t
/-- the law's own end, with 1 on the stack, nothing written that was there before, its room as the claim has it -/
theorem lw_ret {p : Program} {l : Launch} {e : Env} {s : State} {m : MethodId} {below : List Frame} {meth : Method} {c : Code} {b : Nat} (hx : p.tables.exec = Jvm.exec) (hb : c.code = code) (hr : meth.sig.returnType = ret) (hlocks : meth.locks = false) {pc : Nat} {H : Heap} {ls : Array Slot} (hdg : decode code pc = .ok (.ireturn, 1)) : W p l e room_1 s m #[Value.ref b] below meth c H [] 600000 7302250 (lw_Z below #[Value.ref b] s) (F0 m pc ls [.int 1]) := by
  intro T hT X
  obtain ⟨fs, hret, hrun, hended, hW, hframe⟩ := X.leave (v := some (.int 1)) (hlocks := hlocks) (fun h => by rw [hr] at h; cases h)
  have hmeth' : T.vm.method? m = some meth := X.method'
  refine ⟨T.setFrames fs, ?_, .returned (some (.int 1)), hrun, hended, rfl, ⟨_, rfl⟩, hW, hframe⟩
  jvm_step X.here [X.here.top, hx, hb, hdg, hmeth', hr, ret, narrow_b1]
  (try refine ⟨rfl, ?_⟩); (try refine ⟨rfl, ?_⟩)
  first | (intro acts; rw [hret _ acts rfl rfl rfl]) | rw [hret _ _ rfl rfl rfl]
  exact Steps.refl _
/-- what holds at the law's entry: the machine, the code, the tables' words (any of lw_tbl by 'hts w (by decide +kernel)'), the script of L ints xs at the cell b, what the Statement gives of the start (any of its parts by flat_of_before) -/
def lw_At (p : Program) (s : State) (m : MethodId) (meth : Method) (c : Code) (b L : Nat) (xs : Nat → Int32) : Prop :=
  p.tables.exec = Jvm.exec ∧ c.code = code ∧ meth.sig.returnType = ret ∧ c.maxLocals = 4 ∧ s.vm.findClass R_law = some m.cls ∧ (∀ w ∈ lw_tbl, w.before #[Value.ref b] s = true) ∧ va_X b L xs s s.heap ∧ b < s.heap.size ∧ meth.locks = false ∧ (Jvm.Cond.and given_1 narrow_1).before #[Value.ref b] s = true
/-! the law: rows -/
def jLaw : JM := (x, code, 4, some .boolean)
def jKeep (H H1 : Heap) : Prop := ∀ (a : Nat) (c : Cell), H[a]? = some c → ∃ c' : Cell, H1[a]? = some c' ∧ c'.cls = c.cls ∧ c'.vm = c.vm
def JQk (Q : Option JV → JH → Prop) (n0 : Nat) (ad0 : Nat → Nat) (D : va_G) (cA : Nat → ClassId) (A : Nat → Prop) : Array Value → State → Outcome → State → Prop := fun a st oc t => JQ Q n0 ad0 D cA A a st oc t ∧ jKeep st.heap t.heap
theorem JRet_keep {mc ms d : Nat} {y : JM} {vs : List JV} {h : JH} {Q : Option JV → JH → Prop} (hR : JRet mc ms d y vs h Q) (l : Launch) (D : va_G) (cA : Nat → ClassId) (ad : Nat → Nat) (sz : Nat) (ho : okh h) (hv : ∀ v ∈ vs, okv h.1.length v) : Met l y.1 (jw y) (jrm d mc ms) (JPc vs h D cA ad sz) (JQk Q h.1.length ad D cA (va_A (jws cA ad h) sz)) mc ms (va_A (jws cA ad h) sz) := by
  refine MetFree.mono (hR l D cA ad sz ho hv) (fun _ _ z => z) (fun _ _ _ _ _ z => z) (fun a s o s' _ z => ?_)
  obtain ⟨z1, L, ⟨z2, z3, z4⟩, z5⟩ := z
  refine ⟨⟨z1, fun q c hc => ?_⟩, L, ⟨z2, z3, z4⟩, z5⟩
  obtain ⟨c', w1, w2, -⟩ := z4.2.2.2.2.2 q c hc
  exact ⟨c', w1, by rw [w2], by rw [w2]⟩
section JWK
variable {p : Program} {l : Launch} {e : Env} {R : Room} {s : State} {m : MethodId} {args : Array Value} {below : List Frame} {meth : Method} {c : Code} {H : Heap} {locs : List Loc} {cells slots mc ms : Nat} {Q : State → Prop}
theorem jW_callK {D : va_G} {cA : Nat → ClassId} {Q' : Option JV → JH → Prop} {n pc : Nat} {ad : Nat → Nat} {A0 A1 : Nat → Prop} {H0 : Heap} {lsA : Array Slot} {st0 rest : List Value} {a : Array Value} {free : Addr → Prop} (hr : va_Run p l e R s m args below meth c H locs cells slots mc ms (F0 m pc lsA st0) rest (JQk Q' n ad D cA A1 a) free) (hS : va_S A0 H0 H locs) (hA : ∀ q, A1 q → A0 q) (hf : ∀ q, free q → A0 q)
    (kk : ∀ (r : Option JV) (h' : JH) (ad' : Nat → Nat) (H1 : Heap) (locs1 : List Loc), Q' r h' → okh h' → (∀ v ∈ r, okv h'.1.length v) → n ≤ h'.1.length → (∀ a, a < n → ad' a = ad a) → va_P D vwCl (jws cA ad' h') H1 → va_D A0 (jws cA ad' h') → va_S A0 H0 H1 locs1 → jKeep H H1 → W p l e R s m args below meth c H1 locs1 (cells + mc) (slots + ms) Q (F0 m (pc + 3) lsA ((r.map (cvv ad')).toList ++ rest))) : W p l e R s m args below meth c H locs cells slots Q (F0 m pc lsA st0) := by
  intro T hT X
  obtain ⟨v, st₀, t, T', L, h0, X', hL, e1, e2, ⟨⟨⟨r, h', ad', hv, hq, hok, hrv, hn, hag, hP, hD⟩, hz, hk⟩, hkp⟩, st⟩ := hr T hT X
  have hv : v = r.map (cvv ad') := by cases hv; rfl
  subst hv
  rw [h0] at hz hk hkp
  obtain ⟨t2, a1, b1⟩ := kk r h' ad' T'.heap (locs ++ L) hq hok hrv hn hag (by rw [e1]; exact hP) (hD.weaken (fun _ _ _ z => hA _ z))
    ⟨Nat.le_trans hS.1 (by rw [e1]; exact hz), fun q h1 h2 => by rw [e1, hk q (Nat.lt_of_lt_of_le h1 hS.1) (fun z => h2 (hA q z))]; exact hS.2.1 q h1 h2, fun q hq => by
      rcases List.mem_append.mp hq with h | h
      · exact hS.2.2 q h
      · exact hf _ (hL q h)⟩ (by rw [e1]; exact hkp) T' rfl X'
  exact ⟨t2, st t2 a1, b1⟩
end JWK
def lA (s : State) : Nat → Prop := fun q => s.heap.size ≤ q
def LRc (s : State) (H : Heap) (a : Nat) (C : String) : Prop := ∃ cell : Cell, H[a]? = some cell ∧ cell.vm.isStatics = false ∧ s.vm.findClass C = some cell.cls
theorem LRc_keep {s : State} {H H1 : Heap} {a : Nat} {C : String} (k : jKeep H H1) (r : LRc s H a C) : LRc s H1 a C := by
  obtain ⟨cell, h1, h2, h3⟩ := r
  obtain ⟨c', w1, w2, w3⟩ := k a cell h1
  exact ⟨c', w1, by rw [w3]; exact h2, by rw [w2]; exact h3⟩
def LSt (s : State) (D : va_G) (cA : Nat → ClassId) (b : Nat) (i : Int) (h : JH) (ad : Nat → Nat) (H : Heap) (locs : List Loc) (lsA : Array Slot) : Prop :=
  okh h ∧ 151 ≤ h.1.length ∧ va_P D vwCl (jws cA ad h) H ∧ va_D (lA s) (jws cA ad h) ∧ va_S (lA s) s.heap H locs ∧ lv_has lsA 4 [(0, .ref b), (1, .ref (ad 0)), (2, .ref (ad 117)), (3, .int (Int32.ofInt i))] ∧ LRc s H (ad 0) (jcl 11).1 ∧ LRc s H (ad 117) (jcl 12).1
def LAt (p : Program) (l : Launch) (e : Env) (s : State) (m : MethodId) (below : List Frame) (meth : Method) (c : Code) (b : Nat) (D : va_G) (cA : Nat → ClassId) (i : Int) (pc : Nat) (st : List JV) (h : JH) : Prop := ∀ (ad : Nat → Nat) (H : Heap) (locs : List Loc) (lsA : Array Slot), LSt s D cA b i h ad H locs lsA → (∀ v ∈ st, okv h.1.length v) → W p l e room_1 s m #[Value.ref b] below meth c H locs 151 13518 (lw_Z below #[Value.ref b] s) (F0 m pc lsA (st.map (cvv ad)))
def LC (p : Program) (s : State) (m : MethodId) (meth : Method) (c : Code) (b L : Nat) (xs : Nat → Int32) (D : va_G) (cA : Nat → ClassId) : Prop := lw_At p s m meth c b L xs ∧ va_K D vwCl (jtys cA) s ∧ jX s ∧ L ≤ 3584
theorem l_x1 {p : Program} {l : Launch} {e : Env} {s : State} {m : MethodId} {below : List Frame} {meth : Method} {c : Code} {b L : Nat} {xs : Nat → Int32} {D : va_G} {cA : Nat → ClassId} (C : LC p s m meth c b L xs D cA) {i : Int} {pc q : Nat} {st : List JV} {h : JH} (hd : decode code pc = .ok (.aload_n 1, 1)) (hq : pc + 1 = q) (k : LAt p l e s m below meth c b D cA i q (vr 0 :: st) h) : LAt p l e s m below meth c b D cA i pc st h := by
  subst hq
  intro ad H locs lsA P o
  exact lv_aload_n C.1.1 C.1.2.1 hd rfl (lv_at P.2.2.2.2.2.1 1 rfl) (k ad H locs lsA P (ok_c (show 0 < h.1.length by have := P.2.1; omega) o))
theorem l_x2 {p : Program} {l : Launch} {e : Env} {s : State} {m : MethodId} {below : List Frame} {meth : Method} {c : Code} {b L : Nat} {xs : Nat → Int32} {D : va_G} {cA : Nat → ClassId} (C : LC p s m meth c b L xs D cA) {i : Int} {pc q : Nat} {st : List JV} {h : JH} (hd : decode code pc = .ok (.aload_n 2, 1)) (hq : pc + 1 = q) (k : LAt p l e s m below meth c b D cA i q (vr 117 :: st) h) : LAt p l e s m below meth c b D cA i pc st h := by
  subst hq
  intro ad H locs lsA P o
  exact lv_aload_n C.1.1 C.1.2.1 hd rfl (lv_at P.2.2.2.2.2.1 2 rfl) (k ad H locs lsA P (ok_c (show 117 < h.1.length by have := P.2.1; omega) o))
/-- an int of the script lies on the stack -/
theorem l_ld {p : Program} {l : Launch} {e : Env} {s : State} {m : MethodId} {below : List Frame} {meth : Method} {c : Code} {b L : Nat} {xs : Nat → Int32} {D : va_G} {cA : Nat → ClassId} (C : LC p s m meth c b L xs D cA) {n k pc q : Nat} {st : List JV} {h : JH} {ad : Nat → Nat} {H : Heap} {locs : List Loc} {lsA : Array Slot} (hn : n + 7 ≤ L) (hk : k < 7) (hd : decode code pc = .ok (.iaload, 1)) (hq : pc + 1 = q) (kk : LAt p l e s m below meth c b D cA n q (vi (xs (n + k)).toInt :: st) h) (P : LSt s D cA b n h ad H locs lsA) (o : ∀ v ∈ st, okv h.1.length v) : W p l e room_1 s m #[Value.ref b] below meth c H locs 151 13518 (lw_Z below #[Value.ref b] s) (F0 m pc lsA (.int (Int32.ofInt ((n : Int) + (k : Int))) :: .ref b :: st.map (cvv ad))) := by
  subst hq
  obtain ⟨⟨hx, hb, -, -, -, -, hXs, hbl, -, -⟩, -, -, hL⟩ := C
  have rr : r32 ((n : Int) + (k : Int)) := ⟨by omega, by omega⟩
  refine va_sld hx hb hXs hbl (show ¬ lA s b from Nat.not_le.mpr hbl) P.2.2.2.2.1 (oi_in rr (by omega) (by omega)) hd ?_
  rw [oi_clamp rr, show ((n : Int) + (k : Int)).toNat = n + k by omega]
  have go := kk ad H locs lsA P (ok_c (ti_r _) o)
  rw [List.map_cons, show cvv ad (vi (xs (n + k)).toInt) = .int (xs (n + k)) by show Value.int (Int32.ofInt _) = _; rw [Int32.ofInt_toInt]] at go
  exact go
theorem l_arg {p : Program} {l : Launch} {e : Env} {s : State} {m : MethodId} {below : List Frame} {meth : Method} {c : Code} {b L : Nat} {xs : Nat → Int32} {D : va_G} {cA : Nat → ClassId} (C : LC p s m meth c b L xs D cA) {n : Nat} {k : Nat} {kc : Int} {pc q : Nat} {st : List JV} {h : JH} (hn : n + 7 ≤ L) (hk : k < 7) (hkc : kc = (k : Int)) (h1 : decode code pc = .ok (.aload_n 0, 1)) (h2 : decode code (pc + 1) = .ok (.iload_n 3, 1)) (h3 : decode code (pc + 2) = .ok (.iconst kc, 1)) (h4 : decode code (pc + 3) = .ok (.iadd, 1)) (h5 : decode code (pc + 4) = .ok (.iaload, 1)) (hq : pc + 5 = q) (kk : LAt p l e s m below meth c b D cA n q (vi (xs (n + k)).toInt :: st) h) : LAt p l e s m below meth c b D cA n pc st h := by
  subst hkc
  intro ad H locs lsA P o
  have hl := P.2.2.2.2.2.1
  refine lv_aload_n C.1.1 C.1.2.1 h1 rfl (lv_at hl 0 rfl) ?_
  refine lv_iload_n C.1.1 C.1.2.1 h2 rfl (lv_at hl 3 rfl) ?_
  refine lv_iconst C.1.1 C.1.2.1 h3 rfl ?_
  refine lv_iadd C.1.1 C.1.2.1 h4 ?_
  rw [← Int32.ofInt_add]
  exact l_ld C hn hk h5 hq kk P o
theorem l_argb {p : Program} {l : Launch} {e : Env} {s : State} {m : MethodId} {below : List Frame} {meth : Method} {c : Code} {b L : Nat} {xs : Nat → Int32} {D : va_G} {cA : Nat → ClassId} (C : LC p s m meth c b L xs D cA) {n : Nat} {k : Nat} {kc : Int} {pc q : Nat} {st : List JV} {h : JH} (hn : n + 7 ≤ L) (hk : k < 7) (hkc : kc = (k : Int)) (h1 : decode code pc = .ok (.aload_n 0, 1)) (h2 : decode code (pc + 1) = .ok (.iload_n 3, 1)) (h3 : decode code (pc + 2) = .ok (.bipush kc, 2)) (h4 : decode code (pc + 4) = .ok (.iadd, 1)) (h5 : decode code (pc + 5) = .ok (.iaload, 1)) (hq : pc + 6 = q) (kk : LAt p l e s m below meth c b D cA n q (vi (xs (n + k)).toInt :: st) h) : LAt p l e s m below meth c b D cA n pc st h := by
  subst hkc
  intro ad H locs lsA P o
  have hl := P.2.2.2.2.2.1
  refine lv_aload_n C.1.1 C.1.2.1 h1 rfl (lv_at hl 0 rfl) ?_
  refine lv_iload_n C.1.1 C.1.2.1 h2 rfl (lv_at hl 3 rfl) ?_
  refine lv_bipush C.1.1 C.1.2.1 h3 (oi_8 (by omega) (by omega)) ?_
  refine lv_iadd C.1.1 C.1.2.1 h4 ?_
  rw [← Int32.ofInt_add]
  exact l_ld C hn hk h5 hq kk P o
/-- '!= 0' of an int on the stack -/
theorem l_ne0 {p : Program} {l : Launch} {e : Env} {s : State} {m : MethodId} {below : List Frame} {meth : Method} {c : Code} {b L : Nat} {xs : Nat → Int32} {D : va_G} {cA : Nat → ClassId} (C : LC p s m meth c b L xs D cA) {i : Int} {a : Int} {pc q : Nat} {q1 q2 q3 : Nat} {st : List JV} {h : JH} (h1 : decode code pc = .ok (.ifCond .eq 7, 3)) (h2 : decode code q1 = .ok (.iconst 1, 1)) (h3 : decode code q2 = .ok (.goto 4, 3)) (h4 : decode code q3 = .ok (.iconst 0, 1)) (e1 : (q1, q2) = (pc + 3, pc + 4)) (e3 : q3 = pc + 7) (hq : q = pc + 8) (kk : LAt p l e s m below meth c b D cA i q (vi (if a = 0 then 0 else 1) :: st) h) : LAt p l e s m below meth c b D cA i pc (vi a :: st) h := by
  cases e1
  subst e3 hq
  intro ad H locs lsA P o
  have ra : r32 a := ok_h o
  have ok1 : ∀ v ∈ vi (if a = 0 then 0 else 1) :: st, okv h.1.length v := ok_c (show r32 (if a = 0 then 0 else 1) by split <;> exact ⟨by decide, by decide⟩) (ok_t o)
  have go := kk ad H locs lsA P ok1
  refine lv_if_eq (tgt := pc + 7) C.1.1 C.1.2.1 h1 (by omega) (fun z => ?_) (fun z => ?_)
  · have e : a = 0 := (oi_eq ra r32_0).mp z
    rw [if_pos e] at go
    exact lv_iconst C.1.1 C.1.2.1 h4 rfl go
  · have e : ¬ a = 0 := fun w => z (by rw [w]; rfl)
    rw [if_neg e] at go
    refine lv_iconst C.1.1 C.1.2.1 h2 rfl ?_
    exact lv_goto (tgt := pc + 8) C.1.1 C.1.2.1 h3 (by omega) go
theorem l_eq {p : Program} {l : Launch} {e : Env} {s : State} {m : MethodId} {below : List Frame} {meth : Method} {c : Code} {b L : Nat} {xs : Nat → Int32} {D : va_G} {cA : Nat → ClassId} (C : LC p s m meth c b L xs D cA) {i : Int} {x y : Int} {pc : Nat} {off : Int} {tgt : Nat} {h : JH} (hd : decode code pc = .ok (.if_icmp .eq off, 3)) (ht : (pc : Int) + off = (tgt : Int)) (e0 : x = y) (k : LAt p l e s m below meth c b D cA i tgt [] h) : LAt p l e s m below meth c b D cA i pc [vi y, vi x] h := by
  subst e0
  intro ad H locs lsA P o
  exact lv_icmp_eq C.1.1 C.1.2.1 hd ht (fun _ => k ad H locs lsA P (fun v hv => by simp at hv)) (fun z => absurd rfl z)
theorem l_leq {p : Program} {l : Launch} {e : Env} {s : State} {m : MethodId} {below : List Frame} {meth : Method} {c : Code} {b L : Nat} {xs : Nat → Int32} {D : va_G} {cA : Nat → ClassId} (C : LC p s m meth c b L xs D cA) {i : Int} {x y : Int} {pc : Nat} {off : Int} {tgt : Nat} {h : JH} (hd : decode code pc = .ok (.lcmp, 1)) (hd2 : decode code (pc + 1) = .ok (.ifCond .eq off, 3)) (ht : ((pc + 1 : Nat) : Int) + off = (tgt : Int)) (e0 : x = y) (k : LAt p l e s m below meth c b D cA i tgt [] h) : LAt p l e s m below meth c b D cA i pc [vl y, vl x] h := by
  subst e0
  intro ad H locs lsA P o
  refine W.lcmp C.1.1 C.1.2.1 hd ?_
  refine lv_if_eq C.1.1 C.1.2.1 hd2 ht (fun _ => k ad H locs lsA P (fun v hv => by simp at hv)) (fun z => absurd ?_ z)
  unfold lg_cmp
  simp
set_option maxHeartbeats 4000000 in
theorem l_call {p : Program} {l : Launch} {e : Env} {s : State} {m : MethodId} {below : List Frame} {meth : Method} {c : Code} {b L : Nat} {xs : Nat → Int32} {D : va_G} {cA : Nat → ClassId} (C : LC p s m meth c b L xs D cA) {i : Int} {y' : JM} {vs rest st : List JV} {a cc n idx pc q : Nat} {h : JH} {Q' : Option JV → JH → Prop} (hd : decode code pc = .ok (.invokevirtual idx, 3)) (hq : pc + 3 = q) (hw : Cond.methodLink RL idx y'.1 ∈ wsG) (hy : jMV y' n cc) (hn : vs.length = n) (hst : st = vs.reverse ++ vr a :: rest) (hrest : (rest.map jcat).sum ≤ 8) (ha : (a = 0 ∧ cc = 11) ∨ (a = 117 ∧ cc = 12)) (hR : JRet 0 0 24 y' (vr a :: vs) h Q') (kk : ∀ r h', Q' r h' → LAt p l e s m below meth c b D cA i q (r.toList ++ rest) h') : LAt p l e s m below meth c b D cA i pc st h := by
  subst hq
  intro ad H locs lsA P o
  obtain ⟨⟨hx, hb, -, hml, hown, hts, -, -, -, -⟩, hK, hX, -⟩ := C
  obtain ⟨hc1, hc2, hc3, hc4, hc5, hc6, hc7⟩ := hy
  obtain ⟨Po, Pl, PP, PD, PS, Pv, R0, R1⟩ := P
  have hrc : LRc s H (ad a) y'.1.cls := by
    rw [← hc7]
    rcases ha with ⟨rfl, rfl⟩ | ⟨rfl, rfl⟩
    · exact R0
    · exact R1
  have hbig : ∀ w ∈ wsG, w ∈ lw_tbl := fun w hw => wsG_tbl hw
  have hvs : ∀ v ∈ vr a :: vs, okv h.1.length v := fun v hv => o v (by
    rw [hst]
    rcases List.mem_cons.mp hv with z | z
    · subst z; exact List.mem_append_right _ List.mem_cons_self
    · exact List.mem_append_left _ (List.mem_reverse.mpr z))
  have hrs : ∀ v ∈ rest, okv h.1.length v := fun v hv => o v (by rw [hst]; exact List.mem_append_right _ (List.mem_cons_of_mem _ hv))
  have hM := JRet_keep hR l D cA ad H.size Po hvs
  have hF := jfree (D := D) PD PS (fun q hq => hq)
  have hcw : CallW room_1 s #[Value.ref b] RL y'.1.cls idx y'.1 y'.2.1 y'.2.2.1 y'.2.2.2 (jw y') (jrm 24 0 0) 0 0 n := cwV n hts (by
      unfold wsV
      exact goodIn_c hbig hw (goodIn_c hbig hc2 (goodIn_c hbig hc3 (goodIn_c hbig hc4 (jw_goodIn hbig hc1))))) rfl rfl rfl ⟨rfl, hc5.1, hc5.2.1, hc5.2.2.1⟩ ⟨by show 24 + 1 ≤ 2048; decide, by have := hc5.2.2.2; show 8 + (y'.2.2.1 + 11) + 64 * 24 ≤ 84000; omega⟩
  have hPV : PreV s H y'.1.cls (ad a) (JPc (vr a :: vs) h D cA ad H.size) (vs.map (cvv ad)) := ⟨JPc_blind, hrc, fun U hU hW => ⟨rfl, by rw [hU], by rw [hU]; exact PP, va_K.moved hW.alike hK, PD.weaken (fun _ _ _ _ => trivial), jX.warm hW hX⟩⟩
  have hown : s.vm.findClass RL = some m.cls := hown
  refine jW_callK (va_runV (As := vs.map (cvv ad)) (rest := rest.map (cvv ad)) ⟨hx, hb, hml, hown, hts⟩ hM hcw hPV rfl (by rw [List.length_map]; exact hn) Pv.1 (by
      show st.map (cvv ad) = _
      rw [hst, List.map_append, List.map_reverse]; rfl) (lv_room (by rw [jcats]; exact hrest)) hd ⟨Nat.le_of_ble_eq_true rfl, Nat.le_of_ble_eq_true rfl⟩) PS hF hF (fun r h' ad' H1 locs1 hq hok hrv hn1 hag hP hD hS hkp => ?_)
  have a0 : ad' 0 = ad 0 := hag 0 (by omega)
  have a1 : ad' 117 = ad 117 := hag 117 (by omega)
  have go := kk r h' hq ad' H1 locs1 lsA ⟨hok, by omega, hP, hD, hS, by rw [a0, a1]; exact Pv, by rw [a0]; exact LRc_keep hkp R0, by rw [a1]; exact LRc_keep hkp R1⟩ (fun v hv => by
      rcases List.mem_append.mp hv with z | z
      · exact hrv v (Option.mem_toList.mp z)
      · exact okv_up hn1 (hrs v z))
  rw [List.map_append, mcv_cg hag hrs] at go
  cases r <;> exact go
