/-! methods, words, contexts; the judgements JAt (at an instruction) and JRet (a call) -/
abbrev JM : Type := MethodName × ByteArray × Nat × Option FieldType
def wsG : List Cond := lw_tbl.filter goodWord
def jcode (y : JM) : Cond := .code y.1 y.2.1 y.2.2.1 y.2.2.2
def jw (y : JM) : List Cond := jcode y :: wsG
theorem wsG_good {w : Cond} (h : w ∈ wsG) : (w.onTables && w.keeps) = true ∨ ∃ ty, w = .arrayClass ty := good_of_word (List.mem_filter.mp h).2
theorem wsG_tbl {w : Cond} (h : w ∈ wsG) : w ∈ lw_tbl := (List.mem_filter.mp h).1
theorem jw_goodIn {big : List Cond} (hb : ∀ w ∈ wsG, w ∈ big) {y : JM} (hc : jcode y ∈ wsG) : GoodIn big (jw y) := by
  intro w hw
  rcases List.mem_cons.mp hw with e | hw
  · subst e; exact ⟨hb _ hc, wsG_good hc⟩
  · exact ⟨hb w hw, wsG_good hw⟩
theorem jw_in (y : JM) : ∀ w ∈ wsG, w ∈ jw y := fun _ h => List.mem_cons_of_mem _ h
/-- words that are not kept over a call of themselves: nest links, arrays of own classes -/
def jX (U : State) : Prop := (∀ q ∈ jnest, va_Nw (.methodLinkNest q.1 q.2.1 q.2.2.1 q.2.2.2) U) ∧ va_AO RX9 U ∧ va_AO RX2 U ∧ va_AO RX5 U ∧ va_AO RX3 U
theorem jX.warm {s U : State} (hW : s.WarmedH U.vm) (h : jX s) : jX U := ⟨fun q hq => (h.1 q hq).warmM hW, h.2.1.moved hW.alike, h.2.2.1.moved hW.alike, h.2.2.2.1.moved hW.alike, h.2.2.2.2.moved hW.alike⟩
theorem jX.same {s U : State} (hv : s.vm = U.vm) (h : jX s) : jX U := by
  have e : s.vm.Alike U.vm := by rw [hv]; exact Vm.Alike.refl U.vm
  exact ⟨fun q hq => (h.1 q hq).same rfl hv, h.2.1.moved e, h.2.2.1.moved e, h.2.2.2.1.moved e, h.2.2.2.2.moved e⟩
def jrm (d mc ms : Nat) : Room := { frames := d, cells := mc, slots := ms, locals := 64 * d }
/-- what is fixed while a method runs -/
def JC (y : JM) (p : Program) (s : State) (m : MethodId) (args : Array Value) (meth : Method) (c : Code) (D : va_G) (cA : Nat → ClassId) (A : Nat → Prop) : Prop :=
  p.tables.exec = Jvm.exec ∧ c.code = y.2.1 ∧ c.maxLocals = y.2.2.1 ∧ meth.sig.returnType = y.2.2.2 ∧ meth.locks = false ∧ s.vm.findClass y.1.cls = some m.cls ∧ meth.name = y.1.name ∧ (∀ w ∈ jw y, w.before args s = true) ∧ va_K D vwCl (jtys cA) s ∧ jX s ∧ (∀ q, s.heap.size ≤ q → A q)
/-- locals -/
def JL (ad : Nat → Nat) (lsA : Array Slot) (nL : Nat) (ls : List JV) : Prop := lsA.size = nL ∧ lv_wf lsA ∧ ∀ (i : Nat) (v : JV), ls[i]? = some v → v ≠ vn → lsA[i]? = some (.val (cvv ad v))
/-- the real state holds the plain one -/
def JP (y : JM) (D : va_G) (cA : Nat → ClassId) (A : Nat → Prop) (s : State) (H : Heap) (locs : List Loc) (n0 : Nat) (ad0 ad : Nat → Nat) (lsA : Array Slot) (ls st : List JV) (h : JH) : Prop :=
  okh h ∧ (∀ v ∈ st, okv h.1.length v) ∧ (∀ v ∈ ls, okv h.1.length v) ∧ va_P D vwCl (jws cA ad h) H ∧ va_D A (jws cA ad h) ∧ va_S A s.heap H locs ∧ n0 ≤ h.1.length ∧ (∀ a, a < n0 → ad a = ad0 a) ∧ JL ad lsA y.2.2.1 ls
/-- a method's end -/
def JQ (Q : Option JV → JH → Prop) (n0 : Nat) (ad0 : Nat → Nat) (D : va_G) (cA : Nat → ClassId) (A : Nat → Prop) : Array Value → State → Outcome → State → Prop := fun _ st oc t =>
  (∃ (r : Option JV) (h : JH) (ad : Nat → Nat), oc = .returned (r.map (cvv ad)) ∧ Q r h ∧ okh h ∧ (∀ v ∈ r, okv h.1.length v) ∧ n0 ≤ h.1.length ∧ (∀ a, a < n0 → ad a = ad0 a) ∧ va_P D vwCl (jws cA ad h) t.heap ∧ va_D A (jws cA ad h)) ∧ va_F A st t
abbrev JK : Type := Nat × Nat × Nat × Nat
def JAt (κ : JK) (d : Nat) (y : JM) (pc : Nat) (ls st : List JV) (h : JH) (Q : Option JV → JH → Prop) : Prop :=
  ∀ (p : Program) (l : Launch) (e : Env) (s : State) (m : MethodId) (args : Array Value) (below : List Frame) (meth : Method) (c : Code) (D : va_G) (cA : Nat → ClassId) (A : Nat → Prop) (n0 : Nat) (ad0 : Nat → Nat), JC y p s m args meth c D cA A →
  ∀ (ad : Nat → Nat) (H : Heap) (locs : List Loc) (lsA : Array Slot), JP y D cA A s H locs n0 ad0 ad lsA ls st h →
    W p l e (jrm d κ.1 κ.2.1) s m args below meth c H locs κ.2.2.1 κ.2.2.2 (MQ below (JQ Q n0 ad0 D cA A) args s κ.1 κ.2.1 A) (F0 m pc lsA (st.map (cvv ad)))
def JRet (mc ms d : Nat) (y : JM) (vs : List JV) (h : JH) (Q : Option JV → JH → Prop) : Prop :=
  ∀ (l : Launch) (D : va_G) (cA : Nat → ClassId) (ad : Nat → Nat) (sz : Nat), okh h → (∀ v ∈ vs, okv h.1.length v) →
    Met l y.1 (jw y) (jrm d mc ms) (va_Pc (vs.map (cvv ad)) (fun U => U.heap.size = sz ∧ va_P D vwCl (jws cA ad h) U.heap ∧ va_K D vwCl (jtys cA) U ∧ va_D (fun _ => True) (jws cA ad h) ∧ jX U)) (JQ Q h.1.length ad D cA (va_A (jws cA ad h) sz)) mc ms (va_A (jws cA ad h) sz)
/-- locals at the start of a method -/
def jent : List JV → List JV
  | [] => []
  | .inl (.inr x) :: r => vl x :: vn :: jent r
  | v :: r => v :: jent r
def jpad (vs : List JV) (n : Nat) : List JV := jent vs ++ List.replicate (n - (jent vs).length) vn
theorem jent_cat (ad : Nat → Nat) (v : JV) : (cvv ad v).category = 2 ↔ ∃ x, v = vl x := by
  rcases v with (x | x) | (_ | a)
  · exact ⟨fun h => by simp [cvv, Value.category] at h, fun ⟨y, h⟩ => by cases h⟩
  · exact ⟨fun _ => ⟨x, rfl⟩, fun _ => rfl⟩
  · exact ⟨fun h => by simp [cvv, Value.category] at h, fun ⟨y, h⟩ => by cases h⟩
  · exact ⟨fun h => by simp [cvv, Value.category] at h, fun ⟨y, h⟩ => by cases h⟩
theorem jent_at (ad : Nat → Nat) : ∀ (vs : List JV) (n i : Nat) (v : JV), (jent vs)[i]? = some v → v ≠ vn → (n + i, cvv ad v) ∈ lv_args n (vs.map (cvv ad))
  | [], n, i, v, h, _ => by simp [jent] at h
  | .inl (.inr x) :: r, n, 0, v, h, _ => by
    have : v = vl x := by simpa [jent] using h.symm
    subst this
    exact List.mem_cons_self
  | .inl (.inr x) :: r, n, 1, v, h, hn => by
    have : v = vn := by simpa [jent] using h.symm
    exact absurd this hn
  | .inl (.inr x) :: r, n, i + 2, v, h, hn => by
    have h : (jent r)[i]? = some v := by simpa [jent] using h
    have := jent_at ad r (n + 2) i v h hn
    refine List.mem_cons_of_mem _ ?_
    show (n + (i + 2), cvv ad v) ∈ lv_args (if (2 : Nat) = 2 then n + 2 else n + 1) (r.map (cvv ad))
    rw [if_pos rfl, show n + (i + 2) = n + 2 + i by omega]
    exact this
  | .inl (.inl x) :: r, n, 0, v, h, _ => by
    have : v = vi x := by simpa [jent] using h.symm
    subst this
    exact List.mem_cons_self
  | .inl (.inl x) :: r, n, i + 1, v, h, hn => by
    have h : (jent r)[i]? = some v := by simpa [jent] using h
    have := jent_at ad r (n + 1) i v h hn
    refine List.mem_cons_of_mem _ ?_
    show (n + (i + 1), cvv ad v) ∈ lv_args (if (1 : Nat) = 2 then n + 2 else n + 1) (r.map (cvv ad))
    rw [if_neg (by decide), show n + (i + 1) = n + 1 + i by omega]
    exact this
  | .inr w :: r, n, 0, v, h, _ => by
    have : v = .inr w := by simpa [jent] using h.symm
    subst this
    exact List.mem_cons_self
  | .inr w :: r, n, i + 1, v, h, hn => by
    have h : (jent r)[i]? = some v := by simpa [jent] using h
    have := jent_at ad r (n + 1) i v h hn
    refine List.mem_cons_of_mem _ ?_
    have e : (cvv ad (.inr w)).category ≠ 2 := by
      intro q
      obtain ⟨x, hx⟩ := (jent_cat ad _).mp q
      cases hx
    show (n + (i + 1), cvv ad v) ∈ lv_args (if (cvv ad (.inr w)).category = 2 then n + 2 else n + 1) (r.map (cvv ad))
    rw [if_neg e, show n + (i + 1) = n + 1 + i by omega]
    exact this
theorem jent_len (ad : Nat → Nat) : ∀ vs : List JV, (lg_sl (vs.map (cvv ad))).length = (jent vs).length
  | [] => rfl
  | .inl (.inr x) :: r => by
    have := jent_len ad r
    simp [lg_sl, jent, cvv, Value.category] at this ⊢
    omega
  | .inl (.inl x) :: r => by
    have := jent_len ad r
    simp [lg_sl, jent, cvv, Value.category] at this ⊢
    omega
  | .inr none :: r => by
    have := jent_len ad r
    simp [lg_sl, jent, cvv, Value.category] at this ⊢
    omega
  | .inr (some a) :: r => by
    have := jent_len ad r
    simp [lg_sl, jent, cvv, Value.category] at this ⊢
    omega
theorem jent_ok {n : Nat} : ∀ {vs : List JV}, (∀ v ∈ vs, okv n v) → ∀ v ∈ jent vs, okv n v
  | [], _, v, h => by simp [jent] at h
  | .inl (.inr x) :: r, H, v, h => by
    rcases List.mem_cons.mp h with e | h
    · subst e; exact H _ List.mem_cons_self
    · rcases List.mem_cons.mp h with e | h
      · subst e; exact trivial
      · exact jent_ok (fun v hv => H v (List.mem_cons_of_mem _ hv)) v h
  | .inl (.inl x) :: r, H, v, h => by
    rcases List.mem_cons.mp h with e | h
    · subst e; exact H _ List.mem_cons_self
    · exact jent_ok (fun v hv => H v (List.mem_cons_of_mem _ hv)) v h
  | .inr w :: r, H, v, h => by
    rcases List.mem_cons.mp h with e | h
    · subst e; exact H _ List.mem_cons_self
    · exact jent_ok (fun v hv => H v (List.mem_cons_of_mem _ hv)) v h
set_option maxHeartbeats 4000000 in
theorem JRet.of {mc ms d : Nat} {y : JM} {vs : List JV} {h : JH} {Q : Option JV → JH → Prop} (hp : plainName y.1.cls = true) (hn : (jent vs).length ≤ y.2.2.1) (k : JAt (mc, ms, 0, 0) d y 0 (jpad vs y.2.2.1) [] h Q) : JRet mc ms d y vs h Q := by
  intro l D cA ad sz hok hvs
  refine Met.ofW (cc := y.2.1) (maxL := y.2.2.1) (ret := y.2.2.2) hp rfl ?_
  intro p e s m args below meth c s₁ B hml hv
  obtain ⟨rfl, hsz, hP, hK, hD0, hX⟩ := hv
  subst hsz
  have hD := hD0.self (sz := s.heap.size)
  have hl := lv_entry (vs.map (cvv ad)) (n := y.2.2.1) (by rw [jent_len]; exact hn)
  rw [lg_entry_eq]
  generalize (lg_sl (vs.map (cvv ad)) ++ List.replicate (y.2.2.1 - (lg_sl (vs.map (cvv ad))).length) Slot.unset).toArray = ls at hl ⊢
  refine k p l e s m _ below meth c D cA _ h.1.length ad ⟨B.exec, B.bytes, hml, B.returns, B.notSynchronized, findClass_of_methodNamed B.named, (name_of_methodNamed B.named B.method).1, atoms_spec (ws := jw y) B.pre, hK, hX, fun q hq => Or.inr hq⟩ ad s.heap [] ls ⟨hok, fun v hv => by simp at hv, fun v hv => ?_, hP, hD, va_S.rf, Nat.le_refl _, fun _ _ => rfl, hl.1, hl.2.1, fun i v hi hv => ?_⟩
  · unfold jpad at hv
    rcases List.mem_append.mp hv with q | q
    · exact jent_ok hvs v q
    · rw [List.eq_of_mem_replicate q]; exact trivial
  · unfold jpad at hi
    rcases Nat.lt_or_ge i (jent vs).length with q | q
    · rw [List.getElem?_append_left q] at hi
      have := jent_at ad vs 0 i v hi hv
      rw [Nat.zero_add] at this
      exact hl.2.2 _ this
    · rw [List.getElem?_append_right q, List.getElem?_replicate] at hi
      split at hi
      · cases hi; exact absurd rfl hv
      · cases hi
