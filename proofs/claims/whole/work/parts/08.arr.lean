/-! rows of the plain machine: arrays, new -/
theorem cvv_cg {n : Nat} {ad ad' : Nat → Nat} (hag : ∀ a, a < n → ad' a = ad a) {v : JV} (o : okv n v) : cvv ad' v = cvv ad v := by
  rcases v with (x | x) | (_ | a)
  · rfl
  · rfl
  · rfl
  · show Value.ref (ad' a) = Value.ref (ad a)
    rw [hag a o]
theorem mcv_cg {n : Nat} {ad ad' : Nat → Nat} (hag : ∀ a, a < n → ad' a = ad a) {st : List JV} (o : ∀ v ∈ st, okv n v) : st.map (cvv ad') = st.map (cvv ad) := List.map_congr_left (fun v hv => cvv_cg hag (o v hv))
theorem JL.cg {n : Nat} {ad ad' : Nat → Nat} (hag : ∀ a, a < n → ad' a = ad a) {lsA : Array Slot} {nL : Nat} {ls : List JV} (o : ∀ v ∈ ls, okv n v) (L : JL ad lsA nL ls) : JL ad' lsA nL ls :=
  ⟨L.1, L.2.1, fun i v hi hn => by rw [cvv_cg hag (o v (List.mem_of_getElem? hi))]; exact L.2.2 i v hi hn⟩
theorem okv_up {n n' : Nat} (h : n ≤ n') {v : JV} (o : okv n v) : okv n' v := by
  rcases v with (x | x) | (_ | a)
  · exact o
  · exact o
  · exact o
  · exact Nat.lt_of_lt_of_le o h
theorem okvs_up {n n' : Nat} (h : n ≤ n') {st : List JV} (o : ∀ v ∈ st, okv n v) : ∀ v ∈ st, okv n' v := fun v hv => okv_up h (o v hv)
theorem jcell_cg {cA : Nat → ClassId} {ad ad' : Nat → Nat} {kind n : Nat} {fI fJ : Nat → Int} {fR : Nat → Option Nat} (h : ∀ k b, fR k = some b → ad' b = ad b) : jcell cA ad' kind n fI fJ fR = jcell cA ad kind n fI fJ fR := by
  have e : ∀ k, (fR k).map ad' = (fR k).map ad := fun k => by
    generalize hk : fR k = o
    cases o with
    | none => rfl
    | some b => show some (ad' b) = some (ad b); rw [h k b hk]
  have e2 : ∀ k ty, fvv ad' fI fJ fR k ty = fvv ad fI fJ fR k ty := fun k ty => by cases ty <;> simp [fvv, e]
  unfold jcell
  simp only [e, e2]
theorem jws_nw {cA : Nat → ClassId} {ad ad' : Nat → Nat} {h : JH} (o : okh h) (hag : ∀ a, a < h.1.length → ad' a = ad a) (kind n : Nat) : jws cA ad' (nw h kind n) = jws cA ad h ++ [(ad' h.1.length, jcell cA ad' kind n (fun _ => 0) (fun _ => 0) (fun _ => none))] := by
  apply List.ext_getElem?
  intro b
  rcases Nat.lt_trichotomy b h.1.length with q | q | q
  · rw [jws_at cA ad' (by rw [nw_len]; omega), List.getElem?_append_left (by rw [jws_len]; exact q), jws_at cA ad q]
    have e1 : hI (nw h kind n) b = hI h b := by funext j; show (if b = h.1.length then 0 else h.2.1 b j) = _; rw [if_neg (by omega)]; rfl
    have e2 : hJ (nw h kind n) b = hJ h b := by funext j; show (if b = h.1.length then 0 else h.2.2.1 b j) = _; rw [if_neg (by omega)]; rfl
    have e3 : hR (nw h kind n) b = hR h b := by funext j; show (if b = h.1.length then none else h.2.2.2 b j) = _; rw [if_neg (by omega)]; rfl
    unfold jce
    rw [hag b q, (nw_kd (show b ≠ h.1.length by omega)).1, (nw_kd (show b ≠ h.1.length by omega)).2, e1, e2, e3, jcell_cg (fun k x hx => hag x (o.2.2.1 b k x hx))]
  · subst q
    rw [jws_at cA ad' (by rw [nw_len]; omega), List.getElem?_append_right (by rw [jws_len]; exact Nat.le_refl _), jws_len, Nat.sub_self]
    have e1 : hI (nw h kind n) h.1.length = fun _ => 0 := by funext j; show (if h.1.length = h.1.length then 0 else h.2.1 _ j) = _; rw [if_pos rfl]
    have e2 : hJ (nw h kind n) h.1.length = fun _ => 0 := by funext j; show (if h.1.length = h.1.length then 0 else h.2.2.1 _ j) = _; rw [if_pos rfl]
    have e3 : hR (nw h kind n) h.1.length = fun _ => none := by funext j; show (if h.1.length = h.1.length then none else h.2.2.2 _ j) = _; rw [if_pos rfl]
    unfold jce
    rw [(nw_new h kind n).1, (nw_new h kind n).2, e1, e2, e3]
    rfl
  · rw [jws_out cA ad' (by rw [nw_len]; omega), List.getElem?_eq_none_iff.mpr (by rw [List.length_append, jws_len, List.length_singleton]; omega)]
theorem jce_int {cA : Nat → ClassId} {ad : Nat → Nat} {h : JH} {a t : Nat} (hk : kd h a = 20 + t) (ht : t < 2) : jce cA ad h a = .inl (cA t, ln h a, .inl (fun j => Int32.ofInt (hI h a j))) := by
  unfold jce jcell
  rw [if_neg (by omega), if_pos (by omega), hk, show 20 + t - 20 = t by omega]
theorem jce_ref {cA : Nat → ClassId} {ad : Nat → Nat} {h : JH} {a t : Nat} (hk : kd h a = 20 + t) (ht : 2 ≤ t) : jce cA ad h a = .inl (cA t, ln h a, .inr (.inr (.inr (.inr (fun j => (hR h a j).map ad))))) := by
  unfold jce jcell
  rw [if_neg (by omega), if_neg (by omega), hk, show 20 + t - 20 = t by omega]
def jtk (t : Nat) : Nat := match t with
  | 2 => 9 | 3 => 2 | 4 => 5 | _ => 3
theorem jtn_obj : ∀ {t : Nat}, 2 ≤ t → t < 6 → jtn t = .object (jcl (jtk t)).1
  | 0, h, _ => absurd h (by omega)
  | 1, h, _ => absurd h (by omega)
  | 2, _, _ => rfl | 3, _, _ => rfl | 4, _, _ => rfl | 5, _, _ => rfl
  | n + 6, _, h => absurd h (by omega)
theorem jfty_fd : ∀ c, c < 13 → ∀ k, k < jN c → jfty c k ≠ .float ∧ jfty c k ≠ .double := by decide +kernel
section AR
variable {κ : JK} {d : Nat} {y : JM} {pc q : Nat} {ls st : List JV} {h : JH} {Q : Option JV → JH → Prop}
theorem st_iaload {a : Nat} {i : Int} (hd : decode y.2.1 pc = .ok (.iaload, 1)) (hq : pc + 1 = q) (ha : kd h a = 20) (hi : 0 ≤ i ∧ i < ln h a) (kk : JAt κ d y q ls (vi (hI h a i.toNat) :: st) h Q) : JAt κ d y pc ls (vi i :: vr a :: st) h Q := by
  subst hq
  intro p l e s m args below meth c D cA A n0 ad0 C ad H locs lsA P
  have ri : r32 i := ok_h P.2.1
  refine va_iald C.1 C.2.1 C.2.2.2.2.2.2.2.2.1 P.2.2.2.1 a 0 ((jws_at cA ad (kd_lt ha (by omega))).trans (by rw [jce_int (t := 0) ha (by omega)])) (jtys_at (by omega)) (oi_in ri hi.1 hi.2) hd ?_
  rw [oi_clamp ri]
  exact kk p l e s m args below meth c D cA A n0 ad0 C ad H locs lsA ⟨P.1, ok_c (P.1.1 a _) (ok_t (ok_t P.2.1)), P.2.2⟩
theorem st_baload {a : Nat} {i : Int} (hd : decode y.2.1 pc = .ok (.baload, 1)) (hq : pc + 1 = q) (ha : kd h a = 21) (hi : 0 ≤ i ∧ i < ln h a) (kk : JAt κ d y q ls (vi (hI h a i.toNat) :: st) h Q) : JAt κ d y pc ls (vi i :: vr a :: st) h Q := by
  subst hq
  intro p l e s m args below meth c D cA A n0 ad0 C ad H locs lsA P
  have ri : r32 i := ok_h P.2.1
  refine va_zald C.1 C.2.1 C.2.2.2.2.2.2.2.2.1 P.2.2.2.1 a 1 ((jws_at cA ad (kd_lt ha (by omega))).trans (by rw [jce_int (t := 1) ha (by omega)])) (jtys_at (by omega)) (oi_in ri hi.1 hi.2) hd ?_
  rw [oi_clamp ri]
  exact kk p l e s m args below meth c D cA A n0 ad0 C ad H locs lsA ⟨P.1, ok_c (P.1.1 a _) (ok_t (ok_t P.2.1)), P.2.2⟩
theorem st_aaload {a b t : Nat} {i : Int} (hd : decode y.2.1 pc = .ok (.aaload, 1)) (hq : pc + 1 = q) (ht : 2 ≤ t ∧ t < 6) (ha : kd h a = 20 + t) (hi : 0 ≤ i ∧ i < ln h a) (hr : hR h a i.toNat = some b) (kk : JAt κ d y q ls (vr b :: st) h Q) : JAt κ d y pc ls (vi i :: vr a :: st) h Q := by
  subst hq
  intro p l e s m args below meth c D cA A n0 ad0 C ad H locs lsA P
  have ri : r32 i := ok_h P.2.1
  refine va_aldq C.1 C.2.1 C.2.2.2.2.2.2.2.2.1 P.2.2.2.1 a t ((jws_at cA ad (kd_lt ha (by omega))).trans (by rw [jce_ref ha ht.1])) ((jtys_at ht.2).trans (by rw [jtn_obj ht.1 ht.2])) (oi_in ri hi.1 hi.2) hd ?_
  rw [oi_clamp ri, hr]
  exact kk p l e s m args below meth c D cA A n0 ad0 C ad H locs lsA ⟨P.1, ok_c (P.1.2.2.1 a _ b hr) (ok_t (ok_t P.2.1)), P.2.2⟩
theorem sI_kd (h : JH) (a k : Nat) (v : Int) (b : Nat) : kd (sI h a k v) b = kd h b ∧ ln (sI h a k v) b = ln h b := ⟨rfl, rfl⟩
theorem jws_ai {cA : Nat → ClassId} {ad : Nat → Nat} {h : JH} {a t k : Nat} {v : Int} (ha : kd h a = 20 + t) (ht : t < 2) : (jws cA ad h).set a (ad a, .inl (cA t, ln h a, .inl (upd (fun j => Int32.ofInt (hI h a j)) k (Int32.ofInt v)))) = jws cA ad (sI h a k v) := by
  refine jws_upd (sI_1 h a k v) (kd_lt ha (by omega)) ?_ (fun b hne => ?_)
  · rw [jce_int (h := sI h a k v) (show kd (sI h a k v) a = 20 + t from ha) ht]
    have : (fun j => Int32.ofInt (hI (sI h a k v) a j)) = upd (fun j => Int32.ofInt (hI h a j)) k (Int32.ofInt v) := by
      funext j
      rw [sI_I]
      unfold upd
      by_cases e : j = k
      · rw [if_pos ⟨rfl, e⟩, if_pos e]
      · rw [if_neg (fun z => e z.2), if_neg e]
    rw [this]
    rfl
  · unfold jce
    rw [sI_ne h a k v hne]
    rfl
theorem st_iastore {a : Nat} {i v : Int} (hd : decode y.2.1 pc = .ok (.iastore, 1)) (hq : pc + 1 = q) (ha : kd h a = 20) (hi : 0 ≤ i ∧ i < ln h a) (kk : JAt κ d y q ls st (sI h a i.toNat v) Q) : JAt κ d y pc ls (vi v :: vi i :: vr a :: st) h Q := by
  subst hq
  intro p l e s m args below meth c D cA A n0 ad0 C ad H locs lsA P
  have ri : r32 i := ok_h (ok_t P.2.1)
  have rv : r32 v := ok_h P.2.1
  refine va_iast C.1 C.2.1 C.2.2.2.2.2.2.2.2.1 P.2.2.2.1 P.2.2.2.2.1 P.2.2.2.2.2.1 a 0 ((jws_at cA ad (kd_lt ha (by omega))).trans (by rw [jce_int (t := 0) ha (by omega)])) (jtys_at (by omega)) (oi_in ri hi.1 hi.2) hd (fun H1 locs1 hP hD hS => ?_)
  rw [oi_clamp ri, jws_ai (t := 0) ha (by omega)] at hP hD
  exact kk p l e s m args below meth c D cA A n0 ad0 C ad H1 locs1 lsA ⟨okh_sI P.1 rv, ok_t (ok_t (ok_t P.2.1)), P.2.2.1, hP, hD, hS, P.2.2.2.2.2.2⟩
theorem st_bastore {a : Nat} {i v : Int} (hd : decode y.2.1 pc = .ok (.bastore, 1)) (hq : pc + 1 = q) (ha : kd h a = 21) (hi : 0 ≤ i ∧ i < ln h a) (hv : v = 0 ∨ v = 1) (kk : JAt κ d y q ls st (sI h a i.toNat v) Q) : JAt κ d y pc ls (vi v :: vi i :: vr a :: st) h Q := by
  subst hq
  intro p l e s m args below meth c D cA A n0 ad0 C ad H locs lsA P
  have ri : r32 i := ok_h (ok_t P.2.1)
  have rv : r32 v := ok_h P.2.1
  have hn : vp_nar .boolean (Int32.ofInt v) = Int32.ofInt v := by rcases hv with rfl | rfl <;> decide
  refine va_zast C.1 C.2.1 C.2.2.2.2.2.2.2.2.1 P.2.2.2.1 P.2.2.2.2.1 P.2.2.2.2.2.1 a 1 ((jws_at cA ad (kd_lt ha (by omega))).trans (by rw [jce_int (t := 1) ha (by omega)])) (jtys_at (by omega)) (oi_in ri hi.1 hi.2) hd (fun H1 locs1 hP hD hS => ?_)
  rw [oi_clamp ri, hn, jws_ai (t := 1) ha (by omega)] at hP hD
  exact kk p l e s m args below meth c D cA A n0 ad0 C ad H1 locs1 lsA ⟨okh_sI P.1 rv, ok_t (ok_t (ok_t P.2.1)), P.2.2.1, hP, hD, hS, P.2.2.2.2.2.2⟩
theorem jws_ar {cA : Nat → ClassId} {ad : Nat → Nat} {h : JH} {a t k x : Nat} (ha : kd h a = 20 + t) (ht : 2 ≤ t) (ht6 : t < 6) : (jws cA ad h).set a (ad a, .inl (cA t, ln h a, .inr (.inr (.inr (.inr (va_up (fun j => (hR h a j).map ad) k (some (ad x)))))))) = jws cA ad (sR h a k (some x)) := by
  refine jws_upd (cA := cA) (ad := ad) (h := h) (h' := sR h a k (some x)) rfl (kd_lt ha (by omega)) ?_ (fun b hne => ?_)
  · rw [jce_ref (h := sR h a k (some x)) (show kd (sR h a k (some x)) a = 20 + t from ha) ht]
    have : (fun j => (hR (sR h a k (some x)) a j).map ad) = va_up (fun j => (hR h a j).map ad) k (some (ad x)) := by
      funext j
      rw [sR_R]
      unfold va_up
      by_cases e : j = k
      · rw [if_pos ⟨rfl, e⟩, if_pos e]; rfl
      · rw [if_neg (fun z => e z.2), if_neg e]
    rw [this]
    rfl
  · unfold jce
    rw [sR_ne h a k _ hne]
    rfl
theorem st_aastore {a x t : Nat} {i : Int} (hd : decode y.2.1 pc = .ok (.aastore, 1)) (hq : pc + 1 = q) (ht : 2 ≤ t ∧ t < 6) (ha : kd h a = 20 + t) (hx : kd h x = jtk t) (hi : 0 ≤ i ∧ i < ln h a) (kk : JAt κ d y q ls st (sR h a i.toNat (some x)) Q) : JAt κ d y pc ls (vr x :: vi i :: vr a :: st) h Q := by
  subst hq
  intro p l e s m args below meth c D cA A n0 ad0 C ad H locs lsA P
  have ri : r32 i := ok_h (ok_t P.2.1)
  have hk : jtk t < 13 := by
    rcases (show t = 2 ∨ t = 3 ∨ t = 4 ∨ t = 5 by omega) with rfl | rfl | rfl | rfl <;> decide
  refine va_astq C.1 C.2.1 C.2.2.2.2.2.2.2.2.1 P.2.2.2.1 P.2.2.2.2.1 P.2.2.2.2.2.1 a t x (jtk t) (r := ((jcl (jtk t)).1, (jcl (jtk t)).2.1, (jcl (jtk t)).2.2)) ((jws_at cA ad (kd_lt ha (by omega))).trans (by rw [jce_ref ha ht.1])) ((jtys_at ht.2).trans (by rw [jtn_obj ht.1 ht.2])) ((jws_at cA ad (kd_lt hx (by omega))).trans (by rw [jce_obj hx hk])) (jcl_at hk) (oi_in ri hi.1 hi.2) hd (fun H1 locs1 hP hD hS => ?_)
  rw [oi_clamp ri, jws_ar ha ht.1 ht.2] at hP hD
  exact kk p l e s m args below meth c D cA A n0 ad0 C ad H1 locs1 lsA ⟨okh_sR P.1 (kd_lt hx (by omega)), ok_t (ok_t (ok_t P.2.1)), P.2.2.1, hP, hD, hS, P.2.2.2.2.2.2⟩
theorem st_arraylength {a t : Nat} (hd : decode y.2.1 pc = .ok (.arraylength, 1)) (hq : pc + 1 = q) (ht : t < 6) (ha : kd h a = 20 + t) (kk : JAt κ d y q ls (vi (ln h a) :: st) h Q) : JAt κ d y pc ls (vr a :: st) h Q := by
  subst hq
  intro p l e s m args below meth c D cA A n0 ad0 C ad H locs lsA P
  have hl : ln h a < 100000 := P.1.2.2.2.2.2 a
  have go := kk p l e s m args below meth c D cA A n0 ad0 C ad H locs lsA ⟨P.1, ok_c (show r32 (ln h a : Int) from ⟨by omega, by omega⟩) (ok_t P.2.1), P.2.2⟩
  by_cases h2 : t < 2
  · exact va_alen C.1 C.2.1 C.2.2.2.2.2.2.2.2.1 P.2.2.2.1 a t ((jws_at cA ad (kd_lt ha (by omega))).trans (by rw [jce_int ha h2])) (jtys_at ht) (v := Int32.ofInt (ln h a)) (by show Int32.ofNat (ln h a) = _; exact Int32.ofInt_eq_ofNat.symm) hd go
  · exact va_alen C.1 C.2.1 C.2.2.2.2.2.2.2.2.1 P.2.2.2.1 a t ((jws_at cA ad (kd_lt ha (by omega))).trans (by rw [jce_ref ha (by omega)])) (jtys_at ht) (v := Int32.ofInt (ln h a)) (by show Int32.ofNat (ln h a) = _; exact Int32.ofInt_eq_ofNat.symm) hd go
/-- behind a making: the new cell is the last -/
theorem JP_nw {s : State} {D : va_G} {cA : Nat → ClassId} {A : Nat → Prop} {H H1 : Heap} {locs : List Loc} {n0 : Nat} {ad0 ad : Nat → Nat} {lsA : Array Slot} (P : JP y D cA A s H locs n0 ad0 ad lsA ls st h) {kind n b : Nat} (hk : kind < 26 ∧ (kind < 13 ∨ 20 ≤ kind)) (hn : kind < 13 → n = jN kind) (hs : n < 100000)
    (hP : va_P D vwCl (jws cA ad h ++ [(b, jcell cA (fun a => if a = h.1.length then b else ad a) kind n (fun _ => 0) (fun _ => 0) (fun _ => none))]) H1) (hD : va_D A (jws cA ad h ++ [(b, jcell cA (fun a => if a = h.1.length then b else ad a) kind n (fun _ => 0) (fun _ => 0) (fun _ => none))])) (hS : va_S A s.heap H1 locs) : JP y D cA A s H1 locs n0 ad0 (fun a => if a = h.1.length then b else ad a) lsA ls (vr h.1.length :: st) (nw h kind n) := by
  have hag : ∀ a, a < h.1.length → (fun a => if a = h.1.length then b else ad a) a = ad a := fun a ha => by show (if a = h.1.length then b else ad a) = _; rw [if_neg (by omega)]
  have e := jws_nw (cA := cA) P.1 hag kind n
  rw [if_pos rfl] at e
  refine ⟨okh_nw P.1 hk hn hs, ok_c (show h.1.length < (nw h kind n).1.length by rw [nw_len]; omega) (by rw [nw_len]; exact okvs_up (by omega) P.2.1), by rw [nw_len]; exact okvs_up (by omega) P.2.2.1, by rw [e]; exact hP, by rw [e]; exact hD, hS, by rw [nw_len]; have := P.2.2.2.2.2.2.1; omega, fun a ha => ?_, JL.cg hag P.2.2.1 P.2.2.2.2.2.2.2.2⟩
  rw [hag a (Nat.lt_of_lt_of_le ha P.2.2.2.2.2.2.1)]
  exact P.2.2.2.2.2.2.2.1 a ha
theorem mcv_nw {b n : Nat} {ad : Nat → Nat} {st : List JV} (o : ∀ v ∈ st, okv n v) : (vr n :: st).map (cvv (fun a => if a = n then b else ad a)) = .ref b :: st.map (cvv ad) := by
  rw [List.map_cons, mcv_cg (ad' := fun a => if a = n then b else ad a) (ad := ad) (n := n) (fun a ha => by show (if a = n then b else ad a) = _; rw [if_neg (by omega)]) o]
  show Value.ref (if n = n then b else ad n) :: _ = _
  rw [if_pos rfl]
theorem st_new {mc ms cu su : Nat} {idx : Nat} (c : Nat) (hd : decode y.2.1 pc = .ok (.new idx, 3)) (hq : pc + 3 = q) (hc : c < 13) (hw : Cond.classLink y.1.cls idx (jcl c).1 ∈ wsG) (hi : Cond.instantiable (jcl c).1 (jcl c).2.2 ∈ wsG) (hz : Cond.initialized (jcl c).1 ∈ wsG) (hm : cu + 1 ≤ mc ∧ su + jN c ≤ ms) (kk : JAt (mc, ms, cu + 1, su + jN c) d y q ls (vr h.1.length :: st) (nw h c (jN c)) Q) : JAt (mc, ms, cu, su) d y pc ls st h Q := by
  subst hq
  intro p l e s m args below meth c' D cA A n0 ad0 C ad H locs lsA P
  have hts := C.2.2.2.2.2.2.2.1
  have hN := jN_e hc
  refine va_new (C := (jcl c).1) (T := (jcl c).2.1) (N := (jcl c).2.2) (fs := (List.range (jN c)).map (fun k => fvv ad (fun _ => 0) (fun _ => 0) (fun _ => none) k (jfty c k))) C.1 C.2.1 hts (fun w hw => jw_in y w (jlay c hc w hw)) (jfty c) (jty_ok hc) C.2.2.2.2.2.1 (hts _ (jw_in y _ hw)) (hts _ (jw_in y _ hi)) (hts _ (jw_in y _ hz)) C.2.2.2.2.2.2.2.2.1 P.2.2.2.1 P.2.2.2.2.1 P.2.2.2.2.2.1 C.2.2.2.2.2.2.2.2.2.2 (jcl_at hc) (fun j hj => ?_) hm.1 (by rw [hN]; exact hm.2) hd (fun b H1 hP hD hS => ?_)
  · rw [hN] at hj
    unfold vp_V
    rw [List.getD_eq_getElem?_getD, List.getElem?_map, List.getElem?_range hj]
    show defaultValue (jfty c j) = fvv ad (fun _ => 0) (fun _ => 0) (fun _ => none) j (jfty c j)
    have fd := jfty_fd c hc j hj
    generalize jfty c j = ty at fd ⊢
    cases ty <;> first | rfl | exact absurd rfl fd.1 | exact absurd rfl fd.2
  · have eE : (.inr (c, (List.range (jN c)).map (fun k => fvv ad (fun _ => 0) (fun _ => 0) (fun _ => none) k (jfty c k))) : va_E) = jcell cA (fun a => if a = h.1.length then b else ad a) c (jN c) (fun _ => 0) (fun _ => 0) (fun _ => none) := by
      unfold jcell
      rw [if_pos (by omega)]
      have : ∀ k, fvv ad (fun _ => 0) (fun _ => 0) (fun _ => none) k (jfty c k) = fvv (fun a => if a = h.1.length then b else ad a) (fun _ => 0) (fun _ => 0) (fun _ => none) k (jfty c k) := fun k => by cases jfty c k <;> rfl
      simp only [this]
    rw [eE] at hP hD
    have P1 := JP_nw P (b := b) ⟨by omega, Or.inl hc⟩ (fun _ => rfl) (by rcases (show c = 0 ∨ c = 1 ∨ c = 2 ∨ c = 3 ∨ c = 4 ∨ c = 5 ∨ c = 6 ∨ c = 7 ∨ c = 8 ∨ c = 9 ∨ c = 10 ∨ c = 11 ∨ c = 12 by omega) with rfl | rfl | rfl | rfl | rfl | rfl | rfl | rfl | rfl | rfl | rfl | rfl | rfl <;> decide) hP hD hS
    have go := kk p l e s m args below meth c' D cA A n0 ad0 C _ H1 locs lsA P1
    rw [mcv_nw P.2.1] at go
    rw [hN]
    exact go
theorem jRA_eq {U : State} {c1 c2 : ClassId} {ty : FieldType} (h1 : va_RA U c1 ty) (h2 : va_RA U c2 ty) : c1 = c2 := by
  cases ty with
  | object C =>
    obtain ⟨_, _, _, _, _, e1⟩ := h1
    obtain ⟨_, _, _, _, _, e2⟩ := h2
    rw [e1] at e2
    exact Option.some.inj e2
  | _ =>
    have h1 : U.vm.findClass _ = some c1 := h1
    have h2 : U.vm.findClass _ = some c2 := h2
    rw [h1] at h2
    exact Option.some.inj h2
theorem st_newarray {mc ms cu su : Nat} {at' : ArrayType} {n : Int} (t : Nat) (hd : decode y.2.1 pc = .ok (.newarray at', 2)) (hq : pc + 2 = q) (ht : t < 2) (hty : newarray.typeOf at' = jtn t) (hw : Cond.arrayClass (jtn t) ∈ wsG) (hn : 0 ≤ n ∧ n < 100000) (hm : cu + 1 ≤ mc ∧ su + n.toNat ≤ ms) (kk : JAt (mc, ms, cu + 1, su + n.toNat) d y q ls (vr h.1.length :: st) (nw h (20 + t) n.toNat) Q) : JAt (mc, ms, cu, su) d y pc ls (vi n :: st) h Q := by
  subst hq
  intro p l e s m args below meth c' D cA A n0 ad0 C ad H locs lsA P
  have hts := C.2.2.2.2.2.2.2.1
  have rn : r32 n := ok_h P.2.1
  have P0 : JP y D cA A s H locs n0 ad0 ad lsA ls st h := ⟨P.1, ok_t P.2.1, P.2.2⟩
  have hcb : componentBytes (jtn t) ≤ 8 := by rcases (show t = 0 ∨ t = 1 by omega) with rfl | rfl <;> decide
  refine va_newa (ty := jtn t) (N' := n.toNat) (a0 := (n.toNat, .inl (fun _ => Int32.ofInt 0))) C.1 C.2.1 (by rw [hty]; exact hts _ (jw_in y _ hw)) hty C.2.2.2.2.2.2.2.2.1 P.2.2.2.1 P.2.2.2.2.1 P.2.2.2.2.2.1 C.2.2.2.2.2.2.2.2.2.2 (fun cA => ?_) (fun z => ?_) (oi_clamp rn) ?_ hm.1 hm.2 hd (fun b cB H1 hK hP hD hS => ?_)
  · rcases (show t = 0 ∨ t = 1 by omega) with rfl | rfl <;> rfl
  · have := (oi_lt rn r32_0).mp z
    omega
  · have := Nat.mul_le_mul (show n.toNat ≤ 100000 by omega) hcb
    omega
  · have e1 : cB = cA t := by
      have a1 := (hK.2 6 (cB, jtn t) (by rw [List.getElem?_append_right (by show (jtys cA).length ≤ 6; exact Nat.le_refl 6)]; rfl)).2
      have a2 := (C.2.2.2.2.2.2.2.2.1.2 t (cA t, jtn t) (jtys_at (by omega))).2
      exact jRA_eq a1 a2
    subst e1
    have e2 : (.inl (cA t, n.toNat, .inl (fun _ => Int32.ofInt 0)) : va_E) = jcell cA (fun a => if a = h.1.length then b else ad a) (20 + t) n.toNat (fun _ => 0) (fun _ => 0) (fun _ => none) := by
      unfold jcell
      rw [if_neg (by omega), if_pos (by omega), show 20 + t - 20 = t by omega]
    rw [e2] at hP hD
    have P1 := JP_nw P0 (b := b) (kind := 20 + t) (n := n.toNat) ⟨by omega, Or.inr (by omega)⟩ (fun z => by omega) (by omega) hP hD hS
    have go := kk p l e s m args below meth c' D cA A n0 ad0 C _ H1 locs lsA P1
    rw [mcv_nw P0.2.1] at go
    exact go
theorem st_anewarray {mc ms cu su : Nat} {idx : Nat} {n : Int} (t : Nat) (hd : decode y.2.1 pc = .ok (.anewarray idx, 3)) (hq : pc + 3 = q) (ht : 2 ≤ t ∧ t < 6) (hw : Cond.classLink y.1.cls idx (jcl (jtk t)).1 ∈ wsG) (hn : 0 ≤ n ∧ n < 100000) (hm : cu + 1 ≤ mc ∧ su + n.toNat ≤ ms) (kk : JAt (mc, ms, cu + 1, su + n.toNat) d y q ls (vr h.1.length :: st) (nw h (20 + t) n.toNat) Q) : JAt (mc, ms, cu, su) d y pc ls (vi n :: st) h Q := by
  subst hq
  intro p l e s m args below meth c' D cA A n0 ad0 C ad H locs lsA P
  have hts := C.2.2.2.2.2.2.2.1
  have rn : r32 n := ok_h P.2.1
  have P0 : JP y D cA A s H locs n0 ad0 ad lsA ls st h := ⟨P.1, ok_t P.2.1, P.2.2⟩
  have hX := C.2.2.2.2.2.2.2.2.2.1
  have hover : va_AO (jcl (jtk t)).1 s := by
    rcases (show t = 2 ∨ t = 3 ∨ t = 4 ∨ t = 5 by omega) with rfl | rfl | rfl | rfl
    · exact hX.2.1
    · exact hX.2.2.1
    · exact hX.2.2.2.1
    · exact hX.2.2.2.2
  refine va_newq (N' := n.toNat) C.1 C.2.1 C.2.2.2.2.2.1 (hts _ (jw_in y _ hw)) hover C.2.2.2.2.2.2.2.2.1 P.2.2.2.1 P.2.2.2.2.1 P.2.2.2.2.2.1 C.2.2.2.2.2.2.2.2.2.2 (fun z => ?_) (oi_clamp rn) (by omega) hm.1 hm.2 hd (fun b cB H1 hK hP hD hS => ?_)
  · have := (oi_lt rn r32_0).mp z
    omega
  · have e1 : cB = cA t := by
      have a1 := (hK.2 6 (cB, .object (jcl (jtk t)).1) (by rw [List.getElem?_append_right (by show (jtys cA).length ≤ 6; exact Nat.le_refl 6)]; rfl)).2
      have a2 := (C.2.2.2.2.2.2.2.2.1.2 t (cA t, jtn t) (jtys_at (by omega))).2
      rw [jtn_obj ht.1 ht.2] at a2
      exact jRA_eq a1 a2
    subst e1
    have e2 : (.inl (cA t, n.toNat, .inr (.inr (.inr (.inr (fun _ => none))))) : va_E) = jcell cA (fun a => if a = h.1.length then b else ad a) (20 + t) n.toNat (fun _ => 0) (fun _ => 0) (fun _ => none) := by
      unfold jcell
      rw [if_neg (by omega), if_neg (by omega), show 20 + t - 20 = t by omega]
      rfl
    rw [e2] at hP hD
    have P1 := JP_nw P0 (b := b) (kind := 20 + t) (n := n.toNat) ⟨by omega, Or.inr (by omega)⟩ (fun z => by omega) (by omega) hP hD hS
    have go := kk p l e s m args below meth c' D cA A n0 ad0 C _ H1 locs lsA P1
    rw [mcv_nw P0.2.1] at go
    exact go
end AR
