/-! rows of the plain machine: fields, arrays, new -/
def jcl (c : Nat) : vw_C := vwCl.getD c ("", fun _ => ("", "", "", false), 0)
theorem jcl_at : ∀ {c : Nat}, c < 13 → vwCl[c]? = some ((jcl c).1, (jcl c).2.1, (jcl c).2.2)
  | 0, _ => rfl | 1, _ => rfl | 2, _ => rfl | 3, _ => rfl | 4, _ => rfl | 5, _ => rfl | 6, _ => rfl | 7, _ => rfl | 8, _ => rfl | 9, _ => rfl | 10, _ => rfl | 11, _ => rfl | 12, _ => rfl
  | n + 13, h => absurd h (by omega)
theorem jN_e : ∀ {c : Nat}, c < 13 → (jcl c).2.2 = jN c
  | 0, _ => rfl | 1, _ => rfl | 2, _ => rfl | 3, _ => rfl | 4, _ => rfl | 5, _ => rfl | 6, _ => rfl | 7, _ => rfl | 8, _ => rfl | 9, _ => rfl | 10, _ => rfl | 11, _ => rfl | 12, _ => rfl
  | n + 13, h => absurd h (by omega)
theorem jty_ok : ∀ {c : Nat}, c < 13 → ∀ k, k < (jcl c).2.2 → parseFieldDescriptor ((jcl c).2.1 k).2.2.1 = some (jfty c k)
  | 0, _ => tyX0_ok | 1, _ => tyX1_ok | 2, _ => tyX2_ok | 3, _ => tyX3_ok | 4, _ => tyX4_ok | 5, _ => tyX5_ok | 6, _ => tyX6_ok | 7, _ => tyX7_ok | 8, _ => tyX8_ok | 9, _ => tyX9_ok | 10, _ => tyX10_ok | 11, _ => tyX11_ok | 12, _ => tyX12_ok
  | n + 13, h => absurd h (by omega)
theorem jnm_ok : ∀ {c : Nat}, c < 13 → ∀ a, a < (jcl c).2.2 → ∀ b, b < (jcl c).2.2 → a ≠ b → ((jcl c).2.1 a).2.1 ≠ ((jcl c).2.1 b).2.1
  | 0, _ => nmX0 | 1, _ => nmX1 | 2, _ => nmX2 | 3, _ => nmX3 | 4, _ => nmX4 | 5, _ => nmX5 | 6, _ => nmX6 | 7, _ => nmX7 | 8, _ => nmX8 | 9, _ => nmX9 | 10, _ => nmX10 | 11, _ => nmX11 | 12, _ => nmX12
  | n + 13, h => absurd h (by omega)
set_option maxRecDepth 100000 in
theorem jlay : ∀ c, c < 13 → ∀ w ∈ u_ws (jcl c).1 (jcl c).2.1 (jcl c).2.2, w ∈ wsG := by decide +kernel
def jfl (own : String) (idx c k : Nat) : Cond := .fieldLink own idx ((jcl c).2.1 k).1 ((jcl c).2.1 k).2.1 ((jcl c).2.1 k).2.2.1
def jkd : FieldType → Nat
  | .long => 1
  | .object _ => 2
  | .array _ => 2
  | _ => 0
def jfs (ad : Nat → Nat) (h : JH) (a : Nat) : List Value := (List.range (ln h a)).map (fun k => fvv ad (hI h a) (hJ h a) (hR h a) k (jfty (kd h a) k))
theorem jce_obj {cA : Nat → ClassId} {ad : Nat → Nat} {h : JH} {a c : Nat} (hk : kd h a = c) (hc : c < 13) : jce cA ad h a = .inr (c, jfs ad h a) := by
  unfold jce jcell
  rw [if_pos (by omega)]
  subst hk
  rfl
theorem jfs_at {ad : Nat → Nat} {h : JH} {a c k : Nat} (o : okh h) (hk : kd h a = c) (hc : c < 13) (hj : k < jN c) : (jfs ad h a)[k]? = some (fvv ad (hI h a) (hJ h a) (hR h a) k (jfty c k)) := by
  subst hk
  unfold jfs
  rw [List.getElem?_map, List.getElem?_range (by rw [o.2.2.2.1 a hc]; exact hj)]
  rfl
theorem jfs_len {ad : Nat → Nat} {h : JH} {a c : Nat} (o : okh h) (hk : kd h a = c) (hc : c < 13) : (jfs ad h a).length = jN c := by
  subst hk
  unfold jfs
  rw [List.length_map, List.length_range, o.2.2.2.1 a hc]
theorem map_range_set {α : Type} {n k : Nat} {f g : Nat → α} (hne : ∀ j, j ≠ k → g j = f j) : ((List.range n).map f).set k (g k) = (List.range n).map g := by
  apply List.ext_getElem?
  intro j
  rw [List.getElem?_set, List.getElem?_map, List.getElem?_map, List.length_map, List.length_range]
  by_cases e : k = j
  · subst e
    rw [if_pos rfl]
    by_cases q : k < n
    · rw [if_pos q, List.getElem?_range q]; rfl
    · rw [if_neg q, List.getElem?_eq_none_iff.mpr (by rw [List.length_range]; omega)]; rfl
  · rw [if_neg e]
    by_cases q : j < n
    · rw [List.getElem?_range q]
      show some (f j) = some (g j)
      rw [hne j (fun z => e z.symm)]
    · rw [List.getElem?_eq_none_iff.mpr (by rw [List.length_range]; omega)]; rfl
theorem fvv_0 {ad : Nat → Nat} {fI fJ : Nat → Int} {fR : Nat → Option Nat} {k : Nat} {ty : FieldType} (h : jkd ty = 0) : fvv ad fI fJ fR k ty = .int (Int32.ofInt (fI k)) := by
  cases ty <;> first | rfl | (exact absurd h (by decide)) | (simp [jkd] at h)
theorem fvv_1 {ad : Nat → Nat} {fI fJ : Nat → Int} {fR : Nat → Option Nat} {k : Nat} {ty : FieldType} (h : jkd ty = 1) : fvv ad fI fJ fR k ty = .long (Int64.ofInt (fJ k)) := by
  cases ty <;> first | rfl | (exact absurd h (by decide)) | (simp [jkd] at h)
theorem fvv_2 {ad : Nat → Nat} {fI fJ : Nat → Int} {fR : Nat → Option Nat} {k : Nat} {ty : FieldType} (h : jkd ty = 2) : fvv ad fI fJ fR k ty = va_rf ((fR k).map ad) := by
  cases ty <;> first | rfl | (exact absurd h (by decide)) | (simp [jkd] at h)
theorem fvv_cg {ad : Nat → Nat} {fI fJ gI gJ : Nat → Int} {fR gR : Nat → Option Nat} {k : Nat} {ty : FieldType} (h1 : gI k = fI k) (h2 : gJ k = fJ k) (h3 : gR k = fR k) : fvv ad gI gJ gR k ty = fvv ad fI fJ fR k ty := by
  cases ty <;> simp [fvv, h1, h2, h3]
section HP
variable {κ : JK} {d : Nat} {y : JM} {pc q : Nat} {ls st : List JV} {h : JH} {Q : Option JV → JH → Prop}
theorem st_getV {a idx c k : Nat} {v : JV} (hd : decode y.2.1 pc = .ok (.getfield idx, 3)) (hw : jfl y.1.cls idx c k ∈ wsG) (hc : c < 13) (hk : k < jN c) (ha : kd h a = c) (hv : ∀ ad, fvv ad (hI h a) (hJ h a) (hR h a) k (jfty c k) = cvv ad v) (hok : okh h → okv h.1.length v) (hq : pc + 3 = q) (kk : JAt κ d y q ls (v :: st) h Q) : JAt κ d y pc ls (vr a :: st) h Q := by
  subst hq
  intro p l e s m args below meth c' D cA A n0 ad0 C ad H locs lsA P
  refine va_get (C := (jcl c).1) (T := (jcl c).2.1) (N := (jcl c).2.2) C.1 C.2.1 C.2.2.2.2.2.2.2.1 (fun w hw => jw_in y w (jlay c hc w hw)) C.2.2.2.2.2.1 C.2.2.2.2.2.2.2.2.1 P.2.2.2.1 a ((jws_at cA ad (kd_lt ha (by omega))).trans (by rw [jce_obj ha hc])) (jcl_at hc) k (by rw [jN_e hc]; exact hk) (C.2.2.2.2.2.2.2.1 _ (jw_in y _ hw)) (fun _ z => z) ((jfs_at P.1 ha hc hk).trans (by rw [hv ad])) hd ?_
  exact kk p l e s m args below meth c' D cA A n0 ad0 C ad H locs lsA ⟨P.1, ok_c (hok P.1) (ok_t P.2.1), P.2.2⟩
theorem st_getI {a idx : Nat} (c k : Nat) (hd : decode y.2.1 pc = .ok (.getfield idx, 3)) (hw : jfl y.1.cls idx c k ∈ wsG) (hc : c < 13) (hk : k < jN c) (ht : jkd (jfty c k) = 0) (hq : pc + 3 = q) (ha : kd h a = c) (kk : JAt κ d y q ls (vi (hI h a k) :: st) h Q) : JAt κ d y pc ls (vr a :: st) h Q :=
  st_getV (v := vi (hI h a k)) hd hw hc hk ha (fun _ => fvv_0 ht) (fun o => o.1 a k) hq kk
theorem st_getJ {a idx : Nat} (c k : Nat) (hd : decode y.2.1 pc = .ok (.getfield idx, 3)) (hw : jfl y.1.cls idx c k ∈ wsG) (hc : c < 13) (hk : k < jN c) (ht : jkd (jfty c k) = 1) (hq : pc + 3 = q) (ha : kd h a = c) (kk : JAt κ d y q ls (vl (hJ h a k) :: st) h Q) : JAt κ d y pc ls (vr a :: st) h Q :=
  st_getV (v := vl (hJ h a k)) hd hw hc hk ha (fun _ => fvv_1 ht) (fun o => o.2.1 a k) hq kk
theorem st_getR {a idx : Nat} (c k : Nat) (hd : decode y.2.1 pc = .ok (.getfield idx, 3)) (hw : jfl y.1.cls idx c k ∈ wsG) (hc : c < 13) (hk : k < jN c) (ht : jkd (jfty c k) = 2) (hq : pc + 3 = q) (ha : kd h a = c) {b : Nat} (hr : hR h a k = some b) (kk : JAt κ d y q ls (vr b :: st) h Q) : JAt κ d y pc ls (vr a :: st) h Q :=
  st_getV (v := vr b) hd hw hc hk ha (fun _ => (fvv_2 ht).trans (by rw [hr]; rfl)) (fun o => o.2.2.1 a k b hr) hq kk
/-- a field is put: h' is h but for it -/
theorem st_putV {a idx c k : Nat} {v : JV} {h' : JH} (hd : decode y.2.1 pc = .ok (.putfield idx, 3)) (hw : jfl y.1.cls idx c k ∈ wsG) (hc : c < 13) (hk : k < jN c) (ha : kd h a = c) (hfin : ((jcl c).2.1 k).2.2.2 = false ∨ (y.1.name = "<init>" ∧ ((jcl c).2.1 k).1 = y.1.cls)) (h1 : h'.1 = h.1) (hok : okh h → okv h.1.length v → okh h')
    (hn : ∀ ad, narrow (jfty c k) (cvv ad v) = cvv ad v) (hft : ∀ ad, fits (jfty c k) (cvv ad v) = true) (hself : ∀ ad, fvv ad (hI h' a) (hJ h' a) (hR h' a) k (jfty c k) = cvv ad v) (hj : ∀ j, j ≠ k → hI h' a j = hI h a j ∧ hJ h' a j = hJ h a j ∧ hR h' a j = hR h a j) (hb : ∀ b, b ≠ a → hI h' b = hI h b ∧ hJ h' b = hJ h b ∧ hR h' b = hR h b)
    (hq : pc + 3 = q) (kk : JAt κ d y q ls st h' Q) : JAt κ d y pc ls (v :: vr a :: st) h Q := by
  subst hq
  intro p l e s m args below meth c' D cA A n0 ad0 C ad H locs lsA P
  have ka : kd h' a = c := by unfold kd at ha ⊢; rw [h1]; exact ha
  have la : ∀ b, kd h' b = kd h b ∧ ln h' b = ln h b := fun b => by unfold kd ln; rw [h1]; exact ⟨rfl, rfl⟩
  have hse : (jfs ad h a).set k (cvv ad v) = jfs ad h' a := by
    have e1 : jfs ad h' a = (List.range (ln h a)).map (fun j => fvv ad (hI h' a) (hJ h' a) (hR h' a) j (jfty (kd h a) j)) := by unfold jfs; rw [(la a).1, (la a).2]
    rw [e1, ← hself ad, ← ha]
    exact map_range_set (f := fun j => fvv ad (hI h a) (hJ h a) (hR h a) j (jfty (kd h a) j)) (g := fun j => fvv ad (hI h' a) (hJ h' a) (hR h' a) j (jfty (kd h a) j)) (fun j hne => fvv_cg (hj j hne).1 (hj j hne).2.1 (hj j hne).2.2)
  have hws : (jws cA ad h).set a (ad a, .inr (c, (jfs ad h a).set k (cvv ad v))) = jws cA ad h' := by
    refine jws_upd h1 (kd_lt ha (by omega)) ?_ (fun b hne => ?_)
    · rw [jce_obj ka hc, hse]
    · unfold jce
      rw [(la b).1, (la b).2, (hb b hne).1, (hb b hne).2.1, (hb b hne).2.2]
  have go : ∀ (H1 : Heap) (locs1 : List Loc), va_P D vwCl ((jws cA ad h).set a (ad a, .inr (c, (jfs ad h a).set k (cvv ad v)))) H1 → va_D A ((jws cA ad h).set a (ad a, .inr (c, (jfs ad h a).set k (cvv ad v)))) → va_S A s.heap H1 locs1 → W p l e (jrm d κ.1 κ.2.1) s m args below meth c' H1 locs1 κ.2.2.1 κ.2.2.2 (MQ below (JQ Q n0 ad0 D cA A) args s κ.1 κ.2.1 A) (F0 m (pc + 3) lsA (st.map (cvv ad))) := by
    intro H1 locs1 hP hD hS
    rw [hws] at hP hD
    exact kk p l e s m args below meth c' D cA A n0 ad0 C ad H1 locs1 lsA ⟨hok P.1 (ok_h P.2.1), by rw [h1]; exact ok_t (ok_t P.2.1), by rw [h1]; exact P.2.2.1, hP, hD, hS, by rw [h1]; exact P.2.2.2.2.2.2.1, P.2.2.2.2.2.2.2⟩
  rcases hfin with hf | ⟨hf1, hf2⟩
  · by_cases hff : ((jcl c).2.1 k).2.2.2 = false
    · exact va_put (C := (jcl c).1) (T := (jcl c).2.1) (N := (jcl c).2.2) C.1 C.2.1 C.2.2.2.2.2.2.2.1 (fun w hw => jw_in y w (jlay c hc w hw)) (jfty c) (jty_ok hc) (jnm_ok hc) C.2.2.2.2.2.1 C.2.2.2.2.2.2.2.2.1 P.2.2.2.1 P.2.2.2.2.1 P.2.2.2.2.2.1 a ((jws_at cA ad (kd_lt ha (by omega))).trans (by rw [jce_obj ha hc])) (jcl_at hc) k (by rw [jN_e hc]; exact hk) (C.2.2.2.2.2.2.2.1 _ (jw_in y _ hw)) (fun _ z => z) hf (jty_ok hc k (by rw [jN_e hc]; exact hk)) (hn ad) (hft ad) (by rw [jfs_len P.1 ha hc]; exact hk) hd go
    · exact absurd hf hff
  · by_cases hff : ((jcl c).2.1 k).2.2.2 = false
    · exact va_put (C := (jcl c).1) (T := (jcl c).2.1) (N := (jcl c).2.2) C.1 C.2.1 C.2.2.2.2.2.2.2.1 (fun w hw => jw_in y w (jlay c hc w hw)) (jfty c) (jty_ok hc) (jnm_ok hc) C.2.2.2.2.2.1 C.2.2.2.2.2.2.2.2.1 P.2.2.2.1 P.2.2.2.2.1 P.2.2.2.2.2.1 a ((jws_at cA ad (kd_lt ha (by omega))).trans (by rw [jce_obj ha hc])) (jcl_at hc) k (by rw [jN_e hc]; exact hk) (C.2.2.2.2.2.2.2.1 _ (jw_in y _ hw)) (fun _ z => z) hff (jty_ok hc k (by rw [jN_e hc]; exact hk)) (hn ad) (hft ad) (by rw [jfs_len P.1 ha hc]; exact hk) hd go
    · have hff : ((jcl c).2.1 k).2.2.2 = true := by revert hff; cases ((jcl c).2.1 k).2.2.2 <;> simp
      exact va_putF (C := (jcl c).1) (T := (jcl c).2.1) (N := (jcl c).2.2) C.1 C.2.1 C.2.2.2.2.2.2.2.1 (fun w hw => jw_in y w (jlay c hc w hw)) (jfty c) (jty_ok hc) (jnm_ok hc) C.2.2.2.2.2.1 C.2.2.2.2.2.2.2.2.1 P.2.2.2.1 P.2.2.2.2.1 P.2.2.2.2.2.1 a ((jws_at cA ad (kd_lt ha (by omega))).trans (by rw [jce_obj ha hc])) (jcl_at hc) k (by rw [jN_e hc]; exact hk) (C.2.2.2.2.2.2.2.1 _ (jw_in y _ hw)) (fun _ z => z) hff (C.2.2.2.2.2.2.1.trans hf1) hf2 (jty_ok hc k (by rw [jN_e hc]; exact hk)) (hn ad) (hft ad) (by rw [jfs_len P.1 ha hc]; exact hk) hd go
theorem jn_int (ad : Nat → Nat) {ty : FieldType} {v : Int} (h : ty = .int ∨ (ty = .boolean ∧ (v = 0 ∨ v = 1))) : narrow ty (cvv ad (vi v)) = cvv ad (vi v) ∧ fits ty (cvv ad (vi v)) = true ∧ jkd ty = 0 := by
  rcases h with rfl | ⟨rfl, rfl | rfl⟩
  · exact ⟨rfl, rfl, rfl⟩
  · exact ⟨show narrow .boolean (.int (Int32.ofInt 0)) = .int (Int32.ofInt 0) by decide, show fits .boolean (.int (Int32.ofInt 0)) = true by decide, rfl⟩
  · exact ⟨show narrow .boolean (.int (Int32.ofInt 1)) = .int (Int32.ofInt 1) by decide, show fits .boolean (.int (Int32.ofInt 1)) = true by decide, rfl⟩
theorem st_putI {a idx : Nat} {v : Int} (c k : Nat) (hd : decode y.2.1 pc = .ok (.putfield idx, 3)) (hw : jfl y.1.cls idx c k ∈ wsG) (hc : c < 13) (hk : k < jN c) (hfin : ((jcl c).2.1 k).2.2.2 = false ∨ (y.1.name = "<init>" ∧ ((jcl c).2.1 k).1 = y.1.cls)) (hq : pc + 3 = q) (hty : jfty c k = .int ∨ (jfty c k = .boolean ∧ (v = 0 ∨ v = 1))) (ha : kd h a = c) (kk : JAt κ d y q ls st (sI h a k v) Q) : JAt κ d y pc ls (vi v :: vr a :: st) h Q :=
  st_putV (h' := sI h a k v) hd hw hc hk ha hfin rfl (fun o ov => okh_sI o ov) (fun ad => (jn_int ad hty).1) (fun ad => (jn_int ad hty).2.1) (fun ad => (fvv_0 (jn_int ad hty).2.2).trans (by rw [sI_I, if_pos ⟨rfl, rfl⟩]; rfl)) (fun j hne => ⟨by rw [sI_I, if_neg (fun z => hne z.2)], rfl, rfl⟩) (fun b hne => ⟨sI_ne h a k v hne, rfl, rfl⟩) hq kk
theorem st_putJ {a idx : Nat} {v : Int} (c k : Nat) (hd : decode y.2.1 pc = .ok (.putfield idx, 3)) (hw : jfl y.1.cls idx c k ∈ wsG) (hc : c < 13) (hk : k < jN c) (hfin : ((jcl c).2.1 k).2.2.2 = false ∨ (y.1.name = "<init>" ∧ ((jcl c).2.1 k).1 = y.1.cls)) (hq : pc + 3 = q) (hty : jfty c k = .long) (ha : kd h a = c) (kk : JAt κ d y q ls st (sJ h a k v) Q) : JAt κ d y pc ls (vl v :: vr a :: st) h Q :=
  st_putV (h' := sJ h a k v) hd hw hc hk ha hfin rfl (fun o ov => okh_sJ o ov) (fun ad => by rw [hty]; rfl) (fun ad => by rw [hty]; rfl) (fun ad => (fvv_1 (by rw [hty]; rfl)).trans (by rw [sJ_J, if_pos ⟨rfl, rfl⟩]; rfl)) (fun j hne => ⟨rfl, by rw [sJ_J, if_neg (fun z => hne z.2)], rfl⟩) (fun b hne => ⟨rfl, sJ_ne h a k v hne, rfl⟩) hq kk
theorem jn_ref (ad : Nat → Nat) {ty : FieldType} {x : Nat} (h : jkd ty = 2) : narrow ty (cvv ad (vr x)) = cvv ad (vr x) ∧ fits ty (cvv ad (vr x)) = true := by
  cases ty <;> first | exact ⟨rfl, rfl⟩ | (exact absurd h (by decide))
theorem st_putR {a idx x : Nat} (c k : Nat) (hd : decode y.2.1 pc = .ok (.putfield idx, 3)) (hw : jfl y.1.cls idx c k ∈ wsG) (hc : c < 13) (hk : k < jN c) (hfin : ((jcl c).2.1 k).2.2.2 = false ∨ (y.1.name = "<init>" ∧ ((jcl c).2.1 k).1 = y.1.cls)) (hq : pc + 3 = q) (hty : jkd (jfty c k) = 2) (ha : kd h a = c) (kk : JAt κ d y q ls st (sR h a k (some x)) Q) : JAt κ d y pc ls (vr x :: vr a :: st) h Q :=
  st_putV (h' := sR h a k (some x)) hd hw hc hk ha hfin rfl (fun o ov => okh_sR o ov) (fun ad => (jn_ref ad hty).1) (fun ad => (jn_ref ad hty).2) (fun ad => (fvv_2 hty).trans (by rw [sR_R, if_pos ⟨rfl, rfl⟩]; rfl)) (fun j hne => ⟨rfl, rfl, by rw [sR_R, if_neg (fun z => hne z.2)]⟩) (fun b hne => ⟨rfl, rfl, sR_ne h a k _ hne⟩) hq kk
end HP
