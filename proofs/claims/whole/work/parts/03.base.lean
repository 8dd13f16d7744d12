/-! values, heaps and states of the plain machine: ints and longs as Int, references by number -/
abbrev JV : Type := (Int ⊕ Int) ⊕ Option Nat
abbrev vi (x : Int) : JV := .inl (.inl x)
abbrev vl (x : Int) : JV := .inl (.inr x)
abbrev vr (a : Nat) : JV := .inr (some a)
abbrev vn : JV := .inr none
abbrev JH : Type := List (Nat × Nat) × (Nat → Nat → Int) × (Nat → Nat → Int) × (Nat → Nat → Option Nat)
def hI (h : JH) (a k : Nat) : Int := h.2.1 a k
def hJ (h : JH) (a k : Nat) : Int := h.2.2.1 a k
def hR (h : JH) (a k : Nat) : Option Nat := h.2.2.2 a k
def kd (h : JH) (a : Nat) : Nat := (h.1.getD a (99, 0)).1
def ln (h : JH) (a : Nat) : Nat := (h.1.getD a (99, 0)).2
def sI (h : JH) (a k : Nat) (v : Int) : JH := (h.1, fun b j => if b = a ∧ j = k then v else h.2.1 b j, h.2.2)
def sJ (h : JH) (a k : Nat) (v : Int) : JH := (h.1, h.2.1, fun b j => if b = a ∧ j = k then v else h.2.2.1 b j, h.2.2.2)
def sR (h : JH) (a k : Nat) (v : Option Nat) : JH := (h.1, h.2.1, h.2.2.1, fun b j => if b = a ∧ j = k then v else h.2.2.2 b j)
def wI (h : JH) (a : Nat) (f : Nat → Int) : JH := (h.1, fun b => if b = a then f else h.2.1 b, h.2.2)
def nw (h : JH) (kind n : Nat) : JH := (h.1 ++ [(kind, n)], fun b j => if b = h.1.length then 0 else h.2.1 b j, fun b j => if b = h.1.length then 0 else h.2.2.1 b j, fun b j => if b = h.1.length then none else h.2.2.2 b j)
def r32 (x : Int) : Prop := -2147483648 ≤ x ∧ x < 2147483648
def r64 (x : Int) : Prop := -9223372036854775808 ≤ x ∧ x < 9223372036854775808
def w32 (x : Int) : Int := (x + 2147483648) % 4294967296 - 2147483648
def w64 (x : Int) : Int := (x + 9223372036854775808) % 18446744073709551616 - 9223372036854775808
theorem w32_r (x : Int) : r32 (w32 x) := by unfold r32 w32; omega
theorem w64_r (x : Int) : r64 (w64 x) := by unfold r64 w64; omega
theorem w32_id {x : Int} (h : r32 x) : w32 x = x := by unfold r32 at h; unfold w32; omega
theorem w64_id {x : Int} (h : r64 x) : w64 x = x := by unfold r64 at h; unfold w64; omega
theorem oi_bmod {x y : Int} (h : x % 4294967296 = y % 4294967296) : x.bmod 4294967296 = y.bmod 4294967296 := by
  unfold Int.bmod
  rw [show ((4294967296 : Nat) : Int) = 4294967296 from rfl, h]
theorem ol_bmod {x y : Int} (h : x % 18446744073709551616 = y % 18446744073709551616) : x.bmod 18446744073709551616 = y.bmod 18446744073709551616 := by
  unfold Int.bmod
  rw [show ((18446744073709551616 : Nat) : Int) = 18446744073709551616 from rfl, h]
theorem oi_w32 (x : Int) : Int32.ofInt (w32 x) = Int32.ofInt x := by
  apply Int32.toInt_inj.mp
  rw [Int32.toInt_ofInt, Int32.toInt_ofInt]
  exact oi_bmod (by unfold w32; omega)
theorem ol_w64 (x : Int) : Int64.ofInt (w64 x) = Int64.ofInt x := by
  apply Int64.toInt_inj.mp
  rw [Int64.toInt_ofInt, Int64.toInt_ofInt]
  exact ol_bmod (by unfold w64; omega)
theorem oi_to {x : Int} (h : r32 x) : (Int32.ofInt x).toInt = x := Int32.toInt_ofInt_of_le h.1 h.2
theorem ol_to {x : Int} (h : r64 x) : (Int64.ofInt x).toInt = x := Int64.toInt_ofInt_of_le h.1 h.2
theorem ti_r (x : Int32) : r32 x.toInt := ⟨x.le_toInt, x.toInt_lt⟩
theorem tl_r (x : Int64) : r64 x.toInt := ⟨x.le_toInt, x.toInt_lt⟩
theorem oi_lt {x y : Int} (hx : r32 x) (hy : r32 y) : Int32.ofInt x < Int32.ofInt y ↔ x < y := by rw [Int32.lt_iff_toInt_lt, oi_to hx, oi_to hy]
theorem oi_le {x y : Int} (hx : r32 x) (hy : r32 y) : Int32.ofInt x ≤ Int32.ofInt y ↔ x ≤ y := by rw [Int32.le_iff_toInt_le, oi_to hx, oi_to hy]
theorem oi_eq {x y : Int} (hx : r32 x) (hy : r32 y) : Int32.ofInt x = Int32.ofInt y ↔ x = y := by rw [← Int32.toInt_inj, oi_to hx, oi_to hy]
theorem ol_eq {x y : Int} (hx : r64 x) (hy : r64 y) : Int64.ofInt x = Int64.ofInt y ↔ x = y := by rw [← Int64.toInt_inj, ol_to hx, ol_to hy]
theorem ol_lt {x y : Int} (hx : r64 x) (hy : r64 y) : Int64.ofInt x < Int64.ofInt y ↔ x < y := by rw [Int64.lt_iff_toInt_lt, ol_to hx, ol_to hy]
theorem oi_clamp {x : Int} (h : r32 x) : (Int32.ofInt x).toNatClampNeg = x.toNat := Int32.toNatClampNeg_ofInt_of_le h.1 h.2
theorem oi_in {x : Int} {n : Nat} (h : r32 x) (h0 : 0 ≤ x) (h1 : x < n) : vp_in (Int32.ofInt x) n := vp_in_iff.mpr (by rw [oi_to h]; exact ⟨h0, h1⟩)
/-- the real value of a plain one, addresses by ad -/
def cvv (ad : Nat → Nat) : JV → Value
  | .inl (.inl x) => .int (Int32.ofInt x)
  | .inl (.inr x) => .long (Int64.ofInt x)
  | .inr (some a) => .ref (ad a)
  | .inr none => .null
def okv (n : Nat) : JV → Prop
  | .inl (.inl x) => r32 x
  | .inl (.inr x) => r64 x
  | .inr (some a) => a < n
  | .inr none => True
def jfty (c k : Nat) : FieldType := match c with
  | 0 => tyX0 k | 1 => tyX1 k | 2 => tyX2 k | 3 => tyX3 k | 4 => tyX4 k | 5 => tyX5 k | 6 => tyX6 k | 7 => tyX7 k | 8 => tyX8 k | 9 => tyX9 k | 10 => tyX10 k | 11 => tyX11 k | _ => tyX12 k
def jN (c : Nat) : Nat := match c with
  | 0 => 2 | 1 => 2 | 2 => 4 | 3 => 5 | 4 => 5 | 5 => 8 | 6 => 6 | 7 => 4 | 8 => 5 | 9 => 2 | 10 => 4 | 11 => 14 | _ => 50
def jtn (t : Nat) : FieldType := match t with
  | 0 => .int | 1 => .boolean | 2 => .object RX9 | 3 => .object RX2 | 4 => .object RX5 | _ => .object RX3
def jtys (cA : Nat → ClassId) : List (ClassId × FieldType) := (List.range 6).map (fun t => (cA t, jtn t))
theorem jtys_at {cA : Nat → ClassId} {t : Nat} (h : t < 6) : (jtys cA)[t]? = some (cA t, jtn t) := by
  unfold jtys
  rw [List.getElem?_map, List.getElem?_range h]
  rfl
def fvv (ad : Nat → Nat) (fI fJ : Nat → Int) (fR : Nat → Option Nat) (k : Nat) : FieldType → Value
  | .long => .long (Int64.ofInt (fJ k))
  | .object _ => va_rf ((fR k).map ad)
  | .array _ => va_rf ((fR k).map ad)
  | _ => .int (Int32.ofInt (fI k))
def jcell (cA : Nat → ClassId) (ad : Nat → Nat) (kind n : Nat) (fI fJ : Nat → Int) (fR : Nat → Option Nat) : va_E :=
  if kind < 20 then .inr (kind, (List.range n).map (fun k => fvv ad fI fJ fR k (jfty kind k)))
  else if kind < 22 then .inl (cA (kind - 20), n, .inl (fun j => Int32.ofInt (fI j)))
  else .inl (cA (kind - 20), n, .inr (.inr (.inr (.inr (fun j => (fR j).map ad)))))
def jce (cA : Nat → ClassId) (ad : Nat → Nat) (h : JH) (a : Nat) : va_E := jcell cA ad (kd h a) (ln h a) (hI h a) (hJ h a) (hR h a)
def jws (cA : Nat → ClassId) (ad : Nat → Nat) (h : JH) : va_W := (List.range h.1.length).map (fun a => (ad a, jce cA ad h a))
theorem jws_len (cA : Nat → ClassId) (ad : Nat → Nat) (h : JH) : (jws cA ad h).length = h.1.length := by unfold jws; rw [List.length_map, List.length_range]
theorem jws_at (cA : Nat → ClassId) (ad : Nat → Nat) {h : JH} {a : Nat} (ha : a < h.1.length) : (jws cA ad h)[a]? = some (ad a, jce cA ad h a) := by
  unfold jws
  rw [List.getElem?_map, List.getElem?_range ha]
  rfl
theorem jws_out (cA : Nat → ClassId) (ad : Nat → Nat) {h : JH} {a : Nat} (ha : ¬ a < h.1.length) : (jws cA ad h)[a]? = none := by
  rw [List.getElem?_eq_none_iff, jws_len]; omega
theorem jws_upd {cA : Nat → ClassId} {ad : Nat → Nat} {h h' : JH} (hl : h'.1 = h.1) {a : Nat} (ha : a < h.1.length) {E : va_E} (hE : jce cA ad h' a = E) (hne : ∀ b, b ≠ a → jce cA ad h' b = jce cA ad h b) : (jws cA ad h).set a (ad a, E) = jws cA ad h' := by
  apply List.ext_getElem?
  intro b
  rw [List.getElem?_set]
  by_cases e : a = b
  · subst e
    rw [if_pos rfl, if_pos (by rw [jws_len]; exact ha), jws_at cA ad (by rw [hl]; exact ha), hE]
  · rw [if_neg e]
    by_cases hb : b < h.1.length
    · rw [jws_at cA ad hb, jws_at cA ad (by rw [hl]; exact hb), hne b (fun q => e q.symm)]
    · rw [jws_out cA ad hb, jws_out cA ad (by rw [hl]; exact hb)]
theorem kd_lt {h : JH} {a c : Nat} (hk : kd h a = c) (hc : c < 50) : a < h.1.length := by
  rcases Nat.lt_or_ge a h.1.length with q | q
  · exact q
  · unfold kd at hk
    rw [List.getD_eq_getElem?_getD, List.getElem?_eq_none_iff.mpr q] at hk
    simp at hk
    omega
def okh (h : JH) : Prop := (∀ a k, r32 (hI h a k)) ∧ (∀ a k, r64 (hJ h a k)) ∧ (∀ a k b, hR h a k = some b → b < h.1.length) ∧ (∀ a, kd h a < 13 → ln h a = jN (kd h a)) ∧ (∀ a, a < h.1.length → kd h a < 26 ∧ (kd h a < 13 ∨ 20 ≤ kd h a)) ∧ (∀ a, ln h a < 100000)
theorem sI_I (h : JH) (a k : Nat) (v : Int) (b j : Nat) : hI (sI h a k v) b j = if b = a ∧ j = k then v else hI h b j := rfl
theorem sI_J (h : JH) (a k : Nat) (v : Int) : hJ (sI h a k v) = hJ h := rfl
theorem sI_R (h : JH) (a k : Nat) (v : Int) : hR (sI h a k v) = hR h := rfl
theorem sI_1 (h : JH) (a k : Nat) (v : Int) : (sI h a k v).1 = h.1 := rfl
theorem sI_ne (h : JH) (a k : Nat) (v : Int) {b : Nat} (hb : b ≠ a) : hI (sI h a k v) b = hI h b := by funext j; rw [sI_I, if_neg (fun q => hb q.1)]
theorem sJ_J (h : JH) (a k : Nat) (v : Int) (b j : Nat) : hJ (sJ h a k v) b j = if b = a ∧ j = k then v else hJ h b j := rfl
theorem sJ_ne (h : JH) (a k : Nat) (v : Int) {b : Nat} (hb : b ≠ a) : hJ (sJ h a k v) b = hJ h b := by funext j; rw [sJ_J, if_neg (fun q => hb q.1)]
theorem sR_R (h : JH) (a k : Nat) (v : Option Nat) (b j : Nat) : hR (sR h a k v) b j = if b = a ∧ j = k then v else hR h b j := rfl
theorem sR_ne (h : JH) (a k : Nat) (v : Option Nat) {b : Nat} (hb : b ≠ a) : hR (sR h a k v) b = hR h b := by funext j; rw [sR_R, if_neg (fun q => hb q.1)]
theorem okh_sI {h : JH} {a k : Nat} {v : Int} (o : okh h) (hv : r32 v) : okh (sI h a k v) := by
  refine ⟨fun b j => ?_, o.2.1, o.2.2.1, o.2.2.2.1, o.2.2.2.2.1, o.2.2.2.2.2⟩
  rw [sI_I]; split
  · exact hv
  · exact o.1 b j
theorem okh_sJ {h : JH} {a k : Nat} {v : Int} (o : okh h) (hv : r64 v) : okh (sJ h a k v) := by
  refine ⟨o.1, fun b j => ?_, o.2.2.1, o.2.2.2.1, o.2.2.2.2.1, o.2.2.2.2.2⟩
  rw [sJ_J]; split
  · exact hv
  · exact o.2.1 b j
theorem okh_sR {h : JH} {a k x : Nat} (o : okh h) (hv : x < h.1.length) : okh (sR h a k (some x)) := by
  refine ⟨o.1, o.2.1, fun b j y hy => ?_, o.2.2.2.1, o.2.2.2.2.1, o.2.2.2.2.2⟩
  rw [sR_R] at hy
  split at hy
  · cases hy; exact hv
  · exact o.2.2.1 b j y hy
theorem kd_at {h : JH} {a : Nat} {q : Nat × Nat} (e : h.1[a]? = some q) : kd h a = q.1 ∧ ln h a = q.2 := by
  unfold kd ln
  rw [List.getD_eq_getElem?_getD, e]
  exact ⟨rfl, rfl⟩
theorem nw_old {h : JH} {kind n a : Nat} (ha : a < h.1.length) : (nw h kind n).1[a]? = h.1[a]? := by
  show (h.1 ++ [(kind, n)])[a]? = _
  rw [List.getElem?_append_left ha]
theorem nw_kd {h : JH} {kind n a : Nat} (ha : a ≠ h.1.length) : kd (nw h kind n) a = kd h a ∧ ln (nw h kind n) a = ln h a := by
  unfold kd ln
  rw [List.getD_eq_getElem?_getD, List.getD_eq_getElem?_getD]
  rcases Nat.lt_or_ge a h.1.length with q | q
  · rw [nw_old q]; exact ⟨rfl, rfl⟩
  · rw [List.getElem?_eq_none_iff.mpr q, List.getElem?_eq_none_iff.mpr (by show (h.1 ++ [(kind, n)]).length ≤ a; rw [List.length_append, List.length_singleton]; omega)]
    exact ⟨rfl, rfl⟩
theorem nw_new (h : JH) (kind n : Nat) : kd (nw h kind n) h.1.length = kind ∧ ln (nw h kind n) h.1.length = n := by
  refine kd_at (q := (kind, n)) ?_
  show (h.1 ++ [(kind, n)])[h.1.length]? = _
  rw [List.getElem?_append_right (Nat.le_refl _), Nat.sub_self]
  rfl
theorem nw_len (h : JH) (kind n : Nat) : (nw h kind n).1.length = h.1.length + 1 := by
  show (h.1 ++ [(kind, n)]).length = _
  rw [List.length_append, List.length_singleton]
theorem okh_nw {h : JH} {kind n : Nat} (o : okh h) (hk : kind < 26 ∧ (kind < 13 ∨ 20 ≤ kind)) (hn : kind < 13 → n = jN kind) (hs : n < 100000) : okh (nw h kind n) := by
  refine ⟨fun b j => ?_, fun b j => ?_, fun b j y hy => ?_, fun a => ?_, fun a ha => ?_, fun a => ?_⟩
  · show r32 (if b = h.1.length then 0 else h.2.1 b j)
    split
    · exact ⟨by decide, by decide⟩
    · exact o.1 b j
  · show r64 (if b = h.1.length then 0 else h.2.2.1 b j)
    split
    · exact ⟨by decide, by decide⟩
    · exact o.2.1 b j
  · rw [nw_len]
    have hy : (if b = h.1.length then none else h.2.2.2 b j) = some y := hy
    split at hy
    · cases hy
    · have := o.2.2.1 b j y hy
      omega
  · by_cases e : a = h.1.length
    · subst e
      rw [(nw_new h kind n).1, (nw_new h kind n).2]
      exact hn
    · rw [(nw_kd e).1, (nw_kd e).2]
      exact o.2.2.2.1 a
  · by_cases e : a = h.1.length
    · subst e
      rw [(nw_new h kind n).1]
      exact hk
    · rw [(nw_kd e).1]
      rw [nw_len] at ha
      exact o.2.2.2.2.1 a (by omega)
  · by_cases e : a = h.1.length
    · subst e
      rw [(nw_new h kind n).2]
      exact hs
    · rw [(nw_kd e).2]
      exact o.2.2.2.2.2 a
