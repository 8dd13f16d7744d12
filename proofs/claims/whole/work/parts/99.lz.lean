/-! the law: from its entry -/
set_option maxHeartbeats 4000000 in
theorem l_new {p : Program} {l : Launch} {e : Env} {s : State} {m : MethodId} {below : List Frame} {meth : Method} {c : Code} {b L : Nat} {xs : Nat → Int32} {D : va_G} {cA : Nat → ClassId} (C : LC p s m meth c b L xs D cA) {Q : State → Prop} {cu su idx pc : Nat} (cc : Nat) (hcc : cc < 13) {h : JH} {ad : Nat → Nat} {H : Heap} {locs : List Loc} {lsA : Array Slot} {rest : List Value} (hd : decode code pc = .ok (.new idx, 3)) (hw : Cond.classLink RL idx (jcl cc).1 ∈ wsG) (hi : Cond.instantiable (jcl cc).1 (jcl cc).2.2 ∈ wsG) (hz : Cond.initialized (jcl cc).1 ∈ wsG) (hm : cu + 1 ≤ 600000 ∧ su + jN cc ≤ 7302250) (P : JP jLaw D cA (lA s) s H locs 0 ad ad lsA [] [] h) (kk : ∀ (ad' : Nat → Nat) (H1 : Heap), JP jLaw D cA (lA s) s H1 locs 0 ad ad' lsA [] [vr h.1.length] (nw h cc (jN cc)) → (∀ a, a < h.1.length → ad' a = ad a) → W p l e room_1 s m #[Value.ref b] below meth c H1 locs (cu + 1) (su + jN cc) Q (F0 m (pc + 3) lsA (.ref (ad' h.1.length) :: rest))) : W p l e room_1 s m #[Value.ref b] below meth c H locs cu su Q (F0 m pc lsA rest) := by
  obtain ⟨⟨hx, hb, -, hml, hown, hts, -, -, -, -⟩, hK, hX, -⟩ := C
  have hown : s.vm.findClass RL = some m.cls := hown
  have hN := jN_e hcc
  have hbig : ∀ w ∈ wsG, w ∈ lw_tbl := fun w hw => wsG_tbl hw
  refine va_new (C := (jcl cc).1) (T := (jcl cc).2.1) (N := (jcl cc).2.2) (fs := (List.range (jN cc)).map (fun k => fvv ad (fun _ => 0) (fun _ => 0) (fun _ => none) k (jfty cc k))) hx hb hts (fun w hw => hbig w (jlay cc hcc w hw)) (jfty cc) (jty_ok hcc) hown (hts _ (hbig _ hw)) (hts _ (hbig _ hi)) (hts _ (hbig _ hz)) hK P.2.2.2.1 P.2.2.2.2.1 P.2.2.2.2.2.1 (fun q hq => hq) (jcl_at hcc) (fun j hj => ?_) hm.1 (by rw [hN]; exact hm.2) hd (fun b' H1 hP hD hS => ?_)
  · rw [hN] at hj
    unfold vp_V
    rw [List.getD_eq_getElem?_getD, List.getElem?_map, List.getElem?_range hj]
    show defaultValue (jfty cc j) = fvv ad (fun _ => 0) (fun _ => 0) (fun _ => none) j (jfty cc j)
    have fd := jfty_fd cc hcc j hj
    generalize jfty cc j = ty at fd ⊢
    cases ty <;> first | rfl | exact absurd rfl fd.1 | exact absurd rfl fd.2
  · have eE : (.inr (cc, (List.range (jN cc)).map (fun k => fvv ad (fun _ => 0) (fun _ => 0) (fun _ => none) k (jfty cc k))) : va_E) = jcell cA (fun a => if a = h.1.length then b' else ad a) cc (jN cc) (fun _ => 0) (fun _ => 0) (fun _ => none) := by
      unfold jcell
      rw [if_pos (by omega)]
      have : ∀ k, fvv ad (fun _ => 0) (fun _ => 0) (fun _ => none) k (jfty cc k) = fvv (fun a => if a = h.1.length then b' else ad a) (fun _ => 0) (fun _ => 0) (fun _ => none) k (jfty cc k) := fun k => by cases jfty cc k <;> rfl
      simp only [this]
    rw [eE] at hP hD
    have P1 := JP_nw P (b := b') ⟨by omega, Or.inl hcc⟩ (fun _ => rfl) (by rcases (show cc = 0 ∨ cc = 1 ∨ cc = 2 ∨ cc = 3 ∨ cc = 4 ∨ cc = 5 ∨ cc = 6 ∨ cc = 7 ∨ cc = 8 ∨ cc = 9 ∨ cc = 10 ∨ cc = 11 ∨ cc = 12 by omega) with rfl | rfl | rfl | rfl | rfl | rfl | rfl | rfl | rfl | rfl | rfl | rfl | rfl <;> decide) hP hD hS
    have go := kk (fun a => if a = h.1.length then b' else ad a) H1 P1 (fun a ha => by show (if a = h.1.length then b' else ad a) = _; rw [if_neg (by omega)])
    rw [if_pos rfl] at go
    rw [hN]
    exact go
set_option maxHeartbeats 4000000 in
theorem l_ini {p : Program} {l : Launch} {e : Env} {s : State} {m : MethodId} {below : List Frame} {meth : Method} {c : Code} {b L : Nat} {xs : Nat → Int32} {D : va_G} {cA : Nat → ClassId} (C : LC p s m meth c b L xs D cA) {Q : State → Prop} {Q' : JH → Prop} {cu su mc ms d idx pc a : Nat} {y' : JM} {h : JH} {ad : Nat → Nat} {H : Heap} {locs : List Loc} {lsA : Array Slot} (hd : decode code pc = .ok (.invokespecial idx, 3)) (hw : Cond.methodLink RL idx y'.1 ∈ wsG) (hy : jMI y' 0) (hdd : d ≤ 100) (hm : cu + mc ≤ 600000 ∧ su + ms ≤ 7302250) (hls : lsA.size = 4) (Po : okh h) (PP : va_P D vwCl (jws cA ad h) H) (PD : va_D (lA s) (jws cA ad h)) (PS : va_S (lA s) s.heap H locs) (ha : a < h.1.length) (hR : JRet mc ms d y' [vr a] h (jqv Q')) (kk : ∀ (h' : JH) (ad' : Nat → Nat) (H1 : Heap) (locs1 : List Loc), Q' h' → okh h' → h.1.length ≤ h'.1.length → (∀ x, x < h.1.length → ad' x = ad x) → va_P D vwCl (jws cA ad' h') H1 → va_D (lA s) (jws cA ad' h') → va_S (lA s) s.heap H1 locs1 → W p l e room_1 s m #[Value.ref b] below meth c H1 locs1 (cu + mc) (su + ms) Q (F0 m (pc + 3) lsA [.ref (ad a)])) : W p l e room_1 s m #[Value.ref b] below meth c H locs cu su Q (F0 m pc lsA [.ref (ad a), .ref (ad a)]) := by
  obtain ⟨⟨hx, hb, -, hml, hown, hts, -, -, -, -⟩, hK, hX, -⟩ := C
  have hown : s.vm.findClass RL = some m.cls := hown
  have hbig : ∀ w ∈ wsG, w ∈ lw_tbl := fun w hw => wsG_tbl hw
  obtain ⟨hc1, hc2, hc4, hc5, hc6, hc7⟩ := hy
  have hM := hR l D cA ad H.size Po (fun v hv => by rw [List.mem_singleton.mp hv]; exact ha)
  have hF := jfree (D := D) PD PS (fun q hq => hq)
  have hPV : PreS s H (JPc [vr a] h D cA ad H.size) [.ref (ad a)] := ⟨JPc_blind, fun U hU hW => ⟨rfl, by rw [hU], by rw [hU]; exact PP, va_K.moved hW.alike hK, PD.weaken (fun _ _ _ _ => trivial), jX.warm hW hX⟩⟩
  have hjw : jw y' = Cond.code y'.1 y'.2.1 y'.2.2.1 none :: wsG := by unfold jw jcode; rw [hc7]
  refine jW_call (va_runI (As := []) (rest := [.ref (ad a)]) ⟨hx, hb, hml, hown, hts⟩ hM (cwI 0 hts (jw_goodIn hbig hc1) hjw rfl rfl (hts _ (hbig _ hc4)) (hts _ (hbig _ hw)) (hts _ (hbig _ hc2)) hc6 ⟨hc5.1, hc5.2.1, hc5.2.2.1⟩ ⟨by show d + 1 ≤ 2048; omega, by have := hc5.2.2.2; show 8 + (y'.2.2.1 + 11) + 64 * d ≤ 84000; omega⟩) hPV rfl rfl hls rfl (lv_room (Nat.le_of_ble_eq_true rfl)) hd hm) PS hF hF (fun r h' ad' H1 locs1 hq hok hrv hn1 hag hP hD hS => ?_)
  obtain ⟨rfl, hq⟩ := hq
  exact kk h' ad' H1 locs1 hq hok hn1 hag hP hD hS
def hp0 : JH := ([], fun _ _ => 0, fun _ _ => 0, fun _ _ => none)
theorem hp0_ok : okh hp0 := by
  refine ⟨fun a k => ?_, fun a k => ?_, fun a k q hq => ?_, fun a ha => ?_, fun a ha => absurd ha (Nat.not_lt_zero a), fun a => ?_⟩
  · show r32 0
    exact ⟨by decide, by decide⟩
  · show r64 0
    exact ⟨by decide, by decide⟩
  · have hq : (none : Option Nat) = some q := hq
    cases hq
  · have ha : (99 : Nat) < 13 := ha
    omega
  · show 0 < 100000
    decide
theorem hp1_t : Tk 1 (nw hp0 11 14) := ⟨by decide, by decide +kernel⟩
theorem hp1_r : RF (fun _ _ => False) (nw hp0 11 14) := fun a k => ⟨fun q => q.elim, fun _ => by show (if a = 0 then (none : Option Nat) else none) = none; split <;> rfl⟩
theorem hp1_g : GI 0 (nw hp0 11 14) := fun a k _ => by
  rw [if_neg (Nat.not_lt_zero a)]
  show (if a = 0 then (0 : Int) else 0) = 0
  split <;> rfl
set_option maxHeartbeats 4000000 in
theorem l_pre {p : Program} {l : Launch} {e : Env} {s : State} {m : MethodId} {below : List Frame} {meth : Method} {c : Code} {b L : Nat} {xs : Nat → Int32} {D : va_G} {cA : Nat → ClassId} (C : LC p s m meth c b L xs D cA) {lsA : Array Slot} (hl : lv_has lsA 4 [(0, .ref b)]) : W p l e room_1 s m #[Value.ref b] below meth c s.heap [] 0 0 (lw_Z below #[Value.ref b] s) (F0 m 0 lsA []) := by
  have nl : ∀ {α : Type} {Pp : α → Prop}, ∀ v ∈ ([] : List α), Pp v := fun v hv => by simp at hv
  have P0 : JP jLaw D cA (lA s) s s.heap [] 0 (fun _ => 0) (fun _ => 0) lsA [] [] hp0 := ⟨hp0_ok, nl, nl, fun k q h => by simp [jws, hp0] at h, ⟨fun i j p q h => by simp [jws, hp0] at h, fun k q h => by simp [jws, hp0] at h⟩, va_S.rf, Nat.le_refl _, fun _ _ => rfl, hl.1, hl.2.1, fun i v h => by simp at h⟩
  refine l_new C 11 (by decide) dL_law_0 cl_L_7 ib_X11 in_X11 (by decide) P0 (fun ad1 H1 P1 _ => ?_)
  refine lv_dup C.1.1 C.1.2.1 dL_law_3 rfl ?_
  refine l_ini C (a := 0) (d := 23) (mc := 116) (ms := 3186) dL_law_4 ml_L_9 mi_X11_init (by decide) (by decide) hl.1 P1.1 P1.2.2.2.1 P1.2.2.2.2.1 P1.2.2.2.2.2.1 (by decide) (c_X11_init (d := 20) (P := fun h' => Tk 117 h' ∧ RF (FS 6 4) h' ∧ GI 117 h' ∧ hJ h' 0 12 = 0 ∧ hJ h' 0 13 = 1) hp1_t hp1_r hp1_g (fun h' a1 a2 a3 a4 a5 => ⟨a1, a2, a3, a4, a5⟩)) (fun h2 ad2 H2 locs2 q2 ok2 le2 ag2 PP2 PD2 PS2 => ?_)
  have ag2 : ad2 0 = ad1 0 := ag2 0 (by decide)
  have e117 : h2.1.length = 117 := q2.1.len
  refine lv_astore_n (lv' := [(1, .ref (ad1 0)), (0, .ref b)]) C.1.1 C.1.2.1 dL_law_7 rfl hl (by decide) rfl (fun ls2 hl => ?_)
  have P2 : JP jLaw D cA (lA s) s H2 locs2 0 ad2 ad2 ls2 [] [] h2 := ⟨ok2, nl, nl, PP2, PD2, PS2, Nat.zero_le _, fun _ _ => rfl, hl.1, hl.2.1, fun i v h => by simp at h⟩
  refine l_new C 12 (by decide) dL_law_8 cl_L_10 ib_X12 in_X12 (by decide) P2 (fun ad3 H3 P3 ag3 => ?_)
  rw [e117]
  have ag3 : ad3 0 = ad2 0 := ag3 0 (by omega)
  have l3 : (nw h2 12 50).1.length = 118 := by rw [nw_len, e117]
  refine lv_dup C.1.1 C.1.2.1 dL_law_11 rfl ?_
  refine l_ini C (a := 117) (d := 21) (mc := 33) (ms := 10268) dL_law_12 ml_L_12 mi_X12_init (by decide) (by decide) hl.1 P3.1 P3.2.2.2.1 P3.2.2.2.2.1 P3.2.2.2.2.2.1 (by show 117 < (nw h2 12 50).1.length; omega) (c_X12_init (d := 20) (im_start q2.1 q2.2.1 q2.2.2.1 q2.2.2.2.1 q2.2.2.2.2) (fun h' z => z)) (fun h4 ad4 H4 locs4 q4 ok4 le4 ag4 PP4 PD4 PS4 => ?_)
  have ag40 : ad4 0 = ad3 0 := ag4 0 (by show 0 < (nw h2 12 50).1.length; omega)
  have ag41 : ad4 117 = ad3 117 := ag4 117 (by show 117 < (nw h2 12 50).1.length; omega)
  refine lv_astore_n (lv' := [(2, .ref (ad3 117)), (1, .ref (ad1 0)), (0, .ref b)]) C.1.1 C.1.2.1 dL_law_15 rfl hl (by decide) rfl (fun ls3 hl => ?_)
  refine lv_iconst (v := Int32.ofInt ((0 : Nat) : Int)) C.1.1 C.1.2.1 dL_law_16 rfl ?_
  refine lv_istore_n (lv' := [(3, .int (Int32.ofInt ((0 : Nat) : Int))), (2, .ref (ad3 117)), (1, .ref (ad1 0)), (0, .ref b)]) C.1.1 C.1.2.1 dL_law_17 rfl hl (by decide) rfl (fun ls4 hl => ?_)
  have I4 : Inv h4 := inv_made q4
  have w := I4.1
  have hl2 : lv_has ls4 4 [(0, .ref b), (1, .ref (ad4 0)), (2, .ref (ad4 117)), (3, .int (Int32.ofInt ((0 : Nat) : Int)))] := by
    rw [ag40, ag41, ag3, ag2]
    exact lv_sub hl [3, 2, 1, 0] rfl
  have k0 : kd h4 0 = 11 := wfk w (by decide +kernel)
  have k1 : kd h4 117 = 12 := wfk w (by decide +kernel)
  have r0 : LRc s H4 (ad4 0) (jcl 11).1 := va_recv C.2.1 PP4 (jcl_at (c := 11) (by decide)) ((jws_at cA ad4 (kd_lt k0 (by decide))).trans (by rw [jce_obj k0 (by decide)]))
  have r1 : LRc s H4 (ad4 117) (jcl 12).1 := va_recv C.2.1 PP4 (jcl_at (c := 12) (by decide)) ((jws_at cA ad4 (kd_lt k1 (by decide))).trans (by rw [jce_obj k1 (by decide)]))
  refine W.widen (k := 151) (n := 13518) (Nat.le_of_ble_eq_true rfl) (Nat.le_of_ble_eq_true rfl) ?_
  exact l_loop C (L + 8) 0 h4 (by omega) (by omega) I4 ad4 H4 locs4 ls4 ⟨ok4, by rw [w.1, S0_len]; exact Nat.le_refl _, PP4, PD4, PS4, hl2, r0, r1⟩ nl
theorem ib_all : ∀ k, k < 13 → Cond.instantiable (jcl k).1 (jcl k).2.2 ∈ wsG
  | 0, _ => ib_X0 | 1, _ => ib_X1 | 2, _ => ib_X2 | 3, _ => ib_X3 | 4, _ => ib_X4 | 5, _ => ib_X5 | 6, _ => ib_X6 | 7, _ => ib_X7 | 8, _ => ib_X8 | 9, _ => ib_X9 | 10, _ => ib_X10 | 11, _ => ib_X11 | 12, _ => ib_X12
  | k + 13, h => absurd h (by omega)
theorem nest_in : ∀ q ∈ jnest, Cond.methodLinkNest q.1 q.2.1 q.2.2.1 q.2.2.2 ∈ lw_tbl := by decide +kernel
theorem over_in : Cond.arrayOver (.object RX9) ∈ lw_tbl ∧ Cond.arrayOver (.object RX2) ∈ lw_tbl ∧ Cond.arrayOver (.object RX5) ∈ lw_tbl ∧ Cond.arrayOver (.object RX3) ∈ lw_tbl := by decide +kernel
theorem arr_prim {s : State} {args : Array Value} {ty : FieldType} (h : (Cond.arrayClass ty).before args s = true) (hty : ty = .int ∨ ty = .boolean) : ∃ q : ClassId, ArrOfT s q ty ∧ va_RA s q ty := by
  obtain ⟨c, k, comp, h1, h2, h3⟩ := Cond.arrayClass_spec h
  exact ⟨c, fun N z => ⟨(fun k h => by cases h), k, h2, comp, h3⟩, by rcases hty with rfl | rfl <;> exact h1⟩
theorem arr_obj {s : State} {C : String} (h : va_AO C s) : ∃ q : ClassId, ArrOfT s q (.object C) ∧ va_RA s q (.object C) := by
  obtain ⟨comp, c, k, h1, h2, h3, h4, h5⟩ := Cond.arrayOver_spec h
  exact ⟨c, fun N z => ⟨(fun k h => by cases h), k, h3, comp, h4⟩, k, comp, h3, h4, h1, h5⟩
theorem arr_all {s : State} {args : Array Value} (hG : ∀ w ∈ wsG, w.before args s = true) (hX : jX s) : ∀ t, t < 6 → ∃ q : ClassId, ArrOfT s q (jtn t) ∧ va_RA s q (jtn t)
  | 0, _ => arr_prim (hG _ ac_0) (Or.inl rfl)
  | 1, _ => arr_prim (hG _ ac_1) (Or.inr rfl)
  | 2, _ => arr_obj hX.2.1
  | 3, _ => arr_obj hX.2.2.1
  | 4, _ => arr_obj hX.2.2.2.1
  | 5, _ => arr_obj hX.2.2.2.2
  | t + 6, h => absurd h (by omega)
set_option maxHeartbeats 4000000 in
/-- THE LAW, from its entry -/
theorem whole_start {p : Program} {e : Env} {s : State} {m : MethodId} {below : List Frame} {meth : Method} {c : Code} (l : Launch) {b L : Nat} {xs : Nat → Int32} (hL : L ≤ 3584) (C0 : lw_At p s m meth c b L xs) : W p l e room_1 s m #[Value.ref b] below meth c s.heap [] 0 0 (lw_Z below #[Value.ref b] s) (entryFrame m ([Value.ref b] : List Value).toArray 4) := by
  obtain ⟨hx, hb, hr, hml, hown, hts, hXs, hbl, hlocks, hgv⟩ := id C0
  have hG : ∀ w ∈ wsG, w.before #[Value.ref b] s = true := fun w hw => hts w (wsG_tbl hw)
  have k1 : ∀ k : Nat, ∃ q : ClassId × (Nat → Nat), k < 13 → u_Kn s (jcl k).1 (jcl k).2.1 (jcl k).2.2 q.1 q.2 := fun k => by
    by_cases hk : k < 13
    · obtain ⟨c0, i0, h0⟩ := u_known hts (fun w hw => wsG_tbl (jlay k hk w hw)) (hG _ (ib_all k hk))
      exact ⟨(c0, i0), fun _ => h0⟩
    · exact ⟨(m.cls, fun _ => 0), fun z => absurd z hk⟩
  obtain ⟨f, hf⟩ := Classical.axiomOfChoice k1
  have hX : jX s := ⟨fun q hq => va_Nw.of rfl (hts _ (nest_in q hq)), va_AO.of (hts _ over_in.1), va_AO.of (hts _ over_in.2.1), va_AO.of (hts _ over_in.2.2.1), va_AO.of (hts _ over_in.2.2.2)⟩
  have k2 : ∀ t : Nat, ∃ q : ClassId, t < 6 → ArrOfT s q (jtn t) ∧ va_RA s q (jtn t) := fun t => by
    by_cases ht : t < 6
    · obtain ⟨q, hq⟩ := arr_all hG hX t ht
      exact ⟨q, fun _ => hq⟩
    · exact ⟨m.cls, fun z => absurd z ht⟩
  obtain ⟨cA, hcA⟩ := Classical.axiomOfChoice k2
  have hK : va_K (fun k => (f k).1, fun k => (f k).2) vwCl (jtys cA) s := by
    refine ⟨fun k q hq => ?_, fun k q hq => ?_⟩
    · have hk : k < 13 := (List.getElem?_eq_some_iff.mp hq).1
      rw [jcl_at hk] at hq
      cases hq
      exact hf k hk
    · have hk : k < 6 := (List.getElem?_eq_some_iff.mp hq).1
      rw [jtys_at hk] at hq
      cases hq
      exact hcA k hk
  have hl := lv_entry ([.ref b]) (n := 4) (Nat.le_of_ble_eq_true rfl)
  rw [lg_entry_eq]
  generalize (lg_sl ([.ref b]) ++ List.replicate (4 - (lg_sl ([.ref b])).length) Slot.unset).toArray = ls at hl ⊢
  have hl : lv_has ls 4 [(0, .ref b)] := hl
  exact l_pre ⟨C0, hK, hX, hL⟩ hl
set_option maxHeartbeats 4000000 in
theorem lw_walk (l : Launch) (b : Addr) (xs : List Int32) : MetFree l x (headSpec (Jvm.Cond.code x code maxLocals ret :: tables_1) room_1) (lw_P b xs) (fun _ _ _ _ _ => True) lw_Q := by
  refine MetFree.of_bodyS (code := code) (maxLocals := maxLocals) (ret := ret) (by decide) ?_ ?_
  · intro args s m h hn
    obtain ⟨meth, c, h1, h2, h3, h4, h5, h6, -, -⟩ := Cond.code_spec hn (atoms_spec (ws := Jvm.Cond.code x code maxLocals ret :: tables_1) h _ List.mem_cons_self)
    exact ⟨meth, c, h1, h2, h3, h4, h5, h6⟩
  · intro p e s m args below meth c s₁ B hml0 hP _
    obtain ⟨rfl, hx, hbd, hgv⟩ := hP
    obtain ⟨scr, harrAt, hlist, hof, hsmall⟩ := hx
    obtain ⟨hcb, hkn, -, -⟩ := State.arrayAt?_spec harrAt
    have hown : s.vm.findClass R_law = some m.cls := findClass_of_methodNamed B.named
    have hts0 : ∀ c ∈ (Jvm.Cond.code x code maxLocals ret :: tables_1), c.before #[Value.ref b] s = true := atoms_spec (ws := Jvm.Cond.code x code maxLocals ret :: tables_1) B.pre
    have hts : ∀ w ∈ lw_tbl, w.before #[Value.ref b] s = true := k2_hts_sels lw_privs (fun w hw => hts0 w (List.mem_cons_of_mem _ hw)) lw_privs_ok
    have hml : c.maxLocals = 4 := B.maxLocals_eq (hts0 _ List.mem_cons_self)
    have X₀ : Stand p l e room_1 s m #[Value.ref b] below meth c s₁ [] 0 0 := Stand.of_body B
    have hh0 : s₁.heap = s.heap := by rw [B.state]; rfl
    have hsz : scr.slots.size = xs.length := by rw [← Array.length_toList, hlist, List.length_map]
    have hval : ∀ j : Nat, j < xs.length → scr.slots[j]? = some (.int (xs.getD j 0)) := fun j hj => by
      rw [← Array.getElem?_toList, hlist]
      simp [hj]
    have hbl : b < s.heap.size := (Array.getElem?_eq_some_iff.mp hcb).1
    have hX : va_X b xs.length (fun j => xs.getD j 0) s s.heap := ⟨scr, hcb, hof, hkn, hsz, hval⟩
    have K : W p l e room_1 s m #[Value.ref b] below meth c s₁.heap [] 0 0 (lw_Z below #[Value.ref b] s) (entryFrame m ([Value.ref b] : List Value).toArray 4) := by
      rw [hh0]
      exact whole_start l hbd ⟨B.exec, B.bytes, B.returns, hml, hown, hts, hX, hbl, B.notSynchronized, hgv⟩
    obtain ⟨t, a1, o, b1, b2, b3⟩ := K s₁ rfl X₀
    exact ⟨t, o, a1, b1, b2, b3⟩
theorem lw_pre_spec {args : Array Value} {s : State} (h : (Jvm.Cond.and given_1 narrow_1).before args s = true) (hr : rest_1_c.before args s = true) : ∃ (b : Addr) (xs : List Int32), lw_P b xs args s := by
  have hs := flat_of_before _ h
  have hq := flat_of_before _ hr
  have hc : (Cond.count 1).before args s = true := hs _ (by decide +kernel)
  have harr : (Cond.arrayOf (.arg 0) .int).before args s = true := hs _ (by decide +kernel)
  have hle : (Cond.le (.length (.arg 0)) (.int 3584)).before args s = true := hs _ (by decide +kernel)
  have hlen : (Cond.isInt (.length (.arg 0))).before args s = true := hq _ (by decide +kernel)
  have hall : (Cond.all (.arg 0) (.isInt (.elem (.arg 0) (.index 0)))).before args s = true := hq _ (by decide +kernel)
  obtain ⟨b, xs, hb, hx⟩ := State.ints_of_pre rfl harr hlen hall
  have hsm : xs.length < 2 ^ 31 := hx.choose_spec.2.2.2
  have hev : (Term.length (.arg 0)).eval args s none [] s = some (.int xs.length.toInt32) := hx.length_eval hb
  have hv := Cond.le_ints hev (show (Term.int 3584).eval args s none [] s = some (.int 3584) from rfl)
  have hd : xs.length.toInt32 ≤ 3584 := by
    simpa [Cond.before, Cond.holds, hv] using hle
  have hN : xs.length ≤ 3584 := (Int32.ofNat_le_ofNat hsm (by decide)).mp (show Int32.ofNat xs.length ≤ Int32.ofNat 3584 from hd)
  exact ⟨b, xs, Cond.one_arg hc (show args[0]? = some (.ref b) from hb), hx, hN, h⟩
theorem lw_comes (l : Launch) : Comes l x (Jvm.Cond.code x code maxLocals ret :: tables_1) room_1 (fun tb e args s => Calls_1 tb e args s ∧ rest_1 tb e args s ∧ Pre_1 tb e args s)
    (fun _ _ args s o t => lw_Q args s o t) := by
  intro p e ha hc hk s m args below hf hfit hheap happ hpre
  obtain ⟨b, xs, hP⟩ := lw_pre_spec hpre.2.2 hpre.2.1
  obtain ⟨k, o, h1, h2, h3, hQ⟩ := lw_walk l b xs p e ha hc hk s m args below hf ((Spec.applies_iff_loose hf).mp happ).1 hP trivial
  exact ⟨k, o, h1, h2, h3, hQ⟩
theorem lw_frame {s t : State} {o : Outcome} {args : Array Value} (h : Framed s o t [] 600000 7302250) :
    Framed s o t (fieldLocs frame_1_writes args s ++ arrayLocs frame_1_arrays args s ++ staticLocs frame_1_statics s) 600000 7302250 := h
theorem lw_limb (L : Cond) (hL : ∀ (args : Array Value) (s t : State), L.after args s (.returned (some (.int 1))) t = true) :
    ArmFor flags0 classFile x code maxLocals ret World_1 tables_1 room_1 Calls_1 rest_1 Pre_1
      (fun tb e a s o t => postC L tb e a s o t ∧ Framed s o t (fieldLocs frame_1_writes a s ++ arrayLocs frame_1_arrays a s ++ staticLocs frame_1_statics s) 600000 7302250) := by
  intro l _ _ _ p e ha hc hk s m args below hf hfit hheap happ hpre
  obtain ⟨k, o, h1, h2, h3, rfl, hF⟩ := lw_comes l p e ha hc hk s m args below hf hfit hheap happ hpre
  exact ⟨k, _, h1, h2, h3, hL args s _, lw_frame hF⟩
theorem i_vc : Claimed_1_1 ∧ Claimed_1_2 := ⟨lw_limb limb_1_1 (fun args s t => by simp [limb_1_1, Cond.after, Cond.holds, Cond.value]), lw_limb limb_1_2 (fun args s t => Cond.after_iff.mpr (by
  first | (rw [show limb_1_2 = Cond.eq .result (.int 1) from rfl, Cond.eq_ints (x := 1) (y := 1) rfl rfl]; simp; done) | (simp [limb_1_2, Cond.value, Term.eval]; done)))⟩
