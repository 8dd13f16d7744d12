/-! rows of the plain machine: calls -/
abbrev JPc (vs : List JV) (h : JH) (D : va_G) (cA : Nat → ClassId) (ad : Nat → Nat) (sz : Nat) : Array Value → State → Prop := va_Pc (vs.map (cvv ad)) (fun U => U.heap.size = sz ∧ va_P D vwCl (jws cA ad h) U.heap ∧ va_K D vwCl (jtys cA) U ∧ va_D (fun _ => True) (jws cA ad h) ∧ jX U)
theorem JPc_blind {vs : List JV} {h : JH} {D : va_G} {cA : Nat → ClassId} {ad : Nat → Nat} {sz : Nat} : FrameBlind (JPc vs h D cA ad sz) := by
  intro a U g mk z
  obtain ⟨z0, z1, zP, zK, zD, zX⟩ := z
  exact ⟨z0, z1, zP, va_K.moved (u := U) (U := U.calling g mk a) (Vm.Alike.refl U.vm) zK, zD, zX.same rfl⟩
section JW
variable {p : Program} {l : Launch} {e : Env} {R : Room} {s : State} {m : MethodId} {args : Array Value} {below : List Frame} {meth : Method} {c : Code} {H : Heap} {locs : List Loc} {cells slots mc ms : Nat} {Q : State → Prop}
theorem jW_call {D : va_G} {cA : Nat → ClassId} {Q' : Option JV → JH → Prop} {n pc : Nat} {ad : Nat → Nat} {A0 A1 : Nat → Prop} {H0 : Heap} {lsA : Array Slot} {st0 rest : List Value} {a : Array Value} {free : Addr → Prop} (hr : va_Run p l e R s m args below meth c H locs cells slots mc ms (F0 m pc lsA st0) rest (JQ Q' n ad D cA A1 a) free) (hS : va_S A0 H0 H locs) (hA : ∀ q, A1 q → A0 q) (hf : ∀ q, free q → A0 q)
    (kk : ∀ (r : Option JV) (h' : JH) (ad' : Nat → Nat) (H1 : Heap) (locs1 : List Loc), Q' r h' → okh h' → (∀ v ∈ r, okv h'.1.length v) → n ≤ h'.1.length → (∀ a, a < n → ad' a = ad a) → va_P D vwCl (jws cA ad' h') H1 → va_D A0 (jws cA ad' h') → va_S A0 H0 H1 locs1 → W p l e R s m args below meth c H1 locs1 (cells + mc) (slots + ms) Q (F0 m (pc + 3) lsA ((r.map (cvv ad')).toList ++ rest))) : W p l e R s m args below meth c H locs cells slots Q (F0 m pc lsA st0) := by
  intro T hT X
  obtain ⟨v, st₀, t, T', L, h0, X', hL, e1, e2, ⟨⟨r, h', ad', hv, hq, hok, hrv, hn, hag, hP, hD⟩, hz, hk⟩, st⟩ := hr T hT X
  have hv : v = r.map (cvv ad') := by cases hv; rfl
  subst hv
  rw [h0] at hz hk
  obtain ⟨t2, a1, b1⟩ := kk r h' ad' T'.heap (locs ++ L) hq hok hrv hn hag (by rw [e1]; exact hP) (hD.weaken (fun _ _ _ z => hA _ z))
    ⟨Nat.le_trans hS.1 (by rw [e1]; exact hz), fun q h1 h2 => by rw [e1, hk q (Nat.lt_of_lt_of_le h1 hS.1) (fun z => h2 (hA q z))]; exact hS.2.1 q h1 h2, fun q hq => by
      rcases List.mem_append.mp hq with h | h
      · exact hS.2.2 q h
      · exact hf _ (hL q h)⟩ T' rfl X'
  exact ⟨t2, st t2 a1, b1⟩
end JW
/-- what is told of a method that is called: by a receiver, as static, as a constructor -/
def jNH (y : JM) (n : Nat) : Prop := y.1.cls ≠ "java/lang/invoke/MethodHandle" ∧ y.1.cls ≠ "java/lang/invoke/VarHandle" ∧ (parseMethodDescriptor y.1.desc).map (fun d => d.parameters.length) = some n ∧ y.2.2.1 ≤ 45
def jMV (y : JM) (n c : Nat) : Prop := jcode y ∈ wsG ∧ Cond.instanceMethod y.1 ∈ wsG ∧ Cond.selects y.1.cls y.1 y.1 ∈ wsG ∧ Cond.initialized y.1.cls ∈ wsG ∧ jNH y n ∧ (c < 13 ∧ (jcl c).1 = y.1.cls)
def jMS (y : JM) (n : Nat) : Prop := jcode y ∈ wsG ∧ Cond.static y.1 ∈ wsG ∧ Cond.initialized y.1.cls ∈ wsG ∧ jNH y n
def jMI (y : JM) (n : Nat) : Prop := jcode y ∈ wsG ∧ Cond.instanceMethod y.1 ∈ wsG ∧ Cond.initialized y.1.cls ∈ wsG ∧ jNH y n ∧ y.1.name = "<init>" ∧ y.2.2.2 = none
theorem goodIn_c {big ws : List Cond} {w : Cond} (hb : ∀ w ∈ wsG, w ∈ big) (hw : w ∈ wsG) (h : GoodIn big ws) : GoodIn big (w :: ws) := fun x hx => (List.mem_cons.mp hx).elim (fun e => e ▸ ⟨hb _ hw, wsG_good hw⟩) (h x)
theorem jfree {A : Nat → Prop} {D : va_G} {cA : Nat → ClassId} {ad : Nat → Nat} {h : JH} {H0 H : Heap} {locs : List Loc} (hD : va_D A (jws cA ad h)) (hS : va_S A H0 H locs) (hA : ∀ q, H0.size ≤ q → A q) : ∀ q, va_A (jws cA ad h) H.size q → A q := by
  intro q hq
  rcases hq with ⟨k, e, hk⟩ | hq
  · exact hD.2 k _ hk
  · exact hA q (Nat.le_trans hS.1 hq)
theorem jcats (ad : Nat → Nat) (st : List JV) : ((st.map (cvv ad)).map fun v => v.category).sum = (st.map jcat).sum := by
  rw [List.map_map]
  congr 1
  exact List.map_congr_left (fun v _ => jcat_e ad v)
section CL
variable {d : Nat} {y : JM} {pc q : Nat} {ls st : List JV} {h : JH} {Q : Option JV → JH → Prop} {mc ms cu su mc' ms' : Nat} {y' : JM} {vs rest : List JV} {idx n : Nat} {Q' : Option JV → JH → Prop}
theorem st_invV {a c : Nat} (hd : decode y.2.1 pc = .ok (.invokevirtual idx, 3)) (hq : pc + 3 = q) (hw : Cond.methodLink y.1.cls idx y'.1 ∈ wsG) (hy : jMV y' n c) (hn : vs.length = n) (hst : st = vs.reverse ++ vr a :: rest) (hrest : (rest.map jcat).sum ≤ 8) (hm : cu + mc' ≤ mc ∧ su + ms' ≤ ms) (ha : kd h a = c) (hR : JRet mc' ms' d y' (vr a :: vs) h Q') (kk : ∀ r h', Q' r h' → JAt (mc, ms, cu + mc', su + ms') (d + 1) y q ls (r.toList ++ rest) h' Q) : JAt (mc, ms, cu, su) (d + 1) y pc ls st h Q := by
  subst hq
  intro p l e s m args below meth c' D cA A n0 ad0 C ad H locs lsA P
  have hts := C.2.2.2.2.2.2.2.1
  obtain ⟨hc1, hc2, hc3, hc4, hc5, hc6, hc7⟩ := hy
  have hvs : ∀ v ∈ vr a :: vs, okv h.1.length v := fun v hv => P.2.1 v (by
    rw [hst]
    rcases List.mem_cons.mp hv with z | z
    · subst z; exact List.mem_append_right _ List.mem_cons_self
    · exact List.mem_append_left _ (List.mem_reverse.mpr z))
  have hrs : ∀ v ∈ rest, okv h.1.length v := fun v hv => P.2.1 v (by rw [hst]; exact List.mem_append_right _ (List.mem_cons_of_mem _ hv))
  have hM := hR l D cA ad H.size P.1 hvs
  have hF := jfree (D := D) P.2.2.2.2.1 P.2.2.2.2.2.1 C.2.2.2.2.2.2.2.2.2.2
  have hcw : CallW (jrm (d + 1) mc ms) s args y.1.cls y'.1.cls idx y'.1 y'.2.1 y'.2.2.1 y'.2.2.2 (jw y') (jrm d mc' ms') mc' ms' n := cwV n hts (by
      unfold wsV
      exact goodIn_c (jw_in y) hw (goodIn_c (jw_in y) hc2 (goodIn_c (jw_in y) hc3 (goodIn_c (jw_in y) hc4 (jw_goodIn (jw_in y) hc1))))) rfl rfl rfl ⟨rfl, hc5.1, hc5.2.1, hc5.2.2.1⟩ ⟨Nat.le_refl _, by have := hc5.2.2.2; show 8 + (y'.2.2.1 + 11) + 64 * d ≤ 64 * (d + 1); omega⟩
  have hPV : PreV s H y'.1.cls (ad a) (JPc (vr a :: vs) h D cA ad H.size) (vs.map (cvv ad)) := ⟨JPc_blind, by
      have := va_recv C.2.2.2.2.2.2.2.2.1 P.2.2.2.1 (jcl_at hc6) ((jws_at cA ad (kd_lt ha (by omega))).trans (by rw [jce_obj ha hc6]))
      rw [← hc7]; exact this, fun U hU hW => ⟨rfl, by rw [hU], by rw [hU]; exact P.2.2.2.1, va_K.moved hW.alike C.2.2.2.2.2.2.2.2.1, P.2.2.2.2.1.weaken (fun _ _ _ _ => trivial), jX.warm hW C.2.2.2.2.2.2.2.2.2.1⟩⟩
  refine jW_call (va_runV (As := vs.map (cvv ad)) (rest := rest.map (cvv ad)) ⟨C.1, C.2.1, C.2.2.1, C.2.2.2.2.2.1, hts⟩ hM hcw hPV rfl (by rw [List.length_map]; exact hn) P.2.2.2.2.2.2.2.2.1 (by
      show st.map (cvv ad) = _
      rw [hst, List.map_append, List.map_reverse]; rfl) (lv_room (by rw [jcats]; exact hrest)) hd hm) P.2.2.2.2.2.1 hF hF (fun r h' ad' H1 locs1 hq hok hrv hn1 hag hP hD hS => ?_)
  have go := kk r h' hq p l e s m args below meth c' D cA A n0 ad0 C ad' H1 locs1 lsA ⟨hok, fun v hv => by
      rcases List.mem_append.mp hv with z | z
      · exact hrv v (Option.mem_toList.mp z)
      · exact okv_up hn1 (hrs v z), okvs_up hn1 P.2.2.1, hP, hD, hS, Nat.le_trans P.2.2.2.2.2.2.1 hn1, fun x hx => (hag x (Nat.lt_of_lt_of_le hx P.2.2.2.2.2.2.1)).trans (P.2.2.2.2.2.2.2.1 x hx), JL.cg hag P.2.2.1 P.2.2.2.2.2.2.2.2⟩
  rw [List.map_append, mcv_cg hag hrs] at go
  cases r <;> exact go
theorem st_invS (hd : decode y.2.1 pc = .ok (.invokestatic idx, 3)) (hq : pc + 3 = q) (hw : Cond.methodLink y.1.cls idx y'.1 ∈ wsG) (hy : jMS y' n) (hn : vs.length = n) (hst : st = vs.reverse ++ rest) (hrest : (rest.map jcat).sum ≤ 8) (hm : cu + mc' ≤ mc ∧ su + ms' ≤ ms) (hR : JRet mc' ms' d y' vs h Q') (kk : ∀ r h', Q' r h' → JAt (mc, ms, cu + mc', su + ms') (d + 1) y q ls (r.toList ++ rest) h' Q) : JAt (mc, ms, cu, su) (d + 1) y pc ls st h Q := by
  subst hq
  intro p l e s m args below meth c' D cA A n0 ad0 C ad H locs lsA P
  have hts := C.2.2.2.2.2.2.2.1
  obtain ⟨hc1, hc2, hc4, hc5⟩ := hy
  have hvs : ∀ v ∈ vs, okv h.1.length v := fun v hv => P.2.1 v (by rw [hst]; exact List.mem_append_left _ (List.mem_reverse.mpr hv))
  have hrs : ∀ v ∈ rest, okv h.1.length v := fun v hv => P.2.1 v (by rw [hst]; exact List.mem_append_right _ hv)
  have hM := hR l D cA ad H.size P.1 hvs
  have hF := jfree (D := D) P.2.2.2.2.1 P.2.2.2.2.2.1 C.2.2.2.2.2.2.2.2.2.2
  have hcw : CallB (jrm (d + 1) mc ms) s args y.1.cls idx y'.1 y'.2.1 y'.2.2.1 y'.2.2.2 (jw y') (jrm d mc' ms') mc' ms' n ∧ (Cond.static y'.1).before args s = true := va_cwS n hts (by
      unfold va_wsS
      exact goodIn_c (jw_in y) hw (goodIn_c (jw_in y) hc2 (goodIn_c (jw_in y) hc4 (jw_goodIn (jw_in y) hc1)))) rfl rfl rfl ⟨hc5.1, hc5.2.1, hc5.2.2.1⟩ ⟨Nat.le_refl _, by have := hc5.2.2.2; show 8 + (y'.2.2.1 + 11) + 64 * d ≤ 64 * (d + 1); omega⟩
  have hPV : PreS s H (JPc vs h D cA ad H.size) (vs.map (cvv ad)) := ⟨JPc_blind, fun U hU hW => ⟨rfl, by rw [hU], by rw [hU]; exact P.2.2.2.1, va_K.moved hW.alike C.2.2.2.2.2.2.2.2.1, P.2.2.2.2.1.weaken (fun _ _ _ _ => trivial), jX.warm hW C.2.2.2.2.2.2.2.2.2.1⟩⟩
  refine jW_call (va_runS (As := vs.map (cvv ad)) (rest := rest.map (cvv ad)) ⟨C.1, C.2.1, C.2.2.1, C.2.2.2.2.2.1, hts⟩ hM hcw hPV rfl (by rw [List.length_map]; exact hn) P.2.2.2.2.2.2.2.2.1 (by
      show st.map (cvv ad) = _
      rw [hst, List.map_append, List.map_reverse]) (lv_room (by rw [jcats]; exact hrest)) hd hm) P.2.2.2.2.2.1 hF hF (fun r h' ad' H1 locs1 hq hok hrv hn1 hag hP hD hS => ?_)
  have go := kk r h' hq p l e s m args below meth c' D cA A n0 ad0 C ad' H1 locs1 lsA ⟨hok, fun v hv => by
      rcases List.mem_append.mp hv with z | z
      · exact hrv v (Option.mem_toList.mp z)
      · exact okv_up hn1 (hrs v z), okvs_up hn1 P.2.2.1, hP, hD, hS, Nat.le_trans P.2.2.2.2.2.2.1 hn1, fun x hx => (hag x (Nat.lt_of_lt_of_le hx P.2.2.2.2.2.2.1)).trans (P.2.2.2.2.2.2.2.1 x hx), JL.cg hag P.2.2.1 P.2.2.2.2.2.2.2.2⟩
  rw [List.map_append, mcv_cg hag hrs] at go
  cases r <;> exact go
theorem st_invSN {host : String} (hd : decode y.2.1 pc = .ok (.invokestatic idx, 3)) (hq : pc + 3 = q) (hw : (y.1.cls, idx, y'.1, host) ∈ jnest) (hy : jMS y' n) (hn : vs.length = n) (hst : st = vs.reverse ++ rest) (hrest : (rest.map jcat).sum ≤ 8) (hm : cu + mc' ≤ mc ∧ su + ms' ≤ ms) (hR : JRet mc' ms' d y' vs h Q') (kk : ∀ r h', Q' r h' → JAt (mc, ms, cu + mc', su + ms') (d + 1) y q ls (r.toList ++ rest) h' Q) : JAt (mc, ms, cu, su) (d + 1) y pc ls st h Q := by
  subst hq
  intro p l e s m args below meth c' D cA A n0 ad0 C ad H locs lsA P
  have hts := C.2.2.2.2.2.2.2.1
  obtain ⟨hc1, hc2, hc4, hc5⟩ := hy
  have hvs : ∀ v ∈ vs, okv h.1.length v := fun v hv => P.2.1 v (by rw [hst]; exact List.mem_append_left _ (List.mem_reverse.mpr hv))
  have hrs : ∀ v ∈ rest, okv h.1.length v := fun v hv => P.2.1 v (by rw [hst]; exact List.mem_append_right _ hv)
  have hM := hR l D cA ad H.size P.1 hvs
  have hF := jfree (D := D) P.2.2.2.2.1 P.2.2.2.2.2.1 C.2.2.2.2.2.2.2.2.2.2
  have hcw : va_CN (jrm (d + 1) mc ms) s args y.1.cls idx y'.1 host y'.2.1 y'.2.2.1 y'.2.2.2 (jw y') (jrm d mc' ms') mc' ms' n := va_cnB n hts (jw_goodIn (jw_in y) hc1) rfl rfl rfl (C.2.2.2.2.2.2.2.2.2.1.1 _ hw) (hts _ (jw_in y _ hc4)) ⟨hc5.1, hc5.2.1, hc5.2.2.1⟩ ⟨Nat.le_refl _, by have := hc5.2.2.2; show 8 + (y'.2.2.1 + 11) + 64 * d ≤ 64 * (d + 1); omega⟩
  have hPV : PreS s H (JPc vs h D cA ad H.size) (vs.map (cvv ad)) := ⟨JPc_blind, fun U hU hW => ⟨rfl, by rw [hU], by rw [hU]; exact P.2.2.2.1, va_K.moved hW.alike C.2.2.2.2.2.2.2.2.1, P.2.2.2.2.1.weaken (fun _ _ _ _ => trivial), jX.warm hW C.2.2.2.2.2.2.2.2.2.1⟩⟩
  refine jW_call (va_runSN (As := vs.map (cvv ad)) (rest := rest.map (cvv ad)) ⟨C.1, C.2.1, C.2.2.1, C.2.2.2.2.2.1, hts⟩ hM ⟨hcw, hts _ (jw_in y _ hc2), trivial⟩ hPV rfl (by rw [List.length_map]; exact hn) P.2.2.2.2.2.2.2.2.1 (by
      show st.map (cvv ad) = _
      rw [hst, List.map_append, List.map_reverse]) (lv_room (by rw [jcats]; exact hrest)) hd hm) P.2.2.2.2.2.1 hF hF (fun r h' ad' H1 locs1 hq hok hrv hn1 hag hP hD hS => ?_)
  have go := kk r h' hq p l e s m args below meth c' D cA A n0 ad0 C ad' H1 locs1 lsA ⟨hok, fun v hv => by
      rcases List.mem_append.mp hv with z | z
      · exact hrv v (Option.mem_toList.mp z)
      · exact okv_up hn1 (hrs v z), okvs_up hn1 P.2.2.1, hP, hD, hS, Nat.le_trans P.2.2.2.2.2.2.1 hn1, fun x hx => (hag x (Nat.lt_of_lt_of_le hx P.2.2.2.2.2.2.1)).trans (P.2.2.2.2.2.2.2.1 x hx), JL.cg hag P.2.2.1 P.2.2.2.2.2.2.2.2⟩
  rw [List.map_append, mcv_cg hag hrs] at go
  cases r <;> exact go
theorem st_invI {a : Nat} (hd : decode y.2.1 pc = .ok (.invokespecial idx, 3)) (hq : pc + 3 = q) (hw : Cond.methodLink y.1.cls idx y'.1 ∈ wsG ∨ ∃ host, (y.1.cls, idx, y'.1, host) ∈ jnest) (hy : jMI y' n) (hn : vs.length = n) (hst : st = vs.reverse ++ vr a :: rest) (hrest : (rest.map jcat).sum ≤ 8) (hm : cu + mc' ≤ mc ∧ su + ms' ≤ ms) (hR : JRet mc' ms' d y' (vr a :: vs) h Q') (kk : ∀ r h', Q' r h' → JAt (mc, ms, cu + mc', su + ms') (d + 1) y q ls (r.toList ++ rest) h' Q) : JAt (mc, ms, cu, su) (d + 1) y pc ls st h Q := by
  subst hq
  intro p l e s m args below meth c' D cA A n0 ad0 C ad H locs lsA P
  have hts := C.2.2.2.2.2.2.2.1
  obtain ⟨hc1, hc2, hc4, hc5, hc6, hc7⟩ := hy
  have hvs : ∀ v ∈ vr a :: vs, okv h.1.length v := fun v hv => P.2.1 v (by
    rw [hst]
    rcases List.mem_cons.mp hv with z | z
    · subst z; exact List.mem_append_right _ List.mem_cons_self
    · exact List.mem_append_left _ (List.mem_reverse.mpr z))
  have hrs : ∀ v ∈ rest, okv h.1.length v := fun v hv => P.2.1 v (by rw [hst]; exact List.mem_append_right _ (List.mem_cons_of_mem _ hv))
  have hM := hR l D cA ad H.size P.1 hvs
  have hF := jfree (D := D) P.2.2.2.2.1 P.2.2.2.2.2.1 C.2.2.2.2.2.2.2.2.2.2
  have hPV : PreS s H (JPc (vr a :: vs) h D cA ad H.size) (.ref (ad a) :: vs.map (cvv ad)) := ⟨JPc_blind, fun U hU hW => ⟨rfl, by rw [hU], by rw [hU]; exact P.2.2.2.1, va_K.moved hW.alike C.2.2.2.2.2.2.2.2.1, P.2.2.2.2.1.weaken (fun _ _ _ _ => trivial), jX.warm hW C.2.2.2.2.2.2.2.2.2.1⟩⟩
  have hjw : jw y' = Cond.code y'.1 y'.2.1 y'.2.2.1 none :: wsG := by unfold jw jcode; rw [hc7]
  have hstk : (F0 m pc lsA (st.map (cvv ad))).stack = (vs.map (cvv ad)).reverse ++ .ref (ad a) :: rest.map (cvv ad) := by
      show st.map (cvv ad) = _
      rw [hst, List.map_append, List.map_reverse]; rfl
  have hrun : va_Run p l e (jrm (d + 1) mc ms) s m args below meth c' H locs cu su mc' ms' (F0 m pc lsA (st.map (cvv ad))) (rest.map (cvv ad)) (JQ Q' h.1.length ad D cA (va_A (jws cA ad h) H.size) (Value.ref (ad a) :: vs.map (cvv ad)).toArray) (va_A (jws cA ad h) H.size) := by
    rcases hw with hw | ⟨host, hw⟩
    · exact va_runI (As := vs.map (cvv ad)) (rest := rest.map (cvv ad)) ⟨C.1, C.2.1, C.2.2.1, C.2.2.2.2.2.1, hts⟩ hM (cwI n hts (jw_goodIn (jw_in y) hc1) hjw rfl rfl (hts _ (jw_in y _ hc4)) (hts _ (jw_in y _ hw)) (hts _ (jw_in y _ hc2)) hc6 ⟨hc5.1, hc5.2.1, hc5.2.2.1⟩ ⟨Nat.le_refl _, by have := hc5.2.2.2; show 8 + (y'.2.2.1 + 11) + 64 * d ≤ 64 * (d + 1); omega⟩) hPV rfl (by rw [List.length_map]; exact hn) P.2.2.2.2.2.2.2.2.1 hstk (lv_room (by rw [jcats]; exact hrest)) hd hm
    · exact va_runIN (As := vs.map (cvv ad)) (rest := rest.map (cvv ad)) ⟨C.1, C.2.1, C.2.2.1, C.2.2.2.2.2.1, hts⟩ hM ⟨va_cnB n hts (jw_goodIn (jw_in y) hc1) hjw rfl rfl (C.2.2.2.2.2.2.2.2.2.1.1 _ hw) (hts _ (jw_in y _ hc4)) ⟨hc5.1, hc5.2.1, hc5.2.2.1⟩ ⟨Nat.le_refl _, by have := hc5.2.2.2; show 8 + (y'.2.2.1 + 11) + 64 * d ≤ 64 * (d + 1); omega⟩, hc6, hts _ (jw_in y _ hc2)⟩ hPV rfl (by rw [List.length_map]; exact hn) P.2.2.2.2.2.2.2.2.1 hstk (lv_room (by rw [jcats]; exact hrest)) hd hm
  refine jW_call hrun P.2.2.2.2.2.1 hF hF (fun r h' ad' H1 locs1 hq hok hrv hn1 hag hP hD hS => ?_)
  have go := kk r h' hq p l e s m args below meth c' D cA A n0 ad0 C ad' H1 locs1 lsA ⟨hok, fun v hv => by
      rcases List.mem_append.mp hv with z | z
      · exact hrv v (Option.mem_toList.mp z)
      · exact okv_up hn1 (hrs v z), okvs_up hn1 P.2.2.1, hP, hD, hS, Nat.le_trans P.2.2.2.2.2.2.1 hn1, fun x hx => (hag x (Nat.lt_of_lt_of_le hx P.2.2.2.2.2.2.1)).trans (P.2.2.2.2.2.2.2.1 x hx), JL.cg hag P.2.2.1 P.2.2.2.2.2.2.2.2⟩
  rw [List.map_append, mcv_cg hag hrs] at go
  cases r <;> exact go
theorem st_objInit {κ : JK} {a : Nat} (hd : decode y.2.1 pc = .ok (.invokespecial idx, 3)) (hq : pc + 3 = q) (hw : Cond.methodLink y.1.cls idx Lib.objectInit ∈ wsG) (h1 : Cond.instanceMethod Lib.objectInit ∈ wsG) (h2 : Cond.code Lib.objectInit ⟨#[0xb1]⟩ 1 none ∈ wsG) (hrest : (st.map jcat).sum ≤ 8) (kk : JAt κ (d + 1) y q ls st h Q) : JAt κ (d + 1) y pc ls (vr a :: st) h Q := by
  subst hq
  intro p l e s m args below meth c' D cA A n0 ad0 C ad H locs lsA P
  have hts := C.2.2.2.2.2.2.2.1
  have hr := lv_room (m := m) (pc := pc) (ls := lsA) (rest := (vr a :: st).map (cvv ad)) (st := st.map (cvv ad)) (by rw [jcats]; exact hrest)
  exact W.objInit C.1 C.2.1 C.2.2.2.2.2.1 (hts _ (jw_in y _ hw)) (hts _ (jw_in y _ h1)) (hts _ (jw_in y _ h2)) rfl (P.2.2.2.2.2.2.2.2.1.trans C.2.2.1.symm) rfl hd (by show 1 ≤ d + 1; omega) (by show _ ≤ 64 * (d + 1); omega) (kk p l e s m args below meth c' D cA A n0 ad0 C ad H locs lsA ⟨P.1, ok_t P.2.1, P.2.2⟩)
end CL
