/-! trunk: orders, their rank; the reference's next order -/
def IsO (N n : Nat) (f : Nat → Nat) : Prop := (∀ i, i < n → f i < 8 ∧ N.testBit (f i) = true) ∧ (∀ i j, i < n → j < n → f i = f j → i = j) ∧ (∀ k, N.testBit k = true → ∃ i, i < n ∧ f i = k)
def lx (n : Nat) (f g : Nat → Nat) : Prop := ∃ d, d < n ∧ (∀ j, j < d → f j = g j) ∧ f d < g d
def eqn (n : Nat) (f g : Nat → Nat) : Prop := ∀ j, j < n → f j = g j
theorem lx_tri (f g : Nat → Nat) : ∀ n, eqn n f g ∨ lx n f g ∨ lx n g f
  | 0 => Or.inl (fun j hj => by omega)
  | n + 1 => by
    rcases lx_tri f g n with e | ⟨d, h1, h2, h3⟩ | ⟨d, h1, h2, h3⟩
    · rcases Nat.lt_trichotomy (f n) (g n) with z | z | z
      · exact Or.inr (Or.inl ⟨n, by omega, e, z⟩)
      · refine Or.inl (fun j hj => ?_)
        by_cases q : j = n
        · rw [q]; exact z
        · exact e j (by omega)
      · exact Or.inr (Or.inr ⟨n, by omega, fun j hj => (e j hj).symm, z⟩)
    · exact Or.inr (Or.inl ⟨d, by omega, h2, h3⟩)
    · exact Or.inr (Or.inr ⟨d, by omega, h2, h3⟩)
theorem lx_irr {n : Nat} {f g : Nat → Nat} (h : lx n f g) (e : eqn n f g) : False := by
  obtain ⟨d, h1, _, h3⟩ := h
  have := e d h1
  omega
theorem IsO.at {N n d : Nat} {c f : Nat → Nat} (oc : IsO N n c) (of : IsO N n f) (hd : d < n) (e : ∀ j, j < d → c j = f j) : ∃ k, d ≤ k ∧ k < n ∧ c k = f d := by
  obtain ⟨k, hk, ek⟩ := oc.2.2 (f d) (of.1 d hd).2
  refine ⟨k, ?_, hk, ek⟩
  by_cases z : d ≤ k
  · exact z
  · have := of.2.1 k d (by omega) hd ((e k (by omega)).symm.trans ek)
    omega
def Ds (c : Nat → Nat) (i n : Nat) : Prop := ∀ j k, i ≤ j → j < k → k < n → c k < c j
def Asc (c : Nat → Nat) (i n : Nat) : Prop := ∀ j k, i ≤ j → j < k → k < n → c j < c k
theorem ord_last {N n : Nat} {c f : Nat → Nat} (oc : IsO N n c) (of : IsO N n f) (s : Ds c 0 n) : ¬ lx n c f := fun ⟨d, h1, h2, h3⟩ => by
  obtain ⟨k, k1, k2, k3⟩ := oc.at of h1 h2
  by_cases z : k = d
  · subst z; omega
  · have := s d k (by omega) (by omega) k2
    omega
theorem ord_first {N n : Nat} {c f : Nat → Nat} (oc : IsO N n c) (of : IsO N n f) (s : Asc c 0 n) : ¬ lx n f c := fun ⟨d, h1, h2, h3⟩ => by
  obtain ⟨k, k1, k2, k3⟩ := oc.at of h1 (fun j hj => (h2 j hj).symm)
  by_cases z : k = d
  · subst z; omega
  · have := s d k (by omega) (by omega) k2
    omega
/-- x is the next order behind c -/
def Nxt (n i : Nat) (c x : Nat → Nat) : Prop := i < n ∧ (∀ j, j < i → x j = c j) ∧ c i < x i ∧ Ds c (i + 1) n ∧ Asc x (i + 1) n ∧ ∀ e, i < e → e < n → c i < c e → x i ≤ c e
theorem Nxt_lx {n i : Nat} {c x : Nat → Nat} (t : Nxt n i c x) : lx n c x := ⟨i, t.1, fun j hj => (t.2.1 j hj).symm, t.2.2.1⟩
theorem Nxt_no {N n i : Nat} {c x f : Nat → Nat} (t : Nxt n i c x) (oc : IsO N n c) (ox : IsO N n x) (of : IsO N n f) (h : lx n c f) : eqn n f x ∨ lx n x f := by
  obtain ⟨hi, t1, t2, t3, t4, t5⟩ := t
  obtain ⟨d, h1, h2, h3⟩ := h
  rcases Nat.lt_trichotomy d i with z | z | z
  · exact Or.inr ⟨d, h1, fun j hj => (t1 j (by omega)).trans (h2 j hj), by rw [t1 d z]; exact h3⟩
  · subst z
    obtain ⟨k, k1, k2, k3⟩ := oc.at of h1 h2
    have kd : k ≠ d := fun q => by rw [q] at k3; omega
    have t6 := t5 k (by omega) k2 (by omega)
    by_cases q : x d < f d
    · exact Or.inr ⟨d, h1, fun j hj => (t1 j hj).trans (h2 j hj), q⟩
    · have e0 : x d = f d := by omega
      rcases lx_tri x f n with e | e | ⟨d', g1, g2, g3⟩
      · exact Or.inl (fun j hj => (e j hj).symm)
      · exact Or.inr e
      · exfalso
        have dd : d < d' := by
          rcases Nat.lt_trichotomy d' d with y | y | y
          · have := t1 d' y; have := h2 d' y; omega
          · subst y; omega
          · exact y
        obtain ⟨k', k4, k5, k6⟩ := ox.at of g1 (fun j hj => (g2 j hj).symm)
        by_cases y : k' = d'
        · subst y; omega
        · have := t4 d' k' (by omega) (by omega) k5
          omega
  · exfalso
    obtain ⟨k, k1, k2, k3⟩ := oc.at of h1 h2
    by_cases y : k = d
    · subst y; omega
    · have := t3 d k (by omega) (by omega) k2
      omega
def tau (a b e : Nat) : Nat := if e = b then a else if e = a then b else e
theorem tau_tau (a b e : Nat) : tau a b (tau a b e) = e := by unfold tau; (repeat' split) <;> omega
theorem tau_lt {a b e n : Nat} (ha : a < n) (hb : b < n) (he : e < n) : tau a b e < n := by unfold tau; (repeat' split) <;> omega
theorem IsO.sw {N n a b : Nat} {f g : Nat → Nat} (o : IsO N n f) (ha : a < n) (hb : b < n) (e : ∀ i, i < n → g i = f (tau a b i)) : IsO N n g := by
  refine ⟨fun i hi => by rw [e i hi]; exact o.1 _ (tau_lt ha hb hi), fun i j hi hj q => ?_, fun k hk => ?_⟩
  · rw [e i hi, e j hj] at q
    have := o.2.1 _ _ (tau_lt ha hb hi) (tau_lt ha hb hj) q
    rw [← tau_tau a b i, this, tau_tau]
  · obtain ⟨i, hi, q⟩ := o.2.2 k hk
    exact ⟨tau a b i, tau_lt ha hb hi, by rw [e _ (tau_lt ha hb hi), tau_tau]; exact q⟩
/-- the order lies in the array -/
def OdM (h : JH) (n : Nat) (f : Nat → Nat) : Prop := ∀ i, i < n → hI h 144 i = ((f i : Nat) : Int)
theorem c_X12_exchange {d : Nat} {h : JH} {P : JH → Prop} {n a b : Nat} {f : Nat → Nat} (w : WF h) (hn : n ≤ 8) (od : OdM h n f) (ha : a < n) (hb : b < n) (hP : ∀ h', Fr ScO h h' → OdM h' n (fun i => f (tau a b i)) → P h') : JRv d jX12_exchange [vr 117, vi a, vi b] h P := by
  have z := hP (sI (sI h 144 a (hI h 144 b)) 144 b (hI h 144 a)) ((Fr.rf.sI _ (show ScO 144 a from rfl)).sI _ (show ScO 144 b from rfl)) (fun i hi => by
    show _ = ((f (tau a b i) : Nat) : Int)
    unfold tau
    by_cases z1 : i = b
    · subst z1; rw [sI_s, if_pos rfl]; exact od a ha
    · rw [sI_k _ z1, if_neg z1]
      by_cases z2 : i = a
      · subst z2; rw [sI_s, if_pos rfl]; exact od b hb
      · rw [sI_k _ z2, if_neg z2]; exact od i hi)
  refine JRet.of rfl (Nat.le_of_ble_eq_true rfl) ?_
  refine st_aload_n (q := 1) dX12_exchange_0 rfl rfl ?_
  refine st_getR (q := 4) 12 37 dX12_exchange_1 fl_X12_99 (by decide) (by decide) rfl rfl (wfk w rfl) (wfR w rfl) ?_
  refine st_iload_n (q := 5) dX12_exchange_4 rfl rfl ?_
  refine st_iaload (q := 6) dX12_exchange_5 rfl (wfk w rfl) (wfb w (n := 8) rfl ⟨by omega, by omega⟩) ?_
  refine st_istore_n (q := 7) (i := 3) dX12_exchange_6 rfl (by decide) rfl ?_
  refine st_aload_n (q := 8) dX12_exchange_7 rfl rfl ?_
  refine st_getR (q := 11) 12 37 dX12_exchange_8 fl_X12_99 (by decide) (by decide) rfl rfl (wfk w rfl) (wfR w rfl) ?_
  refine st_iload_n (q := 12) dX12_exchange_11 rfl rfl ?_
  refine st_aload_n (q := 13) dX12_exchange_12 rfl rfl ?_
  refine st_getR (q := 16) 12 37 dX12_exchange_13 fl_X12_99 (by decide) (by decide) rfl rfl (wfk w rfl) (wfR w rfl) ?_
  refine st_iload_n (q := 17) dX12_exchange_16 rfl rfl ?_
  refine st_iaload (q := 18) dX12_exchange_17 rfl (wfk w rfl) (wfb w (n := 8) rfl ⟨by omega, by omega⟩) ?_
  refine st_iastore (q := 19) dX12_exchange_18 rfl (wfk w rfl) (wfb w (n := 8) rfl ⟨by omega, by omega⟩) ?_
  refine st_aload_n (q := 20) dX12_exchange_19 rfl rfl ?_
  refine st_getR (q := 23) 12 37 dX12_exchange_20 fl_X12_99 (by decide) (by decide) rfl rfl (wfk w rfl) (wfR w rfl) ?_
  refine st_iload_n (q := 24) dX12_exchange_23 rfl rfl ?_
  refine st_iload_n (q := 25) dX12_exchange_24 rfl rfl ?_
  refine st_iastore (q := 26) dX12_exchange_25 rfl (wfk w rfl) (wfb w (n := 8) rfl ⟨by omega, by omega⟩) ?_
  refine rt_v dX12_exchange_26 rfl ?_
  exact z
theorem lp_no78 {d : Nat} {h0 : JH} {P : Int → JH → Prop} {N n i j : Nat} {x : Nat → Nat} (w0 : WF h0) (hn : n ≤ 8) (hi : i + 1 < n) (hP : ∀ y h', Fr ScO h0 h' → OdM h' n y → IsO N n y → (∀ e, e ≤ i → y e = x e) → (∀ e, i < e → e < n → y e = x (i + n - e)) → P 1 h') (a b : Nat) (hab : a + b = i + n) (hia : i < a) (hb : b < n) (hib : i ≤ b) : ∀ h' y, Fr ScO h0 h' → OdM h' n y → IsO N n y → (∀ e, e ≤ i → y e = x e) → (∀ e, i < e → e < n → (e < a ∨ b < e) → y e = x (i + n - e)) → (∀ e, a ≤ e → e ≤ b → y e = x e) → JAt k0 (d + 1) jX12_nextOrder 78 [vr 117, vi n, vi i, vi j, vi a, vi b] [] h' (jqi P) := by
  intro h' y f od oy y1 y2 y3
  have w := f.wf w0
  refine st_iload (q := 80) dX12_nextOrder_78 rfl rfl ?_
  refine st_iload (q := 82) dX12_nextOrder_80 rfl rfl ?_
  refine st_icmp_ge (q := 85) (tgt := 102) dX12_nextOrder_82 (by decide) rfl (fun c82 => ?_) (fun c82 => ?_)
  · refine st_iconst (q := 103) dX12_nextOrder_102 ⟨by decide, by decide⟩ rfl ?_
    refine rt_z dX12_nextOrder_103 rfl (by (repeat' split) <;> omega) ?_
    exact hP y _ f od oy y1 (fun e e1 e2 => by by_cases z : e < a ∨ b < e; exact y2 e e1 e2 z; (rw [y3 e (by omega) (by omega)]; congr 1; omega))
  · refine st_aload_n (q := 86) dX12_nextOrder_85 rfl rfl ?_
    refine st_iload (q := 88) dX12_nextOrder_86 rfl rfl ?_
    refine st_iload (q := 90) dX12_nextOrder_88 rfl rfl ?_
    refine iV2v (q := 93) dX12_nextOrder_90 rfl ml_X12_251 mv_X12_exchange (Nat.le_of_ble_eq_true rfl) (wfk w rfl) ?_
    have ab : a < b := (by omega)
    refine c_X12_exchange w hn od (by omega) hb (fun h2 f2 od2 => ?_)
    first | refine n_iinc (q := 96) dX12_nextOrder_93 rfl (by decide) rfl ⟨by omega, by omega⟩ ?_ | refine st_iinc (q := 96) dX12_nextOrder_93 rfl (by decide) rfl ?_
    first | refine n_iinc (q := 99) dX12_nextOrder_96 rfl (by decide) rfl ⟨by omega, by omega⟩ ?_ | refine st_iinc (q := 99) dX12_nextOrder_96 rfl (by decide) rfl ?_
    refine st_goto (q := 78) dX12_nextOrder_99 (by decide) ?_
    have t := lp_no78 (d := d) (j := j) w0 hn hi hP (a + 1) (b - 1) (by omega) (by omega) (by omega) (by omega) h2 _ (f.tr f2) od2 (oy.sw (by omega) hb (fun _ _ => rfl)) (fun e he => by show y (tau a b e) = x e; unfold tau; rw [if_neg (by omega), if_neg (by omega)]; exact y1 e he) (fun e e1 e2 e3 => by show y (tau a b e) = _; unfold tau; by_cases z1 : e = b; (rw [if_pos z1, y3 a (by omega) (by omega)]; congr 1; omega); (rw [if_neg z1]; by_cases z2 : e = a; (rw [if_pos z2, y3 b (by omega) (by omega)]; congr 1; omega); (rw [if_neg z2]; exact y2 e e1 e2 (by omega)))) (fun e e1 e2 => by show y (tau a b e) = x e; unfold tau; rw [if_neg (by omega), if_neg (by omega)]; exact y3 e (by omega) (by omega))
    rw [show ((b - 1 : Nat) : Int) = (b : Int) + -1 by omega] at t
    exact t
termination_by b - a
theorem lp_no41 {d : Nat} {h : JH} {P : Int → JH → Prop} {N n i : Nat} {f : Nat → Nat} (w : WF h) (hn : n ≤ 8) (od : OdM h n f) (o : IsO N n f) (hi : i + 1 < n) (up : f i < f (i + 1)) (ds : Ds f (i + 1) n) (hP : ∀ x h', Fr ScO h h' → OdM h' n x → IsO N n x → Nxt n i f x → P 1 h') (j : Nat) (hj : i < j ∧ j < n) (lo : ∀ e, j < e → e < n → f e < f i) : ∀ j4 j5, JAt k0 (d + 1) jX12_nextOrder 41 [vr 117, vi n, vi i, vi j, j4, j5] [] h (jqi P) := by
  intro j4 j5
  have o1 := od i (by omega)
  have o2 := od j hj.2
  have nx : f i ≤ f j → ∀ h2, Fr ScO h h2 → OdM h2 n (fun e => f (tau i j e)) → JAt k0 (d + 1) jX12_nextOrder 78 [vr 117, vi n, vi i, vi j, vi ((i + 1 : Nat) : Int), vi ((n - 1 : Nat) : Int)] [] h2 (jqi P) := by
    intro fj h2 f2 od2
    have fj2 : f i < f j := by
      have : f i ≠ f j := fun q => by have := o.2.1 i j (by omega) hj.2 q; omega
      omega
    have ox := o.sw (g := fun e => f (tau i j e)) (a := i) (b := j) (by omega) hj.2 (fun _ _ => rfl)
    have ti : tau i j i = j := by unfold tau; rw [if_neg (by omega), if_pos rfl]
    have tj : tau i j j = i := by unfold tau; rw [if_pos rfl]
    have to : ∀ e, e ≠ i → e ≠ j → tau i j e = e := fun e z1 z2 => by unfold tau; rw [if_neg z2, if_neg z1]
    have dx : Ds (fun e => f (tau i j e)) (i + 1) n := fun a b h1 h2 h3 => by
      show f (tau i j b) < f (tau i j a)
      by_cases za : a = j
      · rw [za, tj, to b (by omega) (by omega)]; exact lo b (by omega) h3
      · rw [to a (by omega) za]
        by_cases zb : b = j
        · rw [zb, tj]
          have := ds a j h1 (by omega) hj.2
          omega
        · rw [to b (by omega) zb]; exact ds a b h1 h2 h3
    refine lp_no78 (x := fun e => f (tau i j e)) (f2.wf w) hn hi (fun y h3 f3 od3 oy y1 y2 => hP y h3 (f2.tr f3) od3 oy ⟨by omega, fun e he => ?_, ?_, ds, fun a b h1 h2 h3 => ?_, fun e e1 e2 e3 => ?_⟩) (i + 1) (n - 1) (by omega) (by omega) (by omega) (by omega) h2 _ Fr.rf od2 ox (fun _ _ => rfl) (fun e e1 e2 e3 => by exfalso; omega) (fun _ _ _ => rfl)
    · rw [y1 e (by omega)]; show f (tau i j e) = f e; rw [to e (by omega) (by omega)]
    · rw [y1 i (by omega)]; show f i < f (tau i j i); rw [ti]; exact fj2
    · rw [y2 a (by omega) (by omega), y2 b (by omega) h3]
      exact dx (i + n - b) (i + n - a) (by omega) (by omega) (by omega)
    · rw [y1 i (by omega)]; show f (tau i j i) ≤ f e; rw [ti]
      rcases Nat.lt_trichotomy e j with z | z | z
      · have := ds e j (by omega) z hj.2; omega
      · rw [z]; exact Nat.le_refl _
      · have := lo e z e2; omega
  have st : f j < f i → i + 1 < j := fun q => by
    by_cases z : j = i + 1
    · subst z; omega
    · omega
  refine st_aload_n (q := 42) dX12_nextOrder_41 rfl rfl ?_
  refine st_getR (q := 45) 12 37 dX12_nextOrder_42 fl_X12_99 (by decide) (by decide) rfl rfl (wfk w rfl) (wfR w rfl) ?_
  refine st_iload_n (q := 46) dX12_nextOrder_45 rfl rfl ?_
  refine st_iaload (q := 47) dX12_nextOrder_46 rfl (wfk w rfl) (wfb w (n := 8) rfl ⟨by omega, by omega⟩) ?_
  refine j_top ((f j : Nat) : Int) o2 ?_
  refine st_aload_n (q := 48) dX12_nextOrder_47 rfl rfl ?_
  refine st_getR (q := 51) 12 37 dX12_nextOrder_48 fl_X12_99 (by decide) (by decide) rfl rfl (wfk w rfl) (wfR w rfl) ?_
  refine st_iload_n (q := 52) dX12_nextOrder_51 rfl rfl ?_
  refine st_iaload (q := 53) dX12_nextOrder_52 rfl (wfk w rfl) (wfb w (n := 8) rfl ⟨by omega, by omega⟩) ?_
  refine j_top ((f i : Nat) : Int) o1 ?_
  refine st_icmp_ge (q := 56) (tgt := 62) dX12_nextOrder_53 (by decide) rfl (fun c53 => ?_) (fun c53 => ?_)
  · refine st_aload_n (q := 63) dX12_nextOrder_62 rfl rfl ?_
    refine st_iload_n (q := 64) dX12_nextOrder_63 rfl rfl ?_
    refine st_iload_n (q := 65) dX12_nextOrder_64 rfl rfl ?_
    refine iV2v (q := 68) dX12_nextOrder_65 rfl ml_X12_251 mv_X12_exchange (Nat.le_of_ble_eq_true rfl) (wfk w rfl) ?_
    refine c_X12_exchange w hn od (by omega) (by omega) (fun h2 f2 od2 => ?_)
    refine st_iload_n (q := 69) dX12_nextOrder_68 rfl rfl ?_
    refine st_iconst (q := 70) dX12_nextOrder_69 ⟨by decide, by decide⟩ rfl ?_
    first | refine n_iadd (q := 71) dX12_nextOrder_70 rfl ⟨by omega, by omega⟩ ?_ | refine st_iadd (q := 71) dX12_nextOrder_70 rfl ?_
    refine st_istore (q := 73) dX12_nextOrder_71 (by decide) rfl ?_
    refine st_iload_n (q := 74) dX12_nextOrder_73 rfl rfl ?_
    refine st_iconst (q := 75) dX12_nextOrder_74 ⟨by decide, by decide⟩ rfl ?_
    first | refine n_isub (q := 76) dX12_nextOrder_75 rfl ⟨by omega, by omega⟩ ?_ | refine st_isub (q := 76) dX12_nextOrder_75 rfl ?_
    refine st_istore (q := 78) dX12_nextOrder_76 (by decide) rfl ?_
    have t := nx (by omega) h2 f2 od2
    rw [show ((i + 1 : Nat) : Int) = (i : Int) + 1 by omega, show ((n - 1 : Nat) : Int) = (n : Int) - 1 by omega] at t
    exact t
  · first | refine n_iinc (q := 59) dX12_nextOrder_56 rfl (by decide) rfl ⟨by omega, by omega⟩ ?_ | refine st_iinc (q := 59) dX12_nextOrder_56 rfl (by decide) rfl ?_
    refine st_goto (q := 41) dX12_nextOrder_59 (by decide) ?_
    have st := st (by omega)
    have t := lp_no41 (d := d) w hn od o hi up ds hP (j - 1) (by omega) (fun e e1 e2 => by by_cases z : e = j; (subst z; omega); exact lo e (by omega) e2)
    rw [show ((j - 1 : Nat) : Int) = (j : Int) + -1 by omega] at t
    exact t _ _
termination_by j
theorem lp_no4 {d : Nat} {h : JH} {P : Int → JH → Prop} {N n : Nat} {f : Nat → Nat} (w : WF h) (hn : n ≤ 8) (od : OdM h n f) (o : IsO N n f) (p0 : Ds f 0 n → P 0 h) (hP : ∀ i x h', Fr ScO h h' → OdM h' n x → IsO N n x → Nxt n i f x → P 1 h') (k : Nat) (hk : k < n) (ds : Ds f k n) : ∀ (v : Int) (j3 j4 j5 : JV), v = (k : Int) - 1 → JAt k0 (d + 1) jX12_nextOrder 4 [vr 117, vi n, vi v, j3, j4, j5] [] h (jqi P) := by
  intro v j3 j4 j5 ev
  have ok := od k hk
  have ok1 : 0 < k → hI h 144 v.toNat = ((f (k - 1) : Nat) : Int) := fun z => by rw [show v.toNat = k - 1 by omega]; exact od (k - 1) (by omega)
  have ok2 : 0 < k → hI h 144 (v + 1).toNat = ((f k : Nat) : Int) := fun z => by rw [show (v + 1).toNat = k by omega]; exact ok
  have go : 0 < k → f (k - 1) ≤ f k → ∀ j4 j5, JAt k0 (d + 1) jX12_nextOrder 41 [vr 117, vi n, vi ((k - 1 : Nat) : Int), vi ((n - 1 : Nat) : Int), j4, j5] [] h (jqi P) := by
    intro z z2 j4 j5
    have ne : f (k - 1) ≠ f k := fun q => by have := o.2.1 _ _ (by omega) hk q; omega
    have ek : k - 1 + 1 = k := by omega
    exact lp_no41 (i := k - 1) w hn od o (by omega) (by rw [ek]; omega) (by rw [ek]; exact ds) (hP (k - 1)) (n - 1) (by omega) (fun e e1 e2 => by exfalso; omega) _ _
  refine st_iload_n (q := 5) dX12_nextOrder_4 rfl rfl ?_
  refine st_if_lt (q := 8) (tgt := 31) dX12_nextOrder_5 (by decide) rfl (fun c5 => ?_) (fun c5 => ?_)
  · refine st_iload_n (q := 32) dX12_nextOrder_31 rfl rfl ?_
    refine st_if_ge (q := 35) (tgt := 37) dX12_nextOrder_32 (by decide) rfl (fun c32 => ?_) (fun c32 => ?_)
    · refine st_iload_n (q := 38) dX12_nextOrder_37 rfl rfl ?_
      refine st_iconst (q := 39) dX12_nextOrder_38 ⟨by decide, by decide⟩ rfl ?_
      first | refine n_isub (q := 40) dX12_nextOrder_39 rfl ⟨by omega, by omega⟩ ?_ | refine st_isub (q := 40) dX12_nextOrder_39 rfl ?_
      refine st_istore_n (q := 41) (i := 3) dX12_nextOrder_40 rfl (by decide) rfl ?_
      first | (exfalso; omega) | (have t := go (by omega) (by omega); rw [show ((k - 1 : Nat) : Int) = v by omega, show ((n - 1 : Nat) : Int) = (n : Int) - 1 by omega] at t; exact t _ _)
    · refine st_iconst (q := 36) dX12_nextOrder_35 ⟨by decide, by decide⟩ rfl ?_
      refine rt_z dX12_nextOrder_36 rfl (by (repeat' split) <;> omega) ?_
      first | (exfalso; omega) | exact p0 (by rw [show (0 : Nat) = k by omega]; exact ds)
  · refine st_aload_n (q := 9) dX12_nextOrder_8 rfl rfl ?_
    refine st_getR (q := 12) 12 37 dX12_nextOrder_9 fl_X12_99 (by decide) (by decide) rfl rfl (wfk w rfl) (wfR w rfl) ?_
    refine st_iload_n (q := 13) dX12_nextOrder_12 rfl rfl ?_
    refine st_iaload (q := 14) dX12_nextOrder_13 rfl (wfk w rfl) (wfb w (n := 8) rfl ⟨by omega, by omega⟩) ?_
    refine j_top ((f (k - 1) : Nat) : Int) (ok1 (by omega)) ?_
    refine st_aload_n (q := 15) dX12_nextOrder_14 rfl rfl ?_
    refine st_getR (q := 18) 12 37 dX12_nextOrder_15 fl_X12_99 (by decide) (by decide) rfl rfl (wfk w rfl) (wfR w rfl) ?_
    refine st_iload_n (q := 19) dX12_nextOrder_18 rfl rfl ?_
    refine st_iconst (q := 20) dX12_nextOrder_19 ⟨by decide, by decide⟩ rfl ?_
    first | refine n_iadd (q := 21) dX12_nextOrder_20 rfl ⟨by omega, by omega⟩ ?_ | refine st_iadd (q := 21) dX12_nextOrder_20 rfl ?_
    refine st_iaload (q := 22) dX12_nextOrder_21 rfl (wfk w rfl) (wfb w (n := 8) rfl ⟨by omega, by omega⟩) ?_
    refine j_top ((f k : Nat) : Int) (ok2 (by omega)) ?_
    refine st_icmp_le (q := 25) (tgt := 31) dX12_nextOrder_22 (by decide) rfl (fun c22 => ?_) (fun c22 => ?_)
    · refine st_iload_n (q := 32) dX12_nextOrder_31 rfl rfl ?_
      refine st_if_ge (q := 35) (tgt := 37) dX12_nextOrder_32 (by decide) rfl (fun c32 => ?_) (fun c32 => ?_)
      · refine st_iload_n (q := 38) dX12_nextOrder_37 rfl rfl ?_
        refine st_iconst (q := 39) dX12_nextOrder_38 ⟨by decide, by decide⟩ rfl ?_
        first | refine n_isub (q := 40) dX12_nextOrder_39 rfl ⟨by omega, by omega⟩ ?_ | refine st_isub (q := 40) dX12_nextOrder_39 rfl ?_
        refine st_istore_n (q := 41) (i := 3) dX12_nextOrder_40 rfl (by decide) rfl ?_
        first | (exfalso; omega) | (have t := go (by omega) (by omega); rw [show ((k - 1 : Nat) : Int) = v by omega, show ((n - 1 : Nat) : Int) = (n : Int) - 1 by omega] at t; exact t _ _)
      · refine st_iconst (q := 36) dX12_nextOrder_35 ⟨by decide, by decide⟩ rfl ?_
        refine rt_z dX12_nextOrder_36 rfl (by (repeat' split) <;> omega) ?_
        first | (exfalso; omega) | exact p0 (by rw [show (0 : Nat) = k by omega]; exact ds)
    · first | refine n_iinc (q := 28) dX12_nextOrder_25 rfl (by decide) rfl ⟨by omega, by omega⟩ ?_ | refine st_iinc (q := 28) dX12_nextOrder_25 rfl (by decide) rfl ?_
      refine st_goto (q := 4) dX12_nextOrder_28 (by decide) ?_
      exact lp_no4 w hn od o p0 hP (k - 1) (by omega) (fun a b h1 h2 h3 => by by_cases z : a = k - 1; (subst z; by_cases z2 : b = k; (subst z2; omega); (have := ds k b (by omega) (by omega) h3; omega)); exact ds a b (by omega) h2 h3) _ _ _ _ (by omega)
termination_by k
theorem c_X12_nextOrder {d : Nat} {h : JH} {P : Int → JH → Prop} {N n : Nat} {f : Nat → Nat} (w : WF h) (hn : n ≤ 8) (od : OdM h n f) (o : IsO N n f) (p0 : Ds f 0 n → P 0 h) (hP : ∀ i x h', Fr ScO h h' → OdM h' n x → IsO N n x → Nxt n i f x → P 1 h') : JRi (d + 1) jX12_nextOrder [vr 117, vi n] h P := by
  by_cases z : n = 0
  · subst z
    have p0 := p0 (fun a b h1 h2 h3 => by omega)
    refine JRet.of rfl (Nat.le_of_ble_eq_true rfl) ?_
    refine st_iload_n (q := 1) dX12_nextOrder_0 rfl rfl ?_
    refine st_iconst (q := 2) dX12_nextOrder_1 ⟨by decide, by decide⟩ rfl ?_
    first | refine n_isub (q := 3) dX12_nextOrder_2 rfl ⟨by omega, by omega⟩ ?_ | refine st_isub (q := 3) dX12_nextOrder_2 rfl ?_
    refine st_istore_n (q := 4) (i := 2) dX12_nextOrder_3 rfl (by decide) rfl ?_
    refine st_iload_n (q := 5) dX12_nextOrder_4 rfl rfl ?_
    refine st_if_lt (q := 8) (tgt := 31) dX12_nextOrder_5 (by decide) rfl (fun c5 => ?_) (fun c5 => ?_)
    · refine st_iload_n (q := 32) dX12_nextOrder_31 rfl rfl ?_
      refine st_if_ge (q := 35) (tgt := 37) dX12_nextOrder_32 (by decide) rfl (fun c32 => ?_) (fun c32 => ?_)
      · exfalso; omega
      · refine st_iconst (q := 36) dX12_nextOrder_35 ⟨by decide, by decide⟩ rfl ?_
        refine rt_z dX12_nextOrder_36 rfl (by (repeat' split) <;> omega) ?_
        exact p0
    · exfalso; omega
  · refine JRet.of rfl (Nat.le_of_ble_eq_true rfl) ?_
    refine st_iload_n (q := 1) dX12_nextOrder_0 rfl rfl ?_
    refine st_iconst (q := 2) dX12_nextOrder_1 ⟨by decide, by decide⟩ rfl ?_
    first | refine n_isub (q := 3) dX12_nextOrder_2 rfl ⟨by omega, by omega⟩ ?_ | refine st_isub (q := 3) dX12_nextOrder_2 rfl ?_
    refine st_istore_n (q := 4) (i := 2) dX12_nextOrder_3 rfl (by decide) rfl ?_
    exact lp_no4 w hn od o p0 hP (n - 1) (by omega) (fun a b h1 h2 h3 => by exfalso; omega) _ _ _ _ (by omega)

