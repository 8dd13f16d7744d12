/-! the model: reaching -/
def plF (p0 : Nat → Int) (od : Nat → Nat) : Nat → Nat → Int
  | 0 => p0
  | i + 1 => fun j => if j = od i then (i : Int) else plF p0 od i j
def rcF (pl : Nat → Int) (l : List Nat) : Nat → Int × Int
  | 0 => (0, 0)
  | k + 1 => ((rcF pl l k).1 + (if pl (l.getD k 0) - (rcF pl l k).2 < 0 then -(pl (l.getD k 0) - (rcF pl l k).2) else pl (l.getD k 0) - (rcF pl l k).2), pl (l.getD k 0))
def ScP (a _k : Nat) : Prop := a = 145
theorem scP_M {h h' : JH} (f : Fr ScP h h') : FrM h h' := f.up (fun a k z => by unfold ScP at z; unfold ScM; omega)
theorem plF_in {p0 : Nat → Int} {od : Nat → Nat} {x : Nat} : ∀ {n : Nat}, (∃ i, i < n ∧ od i = x) → 0 ≤ plF p0 od n x ∧ plF p0 od n x < n
  | 0, ⟨i, hi, _⟩ => absurd hi (Nat.not_lt_zero i)
  | n + 1, ⟨i, hi, e⟩ => by
    show 0 ≤ (if x = od n then (n : Int) else plF p0 od n x) ∧ (if x = od n then (n : Int) else plF p0 od n x) < ((n + 1 : Nat) : Int)
    by_cases z : x = od n
    · rw [if_pos z]; omega
    · rw [if_neg z]
      have hi2 : i < n := by
        rcases Nat.lt_or_ge i n with q | q
        · exact q
        · exact absurd (by rw [← e, show i = n by omega]) z
      have := plF_in (p0 := p0) (od := od) (x := x) (n := n) ⟨i, hi2, e⟩
      omega
theorem rcF_b {pl : Nat → Int} {l : List Nat} (hb : ∀ x ∈ l, 0 ≤ pl x ∧ pl x ≤ 7) : ∀ k, k ≤ l.length → (0 ≤ (rcF pl l k).1 ∧ (rcF pl l k).1 ≤ 8 * k) ∧ (0 ≤ (rcF pl l k).2 ∧ (rcF pl l k).2 ≤ 7)
  | 0, _ => by simp [rcF]
  | k + 1, h => by
    have h1 := rcF_b hb k (by omega)
    have h2 := hb (l.getD k 0) (List.mem_of_getElem? (getD_some (by omega)))
    refine ⟨?_, h2⟩
    show 0 ≤ (rcF pl l k).1 + (if pl (l.getD k 0) - (rcF pl l k).2 < 0 then -(pl (l.getD k 0) - (rcF pl l k).2) else pl (l.getD k 0) - (rcF pl l k).2) ∧ (rcF pl l k).1 + (if pl (l.getD k 0) - (rcF pl l k).2 < 0 then -(pl (l.getD k 0) - (rcF pl l k).2) else pl (l.getD k 0) - (rcF pl l k).2) ≤ 8 * ((k + 1 : Nat) : Int)
    split <;> omega
theorem lp2_X12_reaches {d : Nat} {h : JH} {P : Int → JH → Prop} {l : List Nat} {n : Int} (w : WF h) (t : TK h l) (hl : l.length ≤ 96) (hx : ∀ x ∈ l, x < 8) (hb : ∀ x ∈ l, 0 ≤ hI h 145 x ∧ hI h 145 x ≤ 7) (hP : P (rcF (hI h 145) l l.length).1 h) (k : Nat) (hk : k ≤ l.length) : JAt k0 (d + 1) jX12_reaches 32 [vr 117, vi n, vi (rcF (hI h 145) l k).1, vi (rcF (hI h 145) l k).2, vi k] [] h (jqi P) := by
  have t1 := t.1
  have b1 := rcF_b hb k hk
  have q : k < l.length → hI h 143 k = (l.getD k 0 : Nat) ∧ l.getD k 0 < 8 ∧ 0 ≤ hI h 145 (l.getD k 0) ∧ hI h 145 (l.getD k 0) ≤ 7 := fun z => by
    have e := getD_some z
    have hm := List.mem_of_getElem? e
    exact ⟨t.2 k _ e, hx _ hm, hb _ hm⟩
  refine st_iload (q := 34) dX12_reaches_32 rfl rfl ?_
  refine st_aload_n (q := 35) dX12_reaches_34 rfl rfl ?_
  refine st_getI (q := 38) 12 35 dX12_reaches_35 fl_X12_239 (by decide) (by decide) rfl rfl (wfk w rfl) ?_
  refine j_top (l.length : Int) t1 ?_
  refine st_icmp_ge (q := 41) (tgt := 80) dX12_reaches_38 (by decide) rfl (fun c38 => ?_) (fun c38 => ?_)
  · refine st_iload_n (q := 81) dX12_reaches_80 rfl rfl ?_
    refine rt_i dX12_reaches_81 rfl ?_
    exact pq hP (by rw [show k = l.length by omega]) rfl
  · refine st_iload_n (q := 42) dX12_reaches_41 rfl rfl ?_
    refine st_aload_n (q := 43) dX12_reaches_42 rfl rfl ?_
    refine st_getR (q := 46) 12 38 dX12_reaches_43 fl_X12_102 (by decide) (by decide) rfl rfl (wfk w rfl) (wfR w rfl) ?_
    refine st_aload_n (q := 47) dX12_reaches_46 rfl rfl ?_
    refine st_getR (q := 50) 12 36 dX12_reaches_47 fl_X12_96 (by decide) (by decide) rfl rfl (wfk w rfl) (wfR w rfl) ?_
    refine st_iload (q := 52) dX12_reaches_50 rfl rfl ?_
    refine st_iaload (q := 53) dX12_reaches_52 rfl (wfk w rfl) (wfb w (n := 96) rfl ⟨by omega, by omega⟩) ?_
    have q2 := q (by omega)
    refine j_top ((l.getD k 0 : Nat) : Int) q2.1 ?_
    refine st_iaload (q := 54) dX12_reaches_53 rfl (wfk w rfl) (wfb w (n := 8) rfl ⟨by omega, by omega⟩) ?_
    rw [show (((l.getD k 0 : Nat) : Int)).toNat = l.getD k 0 from rfl]
    refine st_iload_n (q := 55) dX12_reaches_54 rfl rfl ?_
    first | refine n_isub (q := 56) dX12_reaches_55 rfl ⟨by omega, by omega⟩ ?_ | refine st_isub (q := 56) dX12_reaches_55 rfl ?_
    refine iS1i (q := 59) dX12_reaches_56 rfl ml_X12_245 ms_X12_abs (Nat.le_of_ble_eq_true rfl) ?_
    refine c_X12_abs (by omega) ?_
    first | refine n_iadd (q := 60) dX12_reaches_59 rfl ⟨by omega, by omega⟩ ?_ | refine st_iadd (q := 60) dX12_reaches_59 rfl ?_
    refine st_istore_n (q := 61) (i := 2) dX12_reaches_60 rfl (by decide) rfl ?_
    refine st_aload_n (q := 62) dX12_reaches_61 rfl rfl ?_
    refine st_getR (q := 65) 12 38 dX12_reaches_62 fl_X12_102 (by decide) (by decide) rfl rfl (wfk w rfl) (wfR w rfl) ?_
    refine st_aload_n (q := 66) dX12_reaches_65 rfl rfl ?_
    refine st_getR (q := 69) 12 36 dX12_reaches_66 fl_X12_96 (by decide) (by decide) rfl rfl (wfk w rfl) (wfR w rfl) ?_
    refine st_iload (q := 71) dX12_reaches_69 rfl rfl ?_
    refine st_iaload (q := 72) dX12_reaches_71 rfl (wfk w rfl) (wfb w (n := 96) rfl ⟨by omega, by omega⟩) ?_
    refine j_top ((l.getD k 0 : Nat) : Int) q2.1 ?_
    refine st_iaload (q := 73) dX12_reaches_72 rfl (wfk w rfl) (wfb w (n := 8) rfl ⟨by omega, by omega⟩) ?_
    refine st_istore_n (q := 74) (i := 3) dX12_reaches_73 rfl (by decide) rfl ?_
    first | refine n_iinc (q := 77) dX12_reaches_74 rfl (by decide) rfl ⟨by omega, by omega⟩ ?_ | refine st_iinc (q := 77) dX12_reaches_74 rfl (by decide) rfl ?_
    refine st_goto (q := 32) dX12_reaches_77 (by decide) ?_
    exact lp2_X12_reaches w t hl hx hb hP (k + 1) (by omega)
termination_by l.length - k
theorem lp1_X12_reaches {d : Nat} {h : JH} {P : Int → JH → Prop} {l : List Nat} {n : Nat} {od : Nat → Nat} (w : WF h) (t : TK h l) (hl : l.length ≤ 96) (hx : ∀ x ∈ l, x < 8) (hn : n ≤ 8) (ho : ∀ i, i < n → hI h 144 i = (od i : Int) ∧ od i < 8) (hin : ∀ x ∈ l, ∃ i, i < n ∧ od i = x) (hP : P (rcF (plF (hI h 145) od n) l l.length).1 (wI h 145 (plF (hI h 145) od n))) (i : Nat) (hi : i ≤ n) : ∀ j3 j4, JAt k0 (d + 1) jX12_reaches 2 [vr 117, vi n, vi i, j3, j4] [] (wI h 145 (plF (hI h 145) od i)) (jqi P) := by
  intro j3 j4
  have q : i < n → hI h 144 i = (od i : Int) ∧ od i < 8 := fun z => ho i z
  refine st_iload_n (q := 3) dX12_reaches_2 rfl rfl ?_
  refine st_iload_n (q := 4) dX12_reaches_3 rfl rfl ?_
  refine st_icmp_ge (q := 7) (tgt := 25) dX12_reaches_4 (by decide) rfl (fun c4 => ?_) (fun c4 => ?_)
  · refine st_iconst (q := 26) dX12_reaches_25 ⟨by decide, by decide⟩ rfl ?_
    refine st_istore_n (q := 27) (i := 2) dX12_reaches_26 rfl (by decide) rfl ?_
    refine st_iconst (q := 28) dX12_reaches_27 ⟨by decide, by decide⟩ rfl ?_
    refine st_istore_n (q := 29) (i := 3) dX12_reaches_28 rfl (by decide) rfl ?_
    refine st_iconst (q := 30) dX12_reaches_29 ⟨by decide, by decide⟩ rfl ?_
    refine st_istore (q := 32) dX12_reaches_30 (by decide) rfl ?_
    have ei : i = n := by omega
    subst ei
    have e2 : hI (wI h 145 (plF (hI h 145) od i)) 145 = plF (hI h 145) od i := wI_at _ _ _
    exact lp2_X12_reaches (h := wI h 145 (plF (hI h 145) od i)) w t hl hx (fun x hx2 => by rw [e2]; have := plF_in (p0 := hI h 145) (hin x hx2); omega) (by rw [e2]; exact hP) 0 (by omega)
  · refine st_aload_n (q := 8) dX12_reaches_7 rfl rfl ?_
    refine st_getR (q := 11) 12 38 dX12_reaches_8 fl_X12_102 (by decide) (by decide) rfl rfl (wfk w rfl) (wfR w rfl) ?_
    refine st_aload_n (q := 12) dX12_reaches_11 rfl rfl ?_
    refine st_getR (q := 15) 12 37 dX12_reaches_12 fl_X12_99 (by decide) (by decide) rfl rfl (wfk w rfl) (wfR w rfl) ?_
    refine st_iload_n (q := 16) dX12_reaches_15 rfl rfl ?_
    refine st_iaload (q := 17) dX12_reaches_16 rfl (wfk w rfl) (wfb w (n := 8) rfl ⟨by omega, by omega⟩) ?_
    have q2 := q (by omega)
    refine j_top (od i : Int) q2.1 ?_
    refine st_iload_n (q := 18) dX12_reaches_17 rfl rfl ?_
    refine st_iastore (q := 19) dX12_reaches_18 rfl (wfk w rfl) (wfb w (n := 8) rfl ⟨by omega, by omega⟩) ?_
    first | refine n_iinc (q := 22) dX12_reaches_19 rfl (by decide) rfl ⟨by omega, by omega⟩ ?_ | refine st_iinc (q := 22) dX12_reaches_19 rfl (by decide) rfl ?_
    refine st_goto (q := 2) dX12_reaches_22 (by decide) ?_
    rw [sI_wI]
    exact lp1_X12_reaches w t hl hx hn ho hin hP (i + 1) (by omega) _ _
termination_by n - i
theorem c_X12_reaches {d : Nat} {h : JH} {P : Int → JH → Prop} {l : List Nat} {n : Nat} {od : Nat → Nat} (w : WF h) (t : TK h l) (hl : l.length ≤ 96) (hx : ∀ x ∈ l, x < 8) (hn : n ≤ 8) (ho : ∀ i, i < n → hI h 144 i = (od i : Int) ∧ od i < 8) (hin : ∀ x ∈ l, ∃ i, i < n ∧ od i = x) (hP : P (rcF (plF (hI h 145) od n) l l.length).1 (wI h 145 (plF (hI h 145) od n))) : JRi (d + 1) jX12_reaches [vr 117, vi n] h P := by
  refine JRet.of rfl (Nat.le_of_ble_eq_true rfl) ?_
  refine st_iconst (q := 1) dX12_reaches_0 ⟨by decide, by decide⟩ rfl ?_
  refine st_istore_n (q := 2) (i := 2) dX12_reaches_1 rfl (by decide) rfl ?_
  have := lp1_X12_reaches (d := d) w t hl hx hn ho hin hP 0 (by omega) vn vn
  rw [show plF (hI h 145) od 0 = hI h 145 from rfl, wI_self] at this
  exact this
/-- the set that a row of hides names, of the first i -/
def snF (f : Nat → Int) : Nat → Nat
  | 0 => 0
  | i + 1 => snF f i ||| (if 0 ≤ f i ∧ f i ≤ 7 then 2 ^ (f i).toNat else 0)
theorem snF_lt (f : Nat → Int) : ∀ i, snF f i < 256
  | 0 => by show 0 < 256; decide
  | i + 1 => by
    refine Nat.or_lt_two_pow (n := 8) (snF_lt f i) ?_
    split
    · exact p8 (by omega)
    · decide
theorem snF_tb (f : Nat → Int) (x : Nat) : ∀ n, (snF f n).testBit x = true ↔ ∃ i, i < n ∧ 0 ≤ f i ∧ f i ≤ 7 ∧ (f i).toNat = x
  | 0 => by simp [snF]
  | n + 1 => by
    show (snF f n ||| (if 0 ≤ f n ∧ f n ≤ 7 then 2 ^ (f n).toNat else 0)).testBit x = true ↔ _
    rw [Nat.testBit_or, Bool.or_eq_true, snF_tb f x n]
    constructor
    · rintro (⟨i, h1, h2⟩ | h)
      · exact ⟨i, by omega, h2⟩
      · split at h
        · rename_i z
          rw [Nat.testBit_two_pow] at h
          exact ⟨n, by omega, z.1, z.2, by simpa using h⟩
        · simp at h
    · rintro ⟨i, h1, h2, h3, h4⟩
      rcases Nat.lt_or_ge i n with q | q
      · exact Or.inl ⟨i, q, h2, h3, h4⟩
      · have e : i = n := by omega
        subst e
        refine Or.inr ?_
        rw [if_pos ⟨h2, h3⟩, Nat.testBit_two_pow]
        simpa using h4
theorem pcN_or (a b : Nat) : ∀ k, pcN (a ||| b) k ≤ pcN a k + pcN b k
  | 0 => Nat.le_refl _
  | k + 1 => by
    have := pcN_or a b k
    show pcN (a ||| b) k + (if (a ||| b).testBit k then 1 else 0) ≤ (pcN a k + (if a.testBit k then 1 else 0)) + (pcN b k + (if b.testBit k then 1 else 0))
    rw [Nat.testBit_or]
    cases a.testBit k <;> cases b.testBit k <;> simp <;> omega
theorem pcN_pow : ∀ x, x < 8 → pcN (2 ^ x) 16 = 1 := by decide
theorem pcN_0 (k : Nat) : pcN 0 k = 0 := by
  induction k with
  | zero => rfl
  | succ k ih => show pcN 0 k + (if (0 : Nat).testBit k then 1 else 0) = 0; rw [ih]; simp
theorem snF_pc (f : Nat → Int) : ∀ n, pcN (snF f n) 16 ≤ n ∧ (pcN (snF f n) 16 = n → ∀ i, i < n → 0 ≤ f i ∧ f i ≤ 7)
  | 0 => ⟨by show pcN 0 16 ≤ 0; rw [pcN_0]; exact Nat.le_refl _, fun _ i hi => absurd hi (Nat.not_lt_zero i)⟩
  | n + 1 => by
    have h1 := snF_pc f n
    have h2 := pcN_or (snF f n) (if 0 ≤ f n ∧ f n ≤ 7 then 2 ^ (f n).toNat else 0) 16
    have e : snF f (n + 1) = snF f n ||| (if 0 ≤ f n ∧ f n ≤ 7 then 2 ^ (f n).toNat else 0) := rfl
    rw [← e] at h2
    by_cases z : 0 ≤ f n ∧ f n ≤ 7
    · rw [if_pos z, pcN_pow _ (by omega)] at h2
      refine ⟨by omega, fun h i hi => ?_⟩
      rcases Nat.lt_or_ge i n with q | q
      · exact h1.2 (by omega) i q
      · rw [show i = n by omega]; exact z
    · rw [if_neg z, pcN_0] at h2
      exact ⟨by omega, fun h => absurd h (by omega)⟩
theorem pcN8e {x : Nat} (h : x < 256) : ∀ k, pcN x (8 + k) = pcN x 8
  | 0 => rfl
  | k + 1 => by
    have t : x.testBit (8 + k) = false := Nat.testBit_lt_two_pow (Nat.lt_of_lt_of_le h (show 2 ^ 8 ≤ 2 ^ (8 + k) from Nat.pow_le_pow_right (by decide) (by omega)))
    show pcN x (8 + k) + (if x.testBit (8 + k) then 1 else 0) = _
    rw [t, pcN8e h k]
    simp
theorem pcN8 {x : Nat} (h : x < 256) : pcN x 16 ≤ 8 := Nat.le_trans (Nat.le_of_eq (pcN8e h 8)) (pcN_le x 8)
theorem yNm_tb {y : SY} {x : Nat} : ∀ n, (yNm y n).testBit x = true ↔ ∃ s, s < n ∧ (ySh y s).testBit x = true
  | 0 => by simp [yNm]
  | n + 1 => by
    show (yNm y n ||| ySh y n).testBit x = true ↔ _
    rw [Nat.testBit_or, Bool.or_eq_true, yNm_tb n]
    constructor
    · rintro (⟨s, h1, h2⟩ | h)
      · exact ⟨s, by omega, h2⟩
      · exact ⟨n, by omega, h⟩
    · rintro ⟨s, h1, h2⟩
      rcases Nat.lt_or_ge s n with q | q
      · exact Or.inl ⟨s, q, h2⟩
      · exact Or.inr (by rw [show n = s by omega]; exact h2)
theorem tks_in {y : SY} (o : yOk y) {x : Nat} : ∀ n, n ≤ y.1 → x ∈ tks y n → ∃ s, s < n ∧ (ySh y s).testBit x = true
  | 0, _, h => by simp [tks] at h
  | n + 1, hn, h => by
    rcases List.mem_append.mp h with h | h
    · obtain ⟨s, h1, h2⟩ := tks_in o n (by omega) h
      exact ⟨s, by omega, h2⟩
    · have h2 := (frs_mem h).2
      refine ⟨n, by omega, ?_⟩
      unfold yFr at h2
      split at h2
      · rename_i z; rw [z]; exact h2
      · rw [nandn_tb (by have := (o.2 n (by omega)).1; omega)] at h2
        simp at h2
        exact h2.1
def ScO (a _k : Nat) : Prop := a = 144
theorem scO_M {h h' : JH} (f : Fr ScO h h') : FrM h h' := f.up (fun a k z => by unfold ScO at z; unfold ScM; omega)
theorem wI_fr {Sc : Nat → Nat → Prop} {h : JH} {a : Nat} {f : Nat → Int} (z : ∀ k, Sc a k) : Fr Sc h (wI h a f) := ⟨rfl, rfl, fun b j q => by rw [wI_I]; split; exact absurd (by rename_i e; rw [e]; exact z j) q; rfl⟩
theorem lp_X12_reaching {d : Nat} {h : JH} {P : Int → JH → Prop} {y : SY} {r n : Nat} (w0 : WF h) (m0 : SM h y) (o : yOk y) (hr : r < 6) (hn : n ≤ 8) (hpc : pcN (yNm y y.1) 16 = n) (h4 : snF (fun i => hI h 120 (40 * r + i)) n ≠ yNm y y.1 → ∀ h', FrM h h' → P (-3) (mtH h' 3)) (h5 : snF (fun i => hI h 120 (40 * r + i)) n = yNm y y.1 → ∀ p0 h', FrM h h' → P (rcF (plF p0 (fun i => (hI h 120 (40 * r + i)).toNat) n) (tks y y.1) (tks y y.1).length).1 h') (i : Nat) (hi : i ≤ n) : ∀ h' j2, Fr ScO h h' → (∀ k, k < i → hI h' 144 k = hI h 120 (40 * r + k)) → JAt k0 (d + 2) jX12_reaching 46 [vr 117, vi r, j2, vi (yNm y y.1 : Nat), vi n, vi (snF (fun i => hI h 120 (40 * r + i)) i : Nat), vi i] [] h' (jqi P) := by
  intro h' j2 f ho
  have w := f.wf w0
  have m := m0.fr (scO_M f)
  have hrow : ∀ x, hI h' 120 x = hI h 120 x := fun x => f.2.2 _ _ (by unfold ScO; omega)
  have hv : (40 * (r : Int) + i).toNat = 40 * r + i := by omega
  generalize hF : (fun i => hI h 120 (40 * r + i)) = F at *
  have hFi : ∀ k, hI h 120 (40 * r + k) = F k := fun k => by rw [← hF]
  rw [show (fun i => (hI h 120 (40 * r + i)).toNat) = fun i => (F i).toNat from by funext k; rw [hFi]] at h5
  have b1 := snF_lt F i
  have e0 : snF F (i + 1) = snF F i ||| (if 0 ≤ F i ∧ F i ≤ 7 then 2 ^ (F i).toNat else 0) := rfl
  have b2 := snF_lt F (i + 1)
  have o1 := o.1
  refine st_iload (q := 48) dX12_reaching_46 rfl rfl ?_
  refine st_iload (q := 50) dX12_reaching_48 rfl rfl ?_
  refine st_icmp_ge (q := 53) (tgt := 104) dX12_reaching_50 (by decide) rfl (fun c50 => ?_) (fun c50 => ?_)
  · have ei : i = n := by omega
    subst ei
    refine st_iload (q := 106) dX12_reaching_104 rfl rfl ?_
    refine st_iload_n (q := 107) dX12_reaching_106 rfl rfl ?_
    refine st_icmp_eq (q := 110) (tgt := 116) dX12_reaching_107 (by decide) rfl (fun c107 => ?_) (fun c107 => ?_)
    · refine st_aload_n (q := 117) dX12_reaching_116 rfl rfl ?_
      refine iV0v (q := 120) dX12_reaching_117 rfl ml_X12_242 mv_X12_setTakes (Nat.le_of_ble_eq_true rfl) (wfk w rfl) ?_
      refine c_X12_setTakes w m o (fun h2 f2 t => ?_)
      have w2 := f2.wf w
      refine st_aload_n (q := 121) dX12_reaching_120 rfl rfl ?_
      refine st_iload (q := 123) dX12_reaching_121 rfl rfl ?_
      refine iV1i (q := 126) dX12_reaching_123 rfl ml_X12_248 mv_X12_reaches (Nat.le_of_ble_eq_true rfl) (wfk w2 rfl) ?_
      have hok := (snF_pc F i).2 (by rw [show snF F i = yNm y y.1 by omega]; exact hpc)
      refine c_X12_reaches (od := fun i => (F i).toNat) w2 t (by have := tks_len y y.1; omega) (fun x hx => tks_lt y hx) hn (fun k hk => ?_) (fun x hx => ?_) ?_
      · have z := hok k hk
        rw [f2.2.2 _ _ (by unfold ScT; omega), ho k hk, hFi]
        exact ⟨by omega, by omega⟩
      · obtain ⟨s, hs1, hs2⟩ := tks_in o _ (Nat.le_refl _) hx
        have hb := (yNm_tb (y := y) y.1).mpr ⟨s, hs1, hs2⟩
        rw [← show snF F i = yNm y y.1 by omega] at hb
        obtain ⟨k, hk1, hk2, hk3, hk4⟩ := (snF_tb F x i).mp hb
        exact ⟨k, hk1, hk4⟩
      refine rt_i dX12_reaching_126 rfl ?_
      refine h5 (by omega) _ _ (((scO_M f).tr (scM_T f2)).tr (wI_fr (fun k => ?_)))
      unfold ScM
      omega
    · refine st_aload_n (q := 111) dX12_reaching_110 rfl rfl ?_
      refine st_iconst (q := 112) dX12_reaching_111 ⟨by decide, by decide⟩ rfl ?_
      refine iV1i (q := 115) dX12_reaching_112 rfl ml_X12_138 mv_X12_meets (Nat.le_of_ble_eq_true rfl) (wfk w rfl) ?_
      refine c_X12_meets w (by decide) ?_
      refine rt_i dX12_reaching_115 rfl ?_
      exact h4 (by omega) _ (scO_M f)
  · refine st_iload (q := 55) dX12_reaching_53 rfl rfl ?_
    refine st_aload_n (q := 56) dX12_reaching_55 rfl rfl ?_
    refine st_iload_n (q := 57) dX12_reaching_56 rfl rfl ?_
    refine st_iload (q := 59) dX12_reaching_57 rfl rfl ?_
    refine iV2i (q := 62) dX12_reaching_59 rfl ml_X12_148 mv_X12_rowAt (Nat.le_of_ble_eq_true rfl) (wfk w rfl) ?_
    refine c_X12_rowAt w (by omega) (by omega) ?_
    rw [hv, hrow, hFi]
    refine iS1i (q := 65) dX12_reaching_62 rfl ml_X12_161 ms_X12_isHide (Nat.le_of_ble_eq_true rfl) ?_
    refine c_X12_isHide ?_
    apply j_mg 81
    · intro K1 K2
      refine st_if_eq (q := 68) (tgt := 80) dX12_reaching_65 (by decide) rfl (fun c65 => ?_) (fun c65 => ?_)
      · refine st_iconst (q := 81) dX12_reaching_80 ⟨by decide, by decide⟩ rfl ?_
        exact K1 c65
      · refine st_iconst (q := 69) dX12_reaching_68 ⟨by decide, by decide⟩ rfl ?_
        refine st_aload_n (q := 70) dX12_reaching_69 rfl rfl ?_
        refine st_iload_n (q := 71) dX12_reaching_70 rfl rfl ?_
        refine st_iload (q := 73) dX12_reaching_71 rfl rfl ?_
        refine iV2i (q := 76) dX12_reaching_73 rfl ml_X12_148 mv_X12_rowAt (Nat.le_of_ble_eq_true rfl) (wfk w rfl) ?_
        refine c_X12_rowAt w (by omega) (by omega) ?_
        rw [hv, hrow, hFi]
        refine st_ishl (q := 77) dX12_reaching_76 rfl ?_
        rw [show F i = ((F i).toNat : Int) by omega, show (1 : Int) = ((1 : Nat) : Int) from rfl, ishl_n (by omega) (by rw [Nat.one_mul]; exact p31 (by omega)), Nat.one_mul]
        refine st_goto (q := 81) dX12_reaching_77 (by decide) ?_
        exact K2 c65
    · simp only [jif_if]
      refine j_top ((if 0 ≤ F i ∧ F i ≤ 7 then 2 ^ (F i).toNat else 0 : Nat) : Int) (by (repeat' split) <;> first | rfl | omega | (exfalso; omega)) ?_
      refine st_ior (q := 82) dX12_reaching_81 rfl ?_
      rw [ior_n (by omega) (by split; (have := p8 (show (F i).toNat < 8 by omega); omega); omega)]
      refine st_istore (q := 84) dX12_reaching_82 (by decide) rfl ?_
      refine st_aload_n (q := 85) dX12_reaching_84 rfl rfl ?_
      refine st_getR (q := 88) 12 37 dX12_reaching_85 fl_X12_99 (by decide) (by decide) rfl rfl (wfk w rfl) (wfR w rfl) ?_
      refine st_iload (q := 90) dX12_reaching_88 rfl rfl ?_
      refine st_aload_n (q := 91) dX12_reaching_90 rfl rfl ?_
      refine st_iload_n (q := 92) dX12_reaching_91 rfl rfl ?_
      refine st_iload (q := 94) dX12_reaching_92 rfl rfl ?_
      refine iV2i (q := 97) dX12_reaching_94 rfl ml_X12_148 mv_X12_rowAt (Nat.le_of_ble_eq_true rfl) (wfk w rfl) ?_
      refine c_X12_rowAt w (by omega) (by omega) ?_
      rw [hv, hrow, hFi]
      refine st_iastore (q := 98) dX12_reaching_97 rfl (wfk w rfl) (wfb w (n := 8) rfl ⟨by omega, by omega⟩) ?_
      first | refine n_iinc (q := 101) dX12_reaching_98 rfl (by decide) rfl ⟨by omega, by omega⟩ ?_ | refine st_iinc (q := 101) dX12_reaching_98 rfl (by decide) rfl ?_
      refine st_goto (q := 46) dX12_reaching_101 (by decide) ?_
      rw [show (fun i => (F i).toNat) = fun i => (hI h 120 (40 * r + i)).toNat from by funext k; rw [hFi]] at h5
      subst hF
      exact lp_X12_reaching w0 m0 o hr hn hpc h4 h5 (i + 1) (by omega) _ _ (f.sI _ rfl) (fun k hk => by by_cases z : k = i; (subst z; rw [show ((k : Int)).toNat = k from rfl, sI_s]); (rw [show ((i : Int)).toNat = i from rfl, sI_k _ z]; exact ho k (by omega)))
termination_by n - i

