/-! the model: rows, texts, hides, shadows -/
theorem c_X12_lay {d : Nat} {h : JH} {P : Int → JH → Prop} {r i v : Int} (w : WF h) (hz : ∀ k, k < 6 → hI h 119 k ≤ 40) (h1 : ¬ (0 ≤ r ∧ r ≤ 5) → P (-1) h) (h2 : 0 ≤ r ∧ r ≤ 5 → hI h 119 r.toNat < 0 → P (-3) (mtH h 1)) (h3 : 0 ≤ r ∧ r ≤ 5 → 0 ≤ hI h 119 r.toNat → ¬ (0 ≤ i ∧ i < hI h 119 r.toNat) → P (-3) (mtH h 2)) (h4 : 0 ≤ r ∧ r ≤ 5 → 0 ≤ hI h 119 r.toNat → 0 ≤ i ∧ i < hI h 119 r.toNat → P 1 (sI (sI h 117 2 (hI h 120 (40 * r + i).toNat)) 120 (40 * r + i).toNat v)) : JRi (d + 4) jX12_lay [vr 117, vi r, vi i, vi v] h P := by
  have hs : 0 ≤ r ∧ r ≤ 5 → hI h 119 r.toNat ≤ 40 := fun z => hz r.toNat (by omega)
  refine JRet.of rfl (Nat.le_of_ble_eq_true rfl) ?_
  refine st_aload_n (q := 1) dX12_lay_0 rfl rfl ?_
  refine st_iload_n (q := 2) dX12_lay_1 rfl rfl ?_
  refine st_iload_n (q := 3) dX12_lay_2 rfl rfl ?_
  refine iV2i (q := 6) dX12_lay_3 rfl ml_X12_155 mv_X12_at (Nat.le_of_ble_eq_true rfl) (wfk w rfl) ?_
  refine c_X12_at w hz (fun a1 => ?_) (fun a1 a2 => ?_) (fun a1 a2 a3 => ?_) (fun a1 a2 a3 => ?_)
  · refine st_istore (q := 8) dX12_lay_6 (by decide) rfl ?_
    refine st_iload (q := 10) dX12_lay_8 rfl rfl ?_
    refine st_if_ge (q := 13) (tgt := 16) dX12_lay_10 (by decide) rfl (fun z => absurd z (by decide)) (fun _ => ?_)
    refine st_iload (q := 15) dX12_lay_13 rfl rfl ?_
    refine rt_i dX12_lay_15 rfl ?_
    first | exact h1 (by omega) | exact h2 (by omega) (by omega) | exact h3 (by omega) (by omega) (by omega) | exact h4 (by omega) (by omega) (by omega)
  · refine st_istore (q := 8) dX12_lay_6 (by decide) rfl ?_
    refine st_iload (q := 10) dX12_lay_8 rfl rfl ?_
    refine st_if_ge (q := 13) (tgt := 16) dX12_lay_10 (by decide) rfl (fun z => absurd z (by decide)) (fun _ => ?_)
    refine st_iload (q := 15) dX12_lay_13 rfl rfl ?_
    refine rt_i dX12_lay_15 rfl ?_
    first | exact h1 (by omega) | exact h2 (by omega) (by omega) | exact h3 (by omega) (by omega) (by omega) | exact h4 (by omega) (by omega) (by omega)
  · refine st_istore (q := 8) dX12_lay_6 (by decide) rfl ?_
    refine st_iload (q := 10) dX12_lay_8 rfl rfl ?_
    refine st_if_ge (q := 13) (tgt := 16) dX12_lay_10 (by decide) rfl (fun z => absurd z (by decide)) (fun _ => ?_)
    refine st_iload (q := 15) dX12_lay_13 rfl rfl ?_
    refine rt_i dX12_lay_15 rfl ?_
    first | exact h1 (by omega) | exact h2 (by omega) (by omega) | exact h3 (by omega) (by omega) (by omega) | exact h4 (by omega) (by omega) (by omega)
  · refine st_istore (q := 8) dX12_lay_6 (by decide) rfl ?_
    refine st_iload (q := 10) dX12_lay_8 rfl rfl ?_
    refine st_if_ge (q := 13) (tgt := 16) dX12_lay_10 (by decide) rfl (fun _ => ?_) (fun z => absurd z (by decide))
    refine st_aload_n (q := 17) dX12_lay_16 rfl rfl ?_
    refine st_getR (q := 20) 12 6 dX12_lay_17 fl_X12_20 (by decide) (by decide) rfl rfl (wfk w rfl) (wfR w rfl) ?_
    refine st_bipush (q := 22) dX12_lay_20 ⟨by decide, by decide⟩ rfl ?_
    refine st_iload_n (q := 23) dX12_lay_22 rfl rfl ?_
    first | refine n_imul (q := 24) dX12_lay_23 rfl ⟨by omega, by omega⟩ ?_ | refine st_imul (q := 24) dX12_lay_23 rfl ?_
    refine st_iload_n (q := 25) dX12_lay_24 rfl rfl ?_
    first | refine n_iadd (q := 26) dX12_lay_25 rfl ⟨by omega, by omega⟩ ?_ | refine st_iadd (q := 26) dX12_lay_25 rfl ?_
    refine st_iload_n (q := 27) dX12_lay_26 rfl rfl ?_
    refine st_iastore (q := 28) dX12_lay_27 rfl (wfk w rfl) (wfb w (n := 240) rfl ⟨by omega, by omega⟩) ?_
    refine st_iconst (q := 29) dX12_lay_28 ⟨by decide, by decide⟩ rfl ?_
    refine rt_i dX12_lay_29 rfl ?_
    first | exact h1 (by omega) | exact h2 (by omega) (by omega) | exact h3 (by omega) (by omega) (by omega) | exact h4 (by omega) (by omega) (by omega)
theorem c_X12_tear {d : Nat} {h : JH} {P : Int → JH → Prop} {r : Int} (w : WF h) (h1 : ¬ (0 ≤ r ∧ r ≤ 5) → P (-1) h) (h2 : 0 ≤ r ∧ r ≤ 5 → hI h 119 r.toNat < 0 → P (-3) (mtH h 1)) (h3 : 0 ≤ r ∧ r ≤ 5 → 0 ≤ hI h 119 r.toNat → P 1 (sI h 119 r.toNat (-9))) : JRi (d + 3) jX12_tear [vr 117, vi r] h P := by
  refine JRet.of rfl (Nat.le_of_ble_eq_true rfl) ?_
  refine st_aload_n (q := 1) dX12_tear_0 rfl rfl ?_
  refine st_iload_n (q := 2) dX12_tear_1 rfl rfl ?_
  refine iV1i (q := 5) dX12_tear_2 rfl ml_X12_145 mv_X12_askedRow (Nat.le_of_ble_eq_true rfl) (wfk w rfl) ?_
  refine c_X12_askedRow w (fun a1 => ?_) (fun a1 a2 => ?_) (fun a1 a2 => ?_)
  · refine st_istore_n (q := 6) (i := 2) dX12_tear_5 rfl (by decide) rfl ?_
    refine st_iload_n (q := 7) dX12_tear_6 rfl rfl ?_
    refine st_if_ge (q := 10) (tgt := 12) dX12_tear_7 (by decide) rfl (fun z => absurd z (by decide)) (fun _ => ?_)
    refine st_iload_n (q := 11) dX12_tear_10 rfl rfl ?_
    refine rt_i dX12_tear_11 rfl ?_
    first | exact h1 (by omega) | exact h2 (by omega) (by omega) | exact h3 (by omega) (by omega)
  · refine st_istore_n (q := 6) (i := 2) dX12_tear_5 rfl (by decide) rfl ?_
    refine st_iload_n (q := 7) dX12_tear_6 rfl rfl ?_
    refine st_if_ge (q := 10) (tgt := 12) dX12_tear_7 (by decide) rfl (fun z => absurd z (by decide)) (fun _ => ?_)
    refine st_iload_n (q := 11) dX12_tear_10 rfl rfl ?_
    refine rt_i dX12_tear_11 rfl ?_
    first | exact h1 (by omega) | exact h2 (by omega) (by omega) | exact h3 (by omega) (by omega)
  · refine st_istore_n (q := 6) (i := 2) dX12_tear_5 rfl (by decide) rfl ?_
    refine st_iload_n (q := 7) dX12_tear_6 rfl rfl ?_
    refine st_if_ge (q := 10) (tgt := 12) dX12_tear_7 (by decide) rfl (fun _ => ?_) (fun z => absurd z (by decide))
    refine st_aload_n (q := 13) dX12_tear_12 rfl rfl ?_
    refine st_getR (q := 16) 12 5 dX12_tear_13 fl_X12_17 (by decide) (by decide) rfl rfl (wfk w rfl) (wfR w rfl) ?_
    refine st_iload_n (q := 17) dX12_tear_16 rfl rfl ?_
    refine st_bipush (q := 19) dX12_tear_17 ⟨by decide, by decide⟩ rfl ?_
    refine st_iastore (q := 20) dX12_tear_19 rfl (wfk w rfl) (wfb w (n := 6) rfl ⟨by omega, by omega⟩) ?_
    refine st_iconst (q := 21) dX12_tear_20 ⟨by decide, by decide⟩ rfl ?_
    refine rt_i dX12_tear_21 rfl ?_
    first | exact h1 (by omega) | exact h2 (by omega) (by omega) | exact h3 (by omega) (by omega)
/-- a stretch of an array is another's -/
def cpF (f g : Nat → Int) (lo n : Nat) : Nat → Int := fun j => if lo ≤ j ∧ j < lo + n then g (j - lo) else f j
theorem cpF_0 (f g : Nat → Int) (lo : Nat) : cpF f g lo 0 = f := by funext j; unfold cpF; rw [if_neg (by omega)]
theorem cpF_s (f g : Nat → Int) (lo n : Nat) : (fun j => if j = lo + n then g n else cpF f g lo n j) = cpF f g lo (n + 1) := by
  funext j
  unfold cpF
  by_cases e : j = lo + n
  · rw [if_pos e, if_pos (by omega), e, show lo + n - lo = n by omega]
  · rw [if_neg e]
    by_cases z : lo ≤ j ∧ j < lo + n
    · rw [if_pos z, if_pos (by omega)]
    · rw [if_neg z, if_neg (by omega)]
theorem cpF_in {f g : Nat → Int} {lo n j : Nat} (hj : j < n) : cpF f g lo n (lo + j) = g j := by unfold cpF; rw [if_pos (by omega), show lo + j - lo = j by omega]
theorem wI_keep {h : JH} {a : Nat} {f : Nat → Int} (e : hI h a = f) : wI h a f = h := by rw [← e, wI_self]
theorem lp2_X12_copy {d : Nat} {h : JH} {P : Int → JH → Prop} {r i : Int} {to j n : Nat} {f g : Nat → Int} (w : WF h) (ht : to < 6) (hj : j + n ≤ 40) (hg : ∀ k, k < n → hI h 121 k = g k) (hP : P 1 (wI h 120 (cpF f g (40 * to + j) n))) (k : Nat) (hk : k ≤ n) : JAt k0 d jX12_copy 136 [vr 117, vi r, vi i, vi to, vi j, vi n, vi k] [] (wI h 120 (cpF f g (40 * to + j) k)) (jqi P) := by
  refine st_iload (q := 138) dX12_copy_136 rfl rfl ?_
  refine st_iload (q := 140) dX12_copy_138 rfl rfl ?_
  refine st_icmp_ge (q := 143) (tgt := 171) dX12_copy_140 (by decide) rfl (fun c140 => ?_) (fun c140 => ?_)
  · refine st_iconst (q := 172) dX12_copy_171 ⟨by decide, by decide⟩ rfl ?_
    refine rt_i dX12_copy_172 rfl ?_
    exact pq hP rfl (by rw [show k = n by omega])
  · refine st_aload_n (q := 144) dX12_copy_143 rfl rfl ?_
    refine st_getR (q := 147) 12 6 dX12_copy_144 fl_X12_20 (by decide) (by decide) rfl rfl (wfk w rfl) (wfR w rfl) ?_
    refine st_bipush (q := 149) dX12_copy_147 ⟨by decide, by decide⟩ rfl ?_
    refine st_iload_n (q := 150) dX12_copy_149 rfl rfl ?_
    first | refine n_imul (q := 151) dX12_copy_150 rfl ⟨by omega, by omega⟩ ?_ | refine st_imul (q := 151) dX12_copy_150 rfl ?_
    refine st_iload (q := 153) dX12_copy_151 rfl rfl ?_
    first | refine n_iadd (q := 154) dX12_copy_153 rfl ⟨by omega, by omega⟩ ?_ | refine st_iadd (q := 154) dX12_copy_153 rfl ?_
    refine st_iload (q := 156) dX12_copy_154 rfl rfl ?_
    first | refine n_iadd (q := 157) dX12_copy_156 rfl ⟨by omega, by omega⟩ ?_ | refine st_iadd (q := 157) dX12_copy_156 rfl ?_
    refine st_aload_n (q := 158) dX12_copy_157 rfl rfl ?_
    refine st_getR (q := 161) 12 7 dX12_copy_158 fl_X12_23 (by decide) (by decide) rfl rfl (wfk w rfl) (wfR w rfl) ?_
    refine st_iload (q := 163) dX12_copy_161 rfl rfl ?_
    refine st_iaload (q := 164) dX12_copy_163 rfl (wfk w rfl) (wfb w (n := 40) rfl ⟨by omega, by omega⟩) ?_
    refine st_iastore (q := 165) dX12_copy_164 rfl (wfk w rfl) (wfb w (n := 240) rfl ⟨by omega, by omega⟩) ?_
    first | refine n_iinc (q := 168) dX12_copy_165 rfl (by decide) rfl ⟨by omega, by omega⟩ ?_ | refine st_iinc (q := 168) dX12_copy_165 rfl (by decide) rfl ?_
    refine st_goto (q := 136) dX12_copy_168 (by decide) ?_
    rw [sI_wI, show (40 * (to : Int) + j + k).toNat = 40 * to + j + k by omega, show hI (wI h 120 (cpF f g (40 * to + j) k)) 121 = hI h 121 from wI_ne _ _ (by decide), show ((k : Int)).toNat = k from rfl, hg k (by omega), cpF_s]
    exact lp2_X12_copy w ht hj hg hP (k + 1) (by omega)
termination_by n - k
theorem lp1_X12_copy {d : Nat} {h : JH} {P : Int → JH → Prop} {r i to j n : Nat} {f : Nat → Int} (w : WF h) (hr : r < 6) (hi : i + n ≤ 40) (ht : to < 6) (hj : j + n ≤ 40) (hP : ∀ f, P 1 (wI (wI h 121 f) 120 (cpF (hI h 120) (fun k => hI h 120 (40 * r + i + k)) (40 * to + j) n))) (k : Nat) (hk : k ≤ n) : JAt k0 (d + 1) jX12_copy 104 [vr 117, vi r, vi i, vi to, vi j, vi n, vi k] [] (wI h 121 (cpF f (fun k => hI h 120 (40 * r + i + k)) 0 k)) (jqi P) := by
  refine st_iload (q := 106) dX12_copy_104 rfl rfl ?_
  refine st_iload (q := 108) dX12_copy_106 rfl rfl ?_
  refine st_icmp_ge (q := 111) (tgt := 133) dX12_copy_108 (by decide) rfl (fun c108 => ?_) (fun c108 => ?_)
  · refine st_iconst (q := 134) dX12_copy_133 ⟨by decide, by decide⟩ rfl ?_
    refine st_istore (q := 136) dX12_copy_134 (by decide) rfl ?_
    have e1 : k = n := by omega
    subst e1
    have := lp2_X12_copy (d := d + 1) (h := wI h 121 (cpF f (fun k => hI h 120 (40 * r + i + k)) 0 k)) (P := P) (r := r) (i := i) (to := to) (j := j) (n := k) (f := hI h 120) (g := fun k => hI h 120 (40 * r + i + k)) w ht hj (fun z hz => by rw [wI_at]; have := cpF_in (f := f) (g := fun k => hI h 120 (40 * r + i + k)) (lo := 0) hz; rw [Nat.zero_add] at this; exact this) (hP _) 0 (by omega)
    rw [cpF_0, wI_keep (wI_ne _ _ (by decide))] at this
    exact this
  · refine st_aload_n (q := 112) dX12_copy_111 rfl rfl ?_
    refine st_getR (q := 115) 12 7 dX12_copy_112 fl_X12_23 (by decide) (by decide) rfl rfl (wfk w rfl) (wfR w rfl) ?_
    refine st_iload (q := 117) dX12_copy_115 rfl rfl ?_
    refine st_aload_n (q := 118) dX12_copy_117 rfl rfl ?_
    refine st_iload_n (q := 119) dX12_copy_118 rfl rfl ?_
    refine st_iload_n (q := 120) dX12_copy_119 rfl rfl ?_
    refine st_iload (q := 122) dX12_copy_120 rfl rfl ?_
    first | refine n_iadd (q := 123) dX12_copy_122 rfl ⟨by omega, by omega⟩ ?_ | refine st_iadd (q := 123) dX12_copy_122 rfl ?_
    refine iV2i (q := 126) dX12_copy_123 rfl ml_X12_148 mv_X12_rowAt (Nat.le_of_ble_eq_true rfl) (wfk w rfl) ?_
    refine c_X12_rowAt w (by omega) (by omega) ?_
    refine st_iastore (q := 127) dX12_copy_126 rfl (wfk w rfl) (wfb w (n := 40) rfl ⟨by omega, by omega⟩) ?_
    rw [show hI (wI h 121 (cpF f (fun k => hI h 120 (40 * r + i + k)) 0 k)) 120 = hI h 120 from wI_ne _ _ (by decide), show (40 * (r : Int) + (i + k)).toNat = 40 * r + i + k by omega]
    first | refine n_iinc (q := 130) dX12_copy_127 rfl (by decide) rfl ⟨by omega, by omega⟩ ?_ | refine st_iinc (q := 130) dX12_copy_127 rfl (by decide) rfl ?_
    refine st_goto (q := 104) dX12_copy_130 (by decide) ?_
    rw [sI_wI]
    have e := cpF_s f (fun k => hI h 120 (40 * r + i + k)) 0 k
    rw [Nat.zero_add] at e
    rw [show ((k : Int)).toNat = k from rfl, e]
    exact lp1_X12_copy w hr hi ht hj hP (k + 1) (by omega)
termination_by n - k
theorem c_X12_copy {d : Nat} {h : JH} {P : Int → JH → Prop} {r i to j n : Int} (w : WF h) (hz : ∀ k, k < 6 → hI h 119 k ≤ 40) (h1 : ¬ (0 ≤ r ∧ r ≤ 5) ∨ ¬ (0 ≤ to ∧ to ≤ 5) → P (-1) h) (h2 : 0 ≤ r ∧ r ≤ 5 → 0 ≤ to ∧ to ≤ 5 → n < 0 → P (-3) (mtH h 5)) (h3 : 0 ≤ r ∧ r ≤ 5 → 0 ≤ to ∧ to ≤ 5 → 0 ≤ n → hI h 119 r.toNat < 0 ∨ hI h 119 to.toNat < 0 → P (-3) (mtH h 1))
    (h4 : 0 ≤ r ∧ r ≤ 5 → 0 ≤ to ∧ to ≤ 5 → 0 ≤ n → 0 ≤ hI h 119 r.toNat → 0 ≤ hI h 119 to.toNat → ¬ (0 ≤ i ∧ 0 ≤ j ∧ i + n ≤ hI h 119 r.toNat ∧ j + n ≤ hI h 119 to.toNat) → P (-3) (mtH h 2))
    (h5 : 0 ≤ r ∧ r ≤ 5 → 0 ≤ to ∧ to ≤ 5 → 0 ≤ n → 0 ≤ hI h 119 r.toNat → 0 ≤ hI h 119 to.toNat → 0 ≤ i ∧ 0 ≤ j ∧ i + n ≤ hI h 119 r.toNat ∧ j + n ≤ hI h 119 to.toNat → ∀ f, P 1 (wI (wI h 121 f) 120 (cpF (hI h 120) (fun k => hI h 120 (40 * r.toNat + i.toNat + k)) (40 * to.toNat + j.toNat) n.toNat))) : JRi (d + 2) jX12_copy [vr 117, vi r, vi i, vi to, vi j, vi n] h P := by
  have hs : 0 ≤ r ∧ r ≤ 5 → hI h 119 r.toNat ≤ 40 := fun z => hz r.toNat (by omega)
  have ht : 0 ≤ to ∧ to ≤ 5 → hI h 119 to.toNat ≤ 40 := fun z => hz to.toNat (by omega)
  refine r_okh (fun ok ov => ?_)
  have ri : r32 i := ov (vi i) (by simp)
  have rj : r32 j := ov (vi j) (by simp)
  have rn : r32 n := ov (vi n) (by simp)
  unfold r32 at ri rj rn
  refine JRet.of rfl (Nat.le_of_ble_eq_true rfl) ?_
  refine st_iload_n (q := 1) dX12_copy_0 rfl rfl ?_
  refine iS1i (q := 4) dX12_copy_1 rfl ml_X12_134 ms_X12_isRow (Nat.le_of_ble_eq_true rfl) ?_
  refine c_X12_isRow ?_
  refine st_if_eq (q := 7) (tgt := 14) dX12_copy_4 (by decide) rfl (fun c4 => ?_) (fun c4 => ?_)
  · refine st_iconst (q := 15) dX12_copy_14 ⟨by decide, by decide⟩ rfl ?_
    refine rt_i dX12_copy_15 rfl ?_
    first | exact h1 (by omega) | exact h2 (by omega) (by omega) (by omega) | exact h3 (by omega) (by omega) (by omega) (by omega) | exact h4 (by omega) (by omega) (by omega) (by omega) (by omega) (by omega)
  · refine st_iload_n (q := 8) dX12_copy_7 rfl rfl ?_
    refine iS1i (q := 11) dX12_copy_8 rfl ml_X12_134 ms_X12_isRow (Nat.le_of_ble_eq_true rfl) ?_
    refine c_X12_isRow ?_
    refine st_if_ne (q := 14) (tgt := 16) dX12_copy_11 (by decide) rfl (fun c11 => ?_) (fun c11 => ?_)
    · refine st_iload (q := 18) dX12_copy_16 rfl rfl ?_
      refine st_if_ge (q := 21) (tgt := 27) dX12_copy_18 (by decide) rfl (fun c18 => ?_) (fun c18 => ?_)
      · refine st_aload_n (q := 28) dX12_copy_27 rfl rfl ?_
        refine st_getR (q := 31) 12 5 dX12_copy_28 fl_X12_17 (by decide) (by decide) rfl rfl (wfk w rfl) (wfR w rfl) ?_
        refine st_iload_n (q := 32) dX12_copy_31 rfl rfl ?_
        refine st_iaload (q := 33) dX12_copy_32 rfl (wfk w rfl) (wfb w (n := 6) rfl ⟨by omega, by omega⟩) ?_
        refine st_if_lt (q := 36) (tgt := 45) dX12_copy_33 (by decide) rfl (fun c33 => ?_) (fun c33 => ?_)
        · refine st_aload_n (q := 46) dX12_copy_45 rfl rfl ?_
          refine st_iconst (q := 47) dX12_copy_46 ⟨by decide, by decide⟩ rfl ?_
          refine iV1i (q := 50) dX12_copy_47 rfl ml_X12_138 mv_X12_meets (Nat.le_of_ble_eq_true rfl) (wfk w rfl) ?_
          refine c_X12_meets w (by decide) ?_
          refine rt_i dX12_copy_50 rfl ?_
          first | exact h1 (by omega) | exact h2 (by omega) (by omega) (by omega) | exact h3 (by omega) (by omega) (by omega) (by omega) | exact h4 (by omega) (by omega) (by omega) (by omega) (by omega) (by omega)
        · refine st_aload_n (q := 37) dX12_copy_36 rfl rfl ?_
          refine st_getR (q := 40) 12 5 dX12_copy_37 fl_X12_17 (by decide) (by decide) rfl rfl (wfk w rfl) (wfR w rfl) ?_
          refine st_iload_n (q := 41) dX12_copy_40 rfl rfl ?_
          refine st_iaload (q := 42) dX12_copy_41 rfl (wfk w rfl) (wfb w (n := 6) rfl ⟨by omega, by omega⟩) ?_
          refine st_if_ge (q := 45) (tgt := 51) dX12_copy_42 (by decide) rfl (fun c42 => ?_) (fun c42 => ?_)
          · refine st_iload_n (q := 52) dX12_copy_51 rfl rfl ?_
            refine st_if_lt (q := 55) (tgt := 95) dX12_copy_52 (by decide) rfl (fun c52 => ?_) (fun c52 => ?_)
            · refine st_aload_n (q := 96) dX12_copy_95 rfl rfl ?_
              refine st_iconst (q := 97) dX12_copy_96 ⟨by decide, by decide⟩ rfl ?_
              refine iV1i (q := 100) dX12_copy_97 rfl ml_X12_138 mv_X12_meets (Nat.le_of_ble_eq_true rfl) (wfk w rfl) ?_
              refine c_X12_meets w (by decide) ?_
              refine rt_i dX12_copy_100 rfl ?_
              first | exact h1 (by omega) | exact h2 (by omega) (by omega) (by omega) | exact h3 (by omega) (by omega) (by omega) (by omega) | exact h4 (by omega) (by omega) (by omega) (by omega) (by omega) (by omega)
            · refine st_iload (q := 57) dX12_copy_55 rfl rfl ?_
              refine st_if_lt (q := 60) (tgt := 95) dX12_copy_57 (by decide) rfl (fun c57 => ?_) (fun c57 => ?_)
              · refine st_aload_n (q := 96) dX12_copy_95 rfl rfl ?_
                refine st_iconst (q := 97) dX12_copy_96 ⟨by decide, by decide⟩ rfl ?_
                refine iV1i (q := 100) dX12_copy_97 rfl ml_X12_138 mv_X12_meets (Nat.le_of_ble_eq_true rfl) (wfk w rfl) ?_
                refine c_X12_meets w (by decide) ?_
                refine rt_i dX12_copy_100 rfl ?_
                first | exact h1 (by omega) | exact h2 (by omega) (by omega) (by omega) | exact h3 (by omega) (by omega) (by omega) (by omega) | exact h4 (by omega) (by omega) (by omega) (by omega) (by omega) (by omega)
              · refine st_iload_n (q := 61) dX12_copy_60 rfl rfl ?_
                refine st_i2l (q := 62) dX12_copy_61 rfl ?_
                refine st_iload (q := 64) dX12_copy_62 rfl rfl ?_
                refine st_i2l (q := 65) dX12_copy_64 rfl ?_
                first | refine n_ladd (q := 66) dX12_copy_65 rfl ⟨by omega, by omega⟩ ?_ | refine st_ladd (q := 66) dX12_copy_65 rfl ?_
                refine st_aload_n (q := 67) dX12_copy_66 rfl rfl ?_
                refine st_getR (q := 70) 12 5 dX12_copy_67 fl_X12_17 (by decide) (by decide) rfl rfl (wfk w rfl) (wfR w rfl) ?_
                refine st_iload_n (q := 71) dX12_copy_70 rfl rfl ?_
                refine st_iaload (q := 72) dX12_copy_71 rfl (wfk w rfl) (wfb w (n := 6) rfl ⟨by omega, by omega⟩) ?_
                refine st_i2l (q := 73) dX12_copy_72 rfl ?_
                refine st_lif_gt (p2 := 74) (q := 77) (tgt := 95) dX12_copy_73 rfl dX12_copy_74 (by decide) rfl (fun c74 => ?_) (fun c74 => ?_)
                · refine st_aload_n (q := 96) dX12_copy_95 rfl rfl ?_
                  refine st_iconst (q := 97) dX12_copy_96 ⟨by decide, by decide⟩ rfl ?_
                  refine iV1i (q := 100) dX12_copy_97 rfl ml_X12_138 mv_X12_meets (Nat.le_of_ble_eq_true rfl) (wfk w rfl) ?_
                  refine c_X12_meets w (by decide) ?_
                  refine rt_i dX12_copy_100 rfl ?_
                  first | exact h1 (by omega) | exact h2 (by omega) (by omega) (by omega) | exact h3 (by omega) (by omega) (by omega) (by omega) | exact h4 (by omega) (by omega) (by omega) (by omega) (by omega) (by omega)
                · refine st_iload (q := 79) dX12_copy_77 rfl rfl ?_
                  refine st_i2l (q := 80) dX12_copy_79 rfl ?_
                  refine st_iload (q := 82) dX12_copy_80 rfl rfl ?_
                  refine st_i2l (q := 83) dX12_copy_82 rfl ?_
                  first | refine n_ladd (q := 84) dX12_copy_83 rfl ⟨by omega, by omega⟩ ?_ | refine st_ladd (q := 84) dX12_copy_83 rfl ?_
                  refine st_aload_n (q := 85) dX12_copy_84 rfl rfl ?_
                  refine st_getR (q := 88) 12 5 dX12_copy_85 fl_X12_17 (by decide) (by decide) rfl rfl (wfk w rfl) (wfR w rfl) ?_
                  refine st_iload_n (q := 89) dX12_copy_88 rfl rfl ?_
                  refine st_iaload (q := 90) dX12_copy_89 rfl (wfk w rfl) (wfb w (n := 6) rfl ⟨by omega, by omega⟩) ?_
                  refine st_i2l (q := 91) dX12_copy_90 rfl ?_
                  refine st_lif_le (p2 := 92) (q := 95) (tgt := 101) dX12_copy_91 rfl dX12_copy_92 (by decide) rfl (fun c92 => ?_) (fun c92 => ?_)
                  · refine st_iconst (q := 102) dX12_copy_101 ⟨by decide, by decide⟩ rfl ?_
                    refine st_istore (q := 104) dX12_copy_102 (by decide) rfl ?_
                    have := lp1_X12_copy (d := d + 1) (h := h) (P := P) (r := r.toNat) (i := i.toNat) (to := to.toNat) (j := j.toNat) (n := n.toNat) (f := hI h 121) w (by omega) (by omega) (by omega) (by omega) (h5 (by omega) (by omega) (by omega) (by omega) (by omega) (by omega)) 0 (by omega)
                    rw [cpF_0, wI_self, Int.toNat_of_nonneg (by omega), Int.toNat_of_nonneg (by omega), Int.toNat_of_nonneg (by omega), Int.toNat_of_nonneg (by omega), Int.toNat_of_nonneg (by omega)] at this
                    exact this
                  · refine st_aload_n (q := 96) dX12_copy_95 rfl rfl ?_
                    refine st_iconst (q := 97) dX12_copy_96 ⟨by decide, by decide⟩ rfl ?_
                    refine iV1i (q := 100) dX12_copy_97 rfl ml_X12_138 mv_X12_meets (Nat.le_of_ble_eq_true rfl) (wfk w rfl) ?_
                    refine c_X12_meets w (by decide) ?_
                    refine rt_i dX12_copy_100 rfl ?_
                    first | exact h1 (by omega) | exact h2 (by omega) (by omega) (by omega) | exact h3 (by omega) (by omega) (by omega) (by omega) | exact h4 (by omega) (by omega) (by omega) (by omega) (by omega) (by omega)
          · refine st_aload_n (q := 46) dX12_copy_45 rfl rfl ?_
            refine st_iconst (q := 47) dX12_copy_46 ⟨by decide, by decide⟩ rfl ?_
            refine iV1i (q := 50) dX12_copy_47 rfl ml_X12_138 mv_X12_meets (Nat.le_of_ble_eq_true rfl) (wfk w rfl) ?_
            refine c_X12_meets w (by decide) ?_
            refine rt_i dX12_copy_50 rfl ?_
            first | exact h1 (by omega) | exact h2 (by omega) (by omega) (by omega) | exact h3 (by omega) (by omega) (by omega) (by omega) | exact h4 (by omega) (by omega) (by omega) (by omega) (by omega) (by omega)
      · refine st_aload_n (q := 22) dX12_copy_21 rfl rfl ?_
        refine st_iconst (q := 23) dX12_copy_22 ⟨by decide, by decide⟩ rfl ?_
        refine iV1i (q := 26) dX12_copy_23 rfl ml_X12_138 mv_X12_meets (Nat.le_of_ble_eq_true rfl) (wfk w rfl) ?_
        refine c_X12_meets w (by decide) ?_
        refine rt_i dX12_copy_26 rfl ?_
        first | exact h1 (by omega) | exact h2 (by omega) (by omega) (by omega) | exact h3 (by omega) (by omega) (by omega) (by omega) | exact h4 (by omega) (by omega) (by omega) (by omega) (by omega) (by omega)
    · refine st_iconst (q := 15) dX12_copy_14 ⟨by decide, by decide⟩ rfl ?_
      refine rt_i dX12_copy_15 rfl ?_
      first | exact h1 (by omega) | exact h2 (by omega) (by omega) (by omega) | exact h3 (by omega) (by omega) (by omega) (by omega) | exact h4 (by omega) (by omega) (by omega) (by omega) (by omega) (by omega)

