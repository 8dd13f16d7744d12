/-! sure: the reference's search, and both -/
theorem cd_div {n row k : Nat} (hr : row < 2 ^ n) (hk : k ≤ n) : (0 < (2 ^ n + row) / 2 ^ (k + 1) ↔ k < n) := by
  constructor
  · intro z
    by_cases e : k < n
    · exact e
    · have : k = n := by omega
      subst this
      rw [Nat.div_eq_of_lt (by rw [Nat.pow_succ]; omega)] at z
      omega
  · intro z
    apply Nat.div_pos _ (Nat.two_pow_pos _)
    have : 2 ^ (k + 1) ≤ 2 ^ n := Nat.pow_le_pow_right (by decide) z
    omega
theorem cd_mod {n row : Nat} (hr : row < 2 ^ n) : (2 ^ n + row) % 2 ^ n = row := by
  rw [Nat.add_mod_left, Nat.mod_eq_of_lt hr]
theorem lp_sure159 {d : Nat} {h : JH} {P : Int → JH → Prop} {i n row : Nat} {j3 j4 : JV} (w : WF h) (hi : i < 512) (hn : n ≤ 8) (hr : row < 2 ^ n) (ex : hI h 149 i = ((2 ^ n + row : Nat) : Int)) (K : JAt k0 (d + 1) jX12_sure 178 [vr 117, vi i, vi n, j3, j4] [] h (jqi P)) : ∀ (m k : Nat), k + m = n → JAt k0 (d + 1) jX12_sure 159 [vr 117, vi i, vi k, j3, j4] [] h (jqi P) := by
  have hx := cd_lt hr hn
  have ex' : hI h 149 ((i : Int)).toNat = ((2 ^ n + row : Nat) : Int) := ex
  intro m
  induction m with
  | zero =>
    intro k hk
    have cd := cd_div hr (k := k) (by omega)
    refine st_aload_n (q := 160) dX12_sure_159 rfl rfl ?_
    refine st_getR (q := 163) 12 44 dX12_sure_160 fl_X12_115 (by decide) (by decide) rfl rfl (wfk w rfl) (wfR w rfl) ?_
    refine st_iload_n (q := 164) dX12_sure_163 rfl rfl ?_
    refine st_iaload (q := 165) dX12_sure_164 rfl (wfk w rfl) (wfb w (n := 512) rfl ⟨by omega, by omega⟩) ?_
    refine j_top ((2 ^ n + row : Nat) : Int) ex' ?_
    refine st_iload_n (q := 166) dX12_sure_165 rfl rfl ?_
    refine st_iconst (q := 167) dX12_sure_166 ⟨by decide, by decide⟩ rfl ?_
    first | refine n_iadd (q := 168) dX12_sure_167 rfl ⟨by omega, by omega⟩ ?_ | refine st_iadd (q := 168) dX12_sure_167 rfl ?_
    refine j_top ((k + 1 : Nat) : Int) (by omega) ?_
    refine st_ishr (q := 169) dX12_sure_168 rfl ?_
    refine j_top (((2 ^ n + row) / 2 ^ (k + 1) : Nat) : Int) (ishr_n (by omega) (by omega)) ?_
    refine st_if_le (q := 172) (tgt := 178) dX12_sure_169 (by decide) rfl (fun c169 => ?_) (fun c169 => ?_)
    · rw [show k = n by omega]
      exact K
    · exfalso; omega
  | succ m ih =>
    intro k hk
    have cd := cd_div hr (k := k) (by omega)
    refine st_aload_n (q := 160) dX12_sure_159 rfl rfl ?_
    refine st_getR (q := 163) 12 44 dX12_sure_160 fl_X12_115 (by decide) (by decide) rfl rfl (wfk w rfl) (wfR w rfl) ?_
    refine st_iload_n (q := 164) dX12_sure_163 rfl rfl ?_
    refine st_iaload (q := 165) dX12_sure_164 rfl (wfk w rfl) (wfb w (n := 512) rfl ⟨by omega, by omega⟩) ?_
    refine j_top ((2 ^ n + row : Nat) : Int) ex' ?_
    refine st_iload_n (q := 166) dX12_sure_165 rfl rfl ?_
    refine st_iconst (q := 167) dX12_sure_166 ⟨by decide, by decide⟩ rfl ?_
    first | refine n_iadd (q := 168) dX12_sure_167 rfl ⟨by omega, by omega⟩ ?_ | refine st_iadd (q := 168) dX12_sure_167 rfl ?_
    refine j_top ((k + 1 : Nat) : Int) (by omega) ?_
    refine st_ishr (q := 169) dX12_sure_168 rfl ?_
    refine j_top (((2 ^ n + row) / 2 ^ (k + 1) : Nat) : Int) (ishr_n (by omega) (by omega)) ?_
    refine st_if_le (q := 172) (tgt := 178) dX12_sure_169 (by decide) rfl (fun c169 => ?_) (fun c169 => ?_)
    · exfalso; omega
    · first | refine n_iinc (q := 175) dX12_sure_172 rfl (by decide) rfl ⟨by omega, by omega⟩ ?_ | refine st_iinc (q := 175) dX12_sure_172 rfl (by decide) rfl ?_
      refine st_goto (q := 159) dX12_sure_175 (by decide) ?_
      exact ih (k + 1) (by omega)

