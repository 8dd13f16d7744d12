/-! sure: the reference's search, and both -/
theorem cd_div {n row k : Nat} (hr : row < 2 ^ n) (hk : k ≤ n) : (0 < (2 ^ n + row) / 2 ^ (k + 1) ↔ k < n) := by
  constructor
  · intro z
    by_cases e : k < n
    · exact e
    · have : k = n := by omega
      subst this
      rw [Nat.div_eq_of_lt (by rw [Nat.pow_succ]; omega)] at z
      omega
  · intro z
    apply Nat.div_pos _ (Nat.two_pow_pos _)
    have : 2 ^ (k + 1) ≤ 2 ^ n := Nat.pow_le_pow_right (by decide) z
    omega
theorem cd_mod {n row : Nat} (hr : row < 2 ^ n) : (2 ^ n + row) % 2 ^ n = row := by
  rw [Nat.add_mod_left, Nat.mod_eq_of_lt hr]
theorem lp_sure159 {d : Nat} {h : JH} {P : Int → JH → Prop} {i n row : Nat} {j3 j4 : JV} (w : WF h) (hi : i < 512) (hn : n ≤ 8) (hr : row < 2 ^ n) (ex : hI h 149 i = ((2 ^ n + row : Nat) : Int)) (K : JAt k0 (d + 1) jX12_sure 178 [vr 117, vi i, vi n, j3, j4] [] h (jqi P)) : ∀ (m k : Nat), k + m = n → JAt k0 (d + 1) jX12_sure 159 [vr 117, vi i, vi k, j3, j4] [] h (jqi P) := by
  have hx := cd_lt hr hn
  have ex' : hI h 149 ((i : Int)).toNat = ((2 ^ n + row : Nat) : Int) := ex
  intro m
  induction m with
  | zero =>
    intro k hk
    have cd := cd_div hr (k := k) (by omega)
    refine st_aload_n (q := 160) dX12_sure_159 rfl rfl ?_
    refine st_getR (q := 163) 12 44 dX12_sure_160 fl_X12_115 (by decide) (by decide) rfl rfl (wfk w rfl) (wfR w rfl) ?_
    refine st_iload_n (q := 164) dX12_sure_163 rfl rfl ?_
    refine st_iaload (q := 165) dX12_sure_164 rfl (wfk w rfl) (wfb w (n := 512) rfl ⟨by omega, by omega⟩) ?_
    refine j_top ((2 ^ n + row : Nat) : Int) ex' ?_
    refine st_iload_n (q := 166) dX12_sure_165 rfl rfl ?_
    refine st_iconst (q := 167) dX12_sure_166 ⟨by decide, by decide⟩ rfl ?_
    first | refine n_iadd (q := 168) dX12_sure_167 rfl ⟨by omega, by omega⟩ ?_ | refine st_iadd (q := 168) dX12_sure_167 rfl ?_
    refine j_top ((k + 1 : Nat) : Int) (by omega) ?_
    refine st_ishr (q := 169) dX12_sure_168 rfl ?_
    refine j_top (((2 ^ n + row) / 2 ^ (k + 1) : Nat) : Int) (ishr_n (by omega) (by omega)) ?_
    refine st_if_le (q := 172) (tgt := 178) dX12_sure_169 (by decide) rfl (fun c169 => ?_) (fun c169 => ?_)
    · rw [show k = n by omega]
      exact K
    · exfalso; omega
  | succ m ih =>
    intro k hk
    have cd := cd_div hr (k := k) (by omega)
    refine st_aload_n (q := 160) dX12_sure_159 rfl rfl ?_
    refine st_getR (q := 163) 12 44 dX12_sure_160 fl_X12_115 (by decide) (by decide) rfl rfl (wfk w rfl) (wfR w rfl) ?_
    refine st_iload_n (q := 164) dX12_sure_163 rfl rfl ?_
    refine st_iaload (q := 165) dX12_sure_164 rfl (wfk w rfl) (wfb w (n := 512) rfl ⟨by omega, by omega⟩) ?_
    refine j_top ((2 ^ n + row : Nat) : Int) ex' ?_
    refine st_iload_n (q := 166) dX12_sure_165 rfl rfl ?_
    refine st_iconst (q := 167) dX12_sure_166 ⟨by decide, by decide⟩ rfl ?_
    first | refine n_iadd (q := 168) dX12_sure_167 rfl ⟨by omega, by omega⟩ ?_ | refine st_iadd (q := 168) dX12_sure_167 rfl ?_
    refine j_top ((k + 1 : Nat) : Int) (by omega) ?_
    refine st_ishr (q := 169) dX12_sure_168 rfl ?_
    refine j_top (((2 ^ n + row) / 2 ^ (k + 1) : Nat) : Int) (ishr_n (by omega) (by omega)) ?_
    refine st_if_le (q := 172) (tgt := 178) dX12_sure_169 (by decide) rfl (fun c169 => ?_) (fun c169 => ?_)
    · exfalso; omega
    · first | refine n_iinc (q := 175) dX12_sure_172 rfl (by decide) rfl ⟨by omega, by omega⟩ ?_ | refine st_iinc (q := 175) dX12_sure_172 rfl (by decide) rfl ?_
      refine st_goto (q := 159) dX12_sure_175 (by decide) ?_
      exact ih (k + 1) (by omega)
theorem lp_sure140 {d : Nat} {h0 : JH} {P : Int → JH → Prop} {g : SG} (w0 : WF h0) (x0 : GM h0 g) (o : gOk g) (p0 : emp g → ∀ h', Fr ScW h0 h' → P 0 h') (p1 : ¬ emp g → ∀ h', Fr ScW h0 h' → P 1 h') : ∀ (m i : Nat), i + m = 512 → ∀ (h' : JH) (j2 j3 j4 : JV), Fr ScW h0 h' → MS g h' → E1 g h' 8 0 → E2 g h' i → JAt k0 (d + 1) jX12_sure 140 [vr 117, vi i, j2, j3, j4] [] h' (jqi P) := by
  intro m
  induction m with
  | zero =>
    intro i hi h' j2 j3 j4 f q x1 x2
    have w := f.wf w0
    have cb := cnM_b (hI h' 148) 512
    rw [← q.2.1] at cb
    have q1 := q.1 1 (by decide)
    refine st_iload_n (q := 141) dX12_sure_140 rfl rfl ?_
    refine st_aload_n (q := 142) dX12_sure_141 rfl rfl ?_
    refine st_getI (q := 145) 12 45 dX12_sure_142 fl_X12_286 (by decide) (by decide) rfl rfl (wfk w rfl) ?_
    refine st_icmp_ge (q := 148) (tgt := 324) dX12_sure_145 (by decide) rfl (fun c145 => ?_) (fun c145 => ?_)
    · refine st_aload_n (q := 325) dX12_sure_324 rfl rfl ?_
      refine st_getR (q := 328) 12 43 dX12_sure_325 fl_X12_111 (by decide) (by decide) rfl rfl (wfk w rfl) (wfR w rfl) ?_
      refine st_iconst (q := 329) dX12_sure_328 ⟨by decide, by decide⟩ rfl ?_
      refine st_baload (q := 330) dX12_sure_329 rfl (wfk w rfl) (wfb w (n := 512) rfl ⟨by omega, by omega⟩) ?_
      refine j_top (hI h' 148 1) rfl ?_
      refine st_if_eq (q := 333) (tgt := 337) dX12_sure_330 (by decide) rfl (fun c330 => ?_) (fun c330 => ?_)
      · refine st_iconst (q := 338) dX12_sure_337 ⟨by decide, by decide⟩ rfl ?_
        refine rt_i dX12_sure_338 rfl ?_
        first | exact p1 (sure_w o q x1 x2 (by omega) (by omega)) _ f | exact p0 (sure_1 o q (by omega)) _ f
      · refine st_iconst (q := 334) dX12_sure_333 ⟨by decide, by decide⟩ rfl ?_
        refine st_goto (q := 338) dX12_sure_334 (by decide) ?_
        refine rt_i dX12_sure_338 rfl ?_
        first | exact p1 (sure_w o q x1 x2 (by omega) (by omega)) _ f | exact p0 (sure_1 o q (by omega)) _ f
    · exfalso; omega
  | succ m ih =>
    intro i hi h' j2 j3 j4 f q x1 x2
    have w := f.wf w0
    have cb := cnM_b (hI h' 148) 512
    rw [← q.2.1] at cb
    have q1 := q.1 1 (by decide)
    have hA : (i : Int) < hI h' 117 45 → ∀ j3 j4 : JV, JAt k0 (d + 1) jX12_sure 159 [vr 117, vi i, vi 0, j3, j4] [] h' (jqi P) := by
      intro hlt j3 j4
      have qx := q.2.2.1 i hlt
      obtain ⟨n, row, hr, hn, e, s⟩ := q.2.2.2.2 _ (by omega) qx.2.2
      have ex : hI h' 149 i = ((2 ^ n + row : Nat) : Int) := by omega
      have hx := cd_lt hr hn
      have p2 : 0 < 2 ^ n := Nat.two_pow_pos n
      have ex' : hI h' 149 ((i : Int)).toNat = ((2 ^ n + row : Nat) : Int) := ex
      have hB : JAt k0 (d + 1) jX12_sure 178 [vr 117, vi i, vi n, j3, j4] [] h' (jqi P) := by
        refine st_aload_n (q := 179) dX12_sure_178 rfl rfl ?_
        refine st_getR (q := 182) 12 44 dX12_sure_179 fl_X12_115 (by decide) (by decide) rfl rfl (wfk w rfl) (wfR w rfl) ?_
        refine st_iload_n (q := 183) dX12_sure_182 rfl rfl ?_
        refine st_iaload (q := 184) dX12_sure_183 rfl (wfk w rfl) (wfb w (n := 512) rfl ⟨by omega, by omega⟩) ?_
        refine j_top ((2 ^ n + row : Nat) : Int) ex' ?_
        refine st_iconst (q := 185) dX12_sure_184 ⟨by decide, by decide⟩ rfl ?_
        refine st_iload_n (q := 186) dX12_sure_185 rfl rfl ?_
        refine st_ishl (q := 187) dX12_sure_186 rfl ?_
        refine j_top ((2 ^ n : Nat) : Int) (sh2 (by omega)) ?_
        refine st_iconst (q := 188) dX12_sure_187 ⟨by decide, by decide⟩ rfl ?_
        first | refine n_isub (q := 189) dX12_sure_188 rfl ⟨by omega, by omega⟩ ?_ | refine st_isub (q := 189) dX12_sure_188 rfl ?_
        refine j_top ((2 ^ n - 1 : Nat) : Int) (by omega) ?_
        refine st_iand (q := 190) dX12_sure_189 rfl ?_
        refine j_top (row : Int) (by rw [iand_n (by omega), Nat.and_two_pow_sub_one_eq_mod, cd_mod hr]) ?_
        refine st_istore_n (q := 191) (i := 3) dX12_sure_190 rfl (by decide) rfl ?_
        refine st_iconst (q := 192) dX12_sure_191 ⟨by decide, by decide⟩ rfl ?_
        refine st_istore (q := 194) dX12_sure_192 (by decide) rfl ?_
        exact lp_sure194 w0 x0 o (by omega) hn hr s (fun h3 a2 a3 a4 f3 q3 y1 y2 => ih (i + 1) (by omega) h3 a2 a3 a4 f3 q3 y1 y2) 8 0 (by omega) h' f q x1 x2 hlt ex (fun c hc => absurd hc (by omega))
      exact lp_sure159 w (by omega) hn hr ex hB n 0 (by omega)
    refine st_iload_n (q := 141) dX12_sure_140 rfl rfl ?_
    refine st_aload_n (q := 142) dX12_sure_141 rfl rfl ?_
    refine st_getI (q := 145) 12 45 dX12_sure_142 fl_X12_286 (by decide) (by decide) rfl rfl (wfk w rfl) ?_
    refine st_icmp_ge (q := 148) (tgt := 324) dX12_sure_145 (by decide) rfl (fun c145 => ?_) (fun c145 => ?_)
    · refine st_aload_n (q := 325) dX12_sure_324 rfl rfl ?_
      refine st_getR (q := 328) 12 43 dX12_sure_325 fl_X12_111 (by decide) (by decide) rfl rfl (wfk w rfl) (wfR w rfl) ?_
      refine st_iconst (q := 329) dX12_sure_328 ⟨by decide, by decide⟩ rfl ?_
      refine st_baload (q := 330) dX12_sure_329 rfl (wfk w rfl) (wfb w (n := 512) rfl ⟨by omega, by omega⟩) ?_
      refine j_top (hI h' 148 1) rfl ?_
      refine st_if_eq (q := 333) (tgt := 337) dX12_sure_330 (by decide) rfl (fun c330 => ?_) (fun c330 => ?_)
      · refine st_iconst (q := 338) dX12_sure_337 ⟨by decide, by decide⟩ rfl ?_
        refine rt_i dX12_sure_338 rfl ?_
        first | exact p1 (sure_w o q x1 x2 (by omega) (by omega)) _ f | exact p0 (sure_1 o q (by omega)) _ f
      · refine st_iconst (q := 334) dX12_sure_333 ⟨by decide, by decide⟩ rfl ?_
        refine st_goto (q := 338) dX12_sure_334 (by decide) ?_
        refine rt_i dX12_sure_338 rfl ?_
        first | exact p1 (sure_w o q x1 x2 (by omega) (by omega)) _ f | exact p0 (sure_1 o q (by omega)) _ f
    · refine st_aload_n (q := 149) dX12_sure_148 rfl rfl ?_
      refine st_getR (q := 152) 12 43 dX12_sure_149 fl_X12_111 (by decide) (by decide) rfl rfl (wfk w rfl) (wfR w rfl) ?_
      refine st_iconst (q := 153) dX12_sure_152 ⟨by decide, by decide⟩ rfl ?_
      refine st_baload (q := 154) dX12_sure_153 rfl (wfk w rfl) (wfb w (n := 512) rfl ⟨by omega, by omega⟩) ?_
      refine j_top (hI h' 148 1) rfl ?_
      refine st_if_ne (q := 157) (tgt := 324) dX12_sure_154 (by decide) rfl (fun c154 => ?_) (fun c154 => ?_)
      · refine st_aload_n (q := 325) dX12_sure_324 rfl rfl ?_
        refine st_getR (q := 328) 12 43 dX12_sure_325 fl_X12_111 (by decide) (by decide) rfl rfl (wfk w rfl) (wfR w rfl) ?_
        refine st_iconst (q := 329) dX12_sure_328 ⟨by decide, by decide⟩ rfl ?_
        refine st_baload (q := 330) dX12_sure_329 rfl (wfk w rfl) (wfb w (n := 512) rfl ⟨by omega, by omega⟩) ?_
        refine j_top (hI h' 148 1) rfl ?_
        refine st_if_eq (q := 333) (tgt := 337) dX12_sure_330 (by decide) rfl (fun c330 => ?_) (fun c330 => ?_)
        · refine st_iconst (q := 338) dX12_sure_337 ⟨by decide, by decide⟩ rfl ?_
          refine rt_i dX12_sure_338 rfl ?_
          first | exact p1 (sure_w o q x1 x2 (by omega) (by omega)) _ f | exact p0 (sure_1 o q (by omega)) _ f
        · refine st_iconst (q := 334) dX12_sure_333 ⟨by decide, by decide⟩ rfl ?_
          refine st_goto (q := 338) dX12_sure_334 (by decide) ?_
          refine rt_i dX12_sure_338 rfl ?_
          first | exact p1 (sure_w o q x1 x2 (by omega) (by omega)) _ f | exact p0 (sure_1 o q (by omega)) _ f
      · refine st_iconst (q := 158) dX12_sure_157 ⟨by decide, by decide⟩ rfl ?_
        refine st_istore_n (q := 159) (i := 2) dX12_sure_158 rfl (by decide) rfl ?_
        exact hA (by omega) _ _

