/-! sure: the reference's loops -/
theorem GM_w {g : SG} {h h' : JH} (x : GM h g) (f : Fr ScW h h') : GM h' g := fun k hk => ⟨(f.2.2 _ _ (by unfold ScW; omega)).trans (x k hk).1, fun z => (f.2.2 _ _ (by unfold ScW; omega)).trans ((x k hk).2 z)⟩
theorem cd_inj {n row n' row' : Nat} (h : row < 2 ^ n) (h' : row' < 2 ^ n') (e : 2 ^ n + row = 2 ^ n' + row') : n = n' ∧ row = row' := by
  have key : ∀ a b x y : Nat, x < 2 ^ a → 2 ^ a + x = 2 ^ b + y → ¬ a < b := by
    intro a b x y hx e z
    have p : 2 ^ (a + 1) ≤ 2 ^ b := Nat.pow_le_pow_right (by decide) z
    rw [Nat.pow_succ] at p
    omega
  have k1 := key n n' row row' h e
  have k2 := key n' n row' row h' e.symm
  have : n = n' := by omega
  subst this
  exact ⟨rfl, by omega⟩
theorem ifz {p : Prop} [Decidable p] (h : (if p then (1 : Int) else 0) = 0) : ¬ p := fun hp => by rw [if_pos hp] at h; exact absurd h (by decide)
theorem suA {g : SG} {h : JH} {n row k : Nat} (hr : row < 2 ^ n) (c : n ≤ (g k).1 ∧ (g k).2 % 2 ^ n = row) (e : hI h 148 (2 ^ ((g k).1 - n) + (g k).2 / 2 ^ n) = 1) : SU g h n row k := fun _ => ⟨fun _ _ => e, fun z1 z2 => by
  have en : (g k).1 = n := by omega
  rw [en] at z2 e ⊢
  rw [Nat.mod_eq_of_lt hr] at z2
  rw [z2]
  exact e⟩
theorem lp_sure194 {d : Nat} {h0 : JH} {P : Int → JH → Prop} {g : SG} {i n row : Nat} (w0 : WF h0) (x0 : GM h0 g) (o : gOk g) (hi : i < 512) (hn : n ≤ 8) (hr : row < 2 ^ n) (s : RC g n row) (K : ∀ (h3 : JH) (j2 j3 j4 : JV), Fr ScW h0 h3 → MS g h3 → E1 g h3 8 0 → E2 g h3 (i + 1) → JAt k0 (d + 1) jX12_sure 140 [vr 117, vi ((i + 1 : Nat) : Int), j2, j3, j4] [] h3 (jqi P)) : ∀ (m k : Nat), k + m = 8 → ∀ h2, Fr ScW h0 h2 → MS g h2 → E1 g h2 8 0 → E2 g h2 i → (i : Int) < hI h2 117 45 → hI h2 149 i = ((2 ^ n + row : Nat) : Int) → (∀ c, c < k → SU g h2 n row c) → JAt k0 (d + 1) jX12_sure 194 [vr 117, vi i, vi n, vi row, vi k] [] h2 (jqi P) := by
  intro m
  induction m with
  | zero =>
    intro k hk h2 f q x1 x2 hlt ex y
    refine st_iload (q := 196) dX12_sure_194 rfl rfl ?_
    refine st_bipush (q := 198) dX12_sure_196 ⟨by decide, by decide⟩ rfl ?_
    refine st_icmp_ge (q := 201) (tgt := 318) dX12_sure_198 (by decide) rfl (fun c198 => ?_) (fun c198 => ?_)
    · first | refine n_iinc (q := 321) dX12_sure_318 rfl (by decide) rfl ⟨by omega, by omega⟩ ?_ | refine st_iinc (q := 321) dX12_sure_318 rfl (by decide) rfl ?_
      refine st_goto (q := 140) dX12_sure_321 (by decide) ?_
      refine K _ _ _ _ f q x1 (fun j hj h3 n' row' h4 h5 c hc => ?_)
      by_cases e : j = i
      · subst e
        rw [ex] at h5
        have hu := cd_inj hr h4 (by omega)
        rw [← hu.1, ← hu.2]
        exact y c (by omega)
      · exact x2 j (by omega) h3 n' row' h4 h5 c hc
    · exfalso; omega
  | succ m ih =>
    intro k hk h2 f q x1 x2 hlt ex y
    have w := f.wf w0
    have gx := GM_w x0 f k (by omega)
    have ok := o k (by omega)
    have xk : hI h2 146 ((k : Int)).toNat = ((g k).1 : Int) := gx.1
    have xb : 0 < (g k).1 → hI h2 147 ((k : Int)).toNat = ((g k).2 : Int) := gx.2
    have pw : 2 ^ n ≤ 256 := Nat.pow_le_pow_right (n := 2) (by decide) hn
    have pb : 2 ^ (g k).1 ≤ 256 := Nat.pow_le_pow_right (n := 2) (by decide) ok.1
    have hS : ∀ h3, Fr ScW h2 h3 → MS g h3 → Gw h2 h3 → SU g h3 n row k → JAt k0 (d + 1) jX12_sure 312 [vr 117, vi i, vi n, vi row, vi k] [] h3 (jqi P) := by
      intro h3 f3 q3 g3 su
      first | refine n_iinc (q := 315) dX12_sure_312 rfl (by decide) rfl ⟨by omega, by omega⟩ ?_ | refine st_iinc (q := 315) dX12_sure_312 rfl (by decide) rfl ?_
      refine st_goto (q := 194) dX12_sure_315 (by decide) ?_
      exact ih (k + 1) (by omega) h3 (f.tr f3) q3 (x1.gr g3) (x2.gr g3 (by omega)) (by have := g3.2.2; omega) (by rw [g3.2.1 i hlt]; exact ex) (fun c hc => by by_cases e : c = k; (rw [e]; exact su); exact (y c (by omega)).gr g3)
    refine st_iload (q := 196) dX12_sure_194 rfl rfl ?_
    refine st_bipush (q := 198) dX12_sure_196 ⟨by decide, by decide⟩ rfl ?_
    refine st_icmp_ge (q := 201) (tgt := 318) dX12_sure_198 (by decide) rfl (fun c198 => ?_) (fun c198 => ?_)
    · exfalso; omega
    · refine st_aload_n (q := 202) dX12_sure_201 rfl rfl ?_
      refine st_getR (q := 205) 12 41 dX12_sure_202 fl_X12_105 (by decide) (by decide) rfl rfl (wfk w rfl) (wfR w rfl) ?_
      refine st_iload (q := 207) dX12_sure_205 rfl rfl ?_
      refine st_iaload (q := 208) dX12_sure_207 rfl (wfk w rfl) (wfb w (n := 8) rfl ⟨by omega, by omega⟩) ?_
      refine j_top ((g k).1 : Int) xk ?_
      refine st_if_le (q := 211) (tgt := 258) dX12_sure_208 (by decide) rfl (fun c208 => ?_) (fun c208 => ?_)
      · refine st_aload_n (q := 259) dX12_sure_258 rfl rfl ?_
        refine st_getR (q := 262) 12 41 dX12_sure_259 fl_X12_105 (by decide) (by decide) rfl rfl (wfk w rfl) (wfR w rfl) ?_
        refine st_iload (q := 264) dX12_sure_262 rfl rfl ?_
        refine st_iaload (q := 265) dX12_sure_264 rfl (wfk w rfl) (wfb w (n := 8) rfl ⟨by omega, by omega⟩) ?_
        refine j_top ((g k).1 : Int) xk ?_
        refine st_if_le (q := 268) (tgt := 312) dX12_sure_265 (by decide) rfl (fun c265 => ?_) (fun c265 => ?_)
        · first | exact hS _ f3 q3 g3 (suA hr cA e3) | exact hS _ f3 q3 g3 (fun _ => ⟨fun z1 z2 => absurd ⟨z1, z2⟩ (ifz c230), fun _ _ => e3⟩) | exact hS _ Fr.rf q Gw.rf (fun _ => ⟨fun z1 z2 => absurd ⟨z1, z2⟩ (ifz c230), fun z1 z2 => absurd ⟨z1, z2⟩ (ifz c287)⟩) | exact hS _ Fr.rf q Gw.rf (fun zz => by exfalso; omega) | (exfalso; omega)
        · refine st_aload_n (q := 269) dX12_sure_268 rfl rfl ?_
          refine st_getR (q := 272) 12 41 dX12_sure_269 fl_X12_105 (by decide) (by decide) rfl rfl (wfk w rfl) (wfR w rfl) ?_
          refine st_iload (q := 274) dX12_sure_272 rfl rfl ?_
          refine st_iaload (q := 275) dX12_sure_274 rfl (wfk w rfl) (wfb w (n := 8) rfl ⟨by omega, by omega⟩) ?_
          refine j_top ((g k).1 : Int) xk ?_
          refine st_aload_n (q := 276) dX12_sure_275 rfl rfl ?_
          refine st_getR (q := 279) 12 42 dX12_sure_276 fl_X12_108 (by decide) (by decide) rfl rfl (wfk w rfl) (wfR w rfl) ?_
          refine st_iload (q := 281) dX12_sure_279 rfl rfl ?_
          refine st_iaload (q := 282) dX12_sure_281 rfl (wfk w rfl) (wfb w (n := 8) rfl ⟨by omega, by omega⟩) ?_
          refine j_top ((g k).2 : Int) (xb (by omega)) ?_
          refine st_iload_n (q := 283) dX12_sure_282 rfl rfl ?_
          refine st_iload_n (q := 284) dX12_sure_283 rfl rfl ?_
          refine iS4i (q := 287) dX12_sure_284 rfl ml_X12_283 ms_X12_isBeginning (Nat.le_of_ble_eq_true rfl) ?_
          refine c_X12_isBeginning (by omega) (by omega) ?_
          refine st_if_eq (q := 290) (tgt := 312) dX12_sure_287 (by decide) rfl (fun c287 => ?_) (fun c287 => ?_)
          · first | exact hS _ f3 q3 g3 (suA hr cA e3) | exact hS _ f3 q3 g3 (fun _ => ⟨fun z1 z2 => absurd ⟨z1, z2⟩ (ifz c230), fun _ _ => e3⟩) | exact hS _ Fr.rf q Gw.rf (fun _ => ⟨fun z1 z2 => absurd ⟨z1, z2⟩ (ifz c230), fun z1 z2 => absurd ⟨z1, z2⟩ (ifz c287)⟩) | exact hS _ Fr.rf q Gw.rf (fun zz => by exfalso; omega) | (exfalso; omega)
          · refine st_aload_n (q := 291) dX12_sure_290 rfl rfl ?_
            refine st_iload_n (q := 292) dX12_sure_291 rfl rfl ?_
            refine st_aload_n (q := 293) dX12_sure_292 rfl rfl ?_
            refine st_getR (q := 296) 12 41 dX12_sure_293 fl_X12_105 (by decide) (by decide) rfl rfl (wfk w rfl) (wfR w rfl) ?_
            refine st_iload (q := 298) dX12_sure_296 rfl rfl ?_
            refine st_iaload (q := 299) dX12_sure_298 rfl (wfk w rfl) (wfb w (n := 8) rfl ⟨by omega, by omega⟩) ?_
            have cB : (g k).1 ≤ n ∧ row % 2 ^ (g k).1 = (g k).2 := (by by_cases zz : (g k).1 ≤ n ∧ row % 2 ^ (g k).1 = (g k).2; exact zz; (rw [if_neg zz] at c287; exact absurd rfl c287))
            refine j_top ((g k).1 : Int) xk ?_
            first | refine n_isub (q := 300) dX12_sure_299 rfl ⟨by omega, by omega⟩ ?_ | refine st_isub (q := 300) dX12_sure_299 rfl ?_
            refine j_top ((n - (g k).1 : Nat) : Int) (by omega) ?_
            refine st_iload_n (q := 301) dX12_sure_300 rfl rfl ?_
            refine st_aload_n (q := 302) dX12_sure_301 rfl rfl ?_
            refine st_getR (q := 305) 12 41 dX12_sure_302 fl_X12_105 (by decide) (by decide) rfl rfl (wfk w rfl) (wfR w rfl) ?_
            refine st_iload (q := 307) dX12_sure_305 rfl rfl ?_
            refine st_iaload (q := 308) dX12_sure_307 rfl (wfk w rfl) (wfb w (n := 8) rfl ⟨by omega, by omega⟩) ?_
            refine j_top ((g k).1 : Int) xk ?_
            refine st_ishr (q := 309) dX12_sure_308 rfl ?_
            refine j_top ((row / 2 ^ (g k).1 : Nat) : Int) (ishr_n (by omega) (by omega)) ?_
            refine iV2v (q := 312) dX12_sure_309 rfl ml_X12_289 mv_X12_leaves (Nat.le_of_ble_eq_true rfl) (wfk w rfl) ?_
            refine c_X12_leaves w q (by omega) (div_lt2 hr cB.1) ((RC_cl g).2.2 n row k s (by omega) (by omega) cB.1 cB.2) (fun h3 f3 q3 g3 e3 => ?_)
            first | exact hS _ f3 q3 g3 (suA hr cA e3) | exact hS _ f3 q3 g3 (fun _ => ⟨fun z1 z2 => absurd ⟨z1, z2⟩ (ifz c230), fun _ _ => e3⟩) | exact hS _ Fr.rf q Gw.rf (fun _ => ⟨fun z1 z2 => absurd ⟨z1, z2⟩ (ifz c230), fun z1 z2 => absurd ⟨z1, z2⟩ (ifz c287)⟩) | exact hS _ Fr.rf q Gw.rf (fun zz => by exfalso; omega) | (exfalso; omega)
      · refine st_iload_n (q := 212) dX12_sure_211 rfl rfl ?_
        refine st_iload_n (q := 213) dX12_sure_212 rfl rfl ?_
        refine st_aload_n (q := 214) dX12_sure_213 rfl rfl ?_
        refine st_getR (q := 217) 12 41 dX12_sure_214 fl_X12_105 (by decide) (by decide) rfl rfl (wfk w rfl) (wfR w rfl) ?_
        refine st_iload (q := 219) dX12_sure_217 rfl rfl ?_
        refine st_iaload (q := 220) dX12_sure_219 rfl (wfk w rfl) (wfb w (n := 8) rfl ⟨by omega, by omega⟩) ?_
        refine j_top ((g k).1 : Int) xk ?_
        refine st_aload_n (q := 221) dX12_sure_220 rfl rfl ?_
        refine st_getR (q := 224) 12 42 dX12_sure_221 fl_X12_108 (by decide) (by decide) rfl rfl (wfk w rfl) (wfR w rfl) ?_
        refine st_iload (q := 226) dX12_sure_224 rfl rfl ?_
        refine st_iaload (q := 227) dX12_sure_226 rfl (wfk w rfl) (wfb w (n := 8) rfl ⟨by omega, by omega⟩) ?_
        refine j_top ((g k).2 : Int) (xb (by omega)) ?_
        refine iS4i (q := 230) dX12_sure_227 rfl ml_X12_283 ms_X12_isBeginning (Nat.le_of_ble_eq_true rfl) ?_
        refine c_X12_isBeginning (by omega) (by omega) ?_
        refine st_if_eq (q := 233) (tgt := 258) dX12_sure_230 (by decide) rfl (fun c230 => ?_) (fun c230 => ?_)
        · refine st_aload_n (q := 259) dX12_sure_258 rfl rfl ?_
          refine st_getR (q := 262) 12 41 dX12_sure_259 fl_X12_105 (by decide) (by decide) rfl rfl (wfk w rfl) (wfR w rfl) ?_
          refine st_iload (q := 264) dX12_sure_262 rfl rfl ?_
          refine st_iaload (q := 265) dX12_sure_264 rfl (wfk w rfl) (wfb w (n := 8) rfl ⟨by omega, by omega⟩) ?_
          refine j_top ((g k).1 : Int) xk ?_
          refine st_if_le (q := 268) (tgt := 312) dX12_sure_265 (by decide) rfl (fun c265 => ?_) (fun c265 => ?_)
          · first | exact hS _ f3 q3 g3 (suA hr cA e3) | exact hS _ f3 q3 g3 (fun _ => ⟨fun z1 z2 => absurd ⟨z1, z2⟩ (ifz c230), fun _ _ => e3⟩) | exact hS _ Fr.rf q Gw.rf (fun _ => ⟨fun z1 z2 => absurd ⟨z1, z2⟩ (ifz c230), fun z1 z2 => absurd ⟨z1, z2⟩ (ifz c287)⟩) | exact hS _ Fr.rf q Gw.rf (fun zz => by exfalso; omega) | (exfalso; omega)
          · refine st_aload_n (q := 269) dX12_sure_268 rfl rfl ?_
            refine st_getR (q := 272) 12 41 dX12_sure_269 fl_X12_105 (by decide) (by decide) rfl rfl (wfk w rfl) (wfR w rfl) ?_
            refine st_iload (q := 274) dX12_sure_272 rfl rfl ?_
            refine st_iaload (q := 275) dX12_sure_274 rfl (wfk w rfl) (wfb w (n := 8) rfl ⟨by omega, by omega⟩) ?_
            refine j_top ((g k).1 : Int) xk ?_
            refine st_aload_n (q := 276) dX12_sure_275 rfl rfl ?_
            refine st_getR (q := 279) 12 42 dX12_sure_276 fl_X12_108 (by decide) (by decide) rfl rfl (wfk w rfl) (wfR w rfl) ?_
            refine st_iload (q := 281) dX12_sure_279 rfl rfl ?_
            refine st_iaload (q := 282) dX12_sure_281 rfl (wfk w rfl) (wfb w (n := 8) rfl ⟨by omega, by omega⟩) ?_
            refine j_top ((g k).2 : Int) (xb (by omega)) ?_
            refine st_iload_n (q := 283) dX12_sure_282 rfl rfl ?_
            refine st_iload_n (q := 284) dX12_sure_283 rfl rfl ?_
            refine iS4i (q := 287) dX12_sure_284 rfl ml_X12_283 ms_X12_isBeginning (Nat.le_of_ble_eq_true rfl) ?_
            refine c_X12_isBeginning (by omega) (by omega) ?_
            refine st_if_eq (q := 290) (tgt := 312) dX12_sure_287 (by decide) rfl (fun c287 => ?_) (fun c287 => ?_)
            · first | exact hS _ f3 q3 g3 (suA hr cA e3) | exact hS _ f3 q3 g3 (fun _ => ⟨fun z1 z2 => absurd ⟨z1, z2⟩ (ifz c230), fun _ _ => e3⟩) | exact hS _ Fr.rf q Gw.rf (fun _ => ⟨fun z1 z2 => absurd ⟨z1, z2⟩ (ifz c230), fun z1 z2 => absurd ⟨z1, z2⟩ (ifz c287)⟩) | exact hS _ Fr.rf q Gw.rf (fun zz => by exfalso; omega) | (exfalso; omega)
            · refine st_aload_n (q := 291) dX12_sure_290 rfl rfl ?_
              refine st_iload_n (q := 292) dX12_sure_291 rfl rfl ?_
              refine st_aload_n (q := 293) dX12_sure_292 rfl rfl ?_
              refine st_getR (q := 296) 12 41 dX12_sure_293 fl_X12_105 (by decide) (by decide) rfl rfl (wfk w rfl) (wfR w rfl) ?_
              refine st_iload (q := 298) dX12_sure_296 rfl rfl ?_
              refine st_iaload (q := 299) dX12_sure_298 rfl (wfk w rfl) (wfb w (n := 8) rfl ⟨by omega, by omega⟩) ?_
              have cB : (g k).1 ≤ n ∧ row % 2 ^ (g k).1 = (g k).2 := (by by_cases zz : (g k).1 ≤ n ∧ row % 2 ^ (g k).1 = (g k).2; exact zz; (rw [if_neg zz] at c287; exact absurd rfl c287))
              refine j_top ((g k).1 : Int) xk ?_
              first | refine n_isub (q := 300) dX12_sure_299 rfl ⟨by omega, by omega⟩ ?_ | refine st_isub (q := 300) dX12_sure_299 rfl ?_
              refine j_top ((n - (g k).1 : Nat) : Int) (by omega) ?_
              refine st_iload_n (q := 301) dX12_sure_300 rfl rfl ?_
              refine st_aload_n (q := 302) dX12_sure_301 rfl rfl ?_
              refine st_getR (q := 305) 12 41 dX12_sure_302 fl_X12_105 (by decide) (by decide) rfl rfl (wfk w rfl) (wfR w rfl) ?_
              refine st_iload (q := 307) dX12_sure_305 rfl rfl ?_
              refine st_iaload (q := 308) dX12_sure_307 rfl (wfk w rfl) (wfb w (n := 8) rfl ⟨by omega, by omega⟩) ?_
              refine j_top ((g k).1 : Int) xk ?_
              refine st_ishr (q := 309) dX12_sure_308 rfl ?_
              refine j_top ((row / 2 ^ (g k).1 : Nat) : Int) (ishr_n (by omega) (by omega)) ?_
              refine iV2v (q := 312) dX12_sure_309 rfl ml_X12_289 mv_X12_leaves (Nat.le_of_ble_eq_true rfl) (wfk w rfl) ?_
              refine c_X12_leaves w q (by omega) (div_lt2 hr cB.1) ((RC_cl g).2.2 n row k s (by omega) (by omega) cB.1 cB.2) (fun h3 f3 q3 g3 e3 => ?_)
              first | exact hS _ f3 q3 g3 (suA hr cA e3) | exact hS _ f3 q3 g3 (fun _ => ⟨fun z1 z2 => absurd ⟨z1, z2⟩ (ifz c230), fun _ _ => e3⟩) | exact hS _ Fr.rf q Gw.rf (fun _ => ⟨fun z1 z2 => absurd ⟨z1, z2⟩ (ifz c230), fun z1 z2 => absurd ⟨z1, z2⟩ (ifz c287)⟩) | exact hS _ Fr.rf q Gw.rf (fun zz => by exfalso; omega) | (exfalso; omega)
        · refine st_aload_n (q := 234) dX12_sure_233 rfl rfl ?_
          refine st_aload_n (q := 235) dX12_sure_234 rfl rfl ?_
          refine st_getR (q := 238) 12 41 dX12_sure_235 fl_X12_105 (by decide) (by decide) rfl rfl (wfk w rfl) (wfR w rfl) ?_
          refine st_iload (q := 240) dX12_sure_238 rfl rfl ?_
          refine st_iaload (q := 241) dX12_sure_240 rfl (wfk w rfl) (wfb w (n := 8) rfl ⟨by omega, by omega⟩) ?_
          have cA : n ≤ (g k).1 ∧ (g k).2 % 2 ^ n = row := (by by_cases zz : n ≤ (g k).1 ∧ (g k).2 % 2 ^ n = row; exact zz; (rw [if_neg zz] at c230; exact absurd rfl c230))
          refine j_top ((g k).1 : Int) xk ?_
          refine st_iload_n (q := 242) dX12_sure_241 rfl rfl ?_
          first | refine n_isub (q := 243) dX12_sure_242 rfl ⟨by omega, by omega⟩ ?_ | refine st_isub (q := 243) dX12_sure_242 rfl ?_
          refine j_top (((g k).1 - n : Nat) : Int) (by omega) ?_
          refine st_aload_n (q := 244) dX12_sure_243 rfl rfl ?_
          refine st_getR (q := 247) 12 42 dX12_sure_244 fl_X12_108 (by decide) (by decide) rfl rfl (wfk w rfl) (wfR w rfl) ?_
          refine st_iload (q := 249) dX12_sure_247 rfl rfl ?_
          refine st_iaload (q := 250) dX12_sure_249 rfl (wfk w rfl) (wfb w (n := 8) rfl ⟨by omega, by omega⟩) ?_
          refine j_top ((g k).2 : Int) (xb (by omega)) ?_
          refine st_iload_n (q := 251) dX12_sure_250 rfl rfl ?_
          refine st_ishr (q := 252) dX12_sure_251 rfl ?_
          refine j_top (((g k).2 / 2 ^ n : Nat) : Int) (ishr_n (by omega) (by omega)) ?_
          refine iV2v (q := 255) dX12_sure_252 rfl ml_X12_289 mv_X12_leaves (Nat.le_of_ble_eq_true rfl) (wfk w rfl) ?_
          refine c_X12_leaves w q (by omega) (div_lt2 ok.2 cA.1) ((RC_cl g).2.1 n row k s (by omega) (by omega) cA.1 cA.2) (fun h3 f3 q3 g3 e3 => ?_)
          refine st_goto (q := 312) dX12_sure_255 (by decide) ?_
          first | exact hS _ f3 q3 g3 (suA hr cA e3) | exact hS _ f3 q3 g3 (fun _ => ⟨fun z1 z2 => absurd ⟨z1, z2⟩ (ifz c230), fun _ _ => e3⟩) | exact hS _ Fr.rf q Gw.rf (fun _ => ⟨fun z1 z2 => absurd ⟨z1, z2⟩ (ifz c230), fun z1 z2 => absurd ⟨z1, z2⟩ (ifz c287)⟩) | exact hS _ Fr.rf q Gw.rf (fun zz => by exfalso; omega) | (exfalso; omega)

