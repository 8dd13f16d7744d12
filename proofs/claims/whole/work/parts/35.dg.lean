/-! the model: digest -/
def dgS (a v : Int) : Int := w64 (w64 (31 * a) + v)
def itA (F : Nat → Int → Int) (a : Int) : Nat → Int
  | 0 => a
  | n + 1 => F n (itA F a n)
def sq1 (g : Nat → Int) (a : Int) : Nat → Int
  | 0 => a
  | n + 1 => dgS (sq1 g a n) (g n)
theorem sJ_sJ (h : JH) (a k : Nat) (u v : Int) : sJ (sJ h a k u) a k v = sJ h a k v := by
  unfold sJ
  have : (fun b j => if b = a ∧ j = k then v else (fun b j => if b = a ∧ j = k then u else h.2.2.1 b j) b j) = (fun b j => if b = a ∧ j = k then v else h.2.2.1 b j) := by
    funext b j
    by_cases e : b = a ∧ j = k
    · rw [if_pos e, if_pos e]
    · rw [if_neg e, if_neg e]; show (if b = a ∧ j = k then u else h.2.2.1 b j) = _; rw [if_neg e]
  show (h.1, h.2.1, (fun b j => if b = a ∧ j = k then v else (fun b j => if b = a ∧ j = k then u else h.2.2.1 b j) b j), h.2.2.2) = _
  rw [this]
theorem sJ_s (h : JH) (a k : Nat) (v : Int) : hJ (sJ h a k v) a k = v := by rw [sJ_J, if_pos ⟨rfl, rfl⟩]
theorem c_X12_mix {d : Nat} {h : JH} {P : JH → Prop} {a v : Int} (w : WF h) (hP : P (sJ h 117 49 (dgS a v))) : JRv d jX12_mix [vr 117, vi v] (sJ h 117 49 a) P := by
  refine JRet.of rfl (Nat.le_of_ble_eq_true rfl) ?_
  refine st_aload_n (q := 1) dX12_mix_0 rfl rfl ?_
  refine st_ldc2_w (q := 4) (x := 31) dX12_mix_1 ⟨by decide, by decide⟩ co_X12_328 rfl ?_
  refine st_aload_n (q := 5) dX12_mix_4 rfl rfl ?_
  refine st_getJ (q := 8) 12 49 dX12_mix_5 fl_X12_330 (by decide) (by decide) rfl rfl (wfk w rfl) ?_
  first | refine n_lmul (q := 9) dX12_mix_8 rfl ⟨by omega, by omega⟩ ?_ | refine st_lmul (q := 9) dX12_mix_8 rfl ?_
  refine st_iload_n (q := 10) dX12_mix_9 rfl rfl ?_
  refine st_i2l (q := 11) dX12_mix_10 rfl ?_
  first | refine n_ladd (q := 12) dX12_mix_11 rfl ⟨by omega, by omega⟩ ?_ | refine st_ladd (q := 12) dX12_mix_11 rfl ?_
  refine st_putJ (q := 15) 12 49 dX12_mix_12 fl_X12_330 (by decide) (by decide) (Or.inl rfl) rfl rfl (wfk w rfl) ?_
  refine rt_v dX12_mix_15 rfl ?_
  refine pv hP ?_
  rw [sJ_sJ, sJ_s]
  rfl
/-- signs: how many knocks, and these as bits -/
abbrev SG : Type := Nat → Nat × Nat
def GM (h : JH) (g : SG) : Prop := ∀ i, i < 8 → hI h 146 i = ((g i).1 : Int) ∧ (0 < (g i).1 → hI h 147 i = ((g i).2 : Int))
def gOk (g : SG) : Prop := ∀ i, i < 8 → (g i).1 ≤ 8 ∧ (g i).2 < 2 ^ (g i).1
theorem gOk_lt {g : SG} (o : gOk g) {i : Nat} (hi : i < 8) : (g i).2 < 256 := Nat.lt_of_lt_of_le (o i hi).2 (Nat.pow_le_pow_right (by omega) (o i hi).1)
def dgH (u : HD) (k : Nat) (a : Int) : Int := if uO u k = 0 then dgS a (-1) else dgS (dgS (dgS a (uW u k)) (uH u k)) (uO u k)
def dgY (y : SY) (s : Nat) (a : Int) : Int := dgS (dgS (dgS (sq1 (fun x => ytell y s x) a 5) (yMf y s)) (yMt y s)) (yNd y s)
def dgG (g : SG) (k : Nat) (a : Int) : Int := sq1 (fun i => if (g k).2.testBit i then 1 else 0) (dgS a (if (g k).1 = 0 then -1 else (g k).1)) (g k).1
def dgN (u : HD) (L G : Int) (y : SY) (g : SG) (f : Nat → Int) (n : Nat) (a : Int) : Int := sq1 f (itA (dgG g) (itA (dgY y) (dgS (dgS (itA (dgH u) a 8) L) G) y.1) 8) n
theorem lp5_X12_mixNight {d : Nat} {h : JH} {P : JH → Prop} {q : MO} {a : Int} (w : WF h) (nm : NM h q) (qo : qOk q) (hP : P (sJ h 117 49 (sq1 (hI h 150) a (5 * q.1)))) (k : Nat) (hk : k ≤ 5 * q.1) : ∀ j, JAt k0 (d + 1) jX12_mixNight 209 [vr 117, vi k, j] [] (sJ h 117 49 (sq1 (hI h 150) a k)) (jqv P) := by
  intro j
  have n1 : hI h 117 47 = (q.1 : Int) := nm.1
  have q1 := qo.1
  refine st_iload_n (q := 210) dX12_mixNight_209 rfl rfl ?_
  refine st_iconst (q := 211) dX12_mixNight_210 ⟨by decide, by decide⟩ rfl ?_
  refine st_aload_n (q := 212) dX12_mixNight_211 rfl rfl ?_
  refine st_getI (q := 215) 12 47 dX12_mixNight_212 fl_X12_304 (by decide) (by decide) rfl rfl (wfk w rfl) ?_
  refine j_top (q.1 : Int) n1 ?_
  first | refine n_imul (q := 216) dX12_mixNight_215 rfl ⟨by omega, by omega⟩ ?_ | refine st_imul (q := 216) dX12_mixNight_215 rfl ?_
  refine st_icmp_ge (q := 219) (tgt := 235) dX12_mixNight_216 (by decide) rfl (fun c216 => ?_) (fun c216 => ?_)
  · refine rt_v dX12_mixNight_235 rfl ?_
    have e : k = 5 * q.1 := by omega
    subst e
    exact hP
  · refine st_aload_n (q := 220) dX12_mixNight_219 rfl rfl ?_
    refine st_aload_n (q := 221) dX12_mixNight_220 rfl rfl ?_
    refine st_getR (q := 224) 12 48 dX12_mixNight_221 fl_X12_118 (by decide) (by decide) rfl rfl (wfk w rfl) (wfR w rfl) ?_
    refine st_iload_n (q := 225) dX12_mixNight_224 rfl rfl ?_
    refine st_iaload (q := 226) dX12_mixNight_225 rfl (wfk w rfl) (wfb w (n := 200) rfl ⟨by omega, by omega⟩) ?_
    refine iV1v (q := 229) dX12_mixNight_226 rfl ml_X12_333 mv_X12_mix (Nat.le_of_ble_eq_true rfl) (wfk w rfl) ?_
    refine c_X12_mix w ?_
    first | refine n_iinc (q := 232) dX12_mixNight_229 rfl (by decide) rfl ⟨by omega, by omega⟩ ?_ | refine st_iinc (q := 232) dX12_mixNight_229 rfl (by decide) rfl ?_
    refine st_goto (q := 209) dX12_mixNight_232 (by decide) ?_
    exact lp5_X12_mixNight w nm qo hP (k + 1) (by omega) _
termination_by 5 * q.1 - k
theorem lp4_X12_mixNight {d : Nat} {h : JH} {P : JH → Prop} {g : SG} {a : Int} {k : Nat} (w : WF h) (m : GM h g) (o : gOk g) (hk : k < 8) (hK : ∀ j, JAt k0 (d + 1) jX12_mixNight 201 [vr 117, vi k, j] [] (sJ h 117 49 (sq1 (fun i => if (g k).2.testBit i then 1 else 0) a (g k).1)) (jqv P)) (i : Nat) (hi : i ≤ (g k).1) : JAt k0 (d + 1) jX12_mixNight 171 [vr 117, vi k, vi i] [] (sJ h 117 49 (sq1 (fun i => if (g k).2.testBit i then 1 else 0) a i)) (jqv P) := by
  have m1 := m k hk
  have o1 := (o k hk).1
  have o2 := gOk_lt o hk
  refine st_iload_n (q := 172) dX12_mixNight_171 rfl rfl ?_
  refine st_aload_n (q := 173) dX12_mixNight_172 rfl rfl ?_
  refine st_getR (q := 176) 12 41 dX12_mixNight_173 fl_X12_105 (by decide) (by decide) rfl rfl (wfk w rfl) (wfR w rfl) ?_
  refine st_iload_n (q := 177) dX12_mixNight_176 rfl rfl ?_
  refine st_iaload (q := 178) dX12_mixNight_177 rfl (wfk w rfl) (wfb w (n := 8) rfl ⟨by omega, by omega⟩) ?_
  refine j_top ((g k).1 : Int) m1.1 ?_
  refine st_icmp_ge (q := 181) (tgt := 201) dX12_mixNight_178 (by decide) rfl (fun c178 => ?_) (fun c178 => ?_)
  · have e : i = (g k).1 := by omega
    subst e
    exact hK _
  · refine st_aload_n (q := 182) dX12_mixNight_181 rfl rfl ?_
    refine st_aload_n (q := 183) dX12_mixNight_182 rfl rfl ?_
    refine st_getR (q := 186) 12 42 dX12_mixNight_183 fl_X12_108 (by decide) (by decide) rfl rfl (wfk w rfl) (wfR w rfl) ?_
    refine st_iload_n (q := 187) dX12_mixNight_186 rfl rfl ?_
    refine st_iaload (q := 188) dX12_mixNight_187 rfl (wfk w rfl) (wfb w (n := 8) rfl ⟨by omega, by omega⟩) ?_
    refine j_top ((g k).2 : Int) (m1.2 (by omega)) ?_
    refine st_iload_n (q := 189) dX12_mixNight_188 rfl rfl ?_
    refine st_ishr (q := 190) dX12_mixNight_189 rfl ?_
    refine st_iconst (q := 191) dX12_mixNight_190 ⟨by decide, by decide⟩ rfl ?_
    refine st_iand (q := 192) dX12_mixNight_191 rfl ?_
    rw [bit_n (by omega) (by omega)]
    refine iV1v (q := 195) dX12_mixNight_192 rfl ml_X12_333 mv_X12_mix (Nat.le_of_ble_eq_true rfl) (wfk w rfl) ?_
    refine c_X12_mix w ?_
    first | refine n_iinc (q := 198) dX12_mixNight_195 rfl (by decide) rfl ⟨by omega, by omega⟩ ?_ | refine st_iinc (q := 198) dX12_mixNight_195 rfl (by decide) rfl ?_
    refine st_goto (q := 171) dX12_mixNight_198 (by decide) ?_
    exact lp4_X12_mixNight w m o hk hK (i + 1) (by omega)
termination_by (g k).1 - i
theorem lp3_X12_mixNight {d : Nat} {h : JH} {P : JH → Prop} {g : SG} {a : Int} (w : WF h) (m : GM h g) (o : gOk g) (hK : ∀ j, JAt k0 (d + 1) jX12_mixNight 207 [vr 117, vi 8, j] [] (sJ h 117 49 (itA (dgG g) a 8)) (jqv P)) (k : Nat) (hk : k ≤ 8) : ∀ j, JAt k0 (d + 1) jX12_mixNight 140 [vr 117, vi k, j] [] (sJ h 117 49 (itA (dgG g) a k)) (jqv P) := by
  intro j
  have m1 : k < 8 → hI h 146 k = ((g k).1 : Int) := fun z => (m k z).1
  refine st_iload_n (q := 141) dX12_mixNight_140 rfl rfl ?_
  refine st_bipush (q := 143) dX12_mixNight_141 ⟨by decide, by decide⟩ rfl ?_
  refine st_icmp_ge (q := 146) (tgt := 207) dX12_mixNight_143 (by decide) rfl (fun c143 => ?_) (fun c143 => ?_)
  · have e : k = 8 := by omega
    subst e
    exact hK _
  · refine st_aload_n (q := 147) dX12_mixNight_146 rfl rfl ?_
    refine st_aload_n (q := 148) dX12_mixNight_147 rfl rfl ?_
    refine st_getR (q := 151) 12 41 dX12_mixNight_148 fl_X12_105 (by decide) (by decide) rfl rfl (wfk w rfl) (wfR w rfl) ?_
    refine st_iload_n (q := 152) dX12_mixNight_151 rfl rfl ?_
    refine st_iaload (q := 153) dX12_mixNight_152 rfl (wfk w rfl) (wfb w (n := 8) rfl ⟨by omega, by omega⟩) ?_
    apply j_mg 166
    · intro K1 K2
      refine st_if_ne (q := 156) (tgt := 160) dX12_mixNight_153 (by decide) rfl (fun c153 => ?_) (fun c153 => ?_)
      · refine st_aload_n (q := 161) dX12_mixNight_160 rfl rfl ?_
        refine st_getR (q := 164) 12 41 dX12_mixNight_161 fl_X12_105 (by decide) (by decide) rfl rfl (wfk w rfl) (wfR w rfl) ?_
        refine st_iload_n (q := 165) dX12_mixNight_164 rfl rfl ?_
        refine st_iaload (q := 166) dX12_mixNight_165 rfl (wfk w rfl) (wfb w (n := 8) rfl ⟨by omega, by omega⟩) ?_
        exact K2 c153
      · refine st_iconst (q := 157) dX12_mixNight_156 ⟨by decide, by decide⟩ rfl ?_
        refine st_goto (q := 166) dX12_mixNight_157 (by decide) ?_
        exact K1 c153
    · simp only [jif_if]
      refine j_top (if (g k).1 = 0 then -1 else ((g k).1 : Int)) (by rw [show hI (sJ h 117 49 (itA (dgG g) a k)) 146 ((k : Int)).toNat = ((g k).1 : Int) from m1 (by omega)]; (repeat' split) <;> omega) ?_
      refine iV1v (q := 169) dX12_mixNight_166 rfl ml_X12_333 mv_X12_mix (Nat.le_of_ble_eq_true rfl) (wfk w rfl) ?_
      refine c_X12_mix w ?_
      refine st_iconst (q := 170) dX12_mixNight_169 ⟨by decide, by decide⟩ rfl ?_
      refine st_istore_n (q := 171) (i := 2) dX12_mixNight_170 rfl (by decide) rfl ?_
      exact lp4_X12_mixNight w m o (by omega) (fun j => st_iinc (q := 204) dX12_mixNight_201 rfl (by decide) rfl (by rw [w32_id ⟨by omega, by omega⟩]; exact st_goto (q := 140) dX12_mixNight_204 (by decide) (lp3_X12_mixNight w m o hK (k + 1) (by omega) _))) 0 (by omega)
termination_by 8 - k

