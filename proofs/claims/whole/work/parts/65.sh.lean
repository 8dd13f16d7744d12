/-! both sides answer alike: shortest -/
/-- what shortest answers of a row of n -/
def shR (f : Nat → Int) (n : Nat) : Int := if n = 1 then f 0 else hufC n (fun v => cnI f v n)
theorem awF_at {f : Nat → Int} {lo hi : Int} : ∀ {n : Nat}, awF f lo hi n = true → ∀ k, k < n → lo ≤ f k ∧ f k ≤ hi
  | 0, _, k, hk => absurd hk (Nat.not_lt_zero k)
  | n + 1, h, k, hk => by
    have h : (awF f lo hi n && decide (lo ≤ f n ∧ f n ≤ hi)) = true := h
    rw [Bool.and_eq_true] at h
    by_cases e : k = n
    · subst e; exact of_decide_eq_true h.2
    · exact awF_at h.1 k (by omega)
theorem pw_1 (n : Nat) : 1 ≤ 2 ^ n := Nat.two_pow_pos n
theorem lp1_X6_leastKnocks {d : Nat} {h : JH} {P : Int → JH → Prop} {a n : Nat} {f0 : Nat → Int} (w : WF h) (s : SP h a) (ha : 97 ≤ a ∧ a ≤ 107) (hz : hI h a 1 = (n : Int)) (hn : 1 ≤ n ∧ n ≤ 8) (hb : ∀ j, j < n → 1 ≤ hI h (a + 1) j ∧ hI h (a + 1) j ≤ 99) (hP : ∀ f, P (shR (hI h (a + 1)) n) (wI h 51 f)) (i : Nat) (hi : i ≤ n) : ∀ j, JAt k0 (d + 2) jX6_leastKnocks 12 [vr 48, vr a, vi n, vi i, j] [] (wI h 51 (cpF f0 (hI h (a + 1)) 0 i)) (jqi P) := by
  intro j
  have z1 : hI (wI h 51 (cpF f0 (hI h (a + 1)) 0 i)) a 1 = (n : Int) := by rw [wI_ne _ _ (by omega)]; exact hz
  have z2 : hI (wI h 51 (cpF f0 (hI h (a + 1)) 0 i)) (a + 1) = hI h (a + 1) := wI_ne _ _ (by omega)
  have z3 : i = n → ∀ k, k < n → cpF f0 (hI h (a + 1)) 0 i k = hI h (a + 1) k := fun e k hk => by have := cpF_in (f := f0) (g := hI h (a + 1)) (lo := 0) (n := i) (j := k) (by omega); rw [Nat.zero_add] at this; exact this
  refine st_iload_n (q := 13) dX6_leastKnocks_12 rfl rfl ?_
  refine st_iload_n (q := 14) dX6_leastKnocks_13 rfl rfl ?_
  refine st_icmp_ge (q := 17) (tgt := 34) dX6_leastKnocks_14 (by decide) rfl (fun c14 => ?_) (fun c14 => ?_)
  · refine st_iload_n (q := 35) dX6_leastKnocks_34 rfl rfl ?_
    refine st_iconst (q := 36) dX6_leastKnocks_35 ⟨by decide, by decide⟩ rfl ?_
    refine st_icmp_ne (q := 39) (tgt := 46) dX6_leastKnocks_36 (by decide) rfl (fun c36 => ?_) (fun c36 => ?_)
    · refine st_iconst (q := 47) dX6_leastKnocks_46 ⟨by decide, by decide⟩ rfl ?_
      refine st_istore_n (q := 48) (i := 3) dX6_leastKnocks_47 rfl (by decide) rfl ?_
      refine st_iload_n (q := 49) dX6_leastKnocks_48 rfl rfl ?_
      refine st_istore (q := 51) dX6_leastKnocks_49 (by decide) rfl ?_
      have en : i = n := (by omega)
      have pz := pw_1 (8 - n)
      refine lp2_X6_leastKnocks w hP n _ 0 (by omega) (by omega) (fun k hk => by rw [z3 en k hk]; have q := hb k hk; omega) (by omega) ?_
      unfold shR
      rw [if_neg (show ¬ n = 1 by omega), Int.zero_add]
      congr 1
      funext v
      exact cnI_cg (z3 en)
    · refine st_aload_n (q := 40) dX6_leastKnocks_39 rfl rfl ?_
      refine st_getR (q := 43) 6 2 dX6_leastKnocks_40 fl_X6_18 (by decide) (by decide) rfl rfl (by first | exact wfk w rfl | exact s.1) (wfR w rfl) ?_
      refine st_iconst (q := 44) dX6_leastKnocks_43 ⟨by decide, by decide⟩ rfl ?_
      refine st_iaload (q := 45) dX6_leastKnocks_44 rfl (by first | exact wfk w rfl | exact s.1) (wfb w (n := 8) rfl ⟨by omega, by omega⟩) ?_
      refine rt_i dX6_leastKnocks_45 rfl ?_
      refine pq (hP _) ?_ rfl
      rw [wI_at]
      have e1 : n = 1 := (by omega)
      unfold shR
      rw [if_pos e1]
      exact (z3 (by omega) 0 (by omega)).symm
  · refine st_aload_n (q := 18) dX6_leastKnocks_17 rfl rfl ?_
    refine st_getR (q := 21) 6 2 dX6_leastKnocks_18 fl_X6_18 (by decide) (by decide) rfl rfl (by first | exact wfk w rfl | exact s.1) (wfR w rfl) ?_
    refine st_iload_n (q := 22) dX6_leastKnocks_21 rfl rfl ?_
    refine st_aload_n (q := 23) dX6_leastKnocks_22 rfl rfl ?_
    refine st_iload_n (q := 24) dX6_leastKnocks_23 rfl rfl ?_
    refine iV1i (q := 27) dX6_leastKnocks_24 rfl ml_X6_41 mv_X9_get (Nat.le_of_ble_eq_true rfl) (by first | exact wfk w rfl | exact s.1) ?_
    refine c_X9_get (h := wI h 51 (cpF f0 (hI h (a + 1)) 0 i)) s (by omega) ?_
    rw [z1, z2, if_pos (by omega), show ((i : Int)).toNat = i from rfl]
    refine st_iastore (q := 28) dX6_leastKnocks_27 rfl (by first | exact wfk w rfl | exact s.1) (wfb w (n := 8) rfl ⟨by omega, by omega⟩) ?_
    first | refine n_iinc (q := 31) dX6_leastKnocks_28 rfl (by decide) rfl ⟨by omega, by omega⟩ ?_ | refine st_iinc (q := 31) dX6_leastKnocks_28 rfl (by decide) rfl ?_
    refine st_goto (q := 12) dX6_leastKnocks_31 (by decide) ?_
    rw [sI_wI, show ((i : Int)).toNat = 0 + i by omega, cpF_s]
    exact lp1_X6_leastKnocks w s ha hz hn hb hP (i + 1) (by omega) _
termination_by n - i
theorem c_X6_leastKnocks {d : Nat} {h : JH} {P : Int → JH → Prop} {a n : Nat} (w : WF h) (s : SP h a) (ha : 97 ≤ a ∧ a ≤ 107) (hz : hI h a 1 = (n : Int)) (hn : 1 ≤ n ∧ n ≤ 8) (hb : ∀ j, j < n → 1 ≤ hI h (a + 1) j ∧ hI h (a + 1) j ≤ 99) (hP : ∀ f, P (shR (hI h (a + 1)) n) (wI h 51 f)) : JRi (d + 2) jX6_leastKnocks [vr 48, vr a] h P := by
  refine JRet.of rfl (Nat.le_of_ble_eq_true rfl) ?_
  refine st_aload_n (q := 1) dX6_leastKnocks_0 rfl rfl ?_
  refine st_getI (q := 4) 9 1 dX6_leastKnocks_1 fl_X6_36 (by decide) (by decide) rfl rfl (s.1) ?_
  refine j_top _ hz ?_
  refine st_bipush (q := 6) dX6_leastKnocks_4 ⟨by decide, by decide⟩ rfl ?_
  refine st_mmin (q := 9) dX6_leastKnocks_6 rfl ml_X6_59 (Nat.le_of_ble_eq_true rfl) ?_
  refine j_top (n : Int) (by split <;> omega) ?_
  refine st_istore_n (q := 10) (i := 2) dX6_leastKnocks_9 rfl (by decide) rfl ?_
  refine st_iconst (q := 11) dX6_leastKnocks_10 ⟨by decide, by decide⟩ rfl ?_
  refine st_istore_n (q := 12) (i := 3) dX6_leastKnocks_11 rfl (by decide) rfl ?_
  have t := lp1_X6_leastKnocks (d := d) (f0 := hI h 51) w s ha hz hn hb hP 0 (by omega) vn
  rw [cpF_0, wI_self] at t
  exact t
theorem c_X11_shortest {d : Nat} {h : JH} {P : Int → JH → Prop} {r : Int} (w : WF h) (h1 : ¬ (0 ≤ r ∧ r ≤ 5) → P (-1) h) (h3 : 0 ≤ r ∧ r ≤ 5 → hI h (97 + 2 * r.toNat) 1 < 0 → P (-3) (fnH h 1)) (h4 : 0 ≤ r ∧ r ≤ 5 → 0 ≤ hI h (97 + 2 * r.toNat) 1 → ¬ (1 ≤ hI h (97 + 2 * r.toNat) 1 ∧ hI h (97 + 2 * r.toNat) 1 ≤ 8) → P (-3) (fnH h 5)) (h5 : ∀ n : Nat, 0 ≤ r ∧ r ≤ 5 → 1 ≤ n ∧ n ≤ 8 → hI h (97 + 2 * r.toNat) 1 = n → awF (hI h (97 + 2 * r.toNat + 1)) 1 99 n = false → P (-3) (fnH h 3)) (h6 : ∀ n : Nat, 0 ≤ r ∧ r ≤ 5 → 1 ≤ n ∧ n ≤ 8 → hI h (97 + 2 * r.toNat) 1 = n → awF (hI h (97 + 2 * r.toNat + 1)) 1 99 n = true → ∀ f, P (shR (hI h (97 + 2 * r.toNat + 1)) n) (wI h 51 f)) : JRi (d + 3) jX11_shortest [vr 0, vi r] h P := by
  refine JRet.of rfl (Nat.le_of_ble_eq_true rfl) ?_
  refine st_aload_n (q := 1) dX11_shortest_0 rfl rfl ?_
  refine st_aload_n (q := 2) dX11_shortest_1 rfl rfl ?_
  refine st_getR (q := 5) 11 0 dX11_shortest_2 fl_X11_11 (by decide) (by decide) rfl rfl (wfk w rfl) (wfR w rfl) ?_
  refine st_iload_n (q := 6) dX11_shortest_5 rfl rfl ?_
  refine iV2i (q := 9) dX11_shortest_6 rfl ml_X11_109 mv_X11_refusesStrip (Nat.le_of_ble_eq_true rfl) (wfk w rfl) ?_
  refine c_X11_refusesStrip w (sa_rows w) (fun a1 => ?_) (fun a1 a2 => ?_) (fun a1 a2 => ?_)
  · refine st_istore_n (q := 10) (i := 2) dX11_shortest_9 rfl (by decide) rfl ?_
    refine st_iload_n (q := 11) dX11_shortest_10 rfl rfl ?_
    refine st_if_eq (q := 14) (tgt := 16) dX11_shortest_11 (by decide) rfl (fun z => absurd z (by decide)) (fun _ => ?_)
    refine st_iload_n (q := 15) dX11_shortest_14 rfl rfl ?_
    refine rt_i dX11_shortest_15 rfl ?_
    first | exact h1 (by omega) | exact h3 (by omega) (by omega)
  · refine st_istore_n (q := 10) (i := 2) dX11_shortest_9 rfl (by decide) rfl ?_
    refine st_iload_n (q := 11) dX11_shortest_10 rfl rfl ?_
    refine st_if_eq (q := 14) (tgt := 16) dX11_shortest_11 (by decide) rfl (fun z => absurd z (by decide)) (fun _ => ?_)
    refine st_iload_n (q := 15) dX11_shortest_14 rfl rfl ?_
    refine rt_i dX11_shortest_15 rfl ?_
    first | exact h1 (by omega) | exact h3 (by omega) (by omega)
  · refine st_istore_n (q := 10) (i := 2) dX11_shortest_9 rfl (by decide) rfl ?_
    refine st_iload_n (q := 11) dX11_shortest_10 rfl rfl ?_
    refine st_if_eq (q := 14) (tgt := 16) dX11_shortest_11 (by decide) rfl (fun _ => ?_) (fun z => absurd z (by decide))
    refine st_aload_n (q := 17) dX11_shortest_16 rfl rfl ?_
    refine st_getR (q := 20) 11 0 dX11_shortest_17 fl_X11_11 (by decide) (by decide) rfl rfl (wfk w rfl) (wfR w rfl) ?_
    refine st_iload_n (q := 21) dX11_shortest_20 rfl rfl ?_
    refine st_aaload (q := 22) (t := 2) dX11_shortest_21 rfl ⟨by decide, by decide⟩ (wfk w rfl) (wfb w (n := 6) rfl ⟨by omega, by omega⟩) (xrow w (by omega)) ?_
    refine st_getI (q := 25) 9 1 dX11_shortest_22 fl_X11_135 (by decide) (by decide) rfl rfl ((sp_row w (by omega)).1) ?_
    refine st_iconst (q := 26) dX11_shortest_25 ⟨by decide, by decide⟩ rfl ?_
    refine st_bipush (q := 28) dX11_shortest_26 ⟨by decide, by decide⟩ rfl ?_
    refine iS3i (q := 31) dX11_shortest_28 rfl ml_X11_142 ms_X11_isWithin (Nat.le_of_ble_eq_true rfl) ?_
    refine c_X11_isWithin ?_
    refine st_if_ne (q := 34) (tgt := 40) dX11_shortest_31 (by decide) rfl (fun c31 => ?_) (fun c31 => ?_)
    · refine st_aload_n (q := 41) dX11_shortest_40 rfl rfl ?_
      refine st_getR (q := 44) 11 0 dX11_shortest_41 fl_X11_11 (by decide) (by decide) rfl rfl (wfk w rfl) (wfR w rfl) ?_
      refine st_iload_n (q := 45) dX11_shortest_44 rfl rfl ?_
      refine st_aaload (q := 46) (t := 2) dX11_shortest_45 rfl ⟨by decide, by decide⟩ (wfk w rfl) (wfb w (n := 6) rfl ⟨by omega, by omega⟩) (xrow w (by omega)) ?_
      refine st_iconst (q := 47) dX11_shortest_46 ⟨by decide, by decide⟩ rfl ?_
      refine st_bipush (q := 49) dX11_shortest_47 ⟨by decide, by decide⟩ rfl ?_
      refine iV2i (q := 52) dX11_shortest_49 rfl ml_X11_292 mv_X9_isAllWithin (Nat.le_of_ble_eq_true rfl) ((sp_row w (by omega)).1) ?_
      have nzk : hI h (97 + 2 * r.toNat) 1 = (((hI h (97 + 2 * r.toNat) 1).toNat : Nat) : Int) := by omega
      refine c_X9_isAllWithin (sp_row w (by omega)) nzk (by omega) ?_
      refine st_if_ne (q := 55) (tgt := 61) dX11_shortest_52 (by decide) rfl (fun c52 => ?_) (fun c52 => ?_)
      · refine st_aload_n (q := 62) dX11_shortest_61 rfl rfl ?_
        refine st_getR (q := 65) 11 7 dX11_shortest_62 fl_X11_56 (by decide) (by decide) rfl rfl (wfk w rfl) (wfR w rfl) ?_
        refine st_aload_n (q := 66) dX11_shortest_65 rfl rfl ?_
        refine st_getR (q := 69) 11 0 dX11_shortest_66 fl_X11_11 (by decide) (by decide) rfl rfl (wfk w rfl) (wfR w rfl) ?_
        refine st_iload_n (q := 70) dX11_shortest_69 rfl rfl ?_
        refine st_aaload (q := 71) (t := 2) dX11_shortest_70 rfl ⟨by decide, by decide⟩ (wfk w rfl) (wfb w (n := 6) rfl ⟨by omega, by omega⟩) (xrow w (by omega)) ?_
        refine iV1i (q := 74) dX11_shortest_71 rfl ml_X11_305 mv_X6_leastKnocks (Nat.le_of_ble_eq_true rfl) (wfk w rfl) ?_
        refine c_X6_leastKnocks w (sp_row w (show r.toNat < 6 by omega)) (by omega) nzk (by omega) (awF_at (tb1.mp c52)) (fun fz => ?_)
        refine rt_i dX11_shortest_74 rfl ?_
        exact h6 _ (by omega) (by omega) nzk (tb1.mp c52) fz
      · refine st_aload_n (q := 56) dX11_shortest_55 rfl rfl ?_
        refine st_iconst (q := 57) dX11_shortest_56 ⟨by decide, by decide⟩ rfl ?_
        refine iV1i (q := 60) dX11_shortest_57 rfl ml_X11_116 mv_X11_find (Nat.le_of_ble_eq_true rfl) (wfk w rfl) ?_
        refine c_X11_find w (by decide) ?_
        refine rt_i dX11_shortest_60 rfl ?_
        exact h5 _ (by omega) (by omega) nzk (tb0.mp c52)
    · refine st_aload_n (q := 35) dX11_shortest_34 rfl rfl ?_
      refine st_iconst (q := 36) dX11_shortest_35 ⟨by decide, by decide⟩ rfl ?_
      refine iV1i (q := 39) dX11_shortest_36 rfl ml_X11_116 mv_X11_find (Nat.le_of_ble_eq_true rfl) (wfk w rfl) ?_
      refine c_X11_find w (by decide) ?_
      refine rt_i dX11_shortest_39 rfl ?_
      exact h4 (by omega) (by omega) (by omega)

theorem Pas.of {n l : Nat} {f : Nat → Int} (hn : 1 ≤ n) (hl : l < n) (hm : ∀ j, j < n → f l ≤ f j) : Pas n f (swF f l (n - 1)) := by
  refine ⟨fun v => ?_, fun j hj => ?_, fun j hj => ?_, fun B hB j hj => ?_⟩
  · have t := cnI_sw (f := f) (v := v) (i := l) (m := n - 1) (by omega)
    rw [show n - 1 + 1 = n by omega] at t
    exact t
  · unfold swF
    rw [if_pos rfl]
    have q := hm (n - 1) (by omega)
    have q2 := hm j hj
    have q3 := hm l hl
    (repeat' split) <;> assumption
  · unfold swF; rw [if_neg (by omega), if_neg (by omega)]
  · unfold swF
    have q1 := hB l hl
    have q2 := hB (n - 1) (by omega)
    have q3 := hB j hj
    (repeat' split) <;> assumption
theorem lp4_X12_shortest {d : Nat} {h : JH} {P : Int → JH → Prop} {f : Nat → Int} {L : Nat} {pass left : Int} {j1 j2 j3 j4 j5 : JV} (w : WF h) (hL : 1 ≤ L ∧ L ≤ 8) (hp : 0 ≤ pass ∧ pass ≤ 8) (hl : left - pass = L) (hK : ∀ l : Nat, l < L → (∀ j, j < L → f l ≤ f j) → ∀ j9, JAt k0 (d + 1) jX12_shortest 187 [vr 117, j1, j2, j3, j4, j5, vi left, vi pass, vi l, j9] [] (wI h 121 f) (jqi P)) (k : Nat) (hk : k ≤ L) : ∀ l : Nat, l < L → (∀ j, j < k → f l ≤ f j) → JAt k0 (d + 1) jX12_shortest 145 [vr 117, j1, j2, j3, j4, j5, vi left, vi pass, vi l, vi k] [] (wI h 121 f) (jqi P) := by
  intro l hll hm
  have eg : hI (wI h 121 f) 121 = f := wI_at _ _ _
  refine st_iload (q := 147) dX12_shortest_145 rfl rfl ?_
  refine st_iload (q := 149) dX12_shortest_147 rfl rfl ?_
  refine st_iload (q := 151) dX12_shortest_149 rfl rfl ?_
  first | refine n_isub (q := 152) dX12_shortest_151 rfl ⟨by omega, by omega⟩ ?_ | refine st_isub (q := 152) dX12_shortest_151 rfl ?_
  refine st_icmp_ge (q := 155) (tgt := 187) dX12_shortest_152 (by decide) rfl (fun c152 => ?_) (fun c152 => ?_)
  · exact hK l hll (fun j hj => hm j (by omega)) _
  · refine st_aload_n (q := 156) dX12_shortest_155 rfl rfl ?_
    refine st_getR (q := 159) 12 7 dX12_shortest_156 fl_X12_23 (by decide) (by decide) rfl rfl (wfk w rfl) (wfR w rfl) ?_
    refine st_iload (q := 161) dX12_shortest_159 rfl rfl ?_
    refine st_iaload (q := 162) dX12_shortest_161 rfl (wfk w rfl) (wfb w (n := 40) rfl ⟨by omega, by omega⟩) ?_
    refine j_top (f k) (by rw [eg]; rfl) ?_
    refine st_aload_n (q := 163) dX12_shortest_162 rfl rfl ?_
    refine st_getR (q := 166) 12 7 dX12_shortest_163 fl_X12_23 (by decide) (by decide) rfl rfl (wfk w rfl) (wfR w rfl) ?_
    refine st_iload (q := 168) dX12_shortest_166 rfl rfl ?_
    refine st_iaload (q := 169) dX12_shortest_168 rfl (wfk w rfl) (wfb w (n := 40) rfl ⟨by omega, by omega⟩) ?_
    refine j_top (f l) (by rw [eg]; rfl) ?_
    refine st_icmp_ge (q := 172) (tgt := 177) dX12_shortest_169 (by decide) rfl (fun c169 => ?_) (fun c169 => ?_)
    · refine st_iload (q := 179) dX12_shortest_177 rfl rfl ?_
      refine st_istore (q := 181) dX12_shortest_179 (by decide) rfl ?_
      first | refine n_iinc (q := 184) dX12_shortest_181 rfl (by decide) rfl ⟨by omega, by omega⟩ ?_ | refine st_iinc (q := 184) dX12_shortest_181 rfl (by decide) rfl ?_
      refine st_goto (q := 145) dX12_shortest_184 (by decide) ?_
      first | exact lp4_X12_shortest w hL hp hl hK (k + 1) (by omega) k (by omega) (fun j hj => by by_cases z : j = k; (rw [z]; exact Int.le_refl _); (have q := hm j (by omega); omega)) | exact lp4_X12_shortest w hL hp hl hK (k + 1) (by omega) l hll (fun j hj => by by_cases z : j = k; (rw [z]; omega); exact hm j (by omega))
    · refine st_iload (q := 174) dX12_shortest_172 rfl rfl ?_
      refine st_goto (q := 179) dX12_shortest_174 (by decide) ?_
      refine st_istore (q := 181) dX12_shortest_179 (by decide) rfl ?_
      first | refine n_iinc (q := 184) dX12_shortest_181 rfl (by decide) rfl ⟨by omega, by omega⟩ ?_ | refine st_iinc (q := 184) dX12_shortest_181 rfl (by decide) rfl ?_
      refine st_goto (q := 145) dX12_shortest_184 (by decide) ?_
      first | exact lp4_X12_shortest w hL hp hl hK (k + 1) (by omega) k (by omega) (fun j hj => by by_cases z : j = k; (rw [z]; exact Int.le_refl _); (have q := hm j (by omega); omega)) | exact lp4_X12_shortest w hL hp hl hK (k + 1) (by omega) l hll (fun j hj => by by_cases z : j = k; (rw [z]; omega); exact hm j (by omega))
termination_by L - k
theorem lp3_X12_shortest {d : Nat} {h : JH} {P : Int → JH → Prop} {f : Nat → Int} {n p : Nat} {j1 j2 j3 j4 j5 : JV} (w : WF h) (hn : 2 ≤ n ∧ n ≤ 8) (hp : p < 2) (hK : ∀ f', Pas (n - p) f f' → ∀ j8 j9, JAt k0 (d + 1) jX12_shortest 133 [vr 117, j1, j2, j3, j4, j5, vi n, vi (p + 1 : Nat), j8, j9] [] (wI h 121 f') (jqi P)) : ∀ j8 j9, JAt k0 (d + 1) jX12_shortest 133 [vr 117, j1, j2, j3, j4, j5, vi n, vi p, j8, j9] [] (wI h 121 f) (jqi P) := by
  intro j8 j9
  have eg : hI (wI h 121 f) 121 = f := wI_at _ _ _
  have e2 : ((n : Int) - 1 - p).toNat = n - p - 1 := by omega
  have hA : ∀ l : Nat, l < n - p → (∀ j, j < n - p → f l ≤ f j) → ∀ j9, JAt k0 (d + 1) jX12_shortest 187 [vr 117, j1, j2, j3, j4, j5, vi n, vi p, vi l, j9] [] (wI h 121 f) (jqi P) := by
    intro l hl hm j9
    refine st_aload_n (q := 188) dX12_shortest_187 rfl rfl ?_
    refine st_getR (q := 191) 12 7 dX12_shortest_188 fl_X12_23 (by decide) (by decide) rfl rfl (wfk w rfl) (wfR w rfl) ?_
    refine st_iload (q := 193) dX12_shortest_191 rfl rfl ?_
    refine st_iaload (q := 194) dX12_shortest_193 rfl (wfk w rfl) (wfb w (n := 40) rfl ⟨by omega, by omega⟩) ?_
    refine j_top (f l) (by rw [eg]; rfl) ?_
    refine st_istore (q := 196) dX12_shortest_194 (by decide) rfl ?_
    refine st_aload_n (q := 197) dX12_shortest_196 rfl rfl ?_
    refine st_getR (q := 200) 12 7 dX12_shortest_197 fl_X12_23 (by decide) (by decide) rfl rfl (wfk w rfl) (wfR w rfl) ?_
    refine st_iload (q := 202) dX12_shortest_200 rfl rfl ?_
    refine st_aload_n (q := 203) dX12_shortest_202 rfl rfl ?_
    refine st_getR (q := 206) 12 7 dX12_shortest_203 fl_X12_23 (by decide) (by decide) rfl rfl (wfk w rfl) (wfR w rfl) ?_
    refine st_iload (q := 208) dX12_shortest_206 rfl rfl ?_
    refine st_iconst (q := 209) dX12_shortest_208 ⟨by decide, by decide⟩ rfl ?_
    first | refine n_isub (q := 210) dX12_shortest_209 rfl ⟨by omega, by omega⟩ ?_ | refine st_isub (q := 210) dX12_shortest_209 rfl ?_
    refine st_iload (q := 212) dX12_shortest_210 rfl rfl ?_
    first | refine n_isub (q := 213) dX12_shortest_212 rfl ⟨by omega, by omega⟩ ?_ | refine st_isub (q := 213) dX12_shortest_212 rfl ?_
    refine st_iaload (q := 214) dX12_shortest_213 rfl (wfk w rfl) (wfb w (n := 40) rfl ⟨by omega, by omega⟩) ?_
    refine j_top (f (n - p - 1)) (by rw [eg, e2]) ?_
    refine st_iastore (q := 215) dX12_shortest_214 rfl (wfk w rfl) (wfb w (n := 40) rfl ⟨by omega, by omega⟩) ?_
    refine st_aload_n (q := 216) dX12_shortest_215 rfl rfl ?_
    refine st_getR (q := 219) 12 7 dX12_shortest_216 fl_X12_23 (by decide) (by decide) rfl rfl (wfk w rfl) (wfR w rfl) ?_
    refine st_iload (q := 221) dX12_shortest_219 rfl rfl ?_
    refine st_iconst (q := 222) dX12_shortest_221 ⟨by decide, by decide⟩ rfl ?_
    first | refine n_isub (q := 223) dX12_shortest_222 rfl ⟨by omega, by omega⟩ ?_ | refine st_isub (q := 223) dX12_shortest_222 rfl ?_
    refine st_iload (q := 225) dX12_shortest_223 rfl rfl ?_
    first | refine n_isub (q := 226) dX12_shortest_225 rfl ⟨by omega, by omega⟩ ?_ | refine st_isub (q := 226) dX12_shortest_225 rfl ?_
    refine st_iload (q := 228) dX12_shortest_226 rfl rfl ?_
    refine st_iastore (q := 229) dX12_shortest_228 rfl (wfk w rfl) (wfb w (n := 40) rfl ⟨by omega, by omega⟩) ?_
    first | refine n_iinc (q := 232) dX12_shortest_229 rfl (by decide) rfl ⟨by omega, by omega⟩ ?_ | refine st_iinc (q := 232) dX12_shortest_229 rfl (by decide) rfl ?_
    refine st_goto (q := 133) dX12_shortest_232 (by decide) ?_
    rw [sI_wI, sI_wI, e2, show ((l : Int)).toNat = l from rfl]
    exact hK _ (Pas.of (by omega) hl hm) _ _
  refine st_iload (q := 135) dX12_shortest_133 rfl rfl ?_
  refine st_iconst (q := 136) dX12_shortest_135 ⟨by decide, by decide⟩ rfl ?_
  refine st_icmp_ge (q := 139) (tgt := 235) dX12_shortest_136 (by decide) rfl (fun c136 => ?_) (fun c136 => ?_)
  · exfalso; omega
  · refine st_iconst (q := 140) dX12_shortest_139 ⟨by decide, by decide⟩ rfl ?_
    refine st_istore (q := 142) dX12_shortest_140 (by decide) rfl ?_
    refine st_iconst (q := 143) dX12_shortest_142 ⟨by decide, by decide⟩ rfl ?_
    refine st_istore (q := 145) dX12_shortest_143 (by decide) rfl ?_
    exact lp4_X12_shortest (L := n - p) w (by omega) (by omega) (by omega) hA 0 (by omega) 0 (by omega) (fun j hj => absurd hj (Nat.not_lt_zero j))
theorem lp2_X12_shortest {d : Nat} {h : JH} {P : Int → JH → Prop} {R : Int} {j1 j2 j3 j4 : JV} (w : WF h) (hP : ∀ f, P R (wI h 121 f)) (n : Nat) : ∀ (f : Nat → Int) (S : Int) (j7 j8 j9 : JV), n ≤ 8 → 1 ≤ n → (∀ j, j < n → 1 ≤ f j ∧ f j ≤ ((99 * 2 ^ (8 - n) : Nat) : Int)) → (0 ≤ S ∧ S ≤ 30000 * (8 - n)) → S + hufC n (fun v => cnI f v n) = R → JAt k0 (d + 1) jX12_shortest 124 [vr 117, j1, j2, j3, j4, vi S, vi n, j7, j8, j9] [] (wI h 121 f) (jqi P) := by
  intro f S j7 j8 j9 hn hn1 hb hS hR
  have pw : 2 ^ (8 - n) ≤ 2 ^ 7 := Nat.pow_le_pow_right (by decide) (by omega)
  have hB : 2 ≤ n → ∀ f1z f2z, Pas n f f1z → Pas (n - 1) f1z f2z → ∀ j8 j9, JAt k0 (d + 1) jX12_shortest 133 [vr 117, j1, j2, j3, j4, vi S, vi n, vi 2, j8, j9] [] (wI h 121 f2z) (jqi P) := by
    intro hn2 f1z f2z p1z p2z j8 j9
    have b1z := p1z.2.2.2 _ hb
    have b2z := p2z.2.2.2 _ (fun j hj => b1z j (by omega))
    have c1z := b2z (n - 2) (by omega)
    have c2z : 1 ≤ f2z (n - 1) ∧ f2z (n - 1) ≤ ((99 * 2 ^ (8 - n) : Nat) : Int) := by rw [p2z.2.2.1 (n - 1) (Nat.le_refl _)]; exact b1z (n - 1) (by omega)
    have egz : hI (wI h 121 f2z) 121 = f2z := wI_at _ _ _
    refine st_iload (q := 135) dX12_shortest_133 rfl rfl ?_
    refine st_iconst (q := 136) dX12_shortest_135 ⟨by decide, by decide⟩ rfl ?_
    refine st_icmp_ge (q := 139) (tgt := 235) dX12_shortest_136 (by decide) rfl (fun c136 => ?_) (fun c136 => ?_)
    · refine st_aload_n (q := 236) dX12_shortest_235 rfl rfl ?_
      refine st_getR (q := 239) 12 7 dX12_shortest_236 fl_X12_23 (by decide) (by decide) rfl rfl (wfk w rfl) (wfR w rfl) ?_
      refine st_iload (q := 241) dX12_shortest_239 rfl rfl ?_
      refine st_iconst (q := 242) dX12_shortest_241 ⟨by decide, by decide⟩ rfl ?_
      first | refine n_isub (q := 243) dX12_shortest_242 rfl ⟨by omega, by omega⟩ ?_ | refine st_isub (q := 243) dX12_shortest_242 rfl ?_
      refine st_dup2 (q := 244) dX12_shortest_243 rfl rfl rfl ?_
      refine st_iaload (q := 245) dX12_shortest_244 rfl (wfk w rfl) (wfb w (n := 40) rfl ⟨by omega, by omega⟩) ?_
      refine j_top (f2z (n - 2)) (by rw [egz, show ((n : Int) - 2).toNat = n - 2 by omega]) ?_
      refine st_aload_n (q := 246) dX12_shortest_245 rfl rfl ?_
      refine st_getR (q := 249) 12 7 dX12_shortest_246 fl_X12_23 (by decide) (by decide) rfl rfl (wfk w rfl) (wfR w rfl) ?_
      refine st_iload (q := 251) dX12_shortest_249 rfl rfl ?_
      refine st_iconst (q := 252) dX12_shortest_251 ⟨by decide, by decide⟩ rfl ?_
      first | refine n_isub (q := 253) dX12_shortest_252 rfl ⟨by omega, by omega⟩ ?_ | refine st_isub (q := 253) dX12_shortest_252 rfl ?_
      refine st_iaload (q := 254) dX12_shortest_253 rfl (wfk w rfl) (wfb w (n := 40) rfl ⟨by omega, by omega⟩) ?_
      refine j_top (f2z (n - 1)) (by rw [egz, show ((n : Int) - 1).toNat = n - 1 by omega]) ?_
      first | refine n_iadd (q := 255) dX12_shortest_254 rfl ⟨by omega, by omega⟩ ?_ | refine st_iadd (q := 255) dX12_shortest_254 rfl ?_
      refine st_iastore (q := 256) dX12_shortest_255 rfl (wfk w rfl) (wfb w (n := 40) rfl ⟨by omega, by omega⟩) ?_
      rw [sI_wI, show ((n : Int) - 2).toNat = n - 2 by omega]
      refine st_iload (q := 258) dX12_shortest_256 rfl rfl ?_
      refine st_aload_n (q := 259) dX12_shortest_258 rfl rfl ?_
      refine st_getR (q := 262) 12 7 dX12_shortest_259 fl_X12_23 (by decide) (by decide) rfl rfl (wfk w rfl) (wfR w rfl) ?_
      refine st_iload (q := 264) dX12_shortest_262 rfl rfl ?_
      refine st_iconst (q := 265) dX12_shortest_264 ⟨by decide, by decide⟩ rfl ?_
      first | refine n_isub (q := 266) dX12_shortest_265 rfl ⟨by omega, by omega⟩ ?_ | refine st_isub (q := 266) dX12_shortest_265 rfl ?_
      refine st_iaload (q := 267) dX12_shortest_266 rfl (wfk w rfl) (wfb w (n := 40) rfl ⟨by omega, by omega⟩) ?_
      refine j_top (f2z (n - 2) + f2z (n - 1)) (by rw [wI_at, show ((n : Int) - 2).toNat = n - 2 by omega, if_pos rfl]) ?_
      first | refine n_iadd (q := 268) dX12_shortest_267 rfl ⟨by omega, by omega⟩ ?_ | refine st_iadd (q := 268) dX12_shortest_267 rfl ?_
      refine st_istore (q := 270) dX12_shortest_268 (by decide) rfl ?_
      first | refine n_iinc (q := 273) dX12_shortest_270 rfl (by decide) rfl ⟨by omega, by omega⟩ ?_ | refine st_iinc (q := 273) dX12_shortest_270 rfl (by decide) rfl ?_
      refine st_goto (q := 124) dX12_shortest_273 (by decide) ?_
      have hz := huf_s (n := n - 2) (f := f) (f1 := f1z) (f2 := f2z) (by rw [show n - 2 + 2 = n by omega]; exact p1z) (by rw [show n - 2 + 1 = n - 1 by omega]; exact p2z) (fun j hj => by have q := hb j (by omega); omega)
      rw [show n - 2 + 2 = n by omega, show n - 2 + 1 = n - 1 by omega] at hz
      have p8z : 2 ^ (8 - (n - 1)) = 2 * 2 ^ (8 - n) := (by rw [show 8 - (n - 1) = (8 - n) + 1 by omega, Nat.pow_succ]; omega)
      rw [show (n : Int) + -1 = ((n - 1 : Nat) : Int) by omega]
      exact lp2_X12_shortest w hP (n - 1) _ _ _ _ _ (by omega) (by omega) (fun j hj => by by_cases z : j = n - 2; (rw [if_pos z]; omega); (rw [if_neg z]; have q := b2z j hj; omega)) (by omega) (by rw [← hR, hz]; omega)
    · exfalso; omega
  refine st_iload (q := 126) dX12_shortest_124 rfl rfl ?_
  refine st_iconst (q := 127) dX12_shortest_126 ⟨by decide, by decide⟩ rfl ?_
  refine st_icmp_le (q := 130) (tgt := 276) dX12_shortest_127 (by decide) rfl (fun c127 => ?_) (fun c127 => ?_)
  · refine st_iload (q := 278) dX12_shortest_276 rfl rfl ?_
    refine rt_i dX12_shortest_278 rfl ?_
    have e1 : n = 1 := (by omega)
    subst e1
    refine pq (hP f) ?_ rfl
    rw [← hR]
    show S + 0 = S
    omega
  · refine st_iconst (q := 131) dX12_shortest_130 ⟨by decide, by decide⟩ rfl ?_
    refine st_istore (q := 133) dX12_shortest_131 (by decide) rfl ?_
    exact lp3_X12_shortest (p := 0) w (by omega) (by omega) (fun f1z p1z j8 j9 => lp3_X12_shortest (p := 1) w (by omega) (by omega) (fun f2z p2z j8 j9 => hB (by omega) f1z f2z p1z p2z j8 j9) j8 j9) _ _
termination_by n
theorem lp1_X12_shortest {d : Nat} {h : JH} {P : Int → JH → Prop} {r n : Nat} {f0 : Nat → Int} {j2 : JV} (w : WF h) (hr : r < 6) (hn : 1 ≤ n ∧ n ≤ 8) (h0 : awF (fun i => hI h 120 (40 * r + i)) 1 99 n = false → ∀ f, P (-3) (mtH (wI h 121 f) 3)) (h1 : awF (fun i => hI h 120 (40 * r + i)) 1 99 n = true → ∀ f, P (shR (fun i => hI h 120 (40 * r + i)) n) (wI h 121 f)) (i : Nat) (hi : i ≤ n) : ∀ j6 j7 j8 j9, JAt k0 (d + 1) jX12_shortest 41 [vr 117, vi r, j2, vi n, vi (if awF (fun i => hI h 120 (40 * r + i)) 1 99 i then 1 else 0), vi i, j6, j7, j8, j9] [] (wI h 121 (cpF f0 (fun i => hI h 120 (40 * r + i)) 0 i)) (jqi P) := by
  intro j6 j7 j8 j9
  generalize hF : (fun i => hI h 120 (40 * r + i)) = F at *
  have hFi : ∀ k, hI h 120 (40 * r + k) = F k := fun k => by rw [← hF]
  have eR : hI (wI h 121 (cpF f0 F 0 i)) 120 = hI h 120 := wI_ne _ _ (by decide)
  have e0 : awF F 1 99 (i + 1) = (awF F 1 99 i && decide (1 ≤ F i ∧ F i ≤ 99)) := rfl
  have ec := cpF_s f0 F 0 i
  rw [Nat.zero_add] at ec
  have z3 : i = n → ∀ k, k < n → cpF f0 F 0 i k = F k := fun e k hk => by have := cpF_in (f := f0) (g := F) (lo := 0) (n := i) (j := k) (by omega); rw [Nat.zero_add] at this; exact this
  refine st_iload (q := 43) dX12_shortest_41 rfl rfl ?_
  refine st_iload_n (q := 44) dX12_shortest_43 rfl rfl ?_
  refine st_icmp_ge (q := 47) (tgt := 95) dX12_shortest_44 (by decide) rfl (fun c44 => ?_) (fun c44 => ?_)
  · have en : i = n := (by omega)
    refine st_iload (q := 97) dX12_shortest_95 rfl rfl ?_
    refine st_if_ne (q := 100) (tgt := 106) dX12_shortest_97 (by decide) rfl (fun c97 => ?_) (fun c97 => ?_)
    · refine st_iload_n (q := 107) dX12_shortest_106 rfl rfl ?_
      refine st_iconst (q := 108) dX12_shortest_107 ⟨by decide, by decide⟩ rfl ?_
      refine st_icmp_ne (q := 111) (tgt := 118) dX12_shortest_108 (by decide) rfl (fun c108 => ?_) (fun c108 => ?_)
      · refine st_iconst (q := 119) dX12_shortest_118 ⟨by decide, by decide⟩ rfl ?_
        refine st_istore (q := 121) dX12_shortest_119 (by decide) rfl ?_
        refine st_iload_n (q := 122) dX12_shortest_121 rfl rfl ?_
        refine st_istore (q := 124) dX12_shortest_122 (by decide) rfl ?_
        have aw := tb1.mp c97
        rw [en] at aw
        have pz := pw_1 (8 - n)
        refine lp2_X12_shortest w (h1 aw) n _ 0 _ _ _ (by omega) (by omega) (fun k hk => by rw [z3 en k hk]; have q := awF_at aw k hk; omega) (by omega) ?_
        unfold shR
        rw [if_neg (show ¬ n = 1 by omega), Int.zero_add]
        congr 1
        funext v
        exact cnI_cg (z3 en)
      · refine st_aload_n (q := 112) dX12_shortest_111 rfl rfl ?_
        refine st_getR (q := 115) 12 7 dX12_shortest_112 fl_X12_23 (by decide) (by decide) rfl rfl (wfk w rfl) (wfR w rfl) ?_
        refine st_iconst (q := 116) dX12_shortest_115 ⟨by decide, by decide⟩ rfl ?_
        refine st_iaload (q := 117) dX12_shortest_116 rfl (wfk w rfl) (wfb w (n := 40) rfl ⟨by omega, by omega⟩) ?_
        refine rt_i dX12_shortest_117 rfl ?_
        have tk := h1 (by rw [← en]; exact tb1.mp c97) (cpF f0 F 0 i)
        refine pq tk ?_ rfl
        unfold shR
        rw [if_pos (show n = 1 by omega), wI_at]
        exact (z3 en 0 (by omega)).symm
    · refine st_aload_n (q := 101) dX12_shortest_100 rfl rfl ?_
      refine st_iconst (q := 102) dX12_shortest_101 ⟨by decide, by decide⟩ rfl ?_
      refine iV1i (q := 105) dX12_shortest_102 rfl ml_X12_138 mv_X12_meets (Nat.le_of_ble_eq_true rfl) (wfk w rfl) ?_
      refine c_X12_meets w (by decide) ?_
      refine rt_i dX12_shortest_105 rfl ?_
      exact h0 (by rw [← en]; exact tb0.mp c97) _
  · refine st_aload_n (q := 48) dX12_shortest_47 rfl rfl ?_
    refine st_getR (q := 51) 12 7 dX12_shortest_48 fl_X12_23 (by decide) (by decide) rfl rfl (wfk w rfl) (wfR w rfl) ?_
    refine st_iload (q := 53) dX12_shortest_51 rfl rfl ?_
    refine st_aload_n (q := 54) dX12_shortest_53 rfl rfl ?_
    refine st_iload_n (q := 55) dX12_shortest_54 rfl rfl ?_
    refine st_iload (q := 57) dX12_shortest_55 rfl rfl ?_
    refine iV2i (q := 60) dX12_shortest_57 rfl ml_X12_148 mv_X12_rowAt (Nat.le_of_ble_eq_true rfl) (wfk w rfl) ?_
    refine c_X12_rowAt w (by omega) (by omega) ?_
    rw [eR, show (40 * (r : Int) + i).toNat = 40 * r + i by omega, hFi]
    refine st_iastore (q := 61) dX12_shortest_60 rfl (wfk w rfl) (wfb w (n := 40) rfl ⟨by omega, by omega⟩) ?_
    rw [sI_wI, show ((i : Int)).toNat = i from rfl, ec]
    refine st_iload (q := 63) dX12_shortest_61 rfl rfl ?_
    apply j_mg 87
    · intro K1 K2
      refine st_if_eq (q := 66) (tgt := 86) dX12_shortest_63 (by decide) rfl (fun c63 => ?_) (fun c63 => ?_)
      · refine st_iconst (q := 87) dX12_shortest_86 ⟨by decide, by decide⟩ rfl ?_
        exact K1 c63
      · refine st_aload_n (q := 67) dX12_shortest_66 rfl rfl ?_
        refine st_getR (q := 70) 12 7 dX12_shortest_67 fl_X12_23 (by decide) (by decide) rfl rfl (wfk w rfl) (wfR w rfl) ?_
        refine st_iload (q := 72) dX12_shortest_70 rfl rfl ?_
        refine st_iaload (q := 73) dX12_shortest_72 rfl (wfk w rfl) (wfb w (n := 40) rfl ⟨by omega, by omega⟩) ?_
        refine j_top (F i) (by rw [wI_at]; have t := cpF_in (f := f0) (g := F) (lo := 0) (n := i + 1) (j := i) (by omega); rw [Nat.zero_add] at t; exact t) ?_
        refine st_iconst (q := 74) dX12_shortest_73 ⟨by decide, by decide⟩ rfl ?_
        refine st_bipush (q := 76) dX12_shortest_74 ⟨by decide, by decide⟩ rfl ?_
        refine iS3i (q := 79) dX12_shortest_76 rfl ml_X12_130 ms_X12_in (Nat.le_of_ble_eq_true rfl) ?_
        refine c_X12_in ?_
        apply j_mg 87
        · intro K3 K4
          refine st_if_eq (q := 82) (tgt := 86) dX12_shortest_79 (by decide) rfl (fun c79 => ?_) (fun c79 => ?_)
          · refine st_iconst (q := 87) dX12_shortest_86 ⟨by decide, by decide⟩ rfl ?_
            exact K3 c79
          · refine st_iconst (q := 83) dX12_shortest_82 ⟨by decide, by decide⟩ rfl ?_
            refine st_goto (q := 87) dX12_shortest_83 (by decide) ?_
            exact K4 c79
        · simp only [jif_if]
          exact K2 c63
    · simp only [jif_if]
      refine j_top (if awF F 1 99 (i + 1) then 1 else 0) (by rw [e0]; cases awF F 1 99 i <;> simp <;> (repeat' split) <;> simp_all <;> omega) ?_
      refine st_istore (q := 89) dX12_shortest_87 (by decide) rfl ?_
      first | refine n_iinc (q := 92) dX12_shortest_89 rfl (by decide) rfl ⟨by omega, by omega⟩ ?_ | refine st_iinc (q := 92) dX12_shortest_89 rfl (by decide) rfl ?_
      refine st_goto (q := 41) dX12_shortest_92 (by decide) ?_
      subst hF
      exact lp1_X12_shortest w hr hn h0 h1 (i + 1) (by omega) _ _ _ _
termination_by n - i
theorem c_X12_shortest {d : Nat} {h : JH} {P : Int → JH → Prop} {r : Int} (w : WF h) (h1 : ¬ (0 ≤ r ∧ r ≤ 5) → P (-1) h) (h3 : 0 ≤ r ∧ r ≤ 5 → hI h 119 r.toNat < 0 → P (-3) (mtH h 1)) (h4 : 0 ≤ r ∧ r ≤ 5 → 0 ≤ hI h 119 r.toNat → ¬ (1 ≤ hI h 119 r.toNat ∧ hI h 119 r.toNat ≤ 8) → P (-3) (mtH h 5)) (h5 : ∀ n : Nat, 0 ≤ r ∧ r ≤ 5 → 1 ≤ n ∧ n ≤ 8 → hI h 119 r.toNat = n → awF (fun i => hI h 120 (40 * r.toNat + i)) 1 99 n = false → ∀ f, P (-3) (mtH (wI h 121 f) 3)) (h6 : ∀ n : Nat, 0 ≤ r ∧ r ≤ 5 → 1 ≤ n ∧ n ≤ 8 → hI h 119 r.toNat = n → awF (fun i => hI h 120 (40 * r.toNat + i)) 1 99 n = true → ∀ f, P (shR (fun i => hI h 120 (40 * r.toNat + i)) n) (wI h 121 f)) : JRi (d + 3) jX12_shortest [vr 117, vi r] h P := by
  refine JRet.of rfl (Nat.le_of_ble_eq_true rfl) ?_
  refine st_aload_n (q := 1) dX12_shortest_0 rfl rfl ?_
  refine st_iload_n (q := 2) dX12_shortest_1 rfl rfl ?_
  refine iV1i (q := 5) dX12_shortest_2 rfl ml_X12_145 mv_X12_askedRow (Nat.le_of_ble_eq_true rfl) (wfk w rfl) ?_
  refine c_X12_askedRow w (fun a1 => ?_) (fun a1 a2 => ?_) (fun a1 a2 => ?_)
  · refine st_istore_n (q := 6) (i := 2) dX12_shortest_5 rfl (by decide) rfl ?_
    refine st_iload_n (q := 7) dX12_shortest_6 rfl rfl ?_
    refine st_if_ge (q := 10) (tgt := 12) dX12_shortest_7 (by decide) rfl (fun z => absurd z (by decide)) (fun _ => ?_)
    refine st_iload_n (q := 11) dX12_shortest_10 rfl rfl ?_
    refine rt_i dX12_shortest_11 rfl ?_
    first | exact h1 (by omega) | exact h3 (by omega) (by omega)
  · refine st_istore_n (q := 6) (i := 2) dX12_shortest_5 rfl (by decide) rfl ?_
    refine st_iload_n (q := 7) dX12_shortest_6 rfl rfl ?_
    refine st_if_ge (q := 10) (tgt := 12) dX12_shortest_7 (by decide) rfl (fun z => absurd z (by decide)) (fun _ => ?_)
    refine st_iload_n (q := 11) dX12_shortest_10 rfl rfl ?_
    refine rt_i dX12_shortest_11 rfl ?_
    first | exact h1 (by omega) | exact h3 (by omega) (by omega)
  · refine st_istore_n (q := 6) (i := 2) dX12_shortest_5 rfl (by decide) rfl ?_
    refine st_iload_n (q := 7) dX12_shortest_6 rfl rfl ?_
    refine st_if_ge (q := 10) (tgt := 12) dX12_shortest_7 (by decide) rfl (fun _ => ?_) (fun z => absurd z (by decide))
    refine st_aload_n (q := 13) dX12_shortest_12 rfl rfl ?_
    refine st_getR (q := 16) 12 5 dX12_shortest_13 fl_X12_17 (by decide) (by decide) rfl rfl (wfk w rfl) (wfR w rfl) ?_
    refine st_iload_n (q := 17) dX12_shortest_16 rfl rfl ?_
    refine st_iaload (q := 18) dX12_shortest_17 rfl (wfk w rfl) (wfb w (n := 6) rfl ⟨by omega, by omega⟩) ?_
    refine st_istore_n (q := 19) (i := 3) dX12_shortest_18 rfl (by decide) rfl ?_
    refine st_iload_n (q := 20) dX12_shortest_19 rfl rfl ?_
    refine st_iconst (q := 21) dX12_shortest_20 ⟨by decide, by decide⟩ rfl ?_
    refine st_bipush (q := 23) dX12_shortest_21 ⟨by decide, by decide⟩ rfl ?_
    refine iS3i (q := 26) dX12_shortest_23 rfl ml_X12_130 ms_X12_in (Nat.le_of_ble_eq_true rfl) ?_
    refine c_X12_in ?_
    refine st_if_ne (q := 29) (tgt := 35) dX12_shortest_26 (by decide) rfl (fun c26 => ?_) (fun c26 => ?_)
    · refine st_iconst (q := 36) dX12_shortest_35 ⟨by decide, by decide⟩ rfl ?_
      refine st_istore (q := 38) dX12_shortest_36 (by decide) rfl ?_
      refine st_iconst (q := 39) dX12_shortest_38 ⟨by decide, by decide⟩ rfl ?_
      refine st_istore (q := 41) dX12_shortest_39 (by decide) rfl ?_
      have er : r = (r.toNat : Int) := (by omega)
      have nzk : hI h 119 r.toNat = (((hI h 119 r.toNat).toNat : Nat) : Int) := (by omega)
      have t := lp1_X12_shortest (d := d + 2) (P := P) (r := r.toNat) (n := (hI h 119 r.toNat).toNat) (f0 := hI h 121) (j2 := vi 0) w (by omega) (by omega) (h5 _ (by omega) (by omega) nzk) (h6 _ (by omega) (by omega) nzk) 0 (by omega) vn vn vn vn
      rw [cpF_0, wI_self, ← er, ← nzk] at t
      exact t
    · refine st_aload_n (q := 30) dX12_shortest_29 rfl rfl ?_
      refine st_iconst (q := 31) dX12_shortest_30 ⟨by decide, by decide⟩ rfl ?_
      refine iV1i (q := 34) dX12_shortest_31 rfl ml_X12_138 mv_X12_meets (Nat.le_of_ble_eq_true rfl) (wfk w rfl) ?_
      refine c_X12_meets w (by decide) ?_
      refine rt_i dX12_shortest_34 rfl ?_
      exact h4 (by omega) (by omega) (by omega)
theorem pr_shortest {d : Nat} {h : JH} {r : Int} (I : Inv h) : Two (d + 4) jX11_shortest jX12_shortest [vi r] h := by
  have w := I.1
  have ir : 0 ≤ r ∧ r ≤ 5 → _ := fun z => (I.2.1 r.toNat (by omega)).1
  have ir2 : 0 ≤ r ∧ r ≤ 5 → _ := fun z => (I.2.1 r.toNat (by omega)).2
  refine c_X11_shortest w (fun q => ?_) (fun q q1 => ?_) (fun q q1 q2 => ?_) (fun n q q1 q2 q3 => ?_) (fun n q q1 q2 q3 f1 => ?_)
  · exact c_X12_shortest w (fun _ => ⟨rfl, I⟩) (fun t => absurd t q) (fun t => absurd t q) (fun _ t => absurd t q) (fun _ t => absurd t q)
  · have i1 := ir q
    exact c_X12_shortest (h := fnH h 1) w (fun t => absurd q t) (fun _ _ => ⟨rfl, inv_find I (by decide)⟩) (fun _ (t : 0 ≤ hI h 119 r.toNat) _ => by exfalso; omega) (fun n _ _ (t : hI h 119 r.toNat = n) _ => by exfalso; omega) (fun n _ _ (t : hI h 119 r.toNat = n) _ => by exfalso; omega)
  · have i1 := ir q
    exact c_X12_shortest (h := fnH h 5) w (fun t => absurd q t) (fun _ (t : hI h 119 r.toNat < 0) => by exfalso; omega) (fun _ _ _ => ⟨rfl, inv_find I (by decide)⟩) (fun n _ _ (t : hI h 119 r.toNat = n) _ => by exfalso; omega) (fun n _ _ (t : hI h 119 r.toNat = n) _ => by exfalso; omega)
  · have i1 := ir q
    have ea : awF (fun i => hI h 120 (40 * r.toNat + i)) 1 99 n = false := by rw [← q3]; exact (awF_cg (fun j hj => ir2 q j (by omega))).symm
    exact c_X12_shortest (h := fnH h 3) w (fun t => absurd q t) (fun _ (t : hI h 119 r.toNat < 0) => by exfalso; omega) (fun _ _ (t : ¬ (1 ≤ hI h 119 r.toNat ∧ hI h 119 r.toNat ≤ 8)) => by exfalso; omega) (fun n _ _ _ _ f => ⟨rfl, inv_find2 I (by decide) (Fq.rf.wI _ rs_mv)⟩) (fun n' _ _ (t : hI h 119 r.toNat = n') t2 => by have en : n' = n := (by omega); subst en; have t2 : awF (fun i => hI h 120 (40 * r.toNat + i)) 1 99 n' = true := t2; rw [ea] at t2; cases t2)
  · have i1 := ir q
    have F1 : Fq rgS h (wI h 51 f1) := Fq.rf.wI _ (fun k => by unfold rgS; omega)
    have ew : hI (wI h 51 f1) 120 = hI h 120 := wI_ne _ _ (by decide)
    have ez : hI (wI h 51 f1) 119 = hI h 119 := wI_ne _ _ (by decide)
    have ec : ∀ j, j < n → hI h (97 + 2 * r.toNat + 1) j = hI h 120 (40 * r.toNat + j) := fun j hj => ir2 q j (by omega)
    have ea : awF (fun i => hI h 120 (40 * r.toNat + i)) 1 99 n = true := by rw [← q3]; exact (awF_cg ec).symm
    refine c_X12_shortest (h := wI h 51 f1) w (fun t => absurd q t) (fun _ t => by rw [ez] at t; exfalso; omega) (fun _ _ t => by rw [ez] at t; exfalso; omega) (fun n' _ _ t t2 => ?_) (fun n' _ _ t t2 f2 => ⟨?_, inv_s I (F1.wI _ rs_mv)⟩)
    · rw [ez] at t
      have en : n' = n := by omega
      subst en
      rw [ew, ea] at t2; cases t2
    · rw [ez] at t
      have en : n' = n := by omega
      subst en
      rw [ew]
      unfold shR
      by_cases e1 : n' = 1
      · rw [if_pos e1, if_pos e1]; exact ec 0 (by omega)
      · rw [if_neg e1, if_neg e1]
        congr 1
        funext v
        exact cnI_cg ec

