/-! stories as plain values; what methods may leave changed; the model's story -/
def Fr (Sc : Nat → Nat → Prop) (h h' : JH) : Prop := h'.1 = h.1 ∧ h'.2.2 = h.2.2 ∧ ∀ a k, ¬ Sc a k → hI h' a k = hI h a k
theorem Fr.rf {Sc : Nat → Nat → Prop} {h : JH} : Fr Sc h h := ⟨rfl, rfl, fun _ _ _ => rfl⟩
theorem Fr.tr {Sc : Nat → Nat → Prop} {h h' h'' : JH} (f : Fr Sc h h') (g : Fr Sc h' h'') : Fr Sc h h'' := ⟨g.1.trans f.1, g.2.1.trans f.2.1, fun a k z => (g.2.2 a k z).trans (f.2.2 a k z)⟩
theorem Fr.sI {Sc : Nat → Nat → Prop} {h h' : JH} (f : Fr Sc h h') {a k : Nat} (v : Int) (z : Sc a k) : Fr Sc h (sI h' a k v) := ⟨f.1, f.2.1, fun b j q => by rw [sI_I, if_neg (fun t => q (by rw [t.1, t.2]; exact z))]; exact f.2.2 b j q⟩
theorem Fr.wf {Sc : Nat → Nat → Prop} {h h' : JH} (f : Fr Sc h h') (w : WF h) : WF h' := by
  have e : hR h' = hR h := by unfold hR; rw [f.2.1]
  exact ⟨f.1.trans w.1, fun a k z => by rw [e]; exact w.2.1 a k z, by rw [e]; exact w.2.2⟩
theorem Fr.up {Sc Sc' : Nat → Nat → Prop} {h h' : JH} (f : Fr Sc h h') (z : ∀ a k, Sc a k → Sc' a k) : Fr Sc' h h' := ⟨f.1, f.2.1, fun a k q => f.2.2 a k (fun t => q (z a k t))⟩
/-- what the model's methods leave changed: no answer shows it -/
def ScM (a k : Nat) : Prop := (a = 117 ∧ (k = 21 ∨ k = 27 ∨ k = 28 ∨ k = 35 ∨ k = 39 ∨ k = 40 ∨ k = 45 ∨ k = 46)) ∨ a = 121 ∨ (132 ≤ a ∧ a ≤ 136) ∨ (140 ≤ a ∧ a ≤ 145) ∨ a = 148 ∨ a = 149
abbrev FrM : JH → JH → Prop := Fr ScM
/-- a story: how many scenes; of each shown, in hand, least, most, kept, mark from, mark till, needs -/
abbrev SY : Type := Nat × (Nat → Nat × Nat × Nat × Nat × Nat × Int × Int × Nat)
def ySh (y : SY) (s : Nat) : Nat := (y.2 s).1
def yHd (y : SY) (s : Nat) : Nat := (y.2 s).2.1
def yLe (y : SY) (s : Nat) : Nat := (y.2 s).2.2.1
def yMo (y : SY) (s : Nat) : Nat := (y.2 s).2.2.2.1
def yKp (y : SY) (s : Nat) : Nat := (y.2 s).2.2.2.2.1
def yMf (y : SY) (s : Nat) : Int := (y.2 s).2.2.2.2.2.1
def yMt (y : SY) (s : Nat) : Int := (y.2 s).2.2.2.2.2.2.1
def yNd (y : SY) (s : Nat) : Nat := (y.2 s).2.2.2.2.2.2.2
/-- the numbers are such as a story can have -/
def yOk (y : SY) : Prop := y.1 ≤ 12 ∧ ∀ s, s < y.1 → ySh y s < 256 ∧ yHd y s < 256 ∧ (1 ≤ yLe y s ∧ yLe y s ≤ 99) ∧ (yLe y s ≤ yMo y s ∧ yMo y s ≤ 99) ∧ yKp y s ≤ 1 ∧ ((yMf y s = -9 ∧ yMt y s = -9) ∨ (0 ≤ yMf y s ∧ yMf y s ≤ yMt y s ∧ yMt y s ≤ 999)) ∧ yNd y s < 256
def SM (h : JH) (y : SY) : Prop := hI h 117 15 = (y.1 : Int) ∧ ∀ s, s < y.1 → hI h 127 s = (ySh y s : Nat) ∧ hI h 128 s = (yHd y s : Nat) ∧ hI h 129 s = (yLe y s : Nat) ∧ hI h 130 s = (yMo y s : Nat) ∧ hI h 131 s = (yKp y s : Nat) ∧ hI h 137 s = yMf y s ∧ hI h 138 s = yMt y s ∧ hI h 139 s = (yNd y s : Nat)
theorem SM.fr {h h' : JH} {y : SY} (m : SM h y) (f : FrM h h') : SM h' y := by
  refine ⟨(f.2.2 117 15 (by unfold ScM; omega)).trans m.1, fun s hs => ?_⟩
  have m2 := m.2 s hs
  exact ⟨(f.2.2 _ _ (by unfold ScM; omega)).trans m2.1, (f.2.2 _ _ (by unfold ScM; omega)).trans m2.2.1, (f.2.2 _ _ (by unfold ScM; omega)).trans m2.2.2.1, (f.2.2 _ _ (by unfold ScM; omega)).trans m2.2.2.2.1, (f.2.2 _ _ (by unfold ScM; omega)).trans m2.2.2.2.2.1, (f.2.2 _ _ (by unfold ScM; omega)).trans m2.2.2.2.2.2.1, (f.2.2 _ _ (by unfold ScM; omega)).trans m2.2.2.2.2.2.2.1, (f.2.2 _ _ (by unfold ScM; omega)).trans m2.2.2.2.2.2.2.2⟩
theorem c_X12_isScene {d : Nat} {h : JH} {P : Int → JH → Prop} {y : SY} {s : Int} (w : WF h) (m : SM h y) (o : yOk y) (hP : P (if 0 ≤ s ∧ s < y.1 then 1 else 0) h) : JRi (d + 1) jX12_isScene [vr 117, vi s] h P := by
  have m1 := m.1
  have o1 := o.1
  refine JRet.of rfl (Nat.le_of_ble_eq_true rfl) ?_
  refine st_iload_n (q := 1) dX12_isScene_0 rfl rfl ?_
  refine st_iconst (q := 2) dX12_isScene_1 ⟨by decide, by decide⟩ rfl ?_
  refine st_aload_n (q := 3) dX12_isScene_2 rfl rfl ?_
  refine st_getI (q := 6) 12 15 dX12_isScene_3 fl_X12_215 (by decide) (by decide) rfl rfl (wfk w rfl) ?_
  refine st_iconst (q := 7) dX12_isScene_6 ⟨by decide, by decide⟩ rfl ?_
  first | refine n_isub (q := 8) dX12_isScene_7 rfl ⟨by omega, by omega⟩ ?_ | refine st_isub (q := 8) dX12_isScene_7 rfl ?_
  refine iS3i (q := 11) dX12_isScene_8 rfl ml_X12_130 ms_X12_in (Nat.le_of_ble_eq_true rfl) ?_
  refine c_X12_in ?_
  refine rt_z dX12_isScene_11 rfl (by (repeat' split) <;> omega) ?_
  exact pq hP (by (repeat' split) <;> omega) rfl
theorem sJ_I (h : JH) (a k : Nat) (v : Int) : hI (sJ h a k v) = hI h := rfl
theorem sR_I (h : JH) (a k : Nat) (v : Option Nat) : hI (sR h a k v) = hI h := rfl
/-- what a scene tells -/
def ytell (y : SY) (s : Nat) (what : Int) : Int := if what = 0 then ySh y s else if what = 1 then yHd y s else if what = 2 then yLe y s else if what = 3 then yMo y s else yKp y s
theorem c_X12_sceneTells {d : Nat} {h : JH} {P : Int → JH → Prop} {y : SY} {s : Nat} {what : Int} (w : WF h) (m : SM h y) (o : yOk y) (hs : s < y.1) (hP : P (ytell y s what) h) : JRi d jX12_sceneTells [vr 117, vi s, vi what] h P := by
  have m2 := m.2 s hs
  have o1 := o.1
  refine JRet.of rfl (Nat.le_of_ble_eq_true rfl) ?_
  refine st_iload_n (q := 1) dX12_sceneTells_0 rfl rfl ?_
  refine st_if_ne (q := 4) (tgt := 13) dX12_sceneTells_1 (by decide) rfl (fun c1 => ?_) (fun c1 => ?_)
  · refine st_iload_n (q := 14) dX12_sceneTells_13 rfl rfl ?_
    refine st_iconst (q := 15) dX12_sceneTells_14 ⟨by decide, by decide⟩ rfl ?_
    refine st_icmp_ne (q := 18) (tgt := 27) dX12_sceneTells_15 (by decide) rfl (fun c15 => ?_) (fun c15 => ?_)
    · refine st_iload_n (q := 28) dX12_sceneTells_27 rfl rfl ?_
      refine st_iconst (q := 29) dX12_sceneTells_28 ⟨by decide, by decide⟩ rfl ?_
      refine st_icmp_ne (q := 32) (tgt := 41) dX12_sceneTells_29 (by decide) rfl (fun c29 => ?_) (fun c29 => ?_)
      · refine st_iload_n (q := 42) dX12_sceneTells_41 rfl rfl ?_
        refine st_iconst (q := 43) dX12_sceneTells_42 ⟨by decide, by decide⟩ rfl ?_
        refine st_icmp_ne (q := 46) (tgt := 55) dX12_sceneTells_43 (by decide) rfl (fun c43 => ?_) (fun c43 => ?_)
        · refine st_aload_n (q := 56) dX12_sceneTells_55 rfl rfl ?_
          refine st_getR (q := 59) 12 20 dX12_sceneTells_56 fl_X12_60 (by decide) (by decide) rfl rfl (wfk w rfl) (wfR w rfl) ?_
          refine st_iload_n (q := 60) dX12_sceneTells_59 rfl rfl ?_
          refine st_iaload (q := 61) dX12_sceneTells_60 rfl (wfk w rfl) (wfb w (n := 12) rfl ⟨by omega, by omega⟩) ?_
          refine rt_i dX12_sceneTells_61 rfl ?_
          refine pq hP ?_ rfl
          unfold ytell
          simp only [show ((s : Int)).toNat = s from rfl, m2]
          (repeat' split) <;> first | rfl | omega
        · refine st_aload_n (q := 47) dX12_sceneTells_46 rfl rfl ?_
          refine st_getR (q := 50) 12 19 dX12_sceneTells_47 fl_X12_57 (by decide) (by decide) rfl rfl (wfk w rfl) (wfR w rfl) ?_
          refine st_iload_n (q := 51) dX12_sceneTells_50 rfl rfl ?_
          refine st_iaload (q := 52) dX12_sceneTells_51 rfl (wfk w rfl) (wfb w (n := 12) rfl ⟨by omega, by omega⟩) ?_
          refine st_goto (q := 61) dX12_sceneTells_52 (by decide) ?_
          refine rt_i dX12_sceneTells_61 rfl ?_
          refine pq hP ?_ rfl
          unfold ytell
          simp only [show ((s : Int)).toNat = s from rfl, m2]
          (repeat' split) <;> first | rfl | omega
      · refine st_aload_n (q := 33) dX12_sceneTells_32 rfl rfl ?_
        refine st_getR (q := 36) 12 18 dX12_sceneTells_33 fl_X12_54 (by decide) (by decide) rfl rfl (wfk w rfl) (wfR w rfl) ?_
        refine st_iload_n (q := 37) dX12_sceneTells_36 rfl rfl ?_
        refine st_iaload (q := 38) dX12_sceneTells_37 rfl (wfk w rfl) (wfb w (n := 12) rfl ⟨by omega, by omega⟩) ?_
        refine st_goto (q := 61) dX12_sceneTells_38 (by decide) ?_
        refine rt_i dX12_sceneTells_61 rfl ?_
        refine pq hP ?_ rfl
        unfold ytell
        simp only [show ((s : Int)).toNat = s from rfl, m2]
        (repeat' split) <;> first | rfl | omega
    · refine st_aload_n (q := 19) dX12_sceneTells_18 rfl rfl ?_
      refine st_getR (q := 22) 12 17 dX12_sceneTells_19 fl_X12_51 (by decide) (by decide) rfl rfl (wfk w rfl) (wfR w rfl) ?_
      refine st_iload_n (q := 23) dX12_sceneTells_22 rfl rfl ?_
      refine st_iaload (q := 24) dX12_sceneTells_23 rfl (wfk w rfl) (wfb w (n := 12) rfl ⟨by omega, by omega⟩) ?_
      refine st_goto (q := 61) dX12_sceneTells_24 (by decide) ?_
      refine rt_i dX12_sceneTells_61 rfl ?_
      refine pq hP ?_ rfl
      unfold ytell
      simp only [show ((s : Int)).toNat = s from rfl, m2]
      (repeat' split) <;> first | rfl | omega
  · refine st_aload_n (q := 5) dX12_sceneTells_4 rfl rfl ?_
    refine st_getR (q := 8) 12 16 dX12_sceneTells_5 fl_X12_48 (by decide) (by decide) rfl rfl (wfk w rfl) (wfR w rfl) ?_
    refine st_iload_n (q := 9) dX12_sceneTells_8 rfl rfl ?_
    refine st_iaload (q := 10) dX12_sceneTells_9 rfl (wfk w rfl) (wfb w (n := 12) rfl ⟨by omega, by omega⟩) ?_
    refine st_goto (q := 61) dX12_sceneTells_10 (by decide) ?_
    refine rt_i dX12_sceneTells_61 rfl ?_
    refine pq hP ?_ rfl
    unfold ytell
    simp only [show ((s : Int)).toNat = s from rfl, m2]
    (repeat' split) <;> first | rfl | omega
theorem c_X12_scene {d : Nat} {h : JH} {P : Int → JH → Prop} {y : SY} {s what : Int} (w : WF h) (m : SM h y) (o : yOk y) (h1 : ¬ ((0 ≤ s ∧ s < y.1) ∧ (0 ≤ what ∧ what ≤ 4)) → P (-1) h) (h2 : (0 ≤ s ∧ s < y.1) ∧ (0 ≤ what ∧ what ≤ 4) → P 1 (sI h 117 2 (ytell y s.toNat what))) : JRi (d + 2) jX12_scene [vr 117, vi s, vi what] h P := by
  have m1 := m.1
  have o1 := o.1
  refine JRet.of rfl (Nat.le_of_ble_eq_true rfl) ?_
  refine st_aload_n (q := 1) dX12_scene_0 rfl rfl ?_
  refine st_iload_n (q := 2) dX12_scene_1 rfl rfl ?_
  refine iV1i (q := 5) dX12_scene_2 rfl ml_X12_218 mv_X12_isScene (Nat.le_of_ble_eq_true rfl) (wfk w rfl) ?_
  refine c_X12_isScene w m o ?_
  refine st_if_eq (q := 8) (tgt := 31) dX12_scene_5 (by decide) rfl (fun c5 => ?_) (fun c5 => ?_)
  · refine st_iconst (q := 32) dX12_scene_31 ⟨by decide, by decide⟩ rfl ?_
    refine rt_i dX12_scene_32 rfl ?_
    first | exact h1 (by omega) | exact h2 (by omega)
  · refine st_iload_n (q := 9) dX12_scene_8 rfl rfl ?_
    refine st_iconst (q := 10) dX12_scene_9 ⟨by decide, by decide⟩ rfl ?_
    refine st_iconst (q := 11) dX12_scene_10 ⟨by decide, by decide⟩ rfl ?_
    refine iS3i (q := 14) dX12_scene_11 rfl ml_X12_130 ms_X12_in (Nat.le_of_ble_eq_true rfl) ?_
    refine c_X12_in ?_
    refine st_if_eq (q := 17) (tgt := 31) dX12_scene_14 (by decide) rfl (fun c14 => ?_) (fun c14 => ?_)
    · refine st_iconst (q := 32) dX12_scene_31 ⟨by decide, by decide⟩ rfl ?_
      refine rt_i dX12_scene_32 rfl ?_
      first | exact h1 (by omega) | exact h2 (by omega)
    · refine st_aload_n (q := 18) dX12_scene_17 rfl rfl ?_
      refine st_aload_n (q := 19) dX12_scene_18 rfl rfl ?_
      refine st_iload_n (q := 20) dX12_scene_19 rfl rfl ?_
      refine st_iload_n (q := 21) dX12_scene_20 rfl rfl ?_
      refine iV2i (q := 24) dX12_scene_21 rfl ml_X12_221 mv_X12_sceneTells (Nat.le_of_ble_eq_true rfl) (wfk w rfl) ?_
      rw [show s = (s.toNat : Int) by omega]
      refine c_X12_sceneTells w m o (by omega) ?_
      refine st_iconst (q := 25) dX12_scene_24 ⟨by decide, by decide⟩ rfl ?_
      refine iV2i (q := 28) dX12_scene_25 rfl ml_X12_152 mv_X12_ask (Nat.le_of_ble_eq_true rfl) (wfk w rfl) ?_
      refine c_X12_ask w ?_
      refine st_goto (q := 32) dX12_scene_28 (by decide) ?_
      refine rt_i dX12_scene_32 rfl ?_
      first | exact h1 (by omega) | exact h2 (by omega)
/-- all hides that a story names -/
def yNm (y : SY) : Nat → Nat
  | 0 => 0
  | s + 1 => yNm y s ||| ySh y s
theorem yNm_lt {y : SY} (o : yOk y) : ∀ s, s ≤ y.1 → yNm y s < 256
  | 0, _ => by show 0 < 256; decide
  | s + 1, h => Nat.or_lt_two_pow (n := 8) (yNm_lt o s (by omega)) (o.2 s (by omega)).1
theorem lp_X12_named {d : Nat} {h : JH} {P : Int → JH → Prop} {y : SY} (w : WF h) (m : SM h y) (o : yOk y) (hP : P (yNm y y.1 : Nat) h) (s : Nat) (hs : s ≤ y.1) : JAt k0 d jX12_named 4 [vr 117, vi (yNm y s : Nat), vi s] [] h (jqi P) := by
  have m1 := m.1
  have o1 := o.1
  have n1 := yNm_lt o s hs
  refine st_iload_n (q := 5) dX12_named_4 rfl rfl ?_
  refine st_aload_n (q := 6) dX12_named_5 rfl rfl ?_
  refine st_getI (q := 9) 12 15 dX12_named_6 fl_X12_215 (by decide) (by decide) rfl rfl (wfk w rfl) ?_
  refine st_icmp_ge (q := 12) (tgt := 27) dX12_named_9 (by decide) rfl (fun c9 => ?_) (fun c9 => ?_)
  · refine st_iload_n (q := 28) dX12_named_27 rfl rfl ?_
    refine rt_i dX12_named_28 rfl ?_
    exact pq hP (by rw [show s = y.1 by omega]) rfl
  · refine st_iload_n (q := 13) dX12_named_12 rfl rfl ?_
    refine st_aload_n (q := 14) dX12_named_13 rfl rfl ?_
    refine st_getR (q := 17) 12 16 dX12_named_14 fl_X12_48 (by decide) (by decide) rfl rfl (wfk w rfl) (wfR w rfl) ?_
    refine st_iload_n (q := 18) dX12_named_17 rfl rfl ?_
    refine st_iaload (q := 19) dX12_named_18 rfl (wfk w rfl) (wfb w (n := 12) rfl ⟨by omega, by omega⟩) ?_
    refine st_ior (q := 20) dX12_named_19 rfl ?_
    refine st_istore_n (q := 21) (i := 1) dX12_named_20 rfl (by decide) rfl ?_
    first | refine n_iinc (q := 24) dX12_named_21 rfl (by decide) rfl ⟨by omega, by omega⟩ ?_ | refine st_iinc (q := 24) dX12_named_21 rfl (by decide) rfl ?_
    refine st_goto (q := 4) dX12_named_24 (by decide) ?_
    have hlt : s < y.1 := by omega
    rw [show ((s : Int)).toNat = s from rfl, (m.2 s hlt).1, ior_n (by omega) (by have := (o.2 s hlt).1; omega)]
    exact lp_X12_named w m o hP (s + 1) (by omega)
termination_by y.1 - s
theorem c_X12_named {d : Nat} {h : JH} {P : Int → JH → Prop} {y : SY} (w : WF h) (m : SM h y) (o : yOk y) (hP : P (yNm y y.1 : Nat) h) : JRi d jX12_named [vr 117] h P := by
  refine JRet.of rfl (Nat.le_of_ble_eq_true rfl) ?_
  refine st_iconst (q := 1) dX12_named_0 ⟨by decide, by decide⟩ rfl ?_
  refine st_istore_n (q := 2) (i := 1) dX12_named_1 rfl (by decide) rfl ?_
  refine st_iconst (q := 3) dX12_named_2 ⟨by decide, by decide⟩ rfl ?_
  refine st_istore_n (q := 4) (i := 2) dX12_named_3 rfl (by decide) rfl ?_
  exact lp_X12_named w m o hP 0 (by omega)
/-- how many ones among the first k bits -/
def pcN (a : Nat) : Nat → Nat
  | 0 => 0
  | k + 1 => pcN a k + (if a.testBit k then 1 else 0)
theorem bitsF_n {a : Nat} (ha : a < 2147483648) : ∀ k, k ≤ 31 → bitsF a k = (pcN a k : Nat)
  | 0, _ => rfl
  | k + 1, h => by
    show bitsF a k + iand (ishr a k) 1 = ((pcN a k + (if a.testBit k then 1 else 0) : Nat) : Int)
    rw [bitsF_n ha k (by omega), bit_n ha (by omega)]
    cases a.testBit k <;> simp
theorem pcN_le (a : Nat) : ∀ k, pcN a k ≤ k
  | 0 => Nat.le_refl _
  | k + 1 => by
    have := pcN_le a k
    show pcN a k + (if a.testBit k then 1 else 0) ≤ k + 1
    split <;> omega
/-- the first scene from s on for which three hands would be wanted -/
def yThird (y : SY) : Nat → Nat → Int
  | 0, _ => -9
  | m + 1, s => if 2 < pcN (ySh y s) 16 then (s : Int) else yThird y m (s + 1)
theorem lp_X12_third {d : Nat} {h : JH} {P : Int → JH → Prop} {y : SY} (w : WF h) (m : SM h y) (o : yOk y) (hP : P (yThird y y.1 0) h) (s : Nat) (hs : s ≤ y.1) (he : yThird y (y.1 - s) s = yThird y y.1 0) : JAt k0 (d + 1) jX12_third 2 [vr 117, vi s] [] h (jqi P) := by
  have m1 := m.1
  have o1 := o.1
  refine st_iload_n (q := 3) dX12_third_2 rfl rfl ?_
  refine st_aload_n (q := 4) dX12_third_3 rfl rfl ?_
  refine st_getI (q := 7) 12 15 dX12_third_4 fl_X12_215 (by decide) (by decide) rfl rfl (wfk w rfl) ?_
  refine st_icmp_ge (q := 10) (tgt := 31) dX12_third_7 (by decide) rfl (fun c7 => ?_) (fun c7 => ?_)
  · refine st_bipush (q := 33) dX12_third_31 ⟨by decide, by decide⟩ rfl ?_
    refine rt_i dX12_third_33 rfl ?_
    refine pq hP ?_ rfl
    rw [← he, show y.1 - s = 0 by omega]
    rfl
  · refine st_aload_n (q := 11) dX12_third_10 rfl rfl ?_
    refine st_getR (q := 14) 12 16 dX12_third_11 fl_X12_48 (by decide) (by decide) rfl rfl (wfk w rfl) (wfR w rfl) ?_
    refine st_iload_n (q := 15) dX12_third_14 rfl rfl ?_
    refine st_iaload (q := 16) dX12_third_15 rfl (wfk w rfl) (wfb w (n := 12) rfl ⟨by omega, by omega⟩) ?_
    refine iS1i (q := 19) dX12_third_16 rfl ml_X12_168 ms_X12_bits (Nat.le_of_ble_eq_true rfl) ?_
    refine c_X12_bits ?_
    have hlt : s < y.1 := by omega
    have o2 := (o.2 s hlt).1
    rw [show ((s : Int)).toNat = s from rfl, (m.2 s hlt).1, bitsF_n (by omega) 16 (by omega)]
    rw [show y.1 - s = (y.1 - (s + 1)) + 1 by omega] at he
    refine st_iconst (q := 20) dX12_third_19 ⟨by decide, by decide⟩ rfl ?_
    refine st_icmp_le (q := 23) (tgt := 25) dX12_third_20 (by decide) rfl (fun c20 => ?_) (fun c20 => ?_)
    · first | refine n_iinc (q := 28) dX12_third_25 rfl (by decide) rfl ⟨by omega, by omega⟩ ?_ | refine st_iinc (q := 28) dX12_third_25 rfl (by decide) rfl ?_
      refine st_goto (q := 2) dX12_third_28 (by decide) ?_
      refine lp_X12_third w m o hP (s + 1) (by omega) ?_
      rw [← he, yThird, if_neg (by omega)]
    · refine st_iload_n (q := 24) dX12_third_23 rfl rfl ?_
      refine rt_i dX12_third_24 rfl ?_
      refine pq hP ?_ rfl
      rw [← he, yThird, if_pos (by omega)]
termination_by y.1 - s
theorem c_X12_third {d : Nat} {h : JH} {P : Int → JH → Prop} {y : SY} (w : WF h) (m : SM h y) (o : yOk y) (hP : P (yThird y y.1 0) h) : JRi (d + 1) jX12_third [vr 117] h P := by
  refine JRet.of rfl (Nat.le_of_ble_eq_true rfl) ?_
  refine st_iconst (q := 1) dX12_third_0 ⟨by decide, by decide⟩ rfl ?_
  refine st_istore_n (q := 2) (i := 1) dX12_third_1 rfl (by decide) rfl ?_
  exact lp_X12_third w m o hP 0 (by omega) rfl

