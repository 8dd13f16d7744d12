/-! sure: the class's queue -/
def ScQ (a k : Nat) : Prop := a = 52 ∨ a = 53 ∨ (a = 48 ∧ k = 5)
def QS (g : SG) (h : JH) : Prop := (∀ x, x < 64 → hI h 53 x = 0 ∨ hI h 53 x = 1) ∧ hI h 48 5 = cnM (hI h 53) 64 ∧ (∀ i : Nat, (i : Int) < hI h 48 5 → 0 ≤ hI h 52 i ∧ hI h 52 i < 64 ∧ hI h 53 (hI h 52 i).toNat = 1) ∧ (∀ x, x < 64 → hI h 53 x = 1 → ∃ i : Nat, (i : Int) < hI h 48 5 ∧ hI h 52 i = (x : Int)) ∧ (∀ x, x < 64 → hI h 53 x = 1 → RS g (x / 8) (x % 8))
def Gr (h h' : JH) : Prop := (∀ y, hI h 53 y = 1 → hI h' 53 y = 1) ∧ (∀ i : Nat, (i : Int) < hI h 48 5 → hI h' 52 i = hI h 52 i) ∧ hI h 48 5 ≤ hI h' 48 5
theorem Gr.rf {h : JH} : Gr h h := ⟨fun _ z => z, fun _ _ => rfl, Int.le_refl _⟩
theorem Gr.tr {h h' h2 : JH} (a : Gr h h') (b : Gr h' h2) : Gr h h2 := ⟨fun y z => b.1 y (a.1 y z), fun i z => (b.2.1 i (by have := a.2.2; omega)).trans (a.2.1 i z), by have := a.2.2; have := b.2.2; omega⟩
theorem c_X6_enqueue {d : Nat} {h : JH} {P : JH → Prop} {g : SG} {x : Nat} (w : WF h) (q : QS g h) (hx : x < 64) (s : RS g (x / 8) (x % 8)) (hP : ∀ h', Fr ScQ h h' → QS g h' → Gr h h' → hI h' 53 x = 1 → P h') : JRv (d + 1) jX6_enqueue [vr 48, vi x] h P := by
  have q1 : hI h 53 ((x : Int)).toNat = 0 ∨ hI h 53 ((x : Int)).toNat = 1 := q.1 x hx
  have cl : hI h 53 ((x : Int)).toNat = 0 → hI h 48 5 < 64 := fun z => by rw [q.2.1]; exact cnM_lt hx z
  have cb := cnM_b (hI h 53) 64
  rw [← q.2.1] at cb
  obtain ⟨m, em⟩ : ∃ m : Nat, hI h 48 5 = (m : Int) := ⟨(hI h 48 5).toNat, by omega⟩
  have hE : hI h 53 x = 0 → m < 64 → P (sI (sI (sI h 53 x 1) 52 m (x : Int)) 48 5 ((m : Int) + 1)) := by
    intro z hm
    have f : Fr ScQ h (sI (sI (sI h 53 x 1) 52 m (x : Int)) 48 5 ((m : Int) + 1)) := ((Fr.rf.sI _ (Or.inr (Or.inl rfl))).sI _ (Or.inl rfl)).sI _ (Or.inr (Or.inr ⟨rfl, rfl⟩))
    have eQ : ∀ y, hI (sI (sI (sI h 53 x 1) 52 m (x : Int)) 48 5 ((m : Int) + 1)) 53 y = if y = x then 1 else hI h 53 y := fun y => by
      rw [sI_o _ (by decide), sI_o _ (by decide)]
      by_cases e : y = x
      · rw [if_pos e, e, sI_s]
      · rw [if_neg e, sI_k _ e]
    have eU : ∀ i, hI (sI (sI (sI h 53 x 1) 52 m (x : Int)) 48 5 ((m : Int) + 1)) 52 i = if i = m then (x : Int) else hI h 52 i := fun i => by
      rw [sI_o _ (by decide)]
      by_cases e : i = m
      · rw [if_pos e, e, sI_s]
      · rw [if_neg e, sI_k _ e, sI_o _ (by decide)]
    have eS : hI (sI (sI (sI h 53 x 1) 52 m (x : Int)) 48 5 ((m : Int) + 1)) 48 5 = (m : Int) + 1 := by rw [sI_s]
    generalize sI (sI (sI h 53 x 1) 52 m (x : Int)) 48 5 ((m : Int) + 1) = h2 at *
    refine hP _ f ⟨fun y hy => ?_, ?_, fun i hi => ?_, fun y hy e => ?_, fun y hy e => ?_⟩ ⟨fun y e => ?_, fun i hi => ?_, by omega⟩ ?_
    · rw [eQ]; split
      · exact Or.inr rfl
      · exact q.1 y hy
    · have := cnM_s (F := hI h 53) (G := hI h2 53) z (by rw [eQ, if_pos rfl]; decide) (fun y hy => by rw [eQ, if_neg hy]) 64
      rw [eS, this, if_pos hx, ← q.2.1, em]
    · rw [eU]
      by_cases e : i = m
      · rw [if_pos e]; exact ⟨by omega, by omega, by rw [show ((x : Int)).toNat = x from rfl, eQ, if_pos rfl]⟩
      · rw [if_neg e]
        have t := q.2.2.1 i (by omega)
        refine ⟨t.1, t.2.1, ?_⟩
        rw [eQ]; split
        · rfl
        · exact t.2.2
    · rw [eQ] at e
      by_cases z2 : y = x
      · exact ⟨m, by omega, by rw [eU, if_pos rfl, z2]⟩
      · rw [if_neg z2] at e
        obtain ⟨i, h1, h2'⟩ := q.2.2.2.1 y hy e
        exact ⟨i, by omega, by rw [eU, if_neg (by omega)]; exact h2'⟩
    · rw [eQ] at e
      by_cases z2 : y = x
      · rw [z2]; exact s
      · rw [if_neg z2] at e; exact q.2.2.2.2 y hy e
    · rw [eQ]; split
      · rfl
      · exact e
    · rw [eU, if_neg (by omega)]
    · rw [eQ, if_pos rfl]
  refine JRet.of rfl (Nat.le_of_ble_eq_true rfl) ?_
  refine st_iload_n (q := 1) dX6_enqueue_0 rfl rfl ?_
  refine st_bipush (q := 3) dX6_enqueue_1 ⟨by decide, by decide⟩ rfl ?_
  refine iN2i (q := 6) dX6_enqueue_3 rfl mn_X6_32 ms_X11_isNone (Nat.le_of_ble_eq_true rfl) ?_
  refine c_X11_isNone ?_
  refine st_if_ne (q := 9) (tgt := 54) dX6_enqueue_6 (by decide) rfl (fun c6 => ?_) (fun c6 => ?_)
  · refine rt_v dX6_enqueue_54 rfl ?_
    first | exact hE (by have : hI h 53 ((x : Int)).toNat = 0 := (by omega); exact this) (by omega) | exact hP _ Fr.rf q Gr.rf (by have : hI h 53 ((x : Int)).toNat = 1 := (by omega); exact this) | (exfalso; (repeat' split at c6) <;> omega)
  · refine st_aload_n (q := 10) dX6_enqueue_9 rfl rfl ?_
    refine st_getR (q := 13) 6 4 dX6_enqueue_10 fl_X6_24 (by decide) (by decide) rfl rfl (wfk w rfl) (wfR w rfl) ?_
    refine st_iload_n (q := 14) dX6_enqueue_13 rfl rfl ?_
    refine st_baload (q := 15) dX6_enqueue_14 rfl (wfk w rfl) (wfb w (n := 64) rfl ⟨by omega, by omega⟩) ?_
    refine st_if_ne (q := 18) (tgt := 54) dX6_enqueue_15 (by decide) rfl (fun c15 => ?_) (fun c15 => ?_)
    · refine rt_v dX6_enqueue_54 rfl ?_
      first | exact hE (by have : hI h 53 ((x : Int)).toNat = 0 := (by omega); exact this) (by omega) | exact hP _ Fr.rf q Gr.rf (by have : hI h 53 ((x : Int)).toNat = 1 := (by omega); exact this) | (exfalso; (repeat' split at c6) <;> omega)
    · refine st_aload_n (q := 19) dX6_enqueue_18 rfl rfl ?_
      refine st_getI (q := 22) 6 5 dX6_enqueue_19 fl_X6_28 (by decide) (by decide) rfl rfl (wfk w rfl) ?_
      refine j_top (m : Int) em ?_
      refine st_bipush (q := 24) dX6_enqueue_22 ⟨by decide, by decide⟩ rfl ?_
      refine st_icmp_ge (q := 27) (tgt := 54) dX6_enqueue_24 (by decide) rfl (fun c24 => ?_) (fun c24 => ?_)
      · refine rt_v dX6_enqueue_54 rfl ?_
        first | exact hE (by have : hI h 53 ((x : Int)).toNat = 0 := (by omega); exact this) (by omega) | exact hP _ Fr.rf q Gr.rf (by have : hI h 53 ((x : Int)).toNat = 1 := (by omega); exact this) | (exfalso; (repeat' split at c6) <;> omega)
      · refine st_aload_n (q := 28) dX6_enqueue_27 rfl rfl ?_
        refine st_getR (q := 31) 6 4 dX6_enqueue_28 fl_X6_24 (by decide) (by decide) rfl rfl (wfk w rfl) (wfR w rfl) ?_
        refine st_iload_n (q := 32) dX6_enqueue_31 rfl rfl ?_
        refine st_iconst (q := 33) dX6_enqueue_32 ⟨by decide, by decide⟩ rfl ?_
        refine st_bastore (q := 34) dX6_enqueue_33 rfl (wfk w rfl) (wfb w (n := 64) rfl ⟨by omega, by omega⟩) (by omega) ?_
        refine st_aload_n (q := 35) dX6_enqueue_34 rfl rfl ?_
        refine st_getR (q := 38) 6 3 dX6_enqueue_35 fl_X6_21 (by decide) (by decide) rfl rfl (wfk w rfl) (wfR w rfl) ?_
        refine st_aload_n (q := 39) dX6_enqueue_38 rfl rfl ?_
        refine st_getI (q := 42) 6 5 dX6_enqueue_39 fl_X6_28 (by decide) (by decide) rfl rfl (wfk w rfl) ?_
        refine j_top (m : Int) (by rw [sI_o _ (by decide)]; exact em) ?_
        refine st_iload_n (q := 43) dX6_enqueue_42 rfl rfl ?_
        refine st_iastore (q := 44) dX6_enqueue_43 rfl (wfk w rfl) (wfb w (n := 64) rfl ⟨by omega, by omega⟩) ?_
        refine st_aload_n (q := 45) dX6_enqueue_44 rfl rfl ?_
        refine st_dup (q := 46) dX6_enqueue_45 rfl rfl ?_
        refine st_getI (q := 49) 6 5 dX6_enqueue_46 fl_X6_28 (by decide) (by decide) rfl rfl (wfk w rfl) ?_
        refine j_top (m : Int) (by rw [sI_o _ (by decide), sI_o _ (by decide)]; exact em) ?_
        refine st_iconst (q := 50) dX6_enqueue_49 ⟨by decide, by decide⟩ rfl ?_
        first | refine n_iadd (q := 51) dX6_enqueue_50 rfl ⟨by omega, by omega⟩ ?_ | refine st_iadd (q := 51) dX6_enqueue_50 rfl ?_
        refine st_putI (q := 54) 6 5 dX6_enqueue_51 fl_X6_28 (by decide) (by decide) (Or.inl rfl) rfl (Or.inl rfl) (wfk w rfl) ?_
        refine rt_v dX6_enqueue_54 rfl ?_
        first | exact hE (by have : hI h 53 ((x : Int)).toNat = 0 := (by omega); exact this) (by omega) | exact hP _ Fr.rf q Gr.rf (by have : hI h 53 ((x : Int)).toNat = 1 := (by omega); exact this) | (exfalso; (repeat' split at c6) <;> omega)
theorem QS.fr {g : SG} {h h' : JH} (q : QS g h) (f : ∀ a k, a = 52 ∨ a = 53 ∨ (a = 48 ∧ k = 5) → hI h' a k = hI h a k) : QS g h' := by
  have e1 : hI h' 53 = hI h 53 := by funext k; exact f _ _ (Or.inr (Or.inl rfl))
  have e2 : hI h' 52 = hI h 52 := by funext k; exact f _ _ (Or.inl rfl)
  have e3 : hI h' 48 5 = hI h 48 5 := f _ _ (Or.inr (Or.inr ⟨rfl, rfl⟩))
  unfold QS at *
  rw [e1, e2, e3]
  exact q
theorem c_X6_follow {d : Nat} {h : JH} {P : Int → JH → Prop} {g : SG} {k f b : Nat} (w : WF h) (x : GX h g) (o : gOk g) (q : QS g h) (hk : k < 8) (hf : f < 8) (hb : b < 8) (hsb : 0 < (g b).1) (s : RS g k f ∨ (f = 0 ∧ k < b)) (h0 : emp g → ∀ h', Fr ScQ h h' → P 0 h') (h1 : ∀ h', Fr ScQ h h' → QS g h' → Gr h h' → (0 < (g k).1 - f → agP g k f b → ((g b).1 < (g k).1 - f → hI h' 53 (8 * k + (f + (g b).1)) = 1) ∧ ((g k).1 - f < (g b).1 → hI h' 53 (8 * b + ((g k).1 - f)) = 1) ∧ (g k).1 - f ≠ (g b).1) → P 1 h') : JRi (d + 2) jX6_follow [vr 48, vi k, vi f, vi b] h P := by
  have xk : hI h 49 ((k : Int)).toNat = ((g k).1 : Int) := (x k hk).1
  have xb : hI h 49 ((b : Int)).toNat = ((g b).1 : Int) := (x b hb).1
  have ok := (o k hk).1
  have ob := (o b hb).1
  have r1 : 0 < (g k).1 - f → agP g k f b → (g b).1 < (g k).1 - f → RS g k (f + (g b).1) := fun z1 z2 z3 => by
    rcases s with s | ⟨s1, s2⟩
    · exact ((RS_cl g).2 k f b s hb hsb z2).1 z3
    · subst s1; rw [Nat.zero_add]; exact ((RS_cl g).1 k b s2 hb (by omega) hsb z2).1 (by omega)
  have r2 : 0 < (g k).1 - f → agP g k f b → (g k).1 - f < (g b).1 → RS g b ((g k).1 - f) := fun z1 z2 z3 => by
    rcases s with s | ⟨s1, s2⟩
    · exact ((RS_cl g).2 k f b s hb hsb z2).2 z3
    · subst s1; rw [Nat.sub_zero]; exact ((RS_cl g).1 k b s2 hb (by omega) hsb z2).2 (by omega)
  have r3 : 0 < (g k).1 - f → agP g k f b → (g k).1 - f = (g b).1 → emp g := fun z1 z2 z3 => by
    rcases s with s | ⟨s1, s2⟩
    · exact Or.inr ⟨k, f, b, s, hb, hsb, z2, z3⟩
    · subst s1; exact Or.inl ⟨k, b, s2, hb, by omega, hsb, z2, by omega⟩
  refine JRet.of rfl (Nat.le_of_ble_eq_true rfl) ?_
  refine st_aload_n (q := 1) dX6_follow_0 rfl rfl ?_
  refine st_getR (q := 4) 6 0 dX6_follow_1 fl_X6_9 (by decide) (by decide) rfl rfl (wfk w rfl) (wfR w rfl) ?_
  refine st_iload_n (q := 5) dX6_follow_4 rfl rfl ?_
  refine st_iaload (q := 6) dX6_follow_5 rfl (wfk w rfl) (wfb w (n := 8) rfl ⟨by omega, by omega⟩) ?_
  refine j_top ((g k).1 : Int) xk ?_
  refine st_iload_n (q := 7) dX6_follow_6 rfl rfl ?_
  first | refine n_isub (q := 8) dX6_follow_7 rfl ⟨by omega, by omega⟩ ?_ | refine st_isub (q := 8) dX6_follow_7 rfl ?_
  refine st_istore (q := 10) dX6_follow_8 (by decide) rfl ?_
  refine st_iload (q := 12) dX6_follow_10 rfl rfl ?_
  refine st_if_le (q := 15) (tgt := 25) dX6_follow_12 (by decide) rfl (fun c12 => ?_) (fun c12 => ?_)
  · refine st_iconst (q := 26) dX6_follow_25 ⟨by decide, by decide⟩ rfl ?_
    refine rt_z dX6_follow_26 rfl (by (repeat' split) <;> omega) ?_
    first | exact h1 _ Fr.rf q Gr.rf (fun z1 z2 => absurd z2 ag) | exact h1 _ Fr.rf q Gr.rf (fun z1 z2 => by exfalso; omega)
  · refine st_aload_n (q := 16) dX6_follow_15 rfl rfl ?_
    refine st_iload_n (q := 17) dX6_follow_16 rfl rfl ?_
    refine st_iload_n (q := 18) dX6_follow_17 rfl rfl ?_
    refine st_iload_n (q := 19) dX6_follow_18 rfl rfl ?_
    refine iV3i (q := 22) dX6_follow_19 rfl ml_X6_45 mv_X6_agree (Nat.le_of_ble_eq_true rfl) (wfk w rfl) ?_
    refine c_X6_agree w x o hk hb (by omega) (fun ag => ?_) (fun ag => ?_)
    · refine st_if_ne (q := 25) (tgt := 27) dX6_follow_22 (by decide) rfl (fun _ => ?_) (fun z => absurd z (by decide))
      refine st_iload (q := 29) dX6_follow_27 rfl rfl ?_
      refine st_aload_n (q := 30) dX6_follow_29 rfl rfl ?_
      refine st_getR (q := 33) 6 0 dX6_follow_30 fl_X6_9 (by decide) (by decide) rfl rfl (wfk w rfl) (wfR w rfl) ?_
      refine st_iload_n (q := 34) dX6_follow_33 rfl rfl ?_
      refine st_iaload (q := 35) dX6_follow_34 rfl (wfk w rfl) (wfb w (n := 8) rfl ⟨by omega, by omega⟩) ?_
      refine j_top ((g b).1 : Int) xb ?_
      refine st_icmp_le (q := 38) (tgt := 58) dX6_follow_35 (by decide) rfl (fun c35 => ?_) (fun c35 => ?_)
      · refine st_iload (q := 60) dX6_follow_58 rfl rfl ?_
        refine st_aload_n (q := 61) dX6_follow_60 rfl rfl ?_
        refine st_getR (q := 64) 6 0 dX6_follow_61 fl_X6_9 (by decide) (by decide) rfl rfl (wfk w rfl) (wfR w rfl) ?_
        refine st_iload_n (q := 65) dX6_follow_64 rfl rfl ?_
        refine st_iaload (q := 66) dX6_follow_65 rfl (wfk w rfl) (wfb w (n := 8) rfl ⟨by omega, by omega⟩) ?_
        refine j_top ((g b).1 : Int) xb ?_
        refine st_icmp_ge (q := 69) (tgt := 80) dX6_follow_66 (by decide) rfl (fun c66 => ?_) (fun c66 => ?_)
        · refine st_iload (q := 82) dX6_follow_80 rfl rfl ?_
          refine st_aload_n (q := 83) dX6_follow_82 rfl rfl ?_
          refine st_getR (q := 86) 6 0 dX6_follow_83 fl_X6_9 (by decide) (by decide) rfl rfl (wfk w rfl) (wfR w rfl) ?_
          refine st_iload_n (q := 87) dX6_follow_86 rfl rfl ?_
          refine st_iaload (q := 88) dX6_follow_87 rfl (wfk w rfl) (wfb w (n := 8) rfl ⟨by omega, by omega⟩) ?_
          refine j_top ((g b).1 : Int) xb ?_
          refine st_icmp_eq (q := 91) (tgt := 95) dX6_follow_88 (by decide) rfl (fun c88 => ?_) (fun c88 => ?_)
          · refine st_iconst (q := 96) dX6_follow_95 ⟨by decide, by decide⟩ rfl ?_
            refine rt_z dX6_follow_96 rfl (by (repeat' split) <;> omega) ?_
            first | exact h0 (r3 (by omega) ag (by omega)) _ Fr.rf | exact h1 _ f2 q2 g2 (fun _ _ => ⟨fun _ => e2, fun z => by exfalso; omega, by omega⟩) | exact h1 _ f2 q2 g2 (fun _ _ => ⟨fun z => by exfalso; omega, fun _ => e2, by omega⟩) | (exfalso; omega)
          · refine st_iconst (q := 92) dX6_follow_91 ⟨by decide, by decide⟩ rfl ?_
            refine st_goto (q := 96) dX6_follow_92 (by decide) ?_
            refine rt_z dX6_follow_96 rfl (by (repeat' split) <;> omega) ?_
            first | exact h0 (r3 (by omega) ag (by omega)) _ Fr.rf | exact h1 _ f2 q2 g2 (fun _ _ => ⟨fun _ => e2, fun z => by exfalso; omega, by omega⟩) | exact h1 _ f2 q2 g2 (fun _ _ => ⟨fun z => by exfalso; omega, fun _ => e2, by omega⟩) | (exfalso; omega)
        · refine st_aload_n (q := 70) dX6_follow_69 rfl rfl ?_
          refine st_iload_n (q := 71) dX6_follow_70 rfl rfl ?_
          refine st_bipush (q := 73) dX6_follow_71 ⟨by decide, by decide⟩ rfl ?_
          first | refine n_imul (q := 74) dX6_follow_73 rfl ⟨by omega, by omega⟩ ?_ | refine st_imul (q := 74) dX6_follow_73 rfl ?_
          refine st_iload (q := 76) dX6_follow_74 rfl rfl ?_
          first | refine n_iadd (q := 77) dX6_follow_76 rfl ⟨by omega, by omega⟩ ?_ | refine st_iadd (q := 77) dX6_follow_76 rfl ?_
          refine j_top ((8 * b + ((g k).1 - f) : Nat) : Int) (by omega) ?_
          refine iV1v (q := 80) dX6_follow_77 rfl ml_X6_55 mv_X6_enqueue (Nat.le_of_ble_eq_true rfl) (wfk w rfl) ?_
          refine c_X6_enqueue w q (by omega) (by rw [show (8 * b + ((g k).1 - f)) / 8 = b by omega, show (8 * b + ((g k).1 - f)) % 8 = (g k).1 - f by omega]; exact r2 (by omega) ag (by omega)) (fun h2 f2 q2 g2 e2 => ?_)
          have w := f2.wf w
          have xb : hI h2 49 ((b : Int)).toNat = ((g b).1 : Int) := (f2.2.2 _ _ (by unfold ScQ; omega)).trans xb
          refine st_iload (q := 82) dX6_follow_80 rfl rfl ?_
          refine st_aload_n (q := 83) dX6_follow_82 rfl rfl ?_
          refine st_getR (q := 86) 6 0 dX6_follow_83 fl_X6_9 (by decide) (by decide) rfl rfl (wfk w rfl) (wfR w rfl) ?_
          refine st_iload_n (q := 87) dX6_follow_86 rfl rfl ?_
          refine st_iaload (q := 88) dX6_follow_87 rfl (wfk w rfl) (wfb w (n := 8) rfl ⟨by omega, by omega⟩) ?_
          refine j_top ((g b).1 : Int) xb ?_
          refine st_icmp_eq (q := 91) (tgt := 95) dX6_follow_88 (by decide) rfl (fun c88 => ?_) (fun c88 => ?_)
          · refine st_iconst (q := 96) dX6_follow_95 ⟨by decide, by decide⟩ rfl ?_
            refine rt_z dX6_follow_96 rfl (by (repeat' split) <;> omega) ?_
            first | exact h0 (r3 (by omega) ag (by omega)) _ Fr.rf | exact h1 _ f2 q2 g2 (fun _ _ => ⟨fun _ => e2, fun z => by exfalso; omega, by omega⟩) | exact h1 _ f2 q2 g2 (fun _ _ => ⟨fun z => by exfalso; omega, fun _ => e2, by omega⟩) | (exfalso; omega)
          · refine st_iconst (q := 92) dX6_follow_91 ⟨by decide, by decide⟩ rfl ?_
            refine st_goto (q := 96) dX6_follow_92 (by decide) ?_
            refine rt_z dX6_follow_96 rfl (by (repeat' split) <;> omega) ?_
            first | exact h0 (r3 (by omega) ag (by omega)) _ Fr.rf | exact h1 _ f2 q2 g2 (fun _ _ => ⟨fun _ => e2, fun z => by exfalso; omega, by omega⟩) | exact h1 _ f2 q2 g2 (fun _ _ => ⟨fun z => by exfalso; omega, fun _ => e2, by omega⟩) | (exfalso; omega)
      · refine st_aload_n (q := 39) dX6_follow_38 rfl rfl ?_
        refine st_iload_n (q := 40) dX6_follow_39 rfl rfl ?_
        refine st_bipush (q := 42) dX6_follow_40 ⟨by decide, by decide⟩ rfl ?_
        first | refine n_imul (q := 43) dX6_follow_42 rfl ⟨by omega, by omega⟩ ?_ | refine st_imul (q := 43) dX6_follow_42 rfl ?_
        refine st_iload_n (q := 44) dX6_follow_43 rfl rfl ?_
        first | refine n_iadd (q := 45) dX6_follow_44 rfl ⟨by omega, by omega⟩ ?_ | refine st_iadd (q := 45) dX6_follow_44 rfl ?_
        refine st_aload_n (q := 46) dX6_follow_45 rfl rfl ?_
        refine st_getR (q := 49) 6 0 dX6_follow_46 fl_X6_9 (by decide) (by decide) rfl rfl (wfk w rfl) (wfR w rfl) ?_
        refine st_iload_n (q := 50) dX6_follow_49 rfl rfl ?_
        refine st_iaload (q := 51) dX6_follow_50 rfl (wfk w rfl) (wfb w (n := 8) rfl ⟨by omega, by omega⟩) ?_
        refine j_top ((g b).1 : Int) xb ?_
        first | refine n_iadd (q := 52) dX6_follow_51 rfl ⟨by omega, by omega⟩ ?_ | refine st_iadd (q := 52) dX6_follow_51 rfl ?_
        refine j_top ((8 * k + (f + (g b).1) : Nat) : Int) (by omega) ?_
        refine iV1v (q := 55) dX6_follow_52 rfl ml_X6_55 mv_X6_enqueue (Nat.le_of_ble_eq_true rfl) (wfk w rfl) ?_
        refine c_X6_enqueue w q (by omega) (by rw [show (8 * k + (f + (g b).1)) / 8 = k by omega, show (8 * k + (f + (g b).1)) % 8 = f + (g b).1 by omega]; exact r1 (by omega) ag (by omega)) (fun h2 f2 q2 g2 e2 => ?_)
        have w := f2.wf w
        have xb : hI h2 49 ((b : Int)).toNat = ((g b).1 : Int) := (f2.2.2 _ _ (by unfold ScQ; omega)).trans xb
        refine st_goto (q := 80) dX6_follow_55 (by decide) ?_
        refine st_iload (q := 82) dX6_follow_80 rfl rfl ?_
        refine st_aload_n (q := 83) dX6_follow_82 rfl rfl ?_
        refine st_getR (q := 86) 6 0 dX6_follow_83 fl_X6_9 (by decide) (by decide) rfl rfl (wfk w rfl) (wfR w rfl) ?_
        refine st_iload_n (q := 87) dX6_follow_86 rfl rfl ?_
        refine st_iaload (q := 88) dX6_follow_87 rfl (wfk w rfl) (wfb w (n := 8) rfl ⟨by omega, by omega⟩) ?_
        refine j_top ((g b).1 : Int) xb ?_
        refine st_icmp_eq (q := 91) (tgt := 95) dX6_follow_88 (by decide) rfl (fun c88 => ?_) (fun c88 => ?_)
        · refine st_iconst (q := 96) dX6_follow_95 ⟨by decide, by decide⟩ rfl ?_
          refine rt_z dX6_follow_96 rfl (by (repeat' split) <;> omega) ?_
          first | exact h0 (r3 (by omega) ag (by omega)) _ Fr.rf | exact h1 _ f2 q2 g2 (fun _ _ => ⟨fun _ => e2, fun z => by exfalso; omega, by omega⟩) | exact h1 _ f2 q2 g2 (fun _ _ => ⟨fun z => by exfalso; omega, fun _ => e2, by omega⟩) | (exfalso; omega)
        · refine st_iconst (q := 92) dX6_follow_91 ⟨by decide, by decide⟩ rfl ?_
          refine st_goto (q := 96) dX6_follow_92 (by decide) ?_
          refine rt_z dX6_follow_96 rfl (by (repeat' split) <;> omega) ?_
          first | exact h0 (r3 (by omega) ag (by omega)) _ Fr.rf | exact h1 _ f2 q2 g2 (fun _ _ => ⟨fun _ => e2, fun z => by exfalso; omega, by omega⟩) | exact h1 _ f2 q2 g2 (fun _ _ => ⟨fun z => by exfalso; omega, fun _ => e2, by omega⟩) | (exfalso; omega)
    · refine st_if_ne (q := 25) (tgt := 27) dX6_follow_22 (by decide) rfl (fun z => absurd z (by decide)) (fun _ => ?_)
      refine st_iconst (q := 26) dX6_follow_25 ⟨by decide, by decide⟩ rfl ?_
      refine rt_z dX6_follow_26 rfl (by (repeat' split) <;> omega) ?_
      first | exact h1 _ Fr.rf q Gr.rf (fun z1 z2 => absurd z2 ag) | exact h1 _ Fr.rf q Gr.rf (fun z1 z2 => by exfalso; omega)
theorem lp_X6_emptyQueue {d : Nat} {h0 : JH} {P : JH → Prop} {g : SG} (w0 : WF h0) (hP : ∀ h', Fr ScQ h0 h' → QS g h' → hI h' 48 5 = 0 → P h') (i : Nat) (hi : i ≤ 64) : ∀ h', Fr ScQ h0 h' → (∀ x, x < i → hI h' 53 x = 0) → JAt k0 d jX6_emptyQueue 2 [vr 48, vi i] [] h' (jqv P) := by
  intro h' f z
  have w := f.wf w0
  refine st_iload_n (q := 3) dX6_emptyQueue_2 rfl rfl ?_
  refine st_bipush (q := 5) dX6_emptyQueue_3 ⟨by decide, by decide⟩ rfl ?_
  refine st_icmp_ge (q := 8) (tgt := 21) dX6_emptyQueue_5 (by decide) rfl (fun c5 => ?_) (fun c5 => ?_)
  · refine st_aload_n (q := 22) dX6_emptyQueue_21 rfl rfl ?_
    refine st_iconst (q := 23) dX6_emptyQueue_22 ⟨by decide, by decide⟩ rfl ?_
    refine st_putI (q := 26) 6 5 dX6_emptyQueue_23 fl_X6_28 (by decide) (by decide) (Or.inl rfl) rfl (Or.inl rfl) (wfk w rfl) ?_
    refine rt_v dX6_emptyQueue_26 rfl ?_
    have z2 : ∀ x, x < 64 → hI (sI h' 48 5 0) 53 x = 0 := (fun x hx => by rw [sI_o _ (by decide)]; exact z x (by omega))
    exact hP _ (f.sI _ (Or.inr (Or.inr ⟨rfl, rfl⟩))) ⟨fun x hx => Or.inl (z2 x hx), by rw [sI_s, cnM_z 64 z2], fun j hj => by rw [sI_s] at hj; omega, fun x hx e => by rw [z2 x hx] at e; exact absurd e (by decide), fun x hx e => by rw [z2 x hx] at e; exact absurd e (by decide)⟩ (by rw [sI_s])
  · refine st_aload_n (q := 9) dX6_emptyQueue_8 rfl rfl ?_
    refine st_getR (q := 12) 6 4 dX6_emptyQueue_9 fl_X6_24 (by decide) (by decide) rfl rfl (wfk w rfl) (wfR w rfl) ?_
    refine st_iload_n (q := 13) dX6_emptyQueue_12 rfl rfl ?_
    refine st_iconst (q := 14) dX6_emptyQueue_13 ⟨by decide, by decide⟩ rfl ?_
    refine st_bastore (q := 15) dX6_emptyQueue_14 rfl (wfk w rfl) (wfb w (n := 64) rfl ⟨by omega, by omega⟩) (by omega) ?_
    first | refine n_iinc (q := 18) dX6_emptyQueue_15 rfl (by decide) rfl ⟨by omega, by omega⟩ ?_ | refine st_iinc (q := 18) dX6_emptyQueue_15 rfl (by decide) rfl ?_
    refine st_goto (q := 2) dX6_emptyQueue_18 (by decide) ?_
    exact lp_X6_emptyQueue w0 hP (i + 1) (by omega) _ (f.sI _ (Or.inr (Or.inl rfl))) (fun x hx => by by_cases e : x = i; (rw [e, show ((i : Int)).toNat = i from rfl, sI_s]); (rw [show ((i : Int)).toNat = i from rfl, sI_k _ e]; exact z x (by omega)))
termination_by 64 - i
theorem c_X6_emptyQueue {d : Nat} {h : JH} {P : JH → Prop} {g : SG} (w : WF h) (hP : ∀ h', Fr ScQ h h' → QS g h' → hI h' 48 5 = 0 → P h') : JRv d jX6_emptyQueue [vr 48] h P := by
  refine JRet.of rfl (Nat.le_of_ble_eq_true rfl) ?_
  refine st_iconst (q := 1) dX6_emptyQueue_0 ⟨by decide, by decide⟩ rfl ?_
  refine st_istore_n (q := 2) (i := 1) dX6_emptyQueue_1 rfl (by decide) rfl ?_
  exact lp_X6_emptyQueue w hP 0 (by omega) _ Fr.rf (fun x hx => absurd hx (by omega))
theorem GX_q {g : SG} {h h' : JH} (x : GX h g) (f : Fr ScQ h h') : GX h' g := fun k hk => ⟨(f.2.2 _ _ (by unfold ScQ; omega)).trans (x k hk).1, fun i hi => (f.2.2 _ _ (by unfold ScQ; omega)).trans ((x k hk).2 i hi)⟩

