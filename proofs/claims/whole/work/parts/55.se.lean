/-! both sides answer alike: seen, broken, mistaken -/
theorem lp_X11_seen {d : Nat} {h : JH} {P : Int → JH → Prop} {u : HD} {q : MO} {n : Nat} {b : Int} (w : WF h) (x : HX h u) (o : uOk u) (nx : NX h q) (qo : qOk q) (hn : n ≤ 16) (hP : P (seF u q n b q.1 : Nat) h) (m : Nat) (hm : m ≤ q.1) : ∀ j5, JAt k0 (d + 4) jX11_seen 17 [vr 0, vi n, vi b, vi (seF u q n b m : Nat), vi m, j5] [] h (jqi P) := by
  intro j5
  have n1 := nx.1
  have q1 := qo.1
  have s1 := seF_le u q n b m
  have e0 : seF u q n b (m + 1) = seF u q n b m + (if seB u q n b m then 1 else 0) := rfl
  refine st_iload (q := 19) dX11_seen_17 rfl rfl ?_
  refine st_aload_n (q := 20) dX11_seen_19 rfl rfl ?_
  refine st_getR (q := 23) 11 8 dX11_seen_20 fl_X11_63 (by decide) (by decide) rfl rfl (by first | exact wfk w rfl | exact xmk (h := h) w (by omega)) (wfR w rfl) ?_
  refine st_getI (q := 26) 0 1 dX11_seen_23 fl_X11_329 (by decide) (by decide) rfl rfl (by first | exact wfk w rfl | exact xmk (h := h) w (by omega)) ?_
  refine st_icmp_ge (q := 29) (tgt := 95) dX11_seen_26 (by decide) rfl (fun c26 => ?_) (fun c26 => ?_)
  · refine st_iload_n (q := 96) dX11_seen_95 rfl rfl ?_
    refine rt_i dX11_seen_96 rfl ?_
    exact pq hP (by rw [show m = q.1 by omega]) rfl
  · refine st_aload_n (q := 30) dX11_seen_29 rfl rfl ?_
    refine st_getR (q := 33) 11 8 dX11_seen_30 fl_X11_63 (by decide) (by decide) rfl rfl (by first | exact wfk w rfl | exact xmk (h := h) w (by omega)) (wfR w rfl) ?_
    refine st_getR (q := 36) 0 0 dX11_seen_33 fl_X11_339 (by decide) (by decide) rfl rfl (by first | exact wfk w rfl | exact xmk (h := h) w (by omega)) (wfR w rfl) ?_
    refine st_iload (q := 38) dX11_seen_36 rfl rfl ?_
    refine st_aaload (q := 39) (t := 5) dX11_seen_38 rfl ⟨by decide, by decide⟩ (by first | exact wfk w rfl | exact xmk (h := h) w (by omega)) (wfb w (n := 40) rfl ⟨by omega, by omega⟩) (xmom (h := h) w (by omega)) ?_
    refine st_astore (q := 41) dX11_seen_39 (by decide) rfl ?_
    have hlt : m < q.1 := by omega
    have ek0 : hI h (56 + ((m : Int)).toNat) 0 = q.2 m 0 := nx.2 m hlt 0 (by omega)
    have ek2 : hI h (56 + ((m : Int)).toNat) 2 = q.2 m 2 := nx.2 m hlt 2 (by omega)
    have oq := qo.2 m hlt
    refine st_aload_n (q := 42) dX11_seen_41 rfl rfl ?_
    refine st_getR (q := 45) 11 2 dX11_seen_42 fl_X11_21 (by decide) (by decide) rfl rfl (by first | exact wfk w rfl | exact xmk (h := h) w (by omega)) (wfR w rfl) ?_
    refine st_aload (q := 47) dX11_seen_45 rfl rfl ?_
    refine st_getI (q := 50) 3 2 dX11_seen_47 fl_X11_356 (by decide) (by decide) rfl rfl (by first | exact wfk w rfl | exact xmk (h := h) w (by omega)) ?_
    refine j_top _ ek2 ?_
    refine iV1i (q := 53) dX11_seen_50 rfl ml_X11_333 mv_X7_hasHide (Nat.le_of_ble_eq_true rfl) (by first | exact wfk w rfl | exact xmk (h := h) w (by omega)) ?_
    refine c_X7_hasHide w x ?_
    refine st_if_eq (q := 56) (tgt := 89) dX11_seen_53 (by decide) rfl (fun c53 => ?_) (fun c53 => ?_)
    · first | refine n_iinc (q := 92) dX11_seen_89 rfl (by decide) rfl ⟨by omega, by omega⟩ ?_ | refine st_iinc (q := 92) dX11_seen_89 rfl (by decide) rfl ?_
      refine st_goto (q := 17) dX11_seen_92 (by decide) ?_
      have t := lp_X11_seen (d := d) w x o nx qo hn hP (m + 1) (by omega)
      first | (have sb : seB u q n b m = true := (by unfold seB; have z1 : q.2 m 0 ≠ 0 ∧ q.2 m 0 ≠ 5 ∧ uO u (q.2 m 2).toNat ≠ 0 := (by omega); rw [decide_eq_true z1]; simp; first | exact Or.inl (by omega) | exact Or.inr ⟨by omega, tb1.mp c83⟩); rw [if_pos sb] at e0; rw [e0] at t; exact t _) | (have sb : seB u q n b m = false := (by unfold seB; first | (rw [decide_eq_false (show ¬ (q.2 m 0 ≠ 0 ∧ q.2 m 0 ≠ 5 ∧ uO u (q.2 m 2).toNat ≠ 0) by omega)]; rfl) | (rw [decide_eq_false (show ¬ b ≠ 0 by omega), decide_eq_false (show ¬ q.2 m 0 ≠ 6 by omega)]; simp) | (rw [decide_eq_false (show ¬ b ≠ 0 by omega), tb0.mp c83]; simp)); rw [if_neg (by rw [sb]; decide), Nat.add_zero] at e0; rw [e0] at t; exact t _)
    · refine st_iload_n (q := 57) dX11_seen_56 rfl rfl ?_
      refine st_if_ne (q := 60) (tgt := 86) dX11_seen_57 (by decide) rfl (fun c57 => ?_) (fun c57 => ?_)
      · first | refine n_iinc (q := 89) dX11_seen_86 rfl (by decide) rfl ⟨by omega, by omega⟩ ?_ | refine st_iinc (q := 89) dX11_seen_86 rfl (by decide) rfl ?_
        first | refine n_iinc (q := 92) dX11_seen_89 rfl (by decide) rfl ⟨by omega, by omega⟩ ?_ | refine st_iinc (q := 92) dX11_seen_89 rfl (by decide) rfl ?_
        refine st_goto (q := 17) dX11_seen_92 (by decide) ?_
        have t := lp_X11_seen (d := d) w x o nx qo hn hP (m + 1) (by omega)
        first | (have sb : seB u q n b m = true := (by unfold seB; have z1 : q.2 m 0 ≠ 0 ∧ q.2 m 0 ≠ 5 ∧ uO u (q.2 m 2).toNat ≠ 0 := (by omega); rw [decide_eq_true z1]; simp; first | exact Or.inl (by omega) | exact Or.inr ⟨by omega, tb1.mp c83⟩); rw [if_pos sb] at e0; rw [e0] at t; exact t _) | (have sb : seB u q n b m = false := (by unfold seB; first | (rw [decide_eq_false (show ¬ (q.2 m 0 ≠ 0 ∧ q.2 m 0 ≠ 5 ∧ uO u (q.2 m 2).toNat ≠ 0) by omega)]; rfl) | (rw [decide_eq_false (show ¬ b ≠ 0 by omega), decide_eq_false (show ¬ q.2 m 0 ≠ 6 by omega)]; simp) | (rw [decide_eq_false (show ¬ b ≠ 0 by omega), tb0.mp c83]; simp)); rw [if_neg (by rw [sb]; decide), Nat.add_zero] at e0; rw [e0] at t; exact t _)
      · refine st_aload (q := 62) dX11_seen_60 rfl rfl ?_
        refine st_getI (q := 65) 3 0 dX11_seen_62 fl_X11_359 (by decide) (by decide) rfl rfl (by first | exact wfk w rfl | exact xmk (h := h) w (by omega)) ?_
        refine j_top _ ek0 ?_
        refine st_bipush (q := 67) dX11_seen_65 ⟨by decide, by decide⟩ rfl ?_
        refine st_icmp_eq (q := 70) (tgt := 89) dX11_seen_67 (by decide) rfl (fun c67 => ?_) (fun c67 => ?_)
        · first | refine n_iinc (q := 92) dX11_seen_89 rfl (by decide) rfl ⟨by omega, by omega⟩ ?_ | refine st_iinc (q := 92) dX11_seen_89 rfl (by decide) rfl ?_
          refine st_goto (q := 17) dX11_seen_92 (by decide) ?_
          have t := lp_X11_seen (d := d) w x o nx qo hn hP (m + 1) (by omega)
          first | (have sb : seB u q n b m = true := (by unfold seB; have z1 : q.2 m 0 ≠ 0 ∧ q.2 m 0 ≠ 5 ∧ uO u (q.2 m 2).toNat ≠ 0 := (by omega); rw [decide_eq_true z1]; simp; first | exact Or.inl (by omega) | exact Or.inr ⟨by omega, tb1.mp c83⟩); rw [if_pos sb] at e0; rw [e0] at t; exact t _) | (have sb : seB u q n b m = false := (by unfold seB; first | (rw [decide_eq_false (show ¬ (q.2 m 0 ≠ 0 ∧ q.2 m 0 ≠ 5 ∧ uO u (q.2 m 2).toNat ≠ 0) by omega)]; rfl) | (rw [decide_eq_false (show ¬ b ≠ 0 by omega), decide_eq_false (show ¬ q.2 m 0 ≠ 6 by omega)]; simp) | (rw [decide_eq_false (show ¬ b ≠ 0 by omega), tb0.mp c83]; simp)); rw [if_neg (by rw [sb]; decide), Nat.add_zero] at e0; rw [e0] at t; exact t _)
        · refine st_aload_n (q := 71) dX11_seen_70 rfl rfl ?_
          refine st_getR (q := 74) 11 2 dX11_seen_71 fl_X11_21 (by decide) (by decide) rfl rfl (by first | exact wfk w rfl | exact xmk (h := h) w (by omega)) (wfR w rfl) ?_
          refine st_aload (q := 76) dX11_seen_74 rfl rfl ?_
          refine st_getI (q := 79) 3 2 dX11_seen_76 fl_X11_356 (by decide) (by decide) rfl rfl (by first | exact wfk w rfl | exact xmk (h := h) w (by omega)) ?_
          refine j_top _ ek2 ?_
          refine st_iload_n (q := 80) dX11_seen_79 rfl rfl ?_
          refine iV2i (q := 83) dX11_seen_80 rfl ml_X11_362 mv_X7_standsOut (Nat.le_of_ble_eq_true rfl) (by first | exact wfk w rfl | exact xmk (h := h) w (by omega)) ?_
          refine c_X7_standsOut w x o (by omega) (by omega) hn ?_
          refine st_if_eq (q := 86) (tgt := 89) dX11_seen_83 (by decide) rfl (fun c83 => ?_) (fun c83 => ?_)
          · first | refine n_iinc (q := 92) dX11_seen_89 rfl (by decide) rfl ⟨by omega, by omega⟩ ?_ | refine st_iinc (q := 92) dX11_seen_89 rfl (by decide) rfl ?_
            refine st_goto (q := 17) dX11_seen_92 (by decide) ?_
            have t := lp_X11_seen (d := d) w x o nx qo hn hP (m + 1) (by omega)
            first | (have sb : seB u q n b m = true := (by unfold seB; have z1 : q.2 m 0 ≠ 0 ∧ q.2 m 0 ≠ 5 ∧ uO u (q.2 m 2).toNat ≠ 0 := (by omega); rw [decide_eq_true z1]; simp; first | exact Or.inl (by omega) | exact Or.inr ⟨by omega, tb1.mp c83⟩); rw [if_pos sb] at e0; rw [e0] at t; exact t _) | (have sb : seB u q n b m = false := (by unfold seB; first | (rw [decide_eq_false (show ¬ (q.2 m 0 ≠ 0 ∧ q.2 m 0 ≠ 5 ∧ uO u (q.2 m 2).toNat ≠ 0) by omega)]; rfl) | (rw [decide_eq_false (show ¬ b ≠ 0 by omega), decide_eq_false (show ¬ q.2 m 0 ≠ 6 by omega)]; simp) | (rw [decide_eq_false (show ¬ b ≠ 0 by omega), tb0.mp c83]; simp)); rw [if_neg (by rw [sb]; decide), Nat.add_zero] at e0; rw [e0] at t; exact t _)
          · first | refine n_iinc (q := 89) dX11_seen_86 rfl (by decide) rfl ⟨by omega, by omega⟩ ?_ | refine st_iinc (q := 89) dX11_seen_86 rfl (by decide) rfl ?_
            first | refine n_iinc (q := 92) dX11_seen_89 rfl (by decide) rfl ⟨by omega, by omega⟩ ?_ | refine st_iinc (q := 92) dX11_seen_89 rfl (by decide) rfl ?_
            refine st_goto (q := 17) dX11_seen_92 (by decide) ?_
            have t := lp_X11_seen (d := d) w x o nx qo hn hP (m + 1) (by omega)
            first | (have sb : seB u q n b m = true := (by unfold seB; have z1 : q.2 m 0 ≠ 0 ∧ q.2 m 0 ≠ 5 ∧ uO u (q.2 m 2).toNat ≠ 0 := (by omega); rw [decide_eq_true z1]; simp; first | exact Or.inl (by omega) | exact Or.inr ⟨by omega, tb1.mp c83⟩); rw [if_pos sb] at e0; rw [e0] at t; exact t _) | (have sb : seB u q n b m = false := (by unfold seB; first | (rw [decide_eq_false (show ¬ (q.2 m 0 ≠ 0 ∧ q.2 m 0 ≠ 5 ∧ uO u (q.2 m 2).toNat ≠ 0) by omega)]; rfl) | (rw [decide_eq_false (show ¬ b ≠ 0 by omega), decide_eq_false (show ¬ q.2 m 0 ≠ 6 by omega)]; simp) | (rw [decide_eq_false (show ¬ b ≠ 0 by omega), tb0.mp c83]; simp)); rw [if_neg (by rw [sb]; decide), Nat.add_zero] at e0; rw [e0] at t; exact t _)
termination_by q.1 - m
theorem pr_seen {d : Nat} {h : JH} {n b : Int} (I : Inv h) : Two (d + 4) jX11_seen jX12_seen [vi n, vi b] h := by
  have w := I.1
  obtain ⟨u, ok, m, x⟩ := I.2.2.2.1
  obtain ⟨q, qo, nm, nx⟩ := I.2.2.2.2.2.2.2.1
  have hX : (¬ (0 ≤ n ∧ n ≤ 16) → JRi (d + 4) jX12_seen [vr 117, vi n, vi b] h (fun v' h2 => -1 = v' ∧ Inv h2)) → (0 ≤ n ∧ n ≤ 16 → JRi (d + 4) jX12_seen [vr 117, vi n, vi b] h (fun v' h2 => ((seF u q n.toNat b q.1 : Nat) : Int) = v' ∧ Inv h2)) → Two (d + 4) jX11_seen jX12_seen [vi n, vi b] h := by
    intro g1 g2
    refine JRet.of rfl (Nat.le_of_ble_eq_true rfl) ?_
    refine st_iload_n (q := 1) dX11_seen_0 rfl rfl ?_
    refine st_iconst (q := 2) dX11_seen_1 ⟨by decide, by decide⟩ rfl ?_
    refine st_bipush (q := 4) dX11_seen_2 ⟨by decide, by decide⟩ rfl ?_
    refine iS3i (q := 7) dX11_seen_4 rfl ml_X11_142 ms_X11_isWithin (Nat.le_of_ble_eq_true rfl) ?_
    refine c_X11_isWithin ?_
    refine st_if_ne (q := 10) (tgt := 12) dX11_seen_7 (by decide) rfl (fun c7 => ?_) (fun c7 => ?_)
    · refine st_iconst (q := 13) dX11_seen_12 ⟨by decide, by decide⟩ rfl ?_
      refine st_istore_n (q := 14) (i := 3) dX11_seen_13 rfl (by decide) rfl ?_
      refine st_iconst (q := 15) dX11_seen_14 ⟨by decide, by decide⟩ rfl ?_
      refine st_istore (q := 17) dX11_seen_15 (by decide) rfl ?_
      have en : n = (n.toNat : Int) := by omega
      have gx := fun (Pz : Int → JH → Prop) (hPz : Pz (seF u q n.toNat b q.1 : Nat) h) => lp_X11_seen (d := d) (P := Pz) (n := n.toNat) w x ok nx qo (by omega) hPz 0 (by omega) vn
      rw [← en] at gx
      exact gx _ (g2 (by omega))
    · refine st_iconst (q := 11) dX11_seen_10 ⟨by decide, by decide⟩ rfl ?_
      refine rt_i dX11_seen_11 rfl ?_
      exact g1 (by omega)
  exact hX (fun z => c_X12_seen w m ok nm qo (fun _ => ⟨rfl, I⟩) (fun t => absurd t z)) (fun z => c_X12_seen w m ok nm qo (fun t => absurd z t) (fun _ => ⟨rfl, I⟩))
theorem lp_X11_broken {d : Nat} {h : JH} {P : Int → JH → Prop} {q : MO} {k a t : Int} (w : WF h) (nx : NX h q) (qo : qOk q) (ha : 0 ≤ a ∧ a ≤ 32000) (ht : 0 ≤ t ∧ t ≤ 32000) (hP : P (brF q k a t q.1).1 (sI h 0 11 (brF q k a t q.1).2)) (m : Nat) (hm : m ≤ q.1) : ∀ (j7 : JV), JAt k0 (d + 2) jX11_broken 43 [vr 0, vi k, vi a, vi t, vi (brF q k a t m).1, vi (brF q k a t m).2, vi m, j7] [] h (jqi P) := by
  intro j7
  have n1 := nx.1
  have q1 := qo.1
  have s1 := brF_le q k a t m
  have e0 : brF q k a t (m + 1) = if (q.2 m 0 = 1 ∨ q.2 m 0 = 3 ∨ q.2 m 0 = 4) ∧ (q.2 m 2 = k ∨ (q.2 m 0 = 4 ∧ q.2 m 4 = k)) ∧ a ≤ q.2 m 1 ∧ q.2 m 1 < a + t then ((brF q k a t m).1 + 1, if (brF q k a t m).1 = 0 then (m : Int) else (brF q k a t m).2) else brF q k a t m := rfl
  refine st_iload (q := 45) dX11_broken_43 rfl rfl ?_
  refine st_aload_n (q := 46) dX11_broken_45 rfl rfl ?_
  refine st_getR (q := 49) 11 8 dX11_broken_46 fl_X11_63 (by decide) (by decide) rfl rfl (by first | exact wfk w rfl | exact xmk (h := h) w (by omega)) (wfR w rfl) ?_
  refine st_getI (q := 52) 0 1 dX11_broken_49 fl_X11_329 (by decide) (by decide) rfl rfl (by first | exact wfk w rfl | exact xmk (h := h) w (by omega)) ?_
  refine st_icmp_ge (q := 55) (tgt := 119) dX11_broken_52 (by decide) rfl (fun c52 => ?_) (fun c52 => ?_)
  · refine st_aload_n (q := 120) dX11_broken_119 rfl rfl ?_
    refine st_iload (q := 122) dX11_broken_120 rfl rfl ?_
    refine iV1i (q := 125) dX11_broken_122 rfl ml_X11_106 mv_X11_tell (Nat.le_of_ble_eq_true rfl) (by first | exact wfk w rfl | exact xmk (h := h) w (by omega)) ?_
    refine c_X11_tell w ?_
    refine st_pop (q := 126) dX11_broken_125 rfl rfl ?_
    refine st_iload (q := 128) dX11_broken_126 rfl rfl ?_
    refine rt_i dX11_broken_128 rfl ?_
    have e : m = q.1 := by omega
    subst e
    exact hP
  · refine st_aload_n (q := 56) dX11_broken_55 rfl rfl ?_
    refine st_getR (q := 59) 11 8 dX11_broken_56 fl_X11_63 (by decide) (by decide) rfl rfl (by first | exact wfk w rfl | exact xmk (h := h) w (by omega)) (wfR w rfl) ?_
    refine st_getR (q := 62) 0 0 dX11_broken_59 fl_X11_339 (by decide) (by decide) rfl rfl (by first | exact wfk w rfl | exact xmk (h := h) w (by omega)) (wfR w rfl) ?_
    refine st_iload (q := 64) dX11_broken_62 rfl rfl ?_
    refine st_aaload (q := 65) (t := 5) dX11_broken_64 rfl ⟨by decide, by decide⟩ (by first | exact wfk w rfl | exact xmk (h := h) w (by omega)) (wfb w (n := 40) rfl ⟨by omega, by omega⟩) (xmom (h := h) w (by omega)) ?_
    refine st_astore (q := 67) dX11_broken_65 (by decide) rfl ?_
    have hlt : m < q.1 := by omega
    have ek0 : hI h (56 + ((m : Int)).toNat) 0 = q.2 m 0 := nx.2 m hlt 0 (by omega)
    have ek1 : hI h (56 + ((m : Int)).toNat) 1 = q.2 m 1 := nx.2 m hlt 1 (by omega)
    have ek2 : hI h (56 + ((m : Int)).toNat) 2 = q.2 m 2 := nx.2 m hlt 2 (by omega)
    have ek4 : hI h (56 + ((m : Int)).toNat) 4 = q.2 m 4 := nx.2 m hlt 4 (by omega)
    refine st_aload (q := 69) dX11_broken_67 rfl rfl ?_
    refine st_iload_n (q := 70) dX11_broken_69 rfl rfl ?_
    refine iV1i (q := 73) dX11_broken_70 rfl ml_X11_365 mv_X3_wantsHeld (Nat.le_of_ble_eq_true rfl) (by first | exact wfk w rfl | exact xmk (h := h) w (by omega)) ?_
    refine c_X3_wantsHeld (xmk w (by omega)) ?_
    rw [ek0, ek2, ek4]
    refine st_if_eq (q := 76) (tgt := 113) dX11_broken_73 (by decide) rfl (fun c73 => ?_) (fun c73 => ?_)
    · first | refine n_iinc (q := 116) dX11_broken_113 rfl (by decide) rfl ⟨by omega, by omega⟩ ?_ | refine st_iinc (q := 116) dX11_broken_113 rfl (by decide) rfl ?_
      refine st_goto (q := 43) dX11_broken_116 (by decide) ?_
      have tz := lp_X11_broken (d := d) w nx qo ha ht hP (m + 1) (by omega)
      first | (rw [if_pos (by omega)] at e0; rw [e0] at tz; exact tz _) | (rw [if_neg (by omega)] at e0; rw [e0] at tz; exact tz _)
    · refine st_aload (q := 78) dX11_broken_76 rfl rfl ?_
      refine st_getI (q := 81) 3 1 dX11_broken_78 fl_X11_368 (by decide) (by decide) rfl rfl (by first | exact wfk w rfl | exact xmk (h := h) w (by omega)) ?_
      refine j_top _ ek1 ?_
      refine st_iload_n (q := 82) dX11_broken_81 rfl rfl ?_
      refine st_icmp_lt (q := 85) (tgt := 113) dX11_broken_82 (by decide) rfl (fun c82 => ?_) (fun c82 => ?_)
      · first | refine n_iinc (q := 116) dX11_broken_113 rfl (by decide) rfl ⟨by omega, by omega⟩ ?_ | refine st_iinc (q := 116) dX11_broken_113 rfl (by decide) rfl ?_
        refine st_goto (q := 43) dX11_broken_116 (by decide) ?_
        have tz := lp_X11_broken (d := d) w nx qo ha ht hP (m + 1) (by omega)
        first | (rw [if_pos (by omega)] at e0; rw [e0] at tz; exact tz _) | (rw [if_neg (by omega)] at e0; rw [e0] at tz; exact tz _)
      · refine st_aload (q := 87) dX11_broken_85 rfl rfl ?_
        refine st_getI (q := 90) 3 1 dX11_broken_87 fl_X11_368 (by decide) (by decide) rfl rfl (by first | exact wfk w rfl | exact xmk (h := h) w (by omega)) ?_
        refine j_top _ ek1 ?_
        refine st_iload_n (q := 91) dX11_broken_90 rfl rfl ?_
        refine st_iload_n (q := 92) dX11_broken_91 rfl rfl ?_
        first | refine n_iadd (q := 93) dX11_broken_92 rfl ⟨by omega, by omega⟩ ?_ | refine st_iadd (q := 93) dX11_broken_92 rfl ?_
        refine st_icmp_ge (q := 96) (tgt := 113) dX11_broken_93 (by decide) rfl (fun c93 => ?_) (fun c93 => ?_)
        · first | refine n_iinc (q := 116) dX11_broken_113 rfl (by decide) rfl ⟨by omega, by omega⟩ ?_ | refine st_iinc (q := 116) dX11_broken_113 rfl (by decide) rfl ?_
          refine st_goto (q := 43) dX11_broken_116 (by decide) ?_
          have tz := lp_X11_broken (d := d) w nx qo ha ht hP (m + 1) (by omega)
          first | (rw [if_pos (by omega)] at e0; rw [e0] at tz; exact tz _) | (rw [if_neg (by omega)] at e0; rw [e0] at tz; exact tz _)
        · refine st_iload (q := 98) dX11_broken_96 rfl rfl ?_
          apply j_mg 108
          · intro K1 K2
            refine st_if_ne (q := 101) (tgt := 106) dX11_broken_98 (by decide) rfl (fun c98 => ?_) (fun c98 => ?_)
            · refine st_iload (q := 108) dX11_broken_106 rfl rfl ?_
              exact K2 c98
            · refine st_iload (q := 103) dX11_broken_101 rfl rfl ?_
              refine st_goto (q := 108) dX11_broken_103 (by decide) ?_
              exact K1 c98
          · simp only [jif_if]
            refine j_top (if (brF q k a t m).1 = 0 then (m : Int) else (brF q k a t m).2) (by (repeat' split) <;> omega) ?_
            refine st_istore (q := 110) dX11_broken_108 (by decide) rfl ?_
            first | refine n_iinc (q := 113) dX11_broken_110 rfl (by decide) rfl ⟨by omega, by omega⟩ ?_ | refine st_iinc (q := 113) dX11_broken_110 rfl (by decide) rfl ?_
            first | refine n_iinc (q := 116) dX11_broken_113 rfl (by decide) rfl ⟨by omega, by omega⟩ ?_ | refine st_iinc (q := 116) dX11_broken_113 rfl (by decide) rfl ?_
            refine st_goto (q := 43) dX11_broken_116 (by decide) ?_
            have tz := lp_X11_broken (d := d) w nx qo ha ht hP (m + 1) (by omega)
            first | (rw [if_pos (by omega)] at e0; rw [e0] at tz; exact tz _) | (rw [if_neg (by omega)] at e0; rw [e0] at tz; exact tz _)
termination_by q.1 - m
theorem pr_broken {d : Nat} {h : JH} {k a t : Int} (I : Inv h) : Two (d + 4) jX11_broken jX12_broken [vi k, vi a, vi t] h := by
  have w := I.1
  obtain ⟨q, qo, nm, nx⟩ := I.2.2.2.2.2.2.2.1
  have hX : (¬ ((0 ≤ k ∧ k ≤ 7) ∧ (0 ≤ a ∧ a ≤ 32000) ∧ (0 ≤ t ∧ t ≤ 32000)) → JRi (d + 4) jX12_broken [vr 117, vi k, vi a, vi t] h (fun v' h2 => -1 = v' ∧ Inv h2)) → ((0 ≤ k ∧ k ≤ 7) ∧ (0 ≤ a ∧ a ≤ 32000) ∧ (0 ≤ t ∧ t ≤ 32000) → JRi (d + 4) jX12_broken [vr 117, vi k, vi a, vi t] (sI h 0 11 (brF q k a t q.1).2) (fun v' h2 => ((brF q k a t q.1).1 : Int) = v' ∧ Inv h2)) → Two (d + 4) jX11_broken jX12_broken [vi k, vi a, vi t] h := by
    intro g1 g2
    refine JRet.of rfl (Nat.le_of_ble_eq_true rfl) ?_
    refine st_iload_n (q := 1) dX11_broken_0 rfl rfl ?_
    refine st_bipush (q := 3) dX11_broken_1 ⟨by decide, by decide⟩ rfl ?_
    refine iS2i (q := 6) dX11_broken_3 rfl ml_X11_86 ms_X11_isNone (Nat.le_of_ble_eq_true rfl) ?_
    refine c_X11_isNone ?_
    refine st_if_ne (q := 9) (tgt := 31) dX11_broken_6 (by decide) rfl (fun c6 => ?_) (fun c6 => ?_)
    · refine st_iconst (q := 32) dX11_broken_31 ⟨by decide, by decide⟩ rfl ?_
      refine rt_i dX11_broken_32 rfl ?_
      exact g1 (by omega)
    · refine st_iload_n (q := 10) dX11_broken_9 rfl rfl ?_
      refine st_iconst (q := 11) dX11_broken_10 ⟨by decide, by decide⟩ rfl ?_
      refine st_sipush (q := 14) dX11_broken_11 ⟨by decide, by decide⟩ rfl ?_
      refine iS3i (q := 17) dX11_broken_14 rfl ml_X11_142 ms_X11_isWithin (Nat.le_of_ble_eq_true rfl) ?_
      refine c_X11_isWithin ?_
      refine st_if_eq (q := 20) (tgt := 31) dX11_broken_17 (by decide) rfl (fun c17 => ?_) (fun c17 => ?_)
      · refine st_iconst (q := 32) dX11_broken_31 ⟨by decide, by decide⟩ rfl ?_
        refine rt_i dX11_broken_32 rfl ?_
        exact g1 (by omega)
      · refine st_iload_n (q := 21) dX11_broken_20 rfl rfl ?_
        refine st_iconst (q := 22) dX11_broken_21 ⟨by decide, by decide⟩ rfl ?_
        refine st_sipush (q := 25) dX11_broken_22 ⟨by decide, by decide⟩ rfl ?_
        refine iS3i (q := 28) dX11_broken_25 rfl ml_X11_142 ms_X11_isWithin (Nat.le_of_ble_eq_true rfl) ?_
        refine c_X11_isWithin ?_
        refine st_if_ne (q := 31) (tgt := 33) dX11_broken_28 (by decide) rfl (fun c28 => ?_) (fun c28 => ?_)
        · refine st_iconst (q := 34) dX11_broken_33 ⟨by decide, by decide⟩ rfl ?_
          refine st_istore (q := 36) dX11_broken_34 (by decide) rfl ?_
          refine st_bipush (q := 38) dX11_broken_36 ⟨by decide, by decide⟩ rfl ?_
          refine st_istore (q := 40) dX11_broken_38 (by decide) rfl ?_
          refine st_iconst (q := 41) dX11_broken_40 ⟨by decide, by decide⟩ rfl ?_
          refine st_istore (q := 43) dX11_broken_41 (by decide) rfl ?_
          exact lp_X11_broken w nx qo (by omega) (by omega) (g2 (by omega)) 0 (by omega) vn
        · refine st_iconst (q := 32) dX11_broken_31 ⟨by decide, by decide⟩ rfl ?_
          refine rt_i dX11_broken_32 rfl ?_
          exact g1 (by omega)
  refine hX (fun z => ?_) (fun z => ?_)
  · exact c_X12_broken w nm qo (fun _ => ⟨rfl, I⟩) (fun y => absurd y z)
  · exact c_X12_broken (h := sI h 0 11 (brF q k a t q.1).2) w nm qo (fun y => absurd z y) (fun _ => ⟨rfl, inv_ask I _⟩)
theorem c_X0_isEarlier {d : Nat} {h : JH} {P : Int → JH → Prop} {q : MO} {m e : Int} (w : WF h) (nx : NX h q) (qo : qOk q) (hm : 0 ≤ m ∧ m < q.1) (he : 0 ≤ e ∧ e < q.1) (hP : P (if ahd q m.toNat e.toNat then 1 else 0) h) : JRi (d + 1) jX0_isEarlier [vr 54, vi m, vi e] h P := by
  have q1 := qo.1
  have e1 := nx.2 m.toNat (by omega) 1 (by omega)
  have e2 := nx.2 e.toNat (by omega) 1 (by omega)
  have ed : ahd q m.toNat e.toNat = true ↔ (q.2 m.toNat 1 < q.2 e.toNat 1 ∨ (q.2 m.toNat 1 = q.2 e.toNat 1 ∧ m.toNat < e.toNat)) := by unfold ahd; simp
  refine JRet.of rfl (Nat.le_of_ble_eq_true rfl) ?_
  refine st_aload_n (q := 1) dX0_isEarlier_0 rfl rfl ?_
  refine st_iload_n (q := 2) dX0_isEarlier_1 rfl rfl ?_
  refine iV1i (q := 5) dX0_isEarlier_2 rfl ml_X0_44 mv_X0_has (Nat.le_of_ble_eq_true rfl) (by first | exact wfk w rfl | exact xmk (h := h) w (by omega)) ?_
  refine c_X0_has w nx ?_
  refine st_if_eq (q := 8) (tgt := 16) dX0_isEarlier_5 (by decide) rfl (fun c5 => ?_) (fun c5 => ?_)
  · refine st_iconst (q := 17) dX0_isEarlier_16 ⟨by decide, by decide⟩ rfl ?_
    refine rt_z dX0_isEarlier_17 rfl (by (repeat' split) <;> omega) ?_
    first | (exfalso; omega) | (have sb : ahd q m.toNat e.toNat = true := ed.mpr (by omega); rw [sb] at hP; exact hP) | (have sb : ahd q m.toNat e.toNat = false := (by cases z : ahd q m.toNat e.toNat; rfl; (have z2 := ed.mp z; exfalso; omega)); rw [sb] at hP; exact hP)
  · refine st_aload_n (q := 9) dX0_isEarlier_8 rfl rfl ?_
    refine st_iload_n (q := 10) dX0_isEarlier_9 rfl rfl ?_
    refine iV1i (q := 13) dX0_isEarlier_10 rfl ml_X0_44 mv_X0_has (Nat.le_of_ble_eq_true rfl) (by first | exact wfk w rfl | exact xmk (h := h) w (by omega)) ?_
    refine c_X0_has w nx ?_
    refine st_if_ne (q := 16) (tgt := 18) dX0_isEarlier_13 (by decide) rfl (fun c13 => ?_) (fun c13 => ?_)
    · refine st_aload_n (q := 19) dX0_isEarlier_18 rfl rfl ?_
      refine st_getR (q := 22) 0 0 dX0_isEarlier_19 fl_X0_11 (by decide) (by decide) rfl rfl (by first | exact wfk w rfl | exact xmk (h := h) w (by omega)) (wfR w rfl) ?_
      refine st_iload_n (q := 23) dX0_isEarlier_22 rfl rfl ?_
      refine st_aaload (q := 24) (t := 5) dX0_isEarlier_23 rfl ⟨by decide, by decide⟩ (by first | exact wfk w rfl | exact xmk (h := h) w (by omega)) (wfb w (n := 40) rfl ⟨by omega, by omega⟩) (xmom (h := h) w (by omega)) ?_
      refine st_getI (q := 27) 3 1 dX0_isEarlier_24 fl_X0_25 (by decide) (by decide) rfl rfl (by first | exact wfk w rfl | exact xmk (h := h) w (by omega)) ?_
      refine j_top _ e1 ?_
      refine st_istore_n (q := 28) (i := 3) dX0_isEarlier_27 rfl (by decide) rfl ?_
      refine st_aload_n (q := 29) dX0_isEarlier_28 rfl rfl ?_
      refine st_getR (q := 32) 0 0 dX0_isEarlier_29 fl_X0_11 (by decide) (by decide) rfl rfl (by first | exact wfk w rfl | exact xmk (h := h) w (by omega)) (wfR w rfl) ?_
      refine st_iload_n (q := 33) dX0_isEarlier_32 rfl rfl ?_
      refine st_aaload (q := 34) (t := 5) dX0_isEarlier_33 rfl ⟨by decide, by decide⟩ (by first | exact wfk w rfl | exact xmk (h := h) w (by omega)) (wfb w (n := 40) rfl ⟨by omega, by omega⟩) (xmom (h := h) w (by omega)) ?_
      refine st_getI (q := 37) 3 1 dX0_isEarlier_34 fl_X0_25 (by decide) (by decide) rfl rfl (by first | exact wfk w rfl | exact xmk (h := h) w (by omega)) ?_
      refine j_top _ e2 ?_
      refine st_istore (q := 39) dX0_isEarlier_37 (by decide) rfl ?_
      refine st_iload_n (q := 40) dX0_isEarlier_39 rfl rfl ?_
      refine st_iload (q := 42) dX0_isEarlier_40 rfl rfl ?_
      refine st_icmp_lt (q := 45) (tgt := 56) dX0_isEarlier_42 (by decide) rfl (fun c42 => ?_) (fun c42 => ?_)
      · refine st_iconst (q := 57) dX0_isEarlier_56 ⟨by decide, by decide⟩ rfl ?_
        refine st_goto (q := 61) dX0_isEarlier_57 (by decide) ?_
        refine rt_z dX0_isEarlier_61 rfl (by (repeat' split) <;> omega) ?_
        first | (exfalso; omega) | (have sb : ahd q m.toNat e.toNat = true := ed.mpr (by omega); rw [sb] at hP; exact hP) | (have sb : ahd q m.toNat e.toNat = false := (by cases z : ahd q m.toNat e.toNat; rfl; (have z2 := ed.mp z; exfalso; omega)); rw [sb] at hP; exact hP)
      · refine st_iload_n (q := 46) dX0_isEarlier_45 rfl rfl ?_
        refine st_iload (q := 48) dX0_isEarlier_46 rfl rfl ?_
        refine st_icmp_ne (q := 51) (tgt := 60) dX0_isEarlier_48 (by decide) rfl (fun c48 => ?_) (fun c48 => ?_)
        · refine st_iconst (q := 61) dX0_isEarlier_60 ⟨by decide, by decide⟩ rfl ?_
          refine rt_z dX0_isEarlier_61 rfl (by (repeat' split) <;> omega) ?_
          first | (exfalso; omega) | (have sb : ahd q m.toNat e.toNat = true := ed.mpr (by omega); rw [sb] at hP; exact hP) | (have sb : ahd q m.toNat e.toNat = false := (by cases z : ahd q m.toNat e.toNat; rfl; (have z2 := ed.mp z; exfalso; omega)); rw [sb] at hP; exact hP)
        · refine st_iload_n (q := 52) dX0_isEarlier_51 rfl rfl ?_
          refine st_iload_n (q := 53) dX0_isEarlier_52 rfl rfl ?_
          refine st_icmp_ge (q := 56) (tgt := 60) dX0_isEarlier_53 (by decide) rfl (fun c53 => ?_) (fun c53 => ?_)
          · refine st_iconst (q := 61) dX0_isEarlier_60 ⟨by decide, by decide⟩ rfl ?_
            refine rt_z dX0_isEarlier_61 rfl (by (repeat' split) <;> omega) ?_
            first | (exfalso; omega) | (have sb : ahd q m.toNat e.toNat = true := ed.mpr (by omega); rw [sb] at hP; exact hP) | (have sb : ahd q m.toNat e.toNat = false := (by cases z : ahd q m.toNat e.toNat; rfl; (have z2 := ed.mp z; exfalso; omega)); rw [sb] at hP; exact hP)
          · refine st_iconst (q := 57) dX0_isEarlier_56 ⟨by decide, by decide⟩ rfl ?_
            refine st_goto (q := 61) dX0_isEarlier_57 (by decide) ?_
            refine rt_z dX0_isEarlier_61 rfl (by (repeat' split) <;> omega) ?_
            first | (exfalso; omega) | (have sb : ahd q m.toNat e.toNat = true := ed.mpr (by omega); rw [sb] at hP; exact hP) | (have sb : ahd q m.toNat e.toNat = false := (by cases z : ahd q m.toNat e.toNat; rfl; (have z2 := ed.mp z; exfalso; omega)); rw [sb] at hP; exact hP)
    · refine st_iconst (q := 17) dX0_isEarlier_16 ⟨by decide, by decide⟩ rfl ?_
      refine rt_z dX0_isEarlier_17 rfl (by (repeat' split) <;> omega) ?_
      first | (exfalso; omega) | (have sb : ahd q m.toNat e.toNat = true := ed.mpr (by omega); rw [sb] at hP; exact hP) | (have sb : ahd q m.toNat e.toNat = false := (by cases z : ahd q m.toNat e.toNat; rfl; (have z2 := ed.mp z; exfalso; omega)); rw [sb] at hP; exact hP)
theorem mmF_t {q : MO} {m e : Nat} (h : (mmF q m e).2 = true) : ∀ n, e ≤ n → (mmF q m n).2 = true
  | 0, hn => by rw [show e = 0 by omega] at h; exact h
  | n + 1, hn => by
    by_cases z : e = n + 1
    · rw [← z]; exact h
    · have ih := mmF_t h n (by omega)
      unfold mmF
      split
      · show ((mmF q m n).2 || _) = true
        rw [ih]; rfl
      · exact ih
theorem lp_X0_isMistaken {d : Nat} {h : JH} {P : Int → JH → Prop} {q : MO} {m : Nat} (w : WF h) (nx : NX h q) (qo : qOk q) (hm : m < q.1) (hP : P (if miB q m then 1 else 0) h) (e : Nat) (he : e ≤ q.1) (hf : (mmF q m e).2 = false) : ∀ j5, JAt k0 (d + 2) jX0_isMistaken 36 [vr 54, vi m, vr (56 + m), vi (mmF q m e).1, vi e, j5] [] h (jqi P) := by
  intro j5
  have n1 := nx.1
  have q1 := qo.1
  have s1 := mmF_lt q m hm e he
  have em2 : hI h (56 + m) 2 = q.2 m 2 := nx.2 m hm 2 (by omega)
  have em3 : hI h (56 + m) 3 = q.2 m 3 := nx.2 m hm 3 (by omega)
  have e0 : mmF q m (e + 1) = if q.2 e 0 = 6 ∧ ahd q e m = true then (if q.2 e 2 = q.2 m 2 ∧ ahd q e (mmF q m e).1 = true then e else (mmF q m e).1, (mmF q m e).2 || decide (q.2 e 2 ≠ q.2 m 2 ∧ q.2 e 3 = q.2 m 3)) else mmF q m e := rfl
  rw [hf, Bool.false_or] at e0
  refine st_iload (q := 38) dX0_isMistaken_36 rfl rfl ?_
  refine st_aload_n (q := 39) dX0_isMistaken_38 rfl rfl ?_
  refine st_getI (q := 42) 0 1 dX0_isMistaken_39 fl_X0_17 (by decide) (by decide) rfl rfl (by first | exact wfk w rfl | exact xmk (h := h) w (by omega)) ?_
  refine st_icmp_ge (q := 45) (tgt := 138) dX0_isMistaken_42 (by decide) rfl (fun c42 => ?_) (fun c42 => ?_)
  · refine st_aload_n (q := 139) dX0_isMistaken_138 rfl rfl ?_
    refine st_getR (q := 142) 0 0 dX0_isMistaken_139 fl_X0_11 (by decide) (by decide) rfl rfl (by first | exact wfk w rfl | exact xmk (h := h) w (by omega)) (wfR w rfl) ?_
    refine st_iload_n (q := 143) dX0_isMistaken_142 rfl rfl ?_
    refine st_aaload (q := 144) (t := 5) dX0_isMistaken_143 rfl ⟨by decide, by decide⟩ (by first | exact wfk w rfl | exact xmk (h := h) w (by omega)) (wfb w (n := 40) rfl ⟨by omega, by omega⟩) (xmom (h := h) w (by omega)) ?_
    refine st_getI (q := 147) 3 3 dX0_isMistaken_144 fl_X0_35 (by decide) (by decide) rfl rfl (by first | exact wfk w rfl | exact xmk (h := h) w (by omega)) ?_
    refine j_top (q.2 (mmF q m e).1 3) (nx.2 (mmF q m e).1 s1 3 (by omega)) ?_
    refine st_aload_n (q := 148) dX0_isMistaken_147 rfl rfl ?_
    refine st_getI (q := 151) 3 3 dX0_isMistaken_148 fl_X0_35 (by decide) (by decide) rfl rfl (by first | exact wfk w rfl | exact xmk (h := h) w (by omega)) ?_
    refine j_top _ em3 ?_
    refine st_icmp_eq (q := 154) (tgt := 158) dX0_isMistaken_151 (by decide) rfl (fun c151 => ?_) (fun c151 => ?_)
    · refine st_iconst (q := 159) dX0_isMistaken_158 ⟨by decide, by decide⟩ rfl ?_
      refine rt_z dX0_isMistaken_159 rfl (by (repeat' split) <;> omega) ?_
      have ee : e = q.1 := by omega
      subst ee
      first | (have tm : miB q m = true := (by unfold miB; rw [hf, Bool.false_or]; exact decide_eq_true (by omega)); rw [tm] at hP; exact hP) | (have tm : miB q m = false := (by unfold miB; rw [hf, Bool.false_or]; exact decide_eq_false (by omega)); rw [tm] at hP; exact hP)
    · refine st_iconst (q := 155) dX0_isMistaken_154 ⟨by decide, by decide⟩ rfl ?_
      refine st_goto (q := 159) dX0_isMistaken_155 (by decide) ?_
      refine rt_z dX0_isMistaken_159 rfl (by (repeat' split) <;> omega) ?_
      have ee : e = q.1 := by omega
      subst ee
      first | (have tm : miB q m = true := (by unfold miB; rw [hf, Bool.false_or]; exact decide_eq_true (by omega)); rw [tm] at hP; exact hP) | (have tm : miB q m = false := (by unfold miB; rw [hf, Bool.false_or]; exact decide_eq_false (by omega)); rw [tm] at hP; exact hP)
  · refine st_aload_n (q := 46) dX0_isMistaken_45 rfl rfl ?_
    refine st_getR (q := 49) 0 0 dX0_isMistaken_46 fl_X0_11 (by decide) (by decide) rfl rfl (by first | exact wfk w rfl | exact xmk (h := h) w (by omega)) (wfR w rfl) ?_
    refine st_iload (q := 51) dX0_isMistaken_49 rfl rfl ?_
    refine st_aaload (q := 52) (t := 5) dX0_isMistaken_51 rfl ⟨by decide, by decide⟩ (by first | exact wfk w rfl | exact xmk (h := h) w (by omega)) (wfb w (n := 40) rfl ⟨by omega, by omega⟩) (xmom (h := h) w (by omega)) ?_
    refine st_astore (q := 54) dX0_isMistaken_52 (by decide) rfl ?_
    have hlt : e < q.1 := by omega
    have ek0 : hI h (56 + ((e : Int)).toNat) 0 = q.2 e 0 := nx.2 e hlt 0 (by omega)
    have ek2 : hI h (56 + ((e : Int)).toNat) 2 = q.2 e 2 := nx.2 e hlt 2 (by omega)
    have ek3 : hI h (56 + ((e : Int)).toNat) 3 = q.2 e 3 := nx.2 e hlt 3 (by omega)
    refine st_aload (q := 56) dX0_isMistaken_54 rfl rfl ?_
    refine st_getI (q := 59) 3 0 dX0_isMistaken_56 fl_X0_22 (by decide) (by decide) rfl rfl (by first | exact wfk w rfl | exact xmk (h := h) w (by omega)) ?_
    refine j_top _ ek0 ?_
    refine st_bipush (q := 61) dX0_isMistaken_59 ⟨by decide, by decide⟩ rfl ?_
    refine st_icmp_ne (q := 64) (tgt := 132) dX0_isMistaken_61 (by decide) rfl (fun c61 => ?_) (fun c61 => ?_)
    · first | refine n_iinc (q := 135) dX0_isMistaken_132 rfl (by decide) rfl ⟨by omega, by omega⟩ ?_ | refine st_iinc (q := 135) dX0_isMistaken_132 rfl (by decide) rfl ?_
      refine st_goto (q := 36) dX0_isMistaken_135 (by decide) ?_
      first | (rw [if_neg (fun z => absurd z.1 c61)] at e0; have t := lp_X0_isMistaken (d := d) w nx qo hm hP (e + 1) (by omega) (by rw [e0]; exact hf); rw [e0] at t; exact t _) | (rw [if_neg (fun z => absurd c71 (tb1.mpr z.2))] at e0; have t := lp_X0_isMistaken (d := d) w nx qo hm hP (e + 1) (by omega) (by rw [e0]; exact hf); rw [e0] at t; exact t _) | (rw [if_pos ⟨by omega, tb1.mp c71⟩] at e0; have t := lp_X0_isMistaken (d := d) w nx qo hm hP (e + 1) (by omega) (by rw [e0]; exact decide_eq_false (by omega)); first | (rw [if_pos ⟨by omega, tb1.mp c122⟩] at e0; rw [e0] at t; exact t _) | (rw [if_neg (fun z => absurd c122 (tb1.mpr z.2))] at e0; rw [e0] at t; exact t _) | (rw [if_neg (fun z => absurd z.1 c112)] at e0; rw [e0] at t; exact t _))
    · refine st_aload_n (q := 65) dX0_isMistaken_64 rfl rfl ?_
      refine st_iload (q := 67) dX0_isMistaken_65 rfl rfl ?_
      refine st_iload_n (q := 68) dX0_isMistaken_67 rfl rfl ?_
      refine iV2i (q := 71) dX0_isMistaken_68 rfl ml_X0_47 mv_X0_isEarlier (Nat.le_of_ble_eq_true rfl) (by first | exact wfk w rfl | exact xmk (h := h) w (by omega)) ?_
      refine c_X0_isEarlier w nx qo (by omega) (by omega) ?_
      rw [show ((e : Int)).toNat = e from rfl, show ((m : Int)).toNat = m from rfl]
      refine st_if_ne (q := 74) (tgt := 77) dX0_isMistaken_71 (by decide) rfl (fun c71 => ?_) (fun c71 => ?_)
      · refine st_aload (q := 79) dX0_isMistaken_77 rfl rfl ?_
        refine st_getI (q := 82) 3 2 dX0_isMistaken_79 fl_X0_32 (by decide) (by decide) rfl rfl (by first | exact wfk w rfl | exact xmk (h := h) w (by omega)) ?_
        refine j_top _ ek2 ?_
        refine st_aload_n (q := 83) dX0_isMistaken_82 rfl rfl ?_
        refine st_getI (q := 86) 3 2 dX0_isMistaken_83 fl_X0_32 (by decide) (by decide) rfl rfl (by first | exact wfk w rfl | exact xmk (h := h) w (by omega)) ?_
        refine j_top _ em2 ?_
        refine st_icmp_eq (q := 89) (tgt := 103) dX0_isMistaken_86 (by decide) rfl (fun c86 => ?_) (fun c86 => ?_)
        · refine st_aload (q := 105) dX0_isMistaken_103 rfl rfl ?_
          refine st_getI (q := 108) 3 2 dX0_isMistaken_105 fl_X0_32 (by decide) (by decide) rfl rfl (by first | exact wfk w rfl | exact xmk (h := h) w (by omega)) ?_
          refine j_top _ ek2 ?_
          refine st_aload_n (q := 109) dX0_isMistaken_108 rfl rfl ?_
          refine st_getI (q := 112) 3 2 dX0_isMistaken_109 fl_X0_32 (by decide) (by decide) rfl rfl (by first | exact wfk w rfl | exact xmk (h := h) w (by omega)) ?_
          refine j_top _ em2 ?_
          refine st_icmp_ne (q := 115) (tgt := 130) dX0_isMistaken_112 (by decide) rfl (fun c112 => ?_) (fun c112 => ?_)
          · refine st_iload_n (q := 131) dX0_isMistaken_130 rfl rfl ?_
            refine st_istore_n (q := 132) (i := 3) dX0_isMistaken_131 rfl (by decide) rfl ?_
            first | refine n_iinc (q := 135) dX0_isMistaken_132 rfl (by decide) rfl ⟨by omega, by omega⟩ ?_ | refine st_iinc (q := 135) dX0_isMistaken_132 rfl (by decide) rfl ?_
            refine st_goto (q := 36) dX0_isMistaken_135 (by decide) ?_
            first | (rw [if_neg (fun z => absurd z.1 c61)] at e0; have t := lp_X0_isMistaken (d := d) w nx qo hm hP (e + 1) (by omega) (by rw [e0]; exact hf); rw [e0] at t; exact t _) | (rw [if_neg (fun z => absurd c71 (tb1.mpr z.2))] at e0; have t := lp_X0_isMistaken (d := d) w nx qo hm hP (e + 1) (by omega) (by rw [e0]; exact hf); rw [e0] at t; exact t _) | (rw [if_pos ⟨by omega, tb1.mp c71⟩] at e0; have t := lp_X0_isMistaken (d := d) w nx qo hm hP (e + 1) (by omega) (by rw [e0]; exact decide_eq_false (by omega)); first | (rw [if_pos ⟨by omega, tb1.mp c122⟩] at e0; rw [e0] at t; exact t _) | (rw [if_neg (fun z => absurd c122 (tb1.mpr z.2))] at e0; rw [e0] at t; exact t _) | (rw [if_neg (fun z => absurd z.1 c112)] at e0; rw [e0] at t; exact t _))
          · refine st_aload_n (q := 116) dX0_isMistaken_115 rfl rfl ?_
            refine st_iload (q := 118) dX0_isMistaken_116 rfl rfl ?_
            refine st_iload_n (q := 119) dX0_isMistaken_118 rfl rfl ?_
            refine iV2i (q := 122) dX0_isMistaken_119 rfl ml_X0_47 mv_X0_isEarlier (Nat.le_of_ble_eq_true rfl) (by first | exact wfk w rfl | exact xmk (h := h) w (by omega)) ?_
            refine c_X0_isEarlier w nx qo (by omega) (by omega) ?_
            rw [show ((e : Int)).toNat = e from rfl, show (((mmF q m e).1 : Int)).toNat = (mmF q m e).1 from rfl]
            refine st_if_eq (q := 125) (tgt := 130) dX0_isMistaken_122 (by decide) rfl (fun c122 => ?_) (fun c122 => ?_)
            · refine st_iload_n (q := 131) dX0_isMistaken_130 rfl rfl ?_
              refine st_istore_n (q := 132) (i := 3) dX0_isMistaken_131 rfl (by decide) rfl ?_
              first | refine n_iinc (q := 135) dX0_isMistaken_132 rfl (by decide) rfl ⟨by omega, by omega⟩ ?_ | refine st_iinc (q := 135) dX0_isMistaken_132 rfl (by decide) rfl ?_
              refine st_goto (q := 36) dX0_isMistaken_135 (by decide) ?_
              first | (rw [if_neg (fun z => absurd z.1 c61)] at e0; have t := lp_X0_isMistaken (d := d) w nx qo hm hP (e + 1) (by omega) (by rw [e0]; exact hf); rw [e0] at t; exact t _) | (rw [if_neg (fun z => absurd c71 (tb1.mpr z.2))] at e0; have t := lp_X0_isMistaken (d := d) w nx qo hm hP (e + 1) (by omega) (by rw [e0]; exact hf); rw [e0] at t; exact t _) | (rw [if_pos ⟨by omega, tb1.mp c71⟩] at e0; have t := lp_X0_isMistaken (d := d) w nx qo hm hP (e + 1) (by omega) (by rw [e0]; exact decide_eq_false (by omega)); first | (rw [if_pos ⟨by omega, tb1.mp c122⟩] at e0; rw [e0] at t; exact t _) | (rw [if_neg (fun z => absurd c122 (tb1.mpr z.2))] at e0; rw [e0] at t; exact t _) | (rw [if_neg (fun z => absurd z.1 c112)] at e0; rw [e0] at t; exact t _))
            · refine st_iload (q := 127) dX0_isMistaken_125 rfl rfl ?_
              refine st_goto (q := 131) dX0_isMistaken_127 (by decide) ?_
              refine st_istore_n (q := 132) (i := 3) dX0_isMistaken_131 rfl (by decide) rfl ?_
              first | refine n_iinc (q := 135) dX0_isMistaken_132 rfl (by decide) rfl ⟨by omega, by omega⟩ ?_ | refine st_iinc (q := 135) dX0_isMistaken_132 rfl (by decide) rfl ?_
              refine st_goto (q := 36) dX0_isMistaken_135 (by decide) ?_
              first | (rw [if_neg (fun z => absurd z.1 c61)] at e0; have t := lp_X0_isMistaken (d := d) w nx qo hm hP (e + 1) (by omega) (by rw [e0]; exact hf); rw [e0] at t; exact t _) | (rw [if_neg (fun z => absurd c71 (tb1.mpr z.2))] at e0; have t := lp_X0_isMistaken (d := d) w nx qo hm hP (e + 1) (by omega) (by rw [e0]; exact hf); rw [e0] at t; exact t _) | (rw [if_pos ⟨by omega, tb1.mp c71⟩] at e0; have t := lp_X0_isMistaken (d := d) w nx qo hm hP (e + 1) (by omega) (by rw [e0]; exact decide_eq_false (by omega)); first | (rw [if_pos ⟨by omega, tb1.mp c122⟩] at e0; rw [e0] at t; exact t _) | (rw [if_neg (fun z => absurd c122 (tb1.mpr z.2))] at e0; rw [e0] at t; exact t _) | (rw [if_neg (fun z => absurd z.1 c112)] at e0; rw [e0] at t; exact t _))
        · refine st_aload (q := 91) dX0_isMistaken_89 rfl rfl ?_
          refine st_getI (q := 94) 3 3 dX0_isMistaken_91 fl_X0_35 (by decide) (by decide) rfl rfl (by first | exact wfk w rfl | exact xmk (h := h) w (by omega)) ?_
          refine j_top _ ek3 ?_
          refine st_aload_n (q := 95) dX0_isMistaken_94 rfl rfl ?_
          refine st_getI (q := 98) 3 3 dX0_isMistaken_95 fl_X0_35 (by decide) (by decide) rfl rfl (by first | exact wfk w rfl | exact xmk (h := h) w (by omega)) ?_
          refine j_top _ em3 ?_
          refine st_icmp_ne (q := 101) (tgt := 103) dX0_isMistaken_98 (by decide) rfl (fun c98 => ?_) (fun c98 => ?_)
          · refine st_aload (q := 105) dX0_isMistaken_103 rfl rfl ?_
            refine st_getI (q := 108) 3 2 dX0_isMistaken_105 fl_X0_32 (by decide) (by decide) rfl rfl (by first | exact wfk w rfl | exact xmk (h := h) w (by omega)) ?_
            refine j_top _ ek2 ?_
            refine st_aload_n (q := 109) dX0_isMistaken_108 rfl rfl ?_
            refine st_getI (q := 112) 3 2 dX0_isMistaken_109 fl_X0_32 (by decide) (by decide) rfl rfl (by first | exact wfk w rfl | exact xmk (h := h) w (by omega)) ?_
            refine j_top _ em2 ?_
            refine st_icmp_ne (q := 115) (tgt := 130) dX0_isMistaken_112 (by decide) rfl (fun c112 => ?_) (fun c112 => ?_)
            · refine st_iload_n (q := 131) dX0_isMistaken_130 rfl rfl ?_
              refine st_istore_n (q := 132) (i := 3) dX0_isMistaken_131 rfl (by decide) rfl ?_
              first | refine n_iinc (q := 135) dX0_isMistaken_132 rfl (by decide) rfl ⟨by omega, by omega⟩ ?_ | refine st_iinc (q := 135) dX0_isMistaken_132 rfl (by decide) rfl ?_
              refine st_goto (q := 36) dX0_isMistaken_135 (by decide) ?_
              first | (rw [if_neg (fun z => absurd z.1 c61)] at e0; have t := lp_X0_isMistaken (d := d) w nx qo hm hP (e + 1) (by omega) (by rw [e0]; exact hf); rw [e0] at t; exact t _) | (rw [if_neg (fun z => absurd c71 (tb1.mpr z.2))] at e0; have t := lp_X0_isMistaken (d := d) w nx qo hm hP (e + 1) (by omega) (by rw [e0]; exact hf); rw [e0] at t; exact t _) | (rw [if_pos ⟨by omega, tb1.mp c71⟩] at e0; have t := lp_X0_isMistaken (d := d) w nx qo hm hP (e + 1) (by omega) (by rw [e0]; exact decide_eq_false (by omega)); first | (rw [if_pos ⟨by omega, tb1.mp c122⟩] at e0; rw [e0] at t; exact t _) | (rw [if_neg (fun z => absurd c122 (tb1.mpr z.2))] at e0; rw [e0] at t; exact t _) | (rw [if_neg (fun z => absurd z.1 c112)] at e0; rw [e0] at t; exact t _))
            · refine st_aload_n (q := 116) dX0_isMistaken_115 rfl rfl ?_
              refine st_iload (q := 118) dX0_isMistaken_116 rfl rfl ?_
              refine st_iload_n (q := 119) dX0_isMistaken_118 rfl rfl ?_
              refine iV2i (q := 122) dX0_isMistaken_119 rfl ml_X0_47 mv_X0_isEarlier (Nat.le_of_ble_eq_true rfl) (by first | exact wfk w rfl | exact xmk (h := h) w (by omega)) ?_
              refine c_X0_isEarlier w nx qo (by omega) (by omega) ?_
              rw [show ((e : Int)).toNat = e from rfl, show (((mmF q m e).1 : Int)).toNat = (mmF q m e).1 from rfl]
              refine st_if_eq (q := 125) (tgt := 130) dX0_isMistaken_122 (by decide) rfl (fun c122 => ?_) (fun c122 => ?_)
              · refine st_iload_n (q := 131) dX0_isMistaken_130 rfl rfl ?_
                refine st_istore_n (q := 132) (i := 3) dX0_isMistaken_131 rfl (by decide) rfl ?_
                first | refine n_iinc (q := 135) dX0_isMistaken_132 rfl (by decide) rfl ⟨by omega, by omega⟩ ?_ | refine st_iinc (q := 135) dX0_isMistaken_132 rfl (by decide) rfl ?_
                refine st_goto (q := 36) dX0_isMistaken_135 (by decide) ?_
                first | (rw [if_neg (fun z => absurd z.1 c61)] at e0; have t := lp_X0_isMistaken (d := d) w nx qo hm hP (e + 1) (by omega) (by rw [e0]; exact hf); rw [e0] at t; exact t _) | (rw [if_neg (fun z => absurd c71 (tb1.mpr z.2))] at e0; have t := lp_X0_isMistaken (d := d) w nx qo hm hP (e + 1) (by omega) (by rw [e0]; exact hf); rw [e0] at t; exact t _) | (rw [if_pos ⟨by omega, tb1.mp c71⟩] at e0; have t := lp_X0_isMistaken (d := d) w nx qo hm hP (e + 1) (by omega) (by rw [e0]; exact decide_eq_false (by omega)); first | (rw [if_pos ⟨by omega, tb1.mp c122⟩] at e0; rw [e0] at t; exact t _) | (rw [if_neg (fun z => absurd c122 (tb1.mpr z.2))] at e0; rw [e0] at t; exact t _) | (rw [if_neg (fun z => absurd z.1 c112)] at e0; rw [e0] at t; exact t _))
              · refine st_iload (q := 127) dX0_isMistaken_125 rfl rfl ?_
                refine st_goto (q := 131) dX0_isMistaken_127 (by decide) ?_
                refine st_istore_n (q := 132) (i := 3) dX0_isMistaken_131 rfl (by decide) rfl ?_
                first | refine n_iinc (q := 135) dX0_isMistaken_132 rfl (by decide) rfl ⟨by omega, by omega⟩ ?_ | refine st_iinc (q := 135) dX0_isMistaken_132 rfl (by decide) rfl ?_
                refine st_goto (q := 36) dX0_isMistaken_135 (by decide) ?_
                first | (rw [if_neg (fun z => absurd z.1 c61)] at e0; have t := lp_X0_isMistaken (d := d) w nx qo hm hP (e + 1) (by omega) (by rw [e0]; exact hf); rw [e0] at t; exact t _) | (rw [if_neg (fun z => absurd c71 (tb1.mpr z.2))] at e0; have t := lp_X0_isMistaken (d := d) w nx qo hm hP (e + 1) (by omega) (by rw [e0]; exact hf); rw [e0] at t; exact t _) | (rw [if_pos ⟨by omega, tb1.mp c71⟩] at e0; have t := lp_X0_isMistaken (d := d) w nx qo hm hP (e + 1) (by omega) (by rw [e0]; exact decide_eq_false (by omega)); first | (rw [if_pos ⟨by omega, tb1.mp c122⟩] at e0; rw [e0] at t; exact t _) | (rw [if_neg (fun z => absurd c122 (tb1.mpr z.2))] at e0; rw [e0] at t; exact t _) | (rw [if_neg (fun z => absurd z.1 c112)] at e0; rw [e0] at t; exact t _))
          · refine st_iconst (q := 102) dX0_isMistaken_101 ⟨by decide, by decide⟩ rfl ?_
            refine rt_z dX0_isMistaken_102 rfl (by (repeat' split) <;> omega) ?_
            have tk : (mmF q m (e + 1)).2 = true := (by rw [e0, if_pos ⟨by omega, tb1.mp c71⟩]; show decide (q.2 e 2 ≠ q.2 m 2 ∧ q.2 e 3 = q.2 m 3) = true; exact decide_eq_true (by omega))
            have tm : miB q m = true := (by unfold miB; rw [mmF_t tk q.1 (by omega)]; rfl)
            rw [tm] at hP
            exact hP
      · refine st_goto (q := 132) dX0_isMistaken_74 (by decide) ?_
        first | refine n_iinc (q := 135) dX0_isMistaken_132 rfl (by decide) rfl ⟨by omega, by omega⟩ ?_ | refine st_iinc (q := 135) dX0_isMistaken_132 rfl (by decide) rfl ?_
        refine st_goto (q := 36) dX0_isMistaken_135 (by decide) ?_
        first | (rw [if_neg (fun z => absurd z.1 c61)] at e0; have t := lp_X0_isMistaken (d := d) w nx qo hm hP (e + 1) (by omega) (by rw [e0]; exact hf); rw [e0] at t; exact t _) | (rw [if_neg (fun z => absurd c71 (tb1.mpr z.2))] at e0; have t := lp_X0_isMistaken (d := d) w nx qo hm hP (e + 1) (by omega) (by rw [e0]; exact hf); rw [e0] at t; exact t _) | (rw [if_pos ⟨by omega, tb1.mp c71⟩] at e0; have t := lp_X0_isMistaken (d := d) w nx qo hm hP (e + 1) (by omega) (by rw [e0]; exact decide_eq_false (by omega)); first | (rw [if_pos ⟨by omega, tb1.mp c122⟩] at e0; rw [e0] at t; exact t _) | (rw [if_neg (fun z => absurd c122 (tb1.mpr z.2))] at e0; rw [e0] at t; exact t _) | (rw [if_neg (fun z => absurd z.1 c112)] at e0; rw [e0] at t; exact t _))
termination_by q.1 - e
theorem c_X0_isMistaken {d : Nat} {h : JH} {P : Int → JH → Prop} {q : MO} {m : Nat} (w : WF h) (nx : NX h q) (qo : qOk q) (hm : m < q.1) (h0 : q.2 m 0 ≠ 6 → P 0 h) (hP : q.2 m 0 = 6 → P (if miB q m then 1 else 0) h) : JRi (d + 2) jX0_isMistaken [vr 54, vi m] h P := by
  have q1 := qo.1
  have em0 : hI h (56 + ((m : Int)).toNat) 0 = q.2 m 0 := nx.2 m hm 0 (by omega)
  refine JRet.of rfl (Nat.le_of_ble_eq_true rfl) ?_
  refine st_aload_n (q := 1) dX0_isMistaken_0 rfl rfl ?_
  refine st_iload_n (q := 2) dX0_isMistaken_1 rfl rfl ?_
  refine iV1i (q := 5) dX0_isMistaken_2 rfl ml_X0_44 mv_X0_has (Nat.le_of_ble_eq_true rfl) (by first | exact wfk w rfl | exact xmk (h := h) w (by omega)) ?_
  refine c_X0_has w nx ?_
  refine st_if_eq (q := 8) (tgt := 22) dX0_isMistaken_5 (by decide) rfl (fun c5 => ?_) (fun c5 => ?_)
  · refine st_iconst (q := 23) dX0_isMistaken_22 ⟨by decide, by decide⟩ rfl ?_
    refine rt_z dX0_isMistaken_23 rfl (by (repeat' split) <;> omega) ?_
    first | exact h0 (by omega) | (exfalso; omega)
  · refine st_aload_n (q := 9) dX0_isMistaken_8 rfl rfl ?_
    refine st_getR (q := 12) 0 0 dX0_isMistaken_9 fl_X0_11 (by decide) (by decide) rfl rfl (by first | exact wfk w rfl | exact xmk (h := h) w (by omega)) (wfR w rfl) ?_
    refine st_iload_n (q := 13) dX0_isMistaken_12 rfl rfl ?_
    refine st_aaload (q := 14) (t := 5) dX0_isMistaken_13 rfl ⟨by decide, by decide⟩ (by first | exact wfk w rfl | exact xmk (h := h) w (by omega)) (wfb w (n := 40) rfl ⟨by omega, by omega⟩) (xmom (h := h) w (by omega)) ?_
    refine st_getI (q := 17) 3 0 dX0_isMistaken_14 fl_X0_22 (by decide) (by decide) rfl rfl (by first | exact wfk w rfl | exact xmk (h := h) w (by omega)) ?_
    refine j_top _ em0 ?_
    refine st_bipush (q := 19) dX0_isMistaken_17 ⟨by decide, by decide⟩ rfl ?_
    refine st_icmp_eq (q := 22) (tgt := 24) dX0_isMistaken_19 (by decide) rfl (fun c19 => ?_) (fun c19 => ?_)
    · refine st_aload_n (q := 25) dX0_isMistaken_24 rfl rfl ?_
      refine st_getR (q := 28) 0 0 dX0_isMistaken_25 fl_X0_11 (by decide) (by decide) rfl rfl (by first | exact wfk w rfl | exact xmk (h := h) w (by omega)) (wfR w rfl) ?_
      refine st_iload_n (q := 29) dX0_isMistaken_28 rfl rfl ?_
      refine st_aaload (q := 30) (t := 5) dX0_isMistaken_29 rfl ⟨by decide, by decide⟩ (by first | exact wfk w rfl | exact xmk (h := h) w (by omega)) (wfb w (n := 40) rfl ⟨by omega, by omega⟩) (xmom (h := h) w (by omega)) ?_
      refine st_astore_n (q := 31) (i := 2) dX0_isMistaken_30 rfl (by decide) rfl ?_
      refine st_iload_n (q := 32) dX0_isMistaken_31 rfl rfl ?_
      refine st_istore_n (q := 33) (i := 3) dX0_isMistaken_32 rfl (by decide) rfl ?_
      refine st_iconst (q := 34) dX0_isMistaken_33 ⟨by decide, by decide⟩ rfl ?_
      refine st_istore (q := 36) dX0_isMistaken_34 (by decide) rfl ?_
      exact lp_X0_isMistaken w nx qo hm (hP (by omega)) 0 (by omega) rfl _
    · refine st_iconst (q := 23) dX0_isMistaken_22 ⟨by decide, by decide⟩ rfl ?_
      refine rt_z dX0_isMistaken_23 rfl (by (repeat' split) <;> omega) ?_
      first | exact h0 (by omega) | (exfalso; omega)
theorem lp_X11_mistaken {d : Nat} {h : JH} {P : Int → JH → Prop} {q : MO} (w : WF h) (nx : NX h q) (qo : qOk q) (hP : P (miF q q.1).1 (sI h 0 11 (miF q q.1).2)) (m : Nat) (hm : m ≤ q.1) (hz : (miF q m).2 = -9 ∨ 0 ≤ (miF q m).2) : JAt k0 (d + 3) jX11_mistaken 7 [vr 0, vi (miF q m).1, vi (miF q m).2, vi m] [] h (jqi P) := by
  have n1 := nx.1
  have q1 := qo.1
  have s1 := miF_b q m
  have e0 : miF q (m + 1) = if q.2 m 0 = 6 ∧ miB q m = true then ((miF q m).1 + 1, if (miF q m).2 < 0 ∨ ahd q m (miF q m).2.toNat = true then (m : Int) else (miF q m).2) else miF q m := rfl
  refine st_iload_n (q := 8) dX11_mistaken_7 rfl rfl ?_
  refine st_aload_n (q := 9) dX11_mistaken_8 rfl rfl ?_
  refine st_getR (q := 12) 11 8 dX11_mistaken_9 fl_X11_63 (by decide) (by decide) rfl rfl (wfk w rfl) (wfR w rfl) ?_
  refine st_getI (q := 15) 0 1 dX11_mistaken_12 fl_X11_329 (by decide) (by decide) rfl rfl (wfk w rfl) ?_
  refine st_icmp_ge (q := 18) (tgt := 62) dX11_mistaken_15 (by decide) rfl (fun c15 => ?_) (fun c15 => ?_)
  · refine st_aload_n (q := 63) dX11_mistaken_62 rfl rfl ?_
    refine st_iload_n (q := 64) dX11_mistaken_63 rfl rfl ?_
    refine iV1i (q := 67) dX11_mistaken_64 rfl ml_X11_106 mv_X11_tell (Nat.le_of_ble_eq_true rfl) (wfk w rfl) ?_
    refine c_X11_tell w ?_
    refine st_pop (q := 68) dX11_mistaken_67 rfl rfl ?_
    refine st_iload_n (q := 69) dX11_mistaken_68 rfl rfl ?_
    refine rt_i dX11_mistaken_69 rfl ?_
    have ee : m = q.1 := by omega
    subst ee
    exact hP
  · refine st_aload_n (q := 19) dX11_mistaken_18 rfl rfl ?_
    refine st_getR (q := 22) 11 8 dX11_mistaken_19 fl_X11_63 (by decide) (by decide) rfl rfl (wfk w rfl) (wfR w rfl) ?_
    refine st_iload_n (q := 23) dX11_mistaken_22 rfl rfl ?_
    refine iV1i (q := 26) dX11_mistaken_23 rfl ml_X11_371 mv_X0_isMistaken (Nat.le_of_ble_eq_true rfl) (wfk w rfl) ?_
    refine c_X0_isMistaken w nx qo (by omega) (fun z6 => ?_) (fun z6 => ?_)
    · refine st_if_eq (q := 29) (tgt := 56) dX11_mistaken_26 (by decide) rfl (fun _ => ?_) (fun z => absurd z (by decide))
      first | refine n_iinc (q := 59) dX11_mistaken_56 rfl (by decide) rfl ⟨by omega, by omega⟩ ?_ | refine st_iinc (q := 59) dX11_mistaken_56 rfl (by decide) rfl ?_
      refine st_goto (q := 7) dX11_mistaken_59 (by decide) ?_
      first | (rw [if_neg (fun z => z6 z.1)] at e0; have t := lp_X11_mistaken (d := d) w nx qo hP (m + 1) (by omega) (by rw [e0]; exact hz); rw [e0] at t; exact t) | (rw [if_neg (fun z => absurd c26 (tb1.mpr z.2))] at e0; have t := lp_X11_mistaken (d := d) w nx qo hP (m + 1) (by omega) (by rw [e0]; exact hz); rw [e0] at t; exact t) | (rw [if_pos ⟨z6, tb1.mp c26⟩] at e0; have t := lp_X11_mistaken (d := d) w nx qo hP (m + 1) (by omega) (by rw [e0]; show _ ∨ 0 ≤ (if (miF q m).2 < 0 ∨ ahd q m (miF q m).2.toNat = true then (m : Int) else (miF q m).2); split <;> omega); first | (rw [if_pos (by first | exact Or.inl (by omega) | exact Or.inr (tb1.mp c44))] at e0; rw [e0] at t; exact t) | (rw [if_neg (fun z => z.elim (fun z => by omega) (fun z => absurd c44 (tb1.mpr z)))] at e0; rw [e0] at t; exact t))
    · refine st_if_eq (q := 29) (tgt := 56) dX11_mistaken_26 (by decide) rfl (fun c26 => ?_) (fun c26 => ?_)
      · first | refine n_iinc (q := 59) dX11_mistaken_56 rfl (by decide) rfl ⟨by omega, by omega⟩ ?_ | refine st_iinc (q := 59) dX11_mistaken_56 rfl (by decide) rfl ?_
        refine st_goto (q := 7) dX11_mistaken_59 (by decide) ?_
        first | (rw [if_neg (fun z => z6 z.1)] at e0; have t := lp_X11_mistaken (d := d) w nx qo hP (m + 1) (by omega) (by rw [e0]; exact hz); rw [e0] at t; exact t) | (rw [if_neg (fun z => absurd c26 (tb1.mpr z.2))] at e0; have t := lp_X11_mistaken (d := d) w nx qo hP (m + 1) (by omega) (by rw [e0]; exact hz); rw [e0] at t; exact t) | (rw [if_pos ⟨z6, tb1.mp c26⟩] at e0; have t := lp_X11_mistaken (d := d) w nx qo hP (m + 1) (by omega) (by rw [e0]; show _ ∨ 0 ≤ (if (miF q m).2 < 0 ∨ ahd q m (miF q m).2.toNat = true then (m : Int) else (miF q m).2); split <;> omega); first | (rw [if_pos (by first | exact Or.inl (by omega) | exact Or.inr (tb1.mp c44))] at e0; rw [e0] at t; exact t) | (rw [if_neg (fun z => z.elim (fun z => by omega) (fun z => absurd c44 (tb1.mpr z)))] at e0; rw [e0] at t; exact t))
      · refine st_iload_n (q := 30) dX11_mistaken_29 rfl rfl ?_
        refine st_bipush (q := 32) dX11_mistaken_30 ⟨by decide, by decide⟩ rfl ?_
        refine st_icmp_eq (q := 35) (tgt := 47) dX11_mistaken_32 (by decide) rfl (fun c32 => ?_) (fun c32 => ?_)
        · refine st_iload_n (q := 48) dX11_mistaken_47 rfl rfl ?_
          refine st_goto (q := 52) dX11_mistaken_48 (by decide) ?_
          refine st_istore_n (q := 53) (i := 2) dX11_mistaken_52 rfl (by decide) rfl ?_
          first | refine n_iinc (q := 56) dX11_mistaken_53 rfl (by decide) rfl ⟨by omega, by omega⟩ ?_ | refine st_iinc (q := 56) dX11_mistaken_53 rfl (by decide) rfl ?_
          first | refine n_iinc (q := 59) dX11_mistaken_56 rfl (by decide) rfl ⟨by omega, by omega⟩ ?_ | refine st_iinc (q := 59) dX11_mistaken_56 rfl (by decide) rfl ?_
          refine st_goto (q := 7) dX11_mistaken_59 (by decide) ?_
          first | (rw [if_neg (fun z => z6 z.1)] at e0; have t := lp_X11_mistaken (d := d) w nx qo hP (m + 1) (by omega) (by rw [e0]; exact hz); rw [e0] at t; exact t) | (rw [if_neg (fun z => absurd c26 (tb1.mpr z.2))] at e0; have t := lp_X11_mistaken (d := d) w nx qo hP (m + 1) (by omega) (by rw [e0]; exact hz); rw [e0] at t; exact t) | (rw [if_pos ⟨z6, tb1.mp c26⟩] at e0; have t := lp_X11_mistaken (d := d) w nx qo hP (m + 1) (by omega) (by rw [e0]; show _ ∨ 0 ≤ (if (miF q m).2 < 0 ∨ ahd q m (miF q m).2.toNat = true then (m : Int) else (miF q m).2); split <;> omega); first | (rw [if_pos (by first | exact Or.inl (by omega) | exact Or.inr (tb1.mp c44))] at e0; rw [e0] at t; exact t) | (rw [if_neg (fun z => z.elim (fun z => by omega) (fun z => absurd c44 (tb1.mpr z)))] at e0; rw [e0] at t; exact t))
        · refine st_aload_n (q := 36) dX11_mistaken_35 rfl rfl ?_
          refine st_getR (q := 39) 11 8 dX11_mistaken_36 fl_X11_63 (by decide) (by decide) rfl rfl (wfk w rfl) (wfR w rfl) ?_
          refine st_iload_n (q := 40) dX11_mistaken_39 rfl rfl ?_
          refine st_iload_n (q := 41) dX11_mistaken_40 rfl rfl ?_
          refine iV2i (q := 44) dX11_mistaken_41 rfl ml_X11_374 mv_X0_isEarlier (Nat.le_of_ble_eq_true rfl) (wfk w rfl) ?_
          refine c_X0_isEarlier w nx qo (by omega) (by omega) ?_
          rw [show ((m : Int)).toNat = m from rfl]
          refine st_if_eq (q := 47) (tgt := 51) dX11_mistaken_44 (by decide) rfl (fun c44 => ?_) (fun c44 => ?_)
          · refine st_iload_n (q := 52) dX11_mistaken_51 rfl rfl ?_
            refine st_istore_n (q := 53) (i := 2) dX11_mistaken_52 rfl (by decide) rfl ?_
            first | refine n_iinc (q := 56) dX11_mistaken_53 rfl (by decide) rfl ⟨by omega, by omega⟩ ?_ | refine st_iinc (q := 56) dX11_mistaken_53 rfl (by decide) rfl ?_
            first | refine n_iinc (q := 59) dX11_mistaken_56 rfl (by decide) rfl ⟨by omega, by omega⟩ ?_ | refine st_iinc (q := 59) dX11_mistaken_56 rfl (by decide) rfl ?_
            refine st_goto (q := 7) dX11_mistaken_59 (by decide) ?_
            first | (rw [if_neg (fun z => z6 z.1)] at e0; have t := lp_X11_mistaken (d := d) w nx qo hP (m + 1) (by omega) (by rw [e0]; exact hz); rw [e0] at t; exact t) | (rw [if_neg (fun z => absurd c26 (tb1.mpr z.2))] at e0; have t := lp_X11_mistaken (d := d) w nx qo hP (m + 1) (by omega) (by rw [e0]; exact hz); rw [e0] at t; exact t) | (rw [if_pos ⟨z6, tb1.mp c26⟩] at e0; have t := lp_X11_mistaken (d := d) w nx qo hP (m + 1) (by omega) (by rw [e0]; show _ ∨ 0 ≤ (if (miF q m).2 < 0 ∨ ahd q m (miF q m).2.toNat = true then (m : Int) else (miF q m).2); split <;> omega); first | (rw [if_pos (by first | exact Or.inl (by omega) | exact Or.inr (tb1.mp c44))] at e0; rw [e0] at t; exact t) | (rw [if_neg (fun z => z.elim (fun z => by omega) (fun z => absurd c44 (tb1.mpr z)))] at e0; rw [e0] at t; exact t))
          · refine st_iload_n (q := 48) dX11_mistaken_47 rfl rfl ?_
            refine st_goto (q := 52) dX11_mistaken_48 (by decide) ?_
            refine st_istore_n (q := 53) (i := 2) dX11_mistaken_52 rfl (by decide) rfl ?_
            first | refine n_iinc (q := 56) dX11_mistaken_53 rfl (by decide) rfl ⟨by omega, by omega⟩ ?_ | refine st_iinc (q := 56) dX11_mistaken_53 rfl (by decide) rfl ?_
            first | refine n_iinc (q := 59) dX11_mistaken_56 rfl (by decide) rfl ⟨by omega, by omega⟩ ?_ | refine st_iinc (q := 59) dX11_mistaken_56 rfl (by decide) rfl ?_
            refine st_goto (q := 7) dX11_mistaken_59 (by decide) ?_
            first | (rw [if_neg (fun z => z6 z.1)] at e0; have t := lp_X11_mistaken (d := d) w nx qo hP (m + 1) (by omega) (by rw [e0]; exact hz); rw [e0] at t; exact t) | (rw [if_neg (fun z => absurd c26 (tb1.mpr z.2))] at e0; have t := lp_X11_mistaken (d := d) w nx qo hP (m + 1) (by omega) (by rw [e0]; exact hz); rw [e0] at t; exact t) | (rw [if_pos ⟨z6, tb1.mp c26⟩] at e0; have t := lp_X11_mistaken (d := d) w nx qo hP (m + 1) (by omega) (by rw [e0]; show _ ∨ 0 ≤ (if (miF q m).2 < 0 ∨ ahd q m (miF q m).2.toNat = true then (m : Int) else (miF q m).2); split <;> omega); first | (rw [if_pos (by first | exact Or.inl (by omega) | exact Or.inr (tb1.mp c44))] at e0; rw [e0] at t; exact t) | (rw [if_neg (fun z => z.elim (fun z => by omega) (fun z => absurd c44 (tb1.mpr z)))] at e0; rw [e0] at t; exact t))
termination_by q.1 - m
theorem pr_mistaken {d : Nat} {h : JH} (I : Inv h) : Two (d + 4) jX11_mistaken jX12_mistaken [] h := by
  have w := I.1
  obtain ⟨q, qo, nm, nx⟩ := I.2.2.2.2.2.2.2.1
  have g := c_X12_mistaken (d := d + 1) (h := sI h 0 11 (miF q q.1).2) (q := q) (P := fun v' h2 => ((miF q q.1).1 : Int) = v' ∧ Inv h2) w nm qo ⟨rfl, inv_ask I _⟩
  refine JRet.of rfl (Nat.le_of_ble_eq_true rfl) ?_
  refine st_iconst (q := 1) dX11_mistaken_0 ⟨by decide, by decide⟩ rfl ?_
  refine st_istore_n (q := 2) (i := 1) dX11_mistaken_1 rfl (by decide) rfl ?_
  refine st_bipush (q := 4) dX11_mistaken_2 ⟨by decide, by decide⟩ rfl ?_
  refine st_istore_n (q := 5) (i := 2) dX11_mistaken_4 rfl (by decide) rfl ?_
  refine st_iconst (q := 6) dX11_mistaken_5 ⟨by decide, by decide⟩ rfl ?_
  refine st_istore_n (q := 7) (i := 3) dX11_mistaken_6 rfl (by decide) rfl ?_
  exact lp_X11_mistaken w nx qo g 0 (by omega) (Or.inl rfl)

