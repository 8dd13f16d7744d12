/-! shortest: the two rarest are put together, again and again; by how often a number stands -/
def cnI (f : Nat → Int) (v : Int) : Nat → Nat
  | 0 => 0
  | n + 1 => cnI f v n + (if f n = v then 1 else 0)
def mnC (c : Int → Nat) : Nat → Nat → Int
  | 0, k => (k : Int)
  | m + 1, k => if c k ≠ 0 then (k : Int) else mnC c m (k + 1)
theorem mnC_e {c : Int → Nat} {a : Nat} (h1 : c a ≠ 0) (h2 : ∀ v : Nat, v < a → c v = 0) : ∀ (m k : Nat), k ≤ a → a < k + m → mnC c m k = (a : Int)
  | 0, k, hk, hm => by omega
  | m + 1, k, hk, hm => by
    unfold mnC
    by_cases e : k = a
    · subst e; rw [if_pos h1]
    · rw [if_neg (fun z => z (h2 k (by omega)))]
      exact mnC_e h1 h2 m (k + 1) (by omega) (by omega)
def dcC (c : Int → Nat) (a : Int) : Int → Nat := fun v => if v = a then c v - 1 else c v
def hufC : Nat → (Int → Nat) → Int
  | 0, _ => 0
  | 1, _ => 0
  | n + 2, c => (mnC c 30000 0 + mnC (dcC c (mnC c 30000 0)) 30000 0) + hufC (n + 1) (fun v => dcC (dcC c (mnC c 30000 0)) (mnC (dcC c (mnC c 30000 0)) 30000 0) v + (if v = mnC c 30000 0 + mnC (dcC c (mnC c 30000 0)) 30000 0 then 1 else 0))
theorem hufC_s (n : Nat) (c : Int → Nat) : hufC (n + 2) c = (mnC c 30000 0 + mnC (dcC c (mnC c 30000 0)) 30000 0) + hufC (n + 1) (fun v => dcC (dcC c (mnC c 30000 0)) (mnC (dcC c (mnC c 30000 0)) 30000 0) v + (if v = mnC c 30000 0 + mnC (dcC c (mnC c 30000 0)) 30000 0 then 1 else 0)) := rfl
theorem cnI_cg {f g : Nat → Int} {v : Int} : ∀ {n : Nat}, (∀ k, k < n → f k = g k) → cnI f v n = cnI g v n
  | 0, _ => rfl
  | n + 1, e => by
    show cnI f v n + (if f n = v then 1 else 0) = cnI g v n + (if g n = v then 1 else 0)
    rw [cnI_cg (fun k hk => e k (by omega)), e n (by omega)]
theorem cnI_up {f : Nat → Int} {v x : Int} {i : Nat} : ∀ {n : Nat}, i < n → cnI (fun k => if k = i then x else f k) v n + (if f i = v then 1 else 0) = cnI f v n + (if x = v then 1 else 0)
  | 0, h => absurd h (Nat.not_lt_zero i)
  | n + 1, h => by
    show cnI (fun k => if k = i then x else f k) v n + (if (if n = i then x else f n) = v then 1 else 0) + (if f i = v then 1 else 0) = cnI f v n + (if f n = v then 1 else 0) + (if x = v then 1 else 0)
    by_cases e : i = n
    · subst e
      rw [if_pos rfl, cnI_cg (f := fun k => if k = i then x else f k) (g := f) (fun k hk => if_neg (by omega))]
      omega
    · have ih := cnI_up (f := f) (v := v) (x := x) (i := i) (n := n) (by omega)
      rw [if_neg (show ¬ n = i by omega)]
      omega
/-- the places i and m change their numbers -/
def swF (f : Nat → Int) (i m : Nat) : Nat → Int := fun k => if k = m then f i else if k = i then f m else f k
theorem cnI_sw {f : Nat → Int} {v : Int} {i m : Nat} (h : i ≤ m) : cnI (swF f i m) v (m + 1) = cnI f v (m + 1) := by
  by_cases e : i = m
  · subst e
    exact cnI_cg (fun k hk => by unfold swF; by_cases z : k = i; (rw [if_pos z, z]); (rw [if_neg z, if_neg z]))
  · show cnI (swF f i m) v m + (if swF f i m m = v then 1 else 0) = cnI f v m + (if f m = v then 1 else 0)
    have u := cnI_up (f := f) (v := v) (x := f m) (i := i) (n := m) (by omega)
    rw [cnI_cg (f := swF f i m) (g := fun k => if k = i then f m else f k) (fun k hk => by unfold swF; rw [if_neg (by omega)]), show swF f i m m = f i from if_pos rfl]
    omega
theorem cnI_0 {f : Nat → Int} {v : Int} : ∀ {n : Nat}, (∀ k, k < n → f k ≠ v) → cnI f v n = 0
  | 0, _ => rfl
  | n + 1, h => by
    show cnI f v n + (if f n = v then 1 else 0) = 0
    rw [cnI_0 (fun k hk => h k (by omega)), if_neg (h n (by omega))]
theorem cnI_p {f : Nat → Int} {n i : Nat} (h : i < n) : cnI f (f i) n ≠ 0 := by
  induction n with
  | zero => omega
  | succ n ih =>
    show cnI f (f i) n + (if f n = f i then 1 else 0) ≠ 0
    by_cases e : i = n
    · subst e; rw [if_pos rfl]; omega
    · have := ih (by omega); omega
/-- the least of the first n is put to the last of their places -/
def Pas (n : Nat) (f f' : Nat → Int) : Prop := (∀ v, cnI f' v n = cnI f v n) ∧ (∀ j, j < n → f' (n - 1) ≤ f' j) ∧ (∀ j, n ≤ j → f' j = f j) ∧ ∀ B : Int, (∀ j, j < n → 1 ≤ f j ∧ f j ≤ B) → ∀ j, j < n → 1 ≤ f' j ∧ f' j ≤ B
theorem Pas.mn {n : Nat} {f f' : Nat → Int} (p : Pas n f f') (hn : 1 ≤ n) (hb : ∀ j, j < n → 1 ≤ f j ∧ f j ≤ 25344) : mnC (fun v => cnI f v n) 30000 0 = f' (n - 1) := by
  have hb' := p.2.2.2 25344 hb
  have b := hb' (n - 1) (by omega)
  have e : f' (n - 1) = ((f' (n - 1)).toNat : Int) := by omega
  rw [e]
  refine mnC_e ?_ (fun v hv => ?_) 30000 0 (Nat.zero_le _) (by omega)
  · show cnI f ((f' (n - 1)).toNat : Int) n ≠ 0
    rw [← p.1, ← e]
    exact cnI_p (by omega)
  · show cnI f (v : Int) n = 0
    rw [← p.1]
    exact cnI_0 (fun k hk => by have := p.2.1 k hk; omega)
theorem Pas.dc {n : Nat} {f f' : Nat → Int} (p : Pas (n + 1) f f') : dcC (fun v => cnI f v (n + 1)) (f' n) = fun v => cnI f' v n := by
  funext v
  unfold dcC
  have e : cnI f' v (n + 1) = cnI f' v n + (if f' n = v then 1 else 0) := rfl
  have q := p.1 v
  by_cases z : v = f' n
  · rw [if_pos z]
    rw [if_pos z.symm] at e
    show cnI f v (n + 1) - 1 = _
    omega
  · rw [if_neg z]
    rw [if_neg (fun t => z t.symm)] at e
    show cnI f v (n + 1) = _
    omega
/-- one step: two passes, then both numbers go together -/
theorem huf_s {n : Nat} {f f1 f2 : Nat → Int} (p1 : Pas (n + 2) f f1) (p2 : Pas (n + 1) f1 f2) (hb : ∀ j, j < n + 2 → 1 ≤ f j ∧ f j ≤ 25344) : hufC (n + 2) (fun v => cnI f v (n + 2)) = (f2 n + f2 (n + 1)) + hufC (n + 1) (fun v => cnI (fun k => if k = n then f2 n + f2 (n + 1) else f2 k) v (n + 1)) := by
  have b1 := p1.2.2.2 25344 hb
  have m1 := p1.mn (by omega) hb
  rw [show n + 2 - 1 = n + 1 by omega] at m1
  have d1 := p1.dc
  have m2 := p2.mn (by omega) (fun j hj => b1 j (by omega))
  rw [show n + 1 - 1 = n by omega] at m2
  have d2 := p2.dc
  have e1 : f2 (n + 1) = f1 (n + 1) := p2.2.2.1 (n + 1) (Nat.le_refl _)
  rw [hufC_s, m1, d1, m2, d2, e1]
  have eS : f1 (n + 1) + f2 n = f2 n + f1 (n + 1) := Int.add_comm _ _
  rw [eS]
  congr 1
  congr 1
  funext v
  have u : cnI (fun k => if k = n then f2 n + f1 (n + 1) else f2 k) v (n + 1) = cnI (fun k => if k = n then f2 n + f1 (n + 1) else f2 k) v n + (if (if n = n then f2 n + f1 (n + 1) else f2 n) = v then 1 else 0) := rfl
  rw [u, if_pos rfl, cnI_cg (f := fun k => if k = n then f2 n + f1 (n + 1) else f2 k) (g := f2) (fun k hk => if_neg (by omega))]
  by_cases z : v = f2 n + f1 (n + 1)
  · rw [if_pos z, if_pos z.symm]
  · rw [if_neg z, if_neg (fun t => z t.symm)]
/-! the class: shortest -/
theorem lp_X6_mlb {d : Nat} {h : JH} {P : JH → Prop} {f : Nat → Int} {n : Nat} (w : WF h) (hn : 1 ≤ n ∧ n ≤ 8) (hP : ∀ f', Pas n f f' → P (wI h 51 f')) (i : Nat) (hi : i + 1 ≤ n) : ∀ (g : Nat → Int) (j : JV), (∀ v, cnI g v n = cnI f v n) → (∀ j, j < i → g (n - 1) ≤ g j) → (∀ j, n ≤ j → g j = f j) → (∀ B : Int, (∀ j, j < n → 1 ≤ f j ∧ f j ≤ B) → ∀ j, j < n → 1 ≤ g j ∧ g j ≤ B) → JAt k0 d jX6_moveLeastBehind 2 [vr 48, vi n, vi i, j] [] (wI h 51 g) (jqv P) := by
  intro g j g1 g2 g3 g4
  have eg : hI (wI h 51 g) 51 = g := wI_at _ _ _
  have en : ((n : Int) - 1).toNat = n - 1 := by omega
  refine st_iload_n (q := 3) dX6_moveLeastBehind_2 rfl rfl ?_
  refine st_iconst (q := 4) dX6_moveLeastBehind_3 ⟨by decide, by decide⟩ rfl ?_
  first | refine n_iadd (q := 5) dX6_moveLeastBehind_4 rfl ⟨by omega, by omega⟩ ?_ | refine st_iadd (q := 5) dX6_moveLeastBehind_4 rfl ?_
  refine st_iload_n (q := 6) dX6_moveLeastBehind_5 rfl rfl ?_
  refine st_icmp_ge (q := 9) (tgt := 68) dX6_moveLeastBehind_6 (by decide) rfl (fun c6 => ?_) (fun c6 => ?_)
  · refine rt_v dX6_moveLeastBehind_68 rfl ?_
    exact hP g ⟨g1, fun j hj => by (by_cases z : j = n - 1; (rw [z]; exact Int.le_refl _); exact g2 j (by omega)), g3, g4⟩
  · refine st_iload_n (q := 10) dX6_moveLeastBehind_9 rfl rfl ?_
    refine st_bipush (q := 12) dX6_moveLeastBehind_10 ⟨by decide, by decide⟩ rfl ?_
    refine st_icmp_gt (q := 15) (tgt := 68) dX6_moveLeastBehind_12 (by decide) rfl (fun c12 => ?_) (fun c12 => ?_)
    · refine rt_v dX6_moveLeastBehind_68 rfl ?_
      exact hP g ⟨g1, fun j hj => by (by_cases z : j = n - 1; (rw [z]; exact Int.le_refl _); exact g2 j (by omega)), g3, g4⟩
    · refine st_aload_n (q := 16) dX6_moveLeastBehind_15 rfl rfl ?_
      refine st_getR (q := 19) 6 2 dX6_moveLeastBehind_16 fl_X6_18 (by decide) (by decide) rfl rfl (wfk w rfl) (wfR w rfl) ?_
      refine st_iload_n (q := 20) dX6_moveLeastBehind_19 rfl rfl ?_
      refine st_iaload (q := 21) dX6_moveLeastBehind_20 rfl (wfk w rfl) (wfb w (n := 8) rfl ⟨by omega, by omega⟩) ?_
      refine j_top (g i) (by rw [eg]; rfl) ?_
      refine st_aload_n (q := 22) dX6_moveLeastBehind_21 rfl rfl ?_
      refine st_getR (q := 25) 6 2 dX6_moveLeastBehind_22 fl_X6_18 (by decide) (by decide) rfl rfl (wfk w rfl) (wfR w rfl) ?_
      refine st_iload_n (q := 26) dX6_moveLeastBehind_25 rfl rfl ?_
      refine st_iconst (q := 27) dX6_moveLeastBehind_26 ⟨by decide, by decide⟩ rfl ?_
      first | refine n_isub (q := 28) dX6_moveLeastBehind_27 rfl ⟨by omega, by omega⟩ ?_ | refine st_isub (q := 28) dX6_moveLeastBehind_27 rfl ?_
      refine st_iaload (q := 29) dX6_moveLeastBehind_28 rfl (wfk w rfl) (wfb w (n := 8) rfl ⟨by omega, by omega⟩) ?_
      refine j_top (g (n - 1)) (by rw [eg, en]) ?_
      refine st_icmp_ge (q := 32) (tgt := 62) dX6_moveLeastBehind_29 (by decide) rfl (fun c29 => ?_) (fun c29 => ?_)
      · first | refine n_iinc (q := 65) dX6_moveLeastBehind_62 rfl (by decide) rfl ⟨by omega, by omega⟩ ?_ | refine st_iinc (q := 65) dX6_moveLeastBehind_62 rfl (by decide) rfl ?_
        refine st_goto (q := 2) dX6_moveLeastBehind_65 (by decide) ?_
        first | (rw [sI_wI, sI_wI, en, show ((i : Int)).toNat = i from rfl]; refine lp_X6_mlb w hn hP (i + 1) (by omega) (swF g i (n - 1)) _ (fun v => ?_) (fun j hj => ?_) (fun j hj => ?_) (fun B hB j hj => ?_); (have t := cnI_sw (f := g) (v := v) (i := i) (m := n - 1) (by omega); rw [show n - 1 + 1 = n by omega] at t; rw [t]; exact g1 v); (unfold swF; rw [if_pos rfl, if_neg (show ¬ j = n - 1 by omega)]; by_cases z : j = i; (rw [if_pos z]; omega); (rw [if_neg z]; have := g2 j (by omega); omega)); (unfold swF; rw [if_neg (by omega), if_neg (by omega)]; exact g3 j hj); (unfold swF; have q1 := g4 B hB i (by omega); have q2 := g4 B hB (n - 1) (by omega); have q3 := g4 B hB j hj; (repeat' split) <;> assumption)) | exact lp_X6_mlb w hn hP (i + 1) (by omega) g _ g1 (fun j hj => by by_cases z : j = i; (rw [z]; omega); exact g2 j (by omega)) g3 g4
      · refine st_aload_n (q := 33) dX6_moveLeastBehind_32 rfl rfl ?_
        refine st_getR (q := 36) 6 2 dX6_moveLeastBehind_33 fl_X6_18 (by decide) (by decide) rfl rfl (wfk w rfl) (wfR w rfl) ?_
        refine st_iload_n (q := 37) dX6_moveLeastBehind_36 rfl rfl ?_
        refine st_iaload (q := 38) dX6_moveLeastBehind_37 rfl (wfk w rfl) (wfb w (n := 8) rfl ⟨by omega, by omega⟩) ?_
        refine j_top (g i) (by rw [eg]; rfl) ?_
        refine st_istore_n (q := 39) (i := 3) dX6_moveLeastBehind_38 rfl (by decide) rfl ?_
        refine st_aload_n (q := 40) dX6_moveLeastBehind_39 rfl rfl ?_
        refine st_getR (q := 43) 6 2 dX6_moveLeastBehind_40 fl_X6_18 (by decide) (by decide) rfl rfl (wfk w rfl) (wfR w rfl) ?_
        refine st_iload_n (q := 44) dX6_moveLeastBehind_43 rfl rfl ?_
        refine st_aload_n (q := 45) dX6_moveLeastBehind_44 rfl rfl ?_
        refine st_getR (q := 48) 6 2 dX6_moveLeastBehind_45 fl_X6_18 (by decide) (by decide) rfl rfl (wfk w rfl) (wfR w rfl) ?_
        refine st_iload_n (q := 49) dX6_moveLeastBehind_48 rfl rfl ?_
        refine st_iconst (q := 50) dX6_moveLeastBehind_49 ⟨by decide, by decide⟩ rfl ?_
        first | refine n_isub (q := 51) dX6_moveLeastBehind_50 rfl ⟨by omega, by omega⟩ ?_ | refine st_isub (q := 51) dX6_moveLeastBehind_50 rfl ?_
        refine st_iaload (q := 52) dX6_moveLeastBehind_51 rfl (wfk w rfl) (wfb w (n := 8) rfl ⟨by omega, by omega⟩) ?_
        refine j_top (g (n - 1)) (by rw [eg, en]) ?_
        refine st_iastore (q := 53) dX6_moveLeastBehind_52 rfl (wfk w rfl) (wfb w (n := 8) rfl ⟨by omega, by omega⟩) ?_
        refine st_aload_n (q := 54) dX6_moveLeastBehind_53 rfl rfl ?_
        refine st_getR (q := 57) 6 2 dX6_moveLeastBehind_54 fl_X6_18 (by decide) (by decide) rfl rfl (wfk w rfl) (wfR w rfl) ?_
        refine st_iload_n (q := 58) dX6_moveLeastBehind_57 rfl rfl ?_
        refine st_iconst (q := 59) dX6_moveLeastBehind_58 ⟨by decide, by decide⟩ rfl ?_
        first | refine n_isub (q := 60) dX6_moveLeastBehind_59 rfl ⟨by omega, by omega⟩ ?_ | refine st_isub (q := 60) dX6_moveLeastBehind_59 rfl ?_
        refine st_iload_n (q := 61) dX6_moveLeastBehind_60 rfl rfl ?_
        refine st_iastore (q := 62) dX6_moveLeastBehind_61 rfl (wfk w rfl) (wfb w (n := 8) rfl ⟨by omega, by omega⟩) ?_
        first | refine n_iinc (q := 65) dX6_moveLeastBehind_62 rfl (by decide) rfl ⟨by omega, by omega⟩ ?_ | refine st_iinc (q := 65) dX6_moveLeastBehind_62 rfl (by decide) rfl ?_
        refine st_goto (q := 2) dX6_moveLeastBehind_65 (by decide) ?_
        first | (rw [sI_wI, sI_wI, en, show ((i : Int)).toNat = i from rfl]; refine lp_X6_mlb w hn hP (i + 1) (by omega) (swF g i (n - 1)) _ (fun v => ?_) (fun j hj => ?_) (fun j hj => ?_) (fun B hB j hj => ?_); (have t := cnI_sw (f := g) (v := v) (i := i) (m := n - 1) (by omega); rw [show n - 1 + 1 = n by omega] at t; rw [t]; exact g1 v); (unfold swF; rw [if_pos rfl, if_neg (show ¬ j = n - 1 by omega)]; by_cases z : j = i; (rw [if_pos z]; omega); (rw [if_neg z]; have := g2 j (by omega); omega)); (unfold swF; rw [if_neg (by omega), if_neg (by omega)]; exact g3 j hj); (unfold swF; have q1 := g4 B hB i (by omega); have q2 := g4 B hB (n - 1) (by omega); have q3 := g4 B hB j hj; (repeat' split) <;> assumption)) | exact lp_X6_mlb w hn hP (i + 1) (by omega) g _ g1 (fun j hj => by by_cases z : j = i; (rw [z]; omega); exact g2 j (by omega)) g3 g4
termination_by n - i
theorem c_X6_mlb {d : Nat} {h : JH} {P : JH → Prop} {f : Nat → Int} {n : Nat} (w : WF h) (hn : 1 ≤ n ∧ n ≤ 8) (hP : ∀ f', Pas n f f' → P (wI h 51 f')) : JRv d jX6_moveLeastBehind [vr 48, vi n] (wI h 51 f) P := by
  refine JRet.of rfl (Nat.le_of_ble_eq_true rfl) ?_
  refine st_iconst (q := 1) dX6_moveLeastBehind_0 ⟨by decide, by decide⟩ rfl ?_
  refine st_istore_n (q := 2) (i := 2) dX6_moveLeastBehind_1 rfl (by decide) rfl ?_
  exact lp_X6_mlb w hn hP 0 (by omega) f _ (fun _ => rfl) (fun j hj => absurd hj (Nat.not_lt_zero j)) (fun _ _ => rfl) (fun B hB => hB)
theorem lp2_X6_leastKnocks {d : Nat} {h : JH} {P : Int → JH → Prop} {a : Nat} {R : Int} {j2 : JV} (w : WF h) (hP : ∀ f, P R (wI h 51 f)) (n : Nat) : ∀ (f : Nat → Int) (S : Int), n ≤ 8 → 1 ≤ n → (∀ j, j < n → 1 ≤ f j ∧ f j ≤ ((99 * 2 ^ (8 - n) : Nat) : Int)) → (0 ≤ S ∧ S ≤ 30000 * (8 - n)) → S + hufC n (fun v => cnI f v n) = R → JAt k0 (d + 1) jX6_leastKnocks 51 [vr 48, vr a, j2, vi S, vi n] [] (wI h 51 f) (jqi P) := by
  intro f S hn hn1 hb hS hR
  have e2 : n = (n - 2) + 2 ∨ n = 1 := by omega
  have pw : 2 ^ (8 - n) ≤ 2 ^ 7 := Nat.pow_le_pow_right (by decide) (by omega)
  refine st_iload (q := 53) dX6_leastKnocks_51 rfl rfl ?_
  refine st_iconst (q := 54) dX6_leastKnocks_53 ⟨by decide, by decide⟩ rfl ?_
  refine st_icmp_le (q := 57) (tgt := 110) dX6_leastKnocks_54 (by decide) rfl (fun c54 => ?_) (fun c54 => ?_)
  · refine st_iload_n (q := 111) dX6_leastKnocks_110 rfl rfl ?_
    refine rt_i dX6_leastKnocks_111 rfl ?_
    have e1 : n = 1 := (by omega)
    subst e1
    refine pq (hP f) ?_ rfl
    rw [← hR]
    show S + 0 = S
    omega
  · refine st_aload_n (q := 58) dX6_leastKnocks_57 rfl rfl ?_
    refine st_iload (q := 60) dX6_leastKnocks_58 rfl rfl ?_
    refine iV1v (q := 63) dX6_leastKnocks_60 rfl ml_X6_65 mv_X6_moveLeastBehind (Nat.le_of_ble_eq_true rfl) (wfk w rfl) ?_
    refine c_X6_mlb w (by omega) (fun f1z p1z => ?_)
    refine st_aload_n (q := 64) dX6_leastKnocks_63 rfl rfl ?_
    refine st_iload (q := 66) dX6_leastKnocks_64 rfl rfl ?_
    refine st_iconst (q := 67) dX6_leastKnocks_66 ⟨by decide, by decide⟩ rfl ?_
    first | refine n_isub (q := 68) dX6_leastKnocks_67 rfl ⟨by omega, by omega⟩ ?_ | refine st_isub (q := 68) dX6_leastKnocks_67 rfl ?_
    refine iV1v (q := 71) dX6_leastKnocks_68 rfl ml_X6_65 mv_X6_moveLeastBehind (Nat.le_of_ble_eq_true rfl) (wfk w rfl) ?_
    rw [show (n : Int) - 1 = ((n - 1 : Nat) : Int) by omega]
    refine c_X6_mlb w (by omega) (fun f2z p2z => ?_)
    have b1z := p1z.2.2.2 _ hb
    have b2z := p2z.2.2.2 _ (fun j hj => b1z j (by omega))
    have c1z := b2z (n - 2) (by omega)
    have c2z : 1 ≤ f2z (n - 1) ∧ f2z (n - 1) ≤ ((99 * 2 ^ (8 - n) : Nat) : Int) := (by rw [p2z.2.2.1 (n - 1) (Nat.le_refl _)]; exact b1z (n - 1) (by omega))
    have egz : hI (wI h 51 f2z) 51 = f2z := wI_at _ _ _
    refine st_aload_n (q := 72) dX6_leastKnocks_71 rfl rfl ?_
    refine st_getR (q := 75) 6 2 dX6_leastKnocks_72 fl_X6_18 (by decide) (by decide) rfl rfl (wfk w rfl) (wfR w rfl) ?_
    refine st_iload (q := 77) dX6_leastKnocks_75 rfl rfl ?_
    refine st_iconst (q := 78) dX6_leastKnocks_77 ⟨by decide, by decide⟩ rfl ?_
    first | refine n_isub (q := 79) dX6_leastKnocks_78 rfl ⟨by omega, by omega⟩ ?_ | refine st_isub (q := 79) dX6_leastKnocks_78 rfl ?_
    refine st_dup2 (q := 80) dX6_leastKnocks_79 rfl rfl rfl ?_
    refine st_iaload (q := 81) dX6_leastKnocks_80 rfl (wfk w rfl) (wfb w (n := 8) rfl ⟨by omega, by omega⟩) ?_
    refine j_top (f2z (n - 2)) (by rw [egz, show ((n : Int) - 2).toNat = n - 2 by omega]) ?_
    refine st_aload_n (q := 82) dX6_leastKnocks_81 rfl rfl ?_
    refine st_getR (q := 85) 6 2 dX6_leastKnocks_82 fl_X6_18 (by decide) (by decide) rfl rfl (wfk w rfl) (wfR w rfl) ?_
    refine st_iload (q := 87) dX6_leastKnocks_85 rfl rfl ?_
    refine st_iconst (q := 88) dX6_leastKnocks_87 ⟨by decide, by decide⟩ rfl ?_
    first | refine n_isub (q := 89) dX6_leastKnocks_88 rfl ⟨by omega, by omega⟩ ?_ | refine st_isub (q := 89) dX6_leastKnocks_88 rfl ?_
    refine st_iaload (q := 90) dX6_leastKnocks_89 rfl (wfk w rfl) (wfb w (n := 8) rfl ⟨by omega, by omega⟩) ?_
    refine j_top (f2z (n - 1)) (by rw [egz, show ((n : Int) - 1).toNat = n - 1 by omega]) ?_
    first | refine n_iadd (q := 91) dX6_leastKnocks_90 rfl ⟨by omega, by omega⟩ ?_ | refine st_iadd (q := 91) dX6_leastKnocks_90 rfl ?_
    refine st_iastore (q := 92) dX6_leastKnocks_91 rfl (wfk w rfl) (wfb w (n := 8) rfl ⟨by omega, by omega⟩) ?_
    rw [sI_wI, show ((n : Int) - 2).toNat = n - 2 by omega]
    refine st_iload_n (q := 93) dX6_leastKnocks_92 rfl rfl ?_
    refine st_aload_n (q := 94) dX6_leastKnocks_93 rfl rfl ?_
    refine st_getR (q := 97) 6 2 dX6_leastKnocks_94 fl_X6_18 (by decide) (by decide) rfl rfl (wfk w rfl) (wfR w rfl) ?_
    refine st_iload (q := 99) dX6_leastKnocks_97 rfl rfl ?_
    refine st_iconst (q := 100) dX6_leastKnocks_99 ⟨by decide, by decide⟩ rfl ?_
    first | refine n_isub (q := 101) dX6_leastKnocks_100 rfl ⟨by omega, by omega⟩ ?_ | refine st_isub (q := 101) dX6_leastKnocks_100 rfl ?_
    refine st_iaload (q := 102) dX6_leastKnocks_101 rfl (wfk w rfl) (wfb w (n := 8) rfl ⟨by omega, by omega⟩) ?_
    refine j_top (f2z (n - 2) + f2z (n - 1)) (by rw [wI_at, show ((n : Int) - 2).toNat = n - 2 by omega, if_pos rfl]) ?_
    first | refine n_iadd (q := 103) dX6_leastKnocks_102 rfl ⟨by omega, by omega⟩ ?_ | refine st_iadd (q := 103) dX6_leastKnocks_102 rfl ?_
    refine st_istore_n (q := 104) (i := 3) dX6_leastKnocks_103 rfl (by decide) rfl ?_
    first | refine n_iinc (q := 107) dX6_leastKnocks_104 rfl (by decide) rfl ⟨by omega, by omega⟩ ?_ | refine st_iinc (q := 107) dX6_leastKnocks_104 rfl (by decide) rfl ?_
    refine st_goto (q := 51) dX6_leastKnocks_107 (by decide) ?_
    have hz := huf_s (n := n - 2) (f := f) (f1 := f1z) (f2 := f2z) (by rw [show n - 2 + 2 = n by omega]; exact p1z) (by rw [show n - 2 + 1 = n - 1 by omega]; exact p2z) (fun j hj => by have q := hb j (by omega); omega)
    rw [show n - 2 + 2 = n by omega, show n - 2 + 1 = n - 1 by omega] at hz
    have p8z : 2 ^ (8 - (n - 1)) = 2 * 2 ^ (8 - n) := (by rw [show 8 - (n - 1) = (8 - n) + 1 by omega, Nat.pow_succ]; omega)
    rw [show (n : Int) + -1 = ((n - 1 : Nat) : Int) by omega]
    exact lp2_X6_leastKnocks w hP (n - 1) _ _ (by omega) (by omega) (fun j hj => by by_cases z : j = n - 2; (rw [if_pos z]; omega); (rw [if_neg z]; have q := b2z j hj; omega)) (by omega) (by rw [← hR, hz]; omega)
termination_by n

