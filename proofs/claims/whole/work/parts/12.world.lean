/-! the world behind the two constructors: kinds and sizes of the cells, and where references go; the facts about them -/
def S0 : List (Nat × Nat) := [(11, 14), (22, 6), (22, 4), (7, 4), (23, 8), (2, 4), (2, 4), (2, 4), (2, 4), (2, 4), (2, 4), (2, 4), (2, 4), (8, 5), (24, 12), (24, 12), (5, 8), (5, 8), (5, 8), (5, 8), (5, 8), (5, 8), (5, 8), (5, 8), (5, 8), (5, 8), (5, 8), (5, 8), (5, 8), (5, 8), (5, 8), (5, 8), (5, 8), (5, 8), (5, 8), (5, 8), (5, 8), (5, 8), (5, 8), (5, 8), (4, 5), (1, 2), (20, 729), (20, 729), (10, 4), (20, 96), (20, 8), (20, 256), (6, 6), (20, 8), (20, 64), (20, 8), (20, 64), (21, 64), (0, 2), (25, 40), (3, 5), (3, 5), (3, 5), (3, 5), (3, 5), (3, 5), (3, 5), (3, 5), (3, 5), (3, 5), (3, 5), (3, 5), (3, 5), (3, 5), (3, 5), (3, 5), (3, 5), (3, 5), (3, 5), (3, 5), (3, 5), (3, 5), (3, 5), (3, 5), (3, 5), (3, 5), (3, 5), (3, 5), (3, 5), (3, 5), (3, 5), (3, 5), (3, 5), (3, 5), (3, 5), (3, 5), (3, 5), (3, 5), (3, 5), (3, 5), (20, 6), (9, 2), (20, 60), (9, 2), (20, 60), (9, 2), (20, 60), (9, 2), (20, 60), (9, 2), (20, 60), (9, 2), (20, 60), (9, 2), (20, 60), (9, 2), (20, 60), (9, 2), (20, 60), (9, 2), (20, 60), (12, 50), (20, 6), (20, 6), (20, 240), (20, 40), (20, 4), (20, 240), (20, 8), (20, 8), (20, 8), (20, 12), (20, 12), (20, 12), (20, 12), (20, 12), (20, 12), (20, 12), (20, 12), (20, 12), (20, 12), (20, 12), (20, 12), (20, 12), (20, 4096), (20, 4096), (20, 8), (20, 96), (20, 8), (20, 8), (20, 8), (20, 8), (21, 512), (20, 512), (20, 200)]
def R0t : List (List (Option Nat)) := [[some 1, some 2, some 3, some 13, some 40, some 41, some 44, some 48, some 54, some 96], [some 97, some 99, some 101, some 103, some 105, some 107], [some 109, some 111, some 113, some 115], [some 4], [some 5, some 6, some 7, some 8, some 9, some 10, some 11, some 12], [], [], [], [], [], [], [], [], [some 14, none, some 15], [some 16, some 18, some 20, some 22, some 24, some 26, some 28, some 30, some 32, some 34, some 36, some 38], [some 17, some 19, some 21, some 23, some 25, some 27, some 29, some 31, some 33, some 35, some 37, some 39], [], [], [], [], [], [], [], [], [], [], [], [], [], [], [], [], [], [], [], [], [], [], [], [], [], [some 42, some 43], [], [], [some 45, none, some 46, some 47], [], [], [], [some 49, some 50, some 51, some 52, some 53], [], [], [], [], [], [some 55], [some 56, some 57, some 58, some 59, some 60, some 61, some 62, some 63, some 64, some 65, some 66, some 67, some 68, some 69, some 70, some 71, some 72, some 73, some 74, some 75, some 76, some 77, some 78, some 79, some 80, some 81, some 82, some 83, some 84, some 85, some 86, some 87, some 88, some 89, some 90, some 91, some 92, some 93, some 94, some 95], [], [], [], [], [], [], [], [], [], [], [], [], [], [], [], [], [], [], [], [], [], [], [], [], [], [], [], [], [], [], [], [], [], [], [], [], [], [], [], [], [], [some 98], [], [some 100], [], [some 102], [], [some 104], [], [some 106], [], [some 108], [], [some 110], [], [some 112], [], [some 114], [], [some 116], [], [none, some 118, none, none, none, some 119, some 120, some 121, some 122, some 123, some 124, some 125, some 126, none, none, none, some 127, some 128, some 129, some 130, some 131, none, some 132, some 133, some 134, some 135, some 136, none, none, some 137, some 138, some 139, some 140, some 141, some 142, none, some 143, some 144, some 145, none, none, some 146, some 147, some 148, some 149, none, none, none, some 150], [], [], [], [], [], [], [], [], [], [], [], [], [], [], [], [], [], [], [], [], [], [], [], [], [], [], [], [], [], [], [], [], []]
def R0 (a k : Nat) : Option Nat := (R0t.getD a []).getD k none
def WF (h : JH) : Prop := h.1 = S0 ∧ (∀ a k, ¬ (a = 13 ∧ (k = 0 ∨ k = 2)) → hR h a k = R0 a k) ∧ ((hR h 13 0 = some 14 ∧ hR h 13 2 = some 15) ∨ (hR h 13 0 = some 15 ∧ hR h 13 2 = some 14))
theorem wfk {h : JH} {a c : Nat} (w : WF h) (e : (S0.getD a (99, 0)).1 = c) : kd h a = c := by unfold kd; rw [w.1]; exact e
theorem wfl {h : JH} {a n : Nat} (w : WF h) (e : (S0.getD a (99, 0)).2 = n) : ln h a = n := by unfold ln; rw [w.1]; exact e
theorem wfb {h : JH} {a n : Nat} {i : Int} (w : WF h) (e : (S0.getD a (99, 0)).2 = n) (hi : 0 ≤ i ∧ i < (n : Int)) : 0 ≤ i ∧ i < (ln h a : Int) := by rw [wfl w e]; exact hi
theorem wfR {h : JH} {a k b : Nat} (w : WF h) (e : R0 a k = some b) (ne : ¬ (a = 13 ∧ (k = 0 ∨ k = 2)) := by decide) : hR h a k = some b := (w.2.1 a k ne).trans e
theorem sh_strip : ∀ j, j < 10 → S0.getD (97 + 2 * j) (99, 0) = (9, 2) ∧ S0.getD (98 + 2 * j) (99, 0) = (20, 60) ∧ R0 (97 + 2 * j) 0 = some (98 + 2 * j) := by decide +kernel
theorem sh_rows : ∀ j, j < 6 → R0 1 j = some (97 + 2 * j) := by decide +kernel
theorem sh_texts : ∀ j, j < 4 → R0 2 j = some (109 + 2 * j) := by decide +kernel
theorem sh_hides : ∀ j, j < 8 → R0 4 j = some (5 + j) ∧ S0.getD (5 + j) (99, 0) = (2, 4) := by decide +kernel
theorem sh_scenes : ∀ j, j < 12 → R0 14 j = some (16 + 2 * j) ∧ R0 15 j = some (17 + 2 * j) ∧ S0.getD (16 + 2 * j) (99, 0) = (5, 8) ∧ S0.getD (17 + 2 * j) (99, 0) = (5, 8) := by decide +kernel
theorem sh_moments : ∀ j, j < 40 → R0 55 j = some (56 + j) ∧ S0.getD (56 + j) (99, 0) = (3, 5) := by decide +kernel

/-! names of cells -/
abbrev X : Nat := 0
abbrev xRows : Nat := 1
abbrev xTexts : Nat := 2
abbrev xStage : Nat := 3
abbrev xHides : Nat := 4
abbrev xStory : Nat := 13
abbrev xSc : Nat := 14
abbrev xDr : Nat := 15
abbrev xNight : Nat := 40
abbrev xHands : Nat := 41
abbrev xTrunk : Nat := 44
abbrev xSigns : Nat := 48
abbrev xChron : Nat := 54
abbrev xFind : Nat := 96
abbrev xMasks : Nat := 42
abbrev xCosts : Nat := 43
abbrev xTaken : Nat := 45
abbrev xPlace : Nat := 46
abbrev xReach : Nat := 47
abbrev xSizes : Nat := 49
abbrev xKnocks : Nat := 50
abbrev xWeights : Nat := 51
abbrev xQueue : Nat := 52
abbrev xQueued : Nat := 53
abbrev xMoms : Nat := 55
abbrev M : Nat := 117
abbrev m_findings : Nat := 118
abbrev m_sizes : Nat := 119
abbrev m_rows : Nat := 120
abbrev m_moving : Nat := 121
abbrev m_lengths : Nat := 122
abbrev m_texts : Nat := 123
abbrev m_widths : Nat := 124
abbrev m_heights : Nat := 125
abbrev m_outlines : Nat := 126
abbrev m_shown : Nat := 127
abbrev m_inHand : Nat := 128
abbrev m_least : Nat := 129
abbrev m_most : Nat := 130
abbrev m_kept : Nat := 131
abbrev m_readShown : Nat := 132
abbrev m_readHand : Nat := 133
abbrev m_readLeast : Nat := 134
abbrev m_readMost : Nat := 135
abbrev m_readKept : Nat := 136
abbrev m_markFrom : Nat := 137
abbrev m_markTill : Nat := 138
abbrev m_needs : Nat := 139
abbrev m_costs : Nat := 140
abbrev m_next : Nat := 141
abbrev m_cast : Nat := 142
abbrev m_takes : Nat := 143
abbrev m_order : Nat := 144
abbrev m_placeOf : Nat := 145
abbrev m_knockMany : Nat := 146
abbrev m_knocks : Nat := 147
abbrev m_isSeen : Nat := 148
abbrev m_waiting : Nat := 149
abbrev m_moments : Nat := 150
/-! arithmetic that does not wrap -/
theorem n_iadd {κ : JK} {d : Nat} {y : JM} {pc q : Nat} {ls st : List JV} {h : JH} {Q : Option JV → JH → Prop} {a b : Int} (hd : decode y.2.1 pc = .ok (.iadd, 1)) (hq : pc + 1 = q) (hr : -2147483648 ≤ a + b ∧ a + b < 2147483648) (k : JAt κ d y q ls (vi (a + b) :: st) h Q) : JAt κ d y pc ls (vi b :: vi a :: st) h Q := st_iadd hd hq (by rw [w32_id hr]; exact k)
theorem n_isub {κ : JK} {d : Nat} {y : JM} {pc q : Nat} {ls st : List JV} {h : JH} {Q : Option JV → JH → Prop} {a b : Int} (hd : decode y.2.1 pc = .ok (.isub, 1)) (hq : pc + 1 = q) (hr : -2147483648 ≤ a - b ∧ a - b < 2147483648) (k : JAt κ d y q ls (vi (a - b) :: st) h Q) : JAt κ d y pc ls (vi b :: vi a :: st) h Q := st_isub hd hq (by rw [w32_id hr]; exact k)
theorem n_imul {κ : JK} {d : Nat} {y : JM} {pc q : Nat} {ls st : List JV} {h : JH} {Q : Option JV → JH → Prop} {a b : Int} (hd : decode y.2.1 pc = .ok (.imul, 1)) (hq : pc + 1 = q) (hr : -2147483648 ≤ a * b ∧ a * b < 2147483648) (k : JAt κ d y q ls (vi (a * b) :: st) h Q) : JAt κ d y pc ls (vi b :: vi a :: st) h Q := st_imul hd hq (by rw [w32_id hr]; exact k)
theorem n_ladd {κ : JK} {d : Nat} {y : JM} {pc q : Nat} {ls st : List JV} {h : JH} {Q : Option JV → JH → Prop} {a b : Int} (hd : decode y.2.1 pc = .ok (.ladd, 1)) (hq : pc + 1 = q) (hr : -9223372036854775808 ≤ a + b ∧ a + b < 9223372036854775808) (k : JAt κ d y q ls (vl (a + b) :: st) h Q) : JAt κ d y pc ls (vl b :: vl a :: st) h Q := st_ladd hd hq (by rw [w64_id hr]; exact k)
theorem n_lsub {κ : JK} {d : Nat} {y : JM} {pc q : Nat} {ls st : List JV} {h : JH} {Q : Option JV → JH → Prop} {a b : Int} (hd : decode y.2.1 pc = .ok (.lsub, 1)) (hq : pc + 1 = q) (hr : -9223372036854775808 ≤ a - b ∧ a - b < 9223372036854775808) (k : JAt κ d y q ls (vl (a - b) :: st) h Q) : JAt κ d y pc ls (vl b :: vl a :: st) h Q := st_lsub hd hq (by rw [w64_id hr]; exact k)
theorem n_lmul {κ : JK} {d : Nat} {y : JM} {pc q : Nat} {ls st : List JV} {h : JH} {Q : Option JV → JH → Prop} {a b : Int} (hd : decode y.2.1 pc = .ok (.lmul, 1)) (hq : pc + 1 = q) (hr : -9223372036854775808 ≤ a * b ∧ a * b < 9223372036854775808) (k : JAt κ d y q ls (vl (a * b) :: st) h Q) : JAt κ d y pc ls (vl b :: vl a :: st) h Q := st_lmul hd hq (by rw [w64_id hr]; exact k)
theorem n_iinc {κ : JK} {d : Nat} {y : JM} {pc q : Nat} {ls st : List JV} {h : JH} {Q : Option JV → JH → Prop} {i : Nat} {n x : Int} (hd : decode y.2.1 pc = .ok (.iinc i n, 3)) (hl : ls[i]? = some (vi x)) (hn : i < y.2.2.1) (hq : pc + 3 = q) (hr : -2147483648 ≤ x + n ∧ x + n < 2147483648) (kk : JAt κ d y q (lst1 ls i (vi (x + n))) st h Q) : JAt κ d y pc ls st h Q := st_iinc hd hl hn hq (by rw [w32_id hr]; exact kk)
theorem st_tsw3 {κ : JK} {d : Nat} {y : JM} {pc : Nat} {ls st : List JV} {h : JH} {Q : Option JV → JH → Prop} {dflt lo hi : Int} {offs : Array Int} {len : Nat} {a : Int} (hd : decode y.2.1 pc = .ok (.tableswitch dflt lo hi offs, len)) (hh : hi = lo + 2) {o0 : Int} {t0 : Nat} (h0 : offs[0]? = some o0) (e0 : (pc : Int) + o0 = (t0 : Int)) {o1 : Int} {t1 : Nat} (h1 : offs[1]? = some o1) (e1 : (pc : Int) + o1 = (t1 : Int)) {o2 : Int} {t2 : Nat} (h2 : offs[2]? = some o2) (e2 : (pc : Int) + o2 = (t2 : Int)) {td : Nat} (ed : (pc : Int) + dflt = (td : Int)) (k0 : a = lo + 0 → JAt κ d y t0 ls st h Q) (k1 : a = lo + 1 → JAt κ d y t1 ls st h Q) (k2 : a = lo + 2 → JAt κ d y t2 ls st h Q) (kd : a < lo ∨ hi < a → JAt κ d y td ls st h Q) : JAt κ d y pc ls (vi a :: st) h Q := by
  by_cases z0 : a = lo + 0
  · exact st_tableIn hd (lo + 0) z0 (by omega) (by omega) (by rw [show (lo + 0 - lo).toNat = 0 by omega]; exact h0) e0 (k0 z0)
  by_cases z1 : a = lo + 1
  · exact st_tableIn hd (lo + 1) z1 (by omega) (by omega) (by rw [show (lo + 1 - lo).toNat = 1 by omega]; exact h1) e1 (k1 z1)
  by_cases z2 : a = lo + 2
  · exact st_tableIn hd (lo + 2) z2 (by omega) (by omega) (by rw [show (lo + 2 - lo).toNat = 2 by omega]; exact h2) e2 (k2 z2)
  have hx : a < lo ∨ hi < a := by omega
  exact st_tableOut hd hx ed (kd hx)
theorem st_tsw4 {κ : JK} {d : Nat} {y : JM} {pc : Nat} {ls st : List JV} {h : JH} {Q : Option JV → JH → Prop} {dflt lo hi : Int} {offs : Array Int} {len : Nat} {a : Int} (hd : decode y.2.1 pc = .ok (.tableswitch dflt lo hi offs, len)) (hh : hi = lo + 3) {o0 : Int} {t0 : Nat} (h0 : offs[0]? = some o0) (e0 : (pc : Int) + o0 = (t0 : Int)) {o1 : Int} {t1 : Nat} (h1 : offs[1]? = some o1) (e1 : (pc : Int) + o1 = (t1 : Int)) {o2 : Int} {t2 : Nat} (h2 : offs[2]? = some o2) (e2 : (pc : Int) + o2 = (t2 : Int)) {o3 : Int} {t3 : Nat} (h3 : offs[3]? = some o3) (e3 : (pc : Int) + o3 = (t3 : Int)) {td : Nat} (ed : (pc : Int) + dflt = (td : Int)) (k0 : a = lo + 0 → JAt κ d y t0 ls st h Q) (k1 : a = lo + 1 → JAt κ d y t1 ls st h Q) (k2 : a = lo + 2 → JAt κ d y t2 ls st h Q) (k3 : a = lo + 3 → JAt κ d y t3 ls st h Q) (kd : a < lo ∨ hi < a → JAt κ d y td ls st h Q) : JAt κ d y pc ls (vi a :: st) h Q := by
  by_cases z0 : a = lo + 0
  · exact st_tableIn hd (lo + 0) z0 (by omega) (by omega) (by rw [show (lo + 0 - lo).toNat = 0 by omega]; exact h0) e0 (k0 z0)
  by_cases z1 : a = lo + 1
  · exact st_tableIn hd (lo + 1) z1 (by omega) (by omega) (by rw [show (lo + 1 - lo).toNat = 1 by omega]; exact h1) e1 (k1 z1)
  by_cases z2 : a = lo + 2
  · exact st_tableIn hd (lo + 2) z2 (by omega) (by omega) (by rw [show (lo + 2 - lo).toNat = 2 by omega]; exact h2) e2 (k2 z2)
  by_cases z3 : a = lo + 3
  · exact st_tableIn hd (lo + 3) z3 (by omega) (by omega) (by rw [show (lo + 3 - lo).toNat = 3 by omega]; exact h3) e3 (k3 z3)
  have hx : a < lo ∨ hi < a := by omega
  exact st_tableOut hd hx ed (kd hx)
theorem st_tsw6 {κ : JK} {d : Nat} {y : JM} {pc : Nat} {ls st : List JV} {h : JH} {Q : Option JV → JH → Prop} {dflt lo hi : Int} {offs : Array Int} {len : Nat} {a : Int} (hd : decode y.2.1 pc = .ok (.tableswitch dflt lo hi offs, len)) (hh : hi = lo + 5) {o0 : Int} {t0 : Nat} (h0 : offs[0]? = some o0) (e0 : (pc : Int) + o0 = (t0 : Int)) {o1 : Int} {t1 : Nat} (h1 : offs[1]? = some o1) (e1 : (pc : Int) + o1 = (t1 : Int)) {o2 : Int} {t2 : Nat} (h2 : offs[2]? = some o2) (e2 : (pc : Int) + o2 = (t2 : Int)) {o3 : Int} {t3 : Nat} (h3 : offs[3]? = some o3) (e3 : (pc : Int) + o3 = (t3 : Int)) {o4 : Int} {t4 : Nat} (h4 : offs[4]? = some o4) (e4 : (pc : Int) + o4 = (t4 : Int)) {o5 : Int} {t5 : Nat} (h5 : offs[5]? = some o5) (e5 : (pc : Int) + o5 = (t5 : Int)) {td : Nat} (ed : (pc : Int) + dflt = (td : Int)) (k0 : a = lo + 0 → JAt κ d y t0 ls st h Q) (k1 : a = lo + 1 → JAt κ d y t1 ls st h Q) (k2 : a = lo + 2 → JAt κ d y t2 ls st h Q) (k3 : a = lo + 3 → JAt κ d y t3 ls st h Q) (k4 : a = lo + 4 → JAt κ d y t4 ls st h Q) (k5 : a = lo + 5 → JAt κ d y t5 ls st h Q) (kd : a < lo ∨ hi < a → JAt κ d y td ls st h Q) : JAt κ d y pc ls (vi a :: st) h Q := by
  by_cases z0 : a = lo + 0
  · exact st_tableIn hd (lo + 0) z0 (by omega) (by omega) (by rw [show (lo + 0 - lo).toNat = 0 by omega]; exact h0) e0 (k0 z0)
  by_cases z1 : a = lo + 1
  · exact st_tableIn hd (lo + 1) z1 (by omega) (by omega) (by rw [show (lo + 1 - lo).toNat = 1 by omega]; exact h1) e1 (k1 z1)
  by_cases z2 : a = lo + 2
  · exact st_tableIn hd (lo + 2) z2 (by omega) (by omega) (by rw [show (lo + 2 - lo).toNat = 2 by omega]; exact h2) e2 (k2 z2)
  by_cases z3 : a = lo + 3
  · exact st_tableIn hd (lo + 3) z3 (by omega) (by omega) (by rw [show (lo + 3 - lo).toNat = 3 by omega]; exact h3) e3 (k3 z3)
  by_cases z4 : a = lo + 4
  · exact st_tableIn hd (lo + 4) z4 (by omega) (by omega) (by rw [show (lo + 4 - lo).toNat = 4 by omega]; exact h4) e4 (k4 z4)
  by_cases z5 : a = lo + 5
  · exact st_tableIn hd (lo + 5) z5 (by omega) (by omega) (by rw [show (lo + 5 - lo).toNat = 5 by omega]; exact h5) e5 (k5 z5)
  have hx : a < lo ∨ hi < a := by omega
  exact st_tableOut hd hx ed (kd hx)
theorem st_tsw7 {κ : JK} {d : Nat} {y : JM} {pc : Nat} {ls st : List JV} {h : JH} {Q : Option JV → JH → Prop} {dflt lo hi : Int} {offs : Array Int} {len : Nat} {a : Int} (hd : decode y.2.1 pc = .ok (.tableswitch dflt lo hi offs, len)) (hh : hi = lo + 6) {o0 : Int} {t0 : Nat} (h0 : offs[0]? = some o0) (e0 : (pc : Int) + o0 = (t0 : Int)) {o1 : Int} {t1 : Nat} (h1 : offs[1]? = some o1) (e1 : (pc : Int) + o1 = (t1 : Int)) {o2 : Int} {t2 : Nat} (h2 : offs[2]? = some o2) (e2 : (pc : Int) + o2 = (t2 : Int)) {o3 : Int} {t3 : Nat} (h3 : offs[3]? = some o3) (e3 : (pc : Int) + o3 = (t3 : Int)) {o4 : Int} {t4 : Nat} (h4 : offs[4]? = some o4) (e4 : (pc : Int) + o4 = (t4 : Int)) {o5 : Int} {t5 : Nat} (h5 : offs[5]? = some o5) (e5 : (pc : Int) + o5 = (t5 : Int)) {o6 : Int} {t6 : Nat} (h6 : offs[6]? = some o6) (e6 : (pc : Int) + o6 = (t6 : Int)) {td : Nat} (ed : (pc : Int) + dflt = (td : Int)) (k0 : a = lo + 0 → JAt κ d y t0 ls st h Q) (k1 : a = lo + 1 → JAt κ d y t1 ls st h Q) (k2 : a = lo + 2 → JAt κ d y t2 ls st h Q) (k3 : a = lo + 3 → JAt κ d y t3 ls st h Q) (k4 : a = lo + 4 → JAt κ d y t4 ls st h Q) (k5 : a = lo + 5 → JAt κ d y t5 ls st h Q) (k6 : a = lo + 6 → JAt κ d y t6 ls st h Q) (kd : a < lo ∨ hi < a → JAt κ d y td ls st h Q) : JAt κ d y pc ls (vi a :: st) h Q := by
  by_cases z0 : a = lo + 0
  · exact st_tableIn hd (lo + 0) z0 (by omega) (by omega) (by rw [show (lo + 0 - lo).toNat = 0 by omega]; exact h0) e0 (k0 z0)
  by_cases z1 : a = lo + 1
  · exact st_tableIn hd (lo + 1) z1 (by omega) (by omega) (by rw [show (lo + 1 - lo).toNat = 1 by omega]; exact h1) e1 (k1 z1)
  by_cases z2 : a = lo + 2
  · exact st_tableIn hd (lo + 2) z2 (by omega) (by omega) (by rw [show (lo + 2 - lo).toNat = 2 by omega]; exact h2) e2 (k2 z2)
  by_cases z3 : a = lo + 3
  · exact st_tableIn hd (lo + 3) z3 (by omega) (by omega) (by rw [show (lo + 3 - lo).toNat = 3 by omega]; exact h3) e3 (k3 z3)
  by_cases z4 : a = lo + 4
  · exact st_tableIn hd (lo + 4) z4 (by omega) (by omega) (by rw [show (lo + 4 - lo).toNat = 4 by omega]; exact h4) e4 (k4 z4)
  by_cases z5 : a = lo + 5
  · exact st_tableIn hd (lo + 5) z5 (by omega) (by omega) (by rw [show (lo + 5 - lo).toNat = 5 by omega]; exact h5) e5 (k5 z5)
  by_cases z6 : a = lo + 6
  · exact st_tableIn hd (lo + 6) z6 (by omega) (by omega) (by rw [show (lo + 6 - lo).toNat = 6 by omega]; exact h6) e6 (k6 z6)
  have hx : a < lo ∨ hi < a := by omega
  exact st_tableOut hd hx ed (kd hx)
