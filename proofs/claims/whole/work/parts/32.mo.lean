/-! the model: moments -/
/-- moments: how many, and of each its kind, second, hide, v, w -/
abbrev MO : Type := Nat × (Nat → Nat → Int)
def NM (h : JH) (q : MO) : Prop := hI h 117 47 = (q.1 : Int) ∧ ∀ m, m < q.1 → ∀ x, x < 5 → hI h 150 (5 * m + x) = q.2 m x
def qOk (q : MO) : Prop := q.1 ≤ 40 ∧ ∀ m, m < q.1 → (0 ≤ q.2 m 0 ∧ q.2 m 0 ≤ 6) ∧ (0 ≤ q.2 m 1 ∧ q.2 m 1 ≤ 32000) ∧ ((q.2 m 0 = 0 ∨ q.2 m 0 = 5) → q.2 m 2 = -9) ∧ (q.2 m 0 ≠ 0 ∧ q.2 m 0 ≠ 5 → 0 ≤ q.2 m 2 ∧ q.2 m 2 ≤ 7) ∧ (0 ≤ q.2 m 3 ∧ q.2 m 3 ≤ 9) ∧ (q.2 m 0 = 5 → q.2 m 3 ≤ 7) ∧ (-99 ≤ q.2 m 4 ∧ q.2 m 4 ≤ 99)
theorem tn0 : (0 : Int).toNat = 0 := rfl
theorem tn1 : (1 : Int).toNat = 1 := rfl
theorem tn2 : (2 : Int).toNat = 2 := rfl
theorem tn3 : (3 : Int).toNat = 3 := rfl
theorem tn4 : (4 : Int).toNat = 4 := rfl
theorem c_X12_part {d : Nat} {h : JH} {P : Int → JH → Prop} {q : MO} {m : Nat} {x : Int} (w : WF h) (nm : NM h q) (qo : qOk q) (hm : m < q.1) (hx : 0 ≤ x ∧ x ≤ 4) (hP : P (q.2 m x.toNat) h) : JRi d jX12_part [vr 117, vi m, vi x] h P := by
  have q1 := qo.1
  refine JRet.of rfl (Nat.le_of_ble_eq_true rfl) ?_
  refine st_aload_n (q := 1) dX12_part_0 rfl rfl ?_
  refine st_getR (q := 4) 12 48 dX12_part_1 fl_X12_118 (by decide) (by decide) rfl rfl (wfk w rfl) (wfR w rfl) ?_
  refine st_iconst (q := 5) dX12_part_4 ⟨by decide, by decide⟩ rfl ?_
  refine st_iload_n (q := 6) dX12_part_5 rfl rfl ?_
  first | refine n_imul (q := 7) dX12_part_6 rfl ⟨by omega, by omega⟩ ?_ | refine st_imul (q := 7) dX12_part_6 rfl ?_
  refine st_iload_n (q := 8) dX12_part_7 rfl rfl ?_
  first | refine n_iadd (q := 9) dX12_part_8 rfl ⟨by omega, by omega⟩ ?_ | refine st_iadd (q := 9) dX12_part_8 rfl ?_
  refine st_iaload (q := 10) dX12_part_9 rfl (wfk w rfl) (wfb w (n := 200) rfl ⟨by omega, by omega⟩) ?_
  refine rt_i dX12_part_10 rfl ?_
  exact pq hP (by rw [show (5 * (m : Int) + x).toNat = 5 * m + x.toNat by omega, nm.2 m hm x.toNat (by omega)]) rfl
def imS (kind k v x : Int) : Prop := kind = 0 ∨ (kind = 1 ∧ (0 ≤ k ∧ k ≤ 7) ∧ (0 ≤ v ∧ v ≤ 1)) ∨ (kind = 2 ∧ (0 ≤ k ∧ k ≤ 7) ∧ (0 ≤ v ∧ v ≤ 9)) ∨ (kind = 3 ∧ (0 ≤ k ∧ k ≤ 7) ∧ (0 ≤ v ∧ v ≤ 1) ∧ (-99 ≤ x ∧ x ≤ 99)) ∨ (kind = 4 ∧ (0 ≤ k ∧ k ≤ 7) ∧ (0 ≤ v ∧ v ≤ 1) ∧ (0 ≤ x ∧ x ≤ 7) ∧ x ≠ k) ∨ (kind = 5 ∧ (0 ≤ v ∧ v ≤ 7)) ∨ (kind = 6 ∧ (0 ≤ k ∧ k ≤ 7) ∧ (0 ≤ v ∧ v ≤ 9))
theorem imS_0 {kind k v x : Int} (e : kind = 0 + 0) : imS kind k v x ↔ True := ⟨fun _ => trivial, fun _ => Or.inl (by omega)⟩
theorem imS_1 {kind k v x : Int} (e : kind = 0 + 1) : imS kind k v x ↔ ((0 ≤ k ∧ k ≤ 7) ∧ (0 ≤ v ∧ v ≤ 1)) := by subst e; unfold imS; omega
theorem imS_2 {kind k v x : Int} (e : kind = 0 + 2) : imS kind k v x ↔ ((0 ≤ k ∧ k ≤ 7) ∧ (0 ≤ v ∧ v ≤ 9)) := by subst e; unfold imS; omega
theorem imS_3 {kind k v x : Int} (e : kind = 0 + 3) : imS kind k v x ↔ ((0 ≤ k ∧ k ≤ 7) ∧ (0 ≤ v ∧ v ≤ 1) ∧ (-99 ≤ x ∧ x ≤ 99)) := by subst e; unfold imS; omega
theorem imS_4 {kind k v x : Int} (e : kind = 0 + 4) : imS kind k v x ↔ ((0 ≤ k ∧ k ≤ 7) ∧ (0 ≤ v ∧ v ≤ 1) ∧ (0 ≤ x ∧ x ≤ 7) ∧ x ≠ k) := by subst e; unfold imS; omega
theorem imS_5 {kind k v x : Int} (e : kind = 0 + 5) : imS kind k v x ↔ (0 ≤ v ∧ v ≤ 7) := by subst e; unfold imS; omega
theorem imS_6 {kind k v x : Int} (e : kind = 0 + 6) : imS kind k v x ↔ ((0 ≤ k ∧ k ≤ 7) ∧ (0 ≤ v ∧ v ≤ 9)) := by subst e; unfold imS; omega
theorem imS_d {kind k v x : Int} (e : kind < 0 ∨ 6 < kind) : ¬ imS kind k v x := by unfold imS; omega
theorem c_X12_isMoment {d : Nat} {h : JH} {P : Int → JH → Prop} {kind k v x : Int} (h1 : imS kind k v x → P 1 h) (h2 : ¬ imS kind k v x → P 0 h) : JRi (d + 2) jX12_isMoment [vi kind, vi k, vi v, vi x] h P := by
  refine JRet.of rfl (Nat.le_of_ble_eq_true rfl) ?_
  refine st_iload_n (q := 1) dX12_isMoment_0 rfl rfl ?_
  refine st_tsw7 dX12_isMoment_1 rfl (o0 := 43) (t0 := 44) rfl (by decide) (o1 := 45) (t1 := 46) rfl (by decide) (o2 := 67) (t2 := 68) rfl (by decide) (o3 := 90) (t3 := 91) rfl (by decide) (o4 := 123) (t4 := 124) rfl (by decide) (o5 := 157) (t5 := 158) rfl (by decide) (o6 := 165) (t6 := 166) rfl (by decide) (td := 189) (by decide) (fun c1 => ?_) (fun c1 => ?_) (fun c1 => ?_) (fun c1 => ?_) (fun c1 => ?_) (fun c1 => ?_) (fun c1 => ?_) (fun c1 => ?_)
  · refine st_iconst (q := 45) dX12_isMoment_44 ⟨by decide, by decide⟩ rfl ?_
    refine rt_z dX12_isMoment_45 rfl (by omega) ?_
    first | (split <;> first | exact h1 ((imS_5 c1).mpr (by assumption)) | exact h2 (fun z => absurd ((imS_5 c1).mp z) (by assumption))) | exact h1 ((imS_0 c1).mpr trivial) | exact h2 (imS_d c1) | exact h1 ((imS_1 c1).mpr (by omega)) | exact h2 (fun z => by have z2 := (imS_1 c1).mp z; omega) | exact h1 ((imS_2 c1).mpr (by omega)) | exact h2 (fun z => by have z2 := (imS_2 c1).mp z; omega) | exact h1 ((imS_3 c1).mpr (by omega)) | exact h2 (fun z => by have z2 := (imS_3 c1).mp z; omega) | exact h1 ((imS_4 c1).mpr (by omega)) | exact h2 (fun z => by have z2 := (imS_4 c1).mp z; omega) | exact h1 ((imS_5 c1).mpr (by omega)) | exact h2 (fun z => by have z2 := (imS_5 c1).mp z; omega) | exact h1 ((imS_6 c1).mpr (by omega)) | exact h2 (fun z => by have z2 := (imS_6 c1).mp z; omega)
  · refine st_iload_n (q := 47) dX12_isMoment_46 rfl rfl ?_
    refine iS1i (q := 50) dX12_isMoment_47 rfl ml_X12_161 ms_X12_isHide (Nat.le_of_ble_eq_true rfl) ?_
    refine c_X12_isHide ?_
    refine st_if_eq (q := 53) (tgt := 66) dX12_isMoment_50 (by decide) rfl (fun c50 => ?_) (fun c50 => ?_)
    · refine st_iconst (q := 67) dX12_isMoment_66 ⟨by decide, by decide⟩ rfl ?_
      refine rt_z dX12_isMoment_67 rfl (by omega) ?_
      first | (split <;> first | exact h1 ((imS_5 c1).mpr (by assumption)) | exact h2 (fun z => absurd ((imS_5 c1).mp z) (by assumption))) | exact h1 ((imS_0 c1).mpr trivial) | exact h2 (imS_d c1) | exact h1 ((imS_1 c1).mpr (by omega)) | exact h2 (fun z => by have z2 := (imS_1 c1).mp z; omega) | exact h1 ((imS_2 c1).mpr (by omega)) | exact h2 (fun z => by have z2 := (imS_2 c1).mp z; omega) | exact h1 ((imS_3 c1).mpr (by omega)) | exact h2 (fun z => by have z2 := (imS_3 c1).mp z; omega) | exact h1 ((imS_4 c1).mpr (by omega)) | exact h2 (fun z => by have z2 := (imS_4 c1).mp z; omega) | exact h1 ((imS_5 c1).mpr (by omega)) | exact h2 (fun z => by have z2 := (imS_5 c1).mp z; omega) | exact h1 ((imS_6 c1).mpr (by omega)) | exact h2 (fun z => by have z2 := (imS_6 c1).mp z; omega)
    · refine st_iload_n (q := 54) dX12_isMoment_53 rfl rfl ?_
      refine st_iconst (q := 55) dX12_isMoment_54 ⟨by decide, by decide⟩ rfl ?_
      refine st_iconst (q := 56) dX12_isMoment_55 ⟨by decide, by decide⟩ rfl ?_
      refine iS3i (q := 59) dX12_isMoment_56 rfl ml_X12_130 ms_X12_in (Nat.le_of_ble_eq_true rfl) ?_
      refine c_X12_in ?_
      refine st_if_eq (q := 62) (tgt := 66) dX12_isMoment_59 (by decide) rfl (fun c59 => ?_) (fun c59 => ?_)
      · refine st_iconst (q := 67) dX12_isMoment_66 ⟨by decide, by decide⟩ rfl ?_
        refine rt_z dX12_isMoment_67 rfl (by omega) ?_
        first | (split <;> first | exact h1 ((imS_5 c1).mpr (by assumption)) | exact h2 (fun z => absurd ((imS_5 c1).mp z) (by assumption))) | exact h1 ((imS_0 c1).mpr trivial) | exact h2 (imS_d c1) | exact h1 ((imS_1 c1).mpr (by omega)) | exact h2 (fun z => by have z2 := (imS_1 c1).mp z; omega) | exact h1 ((imS_2 c1).mpr (by omega)) | exact h2 (fun z => by have z2 := (imS_2 c1).mp z; omega) | exact h1 ((imS_3 c1).mpr (by omega)) | exact h2 (fun z => by have z2 := (imS_3 c1).mp z; omega) | exact h1 ((imS_4 c1).mpr (by omega)) | exact h2 (fun z => by have z2 := (imS_4 c1).mp z; omega) | exact h1 ((imS_5 c1).mpr (by omega)) | exact h2 (fun z => by have z2 := (imS_5 c1).mp z; omega) | exact h1 ((imS_6 c1).mpr (by omega)) | exact h2 (fun z => by have z2 := (imS_6 c1).mp z; omega)
      · refine st_iconst (q := 63) dX12_isMoment_62 ⟨by decide, by decide⟩ rfl ?_
        refine st_goto (q := 67) dX12_isMoment_63 (by decide) ?_
        refine rt_z dX12_isMoment_67 rfl (by omega) ?_
        first | (split <;> first | exact h1 ((imS_5 c1).mpr (by assumption)) | exact h2 (fun z => absurd ((imS_5 c1).mp z) (by assumption))) | exact h1 ((imS_0 c1).mpr trivial) | exact h2 (imS_d c1) | exact h1 ((imS_1 c1).mpr (by omega)) | exact h2 (fun z => by have z2 := (imS_1 c1).mp z; omega) | exact h1 ((imS_2 c1).mpr (by omega)) | exact h2 (fun z => by have z2 := (imS_2 c1).mp z; omega) | exact h1 ((imS_3 c1).mpr (by omega)) | exact h2 (fun z => by have z2 := (imS_3 c1).mp z; omega) | exact h1 ((imS_4 c1).mpr (by omega)) | exact h2 (fun z => by have z2 := (imS_4 c1).mp z; omega) | exact h1 ((imS_5 c1).mpr (by omega)) | exact h2 (fun z => by have z2 := (imS_5 c1).mp z; omega) | exact h1 ((imS_6 c1).mpr (by omega)) | exact h2 (fun z => by have z2 := (imS_6 c1).mp z; omega)
  · refine st_iload_n (q := 69) dX12_isMoment_68 rfl rfl ?_
    refine iS1i (q := 72) dX12_isMoment_69 rfl ml_X12_161 ms_X12_isHide (Nat.le_of_ble_eq_true rfl) ?_
    refine c_X12_isHide ?_
    refine st_if_eq (q := 75) (tgt := 89) dX12_isMoment_72 (by decide) rfl (fun c72 => ?_) (fun c72 => ?_)
    · refine st_iconst (q := 90) dX12_isMoment_89 ⟨by decide, by decide⟩ rfl ?_
      refine rt_z dX12_isMoment_90 rfl (by omega) ?_
      first | (split <;> first | exact h1 ((imS_5 c1).mpr (by assumption)) | exact h2 (fun z => absurd ((imS_5 c1).mp z) (by assumption))) | exact h1 ((imS_0 c1).mpr trivial) | exact h2 (imS_d c1) | exact h1 ((imS_1 c1).mpr (by omega)) | exact h2 (fun z => by have z2 := (imS_1 c1).mp z; omega) | exact h1 ((imS_2 c1).mpr (by omega)) | exact h2 (fun z => by have z2 := (imS_2 c1).mp z; omega) | exact h1 ((imS_3 c1).mpr (by omega)) | exact h2 (fun z => by have z2 := (imS_3 c1).mp z; omega) | exact h1 ((imS_4 c1).mpr (by omega)) | exact h2 (fun z => by have z2 := (imS_4 c1).mp z; omega) | exact h1 ((imS_5 c1).mpr (by omega)) | exact h2 (fun z => by have z2 := (imS_5 c1).mp z; omega) | exact h1 ((imS_6 c1).mpr (by omega)) | exact h2 (fun z => by have z2 := (imS_6 c1).mp z; omega)
    · refine st_iload_n (q := 76) dX12_isMoment_75 rfl rfl ?_
      refine st_iconst (q := 77) dX12_isMoment_76 ⟨by decide, by decide⟩ rfl ?_
      refine st_bipush (q := 79) dX12_isMoment_77 ⟨by decide, by decide⟩ rfl ?_
      refine iS3i (q := 82) dX12_isMoment_79 rfl ml_X12_130 ms_X12_in (Nat.le_of_ble_eq_true rfl) ?_
      refine c_X12_in ?_
      refine st_if_eq (q := 85) (tgt := 89) dX12_isMoment_82 (by decide) rfl (fun c82 => ?_) (fun c82 => ?_)
      · refine st_iconst (q := 90) dX12_isMoment_89 ⟨by decide, by decide⟩ rfl ?_
        refine rt_z dX12_isMoment_90 rfl (by omega) ?_
        first | (split <;> first | exact h1 ((imS_5 c1).mpr (by assumption)) | exact h2 (fun z => absurd ((imS_5 c1).mp z) (by assumption))) | exact h1 ((imS_0 c1).mpr trivial) | exact h2 (imS_d c1) | exact h1 ((imS_1 c1).mpr (by omega)) | exact h2 (fun z => by have z2 := (imS_1 c1).mp z; omega) | exact h1 ((imS_2 c1).mpr (by omega)) | exact h2 (fun z => by have z2 := (imS_2 c1).mp z; omega) | exact h1 ((imS_3 c1).mpr (by omega)) | exact h2 (fun z => by have z2 := (imS_3 c1).mp z; omega) | exact h1 ((imS_4 c1).mpr (by omega)) | exact h2 (fun z => by have z2 := (imS_4 c1).mp z; omega) | exact h1 ((imS_5 c1).mpr (by omega)) | exact h2 (fun z => by have z2 := (imS_5 c1).mp z; omega) | exact h1 ((imS_6 c1).mpr (by omega)) | exact h2 (fun z => by have z2 := (imS_6 c1).mp z; omega)
      · refine st_iconst (q := 86) dX12_isMoment_85 ⟨by decide, by decide⟩ rfl ?_
        refine st_goto (q := 90) dX12_isMoment_86 (by decide) ?_
        refine rt_z dX12_isMoment_90 rfl (by omega) ?_
        first | (split <;> first | exact h1 ((imS_5 c1).mpr (by assumption)) | exact h2 (fun z => absurd ((imS_5 c1).mp z) (by assumption))) | exact h1 ((imS_0 c1).mpr trivial) | exact h2 (imS_d c1) | exact h1 ((imS_1 c1).mpr (by omega)) | exact h2 (fun z => by have z2 := (imS_1 c1).mp z; omega) | exact h1 ((imS_2 c1).mpr (by omega)) | exact h2 (fun z => by have z2 := (imS_2 c1).mp z; omega) | exact h1 ((imS_3 c1).mpr (by omega)) | exact h2 (fun z => by have z2 := (imS_3 c1).mp z; omega) | exact h1 ((imS_4 c1).mpr (by omega)) | exact h2 (fun z => by have z2 := (imS_4 c1).mp z; omega) | exact h1 ((imS_5 c1).mpr (by omega)) | exact h2 (fun z => by have z2 := (imS_5 c1).mp z; omega) | exact h1 ((imS_6 c1).mpr (by omega)) | exact h2 (fun z => by have z2 := (imS_6 c1).mp z; omega)
  · refine st_iload_n (q := 92) dX12_isMoment_91 rfl rfl ?_
    refine iS1i (q := 95) dX12_isMoment_92 rfl ml_X12_161 ms_X12_isHide (Nat.le_of_ble_eq_true rfl) ?_
    refine c_X12_isHide ?_
    refine st_if_eq (q := 98) (tgt := 122) dX12_isMoment_95 (by decide) rfl (fun c95 => ?_) (fun c95 => ?_)
    · refine st_iconst (q := 123) dX12_isMoment_122 ⟨by decide, by decide⟩ rfl ?_
      refine rt_z dX12_isMoment_123 rfl (by omega) ?_
      first | (split <;> first | exact h1 ((imS_5 c1).mpr (by assumption)) | exact h2 (fun z => absurd ((imS_5 c1).mp z) (by assumption))) | exact h1 ((imS_0 c1).mpr trivial) | exact h2 (imS_d c1) | exact h1 ((imS_1 c1).mpr (by omega)) | exact h2 (fun z => by have z2 := (imS_1 c1).mp z; omega) | exact h1 ((imS_2 c1).mpr (by omega)) | exact h2 (fun z => by have z2 := (imS_2 c1).mp z; omega) | exact h1 ((imS_3 c1).mpr (by omega)) | exact h2 (fun z => by have z2 := (imS_3 c1).mp z; omega) | exact h1 ((imS_4 c1).mpr (by omega)) | exact h2 (fun z => by have z2 := (imS_4 c1).mp z; omega) | exact h1 ((imS_5 c1).mpr (by omega)) | exact h2 (fun z => by have z2 := (imS_5 c1).mp z; omega) | exact h1 ((imS_6 c1).mpr (by omega)) | exact h2 (fun z => by have z2 := (imS_6 c1).mp z; omega)
    · refine st_iload_n (q := 99) dX12_isMoment_98 rfl rfl ?_
      refine st_iconst (q := 100) dX12_isMoment_99 ⟨by decide, by decide⟩ rfl ?_
      refine st_iconst (q := 101) dX12_isMoment_100 ⟨by decide, by decide⟩ rfl ?_
      refine iS3i (q := 104) dX12_isMoment_101 rfl ml_X12_130 ms_X12_in (Nat.le_of_ble_eq_true rfl) ?_
      refine c_X12_in ?_
      refine st_if_eq (q := 107) (tgt := 122) dX12_isMoment_104 (by decide) rfl (fun c104 => ?_) (fun c104 => ?_)
      · refine st_iconst (q := 123) dX12_isMoment_122 ⟨by decide, by decide⟩ rfl ?_
        refine rt_z dX12_isMoment_123 rfl (by omega) ?_
        first | (split <;> first | exact h1 ((imS_5 c1).mpr (by assumption)) | exact h2 (fun z => absurd ((imS_5 c1).mp z) (by assumption))) | exact h1 ((imS_0 c1).mpr trivial) | exact h2 (imS_d c1) | exact h1 ((imS_1 c1).mpr (by omega)) | exact h2 (fun z => by have z2 := (imS_1 c1).mp z; omega) | exact h1 ((imS_2 c1).mpr (by omega)) | exact h2 (fun z => by have z2 := (imS_2 c1).mp z; omega) | exact h1 ((imS_3 c1).mpr (by omega)) | exact h2 (fun z => by have z2 := (imS_3 c1).mp z; omega) | exact h1 ((imS_4 c1).mpr (by omega)) | exact h2 (fun z => by have z2 := (imS_4 c1).mp z; omega) | exact h1 ((imS_5 c1).mpr (by omega)) | exact h2 (fun z => by have z2 := (imS_5 c1).mp z; omega) | exact h1 ((imS_6 c1).mpr (by omega)) | exact h2 (fun z => by have z2 := (imS_6 c1).mp z; omega)
      · refine st_iload_n (q := 108) dX12_isMoment_107 rfl rfl ?_
        refine st_bipush (q := 110) dX12_isMoment_108 ⟨by decide, by decide⟩ rfl ?_
        refine st_bipush (q := 112) dX12_isMoment_110 ⟨by decide, by decide⟩ rfl ?_
        refine iS3i (q := 115) dX12_isMoment_112 rfl ml_X12_130 ms_X12_in (Nat.le_of_ble_eq_true rfl) ?_
        refine c_X12_in ?_
        refine st_if_eq (q := 118) (tgt := 122) dX12_isMoment_115 (by decide) rfl (fun c115 => ?_) (fun c115 => ?_)
        · refine st_iconst (q := 123) dX12_isMoment_122 ⟨by decide, by decide⟩ rfl ?_
          refine rt_z dX12_isMoment_123 rfl (by omega) ?_
          first | (split <;> first | exact h1 ((imS_5 c1).mpr (by assumption)) | exact h2 (fun z => absurd ((imS_5 c1).mp z) (by assumption))) | exact h1 ((imS_0 c1).mpr trivial) | exact h2 (imS_d c1) | exact h1 ((imS_1 c1).mpr (by omega)) | exact h2 (fun z => by have z2 := (imS_1 c1).mp z; omega) | exact h1 ((imS_2 c1).mpr (by omega)) | exact h2 (fun z => by have z2 := (imS_2 c1).mp z; omega) | exact h1 ((imS_3 c1).mpr (by omega)) | exact h2 (fun z => by have z2 := (imS_3 c1).mp z; omega) | exact h1 ((imS_4 c1).mpr (by omega)) | exact h2 (fun z => by have z2 := (imS_4 c1).mp z; omega) | exact h1 ((imS_5 c1).mpr (by omega)) | exact h2 (fun z => by have z2 := (imS_5 c1).mp z; omega) | exact h1 ((imS_6 c1).mpr (by omega)) | exact h2 (fun z => by have z2 := (imS_6 c1).mp z; omega)
        · refine st_iconst (q := 119) dX12_isMoment_118 ⟨by decide, by decide⟩ rfl ?_
          refine st_goto (q := 123) dX12_isMoment_119 (by decide) ?_
          refine rt_z dX12_isMoment_123 rfl (by omega) ?_
          first | (split <;> first | exact h1 ((imS_5 c1).mpr (by assumption)) | exact h2 (fun z => absurd ((imS_5 c1).mp z) (by assumption))) | exact h1 ((imS_0 c1).mpr trivial) | exact h2 (imS_d c1) | exact h1 ((imS_1 c1).mpr (by omega)) | exact h2 (fun z => by have z2 := (imS_1 c1).mp z; omega) | exact h1 ((imS_2 c1).mpr (by omega)) | exact h2 (fun z => by have z2 := (imS_2 c1).mp z; omega) | exact h1 ((imS_3 c1).mpr (by omega)) | exact h2 (fun z => by have z2 := (imS_3 c1).mp z; omega) | exact h1 ((imS_4 c1).mpr (by omega)) | exact h2 (fun z => by have z2 := (imS_4 c1).mp z; omega) | exact h1 ((imS_5 c1).mpr (by omega)) | exact h2 (fun z => by have z2 := (imS_5 c1).mp z; omega) | exact h1 ((imS_6 c1).mpr (by omega)) | exact h2 (fun z => by have z2 := (imS_6 c1).mp z; omega)
  · refine st_iload_n (q := 125) dX12_isMoment_124 rfl rfl ?_
    refine iS1i (q := 128) dX12_isMoment_125 rfl ml_X12_161 ms_X12_isHide (Nat.le_of_ble_eq_true rfl) ?_
    refine c_X12_isHide ?_
    refine st_if_eq (q := 131) (tgt := 156) dX12_isMoment_128 (by decide) rfl (fun c128 => ?_) (fun c128 => ?_)
    · refine st_iconst (q := 157) dX12_isMoment_156 ⟨by decide, by decide⟩ rfl ?_
      refine rt_z dX12_isMoment_157 rfl (by omega) ?_
      first | (split <;> first | exact h1 ((imS_5 c1).mpr (by assumption)) | exact h2 (fun z => absurd ((imS_5 c1).mp z) (by assumption))) | exact h1 ((imS_0 c1).mpr trivial) | exact h2 (imS_d c1) | exact h1 ((imS_1 c1).mpr (by omega)) | exact h2 (fun z => by have z2 := (imS_1 c1).mp z; omega) | exact h1 ((imS_2 c1).mpr (by omega)) | exact h2 (fun z => by have z2 := (imS_2 c1).mp z; omega) | exact h1 ((imS_3 c1).mpr (by omega)) | exact h2 (fun z => by have z2 := (imS_3 c1).mp z; omega) | exact h1 ((imS_4 c1).mpr (by omega)) | exact h2 (fun z => by have z2 := (imS_4 c1).mp z; omega) | exact h1 ((imS_5 c1).mpr (by omega)) | exact h2 (fun z => by have z2 := (imS_5 c1).mp z; omega) | exact h1 ((imS_6 c1).mpr (by omega)) | exact h2 (fun z => by have z2 := (imS_6 c1).mp z; omega)
    · refine st_iload_n (q := 132) dX12_isMoment_131 rfl rfl ?_
      refine st_iconst (q := 133) dX12_isMoment_132 ⟨by decide, by decide⟩ rfl ?_
      refine st_iconst (q := 134) dX12_isMoment_133 ⟨by decide, by decide⟩ rfl ?_
      refine iS3i (q := 137) dX12_isMoment_134 rfl ml_X12_130 ms_X12_in (Nat.le_of_ble_eq_true rfl) ?_
      refine c_X12_in ?_
      refine st_if_eq (q := 140) (tgt := 156) dX12_isMoment_137 (by decide) rfl (fun c137 => ?_) (fun c137 => ?_)
      · refine st_iconst (q := 157) dX12_isMoment_156 ⟨by decide, by decide⟩ rfl ?_
        refine rt_z dX12_isMoment_157 rfl (by omega) ?_
        first | (split <;> first | exact h1 ((imS_5 c1).mpr (by assumption)) | exact h2 (fun z => absurd ((imS_5 c1).mp z) (by assumption))) | exact h1 ((imS_0 c1).mpr trivial) | exact h2 (imS_d c1) | exact h1 ((imS_1 c1).mpr (by omega)) | exact h2 (fun z => by have z2 := (imS_1 c1).mp z; omega) | exact h1 ((imS_2 c1).mpr (by omega)) | exact h2 (fun z => by have z2 := (imS_2 c1).mp z; omega) | exact h1 ((imS_3 c1).mpr (by omega)) | exact h2 (fun z => by have z2 := (imS_3 c1).mp z; omega) | exact h1 ((imS_4 c1).mpr (by omega)) | exact h2 (fun z => by have z2 := (imS_4 c1).mp z; omega) | exact h1 ((imS_5 c1).mpr (by omega)) | exact h2 (fun z => by have z2 := (imS_5 c1).mp z; omega) | exact h1 ((imS_6 c1).mpr (by omega)) | exact h2 (fun z => by have z2 := (imS_6 c1).mp z; omega)
      · refine st_iload_n (q := 141) dX12_isMoment_140 rfl rfl ?_
        refine iS1i (q := 144) dX12_isMoment_141 rfl ml_X12_161 ms_X12_isHide (Nat.le_of_ble_eq_true rfl) ?_
        refine c_X12_isHide ?_
        refine st_if_eq (q := 147) (tgt := 156) dX12_isMoment_144 (by decide) rfl (fun c144 => ?_) (fun c144 => ?_)
        · refine st_iconst (q := 157) dX12_isMoment_156 ⟨by decide, by decide⟩ rfl ?_
          refine rt_z dX12_isMoment_157 rfl (by omega) ?_
          first | (split <;> first | exact h1 ((imS_5 c1).mpr (by assumption)) | exact h2 (fun z => absurd ((imS_5 c1).mp z) (by assumption))) | exact h1 ((imS_0 c1).mpr trivial) | exact h2 (imS_d c1) | exact h1 ((imS_1 c1).mpr (by omega)) | exact h2 (fun z => by have z2 := (imS_1 c1).mp z; omega) | exact h1 ((imS_2 c1).mpr (by omega)) | exact h2 (fun z => by have z2 := (imS_2 c1).mp z; omega) | exact h1 ((imS_3 c1).mpr (by omega)) | exact h2 (fun z => by have z2 := (imS_3 c1).mp z; omega) | exact h1 ((imS_4 c1).mpr (by omega)) | exact h2 (fun z => by have z2 := (imS_4 c1).mp z; omega) | exact h1 ((imS_5 c1).mpr (by omega)) | exact h2 (fun z => by have z2 := (imS_5 c1).mp z; omega) | exact h1 ((imS_6 c1).mpr (by omega)) | exact h2 (fun z => by have z2 := (imS_6 c1).mp z; omega)
        · refine st_iload_n (q := 148) dX12_isMoment_147 rfl rfl ?_
          refine st_iload_n (q := 149) dX12_isMoment_148 rfl rfl ?_
          refine st_icmp_eq (q := 152) (tgt := 156) dX12_isMoment_149 (by decide) rfl (fun c149 => ?_) (fun c149 => ?_)
          · refine st_iconst (q := 157) dX12_isMoment_156 ⟨by decide, by decide⟩ rfl ?_
            refine rt_z dX12_isMoment_157 rfl (by omega) ?_
            first | (split <;> first | exact h1 ((imS_5 c1).mpr (by assumption)) | exact h2 (fun z => absurd ((imS_5 c1).mp z) (by assumption))) | exact h1 ((imS_0 c1).mpr trivial) | exact h2 (imS_d c1) | exact h1 ((imS_1 c1).mpr (by omega)) | exact h2 (fun z => by have z2 := (imS_1 c1).mp z; omega) | exact h1 ((imS_2 c1).mpr (by omega)) | exact h2 (fun z => by have z2 := (imS_2 c1).mp z; omega) | exact h1 ((imS_3 c1).mpr (by omega)) | exact h2 (fun z => by have z2 := (imS_3 c1).mp z; omega) | exact h1 ((imS_4 c1).mpr (by omega)) | exact h2 (fun z => by have z2 := (imS_4 c1).mp z; omega) | exact h1 ((imS_5 c1).mpr (by omega)) | exact h2 (fun z => by have z2 := (imS_5 c1).mp z; omega) | exact h1 ((imS_6 c1).mpr (by omega)) | exact h2 (fun z => by have z2 := (imS_6 c1).mp z; omega)
          · refine st_iconst (q := 153) dX12_isMoment_152 ⟨by decide, by decide⟩ rfl ?_
            refine st_goto (q := 157) dX12_isMoment_153 (by decide) ?_
            refine rt_z dX12_isMoment_157 rfl (by omega) ?_
            first | (split <;> first | exact h1 ((imS_5 c1).mpr (by assumption)) | exact h2 (fun z => absurd ((imS_5 c1).mp z) (by assumption))) | exact h1 ((imS_0 c1).mpr trivial) | exact h2 (imS_d c1) | exact h1 ((imS_1 c1).mpr (by omega)) | exact h2 (fun z => by have z2 := (imS_1 c1).mp z; omega) | exact h1 ((imS_2 c1).mpr (by omega)) | exact h2 (fun z => by have z2 := (imS_2 c1).mp z; omega) | exact h1 ((imS_3 c1).mpr (by omega)) | exact h2 (fun z => by have z2 := (imS_3 c1).mp z; omega) | exact h1 ((imS_4 c1).mpr (by omega)) | exact h2 (fun z => by have z2 := (imS_4 c1).mp z; omega) | exact h1 ((imS_5 c1).mpr (by omega)) | exact h2 (fun z => by have z2 := (imS_5 c1).mp z; omega) | exact h1 ((imS_6 c1).mpr (by omega)) | exact h2 (fun z => by have z2 := (imS_6 c1).mp z; omega)
  · refine st_iload_n (q := 159) dX12_isMoment_158 rfl rfl ?_
    refine st_iconst (q := 160) dX12_isMoment_159 ⟨by decide, by decide⟩ rfl ?_
    refine st_bipush (q := 162) dX12_isMoment_160 ⟨by decide, by decide⟩ rfl ?_
    refine iS3i (q := 165) dX12_isMoment_162 rfl ml_X12_130 ms_X12_in (Nat.le_of_ble_eq_true rfl) ?_
    refine c_X12_in ?_
    refine rt_z dX12_isMoment_165 rfl (by omega) ?_
    first | (split <;> first | exact h1 ((imS_5 c1).mpr (by assumption)) | exact h2 (fun z => absurd ((imS_5 c1).mp z) (by assumption))) | exact h1 ((imS_0 c1).mpr trivial) | exact h2 (imS_d c1) | exact h1 ((imS_1 c1).mpr (by omega)) | exact h2 (fun z => by have z2 := (imS_1 c1).mp z; omega) | exact h1 ((imS_2 c1).mpr (by omega)) | exact h2 (fun z => by have z2 := (imS_2 c1).mp z; omega) | exact h1 ((imS_3 c1).mpr (by omega)) | exact h2 (fun z => by have z2 := (imS_3 c1).mp z; omega) | exact h1 ((imS_4 c1).mpr (by omega)) | exact h2 (fun z => by have z2 := (imS_4 c1).mp z; omega) | exact h1 ((imS_5 c1).mpr (by omega)) | exact h2 (fun z => by have z2 := (imS_5 c1).mp z; omega) | exact h1 ((imS_6 c1).mpr (by omega)) | exact h2 (fun z => by have z2 := (imS_6 c1).mp z; omega)
  · refine st_iload_n (q := 167) dX12_isMoment_166 rfl rfl ?_
    refine iS1i (q := 170) dX12_isMoment_167 rfl ml_X12_161 ms_X12_isHide (Nat.le_of_ble_eq_true rfl) ?_
    refine c_X12_isHide ?_
    refine st_if_eq (q := 173) (tgt := 187) dX12_isMoment_170 (by decide) rfl (fun c170 => ?_) (fun c170 => ?_)
    · refine st_iconst (q := 188) dX12_isMoment_187 ⟨by decide, by decide⟩ rfl ?_
      refine rt_z dX12_isMoment_188 rfl (by omega) ?_
      first | (split <;> first | exact h1 ((imS_5 c1).mpr (by assumption)) | exact h2 (fun z => absurd ((imS_5 c1).mp z) (by assumption))) | exact h1 ((imS_0 c1).mpr trivial) | exact h2 (imS_d c1) | exact h1 ((imS_1 c1).mpr (by omega)) | exact h2 (fun z => by have z2 := (imS_1 c1).mp z; omega) | exact h1 ((imS_2 c1).mpr (by omega)) | exact h2 (fun z => by have z2 := (imS_2 c1).mp z; omega) | exact h1 ((imS_3 c1).mpr (by omega)) | exact h2 (fun z => by have z2 := (imS_3 c1).mp z; omega) | exact h1 ((imS_4 c1).mpr (by omega)) | exact h2 (fun z => by have z2 := (imS_4 c1).mp z; omega) | exact h1 ((imS_5 c1).mpr (by omega)) | exact h2 (fun z => by have z2 := (imS_5 c1).mp z; omega) | exact h1 ((imS_6 c1).mpr (by omega)) | exact h2 (fun z => by have z2 := (imS_6 c1).mp z; omega)
    · refine st_iload_n (q := 174) dX12_isMoment_173 rfl rfl ?_
      refine st_iconst (q := 175) dX12_isMoment_174 ⟨by decide, by decide⟩ rfl ?_
      refine st_bipush (q := 177) dX12_isMoment_175 ⟨by decide, by decide⟩ rfl ?_
      refine iS3i (q := 180) dX12_isMoment_177 rfl ml_X12_130 ms_X12_in (Nat.le_of_ble_eq_true rfl) ?_
      refine c_X12_in ?_
      refine st_if_eq (q := 183) (tgt := 187) dX12_isMoment_180 (by decide) rfl (fun c180 => ?_) (fun c180 => ?_)
      · refine st_iconst (q := 188) dX12_isMoment_187 ⟨by decide, by decide⟩ rfl ?_
        refine rt_z dX12_isMoment_188 rfl (by omega) ?_
        first | (split <;> first | exact h1 ((imS_5 c1).mpr (by assumption)) | exact h2 (fun z => absurd ((imS_5 c1).mp z) (by assumption))) | exact h1 ((imS_0 c1).mpr trivial) | exact h2 (imS_d c1) | exact h1 ((imS_1 c1).mpr (by omega)) | exact h2 (fun z => by have z2 := (imS_1 c1).mp z; omega) | exact h1 ((imS_2 c1).mpr (by omega)) | exact h2 (fun z => by have z2 := (imS_2 c1).mp z; omega) | exact h1 ((imS_3 c1).mpr (by omega)) | exact h2 (fun z => by have z2 := (imS_3 c1).mp z; omega) | exact h1 ((imS_4 c1).mpr (by omega)) | exact h2 (fun z => by have z2 := (imS_4 c1).mp z; omega) | exact h1 ((imS_5 c1).mpr (by omega)) | exact h2 (fun z => by have z2 := (imS_5 c1).mp z; omega) | exact h1 ((imS_6 c1).mpr (by omega)) | exact h2 (fun z => by have z2 := (imS_6 c1).mp z; omega)
      · refine st_iconst (q := 184) dX12_isMoment_183 ⟨by decide, by decide⟩ rfl ?_
        refine st_goto (q := 188) dX12_isMoment_184 (by decide) ?_
        refine rt_z dX12_isMoment_188 rfl (by omega) ?_
        first | (split <;> first | exact h1 ((imS_5 c1).mpr (by assumption)) | exact h2 (fun z => absurd ((imS_5 c1).mp z) (by assumption))) | exact h1 ((imS_0 c1).mpr trivial) | exact h2 (imS_d c1) | exact h1 ((imS_1 c1).mpr (by omega)) | exact h2 (fun z => by have z2 := (imS_1 c1).mp z; omega) | exact h1 ((imS_2 c1).mpr (by omega)) | exact h2 (fun z => by have z2 := (imS_2 c1).mp z; omega) | exact h1 ((imS_3 c1).mpr (by omega)) | exact h2 (fun z => by have z2 := (imS_3 c1).mp z; omega) | exact h1 ((imS_4 c1).mpr (by omega)) | exact h2 (fun z => by have z2 := (imS_4 c1).mp z; omega) | exact h1 ((imS_5 c1).mpr (by omega)) | exact h2 (fun z => by have z2 := (imS_5 c1).mp z; omega) | exact h1 ((imS_6 c1).mpr (by omega)) | exact h2 (fun z => by have z2 := (imS_6 c1).mp z; omega)
  · refine st_iconst (q := 190) dX12_isMoment_189 ⟨by decide, by decide⟩ rfl ?_
    refine rt_z dX12_isMoment_190 rfl (by omega) ?_
    first | (split <;> first | exact h1 ((imS_5 c1).mpr (by assumption)) | exact h2 (fun z => absurd ((imS_5 c1).mp z) (by assumption))) | exact h1 ((imS_0 c1).mpr trivial) | exact h2 (imS_d c1) | exact h1 ((imS_1 c1).mpr (by omega)) | exact h2 (fun z => by have z2 := (imS_1 c1).mp z; omega) | exact h1 ((imS_2 c1).mpr (by omega)) | exact h2 (fun z => by have z2 := (imS_2 c1).mp z; omega) | exact h1 ((imS_3 c1).mpr (by omega)) | exact h2 (fun z => by have z2 := (imS_3 c1).mp z; omega) | exact h1 ((imS_4 c1).mpr (by omega)) | exact h2 (fun z => by have z2 := (imS_4 c1).mp z; omega) | exact h1 ((imS_5 c1).mpr (by omega)) | exact h2 (fun z => by have z2 := (imS_5 c1).mp z; omega) | exact h1 ((imS_6 c1).mpr (by omega)) | exact h2 (fun z => by have z2 := (imS_6 c1).mp z; omega)
theorem c_X12_isTold {d : Nat} {h : JH} {P : Int → JH → Prop} {q : MO} {m : Int} (w : WF h) (nm : NM h q) (qo : qOk q) (hP : P (if 0 ≤ m ∧ m < q.1 then 1 else 0) h) : JRi (d + 1) jX12_isTold [vr 117, vi m] h P := by
  have n1 := nm.1
  have q1 := qo.1
  refine JRet.of rfl (Nat.le_of_ble_eq_true rfl) ?_
  refine st_iload_n (q := 1) dX12_isTold_0 rfl rfl ?_
  refine st_iconst (q := 2) dX12_isTold_1 ⟨by decide, by decide⟩ rfl ?_
  refine st_aload_n (q := 3) dX12_isTold_2 rfl rfl ?_
  refine st_getI (q := 6) 12 47 dX12_isTold_3 fl_X12_304 (by decide) (by decide) rfl rfl (wfk w rfl) ?_
  refine st_iconst (q := 7) dX12_isTold_6 ⟨by decide, by decide⟩ rfl ?_
  first | refine n_isub (q := 8) dX12_isTold_7 rfl ⟨by omega, by omega⟩ ?_ | refine st_isub (q := 8) dX12_isTold_7 rfl ?_
  refine iS3i (q := 11) dX12_isTold_8 rfl ml_X12_130 ms_X12_in (Nat.le_of_ble_eq_true rfl) ?_
  refine c_X12_in ?_
  refine rt_z dX12_isTold_11 rfl (by (repeat' split) <;> omega) ?_
  exact pq hP (by (repeat' split) <;> omega) rfl
theorem c_X12_told {d : Nat} {h : JH} {P : Int → JH → Prop} {q : MO} {m x : Int} (w : WF h) (nm : NM h q) (qo : qOk q) (h1 : ¬ ((0 ≤ m ∧ m < q.1) ∧ (0 ≤ x ∧ x ≤ 4)) → P (-1) h) (h2 : (0 ≤ m ∧ m < q.1) ∧ (0 ≤ x ∧ x ≤ 4) → P 1 (sI h 117 2 (q.2 m.toNat x.toNat))) : JRi (d + 2) jX12_told [vr 117, vi m, vi x] h P := by
  refine JRet.of rfl (Nat.le_of_ble_eq_true rfl) ?_
  refine st_aload_n (q := 1) dX12_told_0 rfl rfl ?_
  refine st_iload_n (q := 2) dX12_told_1 rfl rfl ?_
  refine iV1i (q := 5) dX12_told_2 rfl ml_X12_307 mv_X12_isTold (Nat.le_of_ble_eq_true rfl) (wfk w rfl) ?_
  refine c_X12_isTold w nm qo ?_
  refine st_if_eq (q := 8) (tgt := 31) dX12_told_5 (by decide) rfl (fun c5 => ?_) (fun c5 => ?_)
  · refine st_iconst (q := 32) dX12_told_31 ⟨by decide, by decide⟩ rfl ?_
    refine rt_i dX12_told_32 rfl ?_
    first | exact h1 (by omega) | exact h2 (by omega)
  · refine st_iload_n (q := 9) dX12_told_8 rfl rfl ?_
    refine st_iconst (q := 10) dX12_told_9 ⟨by decide, by decide⟩ rfl ?_
    refine st_iconst (q := 11) dX12_told_10 ⟨by decide, by decide⟩ rfl ?_
    refine iS3i (q := 14) dX12_told_11 rfl ml_X12_130 ms_X12_in (Nat.le_of_ble_eq_true rfl) ?_
    refine c_X12_in ?_
    refine st_if_eq (q := 17) (tgt := 31) dX12_told_14 (by decide) rfl (fun c14 => ?_) (fun c14 => ?_)
    · refine st_iconst (q := 32) dX12_told_31 ⟨by decide, by decide⟩ rfl ?_
      refine rt_i dX12_told_32 rfl ?_
      first | exact h1 (by omega) | exact h2 (by omega)
    · refine st_aload_n (q := 18) dX12_told_17 rfl rfl ?_
      refine st_aload_n (q := 19) dX12_told_18 rfl rfl ?_
      refine st_iload_n (q := 20) dX12_told_19 rfl rfl ?_
      refine st_iload_n (q := 21) dX12_told_20 rfl rfl ?_
      refine iV2i (q := 24) dX12_told_21 rfl ml_X12_310 mv_X12_part (Nat.le_of_ble_eq_true rfl) (wfk w rfl) ?_
      rw [show m = (m.toNat : Int) by omega]
      refine c_X12_part w nm qo (by omega) (by omega) ?_
      refine st_iconst (q := 25) dX12_told_24 ⟨by decide, by decide⟩ rfl ?_
      refine iV2i (q := 28) dX12_told_25 rfl ml_X12_152 mv_X12_ask (Nat.le_of_ble_eq_true rfl) (wfk w rfl) ?_
      refine c_X12_ask w ?_
      refine st_goto (q := 32) dX12_told_28 (by decide) ?_
      refine rt_i dX12_told_32 rfl ?_
      first | exact h1 (by omega) | exact h2 (by omega)
theorem c_X12_isOf {d : Nat} {h : JH} {P : Int → JH → Prop} {kind f : Int} (hP : P (if kind = f ∨ (f = 1 ∧ (kind = 3 ∨ kind = 4)) then 1 else 0) h) : JRi d jX12_isOf [vi kind, vi f] h P := by
  refine JRet.of rfl (Nat.le_of_ble_eq_true rfl) ?_
  refine st_iload_n (q := 1) dX12_isOf_0 rfl rfl ?_
  refine st_iload_n (q := 2) dX12_isOf_1 rfl rfl ?_
  apply j_mg 25
  · intro K1 K2
    refine st_icmp_eq (q := 5) (tgt := 20) dX12_isOf_2 (by decide) rfl (fun c2 => ?_) (fun c2 => ?_)
    · refine st_iconst (q := 21) dX12_isOf_20 ⟨by decide, by decide⟩ rfl ?_
      refine st_goto (q := 25) dX12_isOf_21 (by decide) ?_
      exact K1 c2
    · refine st_iload_n (q := 6) dX12_isOf_5 rfl rfl ?_
      refine st_iconst (q := 7) dX12_isOf_6 ⟨by decide, by decide⟩ rfl ?_
      apply j_mg 25
      · intro K3 K4
        refine st_icmp_ne (q := 10) (tgt := 24) dX12_isOf_7 (by decide) rfl (fun c7 => ?_) (fun c7 => ?_)
        · refine st_iconst (q := 25) dX12_isOf_24 ⟨by decide, by decide⟩ rfl ?_
          exact K4 c7
        · refine st_iload_n (q := 11) dX12_isOf_10 rfl rfl ?_
          refine st_iconst (q := 12) dX12_isOf_11 ⟨by decide, by decide⟩ rfl ?_
          apply j_mg 25
          · intro K5 K6
            refine st_icmp_eq (q := 15) (tgt := 20) dX12_isOf_12 (by decide) rfl (fun c12 => ?_) (fun c12 => ?_)
            · refine st_iconst (q := 21) dX12_isOf_20 ⟨by decide, by decide⟩ rfl ?_
              refine st_goto (q := 25) dX12_isOf_21 (by decide) ?_
              exact K5 c12
            · refine st_iload_n (q := 16) dX12_isOf_15 rfl rfl ?_
              refine st_iconst (q := 17) dX12_isOf_16 ⟨by decide, by decide⟩ rfl ?_
              apply j_mg 25
              · intro K7 K8
                refine st_icmp_ne (q := 20) (tgt := 24) dX12_isOf_17 (by decide) rfl (fun c17 => ?_) (fun c17 => ?_)
                · refine st_iconst (q := 25) dX12_isOf_24 ⟨by decide, by decide⟩ rfl ?_
                  exact K8 c17
                · refine st_iconst (q := 21) dX12_isOf_20 ⟨by decide, by decide⟩ rfl ?_
                  refine st_goto (q := 25) dX12_isOf_21 (by decide) ?_
                  exact K7 c17
              · simp only [jif_if]
                exact K6 c12
          · simp only [jif_if]
            exact K3 c7
      · simp only [jif_if]
        exact K2 c2
  · simp only [jif_if]
    refine rt_z dX12_isOf_25 rfl (by (repeat' split) <;> omega) ?_
    exact pq hP (by (repeat' split) <;> omega) rfl
def plB (u : HD) (k n j : Nat) : Bool := decide (j = k) || decide (uO u j = 0) || decide (n < apN (uO u k) (uO u j))
def plS (u : HD) (k n : Nat) : Nat → Bool
  | 0 => true
  | j + 1 => plS u k n j && plB u k n j
theorem lp_X12_isPlain {d : Nat} {h : JH} {P : Int → JH → Prop} {u : HD} {k n : Nat} (w : WF h) (m : HM h u) (o : uOk u) (hk : k < 8) (hP : P (if plS u k n 8 then 1 else 0) h) (j : Nat) (hj : j ≤ 8) : JAt k0 (d + 3) jX12_isPlain 5 [vr 117, vi k, vi n, vi (if plS u k n j then 1 else 0), vi j] [] h (jqi P) := by
  have mk : hI h 126 ((k : Int)).toNat = (uO u k : Nat) := (m k hk).2.2
  have mj : j < 8 → hI h 126 ((j : Int)).toNat = (uO u j : Nat) ∧ uO u j < 65536 := fun z => ⟨(m j z).2.2, (o j z).2.2⟩
  have e0 : plS u k n (j + 1) = (plS u k n j && plB u k n j) := rfl
  refine st_iload (q := 7) dX12_isPlain_5 rfl rfl ?_
  refine st_bipush (q := 9) dX12_isPlain_7 ⟨by decide, by decide⟩ rfl ?_
  refine st_icmp_ge (q := 12) (tgt := 63) dX12_isPlain_9 (by decide) rfl (fun c9 => ?_) (fun c9 => ?_)
  · refine st_iload_n (q := 64) dX12_isPlain_63 rfl rfl ?_
    refine rt_z dX12_isPlain_64 rfl (by split <;> simp) ?_
    exact pq hP (by rw [show j = 8 by omega]) rfl
  · refine st_iload_n (q := 13) dX12_isPlain_12 rfl rfl ?_
    apply j_mg 56
    · intro K1 K2
      refine st_if_eq (q := 16) (tgt := 55) dX12_isPlain_13 (by decide) rfl (fun c13 => ?_) (fun c13 => ?_)
      · refine st_iconst (q := 56) dX12_isPlain_55 ⟨by decide, by decide⟩ rfl ?_
        exact K1 c13
      · refine st_iload (q := 18) dX12_isPlain_16 rfl rfl ?_
        refine st_iload_n (q := 19) dX12_isPlain_18 rfl rfl ?_
        apply j_mg 56
        · intro K3 K4
          refine st_icmp_eq (q := 22) (tgt := 51) dX12_isPlain_19 (by decide) rfl (fun c19 => ?_) (fun c19 => ?_)
          · refine st_iconst (q := 52) dX12_isPlain_51 ⟨by decide, by decide⟩ rfl ?_
            refine st_goto (q := 56) dX12_isPlain_52 (by decide) ?_
            exact K3 c19
          · refine st_aload_n (q := 23) dX12_isPlain_22 rfl rfl ?_
            refine st_iload (q := 25) dX12_isPlain_23 rfl rfl ?_
            refine iV1i (q := 28) dX12_isPlain_25 rfl ml_X12_164 mv_X12_isThere (Nat.le_of_ble_eq_true rfl) (wfk w rfl) ?_
            refine c_X12_isThere w (by omega) ?_
            apply j_mg 56
            · intro K5 K6
              refine st_if_eq (q := 31) (tgt := 51) dX12_isPlain_28 (by decide) rfl (fun c28 => ?_) (fun c28 => ?_)
              · refine st_iconst (q := 52) dX12_isPlain_51 ⟨by decide, by decide⟩ rfl ?_
                refine st_goto (q := 56) dX12_isPlain_52 (by decide) ?_
                exact K5 c28
              · refine st_aload_n (q := 32) dX12_isPlain_31 rfl rfl ?_
                refine st_getR (q := 35) 12 12 dX12_isPlain_32 fl_X12_38 (by decide) (by decide) rfl rfl (wfk w rfl) (wfR w rfl) ?_
                refine st_iload_n (q := 36) dX12_isPlain_35 rfl rfl ?_
                refine st_iaload (q := 37) dX12_isPlain_36 rfl (wfk w rfl) (wfb w (n := 8) rfl ⟨by omega, by omega⟩) ?_
                refine st_aload_n (q := 38) dX12_isPlain_37 rfl rfl ?_
                refine st_getR (q := 41) 12 12 dX12_isPlain_38 fl_X12_38 (by decide) (by decide) rfl rfl (wfk w rfl) (wfR w rfl) ?_
                refine st_iload (q := 43) dX12_isPlain_41 rfl rfl ?_
                refine st_iaload (q := 44) dX12_isPlain_43 rfl (wfk w rfl) (wfb w (n := 8) rfl ⟨by omega, by omega⟩) ?_
                refine iS2i (q := 47) dX12_isPlain_44 rfl ml_X12_292 ms_X12_apartBy (Nat.le_of_ble_eq_true rfl) ?_
                rw [mk, (mj (by omega)).1]
                refine c_X12_apartBy (o k hk).2.2 (mj (by omega)).2 ?_
                refine st_iload_n (q := 48) dX12_isPlain_47 rfl rfl ?_
                apply j_mg 56
                · intro K7 K8
                  refine st_icmp_le (q := 51) (tgt := 55) dX12_isPlain_48 (by decide) rfl (fun c48 => ?_) (fun c48 => ?_)
                  · refine st_iconst (q := 56) dX12_isPlain_55 ⟨by decide, by decide⟩ rfl ?_
                    exact K7 c48
                  · refine st_iconst (q := 52) dX12_isPlain_51 ⟨by decide, by decide⟩ rfl ?_
                    refine st_goto (q := 56) dX12_isPlain_52 (by decide) ?_
                    exact K8 c48
                · simp only [jif_if]
                  exact K6 c28
            · simp only [jif_if]
              exact K4 c19
        · simp only [jif_if]
          exact K2 c13
    · simp only [jif_if]
      have q2 := mj (by omega)
      refine j_top (if plS u k n (j + 1) then 1 else 0) (by rw [e0, q2.1]; unfold plB; cases plS u k n j <;> simp <;> (repeat' split) <;> simp_all <;> omega) ?_
      refine st_istore_n (q := 57) (i := 3) dX12_isPlain_56 rfl (by decide) rfl ?_
      first | refine n_iinc (q := 60) dX12_isPlain_57 rfl (by decide) rfl ⟨by omega, by omega⟩ ?_ | refine st_iinc (q := 60) dX12_isPlain_57 rfl (by decide) rfl ?_
      refine st_goto (q := 5) dX12_isPlain_60 (by decide) ?_
      exact lp_X12_isPlain w m o hk hP (j + 1) (by omega)
termination_by 8 - j
theorem c_X12_isPlain {d : Nat} {h : JH} {P : Int → JH → Prop} {u : HD} {k n : Nat} (w : WF h) (m : HM h u) (o : uOk u) (hk : k < 8) (hP : P (if plS u k n 8 then 1 else 0) h) : JRi (d + 3) jX12_isPlain [vr 117, vi k, vi n] h P := by
  refine JRet.of rfl (Nat.le_of_ble_eq_true rfl) ?_
  refine st_iconst (q := 1) dX12_isPlain_0 ⟨by decide, by decide⟩ rfl ?_
  refine st_istore_n (q := 2) (i := 3) dX12_isPlain_1 rfl (by decide) rfl ?_
  refine st_iconst (q := 3) dX12_isPlain_2 ⟨by decide, by decide⟩ rfl ?_
  refine st_istore (q := 5) dX12_isPlain_3 (by decide) rfl ?_
  exact lp_X12_isPlain w m o hk hP 0 (by omega)
def seB (u : HD) (q : MO) (n : Nat) (b : Int) (m : Nat) : Bool := decide (q.2 m 0 ≠ 0 ∧ q.2 m 0 ≠ 5 ∧ uO u (q.2 m 2).toNat ≠ 0) && (decide (b ≠ 0) || (decide (q.2 m 0 ≠ 6) && plS u (q.2 m 2).toNat n 8))
def seF (u : HD) (q : MO) (n : Nat) (b : Int) : Nat → Nat
  | 0 => 0
  | m + 1 => seF u q n b m + (if seB u q n b m then 1 else 0)
theorem seF_le (u : HD) (q : MO) (n : Nat) (b : Int) : ∀ m, seF u q n b m ≤ m
  | 0 => Nat.le_refl _
  | m + 1 => by
    have := seF_le u q n b m
    show seF u q n b m + (if seB u q n b m then 1 else 0) ≤ m + 1
    split <;> omega
theorem lp_X12_seen {d : Nat} {h : JH} {P : Int → JH → Prop} {u : HD} {q : MO} {n : Nat} {b : Int} (w : WF h) (m0 : HM h u) (o : uOk u) (nm : NM h q) (qo : qOk q) (hn : n ≤ 16) (hP : P (seF u q n b q.1 : Nat) h) (m : Nat) (hm : m ≤ q.1) : ∀ (j5 j6 j7 : JV), JAt k0 (d + 4) jX12_seen 17 [vr 117, vi n, vi b, vi (seF u q n b m : Nat), vi m, j5, j6, j7] [] h (jqi P) := by
  intro j5 j6 j7
  have n1 := nm.1
  have q1 := qo.1
  have s1 := seF_le u q n b m
  have q2 := fun z : m < q.1 => qo.2 m z
  have mh : m < q.1 → q.2 m 0 ≠ 0 ∧ q.2 m 0 ≠ 5 → hI h 126 (q.2 m 2).toNat = (uO u (q.2 m 2).toNat : Nat) := fun z z2 => (m0 _ (by have := (q2 z).2.2.2.1 z2; omega)).2.2
  have e0 : seF u q n b (m + 1) = seF u q n b m + (if seB u q n b m then 1 else 0) := rfl
  refine st_iload (q := 19) dX12_seen_17 rfl rfl ?_
  refine st_aload_n (q := 20) dX12_seen_19 rfl rfl ?_
  refine st_getI (q := 23) 12 47 dX12_seen_20 fl_X12_304 (by decide) (by decide) rfl rfl (wfk w rfl) ?_
  refine st_icmp_ge (q := 26) (tgt := 124) dX12_seen_23 (by decide) rfl (fun c23 => ?_) (fun c23 => ?_)
  · refine st_iload_n (q := 125) dX12_seen_124 rfl rfl ?_
    refine rt_i dX12_seen_125 rfl ?_
    exact pq hP (by rw [show m = q.1 by omega]) rfl
  · refine st_aload_n (q := 27) dX12_seen_26 rfl rfl ?_
    refine st_iload (q := 29) dX12_seen_27 rfl rfl ?_
    refine st_iconst (q := 30) dX12_seen_29 ⟨by decide, by decide⟩ rfl ?_
    refine iV2i (q := 33) dX12_seen_30 rfl ml_X12_310 mv_X12_part (Nat.le_of_ble_eq_true rfl) (wfk w rfl) ?_
    refine c_X12_part w nm qo (by omega) (by omega) ?_
    simp only [tn0, tn1, tn2, tn3, tn4]
    refine st_istore (q := 35) dX12_seen_33 (by decide) rfl ?_
    refine st_iload (q := 37) dX12_seen_35 rfl rfl ?_
    apply j_mg 65
    · intro K1 K2
      refine st_if_eq (q := 40) (tgt := 64) dX12_seen_37 (by decide) rfl (fun c37 => ?_) (fun c37 => ?_)
      · refine st_iconst (q := 65) dX12_seen_64 ⟨by decide, by decide⟩ rfl ?_
        exact K1 c37
      · refine st_iload (q := 42) dX12_seen_40 rfl rfl ?_
        refine st_iconst (q := 43) dX12_seen_42 ⟨by decide, by decide⟩ rfl ?_
        apply j_mg 65
        · intro K3 K4
          refine st_icmp_eq (q := 46) (tgt := 64) dX12_seen_43 (by decide) rfl (fun c43 => ?_) (fun c43 => ?_)
          · refine st_iconst (q := 65) dX12_seen_64 ⟨by decide, by decide⟩ rfl ?_
            exact K3 c43
          · refine st_aload_n (q := 47) dX12_seen_46 rfl rfl ?_
            refine st_aload_n (q := 48) dX12_seen_47 rfl rfl ?_
            refine st_iload (q := 50) dX12_seen_48 rfl rfl ?_
            refine st_iconst (q := 51) dX12_seen_50 ⟨by decide, by decide⟩ rfl ?_
            refine iV2i (q := 54) dX12_seen_51 rfl ml_X12_310 mv_X12_part (Nat.le_of_ble_eq_true rfl) (wfk w rfl) ?_
            refine c_X12_part w nm qo (by omega) (by omega) ?_
            simp only [tn0, tn1, tn2, tn3, tn4]
            refine iV1i (q := 57) dX12_seen_54 rfl ml_X12_164 mv_X12_isThere (Nat.le_of_ble_eq_true rfl) (wfk w rfl) ?_
            have qh := (q2 (by omega)).2.2.2.1 ⟨by omega, by omega⟩
            refine c_X12_isThere w (by omega) ?_
            apply j_mg 65
            · intro K5 K6
              refine st_if_eq (q := 60) (tgt := 64) dX12_seen_57 (by decide) rfl (fun c57 => ?_) (fun c57 => ?_)
              · refine st_iconst (q := 65) dX12_seen_64 ⟨by decide, by decide⟩ rfl ?_
                exact K5 c57
              · refine st_iconst (q := 61) dX12_seen_60 ⟨by decide, by decide⟩ rfl ?_
                refine st_goto (q := 65) dX12_seen_61 (by decide) ?_
                exact K6 c57
            · simp only [jif_if]
              exact K4 c43
        · simp only [jif_if]
          exact K2 c37
    · simp only [jif_if]
      have hlt : m < q.1 := by omega
      have eT : (if q.2 m 0 = 0 then (0 : Int) else if q.2 m 0 = 5 then 0 else if (if hI h 126 (q.2 m 2).toNat = 0 then (0 : Int) else 1) = 0 then 0 else 1) = (if q.2 m 0 ≠ 0 ∧ q.2 m 0 ≠ 5 ∧ uO u (q.2 m 2).toNat ≠ 0 then 1 else 0) := by
        by_cases z : q.2 m 0 ≠ 0 ∧ q.2 m 0 ≠ 5
        · rw [mh hlt z]; (repeat' split) <;> omega
        · (repeat' split) <;> omega
      refine j_top _ eT ?_
      refine st_istore (q := 67) dX12_seen_65 (by decide) rfl ?_
      refine st_iload (q := 69) dX12_seen_67 rfl rfl ?_
      apply j_mg 103
      · intro K7 K8
        refine st_if_eq (q := 72) (tgt := 102) dX12_seen_69 (by decide) rfl (fun c69 => ?_) (fun c69 => ?_)
        · refine st_iconst (q := 103) dX12_seen_102 ⟨by decide, by decide⟩ rfl ?_
          exact K7 c69
        · refine st_iload_n (q := 73) dX12_seen_72 rfl rfl ?_
          apply j_mg 103
          · intro K9 K10
            refine st_if_ne (q := 76) (tgt := 98) dX12_seen_73 (by decide) rfl (fun c73 => ?_) (fun c73 => ?_)
            · refine st_iconst (q := 99) dX12_seen_98 ⟨by decide, by decide⟩ rfl ?_
              refine st_goto (q := 103) dX12_seen_99 (by decide) ?_
              exact K10 c73
            · refine st_iload (q := 78) dX12_seen_76 rfl rfl ?_
              refine st_bipush (q := 80) dX12_seen_78 ⟨by decide, by decide⟩ rfl ?_
              apply j_mg 103
              · intro K11 K12
                refine st_icmp_eq (q := 83) (tgt := 102) dX12_seen_80 (by decide) rfl (fun c80 => ?_) (fun c80 => ?_)
                · refine st_iconst (q := 103) dX12_seen_102 ⟨by decide, by decide⟩ rfl ?_
                  exact K11 c80
                · refine st_aload_n (q := 84) dX12_seen_83 rfl rfl ?_
                  refine st_aload_n (q := 85) dX12_seen_84 rfl rfl ?_
                  refine st_iload (q := 87) dX12_seen_85 rfl rfl ?_
                  refine st_iconst (q := 88) dX12_seen_87 ⟨by decide, by decide⟩ rfl ?_
                  refine iV2i (q := 91) dX12_seen_88 rfl ml_X12_310 mv_X12_part (Nat.le_of_ble_eq_true rfl) (wfk w rfl) ?_
                  refine c_X12_part w nm qo (by omega) (by omega) ?_
                  simp only [tn0, tn1, tn2, tn3, tn4]
                  refine st_iload_n (q := 92) dX12_seen_91 rfl rfl ?_
                  refine iV2i (q := 95) dX12_seen_92 rfl ml_X12_316 mv_X12_isPlain (Nat.le_of_ble_eq_true rfl) (wfk w rfl) ?_
                  have qh := (q2 (by omega)).2.2.2.1 ⟨by omega, by omega⟩
                  rw [show q.2 m 2 = ((q.2 m 2).toNat : Int) by omega]
                  refine c_X12_isPlain w m0 o (by omega) ?_
                  apply j_mg 103
                  · intro K13 K14
                    refine st_if_eq (q := 98) (tgt := 102) dX12_seen_95 (by decide) rfl (fun c95 => ?_) (fun c95 => ?_)
                    · refine st_iconst (q := 103) dX12_seen_102 ⟨by decide, by decide⟩ rfl ?_
                      exact K13 c95
                    · refine st_iconst (q := 99) dX12_seen_98 ⟨by decide, by decide⟩ rfl ?_
                      refine st_goto (q := 103) dX12_seen_99 (by decide) ?_
                      exact K14 c95
                  · simp only [jif_if]
                    exact K12 c80
              · simp only [jif_if]
                exact K9 c73
          · simp only [jif_if]
            exact K8 c69
      · simp only [jif_if]
        refine j_top (if seB u q n b m then 1 else 0) (by unfold seB; (repeat' split) <;> simp_all <;> omega) ?_
        refine st_istore (q := 105) dX12_seen_103 (by decide) rfl ?_
        refine st_iload_n (q := 106) dX12_seen_105 rfl rfl ?_
        refine st_iload (q := 108) dX12_seen_106 rfl rfl ?_
        apply j_mg 116
        · intro K15 K16
          refine st_if_eq (q := 111) (tgt := 115) dX12_seen_108 (by decide) rfl (fun c108 => ?_) (fun c108 => ?_)
          · refine st_iconst (q := 116) dX12_seen_115 ⟨by decide, by decide⟩ rfl ?_
            exact K15 c108
          · refine st_iconst (q := 112) dX12_seen_111 ⟨by decide, by decide⟩ rfl ?_
            refine st_goto (q := 116) dX12_seen_112 (by decide) ?_
            exact K16 c108
        · simp only [jif_if]
          refine j_top ((if seB u q n b m then 1 else 0 : Nat) : Int) (by cases seB u q n b m <;> simp) ?_
          have s2 : (if seB u q n b m then 1 else 0 : Nat) ≤ 1 := by split <;> omega
          first | refine n_iadd (q := 117) dX12_seen_116 rfl ⟨by omega, by omega⟩ ?_ | refine st_iadd (q := 117) dX12_seen_116 rfl ?_
          refine st_istore_n (q := 118) (i := 3) dX12_seen_117 rfl (by decide) rfl ?_
          first | refine n_iinc (q := 121) dX12_seen_118 rfl (by decide) rfl ⟨by omega, by omega⟩ ?_ | refine st_iinc (q := 121) dX12_seen_118 rfl (by decide) rfl ?_
          refine st_goto (q := 17) dX12_seen_121 (by decide) ?_
          exact lp_X12_seen w m0 o nm qo hn hP (m + 1) (by omega) _ _ _
termination_by q.1 - m
theorem c_X12_seen {d : Nat} {h : JH} {P : Int → JH → Prop} {u : HD} {q : MO} {n b : Int} (w : WF h) (m0 : HM h u) (o : uOk u) (nm : NM h q) (qo : qOk q) (h1 : ¬ (0 ≤ n ∧ n ≤ 16) → P (-1) h) (h2 : 0 ≤ n ∧ n ≤ 16 → P (seF u q n.toNat b q.1 : Nat) h) : JRi (d + 4) jX12_seen [vr 117, vi n, vi b] h P := by
  refine JRet.of rfl (Nat.le_of_ble_eq_true rfl) ?_
  refine st_iload_n (q := 1) dX12_seen_0 rfl rfl ?_
  refine st_iconst (q := 2) dX12_seen_1 ⟨by decide, by decide⟩ rfl ?_
  refine st_bipush (q := 4) dX12_seen_2 ⟨by decide, by decide⟩ rfl ?_
  refine iS3i (q := 7) dX12_seen_4 rfl ml_X12_130 ms_X12_in (Nat.le_of_ble_eq_true rfl) ?_
  refine c_X12_in ?_
  refine st_if_ne (q := 10) (tgt := 12) dX12_seen_7 (by decide) rfl (fun c7 => ?_) (fun c7 => ?_)
  · refine st_iconst (q := 13) dX12_seen_12 ⟨by decide, by decide⟩ rfl ?_
    refine st_istore_n (q := 14) (i := 3) dX12_seen_13 rfl (by decide) rfl ?_
    refine st_iconst (q := 15) dX12_seen_14 ⟨by decide, by decide⟩ rfl ?_
    refine st_istore (q := 17) dX12_seen_15 (by decide) rfl ?_
    have e1 : n = (n.toNat : Int) := by omega
    have := lp_X12_seen (d := d) (n := n.toNat) w m0 o nm qo (by omega) (h2 (by omega)) 0 (by omega) vn vn vn
    rw [← e1] at this
    exact this
  · refine st_iconst (q := 11) dX12_seen_10 ⟨by decide, by decide⟩ rfl ?_
    refine rt_i dX12_seen_11 rfl ?_
    exact h1 (by omega)

