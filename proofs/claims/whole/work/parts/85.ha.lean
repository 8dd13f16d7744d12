/-! hands: small pieces -/
theorem lp_fillA {d : Nat} {h : JH} {P : JH → Prop} {b n : Nat} {v : Int} {f : Nat → Int} (hk : kd h b = 20) (hl : n = ln h b) (hm : ln h b < 100000) (hP : P (wI h b (fillF f 0 n v))) (k : Nat) (hn : k ≤ n) : JAt k0 d jJ7_fill_53178 5 [vr b, vi v, vi k, vi n] [] (wI h b (fillF f 0 k v)) (jqv P) := by
  have e : ln (wI h b (fillF f 0 k v)) b = ln h b := rfl
  refine st_iload_n (q := 6) dJ7_fill_53178_5 rfl rfl ?_
  refine st_iload_n (q := 7) dJ7_fill_53178_6 rfl rfl ?_
  refine st_icmp_ge (q := 10) (tgt := 20) dJ7_fill_53178_7 (by decide) rfl (fun c7 => ?_) (fun c7 => ?_)
  · refine rt_v dJ7_fill_53178_20 rfl ?_
    exact pv hP (by rw [show k = n by omega])
  · refine st_aload_n (q := 11) dJ7_fill_53178_10 rfl rfl ?_
    refine st_iload_n (q := 12) dJ7_fill_53178_11 rfl rfl ?_
    refine st_iload_n (q := 13) dJ7_fill_53178_12 rfl rfl ?_
    refine st_iastore (q := 14) dJ7_fill_53178_13 rfl (hk) (⟨by omega, by rw [e]; omega⟩) ?_
    first | refine n_iinc (q := 17) dJ7_fill_53178_14 rfl (by decide) rfl ⟨by omega, by omega⟩ ?_ | refine st_iinc (q := 17) dJ7_fill_53178_14 rfl (by decide) rfl ?_
    refine st_goto (q := 5) dJ7_fill_53178_17 (by decide) ?_
    rw [sI_wI, show ((k : Int)).toNat = 0 + k by omega, fillF_s]
    exact lp_fillA hk hl hm hP (k + 1) (by omega)
termination_by n - k
/-- what the reference's change between two places of a hide costs -/
def chg (a b : Int) : Int := if a = b then 0 else if (a < 2 ∧ b < 2) ∨ (2 ≤ a ∧ 2 ≤ b) then 2 else 1
theorem c_X12_change {d : Nat} {h : JH} {P : Int → JH → Prop} {a b : Int} (hP : P (chg a b) h) : JRi d jX12_change [vi a, vi b] h P := by
  unfold chg at hP
  refine JRet.of rfl (Nat.le_of_ble_eq_true rfl) ?_
  refine st_iload_n (q := 1) dX12_change_0 rfl rfl ?_
  refine st_iload_n (q := 2) dX12_change_1 rfl rfl ?_
  refine st_icmp_ne (q := 5) (tgt := 9) dX12_change_2 (by decide) rfl (fun c2 => ?_) (fun c2 => ?_)
  · refine st_iload_n (q := 10) dX12_change_9 rfl rfl ?_
    refine st_iconst (q := 11) dX12_change_10 ⟨by decide, by decide⟩ rfl ?_
    refine st_icmp_ge (q := 14) (tgt := 19) dX12_change_11 (by decide) rfl (fun c11 => ?_) (fun c11 => ?_)
    · refine st_iload_n (q := 20) dX12_change_19 rfl rfl ?_
      refine st_iconst (q := 21) dX12_change_20 ⟨by decide, by decide⟩ rfl ?_
      refine st_icmp_lt (q := 24) (tgt := 33) dX12_change_21 (by decide) rfl (fun c21 => ?_) (fun c21 => ?_)
      · refine st_iconst (q := 34) dX12_change_33 ⟨by decide, by decide⟩ rfl ?_
        refine rt_i dX12_change_34 rfl ?_
        exact pq hP (by (repeat' split) <;> omega) rfl
      · refine st_iload_n (q := 25) dX12_change_24 rfl rfl ?_
        refine st_iconst (q := 26) dX12_change_25 ⟨by decide, by decide⟩ rfl ?_
        refine st_icmp_lt (q := 29) (tgt := 33) dX12_change_26 (by decide) rfl (fun c26 => ?_) (fun c26 => ?_)
        · refine st_iconst (q := 34) dX12_change_33 ⟨by decide, by decide⟩ rfl ?_
          refine rt_i dX12_change_34 rfl ?_
          exact pq hP (by (repeat' split) <;> omega) rfl
        · refine st_iconst (q := 30) dX12_change_29 ⟨by decide, by decide⟩ rfl ?_
          refine st_goto (q := 34) dX12_change_30 (by decide) ?_
          refine rt_i dX12_change_34 rfl ?_
          exact pq hP (by (repeat' split) <;> omega) rfl
    · refine st_iload_n (q := 15) dX12_change_14 rfl rfl ?_
      refine st_iconst (q := 16) dX12_change_15 ⟨by decide, by decide⟩ rfl ?_
      refine st_icmp_lt (q := 19) (tgt := 29) dX12_change_16 (by decide) rfl (fun c16 => ?_) (fun c16 => ?_)
      · refine st_iconst (q := 30) dX12_change_29 ⟨by decide, by decide⟩ rfl ?_
        refine st_goto (q := 34) dX12_change_30 (by decide) ?_
        refine rt_i dX12_change_34 rfl ?_
        exact pq hP (by (repeat' split) <;> omega) rfl
      · refine st_iload_n (q := 20) dX12_change_19 rfl rfl ?_
        refine st_iconst (q := 21) dX12_change_20 ⟨by decide, by decide⟩ rfl ?_
        refine st_icmp_lt (q := 24) (tgt := 33) dX12_change_21 (by decide) rfl (fun c21 => ?_) (fun c21 => ?_)
        · refine st_iconst (q := 34) dX12_change_33 ⟨by decide, by decide⟩ rfl ?_
          refine rt_i dX12_change_34 rfl ?_
          exact pq hP (by (repeat' split) <;> omega) rfl
        · refine st_iload_n (q := 25) dX12_change_24 rfl rfl ?_
          refine st_iconst (q := 26) dX12_change_25 ⟨by decide, by decide⟩ rfl ?_
          refine st_icmp_lt (q := 29) (tgt := 33) dX12_change_26 (by decide) rfl (fun c26 => ?_) (fun c26 => ?_)
          · refine st_iconst (q := 34) dX12_change_33 ⟨by decide, by decide⟩ rfl ?_
            refine rt_i dX12_change_34 rfl ?_
            exact pq hP (by (repeat' split) <;> omega) rfl
          · refine st_iconst (q := 30) dX12_change_29 ⟨by decide, by decide⟩ rfl ?_
            refine st_goto (q := 34) dX12_change_30 (by decide) ?_
            refine rt_i dX12_change_34 rfl ?_
            exact pq hP (by (repeat' split) <;> omega) rfl
  · refine st_iconst (q := 6) dX12_change_5 ⟨by decide, by decide⟩ rfl ?_
    refine st_goto (q := 34) dX12_change_6 (by decide) ?_
    refine rt_i dX12_change_34 rfl ?_
    exact pq hP (by (repeat' split) <;> omega) rfl
theorem c_fillA {d : Nat} {h : JH} {P : JH → Prop} {b : Nat} {v : Int} (hk : kd h b = 20) (hm : ln h b < 100000) (hP : P (wI h b (fillF (hI h b) 0 (ln h b) v))) : JRv d jJ7_fill_53178 [vr b, vi v] h P := by
  have tk := lp_fillA (d := d) (f := hI h b) hk rfl hm hP 0 (by omega)
  rw [fillF_0, wI_self] at tk
  refine JRet.of rfl (Nat.le_of_ble_eq_true rfl) ?_
  refine st_iconst (q := 1) dJ7_fill_53178_0 ⟨by decide, by decide⟩ rfl ?_
  refine st_istore_n (q := 2) (i := 2) dJ7_fill_53178_1 rfl (by decide) rfl ?_
  refine st_aload_n (q := 3) dJ7_fill_53178_2 rfl rfl ?_
  refine st_arraylength (q := 4) (t := 0) dJ7_fill_53178_3 rfl (by decide) (hk) ?_
  refine st_istore_n (q := 5) (i := 3) dJ7_fill_53178_4 rfl (by decide) rfl ?_
  exact tk

