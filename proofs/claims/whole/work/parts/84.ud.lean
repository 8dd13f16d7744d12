/-! sure: the pair -/
theorem c_X11_sure {d : Nat} {h : JH} {P : Int → JH → Prop} {g : SG} (w : WF h) (x : GX h g) (o : gOk g) (p0 : emp g → ∀ h', Fr ScQ h h' → P 0 h') (p1 : ¬ emp g → ∀ h', Fr ScQ h h' → P 1 h') : JRi (d + 4) jX11_sure [vr 0] h P := by
  refine JRet.of rfl (Nat.le_of_ble_eq_true rfl) ?_
  refine st_aload_n (q := 1) dX11_sure_0 rfl rfl ?_
  refine st_getR (q := 4) 11 7 dX11_sure_1 fl_X11_56 (by decide) (by decide) rfl rfl (wfk w rfl) (wfR w rfl) ?_
  refine iV0i (q := 7) dX11_sure_4 rfl ml_X11_302 mv_X6_areSure (Nat.le_of_ble_eq_true rfl) (wfk w rfl) ?_
  refine c_X6_areSure w x o (fun z h2 f2 => ?_) (fun z h2 f2 => ?_)
  · refine st_if_eq (q := 10) (tgt := 14) dX11_sure_7 (by decide) rfl (fun _ => ?_) (fun z => absurd z (by decide))
    refine st_iconst (q := 15) dX11_sure_14 ⟨by decide, by decide⟩ rfl ?_
    refine rt_i dX11_sure_15 rfl ?_
    first | exact p0 z _ f2 | exact p1 z _ f2
  · refine st_if_eq (q := 10) (tgt := 14) dX11_sure_7 (by decide) rfl (fun z => absurd z (by decide)) (fun _ => ?_)
    refine st_iconst (q := 11) dX11_sure_10 ⟨by decide, by decide⟩ rfl ?_
    refine st_goto (q := 15) dX11_sure_11 (by decide) ?_
    refine rt_i dX11_sure_15 rfl ?_
    first | exact p0 z _ f2 | exact p1 z _ f2
theorem sQ_S : ∀ a k, ScQ a k → rgS a k := fun _ _ z => z.elim (fun t => (Or.inr (Or.inr (Or.inr (Or.inr (Or.inr (Or.inr (Or.inr (Or.inr (Or.inr (Or.inr (Or.inl t)))))))))))) (fun t => t.elim (fun t => (Or.inr (Or.inr (Or.inr (Or.inr (Or.inr (Or.inr (Or.inr (Or.inr (Or.inr (Or.inr (Or.inr (Or.inl t))))))))))))) (fun t => (Or.inr (Or.inr (Or.inr (Or.inr (Or.inr (Or.inr (Or.inr (Or.inr (Or.inl t)))))))))))
theorem sW_S : ∀ a k, ScW a k → rgS a k := fun a k z => Or.inl (by unfold ScW at z; unfold ScM; omega)
theorem pr_sure {d : Nat} {h : JH} (I : Inv h) : Two (d + 4) jX11_sure jX12_sure [] h := by
  obtain ⟨g, o, m, x⟩ := I.2.2.2.2.2.2.1
  have gm : ∀ h1, Fr ScQ h h1 → GM h1 g := fun h1 f1 k hk => ⟨(f1.2.2 _ _ (by unfold ScQ; omega)).trans (m k hk).1, fun z => (f1.2.2 _ _ (by unfold ScQ; omega)).trans ((m k hk).2 z)⟩
  refine c_X11_sure I.1 x o (fun e h1 f1 => ?_) (fun e h1 f1 => ?_)
  · exact c_X12_sure (f1.wf I.1) (gm h1 f1) o (fun _ h2 f2 => ⟨rfl, inv_s I ((Fq.rf.fr f1 sQ_S).fr f2 sW_S)⟩) (fun z => absurd e z)
  · exact c_X12_sure (f1.wf I.1) (gm h1 f1) o (fun z => absurd z e) (fun _ h2 f2 => ⟨rfl, inv_s I ((Fq.rf.fr f1 sQ_S).fr f2 sW_S)⟩)

