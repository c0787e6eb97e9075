def gOk (N : aM) (g : Nat) (v4 v5 v6 : Int32) : Prop := (v4 = 0 ↔ ¬ mAny N g (fun _ => True)) ∧ (v5 = 0 ↔ ¬ mAny N g (fun x => 0 < mA N 37 x)) ∧ 0 ≤ v6 ∧ (v6 = 0 → ¬ mAny N g (fun x => ¬ mA N 39 x = 0)) ∧ (0 < v6 → mAny N g (fun x => ¬ mA N 39 x = 0 ∧ mA N 37 x = v6) ∧ ∀ x, x < mN N 30 → mA N 42 x = nI g → mA N 34 x = 0 → ¬ mA N 39 x = 0 → v6 ≤ mA N 37 x)
theorem gOk_of {τ : Nat → Nat → Nat} {S : awS} {M : aM} (R : cR τ S M) (hr0 : cRest M) {g : Nat} {v4 v5 v6 : Int32} (hg : g < mN M 48) (h : gV S M (mN M 30) g v4 v5 v6) : gOk M g v4 v5 v6 := by
  obtain ⟨h1, h2, h3, h4, h5⟩ := h
  have eg : ∀ x, x < mN M 30 → (mE M 42 x = g ↔ mA M 42 x = nI g) := fun x hx => by
    have q := (R.mI.A (k := 42) (n := 300) (b := 300) (by decide) (Nat.lt_of_lt_of_le hx R.nA)).1
    have hgb := R.nG
    constructor
    · intro z; rw [q, z]
    · intro z; unfold mE; rw [z]; exact nI_cl (by omega)
  have ee : ∀ x, x < mN M 30 → sI S 1 x 5 = mA M 34 x := fun x hx => R.int (f := 1) (k := 5) (m := 34) (q := 30) (by decide) hx
  have fl := fun x hx => hr0.flg R (i := x) hx
  have lt0 : ∀ x, x < mN M 30 → 0 < mA M 37 x → mA M 34 x = 0 := fun x hx z => Classical.byContradiction fun w => by
    rw [(hr0 x hx w).2.2.1] at z
    exact absurd z (by decide)
  have c8 : ∀ x, x < mN M 30 → (0 < sI S 1 x 8 ↔ 0 < mA M 37 x) := fun x hx => by rw [(fl x hx).2.2.1]
  refine ⟨h1.trans (not_congr ⟨fun ⟨x, a, b, c⟩ => ⟨x, a, (eg x a).mp b, (ee x a).symm.trans c, trivial⟩, fun ⟨x, a, b, c, _⟩ => ⟨x, a, (eg x a).mpr b, (ee x a).trans c⟩⟩), h2.trans (not_congr ⟨fun ⟨x, a, b, c⟩ => ⟨x, a, (eg x a).mp b, lt0 x a ((c8 x a).mp c), (c8 x a).mp c⟩, fun ⟨x, a, b, _, c⟩ => ⟨x, a, (eg x a).mpr b, (c8 x a).mpr c⟩⟩), h3, fun z ⟨x, a, b, c, d⟩ => h4 z x a ⟨(eg x a).mpr b, (fl x a).2.2.2.mp d⟩, fun z => ?_⟩
  obtain ⟨⟨x, a, b, d⟩, k⟩ := h5 z
  refine ⟨⟨x, a, (eg x a).mp b.1, lt0 x a ((c8 x a).mp b.2.1), (fl x a).2.2.2.mpr b.2, (fl x a).2.2.1.symm.trans d⟩, fun y y1 y2 y3 y4 => ?_⟩
  have q := k y y1 ⟨(eg y y1).mpr y2, (fl y y1).2.2.2.mp y4⟩
  rw [(fl y y1).2.2.1] at q
  exact q
/-- what a group finds stays, where its alarms stay -/
theorem gOk_cg {N N' : aM} {g : Nat} {v4 v5 v6 : Int32} (hn : mN N' 30 = mN N 30) (hA : ∀ x, x < mN N 30 → mA N' 42 x = mA N 42 x ∧ mA N' 34 x = mA N 34 x ∧ mA N' 37 x = mA N 37 x ∧ (mA N 42 x = nI g → mA N' 39 x = mA N 39 x)) (h : gOk N g v4 v5 v6) : gOk N' g v4 v5 v6 := by
  have am : ∀ p q : Nat → Prop, (∀ x, x < mN N 30 → mA N 42 x = nI g → (p x ↔ q x)) → (mAny N' g q ↔ mAny N g p) := fun p q hpq => by
    constructor
    · rintro ⟨x, a, b, c, d⟩
      rw [hn] at a
      obtain ⟨e1, e2, e3, e4⟩ := hA x a
      rw [e1] at b
      exact ⟨x, a, b, e2.symm.trans c, (hpq x a b).mpr d⟩
    · rintro ⟨x, a, b, c, d⟩
      obtain ⟨e1, e2, e3, e4⟩ := hA x a
      exact ⟨x, by rw [hn]; exact a, e1.trans b, e2.trans c, (hpq x a b).mp d⟩
  obtain ⟨h1, h2, h3, h4, h5⟩ := h
  refine ⟨h1.trans (not_congr (am _ _ (fun _ _ _ => Iff.rfl)).symm), h2.trans (not_congr (am _ _ (fun x a _ => by rw [(hA x a).2.2.1])).symm), h3, fun z w => h4 z ((am _ _ (fun x a b => by rw [(hA x a).2.2.2 b])).mp w), fun z => ?_⟩
  obtain ⟨k1, k2⟩ := h5 z
  refine ⟨(am _ _ (fun x a b => by rw [(hA x a).2.2.2 b, (hA x a).2.2.1])).mpr k1, fun x a b c d => ?_⟩
  rw [hn] at a
  obtain ⟨e1, e2, e3, e4⟩ := hA x a
  rw [e1] at b
  rw [e3]
  exact k2 x a b (e2.symm.trans c) (fun w => d ((e4 b).trans w))

set_option maxHeartbeats 400000 in
set_option maxRecDepth 100000 in
theorem c_reasonOf {E : awE} {S : awS} {τ : Nat → Nat → Nat} {Q : Option Value → awS → Nat → Nat → Prop} {N : aM} {g t : Nat} (R : cR τ S N) (hg : g < mN N 48) (hk : gOk N g (sI S 3 g 4) (sI S 3 g 5) (sI S 3 g 6)) (h : Q (some (.int (mReason N g t))) S 0 0) : awT true E m_X11_reasonOf [.ref (nm 12 0), .ref (nm 3 g), .int (nI t)] S Q := by
  refine awT.of (by decide) (by decide) (Nat.le_of_ble_eq_true rfl) ?_
  obtain ⟨k1, k2, k3, k4, k5⟩ := hk
  have eo : sI S 3 g 2 = mA N 51 g := R.int (f := 3) (k := 2) (m := 51) (q := 48) (by decide) hg
  have el : sI S 3 g 3 = mA N 50 g := R.int (f := 3) (k := 3) (m := 50) (q := 48) (by decide) hg
  have e44 : sI S 12 0 11 = mS N 44 := R.sca.2.2.1
  have e45 : sI S 12 0 12 = mS N 45 := R.sca.2.2.2.1
  have e46 : sI S 12 0 13 = mS N 46 := R.sca.2.2.2.2.1
  refine ax_aload_n (i := 1) dX11_reasonOf_0 rfl rfl rfl ?_
  refine ax_getI dX11_reasonOf_1 fl_X11_340 rfl rfl rfl ?_
  refine ax_if_ne (tgt := 33) dX11_reasonOf_4 (by decide) (fun c_4 => ?_) (fun c_4 => ?_)
  · refine ax_aload_n (i := 1) dX11_reasonOf_33 rfl rfl rfl ?_
    refine ax_invV (c := 3) (n := 0) (As := []) dX11_reasonOf_34 cb_X2_hasFresh cv_X11_344.1 cv_X11_344.2.1 cv_X11_344.2.2 rfl (by decide) rfl ⟨Nat.le_of_ble_eq_true rfl, Nat.le_of_ble_eq_true rfl⟩ (Nat.le_of_ble_eq_true rfl) rfl (c_hasFresh (fun c_34 => ?_) (fun c_34 => ?_))
    · refine ax_if_eq (tgt := 55) dX11_reasonOf_37 (by decide) (fun z => absurd z (by decide)) (fun _ => ?_)
      refine ax_iload_n (i := 2) dX11_reasonOf_40 rfl rfl ?_
      refine ax_aload_n (i := 1) dX11_reasonOf_41 rfl rfl rfl ?_
      refine ax_getI dX11_reasonOf_42 fl_X11_350 rfl rfl rfl ?_
      refine ax_aload_n (i := 0) dX11_reasonOf_45 rfl rfl rfl ?_
      refine ax_getI dX11_reasonOf_46 fl_X11_58 rfl rfl rfl ?_
      refine ax_iadd dX11_reasonOf_49 ?_
      refine ax_icmp_lt (tgt := 55) dX11_reasonOf_50 (by decide) (fun c_50 => ?_) (fun c_50 => ?_)
      · refine ax_aload_n (i := 1) dX11_reasonOf_55 rfl rfl rfl ?_
        refine ax_getI dX11_reasonOf_56 fl_X11_353 rfl rfl rfl ?_
        refine ax_if_eq (tgt := 77) dX11_reasonOf_59 (by decide) (fun c_59 => ?_) (fun c_59 => ?_)
        · refine ax_aload_n (i := 1) dX11_reasonOf_77 rfl rfl rfl ?_
          refine ax_getI dX11_reasonOf_78 fl_X11_356 rfl rfl rfl ?_
          refine ax_if_eq (tgt := 88) dX11_reasonOf_81 (by decide) (fun c_81 => ?_) (fun c_81 => ?_)
          · refine ax_iconst (v := 4) dX11_reasonOf_88 (by decide) ?_
            refine ax_iret dX11_reasonOf_89 rfl rfl ?_
            exact fin1 h ((if_neg (fun z => c_4 (eo.trans z))).trans ((iC_f (fun z => absurd c_50 (Int32.not_lt.mpr (by rw [el, e45]; exact z.2)))).trans ((iC_f (fun z => k2.mp c_59 z.1)).trans (iC_f (k1.mp c_81)))))
          · refine ax_iconst (v := 0) dX11_reasonOf_84 (by decide) ?_
            refine ax_goto (tgt := 89) dX11_reasonOf_85 (by decide) ?_
            refine ax_iret dX11_reasonOf_89 rfl rfl ?_
            exact fin1 h ((if_neg (fun z => c_4 (eo.trans z))).trans ((iC_f (fun z => absurd c_50 (Int32.not_lt.mpr (by rw [el, e45]; exact z.2)))).trans ((iC_f (fun z => k2.mp c_59 z.1)).trans (iC_t (Classical.byContradiction fun w => c_81 (k1.mpr w))))))
        · refine ax_iload_n (i := 2) dX11_reasonOf_62 rfl rfl ?_
          refine ax_aload_n (i := 1) dX11_reasonOf_63 rfl rfl rfl ?_
          refine ax_getI dX11_reasonOf_64 fl_X11_350 rfl rfl rfl ?_
          refine ax_aload_n (i := 0) dX11_reasonOf_67 rfl rfl rfl ?_
          refine ax_getI dX11_reasonOf_68 fl_X11_61 rfl rfl rfl ?_
          refine ax_iadd dX11_reasonOf_71 ?_
          refine ax_icmp_lt (tgt := 77) dX11_reasonOf_72 (by decide) (fun c_72 => ?_) (fun c_72 => ?_)
          · refine ax_aload_n (i := 1) dX11_reasonOf_77 rfl rfl rfl ?_
            refine ax_getI dX11_reasonOf_78 fl_X11_356 rfl rfl rfl ?_
            refine ax_if_eq (tgt := 88) dX11_reasonOf_81 (by decide) (fun c_81 => ?_) (fun c_81 => ?_)
            · refine ax_iconst (v := 4) dX11_reasonOf_88 (by decide) ?_
              refine ax_iret dX11_reasonOf_89 rfl rfl ?_
              exact fin1 h ((if_neg (fun z => c_4 (eo.trans z))).trans ((iC_f (fun z => absurd c_50 (Int32.not_lt.mpr (by rw [el, e45]; exact z.2)))).trans ((iC_f (fun z => absurd c_72 (Int32.not_lt.mpr (by rw [el, e46]; exact z.2)))).trans (iC_f (k1.mp c_81)))))
            · refine ax_iconst (v := 0) dX11_reasonOf_84 (by decide) ?_
              refine ax_goto (tgt := 89) dX11_reasonOf_85 (by decide) ?_
              refine ax_iret dX11_reasonOf_89 rfl rfl ?_
              exact fin1 h ((if_neg (fun z => c_4 (eo.trans z))).trans ((iC_f (fun z => absurd c_50 (Int32.not_lt.mpr (by rw [el, e45]; exact z.2)))).trans ((iC_f (fun z => absurd c_72 (Int32.not_lt.mpr (by rw [el, e46]; exact z.2)))).trans (iC_t (Classical.byContradiction fun w => c_81 (k1.mpr w))))))
          · refine ax_iconst (v := 3) dX11_reasonOf_75 (by decide) ?_
            refine ax_iret dX11_reasonOf_76 rfl rfl ?_
            exact fin1 h ((if_neg (fun z => c_4 (eo.trans z))).trans ((iC_f (fun z => absurd c_50 (Int32.not_lt.mpr (by rw [el, e45]; exact z.2)))).trans (iC_t ⟨Classical.byContradiction fun w => c_59 (k2.mpr w), by rw [← el, ← e46]; exact Int32.not_lt.mp c_72⟩)))
      · refine ax_iconst (v := 2) dX11_reasonOf_53 (by decide) ?_
        refine ax_iret dX11_reasonOf_54 rfl rfl ?_
        exact fin1 h ((if_neg (fun z => c_4 (eo.trans z))).trans (iC_t ⟨by obtain ⟨x, y1, y2, y3, y4⟩ := (k5 c_34).1; exact ⟨x, y1, y2, y3, y4.1⟩, by rw [← el, ← e45]; exact Int32.not_lt.mp c_50⟩))
    · refine ax_if_eq (tgt := 55) dX11_reasonOf_37 (by decide) (fun _ => ?_) (fun z => absurd (by decide) z)
      refine ax_aload_n (i := 1) dX11_reasonOf_55 rfl rfl rfl ?_
      refine ax_getI dX11_reasonOf_56 fl_X11_353 rfl rfl rfl ?_
      refine ax_if_eq (tgt := 77) dX11_reasonOf_59 (by decide) (fun c_59 => ?_) (fun c_59 => ?_)
      · refine ax_aload_n (i := 1) dX11_reasonOf_77 rfl rfl rfl ?_
        refine ax_getI dX11_reasonOf_78 fl_X11_356 rfl rfl rfl ?_
        refine ax_if_eq (tgt := 88) dX11_reasonOf_81 (by decide) (fun c_81 => ?_) (fun c_81 => ?_)
        · refine ax_iconst (v := 4) dX11_reasonOf_88 (by decide) ?_
          refine ax_iret dX11_reasonOf_89 rfl rfl ?_
          exact fin1 h ((if_neg (fun z => c_4 (eo.trans z))).trans ((iC_f (fun z => k4 (Int32.le_antisymm (Int32.not_lt.mp c_34) k3) z.1)).trans ((iC_f (fun z => k2.mp c_59 z.1)).trans (iC_f (k1.mp c_81)))))
        · refine ax_iconst (v := 0) dX11_reasonOf_84 (by decide) ?_
          refine ax_goto (tgt := 89) dX11_reasonOf_85 (by decide) ?_
          refine ax_iret dX11_reasonOf_89 rfl rfl ?_
          exact fin1 h ((if_neg (fun z => c_4 (eo.trans z))).trans ((iC_f (fun z => k4 (Int32.le_antisymm (Int32.not_lt.mp c_34) k3) z.1)).trans ((iC_f (fun z => k2.mp c_59 z.1)).trans (iC_t (Classical.byContradiction fun w => c_81 (k1.mpr w))))))
      · refine ax_iload_n (i := 2) dX11_reasonOf_62 rfl rfl ?_
        refine ax_aload_n (i := 1) dX11_reasonOf_63 rfl rfl rfl ?_
        refine ax_getI dX11_reasonOf_64 fl_X11_350 rfl rfl rfl ?_
        refine ax_aload_n (i := 0) dX11_reasonOf_67 rfl rfl rfl ?_
        refine ax_getI dX11_reasonOf_68 fl_X11_61 rfl rfl rfl ?_
        refine ax_iadd dX11_reasonOf_71 ?_
        refine ax_icmp_lt (tgt := 77) dX11_reasonOf_72 (by decide) (fun c_72 => ?_) (fun c_72 => ?_)
        · refine ax_aload_n (i := 1) dX11_reasonOf_77 rfl rfl rfl ?_
          refine ax_getI dX11_reasonOf_78 fl_X11_356 rfl rfl rfl ?_
          refine ax_if_eq (tgt := 88) dX11_reasonOf_81 (by decide) (fun c_81 => ?_) (fun c_81 => ?_)
          · refine ax_iconst (v := 4) dX11_reasonOf_88 (by decide) ?_
            refine ax_iret dX11_reasonOf_89 rfl rfl ?_
            exact fin1 h ((if_neg (fun z => c_4 (eo.trans z))).trans ((iC_f (fun z => k4 (Int32.le_antisymm (Int32.not_lt.mp c_34) k3) z.1)).trans ((iC_f (fun z => absurd c_72 (Int32.not_lt.mpr (by rw [el, e46]; exact z.2)))).trans (iC_f (k1.mp c_81)))))
          · refine ax_iconst (v := 0) dX11_reasonOf_84 (by decide) ?_
            refine ax_goto (tgt := 89) dX11_reasonOf_85 (by decide) ?_
            refine ax_iret dX11_reasonOf_89 rfl rfl ?_
            exact fin1 h ((if_neg (fun z => c_4 (eo.trans z))).trans ((iC_f (fun z => k4 (Int32.le_antisymm (Int32.not_lt.mp c_34) k3) z.1)).trans ((iC_f (fun z => absurd c_72 (Int32.not_lt.mpr (by rw [el, e46]; exact z.2)))).trans (iC_t (Classical.byContradiction fun w => c_81 (k1.mpr w))))))
        · refine ax_iconst (v := 3) dX11_reasonOf_75 (by decide) ?_
          refine ax_iret dX11_reasonOf_76 rfl rfl ?_
          exact fin1 h ((if_neg (fun z => c_4 (eo.trans z))).trans ((iC_f (fun z => k4 (Int32.le_antisymm (Int32.not_lt.mp c_34) k3) z.1)).trans (iC_t ⟨Classical.byContradiction fun w => c_59 (k2.mpr w), by rw [← el, ← e46]; exact Int32.not_lt.mp c_72⟩)))
  · refine ax_aload_n (i := 1) dX11_reasonOf_7 rfl rfl rfl ?_
    refine ax_invV (c := 3) (n := 0) (As := []) dX11_reasonOf_8 cb_X2_hasFresh cv_X11_344.1 cv_X11_344.2.1 cv_X11_344.2.2 rfl (by decide) rfl ⟨Nat.le_of_ble_eq_true rfl, Nat.le_of_ble_eq_true rfl⟩ (Nat.le_of_ble_eq_true rfl) rfl (c_hasFresh (fun c_8 => ?_) (fun c_8 => ?_))
    · refine ax_if_eq (tgt := 31) dX11_reasonOf_11 (by decide) (fun z => absurd z (by decide)) (fun _ => ?_)
      refine ax_aload_n (i := 1) dX11_reasonOf_14 rfl rfl rfl ?_
      refine ax_getI dX11_reasonOf_15 fl_X11_347 rfl rfl rfl ?_
      refine ax_iload_n (i := 2) dX11_reasonOf_18 rfl rfl ?_
      refine ax_aload_n (i := 0) dX11_reasonOf_19 rfl rfl rfl ?_
      refine ax_getI dX11_reasonOf_20 fl_X11_55 rfl rfl rfl ?_
      refine ax_isub dX11_reasonOf_23 ?_
      refine ax_icmp_gt (tgt := 31) dX11_reasonOf_24 (by decide) (fun c_24 => ?_) (fun c_24 => ?_)
      · refine ax_iconst (v := 0) dX11_reasonOf_31 (by decide) ?_
        refine ax_iret dX11_reasonOf_32 rfl rfl ?_
        exact fin1 h ((if_pos (eo.symm.trans (Classical.not_not.mp c_4))).trans (iC_f (fun z => by obtain ⟨x, y1, y2, y3, y4⟩ := z; exact absurd (Int32.le_trans ((k5 c_8).2 x y1 y2 y3 y4.1) y4.2) (Int32.not_le.mpr (by rw [← e44]; exact c_24)))))
      · refine ax_iconst (v := 1) dX11_reasonOf_27 (by decide) ?_
        refine ax_goto (tgt := 32) dX11_reasonOf_28 (by decide) ?_
        refine ax_iret dX11_reasonOf_32 rfl rfl ?_
        exact fin1 h ((if_pos (eo.symm.trans (Classical.not_not.mp c_4))).trans (iC_t (by obtain ⟨x, y1, y2, y3, y4⟩ := (k5 c_8).1; exact ⟨x, y1, y2, y3, y4.1, by rw [y4.2, ← e44]; exact Int32.not_lt.mp c_24⟩)))
    · refine ax_if_eq (tgt := 31) dX11_reasonOf_11 (by decide) (fun _ => ?_) (fun z => absurd (by decide) z)
      refine ax_iconst (v := 0) dX11_reasonOf_31 (by decide) ?_
      refine ax_iret dX11_reasonOf_32 rfl rfl ?_
      exact fin1 h ((if_pos (eo.symm.trans (Classical.not_not.mp c_4))).trans (iC_f (fun z => by obtain ⟨x, y1, y2, y3, y4⟩ := z; exact k4 (Int32.le_antisymm (Int32.not_lt.mp c_8) k3) ⟨x, y1, y2, y3, y4.1⟩)))
