theorem cVal.wr {S : awS} {M : aM} {n s t : Nat} (hn : ∀ i, i < n → ∀ t, t < 401 → sI S 17 i t = mA M 5 (401 * i + t) ∧ sL S 16 i t = mL M 4 (401 * i + t)) (ht : t < 401) (v : Int32) (x : Int64) : ∀ i, i < n → ∀ t', t' < 401 → sI (wL (wI S 17 s t v) 16 s t x) 17 i t' = mA (pL (pA M 5 (401 * s + t) v) 4 (401 * s + t) x) 5 (401 * i + t') ∧ sL (wL (wI S 17 s t v) 16 s t x) 16 i t' = mL (pL (pA M 5 (401 * s + t) v) 4 (401 * s + t) x) 4 (401 * i + t') := by
  intro i hi t' ht'
  obtain ⟨h1, h2⟩ := hn i hi t' ht'
  rw [sI_wL, sI_wI, sL_wL, sL_wI, mA_pL, mA_pA, mL_pL, mL_pA]
  by_cases e : i = s ∧ t' = t
  · rw [if_pos ⟨rfl, e.1, e.2⟩, if_pos ⟨rfl, by rw [e.1, e.2]⟩, if_pos ⟨rfl, e.1, e.2⟩, if_pos ⟨rfl, by rw [e.1, e.2]⟩]
    exact ⟨rfl, rfl⟩
  · have e2 : ¬ 401 * i + t' = 401 * s + t := fun z => e (by omega)
    rw [if_neg (fun z => e z.2), if_neg (fun z => e2 z.2), if_neg (fun z => e z.2), if_neg (fun z => e2 z.2)]
    exact ⟨h1, h2⟩
theorem cVal.wd {S : awS} {M : aM} {n s t : Nat} (hn : ∀ i, i < n → ∀ t, t < 401 → sI S 17 i t = mA M 5 (401 * i + t) ∧ sL S 16 i t = mL M 4 (401 * i + t)) (ht : t < 401) (v : Int32) : ∀ i, i < n → ∀ t', t' < 401 → sI (wI S 17 s t v) 17 i t' = mA (pA M 5 (401 * s + t) v) 5 (401 * i + t') ∧ sL (wI S 17 s t v) 16 i t' = mL (pA M 5 (401 * s + t) v) 4 (401 * i + t') := by
  intro i hi t' ht'
  obtain ⟨h1, h2⟩ := hn i hi t' ht'
  rw [sI_wI, sL_wI, mA_pA, mL_pA]
  refine ⟨?_, h2⟩
  by_cases e : i = s ∧ t' = t
  · rw [if_pos ⟨rfl, e.1, e.2⟩, if_pos ⟨rfl, by rw [e.1, e.2]⟩]
  · rw [if_neg (fun z => e z.2), if_neg (fun z => e (by have := z.2; omega))]
    exact h1
theorem inv12 {M : aM} {s t : Nat} {v : Int32} {x : Int64} (h : ∀ i t, mN M 2 ≤ i → i < 16 → t < 401 → mA M 5 (401 * i + t) = 0 ∧ mL M 4 (401 * i + t) = 0) (hs : s < mN M 2) (ht : t < 401) : ∀ i t', mN M 2 ≤ i → i < 16 → t' < 401 → mA (pL (pA M 5 (401 * s + t) v) 4 (401 * s + t) x) 5 (401 * i + t') = 0 ∧ mL (pL (pA M 5 (401 * s + t) v) 4 (401 * s + t) x) 4 (401 * i + t') = 0 := by
  intro i t' h1 h2 h3
  rw [mA_pL, mA_pA, mL_pL, mL_pA, if_neg (fun z => absurd z.2 (by omega)), if_neg (fun z => absurd z.2 (by omega))]
  exact h i t' h1 h2 h3
theorem inv12d {M : aM} {s t : Nat} {v : Int32} (h : ∀ i t, mN M 2 ≤ i → i < 16 → t < 401 → mA M 5 (401 * i + t) = 0 ∧ mL M 4 (401 * i + t) = 0) (hs : s < mN M 2) (ht : t < 401) : ∀ i t', mN M 2 ≤ i → i < 16 → t' < 401 → mA (pA M 5 (401 * s + t) v) 5 (401 * i + t') = 0 ∧ mL (pA M 5 (401 * s + t) v) 4 (401 * i + t') = 0 := by
  intro i t' h1 h2 h3
  rw [mA_pA, mL_pA, if_neg (fun z => absurd z.2 (by omega))]
  exact h i t' h1 h2 h3

set_option maxHeartbeats 400000 in
set_option maxRecDepth 100000 in
theorem c_hasAt401 {E : awE} {S : awS} {Q : Option Value → awS → Nat → Nat → Prop} {i : Nat} (hs : srcOk S i) (h : Q (some (.int 0)) S 0 0) : awT true E m_X8_hasAt [.ref (nm 9 i), .int (nI 401)] S Q := by
  refine awT.of (by decide) (by decide) (Nat.le_of_ble_eq_true rfl) ?_
  refine ax_iload_n (i := 1) dX8_hasAt_0 rfl rfl ?_
  refine ax_iconst (v := 1) dX8_hasAt_1 (by decide) ?_
  refine ax_icmp_lt (tgt := 27) dX8_hasAt_2 (by decide) (fun c_2 => ?_) (fun c_2 => ?_)
  · exact absurd c_2 (by decide)
  · refine ax_iload_n (i := 1) dX8_hasAt_5 rfl rfl ?_
    refine ax_aload_n (i := 0) dX8_hasAt_6 rfl rfl rfl ?_
    refine ax_getR dX8_hasAt_7 fl_X8_15 rfl rfl rfl hs.2.1 ?_
    refine ax_alenN dX8_hasAt_10 (by decide) rfl hs.2.2.2.1 ?_
    refine ax_icmp_ge (tgt := 27) dX8_hasAt_11 (by decide) (fun c_11 => ?_) (fun c_11 => ?_)
    · refine ax_iconst (v := 0) dX8_hasAt_27 (by decide) ?_
      refine ax_iret dX8_hasAt_28 rfl rfl ?_
      exact h
    · exact absurd (Int32.le_refl _) c_11
set_option maxHeartbeats 400000 in
set_option maxRecDepth 100000 in
theorem c_value {E : awE} {S : awS} {M : aM} {Q : Option Value → awS → Nat → Nat → Prop} (R0 : cRR S M) {s : Int32} {v : UInt64} (h : cPost S (mValue M s v) Q) : awT true E m_X11_value [.ref (nm 12 0), .int s, .double v] S Q := by
  refine awT.of (by decide) (by decide) (Nat.le_of_ble_eq_true rfl) ?_
  obtain ⟨R, hr0⟩ := R0
  refine ax_aload_n (i := 0) dX11_value_0 rfl rfl rfl ?_
  refine ax_iload_n (i := 1) dX11_value_1 rfl rfl ?_
  refine ax_invV (c := 12) (n := 1) (As := [_]) dX11_value_2 cb_X11_sourceAt cv_X11_150.1 cv_X11_150.2.1 cv_X11_150.2.2 rfl (by decide) rfl ⟨Nat.le_of_ble_eq_true rfl, Nat.le_of_ble_eq_true rfl⟩ (Nat.le_of_ble_eq_true rfl) rfl (c_sourceAt R (fun c_2 => ?_) (fun c_2 => ?_))
  · refine ax_astore (lv' := [(4, _), (0, _), (1, _), (2, _)]) dX11_value_5 (by decide) rfl rfl ?_
    refine ax_aload dX11_value_7 rfl rfl ?_
    refine ax_ifnonnull_t (tgt := 14) dX11_value_9 (by decide) ?_
    refine ax_dload_n (i := 2) dX11_value_14 rfl rfl ?_
    refine ax_ldc2d dX11_value_15 kc_X11_154 ?_
    refine ax_dcmp dX11_value_18 ?_
    refine ax_if_lt (tgt := 34) dX11_value_19 (by decide) (fun c_19 => ?_) (fun c_19 => ?_)
    · refine ax_iconst (v := 0) dX11_value_34 (by decide) ?_
      refine ax_istore (lv' := [(5, _), (4, _), (0, _), (1, _), (2, _)]) dX11_value_35 (by decide) rfl ?_
      refine ax_iload dX11_value_37 rfl ?_
      refine ax_if_eq (tgt := 52) dX11_value_39 (by decide) (fun _ => ?_) (fun z => absurd (by decide) z)
      refine ax_bipush (v := -2) dX11_value_52 (by decide) ?_
      refine ax_iret dX11_value_54 rfl rfl ?_
      exact cfin h ((if_neg (fun z => z c_2)).trans (if_pos (Or.inl (fun z => z.1 c_19)))) (cRR.t0 ⟨R, hr0⟩) cFm.rf (by decide) (by decide)
    · refine ax_dload_n (i := 2) dX11_value_22 rfl rfl ?_
      refine ax_ldc2d dX11_value_23 kc_X11_156 ?_
      refine ax_dcmp dX11_value_26 ?_
      refine ax_if_gt (tgt := 34) dX11_value_27 (by decide) (fun c_27 => ?_) (fun c_27 => ?_)
      · refine ax_iconst (v := 0) dX11_value_34 (by decide) ?_
        refine ax_istore (lv' := [(5, _), (4, _), (0, _), (1, _), (2, _)]) dX11_value_35 (by decide) rfl ?_
        refine ax_iload dX11_value_37 rfl ?_
        refine ax_if_eq (tgt := 52) dX11_value_39 (by decide) (fun _ => ?_) (fun z => absurd (by decide) z)
        refine ax_bipush (v := -2) dX11_value_52 (by decide) ?_
        refine ax_iret dX11_value_54 rfl rfl ?_
        exact cfin h ((if_neg (fun z => z c_2)).trans (if_pos (Or.inl (fun z => z.2 c_27)))) (cRR.t0 ⟨R, hr0⟩) cFm.rf (by decide) (by decide)
      · refine ax_iconst (v := 1) dX11_value_30 (by decide) ?_
        refine ax_goto (tgt := 35) dX11_value_31 (by decide) ?_
        refine ax_istore (lv' := [(5, _), (4, _), (0, _), (1, _), (2, _)]) dX11_value_35 (by decide) rfl ?_
        refine ax_iload dX11_value_37 rfl ?_
        refine ax_if_eq (tgt := 52) dX11_value_39 (by decide) (fun z => absurd z (by decide)) (fun _ => ?_)
        refine ax_aload_n (i := 0) dX11_value_42 rfl rfl rfl ?_
        refine ax_getI dX11_value_43 fl_X11_67 rfl rfl rfl ?_
        refine ax_sipush (v := 400) dX11_value_46 (by decide) ?_
        refine ax_icmp_lt (tgt := 55) dX11_value_49 (by decide) (fun c_49 => ?_) (fun c_49 => ?_)
        · have e_s := R.sE c_2
          have e_sb := e_s.2
          have hcl : mN M 1 < 400 := nI_slt (b := 400) (by rw [← R.eC]; exact c_49) (by have := R.nC; omega)
          have hs := R.src _ e_s.2
          have hh := R.val.has e_s.2 (t := mN M 1 + 1) (by omega)
          refine ax_aload dX11_value_55 rfl rfl ?_
          refine ax_aload_n (i := 0) dX11_value_57 rfl rfl rfl ?_
          refine ax_getI dX11_value_58 fl_X11_67 rfl rfl rfl ?_
          refine ax_iconst (v := 1) dX11_value_61 (by decide) ?_
          refine ax_iadd dX11_value_62 ?_
          refine ax_invV (c := 9) (n := 1) (As := [_]) dX11_value_63 cb_X8_hasAt cv_X11_158.1 cv_X11_158.2.1 cv_X11_158.2.2 rfl (by decide) rfl ⟨Nat.le_of_ble_eq_true rfl, Nat.le_of_ble_eq_true rfl⟩ (Nat.le_of_ble_eq_true rfl) rfl (c_hasAt (n := mN M 1 + 1) hs (Or.inl ⟨by rw [R.eC]; exact nI_1 _, by omega⟩) (fun c_63 => ?_) (fun c_63 => ?_))
          · refine ax_istore (lv' := [(6, _), (5, _), (4, _), (0, _), (1, _), (2, _)]) dX11_value_66 (by decide) rfl ?_
            refine ax_aload dX11_value_68 rfl rfl ?_
            refine ax_aload_n (i := 0) dX11_value_70 rfl rfl rfl ?_
            refine ax_getI dX11_value_71 fl_X11_67 rfl rfl rfl ?_
            refine ax_iconst (v := 1) dX11_value_74 (by decide) ?_
            refine ax_iadd dX11_value_75 ?_
            refine ax_dload_n (i := 2) dX11_value_76 rfl rfl ?_
            refine ax_d2l dX11_value_77 ?_
            rw [show sI S 12 0 15 + 1 = nI (mN M 1 + 1) from by rw [R.eC]; exact nI_1 _]
            refine ax_invV (c := 9) (n := 2) (As := [_, _]) dX11_value_78 cb_X8_put cv_X11_161.1 cv_X11_161.2.1 cv_X11_161.2.2 rfl (by decide) rfl ⟨Nat.le_of_ble_eq_true rfl, Nat.le_of_ble_eq_true rfl⟩ (Nat.le_of_ble_eq_true rfl) rfl (c_put hs (by omega) ?_)
            refine ax_iload dX11_value_81 rfl ?_
            refine ax_if_ne (tgt := 90) dX11_value_83 (by decide) (fun _ => ?_) (fun z => absurd (by decide) z)
            refine ax_iconst (v := 0) dX11_value_90 (by decide) ?_
            refine ax_invS (n := 1) (As := [_]) dX11_value_91 cb_X11_bit cs_X11_165.1 cs_X11_165.2 rfl ⟨Nat.le_of_ble_eq_true rfl, Nat.le_of_ble_eq_true rfl⟩ (Nat.le_of_ble_eq_true rfl) rfl (c_bit0 ?_)
            refine ax_iret dX11_value_94 rfl rfl ?_
            have q_63 := hh.mp c_63
            exact cfin (M' := (pL (pA (mT0 M) 5 (401 * nN s + (mN M 1 + 1)) 1) 4 (401 * nN s + (mN M 1 + 1)) (FP.d2l v))) h ((if_neg (fun z => z c_2)).trans ((if_neg (fun z => z.elim (fun w => w ⟨c_19, c_27⟩) (fun w => absurd ((mS_nI R.mI (k := 1) (b := 400) (by decide)).symm.trans w) (fun w => absurd ((nI_eq (b := 400) (by omega) (by decide)).mp w) (by omega))))).trans (Prod.ext rfl (if_neg q_63.2)))) ⟨cR.mk' ((R.mI.t0.qF (by decide)).qL (by decide)) R.tow R.lst R.cx R.cnt.2.1 R.cnt.2.2 R.src R.rul R.ala R.ltr R.brd R.ix R.la R.sca (cVal.wr (M := mT0 M) R.val (by omega) _ _) R.ref R.wat R.flg R.tru R.hld R.lea R.row R.bdr (⟨R.inv.1, R.inv.2.1, R.inv.2.2.1, R.inv.2.2.2.1, R.inv.2.2.2.2.1, R.inv.2.2.2.2.2.1, R.inv.2.2.2.2.2.2.1, R.inv.2.2.2.2.2.2.2.1, R.inv.2.2.2.2.2.2.2.2.1, R.inv.2.2.2.2.2.2.2.2.2.1, R.inv.2.2.2.2.2.2.2.2.2.2.1, inv12 (M := mT0 M) R.inv.2.2.2.2.2.2.2.2.2.2.2 e_sb (by omega)⟩), hr0⟩ (by repeat (first | exact cFm.rf | refine cFm.tr ?_ (cFm.xI ⟨by decide, by decide, by decide⟩) | refine cFm.tr ?_ (cFm.xL ⟨by decide, by decide, by decide⟩) | refine cFm.tr ?_ (cFm.xR ⟨by decide, by decide, by decide⟩) | refine cFm.tr ?_ (cFm.xN ⟨by decide, by decide, by decide⟩) | refine cFm.tr ?_ cFm.xK)) (by decide) (by decide)
          · refine ax_istore (lv' := [(6, _), (5, _), (4, _), (0, _), (1, _), (2, _)]) dX11_value_66 (by decide) rfl ?_
            refine ax_aload dX11_value_68 rfl rfl ?_
            refine ax_aload_n (i := 0) dX11_value_70 rfl rfl rfl ?_
            refine ax_getI dX11_value_71 fl_X11_67 rfl rfl rfl ?_
            refine ax_iconst (v := 1) dX11_value_74 (by decide) ?_
            refine ax_iadd dX11_value_75 ?_
            refine ax_dload_n (i := 2) dX11_value_76 rfl rfl ?_
            refine ax_d2l dX11_value_77 ?_
            rw [show sI S 12 0 15 + 1 = nI (mN M 1 + 1) from by rw [R.eC]; exact nI_1 _]
            refine ax_invV (c := 9) (n := 2) (As := [_, _]) dX11_value_78 cb_X8_put cv_X11_161.1 cv_X11_161.2.1 cv_X11_161.2.2 rfl (by decide) rfl ⟨Nat.le_of_ble_eq_true rfl, Nat.le_of_ble_eq_true rfl⟩ (Nat.le_of_ble_eq_true rfl) rfl (c_put hs (by omega) ?_)
            refine ax_iload dX11_value_81 rfl ?_
            refine ax_if_ne (tgt := 90) dX11_value_83 (by decide) (fun z => absurd z (by decide)) (fun _ => ?_)
            refine ax_iconst (v := 1) dX11_value_86 (by decide) ?_
            refine ax_goto (tgt := 91) dX11_value_87 (by decide) ?_
            refine ax_invS (n := 1) (As := [_]) dX11_value_91 cb_X11_bit cs_X11_165.1 cs_X11_165.2 rfl ⟨Nat.le_of_ble_eq_true rfl, Nat.le_of_ble_eq_true rfl⟩ (Nat.le_of_ble_eq_true rfl) rfl (c_bit1 ?_)
            refine ax_iret dX11_value_94 rfl rfl ?_
            have q_63 := fun z => c_63 (hh.mpr z)
            exact cfin (M' := (pL (pA (mT0 M) 5 (401 * nN s + (mN M 1 + 1)) 1) 4 (401 * nN s + (mN M 1 + 1)) (FP.d2l v))) h ((if_neg (fun z => z c_2)).trans ((if_neg (fun z => z.elim (fun w => w ⟨c_19, c_27⟩) (fun w => absurd ((mS_nI R.mI (k := 1) (b := 400) (by decide)).symm.trans w) (fun w => absurd ((nI_eq (b := 400) (by omega) (by decide)).mp w) (by omega))))).trans (Prod.ext rfl (if_pos (Classical.byContradiction (fun z => q_63 ⟨by omega, z⟩)))))) ⟨cR.mk' ((R.mI.t0.qF (by decide)).qL (by decide)) R.tow R.lst R.cx R.cnt.2.1 R.cnt.2.2 R.src R.rul R.ala R.ltr R.brd R.ix R.la R.sca (cVal.wr (M := mT0 M) R.val (by omega) _ _) R.ref R.wat R.flg R.tru R.hld R.lea R.row R.bdr (⟨R.inv.1, R.inv.2.1, R.inv.2.2.1, R.inv.2.2.2.1, R.inv.2.2.2.2.1, R.inv.2.2.2.2.2.1, R.inv.2.2.2.2.2.2.1, R.inv.2.2.2.2.2.2.2.1, R.inv.2.2.2.2.2.2.2.2.1, R.inv.2.2.2.2.2.2.2.2.2.1, R.inv.2.2.2.2.2.2.2.2.2.2.1, inv12 (M := mT0 M) R.inv.2.2.2.2.2.2.2.2.2.2.2 e_sb (by omega)⟩), hr0⟩ (by repeat (first | exact cFm.rf | refine cFm.tr ?_ (cFm.xI ⟨by decide, by decide, by decide⟩) | refine cFm.tr ?_ (cFm.xL ⟨by decide, by decide, by decide⟩) | refine cFm.tr ?_ (cFm.xR ⟨by decide, by decide, by decide⟩) | refine cFm.tr ?_ (cFm.xN ⟨by decide, by decide, by decide⟩) | refine cFm.tr ?_ cFm.xK)) (by decide) (by decide)
        · refine ax_bipush (v := -2) dX11_value_52 (by decide) ?_
          refine ax_iret dX11_value_54 rfl rfl ?_
          exact cfin h ((if_neg (fun z => z c_2)).trans (if_pos (Or.inr ((mS_nI R.mI (k := 1) (b := 400) (by decide)).trans (by rw [show mN M 1 = 400 from Nat.le_antisymm R.nC (ge_of_c (b := 400) (n := mN M 1) rfl (by have q := Int32.not_lt.mp c_49; rw [R.eC] at q; exact q) (by decide))]; rfl))))) (cRR.t0 ⟨R, hr0⟩) cFm.rf (by decide) (by decide)
  · refine ax_astore (lv' := [(4, _), (0, _), (1, _), (2, _)]) dX11_value_5 (by decide) rfl rfl ?_
    refine ax_aload dX11_value_7 rfl rfl ?_
    refine ax_ifnonnull_f (k0 := 14) dX11_value_9 (by decide) ?_
    refine ax_iconst (v := -1) dX11_value_12 (by decide) ?_
    refine ax_iret dX11_value_13 rfl rfl ?_
    exact cfin h (if_pos c_2) (cRR.t0 ⟨R, hr0⟩) cFm.rf (by decide) (by decide)
set_option maxHeartbeats 400000 in
set_option maxRecDepth 100000 in
theorem c_tear {E : awE} {S : awS} {M : aM} {Q : Option Value → awS → Nat → Nat → Prop} (R0 : cRR S M) {s : Int32} (h : cPost S (mTear M s) Q) : awT true E m_X11_tear [.ref (nm 12 0), .int s] S Q := by
  refine awT.of (by decide) (by decide) (Nat.le_of_ble_eq_true rfl) ?_
  obtain ⟨R, hr0⟩ := R0
  refine ax_aload_n (i := 0) dX11_tear_0 rfl rfl rfl ?_
  refine ax_iload_n (i := 1) dX11_tear_1 rfl rfl ?_
  refine ax_invV (c := 12) (n := 1) (As := [_]) dX11_tear_2 cb_X11_sourceAt cv_X11_150.1 cv_X11_150.2.1 cv_X11_150.2.2 rfl (by decide) rfl ⟨Nat.le_of_ble_eq_true rfl, Nat.le_of_ble_eq_true rfl⟩ (Nat.le_of_ble_eq_true rfl) rfl (c_sourceAt R (fun c_2 => ?_) (fun c_2 => ?_))
  · refine ax_astore_n (i := 2) (lv' := [(2, _), (0, _), (1, _)]) dX11_tear_5 rfl (by decide) rfl rfl ?_
    refine ax_aload_n (i := 2) dX11_tear_6 rfl rfl rfl ?_
    refine ax_ifnonnull_t (tgt := 12) dX11_tear_7 (by decide) ?_
    have e_s := R.sE c_2
    have e_sb := e_s.2
    have hs := R.src _ e_s.2
    have hnc := R.nC
    by_cases hcl : mN M 1 < 400
    · have hh := R.val.has e_s.2 (t := mN M 1 + 1) (by omega)
      refine ax_aload_n (i := 2) dX11_tear_12 rfl rfl rfl ?_
      refine ax_aload_n (i := 0) dX11_tear_13 rfl rfl rfl ?_
      refine ax_getI dX11_tear_14 fl_X11_67 rfl rfl rfl ?_
      refine ax_iconst (v := 1) dX11_tear_17 (by decide) ?_
      refine ax_iadd dX11_tear_18 ?_
      refine ax_invV (c := 9) (n := 1) (As := [_]) dX11_tear_19 cb_X8_hasAt cv_X11_158.1 cv_X11_158.2.1 cv_X11_158.2.2 rfl (by decide) rfl ⟨Nat.le_of_ble_eq_true rfl, Nat.le_of_ble_eq_true rfl⟩ (Nat.le_of_ble_eq_true rfl) rfl (c_hasAt (n := mN M 1 + 1) hs (Or.inl ⟨by rw [R.eC]; exact nI_1 _, by omega⟩) (fun c_19 => ?_) (fun c_19 => ?_))
      · refine ax_istore_n (i := 3) (lv' := [(3, _), (2, _), (0, _), (1, _)]) dX11_tear_22 rfl (by decide) rfl ?_
        refine ax_aload_n (i := 2) dX11_tear_23 rfl rfl rfl ?_
        refine ax_aload_n (i := 0) dX11_tear_24 rfl rfl rfl ?_
        refine ax_getI dX11_tear_25 fl_X11_67 rfl rfl rfl ?_
        refine ax_iconst (v := 1) dX11_tear_28 (by decide) ?_
        refine ax_iadd dX11_tear_29 ?_
        rw [show sI S 12 0 15 + 1 = nI (mN M 1 + 1) from by rw [R.eC]; exact nI_1 _]
        refine ax_invV (c := 9) (n := 1) (As := [_]) dX11_tear_30 cb_X8_drop cv_X11_169.1 cv_X11_169.2.1 cv_X11_169.2.2 rfl (by decide) rfl ⟨Nat.le_of_ble_eq_true rfl, Nat.le_of_ble_eq_true rfl⟩ (Nat.le_of_ble_eq_true rfl) rfl (c_drop hs (by omega) ?_)
        rw [if_neg (by omega)]
        refine ax_iload_n (i := 3) dX11_tear_33 rfl rfl ?_
        refine ax_invS (n := 1) (As := [_]) dX11_tear_34 cb_X11_bit cs_X11_165.1 cs_X11_165.2 rfl ⟨Nat.le_of_ble_eq_true rfl, Nat.le_of_ble_eq_true rfl⟩ (Nat.le_of_ble_eq_true rfl) rfl (c_bit1 ?_)
        refine ax_iret dX11_tear_37 rfl rfl ?_
        have q_19 := hh.mp c_19
        exact cfin (M' := (pA (mT0 M) 5 (401 * nN s + (mN M 1 + 1)) 0)) h ((if_neg (fun z => z c_2)).trans ((if_neg (fun w => absurd ((mS_nI R.mI (k := 1) (b := 400) (by decide)).symm.trans w) (fun w => absurd ((nI_eq (b := 400) (by omega) (by decide)).mp w) (by omega)))).trans (Prod.ext rfl (if_neg q_19.2)))) ⟨cR.mk' (R.mI.t0.qF (by decide)) R.tow R.lst R.cx R.cnt.2.1 R.cnt.2.2 R.src R.rul R.ala R.ltr R.brd R.ix R.la R.sca (cVal.wd (M := mT0 M) R.val (by omega) _) R.ref R.wat R.flg R.tru R.hld R.lea R.row R.bdr (⟨R.inv.1, R.inv.2.1, R.inv.2.2.1, R.inv.2.2.2.1, R.inv.2.2.2.2.1, R.inv.2.2.2.2.2.1, R.inv.2.2.2.2.2.2.1, R.inv.2.2.2.2.2.2.2.1, R.inv.2.2.2.2.2.2.2.2.1, R.inv.2.2.2.2.2.2.2.2.2.1, R.inv.2.2.2.2.2.2.2.2.2.2.1, inv12d (M := mT0 M) R.inv.2.2.2.2.2.2.2.2.2.2.2 e_sb (by omega)⟩), hr0⟩ (by repeat (first | exact cFm.rf | refine cFm.tr ?_ (cFm.xI ⟨by decide, by decide, by decide⟩) | refine cFm.tr ?_ (cFm.xL ⟨by decide, by decide, by decide⟩) | refine cFm.tr ?_ (cFm.xR ⟨by decide, by decide, by decide⟩) | refine cFm.tr ?_ (cFm.xN ⟨by decide, by decide, by decide⟩) | refine cFm.tr ?_ cFm.xK)) (by decide) (by decide)
      · refine ax_istore_n (i := 3) (lv' := [(3, _), (2, _), (0, _), (1, _)]) dX11_tear_22 rfl (by decide) rfl ?_
        refine ax_aload_n (i := 2) dX11_tear_23 rfl rfl rfl ?_
        refine ax_aload_n (i := 0) dX11_tear_24 rfl rfl rfl ?_
        refine ax_getI dX11_tear_25 fl_X11_67 rfl rfl rfl ?_
        refine ax_iconst (v := 1) dX11_tear_28 (by decide) ?_
        refine ax_iadd dX11_tear_29 ?_
        rw [show sI S 12 0 15 + 1 = nI (mN M 1 + 1) from by rw [R.eC]; exact nI_1 _]
        refine ax_invV (c := 9) (n := 1) (As := [_]) dX11_tear_30 cb_X8_drop cv_X11_169.1 cv_X11_169.2.1 cv_X11_169.2.2 rfl (by decide) rfl ⟨Nat.le_of_ble_eq_true rfl, Nat.le_of_ble_eq_true rfl⟩ (Nat.le_of_ble_eq_true rfl) rfl (c_drop hs (by omega) ?_)
        rw [if_neg (by omega)]
        refine ax_iload_n (i := 3) dX11_tear_33 rfl rfl ?_
        refine ax_invS (n := 1) (As := [_]) dX11_tear_34 cb_X11_bit cs_X11_165.1 cs_X11_165.2 rfl ⟨Nat.le_of_ble_eq_true rfl, Nat.le_of_ble_eq_true rfl⟩ (Nat.le_of_ble_eq_true rfl) rfl (c_bit0 ?_)
        refine ax_iret dX11_tear_37 rfl rfl ?_
        have q_19 := fun z => c_19 (hh.mpr z)
        exact cfin (M' := (pA (mT0 M) 5 (401 * nN s + (mN M 1 + 1)) 0)) h ((if_neg (fun z => z c_2)).trans ((if_neg (fun w => absurd ((mS_nI R.mI (k := 1) (b := 400) (by decide)).symm.trans w) (fun w => absurd ((nI_eq (b := 400) (by omega) (by decide)).mp w) (by omega)))).trans (Prod.ext rfl (if_pos (Classical.byContradiction (fun z => q_19 ⟨by omega, z⟩)))))) ⟨cR.mk' (R.mI.t0.qF (by decide)) R.tow R.lst R.cx R.cnt.2.1 R.cnt.2.2 R.src R.rul R.ala R.ltr R.brd R.ix R.la R.sca (cVal.wd (M := mT0 M) R.val (by omega) _) R.ref R.wat R.flg R.tru R.hld R.lea R.row R.bdr (⟨R.inv.1, R.inv.2.1, R.inv.2.2.1, R.inv.2.2.2.1, R.inv.2.2.2.2.1, R.inv.2.2.2.2.2.1, R.inv.2.2.2.2.2.2.1, R.inv.2.2.2.2.2.2.2.1, R.inv.2.2.2.2.2.2.2.2.1, R.inv.2.2.2.2.2.2.2.2.2.1, R.inv.2.2.2.2.2.2.2.2.2.2.1, inv12d (M := mT0 M) R.inv.2.2.2.2.2.2.2.2.2.2.2 e_sb (by omega)⟩), hr0⟩ (by repeat (first | exact cFm.rf | refine cFm.tr ?_ (cFm.xI ⟨by decide, by decide, by decide⟩) | refine cFm.tr ?_ (cFm.xL ⟨by decide, by decide, by decide⟩) | refine cFm.tr ?_ (cFm.xR ⟨by decide, by decide, by decide⟩) | refine cFm.tr ?_ (cFm.xN ⟨by decide, by decide, by decide⟩) | refine cFm.tr ?_ cFm.xK)) (by decide) (by decide)
    · have hcl4 : mN M 1 = 400 := by omega
      refine ax_aload_n (i := 2) dX11_tear_12 rfl rfl rfl ?_
      refine ax_aload_n (i := 0) dX11_tear_13 rfl rfl rfl ?_
      refine ax_getI dX11_tear_14 fl_X11_67 rfl rfl rfl ?_
      refine ax_iconst (v := 1) dX11_tear_17 (by decide) ?_
      refine ax_iadd dX11_tear_18 ?_
      rw [show sI S 12 0 15 + 1 = nI 401 from by rw [R.eC, hcl4]; exact nI_1 _]
      refine ax_invV (c := 9) (n := 1) (As := [_]) dX11_tear_19 cb_X8_hasAt cv_X11_158.1 cv_X11_158.2.1 cv_X11_158.2.2 rfl (by decide) rfl ⟨Nat.le_of_ble_eq_true rfl, Nat.le_of_ble_eq_true rfl⟩ (Nat.le_of_ble_eq_true rfl) rfl (c_hasAt401 hs ?_)
      refine ax_istore_n (i := 3) (lv' := [(3, _), (2, _), (0, _), (1, _)]) dX11_tear_22 rfl (by decide) rfl ?_
      refine ax_aload_n (i := 2) dX11_tear_23 rfl rfl rfl ?_
      refine ax_aload_n (i := 0) dX11_tear_24 rfl rfl rfl ?_
      refine ax_getI dX11_tear_25 fl_X11_67 rfl rfl rfl ?_
      refine ax_iconst (v := 1) dX11_tear_28 (by decide) ?_
      refine ax_iadd dX11_tear_29 ?_
      rw [show sI S 12 0 15 + 1 = nI 401 from by rw [R.eC, hcl4]; exact nI_1 _]
      refine ax_invV (c := 9) (n := 1) (As := [_]) dX11_tear_30 cb_X8_drop cv_X11_169.1 cv_X11_169.2.1 cv_X11_169.2.2 rfl (by decide) rfl ⟨Nat.le_of_ble_eq_true rfl, Nat.le_of_ble_eq_true rfl⟩ (Nat.le_of_ble_eq_true rfl) rfl (c_drop (n := 401) hs (by omega) ?_)
      rw [if_pos rfl]
      refine ax_iload_n (i := 3) dX11_tear_33 rfl rfl ?_
      refine ax_invS (n := 1) (As := [_]) dX11_tear_34 cb_X11_bit cs_X11_165.1 cs_X11_165.2 rfl ⟨Nat.le_of_ble_eq_true rfl, Nat.le_of_ble_eq_true rfl⟩ (Nat.le_of_ble_eq_true rfl) rfl (c_bit0 ?_)
      refine ax_iret dX11_tear_37 rfl rfl ?_
      exact cfin h ((if_neg (fun z => z c_2)).trans (if_pos ((mS_nI R.mI (k := 1) (b := 400) (by decide)).trans (by rw [hcl4]; rfl)))) (cRR.t0 ⟨R, hr0⟩) cFm.rf (by decide) (by decide)
  · refine ax_astore_n (i := 2) (lv' := [(2, _), (0, _), (1, _)]) dX11_tear_5 rfl (by decide) rfl rfl ?_
    refine ax_aload_n (i := 2) dX11_tear_6 rfl rfl rfl ?_
    refine ax_ifnonnull_f (k0 := 12) dX11_tear_7 (by decide) ?_
    refine ax_iconst (v := -1) dX11_tear_10 (by decide) ?_
    refine ax_iret dX11_tear_11 rfl rfl ?_
    exact cfin h (if_pos c_2) (cRR.t0 ⟨R, hr0⟩) cFm.rf (by decide) (by decide)
