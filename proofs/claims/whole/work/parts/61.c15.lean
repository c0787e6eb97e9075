set_option maxHeartbeats 400000 in
set_option maxRecDepth 100000 in
theorem c_iSrc {E : awE} {S : awS} {Q : Option Value → awS → Nat → Nat → Prop} {k : Nat} {a b_ : Int32} (h : Q none (wI (wI (wR (wNew (wR (wNew S 16 401) 9 k 2 (some (nm 16 (sC S 16)))) 17 401) 9 k 3 (some (nm 17 (sC S 17)))) 9 k 0 a) 9 k 1 b_) 2 802) : awT true E m_X8_init [.ref (nm 9 k), .int a, .int b_] S Q := by
  refine awT.of (by decide) (by decide) (Nat.le_of_ble_eq_true rfl) ?_
  refine ax_aload_n (i := 0) dX8_init_0 rfl rfl rfl ?_
  refine ax_objInit dX8_init_1 ki_X8_3 ko_1 ko_2 ⟨Nat.le_of_ble_eq_true rfl, Nat.le_of_ble_eq_true rfl⟩ (Nat.le_of_ble_eq_true rfl) ?_
  refine ax_aload_n (i := 0) dX8_init_4 rfl rfl rfl ?_
  refine ax_sipush (v := 401) dX8_init_5 (by decide) ?_
  refine ax_newJ (f := 16) (n := 401) dX8_init_8 ka_long rfl rfl (by decide) (by decide) (by decide) ?_
  refine ax_putR dX8_init_10 fl_X8_9 rfl rfl rfl (Or.inr ⟨rfl, rfl, rfl⟩) ?_
  refine ax_aload_n (i := 0) dX8_init_13 rfl rfl rfl ?_
  refine ax_sipush (v := 401) dX8_init_14 (by decide) ?_
  refine ax_newZ (f := 17) (n := 401) dX8_init_17 ka_boolean rfl rfl (by decide) (by decide) (by decide) ?_
  refine ax_putR dX8_init_19 fl_X8_15 rfl rfl rfl (Or.inr ⟨rfl, rfl, rfl⟩) ?_
  refine ax_aload_n (i := 0) dX8_init_22 rfl rfl rfl ?_
  refine ax_iload_n (i := 1) dX8_init_23 rfl rfl ?_
  refine ax_putI dX8_init_24 fl_X8_19 rfl rfl rfl (Or.inr ⟨rfl, rfl, rfl⟩) rfl rfl ?_
  refine ax_aload_n (i := 0) dX8_init_27 rfl rfl rfl ?_
  refine ax_iload_n (i := 2) dX8_init_28 rfl rfl ?_
  refine ax_putI dX8_init_29 fl_X8_23 rfl rfl rfl (Or.inr ⟨rfl, rfl, rfl⟩) rfl rfl ?_
  refine ax_vret dX8_init_32 rfl ?_
  exact h
set_option maxHeartbeats 400000 in
set_option maxRecDepth 100000 in
theorem c_source {E : awE} {S : awS} {M : aM} {Q : Option Value → awS → Nat → Nat → Prop} (R0 : cRR S M) {w : Int32} (h : cPost S (mSource M w) Q) : awT true E m_X11_source [.ref (nm 12 0), .int w] S Q := by
  refine awT.of (by decide) (by decide) (Nat.le_of_ble_eq_true rfl) ?_
  obtain ⟨R, hr0⟩ := R0
  refine ax_iload_n (i := 1) dX11_source_0 rfl rfl ?_
  refine ax_iconst (v := 0) dX11_source_1 (by decide) ?_
  refine ax_bipush (v := 9) dX11_source_2 (by decide) ?_
  refine ax_invS (n := 3) (As := [_, _, _]) dX11_source_4 cb_X11_isWithin cs_X11_71.1 cs_X11_71.2 rfl ⟨Nat.le_of_ble_eq_true rfl, Nat.le_of_ble_eq_true rfl⟩ (Nat.le_of_ble_eq_true rfl) rfl (c_isWithin (fun c_4 => ?_) (fun c_4 => ?_))
  · refine ax_if_ne (tgt := 12) dX11_source_7 (by decide) (fun _ => ?_) (fun z => absurd (by decide) z)
    have hb : (mN M 2) ≤ 16 := mS_b R.mI (by decide)
    have e9 : sC S 9 = (mN M 2) := R.cx.1.trans (Nat.one_mul _)
    have e16 : sC S 16 = (mN M 2) := R.cx.2.1.trans (Nat.one_mul _)
    have e17 : sC S 17 = (mN M 2) := R.cx.2.2.1.trans (Nat.one_mul _)
    refine ax_aload_n (i := 0) dX11_source_12 rfl rfl rfl ?_
    refine ax_getR dX11_source_13 fl_X11_10 rfl rfl rfl (R.tow.1 0 (by decide)) ?_
    refine ax_invV (c := 0) (n := 0) (As := []) dX11_source_16 cb_Jx4a65c_size_8abf5 cv_X11_75.1 cv_X11_75.2.1 cv_X11_75.2.2 rfl (by decide) rfl ⟨Nat.le_of_ble_eq_true rfl, Nat.le_of_ble_eq_true rfl⟩ (Nat.le_of_ble_eq_true rfl) rfl (t_lsSize (q := 0) (by decide) (R.lq (by decide)) (R.lst.1) (Nat.lt_of_le_of_lt (mS_b R.mI (k := 2) (b := 16) (by decide)) (by decide)) ?_)
    refine ax_bipush (v := 16) dX11_source_19 (by decide) ?_
    refine ax_icmp_lt (tgt := 27) dX11_source_21 (by decide) (fun c_21 => ?_) (fun c_21 => ?_)
    · have hlt : (mN M 2) < 16 := nI_slt c_21 (by omega)
      refine ax_aload_n (i := 0) dX11_source_27 rfl rfl rfl ?_
      refine ax_getR dX11_source_28 fl_X11_10 rfl rfl rfl (R.tow.1 0 (by decide)) ?_
      refine ax_new (f := 9) dX11_source_31 nw_X11_79 rfl rfl ?_
      rw [e9]
      refine ax_dup dX11_source_34 rfl ?_
      refine ax_aload_n (i := 0) dX11_source_35 rfl rfl rfl ?_
      refine ax_getR dX11_source_36 fl_X11_10 rfl rfl rfl (R.tow.1 0 (by decide)) ?_
      refine ax_invV (c := 0) (n := 0) (As := []) dX11_source_39 cb_Jx4a65c_size_8abf5 cv_X11_75.1 cv_X11_75.2.1 cv_X11_75.2.2 rfl (by decide) rfl ⟨Nat.le_of_ble_eq_true rfl, Nat.le_of_ble_eq_true rfl⟩ (Nat.le_of_ble_eq_true rfl) rfl (t_lsSize (q := 0) (by decide) (R.lq (by decide)) (R.lst.1) (Nat.lt_of_le_of_lt (mS_b R.mI (k := 2) (b := 16) (by decide)) (by decide)) ?_)
      refine ax_iload_n (i := 1) dX11_source_42 rfl rfl ?_
      refine ax_invI (n := 2) (As := [_, _]) dX11_source_43 cb_X8_init ci_X11_81.1 ci_X11_81.2 rfl rfl rfl ⟨Nat.le_of_ble_eq_true rfl, Nat.le_of_ble_eq_true rfl⟩ (Nat.le_of_ble_eq_true rfl) rfl (c_iSrc ?_)
      rw [show sC (wNew S 9 0) 16 = (mN M 2) from e16, show sC (wNew S 9 0) 17 = (mN M 2) from e17]
      refine ax_invV (c := 0) (n := 1) (As := [_]) dX11_source_46 cb_Jx4a65c_add_9ea2d cv_X11_84.1 cv_X11_84.2.1 cv_X11_84.2.2 rfl (by decide) rfl ⟨Nat.le_of_ble_eq_true rfl, Nat.le_of_ble_eq_true rfl⟩ (Nat.le_of_ble_eq_true rfl) rfl (t_lsAdd (q := 0) (by decide) (R.lq (by decide)) (R.lst.1) (Nat.lt_of_le_of_lt (mS_b R.mI (k := 2) (b := 16) (by decide)) (by decide)) (by decide) (by decide) ?_)
      refine ax_pop dX11_source_49 rfl ?_
      refine ax_aload_n (i := 0) dX11_source_50 rfl rfl rfl ?_
      refine ax_getR dX11_source_51 fl_X11_10 rfl rfl rfl (R.tow.1 0 (by decide)) ?_
      refine ax_invV (c := 0) (n := 0) (As := []) dX11_source_54 cb_Jx4a65c_size_8abf5 cv_X11_75.1 cv_X11_75.2.1 cv_X11_75.2.2 rfl (by decide) rfl ⟨Nat.le_of_ble_eq_true rfl, Nat.le_of_ble_eq_true rfl⟩ (Nat.le_of_ble_eq_true rfl) rfl (t_lsSize (q := 0) (by decide) (R.lq (by decide)) (n := (mN M 2) + 1) (el := elU (nm 9) (mN M 2) (nm 9 (mN M 2))) rfl (by omega) ?_)
      refine ax_iconst (v := 1) dX11_source_57 (by decide) ?_
      refine ax_isub dX11_source_58 ?_
      refine ax_iret dX11_source_59 rfl rfl ?_
      have hN : mN (pS (pA (mT0 M) 3 (mN M 2) w) 2 (mS M 2 + 1)) 2 = (mN M 2) + 1 := mN_inc (mS_nI R.mI (k := 2) (b := 16) (by decide)) (by omega)
      exact cfin (M' := (pS (pA (mT0 M) 3 (mN M 2) w) 2 (mS M 2 + 1))) h ((if_neg (fun z => z c_4)).trans ((if_neg (fun z => absurd ((mS_nI R.mI (k := 2) (b := 16) (by decide)).symm.trans z) (fun w => absurd ((nI_eq (b := 16) (by omega) (by decide)).mp w) (by omega)))).trans (by rw [show mS M 2 + 1 - 1 = nI ((mN M 2) + 1) - 1 from by rw [(mS_nI R.mI (k := 2) (b := 16) (by decide)), nI_1]]))) ⟨cR.mk' ((R.mI.t0.qF (by decide)).inc (b := 16) (by decide) (mS_nI R.mI (k := 2) (b := 16) (by decide)) hlt (by decide)) (R.tow.cg (fun _ => rfl) (fun _ => rfl) rfl rfl rfl (fun q hq => by simp only [sC_wK, sC_wI, sC_wL, sC_wR, sC_wN]; repeat rw [if_neg (by omega)])) (⟨by show (((mN M 2) + 1, elU (nm 9) (mN M 2) (nm 9 (mN M 2))) : Nat × (Nat → Nat)) = _; rw [hN, elU_nm], R.lst.2⟩) (⟨by show sC S 9 + 1 = 1 * mN (pS (pA (mT0 M) 3 (mN M 2) w) 2 (mS M 2 + 1)) 2; rw [hN, e9]; omega, by show sC S 16 + 1 = 1 * mN (pS (pA (mT0 M) 3 (mN M 2) w) 2 (mS M 2 + 1)) 2; rw [hN, e16]; omega, by show sC S 17 + 1 = 1 * mN (pS (pA (mT0 M) 3 (mN M 2) w) 2 (mS M 2 + 1)) 2; rw [hN, e17]; omega, R.cx.2.2.2.1, R.cx.2.2.2.2.1, R.cx.2.2.2.2.2.1, R.cx.2.2.2.2.2.2.1, R.cx.2.2.2.2.2.2.2.1, R.cx.2.2.2.2.2.2.2.2.1, R.cx.2.2.2.2.2.2.2.2.2.1, R.cx.2.2.2.2.2.2.2.2.2.2.1, R.cx.2.2.2.2.2.2.2.2.2.2.2.1, R.cx.2.2.2.2.2.2.2.2.2.2.2.2.1, R.cx.2.2.2.2.2.2.2.2.2.2.2.2.2.1, R.cx.2.2.2.2.2.2.2.2.2.2.2.2.2.2.1, R.cx.2.2.2.2.2.2.2.2.2.2.2.2.2.2.2⟩) R.cnt.2.1 R.cnt.2.2 (fun i hi => by
          have hi : i < (mN M 2) + 1 := hN ▸ hi
          by_cases e : i = (mN M 2)
          · simp [srcOk, sI_wK, sI_wI, sI_wR, sI_wN, sL_wK, sL_wI, sL_wR, sL_wN, sR_wK, sR_wI, sR_wR, sR_wN, sN_wK, sN_wI, sN_wR, sN_wN, sC_wK, sC_wI, sC_wR, sC_wN, mA_pS, mA_pA, mL_pS, mL_pA, mT0, e9, e16, e17, e]
          · have q := R.src i (by omega)
            simp [srcOk, sI_wK, sI_wI, sI_wR, sI_wN, sL_wK, sL_wI, sL_wR, sL_wN, sR_wK, sR_wI, sR_wR, sR_wN, sN_wK, sN_wI, sN_wR, sN_wN, sC_wK, sC_wI, sC_wR, sC_wN, mA_pS, mA_pA, mL_pS, mL_pA, mT0, e9, e16, e17, e]
            exact q) R.rul R.ala R.ltr R.brd (⟨R.ix.1, R.ix.2.1, R.ix.2.2.1, R.ix.2.2.2.1, R.ix.2.2.2.2.1, R.ix.2.2.2.2.2.1, R.ix.2.2.2.2.2.2.1, R.ix.2.2.2.2.2.2.2.1, R.ix.2.2.2.2.2.2.2.2.1, R.ix.2.2.2.2.2.2.2.2.2.1, R.ix.2.2.2.2.2.2.2.2.2.2.1, R.ix.2.2.2.2.2.2.2.2.2.2.2.1, R.ix.2.2.2.2.2.2.2.2.2.2.2.2.1, R.ix.2.2.2.2.2.2.2.2.2.2.2.2.2.1, R.ix.2.2.2.2.2.2.2.2.2.2.2.2.2.2.1, R.ix.2.2.2.2.2.2.2.2.2.2.2.2.2.2.2.1, R.ix.2.2.2.2.2.2.2.2.2.2.2.2.2.2.2.2.1, R.ix.2.2.2.2.2.2.2.2.2.2.2.2.2.2.2.2.2.1, R.ix.2.2.2.2.2.2.2.2.2.2.2.2.2.2.2.2.2.2.1, R.ix.2.2.2.2.2.2.2.2.2.2.2.2.2.2.2.2.2.2.2.1, R.ix.2.2.2.2.2.2.2.2.2.2.2.2.2.2.2.2.2.2.2.2.1, R.ix.2.2.2.2.2.2.2.2.2.2.2.2.2.2.2.2.2.2.2.2.2.1, R.ix.2.2.2.2.2.2.2.2.2.2.2.2.2.2.2.2.2.2.2.2.2.2.1, R.ix.2.2.2.2.2.2.2.2.2.2.2.2.2.2.2.2.2.2.2.2.2.2.2.1, R.ix.2.2.2.2.2.2.2.2.2.2.2.2.2.2.2.2.2.2.2.2.2.2.2.2.1, R.ix.2.2.2.2.2.2.2.2.2.2.2.2.2.2.2.2.2.2.2.2.2.2.2.2.2.1, R.ix.2.2.2.2.2.2.2.2.2.2.2.2.2.2.2.2.2.2.2.2.2.2.2.2.2.2.1, R.ix.2.2.2.2.2.2.2.2.2.2.2.2.2.2.2.2.2.2.2.2.2.2.2.2.2.2.2.1, R.ix.2.2.2.2.2.2.2.2.2.2.2.2.2.2.2.2.2.2.2.2.2.2.2.2.2.2.2.2.1, R.ix.2.2.2.2.2.2.2.2.2.2.2.2.2.2.2.2.2.2.2.2.2.2.2.2.2.2.2.2.2.1, fun i hi => by
          have hi : i < (mN M 2) + 1 := hN ▸ hi
          by_cases e : i = (mN M 2)
          · simp [sI_wK, sI_wI, sI_wR, sI_wN, sL_wK, sL_wI, sL_wR, sL_wN, sR_wK, sR_wI, sR_wR, sR_wN, sN_wK, sN_wI, sN_wR, sN_wN, sC_wK, sC_wI, sC_wR, sC_wN, mA_pS, mA_pA, mL_pS, mL_pA, mT0, e9, e16, e17, e]
          · have q := R.int (f := 9) (k := 1) (m := 3) (q := 2) (by decide) (show i < (mN M 2) by omega)
            simp [sI_wK, sI_wI, sI_wR, sI_wN, sL_wK, sL_wI, sL_wR, sL_wN, sR_wK, sR_wI, sR_wR, sR_wN, sN_wK, sN_wI, sN_wR, sN_wN, sC_wK, sC_wI, sC_wR, sC_wN, mA_pS, mA_pA, mL_pS, mL_pA, mT0, e9, e16, e17, e]
            exact q, R.ix.2.2.2.2.2.2.2.2.2.2.2.2.2.2.2.2.2.2.2.2.2.2.2.2.2.2.2.2.2.2.2.1, R.ix.2.2.2.2.2.2.2.2.2.2.2.2.2.2.2.2.2.2.2.2.2.2.2.2.2.2.2.2.2.2.2.2.1, R.ix.2.2.2.2.2.2.2.2.2.2.2.2.2.2.2.2.2.2.2.2.2.2.2.2.2.2.2.2.2.2.2.2.2.1, R.ix.2.2.2.2.2.2.2.2.2.2.2.2.2.2.2.2.2.2.2.2.2.2.2.2.2.2.2.2.2.2.2.2.2.2.1, R.ix.2.2.2.2.2.2.2.2.2.2.2.2.2.2.2.2.2.2.2.2.2.2.2.2.2.2.2.2.2.2.2.2.2.2.2.1, R.ix.2.2.2.2.2.2.2.2.2.2.2.2.2.2.2.2.2.2.2.2.2.2.2.2.2.2.2.2.2.2.2.2.2.2.2.2.1, R.ix.2.2.2.2.2.2.2.2.2.2.2.2.2.2.2.2.2.2.2.2.2.2.2.2.2.2.2.2.2.2.2.2.2.2.2.2.2.1, R.ix.2.2.2.2.2.2.2.2.2.2.2.2.2.2.2.2.2.2.2.2.2.2.2.2.2.2.2.2.2.2.2.2.2.2.2.2.2.2⟩) R.la R.sca (fun i hi t ht => by
          have hi : i < (mN M 2) + 1 := hN ▸ hi
          by_cases e : i = (mN M 2)
          · have q := R.inv.2.2.2.2.2.2.2.2.2.2.2 (mN M 2) t (Nat.le_refl _) (by omega) ht
            simp [sI_wK, sI_wI, sI_wR, sI_wN, sL_wK, sL_wI, sL_wR, sL_wN, sR_wK, sR_wI, sR_wR, sR_wN, sN_wK, sN_wI, sN_wR, sN_wN, sC_wK, sC_wI, sC_wR, sC_wN, mA_pS, mA_pA, mL_pS, mL_pA, mT0, e9, e16, e17, e]
            exact ⟨q.1.symm, q.2.symm⟩
          · have q := R.val i (by omega) t ht
            simp [sI_wK, sI_wI, sI_wR, sI_wN, sL_wK, sL_wI, sL_wR, sL_wN, sR_wK, sR_wI, sR_wR, sR_wN, sN_wK, sN_wI, sN_wR, sN_wN, sC_wK, sC_wI, sC_wR, sC_wN, mA_pS, mA_pA, mL_pS, mL_pA, mT0, e9, e16, e17, e]
            exact q) R.ref R.wat R.flg R.tru R.hld R.lea R.row R.bdr (⟨fun r s t hc hs ht => by
          refine R.inv.1 r s t ?_ hs ht
          have hc : (mN M 6 ≤ r ∨ mN (pS (pA (mT0 M) 3 (mN M 2) w) 2 (mS M 2 + 1)) 2 ≤ s) ∨ (r < mN M 6 ∧ s < mN (pS (pA (mT0 M) 3 (mN M 2) w) 2 (mS M 2 + 1)) 2 ∧ mN M 1 < t) := hc
          rw [hN] at hc
          have hgoal : (mN M 6 ≤ r ∨ (mN M 2) ≤ s) ∨ (r < mN M 6 ∧ s < (mN M 2) ∧ mN M 1 < t) := by omega
          exact hgoal, fun r s hc hs hr => by
          refine R.inv.2.1 r s ?_ hs hr
          have hc : mN M 6 ≤ r ∨ mN (pS (pA (mT0 M) 3 (mN M 2) w) 2 (mS M 2 + 1)) 2 ≤ s ∨ (0 ≤ mA M 14 r ∧ ¬ mA M 14 r = mA (pS (pA (mT0 M) 3 (mN M 2) w) 2 (mS M 2 + 1)) 3 s) := hc
          rw [hN] at hc
          by_cases e : (mN M 2) ≤ s
          · exact Or.inr (Or.inl e)
          · refine hc.elim Or.inl (fun z => z.elim (fun w => absurd w (by omega)) (fun w => Or.inr (Or.inr ⟨w.1, fun q => w.2 (q.trans ?_)⟩)))
            have e2 : ¬ s = (mN M 2) := by omega
            simp [sI_wK, sI_wI, sI_wR, sI_wN, sL_wK, sL_wI, sL_wR, sL_wN, sR_wK, sR_wI, sR_wR, sR_wN, sN_wK, sN_wI, sN_wR, sN_wN, sC_wK, sC_wI, sC_wR, sC_wN, mA_pS, mA_pA, mL_pS, mL_pA, mT0, e9, e16, e17, e2], fun i hi => ⟨(R.inv.2.2.1 i hi).1, by show mE M 32 i < mN (pS (pA (mT0 M) 3 (mN M 2) w) 2 (mS M 2 + 1)) 2; rw [hN]; exact Nat.lt_succ_of_lt (R.inv.2.2.1 i hi).2.1, (R.inv.2.2.1 i hi).2.2⟩, R.inv.2.2.2.1, R.inv.2.2.2.2.1, R.inv.2.2.2.2.2.1, R.inv.2.2.2.2.2.2.1, R.inv.2.2.2.2.2.2.2.1, R.inv.2.2.2.2.2.2.2.2.1, R.inv.2.2.2.2.2.2.2.2.2.1, R.inv.2.2.2.2.2.2.2.2.2.2.1, fun i t h1 h2 h3 => R.inv.2.2.2.2.2.2.2.2.2.2.2 i t (by have h1 : mN (pS (pA (mT0 M) 3 (mN M 2) w) 2 (mS M 2 + 1)) 2 ≤ i := h1; rw [hN] at h1; omega) h2 h3⟩), hr0⟩ (by repeat (first | exact cFm.rf | refine cFm.tr ?_ (cFm.xI ⟨by decide, by decide, by decide⟩) | refine cFm.tr ?_ (cFm.xL ⟨by decide, by decide, by decide⟩) | refine cFm.tr ?_ (cFm.xR ⟨by decide, by decide, by decide⟩) | refine cFm.tr ?_ (cFm.xN ⟨by decide, by decide, by decide⟩) | refine cFm.tr ?_ cFm.xK)) (by omega) (by have e9 : (oCl 9).2.2 = 4 := rfl; omega)
    · refine ax_bipush (v := -2) dX11_source_24 (by decide) ?_
      refine ax_iret dX11_source_26 rfl rfl ?_
      exact cfin h ((if_neg (fun z => z c_4)).trans (if_pos ((mS_nI R.mI (k := 2) (b := 16) (by decide)).trans (by rw [show (mN M 2) = 16 from Nat.le_antisymm hb (ge_of_c (b := 16) (n := (mN M 2)) rfl (Int32.not_lt.mp c_21) (by decide))]; rfl)))) (cRR.t0 ⟨R, hr0⟩) cFm.rf (by decide) (by decide)
  · refine ax_if_ne (tgt := 12) dX11_source_7 (by decide) (fun z => absurd z (by decide)) (fun _ => ?_)
    refine ax_iconst (v := -1) dX11_source_10 (by decide) ?_
    refine ax_iret dX11_source_11 rfl rfl ?_
    exact cfin h (if_pos c_4) (cRR.t0 ⟨R, hr0⟩) cFm.rf (by decide) (by decide)
