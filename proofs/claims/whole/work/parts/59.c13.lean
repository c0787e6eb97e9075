set_option maxHeartbeats 400000 in
set_option maxRecDepth 100000 in
theorem c_addShift {E : awE} {S : awS} {Q : Option Value → awS → Nat → Nat → Prop} {M : aM} {k : Nat} (r : rosOk S M) (hc : (mN M 53) ≤ 40) (h1 : (mN M 53) < 40 → Q (some (.int (nI (mN M 53)))) (wK S 7 ((mN M 53) + 1, elU (nm 7) (mN M 53) (nm 7 k))) 1 (2 * (mN M 53) + 12)) (h0 : (mN M 53) = 40 → Q (some (.int (-2))) S 0 0) : awT true E m_X4_addShift [.ref (nm 5 0), .ref (nm 7 k)] S Q := by
  refine awT.of (by decide) (by decide) (Nat.le_of_ble_eq_true rfl) ?_
  refine ax_aload_n (i := 0) dX4_addShift_0 rfl rfl rfl ?_
  refine ax_getR dX4_addShift_1 fl_X4_18 rfl rfl rfl r.1 ?_
  refine ax_invV (c := 0) (n := 0) (As := []) dX4_addShift_4 cb_Jx4a65c_size_8abf5 cv_X4_32.1 cv_X4_32.2.1 cv_X4_32.2.2 rfl (by decide) rfl ⟨Nat.le_of_ble_eq_true rfl, Nat.le_of_ble_eq_true rfl⟩ (Nat.le_of_ble_eq_true rfl) rfl (t_lsSize (q := 7) (by decide) r.2.2.2.2.2.2.1 r.2.2.2.2.2.2.2.2.2.1 (by omega) ?_)
  refine ax_bipush (v := 40) dX4_addShift_7 (by decide) ?_
  refine ax_icmp_lt (tgt := 15) dX4_addShift_9 (by decide) (fun c_9 => ?_) (fun c_9 => ?_)
  · refine ax_aload_n (i := 0) dX4_addShift_15 rfl rfl rfl ?_
    refine ax_getR dX4_addShift_16 fl_X4_18 rfl rfl rfl r.1 ?_
    refine ax_aload_n (i := 1) dX4_addShift_19 rfl rfl rfl ?_
    refine ax_invV (c := 0) (n := 1) (As := [_]) dX4_addShift_20 cb_Jx4a65c_add_9ea2d cv_X4_36.1 cv_X4_36.2.1 cv_X4_36.2.2 rfl (by decide) rfl ⟨Nat.le_of_ble_eq_true rfl, Nat.le_of_ble_eq_true rfl⟩ (Nat.le_of_ble_eq_true rfl) rfl (t_lsAdd (q := 7) (by decide) r.2.2.2.2.2.2.1 r.2.2.2.2.2.2.2.2.2.1 (by omega) (by decide) (by decide) ?_)
    refine ax_pop dX4_addShift_23 rfl ?_
    refine ax_aload_n (i := 0) dX4_addShift_24 rfl rfl rfl ?_
    refine ax_getR dX4_addShift_25 fl_X4_18 rfl rfl rfl r.1 ?_
    refine ax_invV (c := 0) (n := 0) (As := []) dX4_addShift_28 cb_Jx4a65c_size_8abf5 cv_X4_32.1 cv_X4_32.2.1 cv_X4_32.2.2 rfl (by decide) rfl ⟨Nat.le_of_ble_eq_true rfl, Nat.le_of_ble_eq_true rfl⟩ (Nat.le_of_ble_eq_true rfl) rfl (t_lsSize (q := 7) (by decide) r.2.2.2.2.2.2.1 (n := (mN M 53) + 1) (el := elU (nm 7) (mN M 53) (nm 7 k)) rfl (by omega) ?_)
    refine ax_iconst (v := 1) dX4_addShift_31 (by decide) ?_
    refine ax_isub dX4_addShift_32 ?_
    refine ax_iret dX4_addShift_33 rfl rfl ?_
    rw [show nI ((mN M 53) + 1) - 1 = nI (mN M 53) from nI_pred _]
    rw [show 0 + 0 + (2 * (mN M 53) + 12) + 0 = 2 * (mN M 53) + 12 by omega]
    exact h1 (nI_slt (b := 40) c_9 (by omega))
  · refine ax_bipush (v := -2) dX4_addShift_12 (by decide) ?_
    refine ax_iret dX4_addShift_14 rfl rfl ?_
    exact h0 (Nat.le_antisymm hc (ge_of_c (b := 40) (n := (mN M 53)) rfl (Int32.not_lt.mp c_9) (by decide)))
set_option maxHeartbeats 400000 in
set_option maxRecDepth 100000 in
theorem c_addSwap {E : awE} {S : awS} {Q : Option Value → awS → Nat → Nat → Prop} {M : aM} {k : Nat} (r : rosOk S M) (hc : (mN M 58) ≤ 20) (h1 : (mN M 58) < 20 → Q (some (.int (nI (mN M 58)))) (wK S 8 ((mN M 58) + 1, elU (nm 10) (mN M 58) (nm 10 k))) 1 (2 * (mN M 58) + 12)) (h0 : (mN M 58) = 20 → Q (some (.int (-2))) S 0 0) : awT true E m_X4_addSwap [.ref (nm 5 0), .ref (nm 10 k)] S Q := by
  refine awT.of (by decide) (by decide) (Nat.le_of_ble_eq_true rfl) ?_
  refine ax_aload_n (i := 0) dX4_addSwap_0 rfl rfl rfl ?_
  refine ax_getR dX4_addSwap_1 fl_X4_22 rfl rfl rfl r.2.1 ?_
  refine ax_invV (c := 0) (n := 0) (As := []) dX4_addSwap_4 cb_Jx4a65c_size_8abf5 cv_X4_32.1 cv_X4_32.2.1 cv_X4_32.2.2 rfl (by decide) rfl ⟨Nat.le_of_ble_eq_true rfl, Nat.le_of_ble_eq_true rfl⟩ (Nat.le_of_ble_eq_true rfl) rfl (t_lsSize (q := 8) (by decide) r.2.2.2.2.2.2.2.1 r.2.2.2.2.2.2.2.2.2.2 (by omega) ?_)
  refine ax_bipush (v := 20) dX4_addSwap_7 (by decide) ?_
  refine ax_icmp_lt (tgt := 15) dX4_addSwap_9 (by decide) (fun c_9 => ?_) (fun c_9 => ?_)
  · refine ax_aload_n (i := 0) dX4_addSwap_15 rfl rfl rfl ?_
    refine ax_getR dX4_addSwap_16 fl_X4_22 rfl rfl rfl r.2.1 ?_
    refine ax_aload_n (i := 1) dX4_addSwap_19 rfl rfl rfl ?_
    refine ax_invV (c := 0) (n := 1) (As := [_]) dX4_addSwap_20 cb_Jx4a65c_add_9ea2d cv_X4_36.1 cv_X4_36.2.1 cv_X4_36.2.2 rfl (by decide) rfl ⟨Nat.le_of_ble_eq_true rfl, Nat.le_of_ble_eq_true rfl⟩ (Nat.le_of_ble_eq_true rfl) rfl (t_lsAdd (q := 8) (by decide) r.2.2.2.2.2.2.2.1 r.2.2.2.2.2.2.2.2.2.2 (by omega) (by decide) (by decide) ?_)
    refine ax_pop dX4_addSwap_23 rfl ?_
    refine ax_aload_n (i := 0) dX4_addSwap_24 rfl rfl rfl ?_
    refine ax_getR dX4_addSwap_25 fl_X4_22 rfl rfl rfl r.2.1 ?_
    refine ax_invV (c := 0) (n := 0) (As := []) dX4_addSwap_28 cb_Jx4a65c_size_8abf5 cv_X4_32.1 cv_X4_32.2.1 cv_X4_32.2.2 rfl (by decide) rfl ⟨Nat.le_of_ble_eq_true rfl, Nat.le_of_ble_eq_true rfl⟩ (Nat.le_of_ble_eq_true rfl) rfl (t_lsSize (q := 8) (by decide) r.2.2.2.2.2.2.2.1 (n := (mN M 58) + 1) (el := elU (nm 10) (mN M 58) (nm 10 k)) rfl (by omega) ?_)
    refine ax_iconst (v := 1) dX4_addSwap_31 (by decide) ?_
    refine ax_isub dX4_addSwap_32 ?_
    refine ax_iret dX4_addSwap_33 rfl rfl ?_
    rw [show nI ((mN M 58) + 1) - 1 = nI (mN M 58) from nI_pred _]
    rw [show 0 + 0 + (2 * (mN M 58) + 12) + 0 = 2 * (mN M 58) + 12 by omega]
    exact h1 (nI_slt (b := 20) c_9 (by omega))
  · refine ax_bipush (v := -2) dX4_addSwap_12 (by decide) ?_
    refine ax_iret dX4_addSwap_14 rfl rfl ?_
    exact h0 (Nat.le_antisymm hc (ge_of_c (b := 20) (n := (mN M 58)) rfl (Int32.not_lt.mp c_9) (by decide)))
set_option maxHeartbeats 400000 in
set_option maxRecDepth 100000 in
theorem c_shift {E : awE} {S : awS} {M : aM} {Q : Option Value → awS → Nat → Nat → Prop} (R0 : cRR S M) {h1 fr pl st : Int32} (h : cPost S (mShift M h1 fr pl st) Q) : awT true E m_X11_shift [.ref (nm 12 0), .int h1, .int fr, .int pl, .int st] S Q := by
  refine awT.of (by decide) (by decide) (Nat.le_of_ble_eq_true rfl) ?_
  obtain ⟨R, hr0⟩ := R0
  refine ax_aload_n (i := 0) dX11_shift_0 rfl rfl rfl ?_
  refine ax_getR dX11_shift_1 fl_X11_40 rfl rfl rfl R.tow.2.1 ?_
  refine ax_iload_n (i := 1) dX11_shift_4 rfl rfl ?_
  refine ax_invV (c := 5) (n := 1) (As := [_]) dX11_shift_5 cb_X4_hasHand cv_X11_125.1 cv_X11_125.2.1 cv_X11_125.2.2 rfl (by decide) rfl ⟨Nat.le_of_ble_eq_true rfl, Nat.le_of_ble_eq_true rfl⟩ (Nat.le_of_ble_eq_true rfl) rfl (c_hasHand (fun c_5 => ?_) (fun c_5 => ?_))
  · refine ax_if_eq (tgt := 21) dX11_shift_8 (by decide) (fun z => absurd z (by decide)) (fun _ => ?_)
    refine ax_iload_n (i := 2) dX11_shift_11 rfl rfl ?_
    refine ax_iconst (v := 0) dX11_shift_12 (by decide) ?_
    refine ax_bipush (v := 47) dX11_shift_13 (by decide) ?_
    refine ax_invS (n := 3) (As := [_, _, _]) dX11_shift_15 cb_X11_isWithin cs_X11_71.1 cs_X11_71.2 rfl ⟨Nat.le_of_ble_eq_true rfl, Nat.le_of_ble_eq_true rfl⟩ (Nat.le_of_ble_eq_true rfl) rfl (c_isWithin (fun c_15 => ?_) (fun c_15 => ?_))
    · refine ax_if_ne (tgt := 23) dX11_shift_18 (by decide) (fun _ => ?_) (fun z => absurd (by decide) z)
      refine ax_iload_n (i := 3) dX11_shift_23 rfl rfl ?_
      refine ax_iconst (v := 1) dX11_shift_24 (by decide) ?_
      refine ax_bipush (v := 48) dX11_shift_25 (by decide) ?_
      refine ax_invS (n := 3) (As := [_, _, _]) dX11_shift_27 cb_X11_isWithin cs_X11_71.1 cs_X11_71.2 rfl ⟨Nat.le_of_ble_eq_true rfl, Nat.le_of_ble_eq_true rfl⟩ (Nat.le_of_ble_eq_true rfl) rfl (c_isWithin (fun c_27 => ?_) (fun c_27 => ?_))
      · refine ax_if_eq (tgt := 44) dX11_shift_30 (by decide) (fun z => absurd z (by decide)) (fun _ => ?_)
        refine ax_iload dX11_shift_33 rfl ?_
        refine ax_iconst (v := 0) dX11_shift_35 (by decide) ?_
        refine ax_bipush (v := 9) dX11_shift_36 (by decide) ?_
        refine ax_invS (n := 3) (As := [_, _, _]) dX11_shift_38 cb_X11_isWithin cs_X11_71.1 cs_X11_71.2 rfl ⟨Nat.le_of_ble_eq_true rfl, Nat.le_of_ble_eq_true rfl⟩ (Nat.le_of_ble_eq_true rfl) rfl (c_isWithin (fun c_38 => ?_) (fun c_38 => ?_))
        · refine ax_if_ne (tgt := 46) dX11_shift_41 (by decide) (fun _ => ?_) (fun z => absurd (by decide) z)
          have hHand2 : nN h1 < mN M 52 := (R.hE (show okHand M h1 from by rw [R.sca.2.2.2.2.2.2.2] at c_5; exact c_5)).2
          have hHand : h1 = nI (nN h1) ∧ nN h1 < 8 := ⟨(R.hE (show okHand M h1 from by rw [R.sca.2.2.2.2.2.2.2] at c_5; exact c_5)).1, Nat.lt_of_lt_of_le hHand2 R.nH⟩
          have hFrom : fr = nI (nN fr) ∧ nN fr < 48 := rg_of c_15.1 (Int32.lt_of_le_of_lt c_15.2 (by decide)) (by decide)
          have hPl : pl = nI (nN pl) ∧ nN pl < 49 := rg_of (Int32.le_trans (by decide) c_27.1) (Int32.lt_of_le_of_lt c_27.2 (by decide)) (by decide)
          have hb : mN M 53 ≤ 40 := mS_b R.mI (by decide)
          refine ax_aload_n (i := 0) dX11_shift_46 rfl rfl rfl ?_
          refine ax_getR dX11_shift_47 fl_X11_40 rfl rfl rfl R.tow.2.1 ?_
          refine ax_new (f := 7) dX11_shift_50 nw_X11_136 rfl rfl ?_
          refine ax_dup dX11_shift_53 rfl ?_
          refine ax_iload_n (i := 1) dX11_shift_54 rfl rfl ?_
          refine ax_iload_n (i := 2) dX11_shift_55 rfl rfl ?_
          refine ax_iload_n (i := 3) dX11_shift_56 rfl rfl ?_
          refine ax_iload dX11_shift_57 rfl ?_
          refine ax_invI (n := 4) (As := [_, _, _, _]) dX11_shift_59 cb_X6_init ci_X11_138.1 ci_X11_138.2 rfl rfl rfl ⟨Nat.le_of_ble_eq_true rfl, Nat.le_of_ble_eq_true rfl⟩ (Nat.le_of_ble_eq_true rfl) rfl (c_iSft ?_)
          refine ax_invV (c := 5) (n := 1) (As := [_]) dX11_shift_62 cb_X4_addShift cv_X11_139.1 cv_X11_139.2.1 cv_X11_139.2.2 rfl (by decide) rfl ⟨Nat.le_of_ble_eq_true rfl, Nat.le_of_ble_eq_true rfl⟩ (Nat.le_of_ble_eq_true rfl) rfl (c_addShift (M := M) R.ros hb (fun hlt => ?_) (fun hfull => ?_))
          · refine ax_iret dX11_shift_65 rfl rfl ?_
            have hN : mN (pS (pA (pA (pA (pA (mT0 M) 54 (mN M 53) h1) 55 (mN M 53) fr) 56 (mN M 53) pl) 57 (mN M 53) st) 53 (mS M 53 + 1)) 53 = (mN M 53) + 1 := mN_inc (mS_nI R.mI (k := 53) (b := 40) (by decide)) (by omega)
            have eC : sC S 7 = (mN M 53) := R.cnt.2.1.2 hlt
            rw [eC]
            exact cfin (M' := (pS (pA (pA (pA (pA (mT0 M) 54 (mN M 53) h1) 55 (mN M 53) fr) 56 (mN M 53) pl) 57 (mN M 53) st) 53 (mS M 53 + 1))) h ((if_neg (fun z => z ⟨(by rw [R.sca.2.2.2.2.2.2.2] at c_5; exact c_5), c_15, c_27, c_38⟩)).trans ((if_neg (fun z => absurd ((mS_nI R.mI (k := 53) (b := 40) (by decide)).symm.trans z) (fun w => absurd ((nI_eq (b := 40) (by omega) (by decide)).mp w) (by omega)))).trans (by rw [show mS M 53 + 1 - 1 = nI (mN M 53) from by rw [(mS_nI R.mI (k := 53) (b := 40) (by decide)), nI_1]; exact nI_pred _]))) ⟨cR.mk' (((((R.mI.t0.qRv (b := 8) (by decide) hHand (by decide)).qRv (b := 48) (by decide) hFrom (by decide)).qRv (b := 49) (by decide) hPl (by decide)).qF (by decide)).inc (b := 40) (by decide) (mS_nI R.mI (k := 53) (b := 40) (by decide)) hlt (by decide)) (R.tow.cg (fun _ => rfl) (fun _ => rfl) rfl rfl rfl (fun q hq => by simp only [sC_wK, sC_wI, sC_wL, sC_wR, sC_wN]; repeat rw [if_neg (by omega)])) (⟨R.lst.1, R.lst.2.1, R.lst.2.2.1, R.lst.2.2.2.1, R.lst.2.2.2.2.1, R.lst.2.2.2.2.2.1, R.lst.2.2.2.2.2.2.1, by show (((mN M 53) + 1, elU (nm 7) (mN M 53) (nm 7 (mN M 53))) : Nat × (Nat → Nat)) = _; rw [hN, elU_nm], R.lst.2.2.2.2.2.2.2.2⟩) R.cx (⟨by show mN (pS (pA (pA (pA (pA (mT0 M) 54 (mN M 53) h1) 55 (mN M 53) fr) 56 (mN M 53) pl) 57 (mN M 53) st) 53 (mS M 53 + 1)) 53 ≤ sC S 7 + 1; rw [hN]; have := R.cnt.2.1.1; omega, fun hh => by rw [hN] at hh; show sC S 7 + 1 = mN (pS (pA (pA (pA (pA (mT0 M) 54 (mN M 53) h1) 55 (mN M 53) fr) 56 (mN M 53) pl) 57 (mN M 53) st) 53 (mS M 53 + 1)) 53; rw [hN, eC]⟩) R.cnt.2.2 R.src R.rul R.ala R.ltr R.brd (⟨R.ix.1, R.ix.2.1, R.ix.2.2.1, R.ix.2.2.2.1, R.ix.2.2.2.2.1, R.ix.2.2.2.2.2.1, R.ix.2.2.2.2.2.2.1, R.ix.2.2.2.2.2.2.2.1, R.ix.2.2.2.2.2.2.2.2.1, R.ix.2.2.2.2.2.2.2.2.2.1, R.ix.2.2.2.2.2.2.2.2.2.2.1, R.ix.2.2.2.2.2.2.2.2.2.2.2.1, R.ix.2.2.2.2.2.2.2.2.2.2.2.2.1, R.ix.2.2.2.2.2.2.2.2.2.2.2.2.2.1, R.ix.2.2.2.2.2.2.2.2.2.2.2.2.2.2.1, R.ix.2.2.2.2.2.2.2.2.2.2.2.2.2.2.2.1, R.ix.2.2.2.2.2.2.2.2.2.2.2.2.2.2.2.2.1, R.ix.2.2.2.2.2.2.2.2.2.2.2.2.2.2.2.2.2.1, R.ix.2.2.2.2.2.2.2.2.2.2.2.2.2.2.2.2.2.2.1, R.ix.2.2.2.2.2.2.2.2.2.2.2.2.2.2.2.2.2.2.2.1, R.ix.2.2.2.2.2.2.2.2.2.2.2.2.2.2.2.2.2.2.2.2.1, R.ix.2.2.2.2.2.2.2.2.2.2.2.2.2.2.2.2.2.2.2.2.2.1, fun i hi => by
                have hi : i < (mN M 53) + 1 := hN ▸ hi
                by_cases e : i = (mN M 53)
                · simp [sI_wK, sI_wI, sI_wN, mA_pS, mA_pA, mT0, e, eC]
                · have q := R.int (f := 7) (k := 0) (m := 54) (q := 53) (by decide) (show i < (mN M 53) by omega)
                  simp [sI_wK, sI_wI, sI_wN, mA_pS, mA_pA, mT0, e, eC]
                  exact q, fun i hi => by
                have hi : i < (mN M 53) + 1 := hN ▸ hi
                by_cases e : i = (mN M 53)
                · simp [sI_wK, sI_wI, sI_wN, mA_pS, mA_pA, mT0, e, eC]
                · have q := R.int (f := 7) (k := 1) (m := 57) (q := 53) (by decide) (show i < (mN M 53) by omega)
                  simp [sI_wK, sI_wI, sI_wN, mA_pS, mA_pA, mT0, e, eC]
                  exact q, fun i hi => by
                have hi : i < (mN M 53) + 1 := hN ▸ hi
                by_cases e : i = (mN M 53)
                · simp [sI_wK, sI_wI, sI_wN, mA_pS, mA_pA, mT0, e, eC]
                · have q := R.int (f := 7) (k := 2) (m := 55) (q := 53) (by decide) (show i < (mN M 53) by omega)
                  simp [sI_wK, sI_wI, sI_wN, mA_pS, mA_pA, mT0, e, eC]
                  exact q, fun i hi => by
                have hi : i < (mN M 53) + 1 := hN ▸ hi
                by_cases e : i = (mN M 53)
                · simp [sI_wK, sI_wI, sI_wN, mA_pS, mA_pA, mT0, e, eC]
                · have q := R.int (f := 7) (k := 3) (m := 56) (q := 53) (by decide) (show i < (mN M 53) by omega)
                  simp [sI_wK, sI_wI, sI_wN, mA_pS, mA_pA, mT0, e, eC]
                  exact q, R.ix.2.2.2.2.2.2.2.2.2.2.2.2.2.2.2.2.2.2.2.2.2.2.2.2.2.2.1, R.ix.2.2.2.2.2.2.2.2.2.2.2.2.2.2.2.2.2.2.2.2.2.2.2.2.2.2.2.1, R.ix.2.2.2.2.2.2.2.2.2.2.2.2.2.2.2.2.2.2.2.2.2.2.2.2.2.2.2.2.1, R.ix.2.2.2.2.2.2.2.2.2.2.2.2.2.2.2.2.2.2.2.2.2.2.2.2.2.2.2.2.2.1, R.ix.2.2.2.2.2.2.2.2.2.2.2.2.2.2.2.2.2.2.2.2.2.2.2.2.2.2.2.2.2.2.1, R.ix.2.2.2.2.2.2.2.2.2.2.2.2.2.2.2.2.2.2.2.2.2.2.2.2.2.2.2.2.2.2.2.1, R.ix.2.2.2.2.2.2.2.2.2.2.2.2.2.2.2.2.2.2.2.2.2.2.2.2.2.2.2.2.2.2.2.2.1, R.ix.2.2.2.2.2.2.2.2.2.2.2.2.2.2.2.2.2.2.2.2.2.2.2.2.2.2.2.2.2.2.2.2.2.1, R.ix.2.2.2.2.2.2.2.2.2.2.2.2.2.2.2.2.2.2.2.2.2.2.2.2.2.2.2.2.2.2.2.2.2.2.1, R.ix.2.2.2.2.2.2.2.2.2.2.2.2.2.2.2.2.2.2.2.2.2.2.2.2.2.2.2.2.2.2.2.2.2.2.2.1, R.ix.2.2.2.2.2.2.2.2.2.2.2.2.2.2.2.2.2.2.2.2.2.2.2.2.2.2.2.2.2.2.2.2.2.2.2.2.1, R.ix.2.2.2.2.2.2.2.2.2.2.2.2.2.2.2.2.2.2.2.2.2.2.2.2.2.2.2.2.2.2.2.2.2.2.2.2.2.1, R.ix.2.2.2.2.2.2.2.2.2.2.2.2.2.2.2.2.2.2.2.2.2.2.2.2.2.2.2.2.2.2.2.2.2.2.2.2.2.2⟩) R.la R.sca R.val R.ref R.wat R.flg R.tru R.hld R.lea R.row R.bdr (⟨R.inv.1, R.inv.2.1, R.inv.2.2.1, R.inv.2.2.2.1, R.inv.2.2.2.2.1, R.inv.2.2.2.2.2.1, R.inv.2.2.2.2.2.2.1, R.inv.2.2.2.2.2.2.2.1, R.inv.2.2.2.2.2.2.2.2.1, fun k hk => by
                have hk : k < (mN M 53) + 1 := hN ▸ hk
                by_cases e : k = (mN M 53)
                · show ((mA (pS (pA (pA (pA (pA (mT0 M) 54 (mN M 53) h1) 55 (mN M 53) fr) 56 (mN M 53) pl) 57 (mN M 53) st) 53 (mS M 53 + 1)) 54 k).toNatClampNeg) < mN M 52
                  simp [sI_wK, sI_wI, sI_wN, mA_pS, mA_pA, mT0, e, mA_pS, mA_pA]
                  exact hHand2
                · have q := R.inv.2.2.2.2.2.2.2.2.2.1 k (by omega)
                  show ((mA (pS (pA (pA (pA (pA (mT0 M) 54 (mN M 53) h1) 55 (mN M 53) fr) 56 (mN M 53) pl) 57 (mN M 53) st) 53 (mS M 53 + 1)) 54 k).toNatClampNeg) < mN M 52
                  simp [sI_wK, sI_wI, sI_wN, mA_pS, mA_pA, mT0, e, mA_pS, mA_pA]
                  exact q, R.inv.2.2.2.2.2.2.2.2.2.2.1, R.inv.2.2.2.2.2.2.2.2.2.2.2⟩), hr0⟩ (by repeat (first | exact cFm.rf | refine cFm.tr ?_ (cFm.xI ⟨by decide, by decide, by decide⟩) | refine cFm.tr ?_ (cFm.xL ⟨by decide, by decide, by decide⟩) | refine cFm.tr ?_ (cFm.xR ⟨by decide, by decide, by decide⟩) | refine cFm.tr ?_ (cFm.xN ⟨by decide, by decide, by decide⟩) | refine cFm.tr ?_ cFm.xK)) (by omega) (by have e7 : (oCl 7).2.2 = 4 := rfl; omega)
          · refine ax_iret dX11_shift_65 rfl rfl ?_
            exact cfin (M' := (mT0 M)) h ((if_neg (fun z => z ⟨(by rw [R.sca.2.2.2.2.2.2.2] at c_5; exact c_5), c_15, c_27, c_38⟩)).trans (if_pos ((mS_nI R.mI (k := 53) (b := 40) (by decide)).trans (by rw [hfull]; rfl)))) ⟨cR.mk' (R.mI.t0) (R.tow.cg (fun _ => rfl) (fun _ => rfl) rfl rfl rfl (fun q hq => by simp only [sC_wK, sC_wI, sC_wL, sC_wR, sC_wN]; repeat rw [if_neg (by omega)])) R.lst R.cx (⟨Nat.le_succ_of_le R.cnt.2.1.1, fun hh => absurd (show (mN M 53) < 40 from hh) (by omega)⟩) R.cnt.2.2 R.src R.rul R.ala R.ltr R.brd (⟨R.ix.1, R.ix.2.1, R.ix.2.2.1, R.ix.2.2.2.1, R.ix.2.2.2.2.1, R.ix.2.2.2.2.2.1, R.ix.2.2.2.2.2.2.1, R.ix.2.2.2.2.2.2.2.1, R.ix.2.2.2.2.2.2.2.2.1, R.ix.2.2.2.2.2.2.2.2.2.1, R.ix.2.2.2.2.2.2.2.2.2.2.1, R.ix.2.2.2.2.2.2.2.2.2.2.2.1, R.ix.2.2.2.2.2.2.2.2.2.2.2.2.1, R.ix.2.2.2.2.2.2.2.2.2.2.2.2.2.1, R.ix.2.2.2.2.2.2.2.2.2.2.2.2.2.2.1, R.ix.2.2.2.2.2.2.2.2.2.2.2.2.2.2.2.1, R.ix.2.2.2.2.2.2.2.2.2.2.2.2.2.2.2.2.1, R.ix.2.2.2.2.2.2.2.2.2.2.2.2.2.2.2.2.2.1, R.ix.2.2.2.2.2.2.2.2.2.2.2.2.2.2.2.2.2.2.1, R.ix.2.2.2.2.2.2.2.2.2.2.2.2.2.2.2.2.2.2.2.1, R.ix.2.2.2.2.2.2.2.2.2.2.2.2.2.2.2.2.2.2.2.2.1, R.ix.2.2.2.2.2.2.2.2.2.2.2.2.2.2.2.2.2.2.2.2.2.1, fun i hi => by
                have q := R.int (f := 7) (k := 0) (m := 54) (q := 53) (by decide) hi
                have hi : i < (mN M 53) := hi
                have e : ¬ i = sC S 7 := by have := R.cnt.2.1.1; omega
                simp [sI_wK, sI_wI, sI_wN, mA_pS, mA_pA, mT0, e]
                exact q, fun i hi => by
                have q := R.int (f := 7) (k := 1) (m := 57) (q := 53) (by decide) hi
                have hi : i < (mN M 53) := hi
                have e : ¬ i = sC S 7 := by have := R.cnt.2.1.1; omega
                simp [sI_wK, sI_wI, sI_wN, mA_pS, mA_pA, mT0, e]
                exact q, fun i hi => by
                have q := R.int (f := 7) (k := 2) (m := 55) (q := 53) (by decide) hi
                have hi : i < (mN M 53) := hi
                have e : ¬ i = sC S 7 := by have := R.cnt.2.1.1; omega
                simp [sI_wK, sI_wI, sI_wN, mA_pS, mA_pA, mT0, e]
                exact q, fun i hi => by
                have q := R.int (f := 7) (k := 3) (m := 56) (q := 53) (by decide) hi
                have hi : i < (mN M 53) := hi
                have e : ¬ i = sC S 7 := by have := R.cnt.2.1.1; omega
                simp [sI_wK, sI_wI, sI_wN, mA_pS, mA_pA, mT0, e]
                exact q, R.ix.2.2.2.2.2.2.2.2.2.2.2.2.2.2.2.2.2.2.2.2.2.2.2.2.2.2.1, R.ix.2.2.2.2.2.2.2.2.2.2.2.2.2.2.2.2.2.2.2.2.2.2.2.2.2.2.2.1, R.ix.2.2.2.2.2.2.2.2.2.2.2.2.2.2.2.2.2.2.2.2.2.2.2.2.2.2.2.2.1, R.ix.2.2.2.2.2.2.2.2.2.2.2.2.2.2.2.2.2.2.2.2.2.2.2.2.2.2.2.2.2.1, R.ix.2.2.2.2.2.2.2.2.2.2.2.2.2.2.2.2.2.2.2.2.2.2.2.2.2.2.2.2.2.2.1, R.ix.2.2.2.2.2.2.2.2.2.2.2.2.2.2.2.2.2.2.2.2.2.2.2.2.2.2.2.2.2.2.2.1, R.ix.2.2.2.2.2.2.2.2.2.2.2.2.2.2.2.2.2.2.2.2.2.2.2.2.2.2.2.2.2.2.2.2.1, R.ix.2.2.2.2.2.2.2.2.2.2.2.2.2.2.2.2.2.2.2.2.2.2.2.2.2.2.2.2.2.2.2.2.2.1, R.ix.2.2.2.2.2.2.2.2.2.2.2.2.2.2.2.2.2.2.2.2.2.2.2.2.2.2.2.2.2.2.2.2.2.2.1, R.ix.2.2.2.2.2.2.2.2.2.2.2.2.2.2.2.2.2.2.2.2.2.2.2.2.2.2.2.2.2.2.2.2.2.2.2.1, R.ix.2.2.2.2.2.2.2.2.2.2.2.2.2.2.2.2.2.2.2.2.2.2.2.2.2.2.2.2.2.2.2.2.2.2.2.2.1, R.ix.2.2.2.2.2.2.2.2.2.2.2.2.2.2.2.2.2.2.2.2.2.2.2.2.2.2.2.2.2.2.2.2.2.2.2.2.2.1, R.ix.2.2.2.2.2.2.2.2.2.2.2.2.2.2.2.2.2.2.2.2.2.2.2.2.2.2.2.2.2.2.2.2.2.2.2.2.2.2⟩) R.la R.sca R.val R.ref R.wat R.flg R.tru R.hld R.lea R.row R.bdr R.inv, hr0⟩ (by repeat (first | exact cFm.rf | refine cFm.tr ?_ (cFm.xI ⟨by decide, by decide, by decide⟩) | refine cFm.tr ?_ (cFm.xL ⟨by decide, by decide, by decide⟩) | refine cFm.tr ?_ (cFm.xR ⟨by decide, by decide, by decide⟩) | refine cFm.tr ?_ (cFm.xN ⟨by decide, by decide, by decide⟩) | refine cFm.tr ?_ cFm.xK)) (by omega) (by have e7 : (oCl 7).2.2 = 4 := rfl; omega)
        · refine ax_if_ne (tgt := 46) dX11_shift_41 (by decide) (fun z => absurd z (by decide)) (fun _ => ?_)
          refine ax_iconst (v := -1) dX11_shift_44 (by decide) ?_
          refine ax_iret dX11_shift_45 rfl rfl ?_
          exact cfin h (if_pos (fun g => c_38 g.2.2.2)) (cRR.t0 ⟨R, hr0⟩) cFm.rf (by decide) (by decide)
      · refine ax_if_eq (tgt := 44) dX11_shift_30 (by decide) (fun _ => ?_) (fun z => absurd (by decide) z)
        refine ax_iconst (v := -1) dX11_shift_44 (by decide) ?_
        refine ax_iret dX11_shift_45 rfl rfl ?_
        exact cfin h (if_pos (fun g => c_27 g.2.2.1)) (cRR.t0 ⟨R, hr0⟩) cFm.rf (by decide) (by decide)
    · refine ax_if_ne (tgt := 23) dX11_shift_18 (by decide) (fun z => absurd z (by decide)) (fun _ => ?_)
      refine ax_iconst (v := -1) dX11_shift_21 (by decide) ?_
      refine ax_iret dX11_shift_22 rfl rfl ?_
      exact cfin h (if_pos (fun g => c_15 g.2.1)) (cRR.t0 ⟨R, hr0⟩) cFm.rf (by decide) (by decide)
  · refine ax_if_eq (tgt := 21) dX11_shift_8 (by decide) (fun _ => ?_) (fun z => absurd (by decide) z)
    refine ax_iconst (v := -1) dX11_shift_21 (by decide) ?_
    refine ax_iret dX11_shift_22 rfl rfl ?_
    exact cfin h (if_pos (fun g => c_5 (by rw [R.sca.2.2.2.2.2.2.2]; exact g.1))) (cRR.t0 ⟨R, hr0⟩) cFm.rf (by decide) (by decide)
set_option maxHeartbeats 400000 in
set_option maxRecDepth 100000 in
theorem c_swap {E : awE} {S : awS} {M : aM} {Q : Option Value → awS → Nat → Nat → Prop} (R0 : cRR S M) {o t fr to : Int32} (h : cPost S (mSwap M o t fr to) Q) : awT true E m_X11_swap [.ref (nm 12 0), .int o, .int t, .int fr, .int to] S Q := by
  refine awT.of (by decide) (by decide) (Nat.le_of_ble_eq_true rfl) ?_
  obtain ⟨R, hr0⟩ := R0
  refine ax_aload_n (i := 0) dX11_swap_0 rfl rfl rfl ?_
  refine ax_getR dX11_swap_1 fl_X11_40 rfl rfl rfl R.tow.2.1 ?_
  refine ax_iload_n (i := 1) dX11_swap_4 rfl rfl ?_
  refine ax_invV (c := 5) (n := 1) (As := [_]) dX11_swap_5 cb_X4_hasHand cv_X11_125.1 cv_X11_125.2.1 cv_X11_125.2.2 rfl (by decide) rfl ⟨Nat.le_of_ble_eq_true rfl, Nat.le_of_ble_eq_true rfl⟩ (Nat.le_of_ble_eq_true rfl) rfl (c_hasHand (fun c_5 => ?_) (fun c_5 => ?_))
  · refine ax_if_eq (tgt := 36) dX11_swap_8 (by decide) (fun z => absurd z (by decide)) (fun _ => ?_)
    refine ax_aload_n (i := 0) dX11_swap_11 rfl rfl rfl ?_
    refine ax_getR dX11_swap_12 fl_X11_40 rfl rfl rfl R.tow.2.1 ?_
    refine ax_iload_n (i := 2) dX11_swap_15 rfl rfl ?_
    refine ax_invV (c := 5) (n := 1) (As := [_]) dX11_swap_16 cb_X4_hasHand cv_X11_125.1 cv_X11_125.2.1 cv_X11_125.2.2 rfl (by decide) rfl ⟨Nat.le_of_ble_eq_true rfl, Nat.le_of_ble_eq_true rfl⟩ (Nat.le_of_ble_eq_true rfl) rfl (c_hasHand (fun c_16 => ?_) (fun c_16 => ?_))
    · refine ax_if_eq (tgt := 36) dX11_swap_19 (by decide) (fun z => absurd z (by decide)) (fun _ => ?_)
      refine ax_iload_n (i := 1) dX11_swap_22 rfl rfl ?_
      refine ax_iload_n (i := 2) dX11_swap_23 rfl rfl ?_
      refine ax_icmp_eq (tgt := 36) dX11_swap_24 (by decide) (fun c_24 => ?_) (fun c_24 => ?_)
      · refine ax_iconst (v := -1) dX11_swap_36 (by decide) ?_
        refine ax_iret dX11_swap_37 rfl rfl ?_
        exact cfin h (if_pos (fun g => g.2.2.1 c_24)) (cRR.t0 ⟨R, hr0⟩) cFm.rf (by decide) (by decide)
      · refine ax_iload_n (i := 3) dX11_swap_27 rfl rfl ?_
        refine ax_iload dX11_swap_28 rfl ?_
        refine ax_invS (n := 2) (As := [_, _]) dX11_swap_30 cb_X11_areTicks cs_X11_122.1 cs_X11_122.2 rfl ⟨Nat.le_of_ble_eq_true rfl, Nat.le_of_ble_eq_true rfl⟩ (Nat.le_of_ble_eq_true rfl) rfl (c_areTicks (fun c_30 => ?_) (fun c_30 => ?_))
        · refine ax_if_ne (tgt := 38) dX11_swap_33 (by decide) (fun _ => ?_) (fun z => absurd (by decide) z)
          have hOne2 : nN o < mN M 52 := (R.hE (show okHand M o from by rw [R.sca.2.2.2.2.2.2.2] at c_5; exact c_5)).2
          have hOne : o = nI (nN o) ∧ nN o < 8 := ⟨(R.hE (show okHand M o from by rw [R.sca.2.2.2.2.2.2.2] at c_5; exact c_5)).1, Nat.lt_of_lt_of_le hOne2 R.nH⟩
          have hOther2 : nN t < mN M 52 := (R.hE (show okHand M t from by rw [R.sca.2.2.2.2.2.2.2] at c_16; exact c_16)).2
          have hOther : t = nI (nN t) ∧ nN t < 8 := ⟨(R.hE (show okHand M t from by rw [R.sca.2.2.2.2.2.2.2] at c_16; exact c_16)).1, Nat.lt_of_lt_of_le hOther2 R.nH⟩
          have hb : mN M 58 ≤ 20 := mS_b R.mI (by decide)
          refine ax_aload_n (i := 0) dX11_swap_38 rfl rfl rfl ?_
          refine ax_getR dX11_swap_39 fl_X11_40 rfl rfl rfl R.tow.2.1 ?_
          refine ax_new (f := 10) dX11_swap_42 nw_X11_143 rfl rfl ?_
          refine ax_dup dX11_swap_45 rfl ?_
          refine ax_iload_n (i := 1) dX11_swap_46 rfl rfl ?_
          refine ax_iload_n (i := 2) dX11_swap_47 rfl rfl ?_
          refine ax_iload_n (i := 3) dX11_swap_48 rfl rfl ?_
          refine ax_iload dX11_swap_49 rfl ?_
          refine ax_invI (n := 4) (As := [_, _, _, _]) dX11_swap_51 cb_X9_init ci_X11_145.1 ci_X11_145.2 rfl rfl rfl ⟨Nat.le_of_ble_eq_true rfl, Nat.le_of_ble_eq_true rfl⟩ (Nat.le_of_ble_eq_true rfl) rfl (c_iSwp ?_)
          refine ax_invV (c := 5) (n := 1) (As := [_]) dX11_swap_54 cb_X4_addSwap cv_X11_146.1 cv_X11_146.2.1 cv_X11_146.2.2 rfl (by decide) rfl ⟨Nat.le_of_ble_eq_true rfl, Nat.le_of_ble_eq_true rfl⟩ (Nat.le_of_ble_eq_true rfl) rfl (c_addSwap (M := M) R.ros hb (fun hlt => ?_) (fun hfull => ?_))
          · refine ax_iret dX11_swap_57 rfl rfl ?_
            have hN : mN (pS (pA (pA (pA (pA (mT0 M) 59 (mN M 58) o) 60 (mN M 58) t) 61 (mN M 58) fr) 62 (mN M 58) to) 58 (mS M 58 + 1)) 58 = (mN M 58) + 1 := mN_inc (mS_nI R.mI (k := 58) (b := 20) (by decide)) (by omega)
            have eC : sC S 10 = (mN M 58) := R.cnt.2.2.2 hlt
            rw [eC]
            exact cfin (M' := (pS (pA (pA (pA (pA (mT0 M) 59 (mN M 58) o) 60 (mN M 58) t) 61 (mN M 58) fr) 62 (mN M 58) to) 58 (mS M 58 + 1))) h ((if_neg (fun z => z ⟨(by rw [R.sca.2.2.2.2.2.2.2] at c_5; exact c_5), (by rw [R.sca.2.2.2.2.2.2.2] at c_16; exact c_16), c_24, ⟨c_30.1, Int32.le_trans c_30.2.1 c_30.2.2⟩, c_30.2⟩)).trans ((if_neg (fun z => absurd ((mS_nI R.mI (k := 58) (b := 20) (by decide)).symm.trans z) (fun w => absurd ((nI_eq (b := 20) (by omega) (by decide)).mp w) (by omega)))).trans (by rw [show mS M 58 + 1 - 1 = nI (mN M 58) from by rw [(mS_nI R.mI (k := 58) (b := 20) (by decide)), nI_1]; exact nI_pred _]))) ⟨cR.mk' (((((R.mI.t0.qRv (b := 8) (by decide) hOne (by decide)).qRv (b := 8) (by decide) hOther (by decide)).qF (by decide)).qF (by decide)).inc (b := 20) (by decide) (mS_nI R.mI (k := 58) (b := 20) (by decide)) hlt (by decide)) (R.tow.cg (fun _ => rfl) (fun _ => rfl) rfl rfl rfl (fun q hq => by simp only [sC_wK, sC_wI, sC_wL, sC_wR, sC_wN]; repeat rw [if_neg (by omega)])) (⟨R.lst.1, R.lst.2.1, R.lst.2.2.1, R.lst.2.2.2.1, R.lst.2.2.2.2.1, R.lst.2.2.2.2.2.1, R.lst.2.2.2.2.2.2.1, R.lst.2.2.2.2.2.2.2.1, by show (((mN M 58) + 1, elU (nm 10) (mN M 58) (nm 10 (mN M 58))) : Nat × (Nat → Nat)) = _; rw [hN, elU_nm]⟩) R.cx R.cnt.2.1 (⟨by show mN (pS (pA (pA (pA (pA (mT0 M) 59 (mN M 58) o) 60 (mN M 58) t) 61 (mN M 58) fr) 62 (mN M 58) to) 58 (mS M 58 + 1)) 58 ≤ sC S 10 + 1; rw [hN]; have := R.cnt.2.2.1; omega, fun hh => by rw [hN] at hh; show sC S 10 + 1 = mN (pS (pA (pA (pA (pA (mT0 M) 59 (mN M 58) o) 60 (mN M 58) t) 61 (mN M 58) fr) 62 (mN M 58) to) 58 (mS M 58 + 1)) 58; rw [hN, eC]⟩) R.src R.rul R.ala R.ltr R.brd (⟨R.ix.1, R.ix.2.1, R.ix.2.2.1, R.ix.2.2.2.1, R.ix.2.2.2.2.1, R.ix.2.2.2.2.2.1, R.ix.2.2.2.2.2.2.1, R.ix.2.2.2.2.2.2.2.1, R.ix.2.2.2.2.2.2.2.2.1, R.ix.2.2.2.2.2.2.2.2.2.1, R.ix.2.2.2.2.2.2.2.2.2.2.1, R.ix.2.2.2.2.2.2.2.2.2.2.2.1, R.ix.2.2.2.2.2.2.2.2.2.2.2.2.1, R.ix.2.2.2.2.2.2.2.2.2.2.2.2.2.1, R.ix.2.2.2.2.2.2.2.2.2.2.2.2.2.2.1, R.ix.2.2.2.2.2.2.2.2.2.2.2.2.2.2.2.1, R.ix.2.2.2.2.2.2.2.2.2.2.2.2.2.2.2.2.1, R.ix.2.2.2.2.2.2.2.2.2.2.2.2.2.2.2.2.2.1, R.ix.2.2.2.2.2.2.2.2.2.2.2.2.2.2.2.2.2.2.1, R.ix.2.2.2.2.2.2.2.2.2.2.2.2.2.2.2.2.2.2.2.1, R.ix.2.2.2.2.2.2.2.2.2.2.2.2.2.2.2.2.2.2.2.2.1, R.ix.2.2.2.2.2.2.2.2.2.2.2.2.2.2.2.2.2.2.2.2.2.1, R.ix.2.2.2.2.2.2.2.2.2.2.2.2.2.2.2.2.2.2.2.2.2.2.1, R.ix.2.2.2.2.2.2.2.2.2.2.2.2.2.2.2.2.2.2.2.2.2.2.2.1, R.ix.2.2.2.2.2.2.2.2.2.2.2.2.2.2.2.2.2.2.2.2.2.2.2.2.1, R.ix.2.2.2.2.2.2.2.2.2.2.2.2.2.2.2.2.2.2.2.2.2.2.2.2.2.1, R.ix.2.2.2.2.2.2.2.2.2.2.2.2.2.2.2.2.2.2.2.2.2.2.2.2.2.2.1, R.ix.2.2.2.2.2.2.2.2.2.2.2.2.2.2.2.2.2.2.2.2.2.2.2.2.2.2.2.1, R.ix.2.2.2.2.2.2.2.2.2.2.2.2.2.2.2.2.2.2.2.2.2.2.2.2.2.2.2.2.1, R.ix.2.2.2.2.2.2.2.2.2.2.2.2.2.2.2.2.2.2.2.2.2.2.2.2.2.2.2.2.2.1, R.ix.2.2.2.2.2.2.2.2.2.2.2.2.2.2.2.2.2.2.2.2.2.2.2.2.2.2.2.2.2.2.1, fun i hi => by
                have hi : i < (mN M 58) + 1 := hN ▸ hi
                by_cases e : i = (mN M 58)
                · simp [sI_wK, sI_wI, sI_wN, mA_pS, mA_pA, mT0, e, eC]
                · have q := R.int (f := 10) (k := 0) (m := 59) (q := 58) (by decide) (show i < (mN M 58) by omega)
                  simp [sI_wK, sI_wI, sI_wN, mA_pS, mA_pA, mT0, e, eC]
                  exact q, fun i hi => by
                have hi : i < (mN M 58) + 1 := hN ▸ hi
                by_cases e : i = (mN M 58)
                · simp [sI_wK, sI_wI, sI_wN, mA_pS, mA_pA, mT0, e, eC]
                · have q := R.int (f := 10) (k := 1) (m := 60) (q := 58) (by decide) (show i < (mN M 58) by omega)
                  simp [sI_wK, sI_wI, sI_wN, mA_pS, mA_pA, mT0, e, eC]
                  exact q, fun i hi => by
                have hi : i < (mN M 58) + 1 := hN ▸ hi
                by_cases e : i = (mN M 58)
                · simp [sI_wK, sI_wI, sI_wN, mA_pS, mA_pA, mT0, e, eC]
                · have q := R.int (f := 10) (k := 2) (m := 61) (q := 58) (by decide) (show i < (mN M 58) by omega)
                  simp [sI_wK, sI_wI, sI_wN, mA_pS, mA_pA, mT0, e, eC]
                  exact q, fun i hi => by
                have hi : i < (mN M 58) + 1 := hN ▸ hi
                by_cases e : i = (mN M 58)
                · simp [sI_wK, sI_wI, sI_wN, mA_pS, mA_pA, mT0, e, eC]
                · have q := R.int (f := 10) (k := 3) (m := 62) (q := 58) (by decide) (show i < (mN M 58) by omega)
                  simp [sI_wK, sI_wI, sI_wN, mA_pS, mA_pA, mT0, e, eC]
                  exact q, R.ix.2.2.2.2.2.2.2.2.2.2.2.2.2.2.2.2.2.2.2.2.2.2.2.2.2.2.2.2.2.2.2.2.2.2.2.1, R.ix.2.2.2.2.2.2.2.2.2.2.2.2.2.2.2.2.2.2.2.2.2.2.2.2.2.2.2.2.2.2.2.2.2.2.2.2.1, R.ix.2.2.2.2.2.2.2.2.2.2.2.2.2.2.2.2.2.2.2.2.2.2.2.2.2.2.2.2.2.2.2.2.2.2.2.2.2.1, R.ix.2.2.2.2.2.2.2.2.2.2.2.2.2.2.2.2.2.2.2.2.2.2.2.2.2.2.2.2.2.2.2.2.2.2.2.2.2.2⟩) R.la R.sca R.val R.ref R.wat R.flg R.tru R.hld R.lea R.row R.bdr (⟨R.inv.1, R.inv.2.1, R.inv.2.2.1, R.inv.2.2.2.1, R.inv.2.2.2.2.1, R.inv.2.2.2.2.2.1, R.inv.2.2.2.2.2.2.1, R.inv.2.2.2.2.2.2.2.1, R.inv.2.2.2.2.2.2.2.2.1, R.inv.2.2.2.2.2.2.2.2.2.1, fun k hk => by
                have hk : k < (mN M 58) + 1 := hN ▸ hk
                show ((mA (pS (pA (pA (pA (pA (mT0 M) 59 (mN M 58) o) 60 (mN M 58) t) 61 (mN M 58) fr) 62 (mN M 58) to) 58 (mS M 58 + 1)) 59 k).toNatClampNeg) < mN M 52 ∧ ((mA (pS (pA (pA (pA (pA (mT0 M) 59 (mN M 58) o) 60 (mN M 58) t) 61 (mN M 58) fr) 62 (mN M 58) to) 58 (mS M 58 + 1)) 60 k).toNatClampNeg) < mN M 52
                by_cases e : k = (mN M 58)
                · simp [sI_wK, sI_wI, sI_wN, mA_pS, mA_pA, mT0, e, mA_pS, mA_pA]
                  exact ⟨hOne2, hOther2⟩
                · have q := R.inv.2.2.2.2.2.2.2.2.2.2.1 k (by omega)
                  simp [sI_wK, sI_wI, sI_wN, mA_pS, mA_pA, mT0, e, mA_pS, mA_pA]
                  exact q, R.inv.2.2.2.2.2.2.2.2.2.2.2⟩), hr0⟩ (by repeat (first | exact cFm.rf | refine cFm.tr ?_ (cFm.xI ⟨by decide, by decide, by decide⟩) | refine cFm.tr ?_ (cFm.xL ⟨by decide, by decide, by decide⟩) | refine cFm.tr ?_ (cFm.xR ⟨by decide, by decide, by decide⟩) | refine cFm.tr ?_ (cFm.xN ⟨by decide, by decide, by decide⟩) | refine cFm.tr ?_ cFm.xK)) (by omega) (by have e10 : (oCl 10).2.2 = 4 := rfl; omega)
          · refine ax_iret dX11_swap_57 rfl rfl ?_
            exact cfin (M' := (mT0 M)) h ((if_neg (fun z => z ⟨(by rw [R.sca.2.2.2.2.2.2.2] at c_5; exact c_5), (by rw [R.sca.2.2.2.2.2.2.2] at c_16; exact c_16), c_24, ⟨c_30.1, Int32.le_trans c_30.2.1 c_30.2.2⟩, c_30.2⟩)).trans (if_pos ((mS_nI R.mI (k := 58) (b := 20) (by decide)).trans (by rw [hfull]; rfl)))) ⟨cR.mk' (R.mI.t0) (R.tow.cg (fun _ => rfl) (fun _ => rfl) rfl rfl rfl (fun q hq => by simp only [sC_wK, sC_wI, sC_wL, sC_wR, sC_wN]; repeat rw [if_neg (by omega)])) R.lst R.cx R.cnt.2.1 (⟨Nat.le_succ_of_le R.cnt.2.2.1, fun hh => absurd (show (mN M 58) < 20 from hh) (by omega)⟩) R.src R.rul R.ala R.ltr R.brd (⟨R.ix.1, R.ix.2.1, R.ix.2.2.1, R.ix.2.2.2.1, R.ix.2.2.2.2.1, R.ix.2.2.2.2.2.1, R.ix.2.2.2.2.2.2.1, R.ix.2.2.2.2.2.2.2.1, R.ix.2.2.2.2.2.2.2.2.1, R.ix.2.2.2.2.2.2.2.2.2.1, R.ix.2.2.2.2.2.2.2.2.2.2.1, R.ix.2.2.2.2.2.2.2.2.2.2.2.1, R.ix.2.2.2.2.2.2.2.2.2.2.2.2.1, R.ix.2.2.2.2.2.2.2.2.2.2.2.2.2.1, R.ix.2.2.2.2.2.2.2.2.2.2.2.2.2.2.1, R.ix.2.2.2.2.2.2.2.2.2.2.2.2.2.2.2.1, R.ix.2.2.2.2.2.2.2.2.2.2.2.2.2.2.2.2.1, R.ix.2.2.2.2.2.2.2.2.2.2.2.2.2.2.2.2.2.1, R.ix.2.2.2.2.2.2.2.2.2.2.2.2.2.2.2.2.2.2.1, R.ix.2.2.2.2.2.2.2.2.2.2.2.2.2.2.2.2.2.2.2.1, R.ix.2.2.2.2.2.2.2.2.2.2.2.2.2.2.2.2.2.2.2.2.1, R.ix.2.2.2.2.2.2.2.2.2.2.2.2.2.2.2.2.2.2.2.2.2.1, R.ix.2.2.2.2.2.2.2.2.2.2.2.2.2.2.2.2.2.2.2.2.2.2.1, R.ix.2.2.2.2.2.2.2.2.2.2.2.2.2.2.2.2.2.2.2.2.2.2.2.1, R.ix.2.2.2.2.2.2.2.2.2.2.2.2.2.2.2.2.2.2.2.2.2.2.2.2.1, R.ix.2.2.2.2.2.2.2.2.2.2.2.2.2.2.2.2.2.2.2.2.2.2.2.2.2.1, R.ix.2.2.2.2.2.2.2.2.2.2.2.2.2.2.2.2.2.2.2.2.2.2.2.2.2.2.1, R.ix.2.2.2.2.2.2.2.2.2.2.2.2.2.2.2.2.2.2.2.2.2.2.2.2.2.2.2.1, R.ix.2.2.2.2.2.2.2.2.2.2.2.2.2.2.2.2.2.2.2.2.2.2.2.2.2.2.2.2.1, R.ix.2.2.2.2.2.2.2.2.2.2.2.2.2.2.2.2.2.2.2.2.2.2.2.2.2.2.2.2.2.1, R.ix.2.2.2.2.2.2.2.2.2.2.2.2.2.2.2.2.2.2.2.2.2.2.2.2.2.2.2.2.2.2.1, fun i hi => by
                have q := R.int (f := 10) (k := 0) (m := 59) (q := 58) (by decide) hi
                have hi : i < (mN M 58) := hi
                have e : ¬ i = sC S 10 := by have := R.cnt.2.2.1; omega
                simp [sI_wK, sI_wI, sI_wN, mA_pS, mA_pA, mT0, e]
                exact q, fun i hi => by
                have q := R.int (f := 10) (k := 1) (m := 60) (q := 58) (by decide) hi
                have hi : i < (mN M 58) := hi
                have e : ¬ i = sC S 10 := by have := R.cnt.2.2.1; omega
                simp [sI_wK, sI_wI, sI_wN, mA_pS, mA_pA, mT0, e]
                exact q, fun i hi => by
                have q := R.int (f := 10) (k := 2) (m := 61) (q := 58) (by decide) hi
                have hi : i < (mN M 58) := hi
                have e : ¬ i = sC S 10 := by have := R.cnt.2.2.1; omega
                simp [sI_wK, sI_wI, sI_wN, mA_pS, mA_pA, mT0, e]
                exact q, fun i hi => by
                have q := R.int (f := 10) (k := 3) (m := 62) (q := 58) (by decide) hi
                have hi : i < (mN M 58) := hi
                have e : ¬ i = sC S 10 := by have := R.cnt.2.2.1; omega
                simp [sI_wK, sI_wI, sI_wN, mA_pS, mA_pA, mT0, e]
                exact q, R.ix.2.2.2.2.2.2.2.2.2.2.2.2.2.2.2.2.2.2.2.2.2.2.2.2.2.2.2.2.2.2.2.2.2.2.2.1, R.ix.2.2.2.2.2.2.2.2.2.2.2.2.2.2.2.2.2.2.2.2.2.2.2.2.2.2.2.2.2.2.2.2.2.2.2.2.1, R.ix.2.2.2.2.2.2.2.2.2.2.2.2.2.2.2.2.2.2.2.2.2.2.2.2.2.2.2.2.2.2.2.2.2.2.2.2.2.1, R.ix.2.2.2.2.2.2.2.2.2.2.2.2.2.2.2.2.2.2.2.2.2.2.2.2.2.2.2.2.2.2.2.2.2.2.2.2.2.2⟩) R.la R.sca R.val R.ref R.wat R.flg R.tru R.hld R.lea R.row R.bdr R.inv, hr0⟩ (by repeat (first | exact cFm.rf | refine cFm.tr ?_ (cFm.xI ⟨by decide, by decide, by decide⟩) | refine cFm.tr ?_ (cFm.xL ⟨by decide, by decide, by decide⟩) | refine cFm.tr ?_ (cFm.xR ⟨by decide, by decide, by decide⟩) | refine cFm.tr ?_ (cFm.xN ⟨by decide, by decide, by decide⟩) | refine cFm.tr ?_ cFm.xK)) (by omega) (by have e10 : (oCl 10).2.2 = 4 := rfl; omega)
        · refine ax_if_ne (tgt := 38) dX11_swap_33 (by decide) (fun z => absurd z (by decide)) (fun _ => ?_)
          refine ax_iconst (v := -1) dX11_swap_36 (by decide) ?_
          refine ax_iret dX11_swap_37 rfl rfl ?_
          exact cfin h (if_pos (fun g => c_30 ⟨g.2.2.2.1.1, g.2.2.2.2.1, g.2.2.2.2.2⟩)) (cRR.t0 ⟨R, hr0⟩) cFm.rf (by decide) (by decide)
    · refine ax_if_eq (tgt := 36) dX11_swap_19 (by decide) (fun _ => ?_) (fun z => absurd (by decide) z)
      refine ax_iconst (v := -1) dX11_swap_36 (by decide) ?_
      refine ax_iret dX11_swap_37 rfl rfl ?_
      exact cfin h (if_pos (fun g => c_16 (by rw [R.sca.2.2.2.2.2.2.2]; exact g.2.1))) (cRR.t0 ⟨R, hr0⟩) cFm.rf (by decide) (by decide)
  · refine ax_if_eq (tgt := 36) dX11_swap_8 (by decide) (fun _ => ?_) (fun z => absurd (by decide) z)
    refine ax_iconst (v := -1) dX11_swap_36 (by decide) ?_
    refine ax_iret dX11_swap_37 rfl rfl ?_
    exact cfin h (if_pos (fun g => c_5 (by rw [R.sca.2.2.2.2.2.2.2]; exact g.1))) (cRR.t0 ⟨R, hr0⟩) cFm.rf (by decide) (by decide)
