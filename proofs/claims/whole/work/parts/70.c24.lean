set_option maxHeartbeats 1000000 in
theorem cR.answer {τ : Nat → Nat → Nat} {S : awS} {M : aM} (R : cR τ S M) {l : Nat} {hd c1 : Int32} (hl : l < mN M 63) (h1 : ¬ c1 = 0) (h2 : 0 ≤ c1) (h3 : c1 = nI (mN M 1 + 1)) (hh : ¬ hd < 0) : cR τ (wI (wI (wI S 4 l 7 hd) 4 l 8 c1) 3 (mE M 65 l) 3 c1) (pA (pA (pA (mT0 M) 73 l hd) 74 l c1) 50 (mE M 65 l) c1) :=
  cR.mk' (((R.mI.t0.qF (by decide)).qF (by decide)).qF (by decide)) R.tow R.lst R.cx R.cnt.2.1 R.cnt.2.2 R.src R.rul R.ala R.ltr R.brd (⟨R.ix.1, R.ix.2.1, R.ix.2.2.1, R.ix.2.2.2.1, R.ix.2.2.2.2.1, fun i hi => by
    have q := R.int (f := 3) (k := 2) (m := 51) (q := 48) (by decide) hi
    simp [sI_wI, mA_pA, mT0, mA_pS]
    exact q, fun i hi => by
    have q := R.int (f := 3) (k := 3) (m := 50) (q := 48) (by decide) hi
    simp [sI_wI, mA_pA, mT0, mA_pS]
    by_cases e : i = (mE M 65 l)
    · simp [e]
    · simp [e]; exact q, fun i hi => by
    have q := R.int (f := 4) (k := 1) (m := 66) (q := 63) (by decide) hi
    simp [sI_wI, mA_pA, mT0, mA_pS]
    exact q, fun i hi => by
    have q := R.int (f := 4) (k := 2) (m := 64) (q := 63) (by decide) hi
    simp [sI_wI, mA_pA, mT0, mA_pS]
    exact q, fun i hi => by
    have q := R.int (f := 4) (k := 4) (m := 69) (q := 63) (by decide) hi
    simp [sI_wI, mA_pA, mT0, mA_pS]
    exact q, fun i hi => by
    have q := R.int (f := 4) (k := 5) (m := 72) (q := 63) (by decide) hi
    simp [sI_wI, mA_pA, mT0, mA_pS]
    exact q, fun i hi => by
    have q := R.int (f := 4) (k := 6) (m := 67) (q := 63) (by decide) hi
    simp [sI_wI, mA_pA, mT0, mA_pS]
    exact q, fun i hi => by
    have q := R.int (f := 4) (k := 7) (m := 73) (q := 63) (by decide) hi
    simp [sI_wI, mA_pA, mT0, mA_pS]
    by_cases e : i = l
    · simp [e]
    · simp [e]; exact q, fun i hi => by
    have q := R.int (f := 4) (k := 8) (m := 74) (q := 63) (by decide) hi
    simp [sI_wI, mA_pA, mT0, mA_pS]
    by_cases e : i = l
    · simp [e]
    · simp [e]; exact q, fun i hi => by
    have q := R.int (f := 4) (k := 9) (m := 71) (q := 63) (by decide) hi
    simp [sI_wI, mA_pA, mT0, mA_pS]
    exact q, R.ix.2.2.2.2.2.2.2.2.2.2.2.2.2.2.2.1, R.ix.2.2.2.2.2.2.2.2.2.2.2.2.2.2.2.2.1, R.ix.2.2.2.2.2.2.2.2.2.2.2.2.2.2.2.2.2.1, R.ix.2.2.2.2.2.2.2.2.2.2.2.2.2.2.2.2.2.2.1, R.ix.2.2.2.2.2.2.2.2.2.2.2.2.2.2.2.2.2.2.2.1, R.ix.2.2.2.2.2.2.2.2.2.2.2.2.2.2.2.2.2.2.2.2.1, R.ix.2.2.2.2.2.2.2.2.2.2.2.2.2.2.2.2.2.2.2.2.2.1, R.ix.2.2.2.2.2.2.2.2.2.2.2.2.2.2.2.2.2.2.2.2.2.2.1, R.ix.2.2.2.2.2.2.2.2.2.2.2.2.2.2.2.2.2.2.2.2.2.2.2.1, R.ix.2.2.2.2.2.2.2.2.2.2.2.2.2.2.2.2.2.2.2.2.2.2.2.2.1, R.ix.2.2.2.2.2.2.2.2.2.2.2.2.2.2.2.2.2.2.2.2.2.2.2.2.2.1, R.ix.2.2.2.2.2.2.2.2.2.2.2.2.2.2.2.2.2.2.2.2.2.2.2.2.2.2.1, R.ix.2.2.2.2.2.2.2.2.2.2.2.2.2.2.2.2.2.2.2.2.2.2.2.2.2.2.2.1, R.ix.2.2.2.2.2.2.2.2.2.2.2.2.2.2.2.2.2.2.2.2.2.2.2.2.2.2.2.2.1, R.ix.2.2.2.2.2.2.2.2.2.2.2.2.2.2.2.2.2.2.2.2.2.2.2.2.2.2.2.2.2.1, R.ix.2.2.2.2.2.2.2.2.2.2.2.2.2.2.2.2.2.2.2.2.2.2.2.2.2.2.2.2.2.2.1, R.ix.2.2.2.2.2.2.2.2.2.2.2.2.2.2.2.2.2.2.2.2.2.2.2.2.2.2.2.2.2.2.2.1, R.ix.2.2.2.2.2.2.2.2.2.2.2.2.2.2.2.2.2.2.2.2.2.2.2.2.2.2.2.2.2.2.2.2.1, R.ix.2.2.2.2.2.2.2.2.2.2.2.2.2.2.2.2.2.2.2.2.2.2.2.2.2.2.2.2.2.2.2.2.2.1, R.ix.2.2.2.2.2.2.2.2.2.2.2.2.2.2.2.2.2.2.2.2.2.2.2.2.2.2.2.2.2.2.2.2.2.2.1, R.ix.2.2.2.2.2.2.2.2.2.2.2.2.2.2.2.2.2.2.2.2.2.2.2.2.2.2.2.2.2.2.2.2.2.2.2.1, R.ix.2.2.2.2.2.2.2.2.2.2.2.2.2.2.2.2.2.2.2.2.2.2.2.2.2.2.2.2.2.2.2.2.2.2.2.2.1, R.ix.2.2.2.2.2.2.2.2.2.2.2.2.2.2.2.2.2.2.2.2.2.2.2.2.2.2.2.2.2.2.2.2.2.2.2.2.2.1, R.ix.2.2.2.2.2.2.2.2.2.2.2.2.2.2.2.2.2.2.2.2.2.2.2.2.2.2.2.2.2.2.2.2.2.2.2.2.2.2⟩) R.la R.sca R.val R.ref R.wat R.flg R.tru R.hld R.lea R.row R.bdr (⟨R.inv.1, R.inv.2.1, R.inv.2.2.1, R.inv.2.2.2.1, fun g hg => ⟨(R.inv.2.2.2.2.1 g hg).1, by
    have q := (R.inv.2.2.2.2.1 g hg).2
    show mA (pA (pA (pA (mT0 M) 73 l hd) 74 l c1) 50 (mE M 65 l) c1) 50 g ≤ nI (mN M 1 + 1)
    rw [mA_pA]
    by_cases e : 50 = 50 ∧ g = mE M 65 l
    · rw [if_pos e, h3]; exact Int32.le_refl _
    · rw [if_neg e]; exact q⟩, fun k hk => ⟨(R.inv.2.2.2.2.2.1 k hk).1, by
    have q := (R.inv.2.2.2.2.2.1 k hk).2
    show (mA (pA (pA (pA (mT0 M) 73 l hd) 74 l c1) 50 (mE M 65 l) c1) 73 k < 0 ↔ mA (pA (pA (pA (mT0 M) 73 l hd) 74 l c1) 50 (mE M 65 l) c1) 74 k = 0) ∧ 0 ≤ mA (pA (pA (pA (mT0 M) 73 l hd) 74 l c1) 50 (mE M 65 l) c1) 74 k
    by_cases e : k = l
    · simp [mA_pA, e, h1, hh]
      exact h2
    · simp [mA_pA, mT0, mA_pS, e]
      exact q⟩, R.inv.2.2.2.2.2.2.1, R.inv.2.2.2.2.2.2.2.1, R.inv.2.2.2.2.2.2.2.2.1, R.inv.2.2.2.2.2.2.2.2.2.1, R.inv.2.2.2.2.2.2.2.2.2.2.1, R.inv.2.2.2.2.2.2.2.2.2.2.2⟩)

theorem mAnswer_v {M : aM} {l hd c1 : Int32} (g : okLetter M l ∧ okHand M hd) (h1 : mWent M (nN l) hd) (h2 : ¬ 0 ≤ mA M 73 (nN l)) (h3 : mS M 1 + 1 = c1) (h4 : mA M 50 (mE M 65 (nN l)) ≤ c1) : mAnswer M l hd = (pA (pA (pA (mT0 M) 73 (nN l) hd) 74 (nN l) c1) 50 (mE M 65 (nN l)) c1, 0) := by
  have hLast : (if mA M 50 (mE M 65 (nN l)) < c1 then c1 else mA M 50 (mE M 65 (nN l))) = c1 := by
    by_cases z : mA M 50 (mE M 65 (nN l)) < c1
    · exact if_pos z
    · rw [if_neg z]; exact Int32.le_antisymm h4 (Int32.not_lt.mp z)
  unfold mAnswer
  rw [if_neg (fun z => z g), iC_f (fun z => z h1), if_neg h2]
  simp only [h3, hLast]

set_option maxHeartbeats 400000 in
set_option maxRecDepth 100000 in
theorem c_answer {E : awE} {S : awS} {M : aM} {Q : Option Value → awS → Nat → Nat → Prop} (R0 : cRR S M) {l hd : Int32} (h : cPost S (mAnswer M l hd) Q) : awT true E m_X11_answer [.ref (nm 12 0), .int l, .int hd] S Q := by
  refine awT.of (by decide) (by decide) (Nat.le_of_ble_eq_true rfl) ?_
  obtain ⟨R, hr0⟩ := R0
  refine ax_aload_n (i := 0) dX11_answer_0 rfl rfl rfl ?_
  refine ax_iload_n (i := 1) dX11_answer_1 rfl rfl ?_
  refine ax_invV (c := 12) (n := 1) (As := [_]) dX11_answer_2 cb_X11_letterAt cv_X11_410.1 cv_X11_410.2.1 cv_X11_410.2.2 rfl (by decide) rfl ⟨Nat.le_of_ble_eq_true rfl, Nat.le_of_ble_eq_true rfl⟩ (Nat.le_of_ble_eq_true rfl) rfl (c_letterAt R (fun c_2 => ?_) (fun c_2 => ?_))
  · refine ax_astore_n (i := 3) (lv' := [(3, _), (0, _), (1, _), (2, _)]) dX11_answer_5 rfl (by decide) rfl rfl ?_
    refine ax_aload_n (i := 3) dX11_answer_6 rfl rfl rfl ?_
    refine ax_ifnull_f (k0 := 21) dX11_answer_7 (by decide) ?_
    refine ax_aload_n (i := 0) dX11_answer_10 rfl rfl rfl ?_
    refine ax_getR dX11_answer_11 fl_X11_40 rfl rfl rfl R.tow.2.1 ?_
    refine ax_iload_n (i := 2) dX11_answer_14 rfl rfl ?_
    refine ax_invV (c := 5) (n := 1) (As := [_]) dX11_answer_15 cb_X4_hasHand cv_X11_125.1 cv_X11_125.2.1 cv_X11_125.2.2 rfl (by decide) rfl ⟨Nat.le_of_ble_eq_true rfl, Nat.le_of_ble_eq_true rfl⟩ (Nat.le_of_ble_eq_true rfl) rfl (c_hasHand (fun c_15 => ?_) (fun c_15 => ?_))
    · refine ax_if_ne (tgt := 23) dX11_answer_18 (by decide) (fun _ => ?_) (fun z => absurd (by decide) z)
      have e_l := R.lE c_2
      have e_lb := e_l.2
      have hAn := R.inv.2.2.2.2.2.1 _ e_lb
      refine ax_aload_n (i := 3) dX11_answer_23 rfl rfl rfl ?_
      refine ax_iload_n (i := 2) dX11_answer_24 rfl rfl ?_
      refine ax_invV (c := 4) (n := 1) (As := [_]) dX11_answer_25 cb_X3_wentTo cv_X11_439.1 cv_X11_439.2.1 cv_X11_439.2.2 rfl (by decide) rfl ⟨Nat.le_of_ble_eq_true rfl, Nat.le_of_ble_eq_true rfl⟩ (Nat.le_of_ble_eq_true rfl) rfl (c_wentTo R e_lb (fun c_25 => ?_) (fun c_25 => ?_))
      · refine ax_if_ne (tgt := 34) dX11_answer_28 (by decide) (fun _ => ?_) (fun z => absurd (by decide) z)
        refine ax_aload_n (i := 3) dX11_answer_34 rfl rfl rfl ?_
        refine ax_invV (c := 4) (n := 0) (As := []) dX11_answer_35 cb_X3_isAnswered cv_X11_442.1 cv_X11_442.2.1 cv_X11_442.2.2 rfl (by decide) rfl ⟨Nat.le_of_ble_eq_true rfl, Nat.le_of_ble_eq_true rfl⟩ (Nat.le_of_ble_eq_true rfl) rfl (c_isAnswered (fun c_35 => ?_) (fun c_35 => ?_))
        · refine ax_if_eq (tgt := 44) dX11_answer_38 (by decide) (fun z => absurd z (by decide)) (fun _ => ?_)
          refine ax_bipush (v := -3) dX11_answer_41 (by decide) ?_
          refine ax_iret dX11_answer_43 rfl rfl ?_
          exact cfin h ((if_neg (fun z => z ⟨c_2, by rw [R.sca.2.2.2.2.2.2.2] at c_15; exact c_15⟩)).trans ((iC_f (fun z => z c_25)).trans (if_pos (Int32.not_lt.mp (fun z => absurd c_35 (by rw [(R.int (f := 4) (k := 8) (m := 74) (q := 63) (by decide) e_lb), hAn.2.1.mp z]; exact Int32.lt_irrefl)))))) (cRR.t0 ⟨R, hr0⟩) cFm.rf (by decide) (by decide)
        · refine ax_if_eq (tgt := 44) dX11_answer_38 (by decide) (fun _ => ?_) (fun z => absurd (by decide) z)
          refine ax_aload_n (i := 3) dX11_answer_44 rfl rfl rfl ?_
          refine ax_iload_n (i := 2) dX11_answer_45 rfl rfl ?_
          refine ax_putI dX11_answer_46 fl_X11_427 rfl rfl rfl (Or.inl rfl) rfl rfl ?_
          refine ax_aload_n (i := 3) dX11_answer_49 rfl rfl rfl ?_
          refine ax_aload_n (i := 0) dX11_answer_50 rfl rfl rfl ?_
          refine ax_getI dX11_answer_51 fl_X11_67 rfl rfl rfl ?_
          refine ax_iconst (v := 1) dX11_answer_54 (by decide) ?_
          refine ax_iadd dX11_answer_55 ?_
          have hc2 : ¬ nI (mN M 1 + 1) = 0 := fun z => absurd ((nI_eq (b := 0) (by have := R.nC; omega) (by decide)).mp z) (by omega)
          have hc3 : 0 ≤ nI (mN M 1 + 1) := nI_nn (by have := R.nC; omega)
          rw [show sI (wI S 4 (nN l) 7 hd) 12 0 15 + 1 = nI (mN M 1 + 1) from by show sI S 12 0 15 + 1 = _; rw [R.eC]; exact nI_1 _]
          generalize hc1 : nI (mN M 1 + 1) = c1 at hc2 hc3 ⊢
          have hc1 := hc1.symm
          refine ax_putI dX11_answer_56 fl_X11_430 rfl rfl rfl (Or.inl rfl) rfl rfl ?_
          refine ax_aload_n (i := 3) dX11_answer_59 rfl rfl rfl ?_
          refine ax_getR dX11_answer_60 fl_X11_445 rfl rfl rfl (R.ref.2.2 _ e_lb) ?_
          refine ax_aload_n (i := 0) dX11_answer_63 rfl rfl rfl ?_
          refine ax_getI dX11_answer_64 fl_X11_67 rfl rfl rfl ?_
          refine ax_iconst (v := 1) dX11_answer_67 (by decide) ?_
          refine ax_iadd dX11_answer_68 ?_
          rw [show sI (wI (wI S 4 (nN l) 7 hd) 4 (nN l) 8 c1) 12 0 15 + 1 = c1 from by show sI S 12 0 15 + 1 = _; rw [R.eC, hc1]; exact nI_1 _]
          refine ax_putI dX11_answer_69 fl_X11_350 rfl rfl rfl (Or.inl rfl) rfl rfl ?_
          refine ax_iconst (v := 0) dX11_answer_72 (by decide) ?_
          refine ax_iret dX11_answer_73 rfl rfl ?_
          exact cfin (M' := (pA (pA (pA (mT0 M) 73 (nN l) hd) 74 (nN l) c1) 50 (mE M 65 (nN l)) c1)) h (mAnswer_v ⟨c_2, by rw [R.sca.2.2.2.2.2.2.2] at c_15; exact c_15⟩ c_25 (fun z => Int32.not_lt.mpr z (hAn.2.1.mpr (Int32.le_antisymm (Int32.not_lt.mp (by rw [(R.int (f := 4) (k := 8) (m := 74) (q := 63) (by decide) e_lb)] at c_35; exact c_35)) hAn.2.2))) (by rw [(mS_nI R.mI (k := 1) (b := 400) (by decide)), hc1]; exact nI_1 _) (by rw [hc1]; exact (R.inv.2.2.2.2.1 _ hAn.1).2)) ⟨cR.answer R e_lb hc2 hc3 hc1 (Int32.not_lt.mpr c_15.1), hr0⟩ (by repeat (first | exact cFm.rf | refine cFm.tr ?_ (cFm.xI ⟨by decide, by decide, by decide⟩) | refine cFm.tr ?_ (cFm.xL ⟨by decide, by decide, by decide⟩) | refine cFm.tr ?_ (cFm.xR ⟨by decide, by decide, by decide⟩) | refine cFm.tr ?_ (cFm.xN ⟨by decide, by decide, by decide⟩) | refine cFm.tr ?_ cFm.xK)) (by decide) (by decide)
      · refine ax_if_ne (tgt := 34) dX11_answer_28 (by decide) (fun z => absurd z (by decide)) (fun _ => ?_)
        refine ax_bipush (v := -2) dX11_answer_31 (by decide) ?_
        refine ax_iret dX11_answer_33 rfl rfl ?_
        exact cfin h ((if_neg (fun z => z ⟨c_2, by rw [R.sca.2.2.2.2.2.2.2] at c_15; exact c_15⟩)).trans (iC_t c_25)) (cRR.t0 ⟨R, hr0⟩) cFm.rf (by decide) (by decide)
    · refine ax_if_ne (tgt := 23) dX11_answer_18 (by decide) (fun z => absurd z (by decide)) (fun _ => ?_)
      refine ax_iconst (v := -1) dX11_answer_21 (by decide) ?_
      refine ax_iret dX11_answer_22 rfl rfl ?_
      exact cfin h (if_pos (fun g => c_15 (by rw [R.sca.2.2.2.2.2.2.2]; exact g.2))) (cRR.t0 ⟨R, hr0⟩) cFm.rf (by decide) (by decide)
  · refine ax_astore_n (i := 3) (lv' := [(3, _), (0, _), (1, _), (2, _)]) dX11_answer_5 rfl (by decide) rfl rfl ?_
    refine ax_aload_n (i := 3) dX11_answer_6 rfl rfl rfl ?_
    refine ax_ifnull_t (tgt := 21) dX11_answer_7 (by decide) ?_
    refine ax_iconst (v := -1) dX11_answer_21 (by decide) ?_
    refine ax_iret dX11_answer_22 rfl rfl ?_
    exact cfin h (if_pos (fun g => c_2 g.1)) (cRR.t0 ⟨R, hr0⟩) cFm.rf (by decide) (by decide)
