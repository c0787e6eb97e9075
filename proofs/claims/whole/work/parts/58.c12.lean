theorem cTow.cg {S S2 : awS} (h : cTow S) (h1 : ∀ q, sR S2 12 0 q = sR S 12 0 q) (h2 : ∀ q, sR S2 5 0 q = sR S 5 0 q) (h3 : sN S2 26 0 = sN S 26 0) (h4 : sN S2 27 0 = sN S 27 0) (h5 : sN S2 28 0 = sN S 28 0) (h6 : ∀ q, q < 9 → sC S2 (32 + q) = sC S (32 + q)) : cTow S2 := by
  obtain ⟨a1, a2, a3, a4, a5, a6, a7, a8, a9, a10, a11⟩ := h
  exact ⟨fun q hq => (h1 q).trans (a1 q hq), (h1 7).trans a2, (h1 8).trans a3, h3.trans a4, (h2 1).trans a5, (h2 2).trans a6, (h2 3).trans a7, (h2 4).trans a8, h4.trans a9, h5.trans a10, fun q hq => (h6 q hq.1).trans (a11 q hq)⟩
theorem sil_r {r : Int32} {n : Nat} (hn : n ≤ 100) : (-1 ≤ r ∧ r ≤ nI n - 1) ↔ (r = -1 ∨ (0 ≤ r ∧ r < nI n)) := by
  have e1 : (nI n - 1).toInt = (n : Int) - 1 := pk_sub_toInt (b := 1) (by omega) (by decide)
  have e2 : (-1 : Int32).toInt = -1 := by decide
  have e3 : (0 : Int32).toInt = 0 := by decide
  rw [Int32.le_iff_toInt_le, Int32.le_iff_toInt_le, Int32.le_iff_toInt_le, Int32.lt_iff_toInt_lt, e1, e2, e3, nI_toInt (by omega)]
  constructor
  · intro h
    by_cases c : r.toInt = -1
    · exact Or.inl (Int32.toInt_inj.mp (c.trans e2.symm))
    · exact Or.inr (by omega)
  · rintro (h | h)
    · rw [h, e2]; omega
    · omega

set_option maxHeartbeats 400000 in
set_option maxRecDepth 100000 in
theorem c_iSil {E : awE} {S : awS} {Q : Option Value → awS → Nat → Nat → Prop} {k : Nat} {a b_ c d : Int32} (h : Q none (wI (wI (wI (wI S 8 k 0 a) 8 k 1 b_) 8 k 2 c) 8 k 3 d) 0 0) : awT true E m_X7_init [.ref (nm 8 k), .int a, .int b_, .int c, .int d] S Q := by
  refine awT.of (by decide) (by decide) (Nat.le_of_ble_eq_true rfl) ?_
  refine ax_aload_n (i := 0) dX7_init_0 rfl rfl rfl ?_
  refine ax_objInit dX7_init_1 ki_X7_1 ko_1 ko_2 ⟨Nat.le_of_ble_eq_true rfl, Nat.le_of_ble_eq_true rfl⟩ (Nat.le_of_ble_eq_true rfl) ?_
  refine ax_aload_n (i := 0) dX7_init_4 rfl rfl rfl ?_
  refine ax_iload_n (i := 1) dX7_init_5 rfl rfl ?_
  refine ax_putI dX7_init_6 fl_X7_7 rfl rfl rfl (Or.inr ⟨rfl, rfl, rfl⟩) rfl rfl ?_
  refine ax_aload_n (i := 0) dX7_init_9 rfl rfl rfl ?_
  refine ax_iload_n (i := 2) dX7_init_10 rfl rfl ?_
  refine ax_putI dX7_init_11 fl_X7_13 rfl rfl rfl (Or.inr ⟨rfl, rfl, rfl⟩) rfl rfl ?_
  refine ax_aload_n (i := 0) dX7_init_14 rfl rfl rfl ?_
  refine ax_iload_n (i := 3) dX7_init_15 rfl rfl ?_
  refine ax_putI dX7_init_16 fl_X7_16 rfl rfl rfl (Or.inr ⟨rfl, rfl, rfl⟩) rfl rfl ?_
  refine ax_aload_n (i := 0) dX7_init_19 rfl rfl rfl ?_
  refine ax_iload dX7_init_20 rfl ?_
  refine ax_putI dX7_init_22 fl_X7_19 rfl rfl rfl (Or.inr ⟨rfl, rfl, rfl⟩) rfl rfl ?_
  refine ax_vret dX7_init_25 rfl ?_
  exact h
set_option maxHeartbeats 400000 in
set_option maxRecDepth 100000 in
theorem c_iSft {E : awE} {S : awS} {Q : Option Value → awS → Nat → Nat → Prop} {k : Nat} {a b_ c d : Int32} (h : Q none (wI (wI (wI (wI S 7 k 0 a) 7 k 2 b_) 7 k 3 c) 7 k 1 d) 0 0) : awT true E m_X6_init [.ref (nm 7 k), .int a, .int b_, .int c, .int d] S Q := by
  refine awT.of (by decide) (by decide) (Nat.le_of_ble_eq_true rfl) ?_
  refine ax_aload_n (i := 0) dX6_init_0 rfl rfl rfl ?_
  refine ax_objInit dX6_init_1 ki_X6_3 ko_1 ko_2 ⟨Nat.le_of_ble_eq_true rfl, Nat.le_of_ble_eq_true rfl⟩ (Nat.le_of_ble_eq_true rfl) ?_
  refine ax_aload_n (i := 0) dX6_init_4 rfl rfl rfl ?_
  refine ax_iload_n (i := 1) dX6_init_5 rfl rfl ?_
  refine ax_putI dX6_init_6 fl_X6_9 rfl rfl rfl (Or.inr ⟨rfl, rfl, rfl⟩) rfl rfl ?_
  refine ax_aload_n (i := 0) dX6_init_9 rfl rfl rfl ?_
  refine ax_iload_n (i := 2) dX6_init_10 rfl rfl ?_
  refine ax_putI dX6_init_11 fl_X6_15 rfl rfl rfl (Or.inr ⟨rfl, rfl, rfl⟩) rfl rfl ?_
  refine ax_aload_n (i := 0) dX6_init_14 rfl rfl rfl ?_
  refine ax_iload_n (i := 3) dX6_init_15 rfl rfl ?_
  refine ax_putI dX6_init_16 fl_X6_18 rfl rfl rfl (Or.inr ⟨rfl, rfl, rfl⟩) rfl rfl ?_
  refine ax_aload_n (i := 0) dX6_init_19 rfl rfl rfl ?_
  refine ax_iload dX6_init_20 rfl ?_
  refine ax_putI dX6_init_22 fl_X6_21 rfl rfl rfl (Or.inr ⟨rfl, rfl, rfl⟩) rfl rfl ?_
  refine ax_vret dX6_init_25 rfl ?_
  exact h
set_option maxHeartbeats 400000 in
set_option maxRecDepth 100000 in
theorem c_iSwp {E : awE} {S : awS} {Q : Option Value → awS → Nat → Nat → Prop} {k : Nat} {a b_ c d : Int32} (h : Q none (wI (wI (wI (wI S 10 k 0 a) 10 k 1 b_) 10 k 2 c) 10 k 3 d) 0 0) : awT true E m_X9_init [.ref (nm 10 k), .int a, .int b_, .int c, .int d] S Q := by
  refine awT.of (by decide) (by decide) (Nat.le_of_ble_eq_true rfl) ?_
  refine ax_aload_n (i := 0) dX9_init_0 rfl rfl rfl ?_
  refine ax_objInit dX9_init_1 ki_X9_1 ko_1 ko_2 ⟨Nat.le_of_ble_eq_true rfl, Nat.le_of_ble_eq_true rfl⟩ (Nat.le_of_ble_eq_true rfl) ?_
  refine ax_aload_n (i := 0) dX9_init_4 rfl rfl rfl ?_
  refine ax_iload_n (i := 1) dX9_init_5 rfl rfl ?_
  refine ax_putI dX9_init_6 fl_X9_7 rfl rfl rfl (Or.inr ⟨rfl, rfl, rfl⟩) rfl rfl ?_
  refine ax_aload_n (i := 0) dX9_init_9 rfl rfl rfl ?_
  refine ax_iload_n (i := 2) dX9_init_10 rfl rfl ?_
  refine ax_putI dX9_init_11 fl_X9_13 rfl rfl rfl (Or.inr ⟨rfl, rfl, rfl⟩) rfl rfl ?_
  refine ax_aload_n (i := 0) dX9_init_14 rfl rfl rfl ?_
  refine ax_iload_n (i := 3) dX9_init_15 rfl rfl ?_
  refine ax_putI dX9_init_16 fl_X9_16 rfl rfl rfl (Or.inr ⟨rfl, rfl, rfl⟩) rfl rfl ?_
  refine ax_aload_n (i := 0) dX9_init_19 rfl rfl rfl ?_
  refine ax_iload dX9_init_20 rfl ?_
  refine ax_putI dX9_init_22 fl_X9_19 rfl rfl rfl (Or.inr ⟨rfl, rfl, rfl⟩) rfl rfl ?_
  refine ax_vret dX9_init_25 rfl ?_
  exact h
set_option maxHeartbeats 400000 in
set_option maxRecDepth 100000 in
theorem c_silence {E : awE} {S : awS} {M : aM} {Q : Option Value → awS → Nat → Nat → Prop} (R0 : cRR S M) {w r fr to hd : Int32} (h : cPost S (mSilence M w r fr to hd) Q) : awT true E m_X11_silence [.ref (nm 12 0), .int w, .int r, .int fr, .int to, .int hd] S Q := by
  refine awT.of (by decide) (by decide) (Nat.le_of_ble_eq_true rfl) ?_
  obtain ⟨R, hr0⟩ := R0
  refine ax_iload_n (i := 1) dX11_silence_0 rfl rfl ?_
  refine ax_iconst (v := -1) dX11_silence_1 (by decide) ?_
  refine ax_bipush (v := 9) dX11_silence_2 (by decide) ?_
  refine ax_invS (n := 3) (As := [_, _, _]) dX11_silence_4 cb_X11_isWithin cs_X11_71.1 cs_X11_71.2 rfl ⟨Nat.le_of_ble_eq_true rfl, Nat.le_of_ble_eq_true rfl⟩ (Nat.le_of_ble_eq_true rfl) rfl (c_isWithin (fun c_4 => ?_) (fun c_4 => ?_))
  · refine ax_if_eq (tgt := 27) dX11_silence_7 (by decide) (fun z => absurd z (by decide)) (fun _ => ?_)
    refine ax_iload_n (i := 2) dX11_silence_10 rfl rfl ?_
    refine ax_iconst (v := -1) dX11_silence_11 (by decide) ?_
    refine ax_aload_n (i := 0) dX11_silence_12 rfl rfl rfl ?_
    refine ax_getR dX11_silence_13 fl_X11_16 rfl rfl rfl (R.tow.1 1 (by decide)) ?_
    refine ax_invV (c := 0) (n := 0) (As := []) dX11_silence_16 cb_Jx4a65c_size_8abf5 cv_X11_75.1 cv_X11_75.2.1 cv_X11_75.2.2 rfl (by decide) rfl ⟨Nat.le_of_ble_eq_true rfl, Nat.le_of_ble_eq_true rfl⟩ (Nat.le_of_ble_eq_true rfl) rfl (t_lsSize (q := 1) (by decide) (R.lq (by decide)) (R.lst.2.1) (Nat.lt_of_le_of_lt (mS_b R.mI (k := 6) (b := 16) (by decide)) (by decide)) ?_)
    refine ax_iconst (v := 1) dX11_silence_19 (by decide) ?_
    refine ax_isub dX11_silence_20 ?_
    refine ax_invS (n := 3) (As := [_, _, _]) dX11_silence_21 cb_X11_isWithin cs_X11_71.1 cs_X11_71.2 rfl ⟨Nat.le_of_ble_eq_true rfl, Nat.le_of_ble_eq_true rfl⟩ (Nat.le_of_ble_eq_true rfl) rfl (c_isWithin (fun c_21 => ?_) (fun c_21 => ?_))
    · refine ax_if_ne (tgt := 29) dX11_silence_24 (by decide) (fun _ => ?_) (fun z => absurd (by decide) z)
      refine ax_iload_n (i := 3) dX11_silence_29 rfl rfl ?_
      refine ax_iload dX11_silence_30 rfl ?_
      refine ax_invS (n := 2) (As := [_, _]) dX11_silence_32 cb_X11_areTicks cs_X11_122.1 cs_X11_122.2 rfl ⟨Nat.le_of_ble_eq_true rfl, Nat.le_of_ble_eq_true rfl⟩ (Nat.le_of_ble_eq_true rfl) rfl (c_areTicks (fun c_32 => ?_) (fun c_32 => ?_))
      · refine ax_if_eq (tgt := 50) dX11_silence_35 (by decide) (fun z => absurd z (by decide)) (fun _ => ?_)
        refine ax_aload_n (i := 0) dX11_silence_38 rfl rfl rfl ?_
        refine ax_getR dX11_silence_39 fl_X11_40 rfl rfl rfl R.tow.2.1 ?_
        refine ax_iload dX11_silence_42 rfl ?_
        refine ax_invV (c := 5) (n := 1) (As := [_]) dX11_silence_44 cb_X4_hasHand cv_X11_125.1 cv_X11_125.2.1 cv_X11_125.2.2 rfl (by decide) rfl ⟨Nat.le_of_ble_eq_true rfl, Nat.le_of_ble_eq_true rfl⟩ (Nat.le_of_ble_eq_true rfl) rfl (c_hasHand (fun c_44 => ?_) (fun c_44 => ?_))
        · refine ax_if_ne (tgt := 52) dX11_silence_47 (by decide) (fun _ => ?_) (fun z => absurd (by decide) z)
          have hb : (mN M 25) ≤ 20 := mS_b R.mI (by decide)
          have e8 : sC S 8 = (mN M 25) := R.cx.2.2.2.2.2.2.2.2.2.2.1.trans (Nat.one_mul _)
          have hr16 := R.nR
          refine ax_aload_n (i := 0) dX11_silence_52 rfl rfl rfl ?_
          refine ax_getR dX11_silence_53 fl_X11_19 rfl rfl rfl (R.tow.1 2 (by decide)) ?_
          refine ax_invV (c := 0) (n := 0) (As := []) dX11_silence_56 cb_Jx4a65c_size_8abf5 cv_X11_75.1 cv_X11_75.2.1 cv_X11_75.2.2 rfl (by decide) rfl ⟨Nat.le_of_ble_eq_true rfl, Nat.le_of_ble_eq_true rfl⟩ (Nat.le_of_ble_eq_true rfl) rfl (t_lsSize (q := 2) (by decide) (R.lq (by decide)) (R.lst.2.2.1) (Nat.lt_of_le_of_lt (mS_b R.mI (k := 25) (b := 20) (by decide)) (by decide)) ?_)
          refine ax_bipush (v := 20) dX11_silence_59 (by decide) ?_
          refine ax_icmp_lt (tgt := 67) dX11_silence_61 (by decide) (fun c_61 => ?_) (fun c_61 => ?_)
          · have hs20 : (mN M 25) < 20 := nI_slt c_61 (by omega)
            refine ax_aload_n (i := 0) dX11_silence_67 rfl rfl rfl ?_
            refine ax_getR dX11_silence_68 fl_X11_19 rfl rfl rfl (R.tow.1 2 (by decide)) ?_
            refine ax_new (f := 8) dX11_silence_71 nw_X11_128 rfl rfl ?_
            rw [e8]
            refine ax_dup dX11_silence_74 rfl ?_
            refine ax_iload_n (i := 1) dX11_silence_75 rfl rfl ?_
            refine ax_iload_n (i := 2) dX11_silence_76 rfl rfl ?_
            refine ax_iload_n (i := 3) dX11_silence_77 rfl rfl ?_
            refine ax_iload dX11_silence_78 rfl ?_
            refine ax_invI (n := 4) (As := [_, _, _, _]) dX11_silence_80 cb_X7_init ci_X11_130.1 ci_X11_130.2 rfl rfl rfl ⟨Nat.le_of_ble_eq_true rfl, Nat.le_of_ble_eq_true rfl⟩ (Nat.le_of_ble_eq_true rfl) rfl (c_iSil ?_)
            refine ax_invV (c := 0) (n := 1) (As := [_]) dX11_silence_83 cb_Jx4a65c_add_9ea2d cv_X11_84.1 cv_X11_84.2.1 cv_X11_84.2.2 rfl (by decide) rfl ⟨Nat.le_of_ble_eq_true rfl, Nat.le_of_ble_eq_true rfl⟩ (Nat.le_of_ble_eq_true rfl) rfl (t_lsAdd (q := 2) (by decide) (R.lq (by decide)) (R.lst.2.2.1) (Nat.lt_of_le_of_lt (mS_b R.mI (k := 25) (b := 20) (by decide)) (by decide)) (by decide) (by decide) ?_)
            refine ax_pop dX11_silence_86 rfl ?_
            refine ax_aload_n (i := 0) dX11_silence_87 rfl rfl rfl ?_
            refine ax_getR dX11_silence_88 fl_X11_19 rfl rfl rfl (R.tow.1 2 (by decide)) ?_
            refine ax_invV (c := 0) (n := 0) (As := []) dX11_silence_91 cb_Jx4a65c_size_8abf5 cv_X11_75.1 cv_X11_75.2.1 cv_X11_75.2.2 rfl (by decide) rfl ⟨Nat.le_of_ble_eq_true rfl, Nat.le_of_ble_eq_true rfl⟩ (Nat.le_of_ble_eq_true rfl) rfl (t_lsSize (q := 2) (by decide) (R.lq (by decide)) (n := (mN M 25) + 1) (el := elU (nm 8) (mN M 25) (nm 8 (mN M 25))) rfl (by omega) ?_)
            refine ax_iconst (v := 1) dX11_silence_94 (by decide) ?_
            refine ax_isub dX11_silence_95 ?_
            refine ax_iret dX11_silence_96 rfl rfl ?_
            have hN : mN (pS (pA (pA (pA (pA (mT0 M) 26 (mN M 25) w) 27 (mN M 25) r) 28 (mN M 25) fr) 29 (mN M 25) to) 25 (mS M 25 + 1)) 25 = (mN M 25) + 1 := mN_inc (mS_nI R.mI (k := 25) (b := 20) (by decide)) (by omega)
            exact cfin (M' := (pS (pA (pA (pA (pA (mT0 M) 26 (mN M 25) w) 27 (mN M 25) r) 28 (mN M 25) fr) 29 (mN M 25) to) 25 (mS M 25 + 1))) h ((if_neg (fun z => z (show ((-1 ≤ w ∧ w ≤ 9) ∧ (r = -1 ∨ okRule M r) ∧ (1 ≤ fr ∧ fr ≤ 1000) ∧ (fr ≤ to ∧ to ≤ 1000) ∧ okHand M hd) from ⟨c_4, ((sil_r (by have := R.nR; omega)).mp c_21).elim Or.inl (fun z => Or.inr ⟨z.1, by rw [(mS_nI R.mI (k := 6) (b := 16) (by decide))]; exact z.2⟩), ⟨c_32.1, Int32.le_trans c_32.2.1 c_32.2.2⟩, ⟨c_32.2.1, c_32.2.2⟩, (by rw [R.sca.2.2.2.2.2.2.2] at c_44; exact c_44)⟩))).trans ((if_neg (fun z => absurd ((mS_nI R.mI (k := 25) (b := 20) (by decide)).symm.trans z) (fun w => absurd ((nI_eq (b := 20) (by omega) (by decide)).mp w) (by omega)))).trans (by rw [show mS M 25 + 1 - 1 = nI ((mN M 25) + 1) - 1 from by rw [(mS_nI R.mI (k := 25) (b := 20) (by decide)), nI_1]]))) ⟨cR.mk' (((((R.mI.t0.qF (by decide)).qF (by decide)).qF (by decide)).qF (by decide)).inc (b := 20) (by decide) (mS_nI R.mI (k := 25) (b := 20) (by decide)) hs20 (by decide)) (R.tow.cg (fun _ => rfl) (fun _ => rfl) rfl rfl rfl (fun q hq => by simp only [sC_wK, sC_wI, sC_wL, sC_wR, sC_wN]; repeat rw [if_neg (by omega)])) (⟨R.lst.1, R.lst.2.1, by show (((mN M 25) + 1, elU (nm 8) (mN M 25) (nm 8 (mN M 25))) : Nat × (Nat → Nat)) = _; rw [hN, elU_nm], R.lst.2.2.2⟩) (⟨R.cx.1, R.cx.2.1, R.cx.2.2.1, R.cx.2.2.2.1, R.cx.2.2.2.2.1, R.cx.2.2.2.2.2.1, R.cx.2.2.2.2.2.2.1, R.cx.2.2.2.2.2.2.2.1, R.cx.2.2.2.2.2.2.2.2.1, R.cx.2.2.2.2.2.2.2.2.2.1, by show sC S 8 + 1 = 1 * mN (pS (pA (pA (pA (pA (mT0 M) 26 (mN M 25) w) 27 (mN M 25) r) 28 (mN M 25) fr) 29 (mN M 25) to) 25 (mS M 25 + 1)) 25; rw [hN, e8]; omega, R.cx.2.2.2.2.2.2.2.2.2.2.2.1, R.cx.2.2.2.2.2.2.2.2.2.2.2.2.1, R.cx.2.2.2.2.2.2.2.2.2.2.2.2.2.1, R.cx.2.2.2.2.2.2.2.2.2.2.2.2.2.2.1, R.cx.2.2.2.2.2.2.2.2.2.2.2.2.2.2.2⟩) R.cnt.2.1 R.cnt.2.2 R.src R.rul R.ala R.ltr R.brd (⟨R.ix.1, R.ix.2.1, R.ix.2.2.1, R.ix.2.2.2.1, R.ix.2.2.2.2.1, R.ix.2.2.2.2.2.1, R.ix.2.2.2.2.2.2.1, R.ix.2.2.2.2.2.2.2.1, R.ix.2.2.2.2.2.2.2.2.1, R.ix.2.2.2.2.2.2.2.2.2.1, R.ix.2.2.2.2.2.2.2.2.2.2.1, R.ix.2.2.2.2.2.2.2.2.2.2.2.1, R.ix.2.2.2.2.2.2.2.2.2.2.2.2.1, R.ix.2.2.2.2.2.2.2.2.2.2.2.2.2.1, R.ix.2.2.2.2.2.2.2.2.2.2.2.2.2.2.1, R.ix.2.2.2.2.2.2.2.2.2.2.2.2.2.2.2.1, R.ix.2.2.2.2.2.2.2.2.2.2.2.2.2.2.2.2.1, R.ix.2.2.2.2.2.2.2.2.2.2.2.2.2.2.2.2.2.1, R.ix.2.2.2.2.2.2.2.2.2.2.2.2.2.2.2.2.2.2.1, R.ix.2.2.2.2.2.2.2.2.2.2.2.2.2.2.2.2.2.2.2.1, R.ix.2.2.2.2.2.2.2.2.2.2.2.2.2.2.2.2.2.2.2.2.1, R.ix.2.2.2.2.2.2.2.2.2.2.2.2.2.2.2.2.2.2.2.2.2.1, R.ix.2.2.2.2.2.2.2.2.2.2.2.2.2.2.2.2.2.2.2.2.2.2.1, R.ix.2.2.2.2.2.2.2.2.2.2.2.2.2.2.2.2.2.2.2.2.2.2.2.1, R.ix.2.2.2.2.2.2.2.2.2.2.2.2.2.2.2.2.2.2.2.2.2.2.2.2.1, R.ix.2.2.2.2.2.2.2.2.2.2.2.2.2.2.2.2.2.2.2.2.2.2.2.2.2.1, fun i hi => by
                have hi : i < (mN M 25) + 1 := hN ▸ hi
                by_cases e : i = (mN M 25)
                · simp [sI_wK, sI_wI, sI_wN, mA_pS, mA_pA, mT0, e, e8]
                · have q := R.int (f := 8) (k := 0) (m := 26) (q := 25) (by decide) (show i < (mN M 25) by omega)
                  simp [sI_wK, sI_wI, sI_wN, mA_pS, mA_pA, mT0, e, e8]
                  exact q, fun i hi => by
                have hi : i < (mN M 25) + 1 := hN ▸ hi
                by_cases e : i = (mN M 25)
                · simp [sI_wK, sI_wI, sI_wN, mA_pS, mA_pA, mT0, e, e8]
                · have q := R.int (f := 8) (k := 1) (m := 27) (q := 25) (by decide) (show i < (mN M 25) by omega)
                  simp [sI_wK, sI_wI, sI_wN, mA_pS, mA_pA, mT0, e, e8]
                  exact q, fun i hi => by
                have hi : i < (mN M 25) + 1 := hN ▸ hi
                by_cases e : i = (mN M 25)
                · simp [sI_wK, sI_wI, sI_wN, mA_pS, mA_pA, mT0, e, e8]
                · have q := R.int (f := 8) (k := 2) (m := 28) (q := 25) (by decide) (show i < (mN M 25) by omega)
                  simp [sI_wK, sI_wI, sI_wN, mA_pS, mA_pA, mT0, e, e8]
                  exact q, fun i hi => by
                have hi : i < (mN M 25) + 1 := hN ▸ hi
                by_cases e : i = (mN M 25)
                · simp [sI_wK, sI_wI, sI_wN, mA_pS, mA_pA, mT0, e, e8]
                · have q := R.int (f := 8) (k := 3) (m := 29) (q := 25) (by decide) (show i < (mN M 25) by omega)
                  simp [sI_wK, sI_wI, sI_wN, mA_pS, mA_pA, mT0, e, e8]
                  exact q, R.ix.2.2.2.2.2.2.2.2.2.2.2.2.2.2.2.2.2.2.2.2.2.2.2.2.2.2.2.2.2.2.1, R.ix.2.2.2.2.2.2.2.2.2.2.2.2.2.2.2.2.2.2.2.2.2.2.2.2.2.2.2.2.2.2.2.1, R.ix.2.2.2.2.2.2.2.2.2.2.2.2.2.2.2.2.2.2.2.2.2.2.2.2.2.2.2.2.2.2.2.2.1, R.ix.2.2.2.2.2.2.2.2.2.2.2.2.2.2.2.2.2.2.2.2.2.2.2.2.2.2.2.2.2.2.2.2.2.1, R.ix.2.2.2.2.2.2.2.2.2.2.2.2.2.2.2.2.2.2.2.2.2.2.2.2.2.2.2.2.2.2.2.2.2.2.1, R.ix.2.2.2.2.2.2.2.2.2.2.2.2.2.2.2.2.2.2.2.2.2.2.2.2.2.2.2.2.2.2.2.2.2.2.2.1, R.ix.2.2.2.2.2.2.2.2.2.2.2.2.2.2.2.2.2.2.2.2.2.2.2.2.2.2.2.2.2.2.2.2.2.2.2.2.1, R.ix.2.2.2.2.2.2.2.2.2.2.2.2.2.2.2.2.2.2.2.2.2.2.2.2.2.2.2.2.2.2.2.2.2.2.2.2.2.1, R.ix.2.2.2.2.2.2.2.2.2.2.2.2.2.2.2.2.2.2.2.2.2.2.2.2.2.2.2.2.2.2.2.2.2.2.2.2.2.2⟩) R.la R.sca R.val R.ref R.wat R.flg R.tru R.hld R.lea R.row R.bdr (⟨R.inv.1, R.inv.2.1, R.inv.2.2.1, R.inv.2.2.2.1, R.inv.2.2.2.2.1, R.inv.2.2.2.2.2.1, R.inv.2.2.2.2.2.2.1, R.inv.2.2.2.2.2.2.2.1, fun k hk => by
                have hk : k < (mN M 25) + 1 := hN ▸ hk
                by_cases e : k = (mN M 25)
                · simp [sI_wK, sI_wI, sI_wN, mA_pS, mA_pA, mT0, mS_pS, mS_pA, e]
                  exact ⟨((show ((-1 ≤ w ∧ w ≤ 9) ∧ (r = -1 ∨ okRule M r) ∧ (1 ≤ fr ∧ fr ≤ 1000) ∧ (fr ≤ to ∧ to ≤ 1000) ∧ okHand M hd) from ⟨c_4, ((sil_r (by have := R.nR; omega)).mp c_21).elim Or.inl (fun z => Or.inr ⟨z.1, by rw [(mS_nI R.mI (k := 6) (b := 16) (by decide))]; exact z.2⟩), ⟨c_32.1, Int32.le_trans c_32.2.1 c_32.2.2⟩, ⟨c_32.2.1, c_32.2.2⟩, (by rw [R.sca.2.2.2.2.2.2.2] at c_44; exact c_44)⟩)).2.1.elim (fun z => by rw [z, (mS_nI R.mI (k := 6) (b := 16) (by decide))]; exact Int32.lt_of_lt_of_le (by decide) (nI_nn (by omega))) (fun z => z.2), ((show ((-1 ≤ w ∧ w ≤ 9) ∧ (r = -1 ∨ okRule M r) ∧ (1 ≤ fr ∧ fr ≤ 1000) ∧ (fr ≤ to ∧ to ≤ 1000) ∧ okHand M hd) from ⟨c_4, ((sil_r (by have := R.nR; omega)).mp c_21).elim Or.inl (fun z => Or.inr ⟨z.1, by rw [(mS_nI R.mI (k := 6) (b := 16) (by decide))]; exact z.2⟩), ⟨c_32.1, Int32.le_trans c_32.2.1 c_32.2.2⟩, ⟨c_32.2.1, c_32.2.2⟩, (by rw [R.sca.2.2.2.2.2.2.2] at c_44; exact c_44)⟩)).1.1, ((show ((-1 ≤ w ∧ w ≤ 9) ∧ (r = -1 ∨ okRule M r) ∧ (1 ≤ fr ∧ fr ≤ 1000) ∧ (fr ≤ to ∧ to ≤ 1000) ∧ okHand M hd) from ⟨c_4, ((sil_r (by have := R.nR; omega)).mp c_21).elim Or.inl (fun z => Or.inr ⟨z.1, by rw [(mS_nI R.mI (k := 6) (b := 16) (by decide))]; exact z.2⟩), ⟨c_32.1, Int32.le_trans c_32.2.1 c_32.2.2⟩, ⟨c_32.2.1, c_32.2.2⟩, (by rw [R.sca.2.2.2.2.2.2.2] at c_44; exact c_44)⟩)).2.1.elim (fun z => by rw [z]; exact Int32.le_refl _) (fun z => Int32.le_trans (by decide) z.1)⟩
                · have q := R.inv.2.2.2.2.2.2.2.2.1 k (by omega)
                  simp [sI_wK, sI_wI, sI_wN, mA_pS, mA_pA, mT0, mS_pS, mS_pA, e]
                  exact q, R.inv.2.2.2.2.2.2.2.2.2⟩), hr0⟩ (by repeat (first | exact cFm.rf | refine cFm.tr ?_ (cFm.xI ⟨by decide, by decide, by decide⟩) | refine cFm.tr ?_ (cFm.xL ⟨by decide, by decide, by decide⟩) | refine cFm.tr ?_ (cFm.xR ⟨by decide, by decide, by decide⟩) | refine cFm.tr ?_ (cFm.xN ⟨by decide, by decide, by decide⟩) | refine cFm.tr ?_ cFm.xK)) (by omega) (by have e8 : (oCl 8).2.2 = 4 := rfl; omega)
          · refine ax_bipush (v := -2) dX11_silence_64 (by decide) ?_
            refine ax_iret dX11_silence_66 rfl rfl ?_
            exact cfin h ((if_neg (fun z => z (show ((-1 ≤ w ∧ w ≤ 9) ∧ (r = -1 ∨ okRule M r) ∧ (1 ≤ fr ∧ fr ≤ 1000) ∧ (fr ≤ to ∧ to ≤ 1000) ∧ okHand M hd) from ⟨c_4, ((sil_r (by have := R.nR; omega)).mp c_21).elim Or.inl (fun z => Or.inr ⟨z.1, by rw [(mS_nI R.mI (k := 6) (b := 16) (by decide))]; exact z.2⟩), ⟨c_32.1, Int32.le_trans c_32.2.1 c_32.2.2⟩, ⟨c_32.2.1, c_32.2.2⟩, (by rw [R.sca.2.2.2.2.2.2.2] at c_44; exact c_44)⟩))).trans (if_pos ((mS_nI R.mI (k := 25) (b := 20) (by decide)).trans (by rw [show (mN M 25) = 20 from Nat.le_antisymm hb (ge_of_c (b := 20) (n := (mN M 25)) rfl (Int32.not_lt.mp c_61) (by decide))]; rfl)))) (cRR.t0 ⟨R, hr0⟩) cFm.rf (by decide) (by decide)
        · refine ax_if_ne (tgt := 52) dX11_silence_47 (by decide) (fun z => absurd z (by decide)) (fun _ => ?_)
          refine ax_iconst (v := -1) dX11_silence_50 (by decide) ?_
          refine ax_iret dX11_silence_51 rfl rfl ?_
          exact cfin h (if_pos (fun g => c_44 (by rw [R.sca.2.2.2.2.2.2.2]; exact g.2.2.2.2))) (cRR.t0 ⟨R, hr0⟩) cFm.rf (by decide) (by decide)
      · refine ax_if_eq (tgt := 50) dX11_silence_35 (by decide) (fun _ => ?_) (fun z => absurd (by decide) z)
        refine ax_iconst (v := -1) dX11_silence_50 (by decide) ?_
        refine ax_iret dX11_silence_51 rfl rfl ?_
        exact cfin h (if_pos (fun g => c_32 ⟨g.2.2.1.1, g.2.2.2.1.1, g.2.2.2.1.2⟩)) (cRR.t0 ⟨R, hr0⟩) cFm.rf (by decide) (by decide)
    · refine ax_if_ne (tgt := 29) dX11_silence_24 (by decide) (fun z => absurd z (by decide)) (fun _ => ?_)
      refine ax_iconst (v := -1) dX11_silence_27 (by decide) ?_
      refine ax_iret dX11_silence_28 rfl rfl ?_
      exact cfin h (if_pos (fun g => c_21 ((sil_r (by have := R.nR; omega)).mpr (g.2.1.elim Or.inl (fun z => Or.inr ⟨z.1, by rw [← (mS_nI R.mI (k := 6) (b := 16) (by decide))]; exact z.2⟩))))) (cRR.t0 ⟨R, hr0⟩) cFm.rf (by decide) (by decide)
  · refine ax_if_eq (tgt := 27) dX11_silence_7 (by decide) (fun _ => ?_) (fun z => absurd (by decide) z)
    refine ax_iconst (v := -1) dX11_silence_27 (by decide) ?_
    refine ax_iret dX11_silence_28 rfl rfl ?_
    exact cfin h (if_pos (fun g => c_4 g.1)) (cRR.t0 ⟨R, hr0⟩) cFm.rf (by decide) (by decide)
