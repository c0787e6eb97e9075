set_option maxHeartbeats 1000000 in
theorem cFm.ru {S : awS} {n : Nat} {num what : Int32} {a : Int64} {b_ how site : Int32} : cFm S (rS2 S n num what a b_ how site) := by
  intro f hf
  unfold fmOk at hf
  have e : ¬ f = 6 ∧ ¬ f = 11 ∧ ¬ f = 18 ∧ ¬ f = 19 ∧ ¬ f = 20 ∧ ¬ f = 21 ∧ ¬ f = 22 := by omega
  simp [rS2, ruS, ruB, sI, sL, sR, sN, sC, wK, wI, wL, wR, wNew, u3, e]
theorem mRule_y {M : aM} {what how site b_ : Int32} {a : Int64} (hI : mI M) (hn : (mN M 6) < 16) (hg : ruleGood M what a b_ how site) : mRule M what a b_ how site = ((pS (pA (pA (pA (pA (pA (pA (pL (pA (pA (mT0 M) 7 (mN M 6) (what - what / 100 * 100)) 8 (mN M 6) (what / 100)) 9 (mN M 6) a) 10 (mN M 6) b_) 11 (mN M 6) (how - how / 100 * 100)) 12 (mN M 6) (how / 100 - how / 100 / 100 * 100)) 13 (mN M 6) (how / 10000)) 14 (mN M 6) site) 15 (mN M 6) (mS M 1 + 1)) 6 (mS M 6 + 1)), nI (mN M 6)) := by
  have eM : mS M 6 = nI (mN M 6) := mS_nI hI (k := 6) (b := 16) (by decide)
  unfold mRule
  rw [if_neg (fun z => z hg), if_neg (show ¬ mS M 6 = 16 from fun z => absurd (eM.symm.trans z) (fun w => absurd ((nI_eq (b := 16) (by omega) (by decide)).mp w) (by omega)))]
  refine Prod.ext rfl ?_
  show mS M 6 + 1 - 1 = nI (mN M 6)
  rw [eM, nI_1]
  exact nI_pred _

set_option maxHeartbeats 400000 in
set_option maxRecDepth 100000 in
theorem c_rule {E : awE} {S : awS} {M : aM} {Q : Option Value → awS → Nat → Nat → Prop} (R0 : cRR S M) {what how site b_ : Int32} {a : Int64} (h : cPost S (mRule M what a b_ how site) Q) : awT true E m_X11_rule [.ref (nm 12 0), .int what, .long a, .int b_, .int how, .int site] S Q := by
  refine awT.of (by decide) (by decide) (Nat.le_of_ble_eq_true rfl) ?_
  obtain ⟨R, hr0⟩ := R0
  refine ax_iload_n (i := 1) dX11_rule_0 rfl rfl ?_
  refine ax_if_lt (tgt := 20) dX11_rule_1 (by decide) (fun c_1 => ?_) (fun c_1 => ?_)
  · refine ax_iconst (v := -1) dX11_rule_20 (by decide) ?_
    refine ax_iret dX11_rule_21 rfl rfl ?_
    exact cfin h (if_pos (fun g => absurd c_1 (Int32.not_lt.mpr g.1))) (cRR.t0 ⟨R, hr0⟩) cFm.rf (by decide) (by decide)
  · refine ax_iload dX11_rule_4 rfl ?_
    refine ax_if_lt (tgt := 20) dX11_rule_6 (by decide) (fun c_6 => ?_) (fun c_6 => ?_)
    · refine ax_iconst (v := -1) dX11_rule_20 (by decide) ?_
      refine ax_iret dX11_rule_21 rfl rfl ?_
      exact cfin h (if_pos (fun g => neg_div c_6 g.2.2.2.2.2.1.1)) (cRR.t0 ⟨R, hr0⟩) cFm.rf (by decide) (by decide)
    · refine ax_iload dX11_rule_9 rfl ?_
      refine ax_iconst (v := -1) dX11_rule_11 (by decide) ?_
      refine ax_bipush (v := 9) dX11_rule_12 (by decide) ?_
      refine ax_invS (n := 3) (As := [_, _, _]) dX11_rule_14 cb_X11_isWithin cs_X11_71.1 cs_X11_71.2 rfl ⟨Nat.le_of_ble_eq_true rfl, Nat.le_of_ble_eq_true rfl⟩ (Nat.le_of_ble_eq_true rfl) rfl (c_isWithin (fun c_14 => ?_) (fun c_14 => ?_))
      · refine ax_if_ne (tgt := 22) dX11_rule_17 (by decide) (fun _ => ?_) (fun z => absurd (by decide) z)
        refine ax_aload_n (i := 0) dX11_rule_22 rfl rfl rfl ?_
        refine ax_iload_n (i := 1) dX11_rule_23 rfl rfl ?_
        refine ax_bipush (v := 100) dX11_rule_24 (by decide) ?_
        refine ax_irem dX11_rule_26 (by decide) ?_
        refine ax_iload_n (i := 1) dX11_rule_27 rfl rfl ?_
        refine ax_bipush (v := 100) dX11_rule_28 (by decide) ?_
        refine ax_idiv dX11_rule_30 (by decide) ?_
        refine ax_lload_n (i := 2) dX11_rule_31 rfl rfl ?_
        refine ax_iload dX11_rule_32 rfl ?_
        refine ax_invV (c := 12) (n := 4) (As := [_, _, _, _]) dX11_rule_34 cb_X11_isLook cv_X11_88.1 cv_X11_88.2.1 cv_X11_88.2.2 rfl (by decide) rfl ⟨Nat.le_of_ble_eq_true rfl, Nat.le_of_ble_eq_true rfl⟩ (Nat.le_of_ble_eq_true rfl) rfl (c_isLook R (fun c_34 => ?_) (fun c_34 => ?_))
        · refine ax_if_eq (tgt := 48) dX11_rule_37 (by decide) (fun z => absurd z (by decide)) (fun _ => ?_)
          refine ax_iload dX11_rule_40 rfl ?_
          refine ax_invS (n := 1) (As := [_]) dX11_rule_42 cb_X11_isManner cs_X11_92.1 cs_X11_92.2 rfl ⟨Nat.le_of_ble_eq_true rfl, Nat.le_of_ble_eq_true rfl⟩ (Nat.le_of_ble_eq_true rfl) rfl (c_isManner (fun c_42 => ?_) (fun c_42 => ?_))
          · refine ax_if_ne (tgt := 50) dX11_rule_45 (by decide) (fun _ => ?_) (fun z => absurd (by decide) z)
            have hgd : ruleGood M what a b_ how site := ⟨Int32.not_lt.mp c_1, c_34.1, c_34.2.1, c_42.1, c_42.2.1, c_42.2.2, c_14, c_34.2.2.1, c_34.2.2.2.1, c_34.2.2.2.2⟩
            have hb : (mN M 6) ≤ 16 := R.nR
            refine ax_aload_n (i := 0) dX11_rule_50 rfl rfl rfl ?_
            refine ax_getR dX11_rule_51 fl_X11_16 rfl rfl rfl (R.tow.1 1 (by decide)) ?_
            refine ax_invV (c := 0) (n := 0) (As := []) dX11_rule_54 cb_Jx4a65c_size_8abf5 cv_X11_75.1 cv_X11_75.2.1 cv_X11_75.2.2 rfl (by decide) rfl ⟨Nat.le_of_ble_eq_true rfl, Nat.le_of_ble_eq_true rfl⟩ (Nat.le_of_ble_eq_true rfl) rfl (t_lsSize (q := 1) (by decide) (R.lq (by decide)) (R.lst.2.1) (Nat.lt_of_le_of_lt (mS_b R.mI (k := 6) (b := 16) (by decide)) (by decide)) ?_)
            refine ax_bipush (v := 16) dX11_rule_57 (by decide) ?_
            refine ax_icmp_lt (tgt := 65) dX11_rule_59 (by decide) (fun c_59 => ?_) (fun c_59 => ?_)
            · have hlt : (mN M 6) < 16 := nI_slt (b := 16) c_59 (by omega)
              refine ax_new (f := 6) dX11_rule_65 nw_X11_96 rfl rfl ?_
              rw [show sC S 6 = (mN M 6) from (R.cx.2.2.2.1).trans (Nat.one_mul _)]
              refine ax_dup dX11_rule_68 rfl ?_
              refine ax_aload_n (i := 0) dX11_rule_69 rfl rfl rfl ?_
              refine ax_getR dX11_rule_70 fl_X11_16 rfl rfl rfl (R.tow.1 1 (by decide)) ?_
              refine ax_invV (c := 0) (n := 0) (As := []) dX11_rule_73 cb_Jx4a65c_size_8abf5 cv_X11_75.1 cv_X11_75.2.1 cv_X11_75.2.2 rfl (by decide) rfl ⟨Nat.le_of_ble_eq_true rfl, Nat.le_of_ble_eq_true rfl⟩ (Nat.le_of_ble_eq_true rfl) rfl (t_lsSize (q := 1) (by decide) (R.lq (by decide)) (R.lst.2.1) (Nat.lt_of_le_of_lt (mS_b R.mI (k := 6) (b := 16) (by decide)) (by decide)) ?_)
              refine ax_iload_n (i := 1) dX11_rule_76 rfl rfl ?_
              refine ax_lload_n (i := 2) dX11_rule_77 rfl rfl ?_
              refine ax_iload dX11_rule_78 rfl ?_
              refine ax_iload dX11_rule_80 rfl ?_
              refine ax_iload dX11_rule_82 rfl ?_
              refine ax_invI (n := 6) (As := [_, _, _, _, _, _]) dX11_rule_84 cb_X5_init ci_X11_98.1 ci_X11_98.2 rfl rfl rfl ⟨Nat.le_of_ble_eq_true rfl, Nat.le_of_ble_eq_true rfl⟩ (Nat.le_of_ble_eq_true rfl) rfl (c_iRul (n := (mN M 6)) (show sC (wNew S 6 0) 18 = (mN M 6) from (R.cx.2.2.2.2.1).trans (Nat.one_mul _)) (show sC (wNew S 6 0) 19 = (mN M 6) from (R.cx.2.2.2.2.2.1).trans (Nat.one_mul _)) (show sC (wNew S 6 0) 20 = (mN M 6) from (R.cx.2.2.2.2.2.2.1).trans (Nat.one_mul _)) (show sC (wNew S 6 0) 21 = (mN M 6) from (R.cx.2.2.2.2.2.2.2.1).trans (Nat.one_mul _)) (show sC (wNew S 6 0) 11 = 16 * (mN M 6) from R.cx.2.2.2.2.2.2.2.2.1) (show sC (wNew S 6 0) 22 = 16 * (mN M 6) from R.cx.2.2.2.2.2.2.2.2.2.1) ?_)
              refine ax_astore (lv' := [(7, _), (0, _), (1, _), (2, _), (4, _), (5, _), (6, _)]) dX11_rule_87 (by decide) rfl rfl ?_
              refine ax_aload_n (i := 0) dX11_rule_89 rfl rfl rfl ?_
              refine ax_getR dX11_rule_90 fl_X11_16 rfl rfl rfl (R.tow.1 1 (by decide)) ?_
              refine ax_aload dX11_rule_93 rfl rfl ?_
              refine ax_invV (c := 0) (n := 1) (As := [_]) dX11_rule_95 cb_Jx4a65c_add_9ea2d cv_X11_84.1 cv_X11_84.2.1 cv_X11_84.2.2 rfl (by decide) rfl ⟨Nat.le_of_ble_eq_true rfl, Nat.le_of_ble_eq_true rfl⟩ (Nat.le_of_ble_eq_true rfl) rfl (t_lsAdd (q := 1) (by decide) (R.lq (by decide)) (R.lst.2.1) (Nat.lt_of_le_of_lt (mS_b R.mI (k := 6) (b := 16) (by decide)) (by decide)) (by decide) (by decide) ?_)
              refine ax_pop dX11_rule_98 rfl ?_
              refine ax_aload dX11_rule_99 rfl rfl ?_
              refine ax_getI dX11_rule_101 fl_X11_101 rfl rfl rfl ?_
              refine ax_top (show sI (rS2 S (mN M 6) (nI (mN M 6)) what a b_ how site) 6 (mN M 6) 0 = nI (mN M 6) from ru_n6.1.1) ?_
              refine ax_iret dX11_rule_104 rfl rfl ?_
              exact cfin (M' := (pS (pA (pA (pA (pA (pA (pA (pL (pA (pA (mT0 M) 7 (mN M 6) (what - what / 100 * 100)) 8 (mN M 6) (what / 100)) 9 (mN M 6) a) 10 (mN M 6) b_) 11 (mN M 6) (how - how / 100 * 100)) 12 (mN M 6) (how / 100 - how / 100 / 100 * 100)) 13 (mN M 6) (how / 10000)) 14 (mN M 6) site) 15 (mN M 6) (mS M 1 + 1)) 6 (mS M 6 + 1))) h (mRule_y R.mI hlt hgd) ⟨R.rule (fun _ => rfl) hlt hgd, hr0⟩ cFm.ru (by omega) (by have e6 : (oCl 6).2.2 = 13 := rfl; omega)
            · refine ax_bipush (v := -2) dX11_rule_62 (by decide) ?_
              refine ax_iret dX11_rule_64 rfl rfl ?_
              exact cfin h ((if_neg (fun z => z hgd)).trans (if_pos ((mS_nI R.mI (k := 6) (b := 16) (by decide)).trans (by rw [show (mN M 6) = 16 from Nat.le_antisymm hb (ge_of_c (b := 16) (n := (mN M 6)) rfl (Int32.not_lt.mp c_59) (by decide))]; rfl)))) (cRR.t0 ⟨R, hr0⟩) cFm.rf (by decide) (by decide)
          · refine ax_if_ne (tgt := 50) dX11_rule_45 (by decide) (fun z => absurd z (by decide)) (fun _ => ?_)
            refine ax_iconst (v := -1) dX11_rule_48 (by decide) ?_
            refine ax_iret dX11_rule_49 rfl rfl ?_
            exact cfin h (if_pos (fun g => c_42 ⟨g.2.2.2.1, g.2.2.2.2.1, g.2.2.2.2.2.1⟩)) (cRR.t0 ⟨R, hr0⟩) cFm.rf (by decide) (by decide)
        · refine ax_if_eq (tgt := 48) dX11_rule_37 (by decide) (fun _ => ?_) (fun z => absurd (by decide) z)
          refine ax_iconst (v := -1) dX11_rule_48 (by decide) ?_
          refine ax_iret dX11_rule_49 rfl rfl ?_
          exact cfin h (if_pos (fun g => c_34 ⟨g.2.1, g.2.2.1, g.2.2.2.2.2.2.2.1, g.2.2.2.2.2.2.2.2.1, g.2.2.2.2.2.2.2.2.2⟩)) (cRR.t0 ⟨R, hr0⟩) cFm.rf (by decide) (by decide)
      · refine ax_if_ne (tgt := 22) dX11_rule_17 (by decide) (fun z => absurd z (by decide)) (fun _ => ?_)
        refine ax_iconst (v := -1) dX11_rule_20 (by decide) ?_
        refine ax_iret dX11_rule_21 rfl rfl ?_
        exact cfin h (if_pos (fun g => c_14 g.2.2.2.2.2.2.1)) (cRR.t0 ⟨R, hr0⟩) cFm.rf (by decide) (by decide)
