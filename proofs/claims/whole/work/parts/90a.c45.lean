theorem cR.hold {τ : Nat → Nat → Nat} {S : awS} {M : aM} (R : cR τ S M) {r h q v : Int32} (hr : r = nI (nN r) ∧ nN r < mN M 6) (hh : h = nI (nN h) ∧ nN h < mN M 6) (hq : q = nI (nN q) ∧ nN q < 3) (hn : (mN M 21) < 40) (hv : v = sI S 19 (nN r) (nN q) ||| ((1 : Int32) <<< (nI (nN h) &&& 31))) : cR τ (wI (wI S 19 (nN r) (nN q) v) 12 0 9 (mS M 21 + 1)) (pS (pA (pA (pA M 22 (mN M 21) r) 23 (mN M 21) h) 24 (mN M 21) q) 21 (mS M 21 + 1)) := by
  have hN : mN (pS (pA (pA (pA M 22 (mN M 21) r) 23 (mN M 21) h) 24 (mN M 21) q) 21 (mS M 21 + 1)) 21 = (mN M 21) + 1 := mN_inc (mS_nI R.mI (k := 21) (b := 40) (by decide)) (by omega)
  have e16 := R.nR
  refine cR.mk' ((((R.mI.qRv (b := 16) (by decide) ⟨hr.1, by omega⟩ (by decide)).qRv (b := 16) (by decide) ⟨hh.1, by omega⟩ (by decide)).qF (by decide)).inc (b := 40) (by decide) (mS_nI R.mI (k := 21) (b := 40) (by decide)) hn (by decide)) R.tow R.lst R.cx R.cnt.2.1 R.cnt.2.2 R.src R.rul R.ala R.ltr R.brd R.ix R.la (⟨rfl, R.sca.2⟩) R.val R.ref R.wat R.flg R.tru (?_) R.lea R.row R.bdr (?_)
  · intro r' l' hr' hl' h' hh'
    have q0 := R.hld r' l' hr' hl' h' hh'
    have hr' : r' < mN M 6 := hr'
    have e1 : sI (wI (wI S 19 (nN r) (nN q) v) 12 0 9 (mS M 21 + 1)) 19 r' l' = if r' = nN r ∧ l' = nN q then v else sI S 19 r' l' := by
      simp [sI_wI]
    rw [e1]
    have e2 : mHoldE (pS (pA (pA (pA M 22 (mN M 21) r) 23 (mN M 21) h) 24 (mN M 21) q) 21 (mS M 21 + 1)) r' h' l' ↔ mHoldE M r' h' l' ∨ (r' = nN r ∧ h' = nN h ∧ l' = nN q) := by
      unfold mHoldE
      rw [hN]
      constructor
      · rintro ⟨k, k1, k2, k3, k4⟩
        by_cases e : k = (mN M 21)
        · subst e
          simp [mA_pS, mA_pA] at k2 k3 k4
          refine Or.inr ⟨?_, ?_, ?_⟩
          · rw [k2]; exact (nI_cl (by omega)).symm
          · rw [k3]; exact (nI_cl (by omega)).symm
          · rw [k4]; exact (nI_cl (by omega)).symm
        · simp [mA_pS, mA_pA, e] at k2 k3 k4
          exact Or.inl ⟨k, by omega, k2, k3, k4⟩
      · rintro (⟨k, k1, k2, k3, k4⟩ | ⟨a, b, c⟩)
        · refine ⟨k, by omega, ?_⟩
          have e : ¬ k = (mN M 21) := by omega
          simp [mA_pS, mA_pA, e]
          exact ⟨k2, k3, k4⟩
        · refine ⟨(mN M 21), by omega, ?_⟩
          simp [mA_pS, mA_pA, a, b, c]
          exact ⟨hr.1, hh.1, hq.1⟩
    rw [e2]
    by_cases e : r' = nN r ∧ l' = nN q
    · rw [if_pos e, hv, hBit_or, hBit_one (by omega), ← e.1, ← e.2, q0]
      exact ⟨fun z => z.elim Or.inl (fun w => Or.inr ⟨rfl, w, rfl⟩), fun z => z.elim Or.inl (fun w => Or.inr w.2.1)⟩
    · rw [if_neg e, q0]
      exact ⟨Or.inl, fun z => z.elim id (fun w => absurd ⟨w.1, w.2.2⟩ e)⟩
  · refine ⟨R.inv.1, R.inv.2.1, R.inv.2.2.1, R.inv.2.2.2.1, R.inv.2.2.2.2.1, R.inv.2.2.2.2.2.1, R.inv.2.2.2.2.2.2.1, ?_, R.inv.2.2.2.2.2.2.2.2.1, R.inv.2.2.2.2.2.2.2.2.2.1, R.inv.2.2.2.2.2.2.2.2.2.2.1, R.inv.2.2.2.2.2.2.2.2.2.2.2⟩
    intro k hk
    have hk : k < (mN M 21) + 1 := hN ▸ hk
    show ((mA (pS (pA (pA (pA M 22 (mN M 21) r) 23 (mN M 21) h) 24 (mN M 21) q) 21 (mS M 21 + 1)) 22 k).toNatClampNeg) < mN M 6 ∧ ((mA (pS (pA (pA (pA M 22 (mN M 21) r) 23 (mN M 21) h) 24 (mN M 21) q) 21 (mS M 21 + 1)) 23 k).toNatClampNeg) < mN M 6 ∧ ∃ q', q' < 3 ∧ mA (pS (pA (pA (pA M 22 (mN M 21) r) 23 (mN M 21) h) 24 (mN M 21) q) 21 (mS M 21 + 1)) 24 k = nI q'
    by_cases e : k = (mN M 21)
    · simp [mA_pS, mA_pA, e]
      exact ⟨hr.2, hh.2, nN q, hq.2, hq.1⟩
    · have q0 := R.inv.2.2.2.2.2.2.2.1 k (by omega)
      simp [mA_pS, mA_pA, e]
      exact q0
theorem cR.hAll {τ : Nat → Nat → Nat} {S : awS} {M : aM} (R : cR τ S M) (fr : Nat) : cR τ S (mHoldsAll M fr) := R.mc (mHoldsAll_inv R.mI fr).1 (fun k _ _ => (mHoldsAll_inv R.mI fr).2 k) (fun k j _ _ h => holdsAll_o M fr k j h) (fun k j _ => holdsAll_l M fr k j)
theorem mN_hAll {M : aM} (hI : mI M) (fr k : Nat) : mN (mHoldsAll M fr) k = mN M k := congrArg Int32.toNatClampNeg ((mHoldsAll_inv hI fr).2 k)
theorem mHold_f {M : aM} {r hd how : Int32} (g : (okRule M r ∧ okRule M hd ∧ ¬ r = hd ∧ (0 ≤ how ∧ how ≤ 2))) (c : mS M 21 = 40) : mHold M r hd how = (mT0 M, -2) := by
  unfold mHold
  rw [if_neg (fun z => z g), if_pos c]

theorem c_isHeldOver2 {E : awE} {S : awS} {M : aM} {τ : Nat → Nat → Nat} {Q : Option Value → awS → Nat → Nat → Prop} (R : cR τ S M) {x y : Int32} (ex : x = nI (nN x)) (ey : y = nI (nN y)) (hh : nN y < mN M 6) (h1 : hBit (rcO S (mN M 6) ((1 : Int32) <<< (nI (nN x) &&& 31)) (mN M 6)) (nN y) → Q (some (.int 1)) S 0 0) (h0 : ¬ hBit (rcO S (mN M 6) ((1 : Int32) <<< (nI (nN x) &&& 31)) (mN M 6)) (nN y) → Q (some (.int 0)) S 0 0) : awT true E m_X11_isHeldOver [.ref (nm 12 0), .int x, .int y] S Q := by
  rw [ex, ey]
  exact c_isHeldOver R hh h1 h0
theorem c_addHolder2 {E : awE} {S : awS} {Q : Option Value → awS → Nat → Nat → Prop} {r : Nat} {x y : Int32} (hr : rulOk S r) (ex : x = nI (nN x)) (ey : y = nI (nN y) ∧ nN y < 3) (h : Q none (wI S 19 r (nN y) (sI S 19 r (nN y) ||| ((1 : Int32) <<< (nI (nN x) &&& 31)))) 0 0) : awT true E m_X5_addHolder [.ref (nm 6 r), .int x, .int y] S Q := by
  rw [ex, ey.1]
  exact c_addHolder hr ey.2 h
theorem cRest.hAll {M : aM} (hI : mI M) (h : cRest M) (fr : Nat) : cRest (mHoldsAll (mT0 M) fr) := fun i hi z => by
  rw [holdsAll_o _ _ _ _ (by decide)] at z
  rw [mN_hAll hI.t0] at hi
  rw [holdsAll_o _ _ _ _ (by decide), holdsAll_o _ _ _ _ (by decide), holdsAll_o _ _ _ _ (by decide), holdsAll_o _ _ _ _ (by decide)]
  exact h i hi z
theorem lt40 {x : Int32} {n : Nat} (e : x = nI n) (h : x < 40) (hn : n ≤ 40) : n < 40 := nI_slt (b := 40) (by rw [← e]; exact h) (by omega)

theorem cRR.hold {S : awS} {N : aM} (R0 : cRR S N) {r hd how v : Int32} (hr : r = nI (nN r) ∧ nN r < mN N 6) (hh : hd = nI (nN hd) ∧ nN hd < mN N 6) (hq : how = nI (nN how) ∧ nN how < 3) (hn : mN N 21 < 40) (hv : v = sI S 19 (nN r) (nN how) ||| ((1 : Int32) <<< (nI (nN hd) &&& 31))) : cRR (wI (wI S 19 (nN r) (nN how) v) 12 0 9 (mS N 21 + 1)) (pS (pA (pA (pA N 22 (mN N 21) r) 23 (mN N 21) hd) 24 (mN N 21) how) 21 (mS N 21 + 1)) := ⟨R0.1.hold hr hh hq hn hv, R0.2⟩
theorem cRR.hAll {S : awS} {M : aM} (R : cRR S M) (fr : Nat) : cRR S (mHoldsAll (mT0 M) fr) := ⟨by rw [mN_hAll R.1.mI.t0]; exact R.1.t0.hAll fr, R.2.hAll R.1.mI fr⟩

set_option maxHeartbeats 400000 in
set_option maxRecDepth 100000 in
theorem c_hold {E : awE} {S : awS} {M : aM} {Q : Option Value → awS → Nat → Nat → Prop} (R0 : cRR S M) {r hd how : Int32} (h : cPost S (mHold M r hd how) Q) : awT true E m_X11_hold [.ref (nm 12 0), .int r, .int hd, .int how] S Q := by
  refine awT.of (by decide) (by decide) (Nat.le_of_ble_eq_true rfl) ?_
  obtain ⟨R, hr0⟩ := R0
  refine ax_aload_n (i := 0) dX11_hold_0 rfl rfl rfl ?_
  refine ax_iload_n (i := 1) dX11_hold_1 rfl rfl ?_
  refine ax_invV (c := 12) (n := 1) (As := [_]) dX11_hold_2 cb_X11_ruleAt cv_X11_104.1 cv_X11_104.2.1 cv_X11_104.2.2 rfl (by decide) rfl ⟨Nat.le_of_ble_eq_true rfl, Nat.le_of_ble_eq_true rfl⟩ (Nat.le_of_ble_eq_true rfl) rfl (c_ruleAt R (fun c_2 => ?_) (fun c_2 => ?_))
  · refine ax_astore (lv' := [(4, _), (0, _), (1, _), (2, _), (3, _)]) dX11_hold_5 (by decide) rfl rfl ?_
    refine ax_aload_n (i := 0) dX11_hold_7 rfl rfl rfl ?_
    refine ax_iload_n (i := 2) dX11_hold_8 rfl rfl ?_
    refine ax_invV (c := 12) (n := 1) (As := [_]) dX11_hold_9 cb_X11_ruleAt cv_X11_104.1 cv_X11_104.2.1 cv_X11_104.2.2 rfl (by decide) rfl ⟨Nat.le_of_ble_eq_true rfl, Nat.le_of_ble_eq_true rfl⟩ (Nat.le_of_ble_eq_true rfl) rfl (c_ruleAt R (fun c_9 => ?_) (fun c_9 => ?_))
    · refine ax_astore (lv' := [(5, _), (4, _), (0, _), (1, _), (2, _), (3, _)]) dX11_hold_12 (by decide) rfl rfl ?_
      refine ax_aload dX11_hold_14 rfl rfl ?_
      refine ax_ifnull_f (k0 := 38) dX11_hold_16 (by decide) ?_
      refine ax_aload dX11_hold_19 rfl rfl ?_
      refine ax_ifnull_f (k0 := 38) dX11_hold_21 (by decide) ?_
      refine ax_iload_n (i := 1) dX11_hold_24 rfl rfl ?_
      refine ax_iload_n (i := 2) dX11_hold_25 rfl rfl ?_
      refine ax_icmp_eq (tgt := 38) dX11_hold_26 (by decide) (fun c_26 => ?_) (fun c_26 => ?_)
      · refine ax_iconst (v := -1) dX11_hold_38 (by decide) ?_
        refine ax_iret dX11_hold_39 rfl rfl ?_
        exact cfin h (if_pos (fun g => g.2.2.1 c_26)) (cRR.t0 ⟨R, hr0⟩) cFm.rf (by decide) (by decide)
      · refine ax_iload_n (i := 3) dX11_hold_29 rfl rfl ?_
        refine ax_iconst (v := 0) dX11_hold_30 (by decide) ?_
        refine ax_iconst (v := 2) dX11_hold_31 (by decide) ?_
        refine ax_invS (n := 3) (As := [_, _, _]) dX11_hold_32 cb_X11_isWithin cs_X11_71.1 cs_X11_71.2 rfl ⟨Nat.le_of_ble_eq_true rfl, Nat.le_of_ble_eq_true rfl⟩ (Nat.le_of_ble_eq_true rfl) rfl (c_isWithin (fun c_32 => ?_) (fun c_32 => ?_))
        · refine ax_if_ne (tgt := 40) dX11_hold_35 (by decide) (fun _ => ?_) (fun z => absurd (by decide) z)
          have e_r := R.rE c_2
          have e_h := R.rE c_9
          have e_q : how = nI (nN how) ∧ nN how < 3 := rg_of (n := 3) c_32.1 (Int32.lt_of_le_of_lt c_32.2 (by decide)) (by decide)
          have eM : sI S 12 0 9 = nI (mN M 21) := R.sca.1.trans (mS_nI R.mI (k := 21) (b := 40) (by decide))
          have e40 : mN M 21 ≤ 40 := mS_b R.mI (by decide)
          refine ax_aload_n (i := 0) dX11_hold_40 rfl rfl rfl ?_
          refine ax_getI dX11_hold_41 fl_X11_48 rfl rfl rfl ?_
          refine ax_bipush (v := 40) dX11_hold_44 (by decide) ?_
          refine ax_icmp_lt (tgt := 52) dX11_hold_46 (by decide) (fun c_46 => ?_) (fun c_46 => ?_)
          · have e41 := lt40 eM c_46 e40
            have nf : ¬ mS M 21 = 40 := fun z => absurd (R.sca.1.trans z) (fun w => absurd c_46 (by rw [w]; exact Int32.lt_irrefl))
            have hb := mHold_b (M := M) (r := r) (hd := hd) (how := how) ⟨c_2, c_9, c_26, c_32⟩ nf
            have hov := cR.hover R.t0 e_r.2 e_h.2
            have RN := cRR.hAll ⟨R, hr0⟩ (nN r)
            have eN : mN (mHoldsAll (mT0 M) (nN r)) 21 = mN M 21 := mN_hAll R.mI.t0 (nN r) 21
            have eR : mN (mHoldsAll (mT0 M) (nN r)) 6 = mN M 6 := mN_hAll R.mI.t0 (nN r) 6
            have eS : mS (mHoldsAll (mT0 M) (nN r)) 21 = mS M 21 := (mHoldsAll_inv R.mI.t0 (nN r)).2 21
            generalize (mHoldsAll (mT0 M) (nN r)) = N at hb hov RN eN eR eS
            refine ax_aload_n (i := 0) dX11_hold_52 rfl rfl rfl ?_
            refine ax_iload_n (i := 2) dX11_hold_53 rfl rfl ?_
            refine ax_iload_n (i := 1) dX11_hold_54 rfl rfl ?_
            refine ax_invV (c := 12) (n := 2) (As := [_, _]) dX11_hold_55 cb_X11_isHeldOver cv_X11_108.1 cv_X11_108.2.1 cv_X11_108.2.2 rfl (by decide) rfl ⟨Nat.le_of_ble_eq_true rfl, Nat.le_of_ble_eq_true rfl⟩ (Nat.le_of_ble_eq_true rfl) rfl (c_isHeldOver2 R e_h.1 e_r.1 e_r.2 (fun c_55 => ?_) (fun c_55 => ?_))
            · refine ax_if_eq (tgt := 64) dX11_hold_58 (by decide) (fun z => absurd z (by decide)) (fun _ => ?_)
              refine ax_bipush (v := -3) dX11_hold_61 (by decide) ?_
              refine ax_iret dX11_hold_63 rfl rfl ?_
              exact cfin h (hb.trans (if_pos (hov.mp c_55))) RN cFm.rf (by decide) (by decide)
            · refine ax_if_eq (tgt := 64) dX11_hold_58 (by decide) (fun _ => ?_) (fun z => absurd (by decide) z)
              refine ax_aload dX11_hold_64 rfl rfl ?_
              refine ax_iload_n (i := 2) dX11_hold_66 rfl rfl ?_
              refine ax_iload_n (i := 3) dX11_hold_67 rfl rfl ?_
              refine ax_invV (c := 6) (n := 2) (As := [_, _]) dX11_hold_68 cb_X5_addHolder cv_X11_112.1 cv_X11_112.2.1 cv_X11_112.2.2 rfl (by decide) rfl ⟨Nat.le_of_ble_eq_true rfl, Nat.le_of_ble_eq_true rfl⟩ (Nat.le_of_ble_eq_true rfl) rfl (c_addHolder2 (R.rul _ e_r.2) e_h.1 e_q ?_)
              refine ax_aload_n (i := 0) dX11_hold_71 rfl rfl rfl ?_
              refine ax_dup dX11_hold_72 rfl ?_
              refine ax_getI dX11_hold_73 fl_X11_48 rfl rfl rfl ?_
              refine ax_iconst (v := 1) dX11_hold_76 (by decide) ?_
              refine ax_iadd dX11_hold_77 ?_
              rw [show sI (wI S 19 (nN r) (nN how) (sI S 19 (nN r) (nN how) ||| ((1 : Int32) <<< (nI (nN hd) &&& 31)))) 12 0 9 + 1 = mS N 21 + 1 from congrArg (fun x => x + 1) (R.sca.1.trans eS.symm)]
              refine ax_putI dX11_hold_78 fl_X11_48 rfl rfl rfl (Or.inl rfl) rfl rfl ?_
              refine ax_iconst (v := 0) dX11_hold_81 (by decide) ?_
              refine ax_iret dX11_hold_82 rfl rfl ?_
              exact cfin (M' := (pS (pA (pA (pA N 22 (mN N 21) r) 23 (mN N 21) hd) 24 (mN N 21) how) 21 (mS N 21 + 1))) h (hb.trans (if_neg (fun z => c_55 (hov.mpr z)))) (RN.hold ⟨e_r.1, by rw [eR]; exact e_r.2⟩ ⟨e_h.1, by rw [eR]; exact e_h.2⟩ e_q (by rw [eN]; exact e41) rfl) (by repeat (first | exact cFm.rf | refine cFm.tr ?_ (cFm.xI ⟨by decide, by decide, by decide⟩) | refine cFm.tr ?_ (cFm.xL ⟨by decide, by decide, by decide⟩) | refine cFm.tr ?_ (cFm.xR ⟨by decide, by decide, by decide⟩) | refine cFm.tr ?_ (cFm.xN ⟨by decide, by decide, by decide⟩) | refine cFm.tr ?_ cFm.xK)) (by decide) (by decide)
          · refine ax_bipush (v := -2) dX11_hold_49 (by decide) ?_
            refine ax_iret dX11_hold_51 rfl rfl ?_
            exact cfin h (mHold_f ⟨c_2, c_9, c_26, c_32⟩ (R.sca.1.symm.trans (eM.trans (by rw [Nat.le_antisymm e40 (Nat.le_of_not_lt (fun z => c_46 (by rw [eM]; exact nI_lt (b := 40) z (by decide))))]; rfl)))) (cRR.t0 ⟨R, hr0⟩) cFm.rf (by decide) (by decide)
        · refine ax_if_ne (tgt := 40) dX11_hold_35 (by decide) (fun z => absurd z (by decide)) (fun _ => ?_)
          refine ax_iconst (v := -1) dX11_hold_38 (by decide) ?_
          refine ax_iret dX11_hold_39 rfl rfl ?_
          exact cfin h (if_pos (fun g => c_32 g.2.2.2)) (cRR.t0 ⟨R, hr0⟩) cFm.rf (by decide) (by decide)
    · refine ax_astore (lv' := [(5, _), (4, _), (0, _), (1, _), (2, _), (3, _)]) dX11_hold_12 (by decide) rfl rfl ?_
      refine ax_aload dX11_hold_14 rfl rfl ?_
      refine ax_ifnull_f (k0 := 38) dX11_hold_16 (by decide) ?_
      refine ax_aload dX11_hold_19 rfl rfl ?_
      refine ax_ifnull_t (tgt := 38) dX11_hold_21 (by decide) ?_
      refine ax_iconst (v := -1) dX11_hold_38 (by decide) ?_
      refine ax_iret dX11_hold_39 rfl rfl ?_
      exact cfin h (if_pos (fun g => c_9 g.2.1)) (cRR.t0 ⟨R, hr0⟩) cFm.rf (by decide) (by decide)
  · refine ax_astore (lv' := [(4, _), (0, _), (1, _), (2, _), (3, _)]) dX11_hold_5 (by decide) rfl rfl ?_
    refine ax_aload_n (i := 0) dX11_hold_7 rfl rfl rfl ?_
    refine ax_iload_n (i := 2) dX11_hold_8 rfl rfl ?_
    refine ax_invV (c := 12) (n := 1) (As := [_]) dX11_hold_9 cb_X11_ruleAt cv_X11_104.1 cv_X11_104.2.1 cv_X11_104.2.2 rfl (by decide) rfl ⟨Nat.le_of_ble_eq_true rfl, Nat.le_of_ble_eq_true rfl⟩ (Nat.le_of_ble_eq_true rfl) rfl (c_ruleAt R (fun c_9 => ?_) (fun c_9 => ?_))
    · refine ax_astore (lv' := [(5, _), (4, _), (0, _), (1, _), (2, _), (3, _)]) dX11_hold_12 (by decide) rfl rfl ?_
      refine ax_aload dX11_hold_14 rfl rfl ?_
      refine ax_ifnull_t (tgt := 38) dX11_hold_16 (by decide) ?_
      refine ax_iconst (v := -1) dX11_hold_38 (by decide) ?_
      refine ax_iret dX11_hold_39 rfl rfl ?_
      exact cfin h (if_pos (fun g => c_2 g.1)) (cRR.t0 ⟨R, hr0⟩) cFm.rf (by decide) (by decide)
    · refine ax_astore (lv' := [(5, _), (4, _), (0, _), (1, _), (2, _), (3, _)]) dX11_hold_12 (by decide) rfl rfl ?_
      refine ax_aload dX11_hold_14 rfl rfl ?_
      refine ax_ifnull_t (tgt := 38) dX11_hold_16 (by decide) ?_
      refine ax_iconst (v := -1) dX11_hold_38 (by decide) ?_
      refine ax_iret dX11_hold_39 rfl rfl ?_
      exact cfin h (if_pos (fun g => c_2 g.1)) (cRR.t0 ⟨R, hr0⟩) cFm.rf (by decide) (by decide)
