theorem mIx.inc {w : Nat} {M : aM} {k b n : Nat} {v : Int32} (h : mIx w M) (hk : mRowS k b = true) (hv : v = nI n) (hn : n < b) (hb : b < 2 ^ 31) : mIx w (pS M k (v + 1)) := by
  rw [hv, nI_1]
  exact h.qSR hk (by omega) hb
def fmOk (f : Nat) : Prop := ¬ f = 13 ∧ ¬ f = 29 ∧ f < 64
def cFm (S S' : awS) : Prop := ∀ f, ¬ fmOk f → (∀ i k, sI S' f i k = sI S f i k) ∧ (∀ i k, sL S' f i k = sL S f i k) ∧ (∀ i k, sR S' f i k = sR S f i k) ∧ (∀ i, sN S' f i = sN S f i) ∧ sC S' f = sC S f
theorem cFm.rf {S : awS} : cFm S S := fun _ _ => ⟨fun _ _ => rfl, fun _ _ => rfl, fun _ _ => rfl, fun _ => rfl, rfl⟩
theorem cFm.tr {S S' S'' : awS} (h : cFm S S') (h' : cFm S' S'') : cFm S S'' := fun f hf => ⟨fun i k => ((h' f hf).1 i k).trans ((h f hf).1 i k), fun i k => ((h' f hf).2.1 i k).trans ((h f hf).2.1 i k), fun i k => ((h' f hf).2.2.1 i k).trans ((h f hf).2.2.1 i k), fun i => ((h' f hf).2.2.2.1 i).trans ((h f hf).2.2.2.1 i), (h' f hf).2.2.2.2.trans (h f hf).2.2.2.2⟩
theorem cFm.xI {S : awS} {f i k : Nat} {v : Int32} (hf : fmOk f) : cFm S (wI S f i k v) := fun g hg => ⟨fun i' k' => by rw [sI_wI]; exact if_neg (fun z => hg (by rw [z.1]; exact hf)), fun _ _ => rfl, fun _ _ => rfl, fun _ => rfl, rfl⟩
theorem cFm.xL {S : awS} {f i k : Nat} {v : Int64} (hf : fmOk f) : cFm S (wL S f i k v) := fun g hg => ⟨fun _ _ => rfl, fun i' k' => by rw [sL_wL]; exact if_neg (fun z => hg (by rw [z.1]; exact hf)), fun _ _ => rfl, fun _ => rfl, rfl⟩
theorem cFm.xR {S : awS} {f i k : Nat} {v : Option Nat} (hf : fmOk f) : cFm S (wR S f i k v) := fun g hg => ⟨fun _ _ => rfl, fun _ _ => rfl, fun i' k' => by rw [sR_wR]; exact if_neg (fun z => hg (by rw [z.1]; exact hf)), fun _ => rfl, rfl⟩
theorem cFm.xN {S : awS} {f n : Nat} (hf : fmOk f) : cFm S (wNew S f n) := fun g hg => by
  have e : ¬ g = f := fun z => hg (by rw [z]; exact hf)
  exact ⟨fun i' k' => by rw [sI_wN, if_neg (fun z => e z.1)], fun i' k' => by rw [sL_wN, if_neg (fun z => e z.1)], fun i' k' => by rw [sR_wN, if_neg (fun z => e z.1)], fun i' => by rw [sN_wN, if_neg (fun z => e z.1)], by rw [sC_wN, if_neg e]⟩
theorem cFm.xK {S : awS} {q : Nat} {v : Nat × (Nat → Nat)} : cFm S (wK S q v) := fun _ _ => ⟨fun _ _ => rfl, fun _ _ => rfl, fun _ _ => rfl, fun _ => rfl, rfl⟩
def cRR (S : awS) (M : aM) : Prop := cR (fun _ _ => mN M 1) S M ∧ cRest M
theorem cRR.t0 {S : awS} {M : aM} (h : cRR S M) : cRR S (mT0 M) := ⟨h.1.t0, h.2⟩
abbrev cPost (S : awS) (p : aM × Int32) (Q : Option Value → awS → Nat → Nat → Prop) : Prop := ∀ S' mc ms, cRR S' p.1 → cFm S S' → mc ≤ 60 → ms ≤ 2000 → Q (some (.int p.2)) S' mc ms
theorem cfin {S S' : awS} {p : aM × Int32} {M' : aM} {v : Int32} {Q : Option Value → awS → Nat → Nat → Prop} {kc ks : Nat} (h : cPost S p Q) (e : p = (M', v)) (hR : cRR S' M') (hF : cFm S S') (hc : kc ≤ 60) (hs : ks ≤ 2000) : Q (some (.int v)) S' kc ks := by subst e; exact h S' kc ks hR hF hc hs
theorem elU_nm (f n : Nat) : elU (nm f) n (nm f n) = nm f := by
  funext j
  unfold elU
  by_cases e : j = n
  · rw [if_pos e, e]
  · rw [if_neg e]
theorem mN_inc {M : aM} {k n : Nat} {v : Int32} (hv : v = nI n) (hn : n < 1000) : mN (pS M k (v + 1)) k = n + 1 := by
  show (mS (pS M k (v + 1)) k).toNatClampNeg = _
  rw [mS_pS, if_pos rfl, hv, nI_1, nI_clamp (by omega)]

set_option maxHeartbeats 400000 in
set_option maxRecDepth 100000 in
theorem c_waits {E : awE} {S : awS} {M : aM} {Q : Option Value → awS → Nat → Nat → Prop} (R0 : cRR S M) {f g e u : Int32} (h : cPost S (mWaits M f g e u) Q) : awT true E m_X11_waits [.ref (nm 12 0), .int f, .int g, .int e, .int u] S Q := by
  refine awT.of (by decide) (by decide) (Nat.le_of_ble_eq_true rfl) ?_
  obtain ⟨R, hr0⟩ := R0
  refine ax_iload_n (i := 1) dX11_waits_0 rfl rfl ?_
  refine ax_iconst (v := 0) dX11_waits_1 (by decide) ?_
  refine ax_bipush (v := 50) dX11_waits_2 (by decide) ?_
  refine ax_invS (n := 3) (As := [_, _, _]) dX11_waits_4 cb_X11_isWithin cs_X11_71.1 cs_X11_71.2 rfl ⟨Nat.le_of_ble_eq_true rfl, Nat.le_of_ble_eq_true rfl⟩ (Nat.le_of_ble_eq_true rfl) rfl (c_isWithin (fun c_4 => ?_) (fun c_4 => ?_))
  · refine ax_if_eq (tgt := 20) dX11_waits_7 (by decide) (fun z => absurd z (by decide)) (fun _ => ?_)
    refine ax_iload_n (i := 2) dX11_waits_10 rfl rfl ?_
    refine ax_iconst (v := 1) dX11_waits_11 (by decide) ?_
    refine ax_bipush (v := 50) dX11_waits_12 (by decide) ?_
    refine ax_invS (n := 3) (As := [_, _, _]) dX11_waits_14 cb_X11_isWithin cs_X11_71.1 cs_X11_71.2 rfl ⟨Nat.le_of_ble_eq_true rfl, Nat.le_of_ble_eq_true rfl⟩ (Nat.le_of_ble_eq_true rfl) rfl (c_isWithin (fun c_14 => ?_) (fun c_14 => ?_))
    · refine ax_if_ne (tgt := 22) dX11_waits_17 (by decide) (fun _ => ?_) (fun z => absurd (by decide) z)
      refine ax_iload_n (i := 3) dX11_waits_22 rfl rfl ?_
      refine ax_iconst (v := 1) dX11_waits_23 (by decide) ?_
      refine ax_bipush (v := 100) dX11_waits_24 (by decide) ?_
      refine ax_invS (n := 3) (As := [_, _, _]) dX11_waits_26 cb_X11_isWithin cs_X11_71.1 cs_X11_71.2 rfl ⟨Nat.le_of_ble_eq_true rfl, Nat.le_of_ble_eq_true rfl⟩ (Nat.le_of_ble_eq_true rfl) rfl (c_isWithin (fun c_26 => ?_) (fun c_26 => ?_))
      · refine ax_if_eq (tgt := 43) dX11_waits_29 (by decide) (fun z => absurd z (by decide)) (fun _ => ?_)
        refine ax_iload dX11_waits_32 rfl ?_
        refine ax_iconst (v := 1) dX11_waits_34 (by decide) ?_
        refine ax_bipush (v := 50) dX11_waits_35 (by decide) ?_
        refine ax_invS (n := 3) (As := [_, _, _]) dX11_waits_37 cb_X11_isWithin cs_X11_71.1 cs_X11_71.2 rfl ⟨Nat.le_of_ble_eq_true rfl, Nat.le_of_ble_eq_true rfl⟩ (Nat.le_of_ble_eq_true rfl) rfl (c_isWithin (fun c_37 => ?_) (fun c_37 => ?_))
        · refine ax_if_ne (tgt := 45) dX11_waits_40 (by decide) (fun _ => ?_) (fun z => absurd (by decide) z)
          refine ax_aload_n (i := 0) dX11_waits_45 rfl rfl rfl ?_
          refine ax_iload_n (i := 1) dX11_waits_46 rfl rfl ?_
          refine ax_putI dX11_waits_47 fl_X11_55 rfl rfl rfl (Or.inl rfl) rfl rfl ?_
          refine ax_aload_n (i := 0) dX11_waits_50 rfl rfl rfl ?_
          refine ax_iload_n (i := 2) dX11_waits_51 rfl rfl ?_
          refine ax_putI dX11_waits_52 fl_X11_58 rfl rfl rfl (Or.inl rfl) rfl rfl ?_
          refine ax_aload_n (i := 0) dX11_waits_55 rfl rfl rfl ?_
          refine ax_iload_n (i := 3) dX11_waits_56 rfl rfl ?_
          refine ax_putI dX11_waits_57 fl_X11_61 rfl rfl rfl (Or.inl rfl) rfl rfl ?_
          refine ax_aload_n (i := 0) dX11_waits_60 rfl rfl rfl ?_
          refine ax_iload dX11_waits_61 rfl ?_
          refine ax_putI dX11_waits_63 fl_X11_64 rfl rfl rfl (Or.inl rfl) rfl rfl ?_
          refine ax_iconst (v := 0) dX11_waits_66 (by decide) ?_
          refine ax_iret dX11_waits_67 rfl rfl ?_
          exact cfin h (if_neg (fun z => z ⟨c_4, c_14, c_26, c_37⟩)) ⟨cR.mk' (R.mI.t0.qSF (by decide) |>.qSF (by decide) |>.qSF (by decide) |>.qSF (by decide)) R.tow R.lst R.cx R.cnt.2.1 R.cnt.2.2 R.src R.rul R.ala R.ltr R.brd R.ix R.la (⟨R.sca.1, R.sca.2.1, rfl, rfl, rfl, rfl, R.sca.2.2.2.2.2.2.1, R.sca.2.2.2.2.2.2.2⟩) R.val R.ref R.wat R.flg R.tru R.hld R.lea R.row R.bdr R.inv, hr0⟩ (by repeat (first | exact cFm.rf | refine cFm.tr ?_ (cFm.xI ⟨by decide, by decide, by decide⟩) | refine cFm.tr ?_ (cFm.xL ⟨by decide, by decide, by decide⟩) | refine cFm.tr ?_ (cFm.xR ⟨by decide, by decide, by decide⟩) | refine cFm.tr ?_ (cFm.xN ⟨by decide, by decide, by decide⟩) | refine cFm.tr ?_ cFm.xK)) (by decide) (by decide)
        · refine ax_if_ne (tgt := 45) dX11_waits_40 (by decide) (fun z => absurd z (by decide)) (fun _ => ?_)
          refine ax_iconst (v := -1) dX11_waits_43 (by decide) ?_
          refine ax_iret dX11_waits_44 rfl rfl ?_
          exact cfin h (if_pos (fun g => c_37 g.2.2.2)) (cRR.t0 ⟨R, hr0⟩) cFm.rf (by decide) (by decide)
      · refine ax_if_eq (tgt := 43) dX11_waits_29 (by decide) (fun _ => ?_) (fun z => absurd (by decide) z)
        refine ax_iconst (v := -1) dX11_waits_43 (by decide) ?_
        refine ax_iret dX11_waits_44 rfl rfl ?_
        exact cfin h (if_pos (fun g => c_26 g.2.2.1)) (cRR.t0 ⟨R, hr0⟩) cFm.rf (by decide) (by decide)
    · refine ax_if_ne (tgt := 22) dX11_waits_17 (by decide) (fun z => absurd z (by decide)) (fun _ => ?_)
      refine ax_iconst (v := -1) dX11_waits_20 (by decide) ?_
      refine ax_iret dX11_waits_21 rfl rfl ?_
      exact cfin h (if_pos (fun g => c_14 g.2.1)) (cRR.t0 ⟨R, hr0⟩) cFm.rf (by decide) (by decide)
  · refine ax_if_eq (tgt := 20) dX11_waits_7 (by decide) (fun _ => ?_) (fun z => absurd (by decide) z)
    refine ax_iconst (v := -1) dX11_waits_20 (by decide) ?_
    refine ax_iret dX11_waits_21 rfl rfl ?_
    exact cfin h (if_pos (fun g => c_4 g.1)) (cRR.t0 ⟨R, hr0⟩) cFm.rf (by decide) (by decide)
set_option maxHeartbeats 400000 in
set_option maxRecDepth 100000 in
theorem c_mask {E : awE} {S : awS} {M : aM} {Q : Option Value → awS → Nat → Nat → Prop} (R0 : cRR S M) {m : Int32} (h : cPost S (mMask M m) Q) : awT true E m_X11_mask [.ref (nm 12 0), .int m] S Q := by
  refine awT.of (by decide) (by decide) (Nat.le_of_ble_eq_true rfl) ?_
  obtain ⟨R, hr0⟩ := R0
  refine ax_iload_n (i := 1) dX11_mask_0 rfl rfl ?_
  refine ax_iconst (v := 0) dX11_mask_1 (by decide) ?_
  refine ax_bipush (v := 7) dX11_mask_2 (by decide) ?_
  refine ax_invS (n := 3) (As := [_, _, _]) dX11_mask_4 cb_X11_isWithin cs_X11_71.1 cs_X11_71.2 rfl ⟨Nat.le_of_ble_eq_true rfl, Nat.le_of_ble_eq_true rfl⟩ (Nat.le_of_ble_eq_true rfl) rfl (c_isWithin (fun c_4 => ?_) (fun c_4 => ?_))
  · refine ax_if_ne (tgt := 12) dX11_mask_7 (by decide) (fun _ => ?_) (fun z => absurd (by decide) z)
    refine ax_aload_n (i := 0) dX11_mask_12 rfl rfl rfl ?_
    refine ax_getR dX11_mask_13 fl_X11_22 rfl rfl rfl (R.tow.1 3 (by decide)) ?_
    refine ax_invV (c := 0) (n := 0) (As := []) dX11_mask_16 cb_Jx4a65c_size_8abf5 cv_X11_75.1 cv_X11_75.2.1 cv_X11_75.2.2 rfl (by decide) rfl ⟨Nat.le_of_ble_eq_true rfl, Nat.le_of_ble_eq_true rfl⟩ (Nat.le_of_ble_eq_true rfl) rfl (t_lsSize (q := 3) (by decide) (R.lq (by decide)) (R.lst.2.2.2.1) (Nat.lt_of_le_of_lt (mS_b R.mI (k := 30) (b := 300) (by decide)) (by decide)) ?_)
    refine ax_if_le (tgt := 25) dX11_mask_19 (by decide) (fun c_19 => ?_) (fun c_19 => ?_)
    · refine ax_aload_n (i := 0) dX11_mask_25 rfl rfl rfl ?_
      refine ax_iload_n (i := 1) dX11_mask_26 rfl rfl ?_
      refine ax_putI dX11_mask_27 fl_X11_52 rfl rfl rfl (Or.inl rfl) rfl rfl ?_
      refine ax_iconst (v := 0) dX11_mask_30 (by decide) ?_
      refine ax_iret dX11_mask_31 rfl rfl ?_
      exact cfin h ((if_neg (fun z => z c_4)).trans (if_neg (fun z => Int32.not_lt.mpr c_19 (by rw [← (mS_nI R.mI (k := 30) (b := 300) (by decide))]; exact z)))) ⟨cR.mk' (R.mI.t0.qSF (by decide)) R.tow R.lst R.cx R.cnt.2.1 R.cnt.2.2 R.src R.rul R.ala R.ltr R.brd R.ix R.la (⟨R.sca.1, rfl, R.sca.2.2⟩) R.val R.ref R.wat R.flg R.tru R.hld R.lea R.row R.bdr R.inv, hr0⟩ (by repeat (first | exact cFm.rf | refine cFm.tr ?_ (cFm.xI ⟨by decide, by decide, by decide⟩) | refine cFm.tr ?_ (cFm.xL ⟨by decide, by decide, by decide⟩) | refine cFm.tr ?_ (cFm.xR ⟨by decide, by decide, by decide⟩) | refine cFm.tr ?_ (cFm.xN ⟨by decide, by decide, by decide⟩) | refine cFm.tr ?_ cFm.xK)) (by decide) (by decide)
    · refine ax_bipush (v := -3) dX11_mask_22 (by decide) ?_
      refine ax_iret dX11_mask_24 rfl rfl ?_
      exact cfin h ((if_neg (fun z => z c_4)).trans (if_pos (by rw [(mS_nI R.mI (k := 30) (b := 300) (by decide))]; exact Int32.not_le.mp c_19))) (cRR.t0 ⟨R, hr0⟩) cFm.rf (by decide) (by decide)
  · refine ax_if_ne (tgt := 12) dX11_mask_7 (by decide) (fun z => absurd z (by decide)) (fun _ => ?_)
    refine ax_iconst (v := -1) dX11_mask_10 (by decide) ?_
    refine ax_iret dX11_mask_11 rfl rfl ?_
    exact cfin h (if_pos c_4) (cRR.t0 ⟨R, hr0⟩) cFm.rf (by decide) (by decide)
set_option maxHeartbeats 400000 in
set_option maxRecDepth 100000 in
theorem c_addHand {E : awE} {S : awS} {Q : Option Value → awS → Nat → Nat → Prop} {M : aM} (eH : sI S 5 0 0 = nI (mN M 52)) (hb : mN M 52 ≤ 8) (h1 : mN M 52 < 8 → Q (some (.int (nI (mN M 52)))) (wI S 5 0 0 (nI (mN M 52 + 1))) 0 0) (h0 : mN M 52 = 8 → Q (some (.int (-2))) S 0 0) : awT true E m_X4_addHand [.ref (nm 5 0)] S Q := by
  refine awT.of (by decide) (by decide) (Nat.le_of_ble_eq_true rfl) ?_
  refine ax_aload_n (i := 0) dX4_addHand_0 rfl rfl rfl ?_
  refine ax_getI dX4_addHand_1 fl_X4_9 rfl rfl rfl ?_
  refine ax_top eH ?_
  refine ax_bipush (v := 8) dX4_addHand_4 (by decide) ?_
  refine ax_icmp_lt (tgt := 12) dX4_addHand_6 (by decide) (fun c_6 => ?_) (fun c_6 => ?_)
  · refine ax_aload_n (i := 0) dX4_addHand_12 rfl rfl rfl ?_
    refine ax_dup dX4_addHand_13 rfl ?_
    refine ax_getI dX4_addHand_14 fl_X4_9 rfl rfl rfl ?_
    refine ax_top eH ?_
    refine ax_iconst (v := 1) dX4_addHand_17 (by decide) ?_
    refine ax_iadd1 dX4_addHand_18 ?_
    refine ax_putI dX4_addHand_19 fl_X4_9 rfl rfl rfl (Or.inl rfl) rfl rfl ?_
    refine ax_aload_n (i := 0) dX4_addHand_22 rfl rfl rfl ?_
    refine ax_getI dX4_addHand_23 fl_X4_9 rfl rfl rfl ?_
    refine ax_iconst (v := 1) dX4_addHand_26 (by decide) ?_
    refine ax_isub dX4_addHand_27 ?_
    refine ax_iret dX4_addHand_28 rfl rfl ?_
    rw [show sI (wI S 5 0 0 (nI (mN M 52 + 1))) 5 0 0 - 1 = nI (mN M 52) from nI_pred _]
    exact h1 (nI_slt (b := 8) c_6 (by omega))
  · refine ax_bipush (v := -2) dX4_addHand_9 (by decide) ?_
    refine ax_iret dX4_addHand_11 rfl rfl ?_
    exact h0 (Nat.le_antisymm hb (Nat.le_of_not_lt (fun z => c_6 (nI_lt (b := 8) z (by decide)))))
set_option maxHeartbeats 400000 in
set_option maxRecDepth 100000 in
theorem c_hand {E : awE} {S : awS} {M : aM} {Q : Option Value → awS → Nat → Nat → Prop} (R0 : cRR S M) (h : cPost S (mHand M) Q) : awT true E m_X11_hand [.ref (nm 12 0)] S Q := by
  refine awT.of (by decide) (by decide) (Nat.le_of_ble_eq_true rfl) ?_
  obtain ⟨R, hr0⟩ := R0
  refine ax_aload_n (i := 0) dX11_hand_0 rfl rfl rfl ?_
  refine ax_getR dX11_hand_1 fl_X11_40 rfl rfl rfl R.tow.2.1 ?_
  refine ax_invV (c := 5) (n := 0) (As := []) dX11_hand_4 cb_X4_addHand cv_X11_133.1 cv_X11_133.2.1 cv_X11_133.2.2 rfl (by decide) rfl ⟨Nat.le_of_ble_eq_true rfl, Nat.le_of_ble_eq_true rfl⟩ (Nat.le_of_ble_eq_true rfl) rfl (c_addHand R.eH R.nH (fun hh => ?_) (fun hh => ?_))
  · refine ax_iret dX11_hand_7 rfl rfl ?_
    have eM : mS M 52 = nI (mN M 52) := (mS_nI R.mI (k := 52) (b := 8) (by decide))
    have e1 : mN (pS (mT0 M) 52 (mS M 52 + 1)) 52 = mN M 52 + 1 := mN_inc eM (by omega)
    have hup : ∀ {x : Nat}, x < mN M 52 → x < mN (pS (mT0 M) 52 (mS M 52 + 1)) 52 := fun {x} hx => by rw [e1]; omega
    exact cfin (M' := pS (mT0 M) 52 (mS M 52 + 1)) h ((if_neg (fun z => absurd (eM.symm.trans z) (fun w => absurd ((nI_eq (b := 8) (by omega) (by decide)).mp w) (by omega)))).trans (by rw [show mS M 52 + 1 - 1 = nI (mN M 52) from by rw [eM, nI_1]; exact nI_pred _])) ⟨cR.mk' (R.mI.t0.inc (b := 8) (by decide) eM hh (by decide)) R.tow R.lst R.cx R.cnt.2.1 R.cnt.2.2 R.src R.rul R.ala R.ltr R.brd R.ix R.la (⟨R.sca.1, R.sca.2.1, R.sca.2.2.1, R.sca.2.2.2.1, R.sca.2.2.2.2.1, R.sca.2.2.2.2.2.1, R.sca.2.2.2.2.2.2.1, by show nI (mN M 52 + 1) = mS M 52 + 1; rw [eM, nI_1]⟩) R.val R.ref R.wat R.flg R.tru R.hld R.lea R.row R.bdr (⟨R.inv.1, R.inv.2.1, R.inv.2.2.1, R.inv.2.2.2.1, R.inv.2.2.2.2.1, R.inv.2.2.2.2.2.1, R.inv.2.2.2.2.2.2.1, R.inv.2.2.2.2.2.2.2.1, R.inv.2.2.2.2.2.2.2.2.1, fun k hk => hup (R.inv.2.2.2.2.2.2.2.2.2.1 k hk), fun k hk => ⟨hup (R.inv.2.2.2.2.2.2.2.2.2.2.1 k hk).1, hup (R.inv.2.2.2.2.2.2.2.2.2.2.1 k hk).2⟩, R.inv.2.2.2.2.2.2.2.2.2.2.2⟩), hr0⟩ (by repeat (first | exact cFm.rf | refine cFm.tr ?_ (cFm.xI ⟨by decide, by decide, by decide⟩) | refine cFm.tr ?_ (cFm.xL ⟨by decide, by decide, by decide⟩) | refine cFm.tr ?_ (cFm.xR ⟨by decide, by decide, by decide⟩) | refine cFm.tr ?_ (cFm.xN ⟨by decide, by decide, by decide⟩) | refine cFm.tr ?_ cFm.xK)) (by decide) (by decide)
  · refine ax_iret dX11_hand_7 rfl rfl ?_
    exact cfin h (if_pos ((mS_nI R.mI (k := 52) (b := 8) (by decide)).trans (by rw [hh]; rfl))) (cRR.t0 ⟨R, hr0⟩) cFm.rf (by decide) (by decide)
