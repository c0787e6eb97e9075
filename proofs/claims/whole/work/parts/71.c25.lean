set_option maxHeartbeats 400000 in
set_option maxRecDepth 100000 in
theorem c_climb {E : awE} {S : awS} {Q : Option Value → awS → Nat → Nat → Prop} {l : Nat} {t up : Int32} (h1 : ¬ 0 < sI S 4 l 8 ∧ ¬ sI S 4 l 4 ≤ sI S 4 l 9 ∧ sI S 4 l 5 + up ≤ t → Q none (wI (wI S 4 l 9 (sI S 4 l 9 + 1)) 4 l 5 t) 0 0) (h0 : ¬ (¬ 0 < sI S 4 l 8 ∧ ¬ sI S 4 l 4 ≤ sI S 4 l 9 ∧ sI S 4 l 5 + up ≤ t) → Q none S 0 0) : awT true E m_X3_climb [.ref (nm 4 l), .int t, .int up] S Q := by
  refine awT.of (by decide) (by decide) (Nat.le_of_ble_eq_true rfl) ?_
  refine ax_aload_n (i := 0) dX3_climb_0 rfl rfl rfl ?_
  refine ax_invV (c := 4) (n := 0) (As := []) dX3_climb_1 cb_X3_isAnswered cv_X3_56.1 cv_X3_56.2.1 cv_X3_56.2.2 rfl (by decide) rfl ⟨Nat.le_of_ble_eq_true rfl, Nat.le_of_ble_eq_true rfl⟩ (Nat.le_of_ble_eq_true rfl) rfl (c_isAnswered (fun c_1 => ?_) (fun c_1 => ?_))
  · refine ax_if_ne (tgt := 39) dX3_climb_4 (by decide) (fun _ => ?_) (fun z => absurd (by decide) z)
    refine ax_vret dX3_climb_39 rfl ?_
    exact h0 (fun z => z.1 c_1)
  · refine ax_if_ne (tgt := 39) dX3_climb_4 (by decide) (fun z => absurd z (by decide)) (fun _ => ?_)
    refine ax_aload_n (i := 0) dX3_climb_7 rfl rfl rfl ?_
    refine ax_invV (c := 4) (n := 0) (As := []) dX3_climb_8 cb_X3_isToAll cv_X3_52.1 cv_X3_52.2.1 cv_X3_52.2.2 rfl (by decide) rfl ⟨Nat.le_of_ble_eq_true rfl, Nat.le_of_ble_eq_true rfl⟩ (Nat.le_of_ble_eq_true rfl) rfl (c_isToAll (fun c_8 => ?_) (fun c_8 => ?_))
    · refine ax_if_ne (tgt := 39) dX3_climb_11 (by decide) (fun _ => ?_) (fun z => absurd (by decide) z)
      refine ax_vret dX3_climb_39 rfl ?_
      exact h0 (fun z => z.2.1 c_8)
    · refine ax_if_ne (tgt := 39) dX3_climb_11 (by decide) (fun z => absurd z (by decide)) (fun _ => ?_)
      refine ax_iload_n (i := 1) dX3_climb_14 rfl rfl ?_
      refine ax_aload_n (i := 0) dX3_climb_15 rfl rfl rfl ?_
      refine ax_getI dX3_climb_16 fl_X3_44 rfl rfl rfl ?_
      refine ax_iload_n (i := 2) dX3_climb_19 rfl rfl ?_
      refine ax_iadd dX3_climb_20 ?_
      refine ax_icmp_lt (tgt := 39) dX3_climb_21 (by decide) (fun c_21 => ?_) (fun c_21 => ?_)
      · refine ax_vret dX3_climb_39 rfl ?_
        exact h0 (fun z => Int32.not_lt.mpr z.2.2 c_21)
      · refine ax_aload_n (i := 0) dX3_climb_24 rfl rfl rfl ?_
        refine ax_dup dX3_climb_25 rfl ?_
        refine ax_getI dX3_climb_26 fl_X3_28 rfl rfl rfl ?_
        refine ax_iconst (v := 1) dX3_climb_29 (by decide) ?_
        refine ax_iadd dX3_climb_30 ?_
        refine ax_putI dX3_climb_31 fl_X3_28 rfl rfl rfl (Or.inl rfl) rfl rfl ?_
        refine ax_aload_n (i := 0) dX3_climb_34 rfl rfl rfl ?_
        refine ax_iload_n (i := 1) dX3_climb_35 rfl rfl ?_
        refine ax_putI dX3_climb_36 fl_X3_44 rfl rfl rfl (Or.inl rfl) rfl rfl ?_
        refine ax_vret dX3_climb_39 rfl ?_
        exact h1 ⟨c_1, c_8, Int32.not_lt.mp c_21⟩
theorem cR.up {τ : Nat → Nat → Nat} {S : awS} {M : aM} (R : cR τ S M) {l : Nat} {v t : Int32} (hl : l < mN M 63) (hv : v = nI (nN v) ∧ nN v < 9) : cR τ (wI (wI S 4 l 9 v) 4 l 5 t) (pA (pA M 71 l v) 72 l t) :=
  cR.mk' ((R.mI.qRv (b := 9) (by decide) hv (by decide)).qF (by decide)) R.tow R.lst R.cx R.cnt.2.1 R.cnt.2.2 R.src R.rul R.ala R.ltr R.brd (⟨R.ix.1, R.ix.2.1, R.ix.2.2.1, R.ix.2.2.2.1, R.ix.2.2.2.2.1, R.ix.2.2.2.2.2.1, R.ix.2.2.2.2.2.2.1, fun i hi => by
    have q := R.int (f := 4) (k := 1) (m := 66) (q := 63) (by decide) hi
    simp [sI_wI, mA_pA, mT0, mA_pS]
    exact q, fun i hi => by
    have q := R.int (f := 4) (k := 2) (m := 64) (q := 63) (by decide) hi
    simp [sI_wI, mA_pA, mT0, mA_pS]
    exact q, fun i hi => by
    have q := R.int (f := 4) (k := 4) (m := 69) (q := 63) (by decide) hi
    simp [sI_wI, mA_pA, mT0, mA_pS]
    exact q, fun i hi => by
    have q := R.int (f := 4) (k := 5) (m := 72) (q := 63) (by decide) hi
    simp [sI_wI, mA_pA, mT0, mA_pS]
    by_cases e : i = l
    · simp [e]
    · simp [e]; exact q, fun i hi => by
    have q := R.int (f := 4) (k := 6) (m := 67) (q := 63) (by decide) hi
    simp [sI_wI, mA_pA, mT0, mA_pS]
    exact q, fun i hi => by
    have q := R.int (f := 4) (k := 7) (m := 73) (q := 63) (by decide) hi
    simp [sI_wI, mA_pA, mT0, mA_pS]
    exact q, fun i hi => by
    have q := R.int (f := 4) (k := 8) (m := 74) (q := 63) (by decide) hi
    simp [sI_wI, mA_pA, mT0, mA_pS]
    exact q, fun i hi => by
    have q := R.int (f := 4) (k := 9) (m := 71) (q := 63) (by decide) hi
    simp [sI_wI, mA_pA, mT0, mA_pS]
    by_cases e : i = l
    · simp [e]
    · simp [e]; exact q, R.ix.2.2.2.2.2.2.2.2.2.2.2.2.2.2.2.1, R.ix.2.2.2.2.2.2.2.2.2.2.2.2.2.2.2.2.1, R.ix.2.2.2.2.2.2.2.2.2.2.2.2.2.2.2.2.2.1, R.ix.2.2.2.2.2.2.2.2.2.2.2.2.2.2.2.2.2.2.1, R.ix.2.2.2.2.2.2.2.2.2.2.2.2.2.2.2.2.2.2.2.1, R.ix.2.2.2.2.2.2.2.2.2.2.2.2.2.2.2.2.2.2.2.2.1, R.ix.2.2.2.2.2.2.2.2.2.2.2.2.2.2.2.2.2.2.2.2.2.1, R.ix.2.2.2.2.2.2.2.2.2.2.2.2.2.2.2.2.2.2.2.2.2.2.1, R.ix.2.2.2.2.2.2.2.2.2.2.2.2.2.2.2.2.2.2.2.2.2.2.2.1, R.ix.2.2.2.2.2.2.2.2.2.2.2.2.2.2.2.2.2.2.2.2.2.2.2.2.1, R.ix.2.2.2.2.2.2.2.2.2.2.2.2.2.2.2.2.2.2.2.2.2.2.2.2.2.1, R.ix.2.2.2.2.2.2.2.2.2.2.2.2.2.2.2.2.2.2.2.2.2.2.2.2.2.2.1, R.ix.2.2.2.2.2.2.2.2.2.2.2.2.2.2.2.2.2.2.2.2.2.2.2.2.2.2.2.1, R.ix.2.2.2.2.2.2.2.2.2.2.2.2.2.2.2.2.2.2.2.2.2.2.2.2.2.2.2.2.1, R.ix.2.2.2.2.2.2.2.2.2.2.2.2.2.2.2.2.2.2.2.2.2.2.2.2.2.2.2.2.2.1, R.ix.2.2.2.2.2.2.2.2.2.2.2.2.2.2.2.2.2.2.2.2.2.2.2.2.2.2.2.2.2.2.1, R.ix.2.2.2.2.2.2.2.2.2.2.2.2.2.2.2.2.2.2.2.2.2.2.2.2.2.2.2.2.2.2.2.1, R.ix.2.2.2.2.2.2.2.2.2.2.2.2.2.2.2.2.2.2.2.2.2.2.2.2.2.2.2.2.2.2.2.2.1, R.ix.2.2.2.2.2.2.2.2.2.2.2.2.2.2.2.2.2.2.2.2.2.2.2.2.2.2.2.2.2.2.2.2.2.1, R.ix.2.2.2.2.2.2.2.2.2.2.2.2.2.2.2.2.2.2.2.2.2.2.2.2.2.2.2.2.2.2.2.2.2.2.1, R.ix.2.2.2.2.2.2.2.2.2.2.2.2.2.2.2.2.2.2.2.2.2.2.2.2.2.2.2.2.2.2.2.2.2.2.2.1, R.ix.2.2.2.2.2.2.2.2.2.2.2.2.2.2.2.2.2.2.2.2.2.2.2.2.2.2.2.2.2.2.2.2.2.2.2.2.1, R.ix.2.2.2.2.2.2.2.2.2.2.2.2.2.2.2.2.2.2.2.2.2.2.2.2.2.2.2.2.2.2.2.2.2.2.2.2.2.1, R.ix.2.2.2.2.2.2.2.2.2.2.2.2.2.2.2.2.2.2.2.2.2.2.2.2.2.2.2.2.2.2.2.2.2.2.2.2.2.2⟩) R.la R.sca R.val R.ref R.wat R.flg R.tru R.hld R.lea R.row R.bdr R.inv
theorem cR.upL {τ : Nat → Nat → Nat} {S : awS} {M : aM} (R : cR τ S M) {l t : Nat} (hl : l < mN M 63) (h : ¬ 0 < sI S 4 l 8 ∧ ¬ sI S 4 l 4 ≤ sI S 4 l 9 ∧ sI S 4 l 5 + mS M 47 ≤ nI t) : cR τ (wI (wI S 4 l 9 (sI S 4 l 9 + 1)) 4 l 5 (nI t)) (mUpL t l M) := by
  have hAn := R.inv.2.2.2.2.2.1 _ hl
  have hl2 : l < 200 := Nat.lt_of_lt_of_le hl R.nL
  have er := R.mI.A (k := 69) (n := 200) (b := 9) (by decide) hl2
  have ea := R.mI.A (k := 71) (n := 200) (b := 9) (by decide) hl2
  obtain ⟨h1, h2, h3⟩ := h
  rw [(R.int (f := 4) (k := 8) (m := 74) (q := 63) (by decide) hl)] at h1
  rw [(R.int (f := 4) (k := 4) (m := 69) (q := 63) (by decide) hl), (R.int (f := 4) (k := 9) (m := 71) (q := 63) (by decide) hl)] at h2
  rw [(R.int (f := 4) (k := 5) (m := 72) (q := 63) (by decide) hl)] at h3
  have a1 : mA M 73 l < 0 := hAn.2.1.mpr (Int32.le_antisymm (Int32.not_lt.mp h1) hAn.2.2)
  have a2 : mA M 71 l < mA M 69 l := Int32.not_le.mp h2
  have a3 : mE M 71 l < mE M 69 l := nI_slt (by rw [← ea.1, ← er.1]; exact a2) (by omega)
  unfold mUpL
  rw [if_pos ⟨a1, a2, h3⟩, (R.int (f := 4) (k := 9) (m := 71) (q := 63) (by decide) hl)]
  have e1 : mA M 71 l + 1 = nI (mE M 71 l + 1) := by rw [ea.1, nI_1]
  have e2 : nN (nI (mE M 71 l + 1)) = mE M 71 l + 1 := nI_clamp (by omega)
  exact R.up hl (by rw [e1, e2]; exact ⟨rfl, by omega⟩)
theorem cR.upN {τ : Nat → Nat → Nat} {S : awS} {M : aM} (R : cR τ S M) {l t : Nat} (hl : l < mN M 63) (h : ¬ (¬ 0 < sI S 4 l 8 ∧ ¬ sI S 4 l 4 ≤ sI S 4 l 9 ∧ sI S 4 l 5 + mS M 47 ≤ nI t)) : mUpL t l M = M := by
  have hAn := R.inv.2.2.2.2.2.1 _ hl
  unfold mUpL
  refine if_neg (fun z => h ⟨?_, ?_, ?_⟩)
  · rw [(R.int (f := 4) (k := 8) (m := 74) (q := 63) (by decide) hl), hAn.2.1.mp z.1]; exact Int32.lt_irrefl
  · rw [(R.int (f := 4) (k := 4) (m := 69) (q := 63) (by decide) hl), (R.int (f := 4) (k := 9) (m := 71) (q := 63) (by decide) hl)]; exact Int32.not_le.mpr z.2.1
  · rw [(R.int (f := 4) (k := 5) (m := 72) (q := 63) (by decide) hl)]; exact z.2.2
theorem mUpL_s (M : aM) (t l k : Nat) : mS (mUpL t l M) k = mS M k := by
  unfold mUpL
  split <;> rfl
theorem mUp_s (M : aM) (t : Nat) : ∀ n k, mS (mIter (mUpL t) n M) k = mS M k
  | 0, _ => rfl
  | n + 1, k => by
    rw [mIter_s, mUpL_s]
    exact mUp_s M t n k

set_option maxHeartbeats 400000 in
set_option maxRecDepth 100000 in
theorem c_climbRows {E : awE} {S : awS} {M : aM} {τ : Nat → Nat → Nat} {Q : Option Value → awS → Nat → Nat → Prop} (R : cR τ S M) {t : Nat} (h : ∀ S', cR τ S' (mUp M t) → cFm S S' → Q none S' 0 0) : awT true E m_X11_climbRows [.ref (nm 12 0), .int (nI t)] S Q := by
  refine awT.of (by decide) (by decide) (Nat.le_of_ble_eq_true rfl) ?_
  have e_b : mN M 63 ≤ 200 := R.nL
  have L : ∀ (m k : Nat) (SN : awS), k + m = mN M 63 → cR τ SN (mIter (mUpL t) k M) → cFm S SN → awX true E m_X11_climbRows 2 [(2, .int (nI k)), (0, .ref (nm 12 0)), (1, .int (nI t))] [] SN 0 0 Q := by
    intro m
    induction m with
    | zero =>
      intro k SN hm1 RN hFN
      have eN : mN (mIter (mUpL t) k M) 63 = mN M 63 := by unfold mN; rw [mUp_s]
      have hKL : sK SN 5 = (mN M 63, nm 4) := by rw [← eN]; exact RN.lst.2.2.2.2.2.1
      refine ax_iload_n (i := 2) dX11_climbRows_2 rfl rfl ?_
      refine ax_aload_n (i := 0) dX11_climbRows_3 rfl rfl rfl ?_
      refine ax_getR dX11_climbRows_4 fl_X11_28 rfl rfl rfl (RN.tow.1 5 (by decide)) ?_
      refine ax_invV (c := 0) (n := 0) (As := []) dX11_climbRows_7 cb_Jx4a65c_size_8abf5 cv_X11_75.1 cv_X11_75.2.1 cv_X11_75.2.2 rfl (by decide) rfl ⟨Nat.le_of_ble_eq_true rfl, Nat.le_of_ble_eq_true rfl⟩ (Nat.le_of_ble_eq_true rfl) rfl (t_lsSize (q := 5) (by decide) (RN.lq (by decide)) (n := (mN M 63)) (el := nm 4) hKL (by omega) ?_)
      refine ax_icmp_ge (tgt := 38) dX11_climbRows_10 (by decide) (fun c_10 => ?_) (fun c_10 => ?_)
      · have hk2 : k = mN M 63 := by omega
        refine ax_vret dX11_climbRows_38 rfl ?_
        rw [hk2] at RN
        exact h SN RN hFN
      · exact absurd (lt_of_c (b := mN M 63) rfl c_10 (by omega)) (by omega)
    | succ m ih =>
      intro k SN hm1 RN hFN
      have eN : mN (mIter (mUpL t) k M) 63 = mN M 63 := by unfold mN; rw [mUp_s]
      have hKL : sK SN 5 = (mN M 63, nm 4) := by rw [← eN]; exact RN.lst.2.2.2.2.2.1
      refine ax_iload_n (i := 2) dX11_climbRows_2 rfl rfl ?_
      refine ax_aload_n (i := 0) dX11_climbRows_3 rfl rfl rfl ?_
      refine ax_getR dX11_climbRows_4 fl_X11_28 rfl rfl rfl (RN.tow.1 5 (by decide)) ?_
      refine ax_invV (c := 0) (n := 0) (As := []) dX11_climbRows_7 cb_Jx4a65c_size_8abf5 cv_X11_75.1 cv_X11_75.2.1 cv_X11_75.2.2 rfl (by decide) rfl ⟨Nat.le_of_ble_eq_true rfl, Nat.le_of_ble_eq_true rfl⟩ (Nat.le_of_ble_eq_true rfl) rfl (t_lsSize (q := 5) (by decide) (RN.lq (by decide)) (n := (mN M 63)) (el := nm 4) hKL (by omega) ?_)
      refine ax_icmp_ge (tgt := 38) dX11_climbRows_10 (by decide) (fun c_10 => ?_) (fun c_10 => ?_)
      · exact absurd (ge_of_c (b := mN M 63) rfl c_10 (by omega)) (by omega)
      · have hk2 : k < mN M 63 := by omega
        have hkN : k < mN (mIter (mUpL t) k M) 63 := by rw [eN]; exact hk2
        refine ax_aload_n (i := 0) dX11_climbRows_13 rfl rfl rfl ?_
        refine ax_getR dX11_climbRows_14 fl_X11_28 rfl rfl rfl (RN.tow.1 5 (by decide)) ?_
        refine ax_iload_n (i := 2) dX11_climbRows_17 rfl rfl ?_
        refine ax_invV (c := 0) (n := 1) (As := [_]) dX11_climbRows_18 cb_Jx4a65c_get_915e3 cv_X11_115.1 cv_X11_115.2.1 cv_X11_115.2.2 rfl (by decide) rfl ⟨Nat.le_of_ble_eq_true rfl, Nat.le_of_ble_eq_true rfl⟩ (Nat.le_of_ble_eq_true rfl) rfl (t_lsGet (q := 5) (by decide) (RN.lq (by decide)) (n := (mN M 63)) (el := nm 4) hKL (by omega) (by omega) ?_)
        refine ax_cast (c := 4) dX11_climbRows_21 kl_X11_313 rfl (by decide) ?_
        refine ax_iload_n (i := 1) dX11_climbRows_24 rfl rfl ?_
        refine ax_aload_n (i := 0) dX11_climbRows_25 rfl rfl rfl ?_
        refine ax_getI dX11_climbRows_26 fl_X11_64 rfl rfl rfl ?_
        refine ax_invV (c := 4) (n := 2) (As := [_, _]) dX11_climbRows_29 cb_X3_climb cv_X11_315.1 cv_X11_315.2.1 cv_X11_315.2.2 rfl (by decide) rfl ⟨Nat.le_of_ble_eq_true rfl, Nat.le_of_ble_eq_true rfl⟩ (Nat.le_of_ble_eq_true rfl) rfl (c_climb (fun c_29 => ?_) (fun c_29 => ?_))
        · have eUp : sI SN 12 0 14 = mS (mIter (mUpL t) k M) 47 := RN.sca.2.2.2.2.2.1
          rw [eUp] at c_29
          refine ax_iinc (v := _ + 1) (lv' := [(2, _), (0, _), (1, _)]) dX11_climbRows_32 rfl rfl (by decide) rfl ?_
          refine ax_goto (tgt := 2) dX11_climbRows_35 (by decide) ?_
          rw [nI_1]
          exact ax_loc rfl (ih (k + 1) _ (by omega) (by rw [mIter_s]; exact RN.upL hkN c_29) (hFN.tr ((cFm.xI ⟨by decide, by decide, by decide⟩).tr (cFm.xI ⟨by decide, by decide, by decide⟩))))
        · have eUp : sI SN 12 0 14 = mS (mIter (mUpL t) k M) 47 := RN.sca.2.2.2.2.2.1
          rw [eUp] at c_29
          refine ax_iinc (v := _ + 1) (lv' := [(2, _), (0, _), (1, _)]) dX11_climbRows_32 rfl rfl (by decide) rfl ?_
          refine ax_goto (tgt := 2) dX11_climbRows_35 (by decide) ?_
          rw [nI_1]
          exact ax_loc rfl (ih (k + 1) _ (by omega) (by rw [mIter_s, RN.upN hkN c_29]; exact RN) (hFN))
  refine ax_iconst (v := nI 0) dX11_climbRows_0 (by decide) ?_
  refine ax_istore_n (i := 2) (lv' := [(2, _), (0, _), (1, _)]) dX11_climbRows_1 rfl (by decide) rfl ?_
  exact ax_loc rfl (L (mN M 63) 0 S (by omega) R cFm.rf)
