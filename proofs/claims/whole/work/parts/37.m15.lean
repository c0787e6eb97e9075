set_option maxHeartbeats 4000000 in
set_option maxRecDepth 100000 in
theorem tick_3 {b : Bool} {E : awE} {S : awS} {M : aM} {Q : Option Value → awS → Nat → Nat → Prop} (hm : mOk S) {t : Nat} (hI : mI M) (ht : t < 2 ^ 20) (h : Q (some (.int (mS (mIter (mGrpT t) (mN (mUp (mClear M t) t) 48) (mUp (mClear M t) t)) 63 - mS (mUp (mClear M t) t) 63))) (putM S (pS (mIter (mGrpT t) (mN (mUp (mClear M t) t) 48) (mUp (mClear M t) t)) 1 (nI t))) 0 0) : awX b E m_X12_tick 64 [(0, .ref (nm 13 0)), (1, .int (nI t))] [] (putM S M) 0 0 Q := by
  have hC : mI (mClear M t) := (mClear_inv hI t (mN M 30)).1
  have hU : mI (mUp (mClear M t) t) := (mUp_inv hC t (mN (mClear M t) 63) (mS_b hC (by decide))).1
  refine ax_aload_n (i := 0) dX12_tick_64 rfl rfl rfl ?_
  refine ax_iload_n (i := 1) dX12_tick_65 rfl rfl ?_
  refine ax_invV (c := 13) (n := 1) (As := [_]) dX12_tick_66 cb_X12_clearAll cv_X12_375.1 cv_X12_375.2.1 cv_X12_375.2.2 rfl (by decide) rfl ⟨Nat.le_of_ble_eq_true rfl, Nat.le_of_ble_eq_true rfl⟩ (Nat.le_of_ble_eq_true rfl) rfl (t_clearAll hm hI ?_)
  refine ax_aload_n (i := 0) dX12_tick_69 rfl rfl rfl ?_
  refine ax_iload_n (i := 1) dX12_tick_70 rfl rfl ?_
  refine ax_invV (c := 13) (n := 1) (As := [_]) dX12_tick_71 cb_X12_goUp cv_X12_378.1 cv_X12_378.2.1 cv_X12_378.2.2 rfl (by decide) rfl ⟨Nat.le_of_ble_eq_true rfl, Nat.le_of_ble_eq_true rfl⟩ (Nat.le_of_ble_eq_true rfl) rfl (t_goUp hm hC ?_)
  refine ax_aload_n (i := 0) dX12_tick_74 rfl rfl rfl ?_
  refine ax_mS dX12_tick_75 fl_X12_362 rfl ?_
  refine ax_istore_n (i := 2) (lv' := [(2, _), (0, _), (1, _)]) dX12_tick_78 rfl (by decide) rfl ?_
  refine ax_iconst (v := nI 0) dX12_tick_79 (by decide) ?_
  refine ax_istore_n (i := 3) (lv' := [(3, _), (2, _), (0, _), (1, _)]) dX12_tick_80 rfl (by decide) rfl ?_
  exact ax_loc rfl (tick_2 hm hU ht h)
theorem tickM_eq (M : aM) (t : Nat) : mTickM M t = pS (mIter (mGrpT t) (mN (mUp (mClear (mIter (fun r M => mIter (fun s M => mJudge M r s t) (mN M 2) M) (mN M 6) M) t) t) 48) (mUp (mClear (mIter (fun r M => mIter (fun s M => mJudge M r s t) (mN M 2) M) (mN M 6) M) t) t)) 1 (nI t) := rfl
theorem tickR_eq (M : aM) (t : Nat) : mTickR M t = mS (mTickM M t) 63 - mS (mUp (mClear (mIter (fun r M => mIter (fun s M => mJudge M r s t) (mN M 2) M) (mN M 6) M) t) t) 63 := rfl
theorem mS_cl (M : aM) (v : Int32) : mS (pS M 1 v) 63 = mS M 63 := rfl

theorem fin2t {Q : Option Value → awS → Nat → Nat → Prop} {S : awS} {p : aM × Int32} {M : aM} {v : Int32} {kc ks : Nat} (h : Q (some (.int p.2)) (putM S p.1) kc ks) (e : p = (M, v)) : Q (some (.int v)) (putM S M) kc ks := fin2 h e
theorem mT0_closed (M : aM) : mS (pS M 0 0) 1 = mS M 1 := rfl

set_option maxHeartbeats 4000000 in
set_option maxRecDepth 100000 in
theorem t_tick {b : Bool} {E : awE} {S : awS} {M : aM} {Q : Option Value → awS → Nat → Nat → Prop} (hm : mOk S) (hI : mI M) (h : Q (some (.int (mTick M).2)) (putM S (mTick M).1) 0 0) : awT b E m_X12_tick [.ref (nm 13 0)] (putM S M) Q := by
  refine awT.of (by decide) (by decide) (Nat.le_of_ble_eq_true rfl) ?_
  have ec1 : mS (pS M 0 0) 1 = mS M 1 := mT0_closed M
  have ec : mS (pS M 0 0) 1 = nI (mN M 1) := ec1.trans (mS_nI hI (b := 400) (by decide))
  have hcb : mN M 1 ≤ 400 := mS_b hI (by decide)
  refine ax_aload_n (i := 0) dX12_tick_0 rfl rfl rfl ?_
  refine ax_iconst (v := 0) dX12_tick_1 (by decide) ?_
  refine ax_mPS dX12_tick_2 fl_X12_228 rfl rfl ?_
  refine ax_aload_n (i := 0) dX12_tick_5 rfl rfl rfl ?_
  refine ax_mS dX12_tick_6 fl_X12_262 rfl ?_
  refine ax_sipush (v := 400) dX12_tick_9 (by decide) ?_
  refine ax_icmp_ne (tgt := 18) dX12_tick_12 (by decide) (fun c_12 => ?_) (fun c_12 => ?_)
  · have hc : ¬ mN M 1 = 400 := fun z => c_12 (by rw [ec, z]; rfl)
    have h2 : Q (some (.int (mTickR (mT0 M) (mN M 1 + 1)))) (putM S (mTickM (mT0 M) (mN M 1 + 1))) 0 0 := fin2t h (if_neg (fun z => c_12 (ec1.trans z)))
    rw [tickR_eq, tickM_eq, mS_cl] at h2
    refine ax_aload_n (i := 0) dX12_tick_18 rfl rfl rfl ?_
    refine ax_mS dX12_tick_19 fl_X12_262 rfl ?_
    refine ax_top ec ?_
    refine ax_iconst (v := 1) dX12_tick_22 (by decide) ?_
    refine ax_iadd1 dX12_tick_23 ?_
    refine ax_istore_n (i := 1) (lv' := [(1, _), (0, _)]) dX12_tick_24 rfl (by decide) rfl ?_
    refine ax_iconst (v := nI 0) dX12_tick_25 (by decide) ?_
    refine ax_istore_n (i := 2) (lv' := [(2, _), (1, _), (0, _)]) dX12_tick_26 rfl (by decide) rfl ?_
    refine ax_mE (M2 := mT0 M) rfl ?_
    exact ax_loc rfl (tick_1 hm hI.t0 (by omega) (by omega) (tick_3 hm (mJudgeO_inv hI.t0 (mN M 1 + 1) (mN (mT0 M) 6) (mS_b hI.t0 (by decide))).1 (by omega) h2))
  · refine ax_bipush (v := -2) dX12_tick_15 (by decide) ?_
    refine ax_iret dX12_tick_17 rfl rfl ?_
    exact fin2 h (if_pos (ec1.symm.trans (Classical.not_not.mp c_12)))
