set_option maxHeartbeats 4000000 in
set_option maxRecDepth 100000 in
theorem send_w {b : Bool} {E : awE} {S : awS} {M : aM} {Q : Option Value → awS → Nat → Nat → Prop} (hm : mOk S) {g t l : Nat} {why : Int32} {B : aM} (hB : mI B) (ht : t < 2 ^ 20) (hg : g < 300) (hl : l < 200) (h : Q none (putM S (mSendD (mSendC (mWake B t) l) g t l why)) 0 0) : awX b E m_X12_send 162 [(4, .int (nI l)), (0, .ref (nm 13 0)), (1, .int (nI g)), (2, .int (nI t)), (3, .int why)] [] (putM S B) 0 0 Q := by
  have hw : mI (mWake B t) ∧ mS (mWake B t) 78 = nI (mN (mWake B t) 78) ∧ mN (mWake B t) 78 ≤ 8 := by
    have q := mWake_inv hB t
    exact ⟨q.1, q.2.2.2.1, by have := q.2.2.2.2; omega⟩
  refine ax_aload_n (i := 0) dX12_send_162 rfl rfl rfl ?_
  refine ax_iload_n (i := 2) dX12_send_163 rfl rfl ?_
  refine ax_invV (c := 13) (n := 1) (As := [_]) dX12_send_164 cb_X12_wake cv_X12_369.1 cv_X12_369.2.1 cv_X12_369.2.2 rfl (by decide) rfl ⟨Nat.le_of_ble_eq_true rfl, Nat.le_of_ble_eq_true rfl⟩ (Nat.le_of_ble_eq_true rfl) rfl (t_wake hm hB ht ?_)
  generalize hW : mWake B t = W at hw h ⊢
  refine ax_aload_n (i := 0) dX12_send_167 rfl rfl rfl ?_
  refine ax_mR hm dX12_send_168 fl_X12_186 rfl (by decide) ?_
  refine ax_iload dX12_send_171 rfl ?_
  refine ax_aload_n (i := 0) dX12_send_173 rfl rfl rfl ?_
  refine ax_mS dX12_send_174 fl_X12_356 rfl ?_
  refine ax_mPIN (N := 200) hm dX12_send_177 rfl rfl (by decide) (by omega) ?_
  refine ax_iconst (v := nI 0) dX12_send_178 (by decide) ?_
  refine ax_istore (lv' := [(5, _), (4, _), (0, _), (1, _), (2, _), (3, _)]) dX12_send_179 (by decide) rfl ?_
  exact ax_loc rfl (send_3 hm (hw.1.qRv (k := 69) (b := 9) (by decide) ⟨hw.2.1, Nat.lt_succ_of_le hw.2.2⟩ (by decide)) hw.2.1 hw.2.2 hg hl h)
theorem mSendB_inv {M : aM} (h : mI M) (g l : Nat) (hl : l < 200) : mI (mSendB M g l) ∧ ∀ k, mS (mSendB M g l) k = mS M k := by
  have hab : mN M 30 ≤ 300 := mS_b h (by decide)
  have i1 := mSend1_inv h g l (mN M 30) hl hab
  have i2 := mSend2_inv i1.1 g l (mN M 30) hl hab
  exact ⟨i2.1, fun k => (i2.2 k).trans (i1.2 k)⟩

set_option maxHeartbeats 4000000 in
set_option maxRecDepth 100000 in
theorem send_b {b : Bool} {E : awE} {S : awS} {M : aM} {Q : Option Value → awS → Nat → Nat → Prop} (hm : mOk S) {g t l : Nat} {why : Int32} (hI : mI M) (ht : t < 2 ^ 20) (hg : g < 300) (hl : l < 200) (h : Q none (putM S (mSendD (mSendC (mWake (mSendB M g l) t) l) g t l why)) 0 0) : awX b E m_X12_send 95 [(4, .int (nI l)), (0, .ref (nm 13 0)), (1, .int (nI g)), (2, .int (nI t)), (3, .int why)] [] (putM S (mIter (mSend1 g l) (mN M 30) M)) 0 0 Q := by
  have K0 := send_w (b := b) (E := E) (M := M) hm (mSendB_inv hI g l hl).1 ht hg hl h
  have i1 := mSend1_inv hI g l (mN M 30) hl (mS_b hI (by decide))
  have eN : mN (mIter (mSend1 g l) (mN M 30) M) 30 = mN M 30 := congrArg Int32.toNatClampNeg (i1.2 30)
  have K : awX b E m_X12_send 162 [(4, .int (nI l)), (0, .ref (nm 13 0)), (1, .int (nI g)), (2, .int (nI t)), (3, .int why)] [] (putM S (mIter (mSend2 g l) (mN (mIter (mSend1 g l) (mN M 30) M) 30) (mIter (mSend1 g l) (mN M 30) M))) 0 0 Q := by rw [eN]; exact K0
  refine ax_iconst (v := nI 0) dX12_send_95 (by decide) ?_
  refine ax_istore (lv' := [(5, _), (4, _), (0, _), (1, _), (2, _), (3, _)]) dX12_send_96 (by decide) rfl ?_
  exact ax_loc rfl (send_2 hm i1.1 hl K)
set_option maxHeartbeats 4000000 in
set_option maxRecDepth 100000 in
theorem t_send {b : Bool} {E : awE} {S : awS} {M : aM} {Q : Option Value → awS → Nat → Nat → Prop} (hm : mOk S) {g t : Nat} {why : Int32} (hI : mI M) (ht : t < 2 ^ 20) (hg : g < 300) (hlt : mN M 63 < 200) (h : Q none (putM S (mSend M g t why)) 0 0) : awT b E m_X12_send [.ref (nm 13 0), .int (nI g), .int (nI t), .int why] (putM S M) Q := by
  refine awT.of (by decide) (by decide) (Nat.le_of_ble_eq_true rfl) ?_
  have el : mS M 63 = nI (mN M 63) := mS_nI hI (b := 200) (by decide)
  have hA := hI.sendA t why hg hlt
  have h : Q none (putM S (mSendD (mSendC (mWake (mSendB (mSendA M g t why) g (mN M 63)) t) (mN M 63)) g t (mN M 63) why)) 0 0 := h
  refine ax_aload_n (i := 0) dX12_send_0 rfl rfl rfl ?_
  refine ax_mS dX12_send_1 fl_X12_362 rfl ?_
  refine ax_top el ?_
  refine ax_istore (lv' := [(4, _), (0, _), (1, _), (2, _), (3, _)]) dX12_send_4 (by decide) rfl ?_
  refine ax_aload_n (i := 0) dX12_send_6 rfl rfl rfl ?_
  refine ax_dup dX12_send_7 rfl ?_
  refine ax_mS dX12_send_8 fl_X12_362 rfl ?_
  refine ax_top el ?_
  refine ax_iconst (v := 1) dX12_send_11 (by decide) ?_
  refine ax_iadd1 dX12_send_12 ?_
  refine ax_mPS dX12_send_13 fl_X12_362 rfl rfl ?_
  refine ax_aload_n (i := 0) dX12_send_16 rfl rfl rfl ?_
  refine ax_mR hm dX12_send_17 fl_X12_171 rfl (by decide) ?_
  refine ax_iload dX12_send_20 rfl ?_
  refine ax_iload_n (i := 2) dX12_send_22 rfl rfl ?_
  refine ax_mPIN (N := 200) hm dX12_send_23 rfl rfl (by decide) (by omega) ?_
  refine ax_aload_n (i := 0) dX12_send_24 rfl rfl rfl ?_
  refine ax_mR hm dX12_send_25 fl_X12_174 rfl (by decide) ?_
  refine ax_iload dX12_send_28 rfl ?_
  refine ax_iload_n (i := 1) dX12_send_30 rfl rfl ?_
  refine ax_mPIN (N := 200) hm dX12_send_31 rfl rfl (by decide) (by omega) ?_
  refine ax_aload_n (i := 0) dX12_send_32 rfl rfl rfl ?_
  refine ax_mR hm dX12_send_33 fl_X12_177 rfl (by decide) ?_
  refine ax_iload dX12_send_36 rfl ?_
  refine ax_iload_n (i := 3) dX12_send_38 rfl rfl ?_
  refine ax_mPIN (N := 200) hm dX12_send_39 rfl rfl (by decide) (by omega) ?_
  refine ax_aload_n (i := 0) dX12_send_40 rfl rfl rfl ?_
  refine ax_mR hm dX12_send_41 fl_X12_180 rfl (by decide) ?_
  refine ax_iload dX12_send_44 rfl ?_
  refine ax_iconst (v := 0) dX12_send_46 (by decide) ?_
  refine ax_mPIN (N := 200) hm dX12_send_47 rfl rfl (by decide) (by omega) ?_
  refine ax_iconst (v := nI 0) dX12_send_48 (by decide) ?_
  refine ax_istore (lv' := [(5, _), (4, _), (0, _), (1, _), (2, _), (3, _)]) dX12_send_49 (by decide) rfl ?_
  refine ax_mE (M2 := mSendA M g t why) rfl ?_
  exact ax_loc rfl (send_1 hm hA (by omega) (send_b hm hA ht hg (by omega) h))
