theorem mI.sendC {W : aM} (h : mI W) (ha : mS W 78 = nI (mN W 78)) (h8 : mN W 78 ≤ 8) (l : Nat) : mI (mSendC W l) ∧ ∀ k, mS (mSendC W l) k = mS W k := by
  have h1 : mI (pA W 69 l (mS W 78)) := h.qRv (b := 9) (by decide) ⟨ha, Nat.lt_succ_of_le h8⟩ (by decide)
  exact mSendR_inv h1 l (mN W 78) h8
theorem mI.sendD {M : aM} (h : mI M) (g t l : Nat) (why : Int32) : mI (mSendD M g t l why) :=
  (((((h.qRv (k := 71) (j := l) (b := 9) (v := 0) (by decide) ⟨by decide, by decide⟩ (by decide)).qF (by decide)).qF (by decide)).qF (by decide)).qF (by decide)).qF (by decide)
theorem mS_sendD (M : aM) (g t l : Nat) (why : Int32) (k : Nat) : mS (mSendD M g t l why) k = mS M k := rfl
theorem mI.send {M : aM} (h : mI M) {g : Nat} (t : Nat) (why : Int32) (hg : g < 300) (hl : mN M 63 < 200) : mI (mSend M g t why) ∧ ∀ k, ¬ k = 63 → ¬ k = 78 → mS (mSend M g t why) k = mS M k := by
  have hA := h.sendA t why hg hl
  have hB := mSendB_inv hA g (mN M 63) hl
  have q := mWake_inv hB.1 t
  have hC := mI.sendC q.1 q.2.2.2.1 (by have := q.2.2.2.2; omega) (mN M 63)
  refine ⟨mI.sendD hC.1 g t (mN M 63) why, fun k h1 h2 => ?_⟩
  have e1 := mS_sendD (mSendC (mWake (mSendB (mSendA M g t why) g (mN M 63)) t) (mN M 63)) g t (mN M 63) why k
  have e2 : mS (mSendA M g t why) k = mS M k := by
    show mS (pS M 63 (nI (mN M 63 + 1))) k = mS M k
    rw [mS_pS, if_neg h1]
  exact e1.trans ((hC.2 k).trans ((q.2.1 k h2).trans (((mPlace_inv hB.1 t).2 k).trans ((hB.2 k).trans e2))))
def jdS (M N : aM) : Prop := mI N ∧ ∀ k, ¬ k = 48 → ¬ k = 30 → mS N k = mS M k
theorem mJudgeI_inv {M : aM} (h : mI M) {r : Nat} (hr : r < 16) (t n : Nat) (hn : n ≤ 16) : jdS M (mIter (fun s M => mJudge M r s t) n M) :=
  mIter_inv (fun N => jdS M N) ⟨h, fun _ _ _ => rfl⟩ (fun j a hj q => ⟨mI.judge q.1 t hr (by omega), fun k h1 h2 => (mS_judge a r j t k h1 h2).trans (q.2 k h1 h2)⟩)
theorem mJudgeO_inv {M : aM} (h : mI M) (t n : Nat) (hn : n ≤ 16) : jdS M (mIter (fun r M => mIter (fun s M => mJudge M r s t) (mN M 2) M) n M) :=
  mIter_inv (fun N => jdS M N) ⟨h, fun _ _ _ => rfl⟩ (fun j a hj q => by
    have i := mJudgeI_inv q.1 (r := j) (by omega) t (mN a 2) (mS_b q.1 (by decide))
    exact ⟨i.1, fun k h1 h2 => (i.2 k h1 h2).trans (q.2 k h1 h2)⟩)

set_option maxHeartbeats 4000000 in
set_option maxRecDepth 100000 in
theorem tick_1 {b : Bool} {E : awE} {S : awS} {M : aM} {Q : Option Value → awS → Nat → Nat → Prop} (hm : mOk S) {t : Nat} (hI : mI M) (ht : t ≤ 400) (ht0 : 0 < t) (K : awX b E m_X12_tick 64 [(0, .ref (nm 13 0)), (1, .int (nI t))] [] (putM S (mIter (fun r M => mIter (fun s M => mJudge M r s t) (mN M 2) M) (mN M 6) M)) 0 0 Q) : awX b E m_X12_tick 27 [(2, .int (nI 0)), (0, .ref (nm 13 0)), (1, .int (nI t))] [] (putM S M) 0 0 Q := by
  have hrb : mN M 6 ≤ 16 := mS_b hI (by decide)
  have er : ∀ r, r ≤ 16 → mS (mIter (fun r M => mIter (fun s M => mJudge M r s t) (mN M 2) M) r M) 6 = nI (mN M 6) := fun r hr => ((mJudgeO_inv hI t r hr).2 _ (by decide) (by decide)).trans (mS_nI hI (b := 16) (by decide))
  have L : ∀ (m r : Nat), r + m = mN M 6 → awX b E m_X12_tick 27 [(2, .int (nI r)), (0, .ref (nm 13 0)), (1, .int (nI t))] [] (putM S (mIter (fun r M => mIter (fun s M => mJudge M r s t) (mN M 2) M) r M)) 0 0 Q := by
    intro m
    induction m with
    | zero =>
      intro r hm1 
      refine ax_iload_n (i := 2) dX12_tick_27 rfl rfl ?_
      refine ax_aload_n (i := 0) dX12_tick_28 rfl rfl rfl ?_
      refine ax_mS dX12_tick_29 fl_X12_234 rfl ?_
      refine ax_icmp_ge (tgt := 64) dX12_tick_32 (by decide) (fun c_32 => ?_) (fun c_32 => ?_)
      · have hr2 : r = mN M 6 := Nat.le_antisymm (by omega) (ge_of_n (er r (by omega)) c_32 (by omega))
        subst hr2
        exact ax_loc rfl K
      · exact absurd (lt_of_n (er r (by omega)) c_32 (by omega)) (by omega)
    | succ m ih =>
      intro r hm1 
      refine ax_iload_n (i := 2) dX12_tick_27 rfl rfl ?_
      refine ax_aload_n (i := 0) dX12_tick_28 rfl rfl rfl ?_
      refine ax_mS dX12_tick_29 fl_X12_234 rfl ?_
      refine ax_icmp_ge (tgt := 64) dX12_tick_32 (by decide) (fun c_32 => ?_) (fun c_32 => ?_)
      · exact absurd (ge_of_n (er r (by omega)) c_32 (by omega)) (by omega)
      · have hr2 : r < mN M 6 := lt_of_n (er r (by omega)) c_32 (by omega)
        have hN1 := (mJudgeO_inv hI t r (by omega)).1
        have NX : awX b E m_X12_tick 58 [(2, .int (nI r)), (0, .ref (nm 13 0)), (1, .int (nI t))] [] (putM S (mIter (fun r M => mIter (fun s M => mJudge M r s t) (mN M 2) M) (r + 1) M)) 0 0 Q := by
          refine ax_iinc (v := _ + 1) (lv' := [(2, _), (0, .ref (nm 13 0)), (1, _)]) dX12_tick_58 rfl rfl (by decide) rfl ?_
          refine ax_goto (tgt := 27) dX12_tick_61 (by decide) ?_
          rw [nI_1]
          exact ax_loc rfl (ih (r + 1) (by omega))
        have NX : awX b E m_X12_tick 58 [(2, .int (nI r)), (0, .ref (nm 13 0)), (1, .int (nI t))] [] (putM S (mIter (fun s M => mJudge M r s t) (mN (mIter (fun r M => mIter (fun s M => mJudge M r s t) (mN M 2) M) r M) 2) (mIter (fun r M => mIter (fun s M => mJudge M r s t) (mN M 2) M) r M))) 0 0 Q := NX
        generalize hN : mIter (fun r M => mIter (fun s M => mJudge M r s t) (mN M 2) M) r M = N at hN1 NX ⊢
        have hsb : mN N 2 ≤ 16 := mS_b hN1 (by decide)
        have en : ∀ k, k ≤ 16 → mS (mIter (fun s M => mJudge M r s t) k N) 2 = nI (mN N 2) := fun k hk => ((mJudgeI_inv hN1 (r := r) (by omega) t k hk).2 _ (by decide) (by decide)).trans (mS_nI hN1 (b := 16) (by decide))
        have IN : ∀ (m k : Nat), k + m = mN N 2 → awX b E m_X12_tick 37 [(3, .int (nI k)), (2, .int (nI r)), (0, .ref (nm 13 0)), (1, .int (nI t))] [] (putM S (mIter (fun s M => mJudge M r s t) k N)) 0 0 Q := by
          intro m
          induction m with
          | zero =>
            intro k hm1 
            refine ax_iload_n (i := 3) dX12_tick_37 rfl rfl ?_
            refine ax_aload_n (i := 0) dX12_tick_38 rfl rfl rfl ?_
            refine ax_mS dX12_tick_39 fl_X12_231 rfl ?_
            refine ax_icmp_ge (tgt := 58) dX12_tick_42 (by decide) (fun c_42 => ?_) (fun c_42 => ?_)
            · have hk2 : k = mN N 2 := Nat.le_antisymm (by omega) (ge_of_n (en k (by omega)) c_42 (by omega))
              subst hk2
              exact ax_loc rfl NX
            · exact absurd (lt_of_n (en k (by omega)) c_42 (by omega)) (by omega)
          | succ m ih =>
            intro k hm1 
            refine ax_iload_n (i := 3) dX12_tick_37 rfl rfl ?_
            refine ax_aload_n (i := 0) dX12_tick_38 rfl rfl rfl ?_
            refine ax_mS dX12_tick_39 fl_X12_231 rfl ?_
            refine ax_icmp_ge (tgt := 58) dX12_tick_42 (by decide) (fun c_42 => ?_) (fun c_42 => ?_)
            · exact absurd (ge_of_n (en k (by omega)) c_42 (by omega)) (by omega)
            · have hk2 : k < mN N 2 := lt_of_n (en k (by omega)) c_42 (by omega)
              have hP := (mJudgeI_inv hN1 (r := r) (by omega) t k (by omega)).1
              generalize hNP : mIter (fun s M => mJudge M r s t) k N = P at hP ⊢
              refine ax_aload_n (i := 0) dX12_tick_45 rfl rfl rfl ?_
              refine ax_iload_n (i := 2) dX12_tick_46 rfl rfl ?_
              refine ax_iload_n (i := 3) dX12_tick_47 rfl rfl ?_
              refine ax_iload_n (i := 1) dX12_tick_48 rfl rfl ?_
              refine ax_invV (c := 13) (n := 3) (As := [_, _, _]) dX12_tick_49 cb_X12_judge cv_X12_372.1 cv_X12_372.2.1 cv_X12_372.2.2 rfl (by decide) rfl ⟨Nat.le_of_ble_eq_true rfl, Nat.le_of_ble_eq_true rfl⟩ (Nat.le_of_ble_eq_true rfl) rfl (t_judge hm hP (by omega) (by omega) ht ht0 ?_)
              refine ax_iinc (v := _ + 1) (lv' := [(3, _), (2, _), (0, _), (1, _)]) dX12_tick_52 rfl rfl (by decide) rfl ?_
              refine ax_mE (M2 := mIter (fun s M => mJudge M r s t) (k + 1) N) (by rw [show mIter (fun s M => mJudge M r s t) (k + 1) N = mJudge P r k t by rw [← hNP]; rfl]) ?_
              refine ax_goto (tgt := 37) dX12_tick_55 (by decide) ?_
              rw [nI_1]
              exact ax_loc rfl (ih (k + 1) (by omega))
        refine ax_iconst (v := nI 0) dX12_tick_35 (by decide) ?_
        refine ax_istore_n (i := 3) (lv' := [(3, _), (2, _), (0, _), (1, _)]) dX12_tick_36 rfl (by decide) rfl ?_
        exact ax_loc rfl (IN (mN N 2) 0 (by omega))
  exact L (mN M 6) 0 (by omega)
