theorem mGrpT_inv {M : aM} (h : mI M) (t n : Nat) (hn : n ≤ 300) : mI (mIter (mGrpT t) n M) ∧ ∀ k, ¬ k = 63 → ¬ k = 78 → mS (mIter (mGrpT t) n M) k = mS M k :=
  mIter_inv (fun N => mI N ∧ ∀ k, ¬ k = 63 → ¬ k = 78 → mS N k = mS M k) ⟨h, fun _ _ _ => rfl⟩ (fun j a hj q => by
    unfold mGrpT
    simp only []
    split
    · rename_i c
      have e := mS_nI q.1 (k := 63) (b := 200) (by decide)
      have b_ := mS_b q.1 (k := 63) (b := 200) (by decide)
      have c2 := c.2
      rw [e] at c2
      have i := mI.send q.1 t (mReason a j t) (g := j) (by omega) ((nI_ltI (by omega) (by decide)).mp c2)
      exact ⟨i.1, fun k h1 h2 => (i.2 k h1 h2).trans (q.2 k h1 h2)⟩
    · exact q)

set_option maxHeartbeats 4000000 in
set_option maxRecDepth 100000 in
theorem tick_2 {b : Bool} {E : awE} {S : awS} {M : aM} {Q : Option Value → awS → Nat → Nat → Prop} (hm : mOk S) {t : Nat} {l0 : Int32} (hI : mI M) (ht : t < 2 ^ 20) (h : Q (some (.int (mS (mIter (mGrpT t) (mN M 48) M) 63 - l0))) (putM S (pS (mIter (mGrpT t) (mN M 48) M) 1 (nI t))) 0 0) : awX b E m_X12_tick 81 [(3, .int (nI 0)), (2, .int l0), (0, .ref (nm 13 0)), (1, .int (nI t))] [] (putM S M) 0 0 Q := by
  have hgb : mN M 48 ≤ 300 := mS_b hI (by decide)
  have en : ∀ k, k ≤ 300 → mS (mIter (mGrpT t) k M) 48 = nI (mN M 48) := fun k hk => ((mGrpT_inv hI t k hk).2 _ (by decide) (by decide)).trans (mS_nI hI (b := 300) (by decide))
  have L : ∀ (m k : Nat), k + m = mN M 48 → awX b E m_X12_tick 81 [(3, .int (nI k)), (2, .int l0), (0, .ref (nm 13 0)), (1, .int (nI t))] [] (putM S (mIter (mGrpT t) k M)) 0 0 Q := by
    intro m
    induction m with
    | zero =>
      intro k hm1 
      refine ax_iload_n (i := 3) dX12_tick_81 rfl rfl ?_
      refine ax_aload_n (i := 0) dX12_tick_82 rfl rfl rfl ?_
      refine ax_mS dX12_tick_83 fl_X12_333 rfl ?_
      refine ax_icmp_ge (tgt := 126) dX12_tick_86 (by decide) (fun c_86 => ?_) (fun c_86 => ?_)
      · have hk2 : k = mN M 48 := Nat.le_antisymm (by omega) (ge_of_n (en k (by omega)) c_86 (by omega))
        subst hk2
        refine ax_aload_n (i := 0) dX12_tick_126 rfl rfl rfl ?_
        refine ax_iload_n (i := 1) dX12_tick_127 rfl rfl ?_
        refine ax_mPS dX12_tick_128 fl_X12_262 rfl rfl ?_
        refine ax_aload_n (i := 0) dX12_tick_131 rfl rfl rfl ?_
        refine ax_mS dX12_tick_132 fl_X12_362 rfl ?_
        refine ax_iload_n (i := 2) dX12_tick_135 rfl rfl ?_
        refine ax_isub dX12_tick_136 ?_
        refine ax_iret dX12_tick_137 rfl rfl ?_
        exact h
      · exact absurd (lt_of_n (en k (by omega)) c_86 (by omega)) (by omega)
    | succ m ih =>
      intro k hm1 
      refine ax_iload_n (i := 3) dX12_tick_81 rfl rfl ?_
      refine ax_aload_n (i := 0) dX12_tick_82 rfl rfl rfl ?_
      refine ax_mS dX12_tick_83 fl_X12_333 rfl ?_
      refine ax_icmp_ge (tgt := 126) dX12_tick_86 (by decide) (fun c_86 => ?_) (fun c_86 => ?_)
      · exact absurd (ge_of_n (en k (by omega)) c_86 (by omega)) (by omega)
      · have hk2 : k < mN M 48 := lt_of_n (en k (by omega)) c_86 (by omega)
        have hP := (mGrpT_inv hI t k (by omega)).1
        generalize hN : mIter (mGrpT t) k M = N at hP ⊢
        refine ax_aload_n (i := 0) dX12_tick_89 rfl rfl rfl ?_
        refine ax_iload_n (i := 3) dX12_tick_90 rfl rfl ?_
        refine ax_iload_n (i := 1) dX12_tick_91 rfl rfl ?_
        refine ax_invV (c := 13) (n := 2) (As := [_, _]) dX12_tick_92 cb_X12_reason cv_X12_381.1 cv_X12_381.2.1 cv_X12_381.2.2 rfl (by decide) rfl ⟨Nat.le_of_ble_eq_true rfl, Nat.le_of_ble_eq_true rfl⟩ (Nat.le_of_ble_eq_true rfl) rfl (t_reason hm hP (by omega) ?_)
        refine ax_istore (lv' := [(4, _), (3, _), (2, _), (0, _), (1, _)]) dX12_tick_95 (by decide) rfl ?_
        refine ax_iload dX12_tick_97 rfl ?_
        refine ax_if_le (tgt := 120) dX12_tick_99 (by decide) (fun c_99 => ?_) (fun c_99 => ?_)
        · refine ax_iinc (v := _ + 1) (lv' := [(3, _), (4, _), (2, _), (0, _), (1, _)]) dX12_tick_120 rfl rfl (by decide) rfl ?_
          refine ax_mE (M2 := mIter (mGrpT t) (k + 1) M) (by rw [show mIter (mGrpT t) (k + 1) M = mGrpT t k N by rw [← hN]; rfl]; unfold mGrpT; simp only []; rw [if_neg (show ¬ (0 < mReason N k t ∧ mS N 63 < 200) from fun z => absurd c_99 (Int32.not_le.mpr z.1))]) ?_
          refine ax_goto (tgt := 81) dX12_tick_123 (by decide) ?_
          rw [nI_1]
          exact ax_loc rfl (ih (k + 1) (by omega))
        · refine ax_aload_n (i := 0) dX12_tick_102 rfl rfl rfl ?_
          refine ax_mS dX12_tick_103 fl_X12_362 rfl ?_
          refine ax_sipush (v := 200) dX12_tick_106 (by decide) ?_
          refine ax_icmp_ge (tgt := 120) dX12_tick_109 (by decide) (fun c_109 => ?_) (fun c_109 => ?_)
          · refine ax_iinc (v := _ + 1) (lv' := [(3, _), (4, _), (2, _), (0, _), (1, _)]) dX12_tick_120 rfl rfl (by decide) rfl ?_
            refine ax_mE (M2 := mIter (mGrpT t) (k + 1) M) (by rw [show mIter (mGrpT t) (k + 1) M = mGrpT t k N by rw [← hN]; rfl]; unfold mGrpT; simp only []; rw [if_neg (show ¬ (0 < mReason N k t ∧ mS N 63 < 200) from fun z => absurd c_109 (Int32.not_le.mpr z.2))]) ?_
            refine ax_goto (tgt := 81) dX12_tick_123 (by decide) ?_
            rw [nI_1]
            exact ax_loc rfl (ih (k + 1) (by omega))
          · have hlt : mN N 63 < 200 := lt_of_c (b := 200) (mS_nI hP (b := 200) (by decide)) c_109 (Nat.lt_of_le_of_lt (mS_b hP (k := 63) (b := 200) (by decide)) (by decide))
            refine ax_aload_n (i := 0) dX12_tick_112 rfl rfl rfl ?_
            refine ax_iload_n (i := 3) dX12_tick_113 rfl rfl ?_
            refine ax_iload_n (i := 1) dX12_tick_114 rfl rfl ?_
            refine ax_iload dX12_tick_115 rfl ?_
            refine ax_invV (c := 13) (n := 3) (As := [_, _, _]) dX12_tick_117 cb_X12_send cv_X12_384.1 cv_X12_384.2.1 cv_X12_384.2.2 rfl (by decide) rfl ⟨Nat.le_of_ble_eq_true rfl, Nat.le_of_ble_eq_true rfl⟩ (Nat.le_of_ble_eq_true rfl) rfl (t_send hm hP ht (by omega) hlt ?_)
            refine ax_iinc (v := _ + 1) (lv' := [(3, _), (4, _), (2, _), (0, _), (1, _)]) dX12_tick_120 rfl rfl (by decide) rfl ?_
            refine ax_mE (M2 := mIter (mGrpT t) (k + 1) M) (by rw [show mIter (mGrpT t) (k + 1) M = mGrpT t k N by rw [← hN]; rfl]; unfold mGrpT; simp only []; rw [if_pos (show (0 < mReason N k t ∧ mS N 63 < 200) from ⟨Int32.not_le.mp c_99, Int32.not_le.mp c_109⟩)]) ?_
            refine ax_goto (tgt := 81) dX12_tick_123 (by decide) ?_
            rw [nI_1]
            exact ax_loc rfl (ih (k + 1) (by omega))
  exact L (mN M 48) 0 (by omega)
