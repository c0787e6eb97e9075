theorem mI.clearX {M : aM} (h : mI M) (t x : Nat) : mI (mClearX M t x) := by
  have h2 : mI (pA (pA M 35 x (bC (mA M 34 x = 0 ∧ mHeld M x))) 36 x (bC (mA (pA M 35 x (bC (mA M 34 x = 0 ∧ mHeld M x))) 34 x = 0 ∧ mSil (pA M 35 x (bC (mA M 34 x = 0 ∧ mHeld M x))) x t))) := (h.qF (by decide)).qF (by decide)
  unfold mClearX
  simp only []
  split
  · exact (h2.qF (by decide)).qF (by decide)
  · split
    · exact (h2.qF (by decide)).qF (by decide)
    · exact h2
theorem mS_clearX (M : aM) (t x k : Nat) : mS (mClearX M t x) k = mS M k := by
  unfold mClearX
  simp only []
  split
  · rfl
  · split <;> rfl
theorem mClear_inv {M : aM} (h : mI M) (t n : Nat) : mI (mIter (fun x M => mClearX M t x) n M) ∧ ∀ k, mS (mIter (fun x M => mClearX M t x) n M) k = mS M k :=
  mIter_inv (fun N => mI N ∧ ∀ k, mS N k = mS M k) ⟨h, fun _ => rfl⟩ (fun j a _ q => ⟨q.1.clearX t j, fun k => (mS_clearX a t j k).trans (q.2 k)⟩)

set_option maxHeartbeats 4000000 in
set_option maxRecDepth 100000 in
theorem t_clearAll {b : Bool} {E : awE} {S : awS} {M : aM} {Q : Option Value → awS → Nat → Nat → Prop} (hm : mOk S) {t : Nat} (hI : mI M) (h : Q none (putM S (mClear M t)) 0 0) : awT b E m_X12_clearAll [.ref (nm 13 0), .int (nI t)] (putM S M) Q := by
  refine awT.of (by decide) (by decide) (Nat.le_of_ble_eq_true rfl) ?_
  have en : ∀ k, mS (mIter (fun x M => mClearX M t x) k M) 30 = nI (mN M 30) := fun k => ((mClear_inv hI t k).2 _).trans (mS_nI hI (b := 300) (by decide))
  have hab : mN M 30 ≤ 300 := mS_b hI (by decide)
  have L : ∀ (m k : Nat), k + m = mN M 30 → awX b E m_X12_clearAll 2 [(2, .int (nI k)), (0, .ref (nm 13 0)), (1, .int (nI t))] [] (putM S (mIter (fun x M => mClearX M t x) k M)) 0 0 Q := by
    intro m
    induction m with
    | zero =>
      intro k hm1 
      refine ax_iload_n (i := 2) dX12_clearAll_2 rfl rfl ?_
      refine ax_aload_n (i := 0) dX12_clearAll_3 rfl rfl rfl ?_
      refine ax_mS dX12_clearAll_4 fl_X12_284 rfl ?_
      refine ax_icmp_ge (tgt := 140) dX12_clearAll_7 (by decide) (fun c_7 => ?_) (fun c_7 => ?_)
      · have hk2 : k = mN M 30 := Nat.le_antisymm (by omega) (ge_of_n (en k) c_7 (by omega))
        subst hk2
        refine ax_vret dX12_clearAll_140 rfl ?_
        exact h
      · exact absurd (lt_of_n (en k) c_7 (by omega)) (by omega)
    | succ m ih =>
      intro k hm1 
      refine ax_iload_n (i := 2) dX12_clearAll_2 rfl rfl ?_
      refine ax_aload_n (i := 0) dX12_clearAll_3 rfl rfl rfl ?_
      refine ax_mS dX12_clearAll_4 fl_X12_284 rfl ?_
      refine ax_icmp_ge (tgt := 140) dX12_clearAll_7 (by decide) (fun c_7 => ?_) (fun c_7 => ?_)
      · exact absurd (ge_of_n (en k) c_7 (by omega)) (by omega)
      · have hk2 : k < mN M 30 := lt_of_n (en k) c_7 (by omega)
        have hP := (mClear_inv hI t k).1
        generalize hN : mIter (fun x M => mClearX M t x) k M = N at hP ⊢
        refine ax_aload_n (i := 0) dX12_clearAll_10 rfl rfl rfl ?_
        refine ax_mR hm dX12_clearAll_11 fl_X12_95 rfl (by decide) ?_
        refine ax_iload_n (i := 2) dX12_clearAll_14 rfl rfl ?_
        refine ax_mIN (N := 300) hm dX12_clearAll_15 rfl rfl (by decide) (by omega) ?_
        refine ax_if_ne (tgt := 23) dX12_clearAll_16 (by decide) (fun c_16 => ?_) (fun c_16 => ?_)
        · refine ax_iconst (v := 0) dX12_clearAll_23 (by decide) ?_
          refine ax_istore_n (i := 3) (lv' := [(3, _), (2, _), (0, _), (1, _)]) dX12_clearAll_24 rfl (by decide) rfl ?_
          refine ax_aload_n (i := 0) dX12_clearAll_25 rfl rfl rfl ?_
          refine ax_mR hm dX12_clearAll_26 fl_X12_98 rfl (by decide) ?_
          refine ax_iload_n (i := 2) dX12_clearAll_29 rfl rfl ?_
          refine ax_iload_n (i := 3) dX12_clearAll_30 rfl rfl ?_
          refine ax_if_eq (tgt := 46) dX12_clearAll_31 (by decide) (fun _ => ?_) (fun z => absurd (by decide) z)
          refine ax_iconst (v := 0) dX12_clearAll_46 (by decide) ?_
          refine ax_mPZN (N := 300) hm dX12_clearAll_47 rfl rfl (by decide) (by omega) rfl ?_
          refine ax_aload_n (i := 0) dX12_clearAll_48 rfl rfl rfl ?_
          refine ax_mR hm dX12_clearAll_49 fl_X12_101 rfl (by decide) ?_
          refine ax_iload_n (i := 2) dX12_clearAll_52 rfl rfl ?_
          refine ax_iload_n (i := 3) dX12_clearAll_53 rfl rfl ?_
          refine ax_if_eq (tgt := 70) dX12_clearAll_54 (by decide) (fun _ => ?_) (fun z => absurd (by decide) z)
          refine ax_iconst (v := 0) dX12_clearAll_70 (by decide) ?_
          refine ax_mPZN (N := 300) hm dX12_clearAll_71 rfl rfl (by decide) (by omega) rfl ?_
          refine ax_iload_n (i := 3) dX12_clearAll_72 rfl rfl ?_
          refine ax_if_eq (tgt := 94) dX12_clearAll_73 (by decide) (fun _ => ?_) (fun z => absurd (by decide) z)
          refine ax_aload_n (i := 0) dX12_clearAll_94 rfl rfl rfl ?_
          refine ax_mR hm dX12_clearAll_95 fl_X12_104 rfl (by decide) ?_
          refine ax_iload_n (i := 2) dX12_clearAll_98 rfl rfl ?_
          refine ax_iconst (v := 0) dX12_clearAll_99 (by decide) ?_
          refine ax_mPIN (N := 300) hm dX12_clearAll_100 rfl rfl (by decide) (by omega) ?_
          refine ax_aload_n (i := 0) dX12_clearAll_101 rfl rfl rfl ?_
          refine ax_mR hm dX12_clearAll_102 fl_X12_110 rfl (by decide) ?_
          refine ax_iload_n (i := 2) dX12_clearAll_105 rfl rfl ?_
          refine ax_iconst (v := 0) dX12_clearAll_106 (by decide) ?_
          refine ax_mPZN (N := 300) hm dX12_clearAll_107 rfl rfl (by decide) (by omega) rfl ?_
          refine ax_goto (tgt := 134) dX12_clearAll_108 (by decide) ?_
          refine ax_iinc (v := _ + 1) (lv' := [(2, _), (3, _), (0, _), (1, _)]) dX12_clearAll_134 rfl rfl (by decide) rfl ?_
          refine ax_mE (M2 := mIter (fun x M => mClearX M t x) (k + 1) M) (by rw [show mIter (fun x M => mClearX M t x) (k + 1) M = mClearX N t k by rw [← hN]; rfl]; unfold mClearX; simp only []; rw [bC_f (show ¬ (mA N 34 k = 0 ∧ mHeld N k) from fun z => c_16 z.1), bC_f (show ¬ (mA (pA N 35 k 0) 34 k = 0 ∧ mSil (pA N 35 k 0) k t) from fun z => c_16 z.1), if_pos (show (¬ mA (pA (pA N 35 k 0) 36 k 0) 34 k = 0 ∨ ¬ mA (pA (pA N 35 k 0) 36 k 0) 35 k = 0 ∨ ¬ mA (pA (pA N 35 k 0) 36 k 0) 36 k = 0) from Or.inl c_16)]) ?_
          refine ax_goto (tgt := 2) dX12_clearAll_137 (by decide) ?_
          rw [nI_1]
          exact ax_loc rfl (ih (k + 1) (by omega))
        · refine ax_iconst (v := 1) dX12_clearAll_19 (by decide) ?_
          refine ax_goto (tgt := 24) dX12_clearAll_20 (by decide) ?_
          refine ax_istore_n (i := 3) (lv' := [(3, _), (2, _), (0, _), (1, _)]) dX12_clearAll_24 rfl (by decide) rfl ?_
          refine ax_aload_n (i := 0) dX12_clearAll_25 rfl rfl rfl ?_
          refine ax_mR hm dX12_clearAll_26 fl_X12_98 rfl (by decide) ?_
          refine ax_iload_n (i := 2) dX12_clearAll_29 rfl rfl ?_
          refine ax_iload_n (i := 3) dX12_clearAll_30 rfl rfl ?_
          refine ax_if_eq (tgt := 46) dX12_clearAll_31 (by decide) (fun z => absurd z (by decide)) (fun _ => ?_)
          refine ax_aload_n (i := 0) dX12_clearAll_34 rfl rfl rfl ?_
          refine ax_iload_n (i := 2) dX12_clearAll_35 rfl rfl ?_
          refine ax_invV (c := 13) (n := 1) (As := [_]) dX12_clearAll_36 cb_X12_held cv_X12_346.1 cv_X12_346.2.1 cv_X12_346.2.2 rfl (by decide) rfl ⟨Nat.le_of_ble_eq_true rfl, Nat.le_of_ble_eq_true rfl⟩ (Nat.le_of_ble_eq_true rfl) rfl (t_held hm hP (by omega) (fun c_36 => ?_) (fun c_36 => ?_))
          · refine ax_if_eq (tgt := 46) dX12_clearAll_39 (by decide) (fun z => absurd z (by decide)) (fun _ => ?_)
            refine ax_iconst (v := 1) dX12_clearAll_42 (by decide) ?_
            refine ax_goto (tgt := 47) dX12_clearAll_43 (by decide) ?_
            refine ax_mPZN (N := 300) hm dX12_clearAll_47 rfl rfl (by decide) (by omega) rfl ?_
            refine ax_aload_n (i := 0) dX12_clearAll_48 rfl rfl rfl ?_
            refine ax_mR hm dX12_clearAll_49 fl_X12_101 rfl (by decide) ?_
            refine ax_iload_n (i := 2) dX12_clearAll_52 rfl rfl ?_
            refine ax_iload_n (i := 3) dX12_clearAll_53 rfl rfl ?_
            refine ax_if_eq (tgt := 70) dX12_clearAll_54 (by decide) (fun z => absurd z (by decide)) (fun _ => ?_)
            refine ax_aload_n (i := 0) dX12_clearAll_57 rfl rfl rfl ?_
            refine ax_iload_n (i := 2) dX12_clearAll_58 rfl rfl ?_
            refine ax_iload_n (i := 1) dX12_clearAll_59 rfl rfl ?_
            refine ax_invV (c := 13) (n := 2) (As := [_, _]) dX12_clearAll_60 cb_X12_silenced cv_X12_349.1 cv_X12_349.2.1 cv_X12_349.2.2 rfl (by decide) rfl ⟨Nat.le_of_ble_eq_true rfl, Nat.le_of_ble_eq_true rfl⟩ (Nat.le_of_ble_eq_true rfl) rfl (t_silenced hm (hP.qF (by decide)) (by omega) (fun c_60 => ?_) (fun c_60 => ?_))
            · refine ax_if_eq (tgt := 70) dX12_clearAll_63 (by decide) (fun z => absurd z (by decide)) (fun _ => ?_)
              refine ax_iconst (v := 1) dX12_clearAll_66 (by decide) ?_
              refine ax_goto (tgt := 71) dX12_clearAll_67 (by decide) ?_
              refine ax_mPZN (N := 300) hm dX12_clearAll_71 rfl rfl (by decide) (by omega) rfl ?_
              refine ax_iload_n (i := 3) dX12_clearAll_72 rfl rfl ?_
              refine ax_if_eq (tgt := 94) dX12_clearAll_73 (by decide) (fun z => absurd z (by decide)) (fun _ => ?_)
              refine ax_aload_n (i := 0) dX12_clearAll_76 rfl rfl rfl ?_
              refine ax_mR hm dX12_clearAll_77 fl_X12_98 rfl (by decide) ?_
              refine ax_iload_n (i := 2) dX12_clearAll_80 rfl rfl ?_
              refine ax_mZN (N := 300) hm dX12_clearAll_81 rfl rfl (by decide) (by omega) ?_
              refine ax_if_ne (tgt := 94) dX12_clearAll_82 (by decide) (fun c_82 => ?_) (fun c_82 => ?_)
              · refine ax_aload_n (i := 0) dX12_clearAll_94 rfl rfl rfl ?_
                refine ax_mR hm dX12_clearAll_95 fl_X12_104 rfl (by decide) ?_
                refine ax_iload_n (i := 2) dX12_clearAll_98 rfl rfl ?_
                refine ax_iconst (v := 0) dX12_clearAll_99 (by decide) ?_
                refine ax_mPIN (N := 300) hm dX12_clearAll_100 rfl rfl (by decide) (by omega) ?_
                refine ax_aload_n (i := 0) dX12_clearAll_101 rfl rfl rfl ?_
                refine ax_mR hm dX12_clearAll_102 fl_X12_110 rfl (by decide) ?_
                refine ax_iload_n (i := 2) dX12_clearAll_105 rfl rfl ?_
                refine ax_iconst (v := 0) dX12_clearAll_106 (by decide) ?_
                refine ax_mPZN (N := 300) hm dX12_clearAll_107 rfl rfl (by decide) (by omega) rfl ?_
                refine ax_goto (tgt := 134) dX12_clearAll_108 (by decide) ?_
                refine ax_iinc (v := _ + 1) (lv' := [(2, _), (3, _), (0, _), (1, _)]) dX12_clearAll_134 rfl rfl (by decide) rfl ?_
                refine ax_mE (M2 := mIter (fun x M => mClearX M t x) (k + 1) M) (by rw [show mIter (fun x M => mClearX M t x) (k + 1) M = mClearX N t k by rw [← hN]; rfl]; unfold mClearX; simp only []; rw [bC_t (show mA N 34 k = 0 ∧ mHeld N k from ⟨Classical.not_not.mp c_16, c_36⟩), bC_t (show mA (pA N 35 k 1) 34 k = 0 ∧ mSil (pA N 35 k 1) k t from ⟨Classical.not_not.mp c_16, c_60⟩), if_pos (show (¬ mA (pA (pA N 35 k 1) 36 k 1) 34 k = 0 ∨ ¬ mA (pA (pA N 35 k 1) 36 k 1) 35 k = 0 ∨ ¬ mA (pA (pA N 35 k 1) 36 k 1) 36 k = 0) from Or.inr (Or.inl c_82))]) ?_
                refine ax_goto (tgt := 2) dX12_clearAll_137 (by decide) ?_
                rw [nI_1]
                exact ax_loc rfl (ih (k + 1) (by omega))
              · refine ax_aload_n (i := 0) dX12_clearAll_85 rfl rfl rfl ?_
                refine ax_mR hm dX12_clearAll_86 fl_X12_101 rfl (by decide) ?_
                refine ax_iload_n (i := 2) dX12_clearAll_89 rfl rfl ?_
                refine ax_mZN (N := 300) hm dX12_clearAll_90 rfl rfl (by decide) (by omega) ?_
                refine ax_if_eq (tgt := 111) dX12_clearAll_91 (by decide) (fun c_91 => ?_) (fun c_91 => ?_)
                · refine ax_aload_n (i := 0) dX12_clearAll_111 rfl rfl rfl ?_
                  refine ax_mR hm dX12_clearAll_112 fl_X12_104 rfl (by decide) ?_
                  refine ax_iload_n (i := 2) dX12_clearAll_115 rfl rfl ?_
                  refine ax_mIN (N := 300) hm dX12_clearAll_116 rfl rfl (by decide) (by omega) ?_
                  refine ax_if_ne (tgt := 134) dX12_clearAll_117 (by decide) (fun c_117 => ?_) (fun c_117 => ?_)
                  · refine ax_iinc (v := _ + 1) (lv' := [(2, _), (3, _), (0, _), (1, _)]) dX12_clearAll_134 rfl rfl (by decide) rfl ?_
                    refine ax_mE (M2 := mIter (fun x M => mClearX M t x) (k + 1) M) (by rw [show mIter (fun x M => mClearX M t x) (k + 1) M = mClearX N t k by rw [← hN]; rfl]; unfold mClearX; simp only []; rw [bC_t (show mA N 34 k = 0 ∧ mHeld N k from ⟨Classical.not_not.mp c_16, c_36⟩), bC_t (show mA (pA N 35 k 1) 34 k = 0 ∧ mSil (pA N 35 k 1) k t from ⟨Classical.not_not.mp c_16, c_60⟩), if_neg (show ¬ (¬ mA (pA (pA N 35 k 1) 36 k 1) 34 k = 0 ∨ ¬ mA (pA (pA N 35 k 1) 36 k 1) 35 k = 0 ∨ ¬ mA (pA (pA N 35 k 1) 36 k 1) 36 k = 0) from fun z => z.elim (fun w => w (Classical.not_not.mp c_16)) (fun z => z.elim (fun w => w (Classical.not_not.mp c_82)) (fun w => w c_91))), if_neg (show ¬ mA (pA (pA N 35 k 1) 36 k 1) 37 k = 0 from c_117)]) ?_
                    refine ax_goto (tgt := 2) dX12_clearAll_137 (by decide) ?_
                    rw [nI_1]
                    exact ax_loc rfl (ih (k + 1) (by omega))
                  · refine ax_aload_n (i := 0) dX12_clearAll_120 rfl rfl rfl ?_
                    refine ax_mR hm dX12_clearAll_121 fl_X12_104 rfl (by decide) ?_
                    refine ax_iload_n (i := 2) dX12_clearAll_124 rfl rfl ?_
                    refine ax_iload_n (i := 1) dX12_clearAll_125 rfl rfl ?_
                    refine ax_mPIN (N := 300) hm dX12_clearAll_126 rfl rfl (by decide) (by omega) ?_
                    refine ax_aload_n (i := 0) dX12_clearAll_127 rfl rfl rfl ?_
                    refine ax_mR hm dX12_clearAll_128 fl_X12_110 rfl (by decide) ?_
                    refine ax_iload_n (i := 2) dX12_clearAll_131 rfl rfl ?_
                    refine ax_iconst (v := 1) dX12_clearAll_132 (by decide) ?_
                    refine ax_mPZN (N := 300) hm dX12_clearAll_133 rfl rfl (by decide) (by omega) rfl ?_
                    refine ax_iinc (v := _ + 1) (lv' := [(2, _), (3, _), (0, _), (1, _)]) dX12_clearAll_134 rfl rfl (by decide) rfl ?_
                    refine ax_mE (M2 := mIter (fun x M => mClearX M t x) (k + 1) M) (by rw [show mIter (fun x M => mClearX M t x) (k + 1) M = mClearX N t k by rw [← hN]; rfl]; unfold mClearX; simp only []; rw [bC_t (show mA N 34 k = 0 ∧ mHeld N k from ⟨Classical.not_not.mp c_16, c_36⟩), bC_t (show mA (pA N 35 k 1) 34 k = 0 ∧ mSil (pA N 35 k 1) k t from ⟨Classical.not_not.mp c_16, c_60⟩), if_neg (show ¬ (¬ mA (pA (pA N 35 k 1) 36 k 1) 34 k = 0 ∨ ¬ mA (pA (pA N 35 k 1) 36 k 1) 35 k = 0 ∨ ¬ mA (pA (pA N 35 k 1) 36 k 1) 36 k = 0) from fun z => z.elim (fun w => w (Classical.not_not.mp c_16)) (fun z => z.elim (fun w => w (Classical.not_not.mp c_82)) (fun w => w c_91))), if_pos (show mA (pA (pA N 35 k 1) 36 k 1) 37 k = 0 from Classical.not_not.mp c_117)]) ?_
                    refine ax_goto (tgt := 2) dX12_clearAll_137 (by decide) ?_
                    rw [nI_1]
                    exact ax_loc rfl (ih (k + 1) (by omega))
                · refine ax_aload_n (i := 0) dX12_clearAll_94 rfl rfl rfl ?_
                  refine ax_mR hm dX12_clearAll_95 fl_X12_104 rfl (by decide) ?_
                  refine ax_iload_n (i := 2) dX12_clearAll_98 rfl rfl ?_
                  refine ax_iconst (v := 0) dX12_clearAll_99 (by decide) ?_
                  refine ax_mPIN (N := 300) hm dX12_clearAll_100 rfl rfl (by decide) (by omega) ?_
                  refine ax_aload_n (i := 0) dX12_clearAll_101 rfl rfl rfl ?_
                  refine ax_mR hm dX12_clearAll_102 fl_X12_110 rfl (by decide) ?_
                  refine ax_iload_n (i := 2) dX12_clearAll_105 rfl rfl ?_
                  refine ax_iconst (v := 0) dX12_clearAll_106 (by decide) ?_
                  refine ax_mPZN (N := 300) hm dX12_clearAll_107 rfl rfl (by decide) (by omega) rfl ?_
                  refine ax_goto (tgt := 134) dX12_clearAll_108 (by decide) ?_
                  refine ax_iinc (v := _ + 1) (lv' := [(2, _), (3, _), (0, _), (1, _)]) dX12_clearAll_134 rfl rfl (by decide) rfl ?_
                  refine ax_mE (M2 := mIter (fun x M => mClearX M t x) (k + 1) M) (by rw [show mIter (fun x M => mClearX M t x) (k + 1) M = mClearX N t k by rw [← hN]; rfl]; unfold mClearX; simp only []; rw [bC_t (show mA N 34 k = 0 ∧ mHeld N k from ⟨Classical.not_not.mp c_16, c_36⟩), bC_t (show mA (pA N 35 k 1) 34 k = 0 ∧ mSil (pA N 35 k 1) k t from ⟨Classical.not_not.mp c_16, c_60⟩), if_pos (show (¬ mA (pA (pA N 35 k 1) 36 k 1) 34 k = 0 ∨ ¬ mA (pA (pA N 35 k 1) 36 k 1) 35 k = 0 ∨ ¬ mA (pA (pA N 35 k 1) 36 k 1) 36 k = 0) from Or.inr (Or.inr c_91))]) ?_
                  refine ax_goto (tgt := 2) dX12_clearAll_137 (by decide) ?_
                  rw [nI_1]
                  exact ax_loc rfl (ih (k + 1) (by omega))
            · refine ax_if_eq (tgt := 70) dX12_clearAll_63 (by decide) (fun _ => ?_) (fun z => absurd (by decide) z)
              refine ax_iconst (v := 0) dX12_clearAll_70 (by decide) ?_
              refine ax_mPZN (N := 300) hm dX12_clearAll_71 rfl rfl (by decide) (by omega) rfl ?_
              refine ax_iload_n (i := 3) dX12_clearAll_72 rfl rfl ?_
              refine ax_if_eq (tgt := 94) dX12_clearAll_73 (by decide) (fun z => absurd z (by decide)) (fun _ => ?_)
              refine ax_aload_n (i := 0) dX12_clearAll_76 rfl rfl rfl ?_
              refine ax_mR hm dX12_clearAll_77 fl_X12_98 rfl (by decide) ?_
              refine ax_iload_n (i := 2) dX12_clearAll_80 rfl rfl ?_
              refine ax_mZN (N := 300) hm dX12_clearAll_81 rfl rfl (by decide) (by omega) ?_
              refine ax_if_ne (tgt := 94) dX12_clearAll_82 (by decide) (fun c_82 => ?_) (fun c_82 => ?_)
              · refine ax_aload_n (i := 0) dX12_clearAll_94 rfl rfl rfl ?_
                refine ax_mR hm dX12_clearAll_95 fl_X12_104 rfl (by decide) ?_
                refine ax_iload_n (i := 2) dX12_clearAll_98 rfl rfl ?_
                refine ax_iconst (v := 0) dX12_clearAll_99 (by decide) ?_
                refine ax_mPIN (N := 300) hm dX12_clearAll_100 rfl rfl (by decide) (by omega) ?_
                refine ax_aload_n (i := 0) dX12_clearAll_101 rfl rfl rfl ?_
                refine ax_mR hm dX12_clearAll_102 fl_X12_110 rfl (by decide) ?_
                refine ax_iload_n (i := 2) dX12_clearAll_105 rfl rfl ?_
                refine ax_iconst (v := 0) dX12_clearAll_106 (by decide) ?_
                refine ax_mPZN (N := 300) hm dX12_clearAll_107 rfl rfl (by decide) (by omega) rfl ?_
                refine ax_goto (tgt := 134) dX12_clearAll_108 (by decide) ?_
                refine ax_iinc (v := _ + 1) (lv' := [(2, _), (3, _), (0, _), (1, _)]) dX12_clearAll_134 rfl rfl (by decide) rfl ?_
                refine ax_mE (M2 := mIter (fun x M => mClearX M t x) (k + 1) M) (by rw [show mIter (fun x M => mClearX M t x) (k + 1) M = mClearX N t k by rw [← hN]; rfl]; unfold mClearX; simp only []; rw [bC_t (show mA N 34 k = 0 ∧ mHeld N k from ⟨Classical.not_not.mp c_16, c_36⟩), bC_f (show ¬ (mA (pA N 35 k 1) 34 k = 0 ∧ mSil (pA N 35 k 1) k t) from fun z => c_60 z.2), if_pos (show (¬ mA (pA (pA N 35 k 1) 36 k 0) 34 k = 0 ∨ ¬ mA (pA (pA N 35 k 1) 36 k 0) 35 k = 0 ∨ ¬ mA (pA (pA N 35 k 1) 36 k 0) 36 k = 0) from Or.inr (Or.inl c_82))]) ?_
                refine ax_goto (tgt := 2) dX12_clearAll_137 (by decide) ?_
                rw [nI_1]
                exact ax_loc rfl (ih (k + 1) (by omega))
              · refine ax_aload_n (i := 0) dX12_clearAll_85 rfl rfl rfl ?_
                refine ax_mR hm dX12_clearAll_86 fl_X12_101 rfl (by decide) ?_
                refine ax_iload_n (i := 2) dX12_clearAll_89 rfl rfl ?_
                refine ax_mZN (N := 300) hm dX12_clearAll_90 rfl rfl (by decide) (by omega) ?_
                refine ax_if_eq (tgt := 111) dX12_clearAll_91 (by decide) (fun c_91 => ?_) (fun c_91 => ?_)
                · refine ax_aload_n (i := 0) dX12_clearAll_111 rfl rfl rfl ?_
                  refine ax_mR hm dX12_clearAll_112 fl_X12_104 rfl (by decide) ?_
                  refine ax_iload_n (i := 2) dX12_clearAll_115 rfl rfl ?_
                  refine ax_mIN (N := 300) hm dX12_clearAll_116 rfl rfl (by decide) (by omega) ?_
                  refine ax_if_ne (tgt := 134) dX12_clearAll_117 (by decide) (fun c_117 => ?_) (fun c_117 => ?_)
                  · refine ax_iinc (v := _ + 1) (lv' := [(2, _), (3, _), (0, _), (1, _)]) dX12_clearAll_134 rfl rfl (by decide) rfl ?_
                    refine ax_mE (M2 := mIter (fun x M => mClearX M t x) (k + 1) M) (by rw [show mIter (fun x M => mClearX M t x) (k + 1) M = mClearX N t k by rw [← hN]; rfl]; unfold mClearX; simp only []; rw [bC_t (show mA N 34 k = 0 ∧ mHeld N k from ⟨Classical.not_not.mp c_16, c_36⟩), bC_f (show ¬ (mA (pA N 35 k 1) 34 k = 0 ∧ mSil (pA N 35 k 1) k t) from fun z => c_60 z.2), if_neg (show ¬ (¬ mA (pA (pA N 35 k 1) 36 k 0) 34 k = 0 ∨ ¬ mA (pA (pA N 35 k 1) 36 k 0) 35 k = 0 ∨ ¬ mA (pA (pA N 35 k 1) 36 k 0) 36 k = 0) from fun z => z.elim (fun w => w (Classical.not_not.mp c_16)) (fun z => z.elim (fun w => w (Classical.not_not.mp c_82)) (fun w => w c_91))), if_neg (show ¬ mA (pA (pA N 35 k 1) 36 k 0) 37 k = 0 from c_117)]) ?_
                    refine ax_goto (tgt := 2) dX12_clearAll_137 (by decide) ?_
                    rw [nI_1]
                    exact ax_loc rfl (ih (k + 1) (by omega))
                  · refine ax_aload_n (i := 0) dX12_clearAll_120 rfl rfl rfl ?_
                    refine ax_mR hm dX12_clearAll_121 fl_X12_104 rfl (by decide) ?_
                    refine ax_iload_n (i := 2) dX12_clearAll_124 rfl rfl ?_
                    refine ax_iload_n (i := 1) dX12_clearAll_125 rfl rfl ?_
                    refine ax_mPIN (N := 300) hm dX12_clearAll_126 rfl rfl (by decide) (by omega) ?_
                    refine ax_aload_n (i := 0) dX12_clearAll_127 rfl rfl rfl ?_
                    refine ax_mR hm dX12_clearAll_128 fl_X12_110 rfl (by decide) ?_
                    refine ax_iload_n (i := 2) dX12_clearAll_131 rfl rfl ?_
                    refine ax_iconst (v := 1) dX12_clearAll_132 (by decide) ?_
                    refine ax_mPZN (N := 300) hm dX12_clearAll_133 rfl rfl (by decide) (by omega) rfl ?_
                    refine ax_iinc (v := _ + 1) (lv' := [(2, _), (3, _), (0, _), (1, _)]) dX12_clearAll_134 rfl rfl (by decide) rfl ?_
                    refine ax_mE (M2 := mIter (fun x M => mClearX M t x) (k + 1) M) (by rw [show mIter (fun x M => mClearX M t x) (k + 1) M = mClearX N t k by rw [← hN]; rfl]; unfold mClearX; simp only []; rw [bC_t (show mA N 34 k = 0 ∧ mHeld N k from ⟨Classical.not_not.mp c_16, c_36⟩), bC_f (show ¬ (mA (pA N 35 k 1) 34 k = 0 ∧ mSil (pA N 35 k 1) k t) from fun z => c_60 z.2), if_neg (show ¬ (¬ mA (pA (pA N 35 k 1) 36 k 0) 34 k = 0 ∨ ¬ mA (pA (pA N 35 k 1) 36 k 0) 35 k = 0 ∨ ¬ mA (pA (pA N 35 k 1) 36 k 0) 36 k = 0) from fun z => z.elim (fun w => w (Classical.not_not.mp c_16)) (fun z => z.elim (fun w => w (Classical.not_not.mp c_82)) (fun w => w c_91))), if_pos (show mA (pA (pA N 35 k 1) 36 k 0) 37 k = 0 from Classical.not_not.mp c_117)]) ?_
                    refine ax_goto (tgt := 2) dX12_clearAll_137 (by decide) ?_
                    rw [nI_1]
                    exact ax_loc rfl (ih (k + 1) (by omega))
                · refine ax_aload_n (i := 0) dX12_clearAll_94 rfl rfl rfl ?_
                  refine ax_mR hm dX12_clearAll_95 fl_X12_104 rfl (by decide) ?_
                  refine ax_iload_n (i := 2) dX12_clearAll_98 rfl rfl ?_
                  refine ax_iconst (v := 0) dX12_clearAll_99 (by decide) ?_
                  refine ax_mPIN (N := 300) hm dX12_clearAll_100 rfl rfl (by decide) (by omega) ?_
                  refine ax_aload_n (i := 0) dX12_clearAll_101 rfl rfl rfl ?_
                  refine ax_mR hm dX12_clearAll_102 fl_X12_110 rfl (by decide) ?_
                  refine ax_iload_n (i := 2) dX12_clearAll_105 rfl rfl ?_
                  refine ax_iconst (v := 0) dX12_clearAll_106 (by decide) ?_
                  refine ax_mPZN (N := 300) hm dX12_clearAll_107 rfl rfl (by decide) (by omega) rfl ?_
                  refine ax_goto (tgt := 134) dX12_clearAll_108 (by decide) ?_
                  refine ax_iinc (v := _ + 1) (lv' := [(2, _), (3, _), (0, _), (1, _)]) dX12_clearAll_134 rfl rfl (by decide) rfl ?_
                  refine ax_mE (M2 := mIter (fun x M => mClearX M t x) (k + 1) M) (by rw [show mIter (fun x M => mClearX M t x) (k + 1) M = mClearX N t k by rw [← hN]; rfl]; unfold mClearX; simp only []; rw [bC_t (show mA N 34 k = 0 ∧ mHeld N k from ⟨Classical.not_not.mp c_16, c_36⟩), bC_f (show ¬ (mA (pA N 35 k 1) 34 k = 0 ∧ mSil (pA N 35 k 1) k t) from fun z => c_60 z.2), if_pos (show (¬ mA (pA (pA N 35 k 1) 36 k 0) 34 k = 0 ∨ ¬ mA (pA (pA N 35 k 1) 36 k 0) 35 k = 0 ∨ ¬ mA (pA (pA N 35 k 1) 36 k 0) 36 k = 0) from Or.inr (Or.inr c_91))]) ?_
                  refine ax_goto (tgt := 2) dX12_clearAll_137 (by decide) ?_
                  rw [nI_1]
                  exact ax_loc rfl (ih (k + 1) (by omega))
          · refine ax_if_eq (tgt := 46) dX12_clearAll_39 (by decide) (fun _ => ?_) (fun z => absurd (by decide) z)
            refine ax_iconst (v := 0) dX12_clearAll_46 (by decide) ?_
            refine ax_mPZN (N := 300) hm dX12_clearAll_47 rfl rfl (by decide) (by omega) rfl ?_
            refine ax_aload_n (i := 0) dX12_clearAll_48 rfl rfl rfl ?_
            refine ax_mR hm dX12_clearAll_49 fl_X12_101 rfl (by decide) ?_
            refine ax_iload_n (i := 2) dX12_clearAll_52 rfl rfl ?_
            refine ax_iload_n (i := 3) dX12_clearAll_53 rfl rfl ?_
            refine ax_if_eq (tgt := 70) dX12_clearAll_54 (by decide) (fun z => absurd z (by decide)) (fun _ => ?_)
            refine ax_aload_n (i := 0) dX12_clearAll_57 rfl rfl rfl ?_
            refine ax_iload_n (i := 2) dX12_clearAll_58 rfl rfl ?_
            refine ax_iload_n (i := 1) dX12_clearAll_59 rfl rfl ?_
            refine ax_invV (c := 13) (n := 2) (As := [_, _]) dX12_clearAll_60 cb_X12_silenced cv_X12_349.1 cv_X12_349.2.1 cv_X12_349.2.2 rfl (by decide) rfl ⟨Nat.le_of_ble_eq_true rfl, Nat.le_of_ble_eq_true rfl⟩ (Nat.le_of_ble_eq_true rfl) rfl (t_silenced hm (hP.qF (by decide)) (by omega) (fun c_60 => ?_) (fun c_60 => ?_))
            · refine ax_if_eq (tgt := 70) dX12_clearAll_63 (by decide) (fun z => absurd z (by decide)) (fun _ => ?_)
              refine ax_iconst (v := 1) dX12_clearAll_66 (by decide) ?_
              refine ax_goto (tgt := 71) dX12_clearAll_67 (by decide) ?_
              refine ax_mPZN (N := 300) hm dX12_clearAll_71 rfl rfl (by decide) (by omega) rfl ?_
              refine ax_iload_n (i := 3) dX12_clearAll_72 rfl rfl ?_
              refine ax_if_eq (tgt := 94) dX12_clearAll_73 (by decide) (fun z => absurd z (by decide)) (fun _ => ?_)
              refine ax_aload_n (i := 0) dX12_clearAll_76 rfl rfl rfl ?_
              refine ax_mR hm dX12_clearAll_77 fl_X12_98 rfl (by decide) ?_
              refine ax_iload_n (i := 2) dX12_clearAll_80 rfl rfl ?_
              refine ax_mZN (N := 300) hm dX12_clearAll_81 rfl rfl (by decide) (by omega) ?_
              refine ax_if_ne (tgt := 94) dX12_clearAll_82 (by decide) (fun c_82 => ?_) (fun c_82 => ?_)
              · refine ax_aload_n (i := 0) dX12_clearAll_94 rfl rfl rfl ?_
                refine ax_mR hm dX12_clearAll_95 fl_X12_104 rfl (by decide) ?_
                refine ax_iload_n (i := 2) dX12_clearAll_98 rfl rfl ?_
                refine ax_iconst (v := 0) dX12_clearAll_99 (by decide) ?_
                refine ax_mPIN (N := 300) hm dX12_clearAll_100 rfl rfl (by decide) (by omega) ?_
                refine ax_aload_n (i := 0) dX12_clearAll_101 rfl rfl rfl ?_
                refine ax_mR hm dX12_clearAll_102 fl_X12_110 rfl (by decide) ?_
                refine ax_iload_n (i := 2) dX12_clearAll_105 rfl rfl ?_
                refine ax_iconst (v := 0) dX12_clearAll_106 (by decide) ?_
                refine ax_mPZN (N := 300) hm dX12_clearAll_107 rfl rfl (by decide) (by omega) rfl ?_
                refine ax_goto (tgt := 134) dX12_clearAll_108 (by decide) ?_
                refine ax_iinc (v := _ + 1) (lv' := [(2, _), (3, _), (0, _), (1, _)]) dX12_clearAll_134 rfl rfl (by decide) rfl ?_
                refine ax_mE (M2 := mIter (fun x M => mClearX M t x) (k + 1) M) (by rw [show mIter (fun x M => mClearX M t x) (k + 1) M = mClearX N t k by rw [← hN]; rfl]; unfold mClearX; simp only []; rw [bC_f (show ¬ (mA N 34 k = 0 ∧ mHeld N k) from fun z => c_36 z.2), bC_t (show mA (pA N 35 k 0) 34 k = 0 ∧ mSil (pA N 35 k 0) k t from ⟨Classical.not_not.mp c_16, c_60⟩), if_pos (show (¬ mA (pA (pA N 35 k 0) 36 k 1) 34 k = 0 ∨ ¬ mA (pA (pA N 35 k 0) 36 k 1) 35 k = 0 ∨ ¬ mA (pA (pA N 35 k 0) 36 k 1) 36 k = 0) from Or.inr (Or.inl c_82))]) ?_
                refine ax_goto (tgt := 2) dX12_clearAll_137 (by decide) ?_
                rw [nI_1]
                exact ax_loc rfl (ih (k + 1) (by omega))
              · refine ax_aload_n (i := 0) dX12_clearAll_85 rfl rfl rfl ?_
                refine ax_mR hm dX12_clearAll_86 fl_X12_101 rfl (by decide) ?_
                refine ax_iload_n (i := 2) dX12_clearAll_89 rfl rfl ?_
                refine ax_mZN (N := 300) hm dX12_clearAll_90 rfl rfl (by decide) (by omega) ?_
                refine ax_if_eq (tgt := 111) dX12_clearAll_91 (by decide) (fun c_91 => ?_) (fun c_91 => ?_)
                · refine ax_aload_n (i := 0) dX12_clearAll_111 rfl rfl rfl ?_
                  refine ax_mR hm dX12_clearAll_112 fl_X12_104 rfl (by decide) ?_
                  refine ax_iload_n (i := 2) dX12_clearAll_115 rfl rfl ?_
                  refine ax_mIN (N := 300) hm dX12_clearAll_116 rfl rfl (by decide) (by omega) ?_
                  refine ax_if_ne (tgt := 134) dX12_clearAll_117 (by decide) (fun c_117 => ?_) (fun c_117 => ?_)
                  · refine ax_iinc (v := _ + 1) (lv' := [(2, _), (3, _), (0, _), (1, _)]) dX12_clearAll_134 rfl rfl (by decide) rfl ?_
                    refine ax_mE (M2 := mIter (fun x M => mClearX M t x) (k + 1) M) (by rw [show mIter (fun x M => mClearX M t x) (k + 1) M = mClearX N t k by rw [← hN]; rfl]; unfold mClearX; simp only []; rw [bC_f (show ¬ (mA N 34 k = 0 ∧ mHeld N k) from fun z => c_36 z.2), bC_t (show mA (pA N 35 k 0) 34 k = 0 ∧ mSil (pA N 35 k 0) k t from ⟨Classical.not_not.mp c_16, c_60⟩), if_neg (show ¬ (¬ mA (pA (pA N 35 k 0) 36 k 1) 34 k = 0 ∨ ¬ mA (pA (pA N 35 k 0) 36 k 1) 35 k = 0 ∨ ¬ mA (pA (pA N 35 k 0) 36 k 1) 36 k = 0) from fun z => z.elim (fun w => w (Classical.not_not.mp c_16)) (fun z => z.elim (fun w => w (Classical.not_not.mp c_82)) (fun w => w c_91))), if_neg (show ¬ mA (pA (pA N 35 k 0) 36 k 1) 37 k = 0 from c_117)]) ?_
                    refine ax_goto (tgt := 2) dX12_clearAll_137 (by decide) ?_
                    rw [nI_1]
                    exact ax_loc rfl (ih (k + 1) (by omega))
                  · refine ax_aload_n (i := 0) dX12_clearAll_120 rfl rfl rfl ?_
                    refine ax_mR hm dX12_clearAll_121 fl_X12_104 rfl (by decide) ?_
                    refine ax_iload_n (i := 2) dX12_clearAll_124 rfl rfl ?_
                    refine ax_iload_n (i := 1) dX12_clearAll_125 rfl rfl ?_
                    refine ax_mPIN (N := 300) hm dX12_clearAll_126 rfl rfl (by decide) (by omega) ?_
                    refine ax_aload_n (i := 0) dX12_clearAll_127 rfl rfl rfl ?_
                    refine ax_mR hm dX12_clearAll_128 fl_X12_110 rfl (by decide) ?_
                    refine ax_iload_n (i := 2) dX12_clearAll_131 rfl rfl ?_
                    refine ax_iconst (v := 1) dX12_clearAll_132 (by decide) ?_
                    refine ax_mPZN (N := 300) hm dX12_clearAll_133 rfl rfl (by decide) (by omega) rfl ?_
                    refine ax_iinc (v := _ + 1) (lv' := [(2, _), (3, _), (0, _), (1, _)]) dX12_clearAll_134 rfl rfl (by decide) rfl ?_
                    refine ax_mE (M2 := mIter (fun x M => mClearX M t x) (k + 1) M) (by rw [show mIter (fun x M => mClearX M t x) (k + 1) M = mClearX N t k by rw [← hN]; rfl]; unfold mClearX; simp only []; rw [bC_f (show ¬ (mA N 34 k = 0 ∧ mHeld N k) from fun z => c_36 z.2), bC_t (show mA (pA N 35 k 0) 34 k = 0 ∧ mSil (pA N 35 k 0) k t from ⟨Classical.not_not.mp c_16, c_60⟩), if_neg (show ¬ (¬ mA (pA (pA N 35 k 0) 36 k 1) 34 k = 0 ∨ ¬ mA (pA (pA N 35 k 0) 36 k 1) 35 k = 0 ∨ ¬ mA (pA (pA N 35 k 0) 36 k 1) 36 k = 0) from fun z => z.elim (fun w => w (Classical.not_not.mp c_16)) (fun z => z.elim (fun w => w (Classical.not_not.mp c_82)) (fun w => w c_91))), if_pos (show mA (pA (pA N 35 k 0) 36 k 1) 37 k = 0 from Classical.not_not.mp c_117)]) ?_
                    refine ax_goto (tgt := 2) dX12_clearAll_137 (by decide) ?_
                    rw [nI_1]
                    exact ax_loc rfl (ih (k + 1) (by omega))
                · refine ax_aload_n (i := 0) dX12_clearAll_94 rfl rfl rfl ?_
                  refine ax_mR hm dX12_clearAll_95 fl_X12_104 rfl (by decide) ?_
                  refine ax_iload_n (i := 2) dX12_clearAll_98 rfl rfl ?_
                  refine ax_iconst (v := 0) dX12_clearAll_99 (by decide) ?_
                  refine ax_mPIN (N := 300) hm dX12_clearAll_100 rfl rfl (by decide) (by omega) ?_
                  refine ax_aload_n (i := 0) dX12_clearAll_101 rfl rfl rfl ?_
                  refine ax_mR hm dX12_clearAll_102 fl_X12_110 rfl (by decide) ?_
                  refine ax_iload_n (i := 2) dX12_clearAll_105 rfl rfl ?_
                  refine ax_iconst (v := 0) dX12_clearAll_106 (by decide) ?_
                  refine ax_mPZN (N := 300) hm dX12_clearAll_107 rfl rfl (by decide) (by omega) rfl ?_
                  refine ax_goto (tgt := 134) dX12_clearAll_108 (by decide) ?_
                  refine ax_iinc (v := _ + 1) (lv' := [(2, _), (3, _), (0, _), (1, _)]) dX12_clearAll_134 rfl rfl (by decide) rfl ?_
                  refine ax_mE (M2 := mIter (fun x M => mClearX M t x) (k + 1) M) (by rw [show mIter (fun x M => mClearX M t x) (k + 1) M = mClearX N t k by rw [← hN]; rfl]; unfold mClearX; simp only []; rw [bC_f (show ¬ (mA N 34 k = 0 ∧ mHeld N k) from fun z => c_36 z.2), bC_t (show mA (pA N 35 k 0) 34 k = 0 ∧ mSil (pA N 35 k 0) k t from ⟨Classical.not_not.mp c_16, c_60⟩), if_pos (show (¬ mA (pA (pA N 35 k 0) 36 k 1) 34 k = 0 ∨ ¬ mA (pA (pA N 35 k 0) 36 k 1) 35 k = 0 ∨ ¬ mA (pA (pA N 35 k 0) 36 k 1) 36 k = 0) from Or.inr (Or.inr c_91))]) ?_
                  refine ax_goto (tgt := 2) dX12_clearAll_137 (by decide) ?_
                  rw [nI_1]
                  exact ax_loc rfl (ih (k + 1) (by omega))
            · refine ax_if_eq (tgt := 70) dX12_clearAll_63 (by decide) (fun _ => ?_) (fun z => absurd (by decide) z)
              refine ax_iconst (v := 0) dX12_clearAll_70 (by decide) ?_
              refine ax_mPZN (N := 300) hm dX12_clearAll_71 rfl rfl (by decide) (by omega) rfl ?_
              refine ax_iload_n (i := 3) dX12_clearAll_72 rfl rfl ?_
              refine ax_if_eq (tgt := 94) dX12_clearAll_73 (by decide) (fun z => absurd z (by decide)) (fun _ => ?_)
              refine ax_aload_n (i := 0) dX12_clearAll_76 rfl rfl rfl ?_
              refine ax_mR hm dX12_clearAll_77 fl_X12_98 rfl (by decide) ?_
              refine ax_iload_n (i := 2) dX12_clearAll_80 rfl rfl ?_
              refine ax_mZN (N := 300) hm dX12_clearAll_81 rfl rfl (by decide) (by omega) ?_
              refine ax_if_ne (tgt := 94) dX12_clearAll_82 (by decide) (fun c_82 => ?_) (fun c_82 => ?_)
              · refine ax_aload_n (i := 0) dX12_clearAll_94 rfl rfl rfl ?_
                refine ax_mR hm dX12_clearAll_95 fl_X12_104 rfl (by decide) ?_
                refine ax_iload_n (i := 2) dX12_clearAll_98 rfl rfl ?_
                refine ax_iconst (v := 0) dX12_clearAll_99 (by decide) ?_
                refine ax_mPIN (N := 300) hm dX12_clearAll_100 rfl rfl (by decide) (by omega) ?_
                refine ax_aload_n (i := 0) dX12_clearAll_101 rfl rfl rfl ?_
                refine ax_mR hm dX12_clearAll_102 fl_X12_110 rfl (by decide) ?_
                refine ax_iload_n (i := 2) dX12_clearAll_105 rfl rfl ?_
                refine ax_iconst (v := 0) dX12_clearAll_106 (by decide) ?_
                refine ax_mPZN (N := 300) hm dX12_clearAll_107 rfl rfl (by decide) (by omega) rfl ?_
                refine ax_goto (tgt := 134) dX12_clearAll_108 (by decide) ?_
                refine ax_iinc (v := _ + 1) (lv' := [(2, _), (3, _), (0, _), (1, _)]) dX12_clearAll_134 rfl rfl (by decide) rfl ?_
                refine ax_mE (M2 := mIter (fun x M => mClearX M t x) (k + 1) M) (by rw [show mIter (fun x M => mClearX M t x) (k + 1) M = mClearX N t k by rw [← hN]; rfl]; unfold mClearX; simp only []; rw [bC_f (show ¬ (mA N 34 k = 0 ∧ mHeld N k) from fun z => c_36 z.2), bC_f (show ¬ (mA (pA N 35 k 0) 34 k = 0 ∧ mSil (pA N 35 k 0) k t) from fun z => c_60 z.2), if_pos (show (¬ mA (pA (pA N 35 k 0) 36 k 0) 34 k = 0 ∨ ¬ mA (pA (pA N 35 k 0) 36 k 0) 35 k = 0 ∨ ¬ mA (pA (pA N 35 k 0) 36 k 0) 36 k = 0) from Or.inr (Or.inl c_82))]) ?_
                refine ax_goto (tgt := 2) dX12_clearAll_137 (by decide) ?_
                rw [nI_1]
                exact ax_loc rfl (ih (k + 1) (by omega))
              · refine ax_aload_n (i := 0) dX12_clearAll_85 rfl rfl rfl ?_
                refine ax_mR hm dX12_clearAll_86 fl_X12_101 rfl (by decide) ?_
                refine ax_iload_n (i := 2) dX12_clearAll_89 rfl rfl ?_
                refine ax_mZN (N := 300) hm dX12_clearAll_90 rfl rfl (by decide) (by omega) ?_
                refine ax_if_eq (tgt := 111) dX12_clearAll_91 (by decide) (fun c_91 => ?_) (fun c_91 => ?_)
                · refine ax_aload_n (i := 0) dX12_clearAll_111 rfl rfl rfl ?_
                  refine ax_mR hm dX12_clearAll_112 fl_X12_104 rfl (by decide) ?_
                  refine ax_iload_n (i := 2) dX12_clearAll_115 rfl rfl ?_
                  refine ax_mIN (N := 300) hm dX12_clearAll_116 rfl rfl (by decide) (by omega) ?_
                  refine ax_if_ne (tgt := 134) dX12_clearAll_117 (by decide) (fun c_117 => ?_) (fun c_117 => ?_)
                  · refine ax_iinc (v := _ + 1) (lv' := [(2, _), (3, _), (0, _), (1, _)]) dX12_clearAll_134 rfl rfl (by decide) rfl ?_
                    refine ax_mE (M2 := mIter (fun x M => mClearX M t x) (k + 1) M) (by rw [show mIter (fun x M => mClearX M t x) (k + 1) M = mClearX N t k by rw [← hN]; rfl]; unfold mClearX; simp only []; rw [bC_f (show ¬ (mA N 34 k = 0 ∧ mHeld N k) from fun z => c_36 z.2), bC_f (show ¬ (mA (pA N 35 k 0) 34 k = 0 ∧ mSil (pA N 35 k 0) k t) from fun z => c_60 z.2), if_neg (show ¬ (¬ mA (pA (pA N 35 k 0) 36 k 0) 34 k = 0 ∨ ¬ mA (pA (pA N 35 k 0) 36 k 0) 35 k = 0 ∨ ¬ mA (pA (pA N 35 k 0) 36 k 0) 36 k = 0) from fun z => z.elim (fun w => w (Classical.not_not.mp c_16)) (fun z => z.elim (fun w => w (Classical.not_not.mp c_82)) (fun w => w c_91))), if_neg (show ¬ mA (pA (pA N 35 k 0) 36 k 0) 37 k = 0 from c_117)]) ?_
                    refine ax_goto (tgt := 2) dX12_clearAll_137 (by decide) ?_
                    rw [nI_1]
                    exact ax_loc rfl (ih (k + 1) (by omega))
                  · refine ax_aload_n (i := 0) dX12_clearAll_120 rfl rfl rfl ?_
                    refine ax_mR hm dX12_clearAll_121 fl_X12_104 rfl (by decide) ?_
                    refine ax_iload_n (i := 2) dX12_clearAll_124 rfl rfl ?_
                    refine ax_iload_n (i := 1) dX12_clearAll_125 rfl rfl ?_
                    refine ax_mPIN (N := 300) hm dX12_clearAll_126 rfl rfl (by decide) (by omega) ?_
                    refine ax_aload_n (i := 0) dX12_clearAll_127 rfl rfl rfl ?_
                    refine ax_mR hm dX12_clearAll_128 fl_X12_110 rfl (by decide) ?_
                    refine ax_iload_n (i := 2) dX12_clearAll_131 rfl rfl ?_
                    refine ax_iconst (v := 1) dX12_clearAll_132 (by decide) ?_
                    refine ax_mPZN (N := 300) hm dX12_clearAll_133 rfl rfl (by decide) (by omega) rfl ?_
                    refine ax_iinc (v := _ + 1) (lv' := [(2, _), (3, _), (0, _), (1, _)]) dX12_clearAll_134 rfl rfl (by decide) rfl ?_
                    refine ax_mE (M2 := mIter (fun x M => mClearX M t x) (k + 1) M) (by rw [show mIter (fun x M => mClearX M t x) (k + 1) M = mClearX N t k by rw [← hN]; rfl]; unfold mClearX; simp only []; rw [bC_f (show ¬ (mA N 34 k = 0 ∧ mHeld N k) from fun z => c_36 z.2), bC_f (show ¬ (mA (pA N 35 k 0) 34 k = 0 ∧ mSil (pA N 35 k 0) k t) from fun z => c_60 z.2), if_neg (show ¬ (¬ mA (pA (pA N 35 k 0) 36 k 0) 34 k = 0 ∨ ¬ mA (pA (pA N 35 k 0) 36 k 0) 35 k = 0 ∨ ¬ mA (pA (pA N 35 k 0) 36 k 0) 36 k = 0) from fun z => z.elim (fun w => w (Classical.not_not.mp c_16)) (fun z => z.elim (fun w => w (Classical.not_not.mp c_82)) (fun w => w c_91))), if_pos (show mA (pA (pA N 35 k 0) 36 k 0) 37 k = 0 from Classical.not_not.mp c_117)]) ?_
                    refine ax_goto (tgt := 2) dX12_clearAll_137 (by decide) ?_
                    rw [nI_1]
                    exact ax_loc rfl (ih (k + 1) (by omega))
                · refine ax_aload_n (i := 0) dX12_clearAll_94 rfl rfl rfl ?_
                  refine ax_mR hm dX12_clearAll_95 fl_X12_104 rfl (by decide) ?_
                  refine ax_iload_n (i := 2) dX12_clearAll_98 rfl rfl ?_
                  refine ax_iconst (v := 0) dX12_clearAll_99 (by decide) ?_
                  refine ax_mPIN (N := 300) hm dX12_clearAll_100 rfl rfl (by decide) (by omega) ?_
                  refine ax_aload_n (i := 0) dX12_clearAll_101 rfl rfl rfl ?_
                  refine ax_mR hm dX12_clearAll_102 fl_X12_110 rfl (by decide) ?_
                  refine ax_iload_n (i := 2) dX12_clearAll_105 rfl rfl ?_
                  refine ax_iconst (v := 0) dX12_clearAll_106 (by decide) ?_
                  refine ax_mPZN (N := 300) hm dX12_clearAll_107 rfl rfl (by decide) (by omega) rfl ?_
                  refine ax_goto (tgt := 134) dX12_clearAll_108 (by decide) ?_
                  refine ax_iinc (v := _ + 1) (lv' := [(2, _), (3, _), (0, _), (1, _)]) dX12_clearAll_134 rfl rfl (by decide) rfl ?_
                  refine ax_mE (M2 := mIter (fun x M => mClearX M t x) (k + 1) M) (by rw [show mIter (fun x M => mClearX M t x) (k + 1) M = mClearX N t k by rw [← hN]; rfl]; unfold mClearX; simp only []; rw [bC_f (show ¬ (mA N 34 k = 0 ∧ mHeld N k) from fun z => c_36 z.2), bC_f (show ¬ (mA (pA N 35 k 0) 34 k = 0 ∧ mSil (pA N 35 k 0) k t) from fun z => c_60 z.2), if_pos (show (¬ mA (pA (pA N 35 k 0) 36 k 0) 34 k = 0 ∨ ¬ mA (pA (pA N 35 k 0) 36 k 0) 35 k = 0 ∨ ¬ mA (pA (pA N 35 k 0) 36 k 0) 36 k = 0) from Or.inr (Or.inr c_91))]) ?_
                  refine ax_goto (tgt := 2) dX12_clearAll_137 (by decide) ?_
                  rw [nI_1]
                  exact ax_loc rfl (ih (k + 1) (by omega))
  refine ax_iconst (v := nI 0) dX12_clearAll_0 (by decide) ?_
  refine ax_istore_n (i := 2) (lv' := [(2, _), (0, _), (1, _)]) dX12_clearAll_1 rfl (by decide) rfl ?_
  exact ax_loc rfl (L (mN M 30) 0 (by omega))
theorem mI.swapK {M : aM} (h : mI M) (t k : Nat) (hk : k < 20) : mI (mSwapK M t k) := by
  unfold mSwapK
  split
  · exact (h.qRv (b := 8) (by decide) (h.A (k := 76) (n := 8) (b := 8) (by decide) (h.A (k := 60) (n := 20) (b := 8) (by decide) hk).2) (by decide)).qRv (b := 8) (by decide) (h.A (k := 76) (n := 8) (b := 8) (by decide) (h.A (k := 59) (n := 20) (b := 8) (by decide) hk).2) (by decide)
  · exact h
theorem mS_swapK (M : aM) (t x k : Nat) : mS (mSwapK M t x) k = mS M k := by
  unfold mSwapK
  split <;> rfl
theorem mStand_inv {M : aM} (h : mI M) (n : Nat) (hn : n ≤ 8) : mI (mIter (fun h M => pA M 76 h (nI h)) n M) ∧ ∀ k, mS (mIter (fun h M => pA M 76 h (nI h)) n M) k = mS M k :=
  mIter_inv (fun N => mI N ∧ ∀ k, mS N k = mS M k) ⟨h, fun _ => rfl⟩ (fun j a hj q => ⟨q.1.qR (b := 8) (by decide) (by omega) (by decide), q.2⟩)
theorem mSwap_inv {M : aM} (h : mI M) (t n : Nat) (hn : n ≤ 20) : mI (mIter (fun k M => mSwapK M t k) n M) ∧ ∀ k, mS (mIter (fun k M => mSwapK M t k) n M) k = mS M k :=
  mIter_inv (fun N => mI N ∧ ∀ k, mS N k = mS M k) ⟨h, fun _ => rfl⟩ (fun j a hj q => ⟨q.1.swapK t j (by omega), fun k => (mS_swapK a t j k).trans (q.2 k)⟩)
theorem mPlace_inv {M : aM} (h : mI M) (t : Nat) : mI (mPlace M t) ∧ ∀ k, mS (mPlace M t) k = mS M k := by
  have h1 := mStand_inv h 8 (Nat.le_refl 8)
  have h2 := mSwap_inv h1.1 t (mN M 58) (mS_b h (by decide))
  exact ⟨h2.1, fun k => (h2.2 k).trans (h1.2 k)⟩

set_option maxHeartbeats 4000000 in
set_option maxRecDepth 100000 in
theorem t_place {b : Bool} {E : awE} {S : awS} {M : aM} {Q : Option Value → awS → Nat → Nat → Prop} (hm : mOk S) {t : Nat} (hI : mI M) (h : Q none (putM S (mPlace M t)) 0 0) : awT b E m_X12_place [.ref (nm 13 0), .int (nI t)] (putM S M) Q := by
  refine awT.of (by decide) (by decide) (Nat.le_of_ble_eq_true rfl) ?_
  have hI1 := (mStand_inv hI 8 (Nat.le_refl 8)).1
  have hS1 := (mStand_inv hI 8 (Nat.le_refl 8)).2
  have hsb : mN M 58 ≤ 20 := mS_b hI (by decide)
  have h : Q none (putM S (mIter (fun k M => mSwapK M t k) (mN M 58) (mIter (fun h M => pA M 76 h (nI h)) 8 M))) 0 0 := h
  have L2 : ∀ (m k : Nat), k + m = mN M 58 → awX b E m_X12_place 23 [(2, .int (nI k)), (0, .ref (nm 13 0)), (1, .int (nI t))] [] (putM S (mIter (fun k M => mSwapK M t k) k (mIter (fun h M => pA M 76 h (nI h)) 8 M))) 0 0 Q := by
    generalize hM1 : mIter (fun h M => pA M 76 h (nI h)) 8 M = M1 at hI1 hS1 h ⊢
    have en : ∀ k, k ≤ 20 → mS (mIter (fun k M => mSwapK M t k) k M1) 58 = nI (mN M 58) := fun k hk => ((mSwap_inv hI1 t k hk).2 _).trans ((hS1 _).trans (mS_nI hI (b := 20) (by decide)))
    have L2 : ∀ (m k : Nat), k + m = mN M 58 → awX b E m_X12_place 23 [(2, .int (nI k)), (0, .ref (nm 13 0)), (1, .int (nI t))] [] (putM S (mIter (fun k M => mSwapK M t k) k M1)) 0 0 Q := by
      intro m
      induction m with
      | zero =>
        intro k hm1 
        refine ax_iload_n (i := 2) dX12_place_23 rfl rfl ?_
        refine ax_aload_n (i := 0) dX12_place_24 rfl rfl rfl ?_
        refine ax_mS dX12_place_25 fl_X12_296 rfl ?_
        refine ax_icmp_ge (tgt := 105) dX12_place_28 (by decide) (fun c_28 => ?_) (fun c_28 => ?_)
        · have hk2 : k = mN M 58 := Nat.le_antisymm (by omega) (ge_of_n (en k (by omega)) c_28 (by omega))
          subst hk2
          refine ax_vret dX12_place_105 rfl ?_
          exact h
        · exact absurd (lt_of_n (en k (by omega)) c_28 (by omega)) (by omega)
      | succ m ih =>
        intro k hm1 
        refine ax_iload_n (i := 2) dX12_place_23 rfl rfl ?_
        refine ax_aload_n (i := 0) dX12_place_24 rfl rfl rfl ?_
        refine ax_mS dX12_place_25 fl_X12_296 rfl ?_
        refine ax_icmp_ge (tgt := 105) dX12_place_28 (by decide) (fun c_28 => ?_) (fun c_28 => ?_)
        · exact absurd (ge_of_n (en k (by omega)) c_28 (by omega)) (by omega)
        · have hk2 : k < mN M 58 := lt_of_n (en k (by omega)) c_28 (by omega)
          have hP := (mSwap_inv hI1 t k (by omega)).1
          generalize hN : mIter (fun k M => mSwapK M t k) k M1 = N at hP ⊢
          refine ax_iload_n (i := 1) dX12_place_31 rfl rfl ?_
          refine ax_i2l dX12_place_32 ?_
          refine ax_aload_n (i := 0) dX12_place_33 rfl rfl rfl ?_
          refine ax_mR hm dX12_place_34 fl_X12_165 rfl (by decide) ?_
          refine ax_iload_n (i := 2) dX12_place_37 rfl rfl ?_
          refine ax_mIN (N := 20) hm dX12_place_38 rfl rfl (by decide) (by omega) ?_
          refine ax_i2l dX12_place_39 ?_
          refine ax_aload_n (i := 0) dX12_place_40 rfl rfl rfl ?_
          refine ax_mR hm dX12_place_41 fl_X12_168 rfl (by decide) ?_
          refine ax_iload_n (i := 2) dX12_place_44 rfl rfl ?_
          refine ax_mIN (N := 20) hm dX12_place_45 rfl rfl (by decide) (by omega) ?_
          refine ax_i2l dX12_place_46 ?_
          refine ax_invS (n := 3) (As := [_, _, _]) dX12_place_47 cb_X12_isIn cs_X12_242.1 cs_X12_242.2 rfl ⟨Nat.le_of_ble_eq_true rfl, Nat.le_of_ble_eq_true rfl⟩ (Nat.le_of_ble_eq_true rfl) rfl (t_isInI (lo := _) (hi := _) (fun c_47 => ?_) (fun c_47 => ?_))
          · refine ax_if_eq (tgt := 99) dX12_place_50 (by decide) (fun z => absurd z (by decide)) (fun _ => ?_)
            refine ax_aload_n (i := 0) dX12_place_53 rfl rfl rfl ?_
            refine ax_mR hm dX12_place_54 fl_X12_207 rfl (by decide) ?_
            refine ax_aload_n (i := 0) dX12_place_57 rfl rfl rfl ?_
            refine ax_mR hm dX12_place_58 fl_X12_159 rfl (by decide) ?_
            refine ax_iload_n (i := 2) dX12_place_61 rfl rfl ?_
            refine ax_mIN (N := 20) hm dX12_place_62 rfl rfl (by decide) (by omega) ?_
            refine ax_top (hP.A (k := 59) (n := 20) (b := 8) (by decide) (by omega)).1 ?_
            refine ax_mIN (N := 8) hm dX12_place_63 rfl rfl (by decide) (hP.A (k := 59) (n := 20) (b := 8) (by decide) (by omega)).2 ?_
            refine ax_istore_n (i := 3) (lv' := [(3, _), (2, _), (0, _), (1, _)]) dX12_place_64 rfl (by decide) rfl ?_
            refine ax_aload_n (i := 0) dX12_place_65 rfl rfl rfl ?_
            refine ax_mR hm dX12_place_66 fl_X12_207 rfl (by decide) ?_
            refine ax_aload_n (i := 0) dX12_place_69 rfl rfl rfl ?_
            refine ax_mR hm dX12_place_70 fl_X12_159 rfl (by decide) ?_
            refine ax_iload_n (i := 2) dX12_place_73 rfl rfl ?_
            refine ax_mIN (N := 20) hm dX12_place_74 rfl rfl (by decide) (by omega) ?_
            refine ax_top (hP.A (k := 59) (n := 20) (b := 8) (by decide) (by omega)).1 ?_
            refine ax_aload_n (i := 0) dX12_place_75 rfl rfl rfl ?_
            refine ax_mR hm dX12_place_76 fl_X12_207 rfl (by decide) ?_
            refine ax_aload_n (i := 0) dX12_place_79 rfl rfl rfl ?_
            refine ax_mR hm dX12_place_80 fl_X12_162 rfl (by decide) ?_
            refine ax_iload_n (i := 2) dX12_place_83 rfl rfl ?_
            refine ax_mIN (N := 20) hm dX12_place_84 rfl rfl (by decide) (by omega) ?_
            refine ax_top (hP.A (k := 60) (n := 20) (b := 8) (by decide) (by omega)).1 ?_
            refine ax_mIN (N := 8) hm dX12_place_85 rfl rfl (by decide) (hP.A (k := 60) (n := 20) (b := 8) (by decide) (by omega)).2 ?_
            refine ax_mPIN (N := 8) hm dX12_place_86 rfl rfl (by decide) (hP.A (k := 59) (n := 20) (b := 8) (by decide) (by omega)).2 ?_
            refine ax_aload_n (i := 0) dX12_place_87 rfl rfl rfl ?_
            refine ax_mR hm dX12_place_88 fl_X12_207 rfl (by decide) ?_
            refine ax_aload_n (i := 0) dX12_place_91 rfl rfl rfl ?_
            refine ax_mR hm dX12_place_92 fl_X12_162 rfl (by decide) ?_
            refine ax_iload_n (i := 2) dX12_place_95 rfl rfl ?_
            refine ax_mIN (N := 20) hm dX12_place_96 rfl rfl (by decide) (by omega) ?_
            refine ax_top (hP.A (k := 60) (n := 20) (b := 8) (by decide) (by omega)).1 ?_
            refine ax_iload_n (i := 3) dX12_place_97 rfl rfl ?_
            refine ax_mPIN (N := 8) hm dX12_place_98 rfl rfl (by decide) (hP.A (k := 60) (n := 20) (b := 8) (by decide) (by omega)).2 ?_
            refine ax_iinc (v := _ + 1) (lv' := [(2, _), (3, _), (0, _), (1, _)]) dX12_place_99 rfl rfl (by decide) rfl ?_
            refine ax_mE (M2 := mIter (fun k M => mSwapK M t k) (k + 1) M1) (by rw [show mIter (fun k M => mSwapK M t k) (k + 1) M1 = mSwapK N t k by rw [← hN]; rfl]; unfold mSwapK; rw [if_pos c_47]) ?_
            refine ax_goto (tgt := 23) dX12_place_102 (by decide) ?_
            rw [nI_1]
            exact ax_loc rfl (ih (k + 1) (by omega))
          · refine ax_if_eq (tgt := 99) dX12_place_50 (by decide) (fun _ => ?_) (fun z => absurd (by decide) z)
            refine ax_iinc (v := _ + 1) (lv' := [(2, _), (0, _), (1, _)]) dX12_place_99 rfl rfl (by decide) rfl ?_
            refine ax_mE (M2 := mIter (fun k M => mSwapK M t k) (k + 1) M1) (by rw [show mIter (fun k M => mSwapK M t k) (k + 1) M1 = mSwapK N t k by rw [← hN]; rfl]; unfold mSwapK; rw [if_neg c_47]) ?_
            refine ax_goto (tgt := 23) dX12_place_102 (by decide) ?_
            rw [nI_1]
            exact ax_loc rfl (ih (k + 1) (by omega))
    exact L2
  have L1 : ∀ (m k : Nat), k + m = 8 → awX b E m_X12_place 2 [(2, .int (nI k)), (0, .ref (nm 13 0)), (1, .int (nI t))] [] (putM S (mIter (fun h M => pA M 76 h (nI h)) k M)) 0 0 Q := by
    intro m
    induction m with
    | zero =>
      intro k hm1 
      refine ax_iload_n (i := 2) dX12_place_2 rfl rfl ?_
      refine ax_bipush (v := 8) dX12_place_3 (by decide) ?_
      refine ax_icmp_ge (tgt := 21) dX12_place_5 (by decide) (fun c_5 => ?_) (fun c_5 => ?_)
      · have hk2 : k = 8 := Nat.le_antisymm (by omega) (ge_of_c (b := 8) rfl c_5 (by decide))
        subst hk2
        refine ax_iconst (v := nI 0) dX12_place_21 (by decide) ?_
        refine ax_istore_n (i := 2) (lv' := [(2, _), (0, _), (1, _)]) dX12_place_22 rfl (by decide) rfl ?_
        exact ax_loc rfl (L2 (mN M 58) 0 (by omega))
      · exact absurd (lt_of_c (b := 8) rfl c_5 (by omega)) (by omega)
    | succ m ih =>
      intro k hm1 
      refine ax_iload_n (i := 2) dX12_place_2 rfl rfl ?_
      refine ax_bipush (v := 8) dX12_place_3 (by decide) ?_
      refine ax_icmp_ge (tgt := 21) dX12_place_5 (by decide) (fun c_5 => ?_) (fun c_5 => ?_)
      · exact absurd (ge_of_c (b := 8) rfl c_5 (by decide)) (by omega)
      · have hk2 : k < 8 := lt_of_c (b := 8) rfl c_5 (by omega)
        refine ax_aload_n (i := 0) dX12_place_8 rfl rfl rfl ?_
        refine ax_mR hm dX12_place_9 fl_X12_207 rfl (by decide) ?_
        refine ax_iload_n (i := 2) dX12_place_12 rfl rfl ?_
        refine ax_iload_n (i := 2) dX12_place_13 rfl rfl ?_
        refine ax_mPIN (N := 8) hm dX12_place_14 rfl rfl (by decide) (by omega) ?_
        refine ax_iinc (v := _ + 1) (lv' := [(2, _), (0, _), (1, _)]) dX12_place_15 rfl rfl (by decide) rfl ?_
        refine ax_goto (tgt := 2) dX12_place_18 (by decide) ?_
        rw [nI_1]
        exact ax_loc rfl (ih (k + 1) (by omega))
  refine ax_iconst (v := nI 0) dX12_place_0 (by decide) ?_
  refine ax_istore_n (i := 2) (lv' := [(2, _), (0, _), (1, _)]) dX12_place_1 rfl (by decide) rfl ?_
  exact ax_loc rfl (L1 8 0 (by omega))
theorem in48 {t f : Nat} (hf : f < 48) : nI (t % 48) - nI f + nI 48 = nI (t % 48 + 48 - f) := by
  have h1 : (nI (t % 48) - nI f + nI 48 : Int32) = nI (t % 48) + nI 48 - nI f := by rw [Int32.sub_eq_add_neg, Int32.sub_eq_add_neg, Int32.add_assoc, Int32.add_comm (-nI f), ← Int32.add_assoc]
  rw [h1, nI_add]
  exact pk_sub (by omega)

set_option maxHeartbeats 4000000 in
set_option maxRecDepth 100000 in
theorem t_stepOf {b : Bool} {E : awE} {S : awS} {M : aM} {Q : Option Value → awS → Nat → Nat → Prop} (hm : mOk S) {hd t : Nat} (hI : mI M) (hh : hd < 8) (ht : t < 2 ^ 20) (h : Q (some (.int (mStep M hd t (mN M 53)))) (putM S M) 0 0) : awT b E m_X12_stepOf [.ref (nm 13 0), .int (nI hd), .int (nI t)] (putM S M) Q := by
  refine awT.of (by decide) (by decide) (Nat.le_of_ble_eq_true rfl) ?_
  have es : mS M 53 = nI (mN M 53) := mS_nI hI (b := 40) (by decide)
  have hsb : mN M 53 ≤ 40 := mS_b hI (by decide)
  have L : ∀ (m k : Nat), k + m = mN M 53 → awX b E m_X12_stepOf 6 [(4, .int (nI k)), (3, .int (mStep M hd t k)), (0, .ref (nm 13 0)), (1, .int (nI hd)), (2, .int (nI t))] [] (putM S M) 0 0 Q := by
    intro m
    induction m with
    | zero =>
      intro k hm1 
      refine ax_iload dX12_stepOf_6 rfl ?_
      refine ax_aload_n (i := 0) dX12_stepOf_8 rfl rfl rfl ?_
      refine ax_mS dX12_stepOf_9 fl_X12_293 rfl ?_
      refine ax_icmp_ge (tgt := 100) dX12_stepOf_12 (by decide) (fun c_12 => ?_) (fun c_12 => ?_)
      · have hk2 : k = mN M 53 := Nat.le_antisymm (by omega) (ge_of_n es c_12 (by omega))
        subst hk2
        refine ax_iload_n (i := 3) dX12_stepOf_100 rfl rfl ?_
        refine ax_iret dX12_stepOf_101 rfl rfl ?_
        exact h
      · exact absurd (lt_of_n es c_12 (by omega)) (by omega)
    | succ m ih =>
      intro k hm1 
      refine ax_iload dX12_stepOf_6 rfl ?_
      refine ax_aload_n (i := 0) dX12_stepOf_8 rfl rfl rfl ?_
      refine ax_mS dX12_stepOf_9 fl_X12_293 rfl ?_
      refine ax_icmp_ge (tgt := 100) dX12_stepOf_12 (by decide) (fun c_12 => ?_) (fun c_12 => ?_)
      · exact absurd (ge_of_n es c_12 (by omega)) (by omega)
      · have hk2 : k < mN M 53 := lt_of_n es c_12 (by omega)
        refine ax_aload_n (i := 0) dX12_stepOf_15 rfl rfl rfl ?_
        refine ax_mR hm dX12_stepOf_16 fl_X12_147 rfl (by decide) ?_
        refine ax_iload dX12_stepOf_19 rfl ?_
        refine ax_mIN (N := 40) hm dX12_stepOf_21 rfl rfl (by decide) (by omega) ?_
        refine ax_aload_n (i := 0) dX12_stepOf_22 rfl rfl rfl ?_
        refine ax_mR hm dX12_stepOf_23 fl_X12_207 rfl (by decide) ?_
        refine ax_iload_n (i := 1) dX12_stepOf_26 rfl rfl ?_
        refine ax_mIN (N := 8) hm dX12_stepOf_27 rfl rfl (by decide) (by omega) ?_
        refine ax_icmp_ne (tgt := 63) dX12_stepOf_28 (by decide) (fun c_28 => ?_) (fun c_28 => ?_)
        · refine ax_iconst (v := 0) dX12_stepOf_63 (by decide) ?_
          refine ax_istore (lv' := [(5, _), (4, _), (3, _), (0, _), (1, _), (2, _)]) dX12_stepOf_64 (by decide) rfl ?_
          refine ax_iload dX12_stepOf_66 rfl ?_
          refine ax_if_eq (tgt := 92) dX12_stepOf_68 (by decide) (fun _ => ?_) (fun z => absurd (by decide) z)
          refine ax_iload_n (i := 3) dX12_stepOf_92 rfl rfl ?_
          refine ax_istore_n (i := 3) (lv' := [(3, _), (5, _), (4, _), (0, _), (1, _), (2, _)]) dX12_stepOf_93 rfl (by decide) rfl ?_
          refine ax_iinc (v := _ + 1) (lv' := [(4, _), (3, _), (5, _), (0, _), (1, _), (2, _)]) dX12_stepOf_94 rfl rfl (by decide) rfl ?_
          have hpl : mE M 56 k < 2 ^ 31 := Nat.lt_trans (hI.A (k := 56) (n := 40) (b := 49) (by decide) (by omega)).2 (by decide)
          refine ax_goto (tgt := 6) dX12_stepOf_97 (by decide) ?_
          rw [nI_1]
          exact ax_loc (by rw [show mStep M hd t (k + 1) = _ from iC_f (fun z => c_28 z.1.1)]; rfl) (ih (k + 1) (by omega))
        · refine ax_iload_n (i := 2) dX12_stepOf_31 rfl rfl ?_
          refine ax_bipush (v := nI 48) dX12_stepOf_32 (by decide) ?_
          refine ax_irem dX12_stepOf_34 (by decide) ?_
          refine ax_top (pk_rem (by omega) (by decide) (by decide)) ?_
          refine ax_aload_n (i := 0) dX12_stepOf_35 rfl rfl rfl ?_
          refine ax_mR hm dX12_stepOf_36 fl_X12_150 rfl (by decide) ?_
          refine ax_iload dX12_stepOf_39 rfl ?_
          refine ax_mIN (N := 40) hm dX12_stepOf_41 rfl rfl (by decide) (by omega) ?_
          refine ax_top (hI.A (k := 55) (n := 40) (b := 48) (by decide) (by omega)).1 ?_
          refine ax_isub dX12_stepOf_42 ?_
          refine ax_bipush (v := nI 48) dX12_stepOf_43 (by decide) ?_
          refine ax_iadd dX12_stepOf_45 ?_
          refine ax_top (in48 (hI.A (k := 55) (n := 40) (b := 48) (by decide) (by omega)).2) ?_
          refine ax_bipush (v := nI 48) dX12_stepOf_46 (by decide) ?_
          refine ax_irem dX12_stepOf_48 (by decide) ?_
          refine ax_top (pk_rem (by omega) (by decide) (by decide)) ?_
          refine ax_aload_n (i := 0) dX12_stepOf_49 rfl rfl rfl ?_
          refine ax_mR hm dX12_stepOf_50 fl_X12_153 rfl (by decide) ?_
          refine ax_iload dX12_stepOf_53 rfl ?_
          refine ax_mIN (N := 40) hm dX12_stepOf_55 rfl rfl (by decide) (by omega) ?_
          refine ax_top (hI.A (k := 56) (n := 40) (b := 49) (by decide) (by omega)).1 ?_
          refine ax_icmp_ge (tgt := 63) dX12_stepOf_56 (by decide) (fun c_56 => ?_) (fun c_56 => ?_)
          · refine ax_iconst (v := 0) dX12_stepOf_63 (by decide) ?_
            refine ax_istore (lv' := [(5, _), (4, _), (3, _), (0, _), (1, _), (2, _)]) dX12_stepOf_64 (by decide) rfl ?_
            refine ax_iload dX12_stepOf_66 rfl ?_
            refine ax_if_eq (tgt := 92) dX12_stepOf_68 (by decide) (fun _ => ?_) (fun z => absurd (by decide) z)
            refine ax_iload_n (i := 3) dX12_stepOf_92 rfl rfl ?_
            refine ax_istore_n (i := 3) (lv' := [(3, _), (5, _), (4, _), (0, _), (1, _), (2, _)]) dX12_stepOf_93 rfl (by decide) rfl ?_
            refine ax_iinc (v := _ + 1) (lv' := [(4, _), (3, _), (5, _), (0, _), (1, _), (2, _)]) dX12_stepOf_94 rfl rfl (by decide) rfl ?_
            have hpl : mE M 56 k < 2 ^ 31 := Nat.lt_trans (hI.A (k := 56) (n := 40) (b := 49) (by decide) (by omega)).2 (by decide)
            refine ax_goto (tgt := 6) dX12_stepOf_97 (by decide) ?_
            rw [nI_1]
            exact ax_loc (by rw [show mStep M hd t (k + 1) = _ from iC_f (fun z => absurd z.1.2 (Nat.not_lt.mpr ((nI_leI hpl (by omega)).mp c_56)))]; rfl) (ih (k + 1) (by omega))
          · refine ax_iconst (v := 1) dX12_stepOf_59 (by decide) ?_
            refine ax_goto (tgt := 64) dX12_stepOf_60 (by decide) ?_
            refine ax_istore (lv' := [(5, _), (4, _), (3, _), (0, _), (1, _), (2, _)]) dX12_stepOf_64 (by decide) rfl ?_
            refine ax_iload dX12_stepOf_66 rfl ?_
            refine ax_if_eq (tgt := 92) dX12_stepOf_68 (by decide) (fun z => absurd z (by decide)) (fun _ => ?_)
            refine ax_aload_n (i := 0) dX12_stepOf_71 rfl rfl rfl ?_
            refine ax_mR hm dX12_stepOf_72 fl_X12_156 rfl (by decide) ?_
            refine ax_iload dX12_stepOf_75 rfl ?_
            refine ax_mIN (N := 40) hm dX12_stepOf_77 rfl rfl (by decide) (by omega) ?_
            refine ax_iload_n (i := 3) dX12_stepOf_78 rfl rfl ?_
            refine ax_icmp_ge (tgt := 92) dX12_stepOf_79 (by decide) (fun c_79 => ?_) (fun c_79 => ?_)
            · refine ax_iload_n (i := 3) dX12_stepOf_92 rfl rfl ?_
              refine ax_istore_n (i := 3) (lv' := [(3, _), (5, _), (4, _), (0, _), (1, _), (2, _)]) dX12_stepOf_93 rfl (by decide) rfl ?_
              refine ax_iinc (v := _ + 1) (lv' := [(4, _), (3, _), (5, _), (0, _), (1, _), (2, _)]) dX12_stepOf_94 rfl rfl (by decide) rfl ?_
              have hpl : mE M 56 k < 2 ^ 31 := Nat.lt_trans (hI.A (k := 56) (n := 40) (b := 49) (by decide) (by omega)).2 (by decide)
              refine ax_goto (tgt := 6) dX12_stepOf_97 (by decide) ?_
              rw [nI_1]
              exact ax_loc (by rw [show mStep M hd t (k + 1) = _ from iC_f (fun z => absurd c_79 (Int32.not_le.mpr z.2))]; rfl) (ih (k + 1) (by omega))
            · refine ax_aload_n (i := 0) dX12_stepOf_82 rfl rfl rfl ?_
              refine ax_mR hm dX12_stepOf_83 fl_X12_156 rfl (by decide) ?_
              refine ax_iload dX12_stepOf_86 rfl ?_
              refine ax_mIN (N := 40) hm dX12_stepOf_88 rfl rfl (by decide) (by omega) ?_
              refine ax_goto (tgt := 93) dX12_stepOf_89 (by decide) ?_
              refine ax_istore_n (i := 3) (lv' := [(3, _), (5, _), (4, _), (0, _), (1, _), (2, _)]) dX12_stepOf_93 rfl (by decide) rfl ?_
              refine ax_iinc (v := _ + 1) (lv' := [(4, _), (3, _), (5, _), (0, _), (1, _), (2, _)]) dX12_stepOf_94 rfl rfl (by decide) rfl ?_
              have hpl : mE M 56 k < 2 ^ 31 := Nat.lt_trans (hI.A (k := 56) (n := 40) (b := 49) (by decide) (by omega)).2 (by decide)
              refine ax_goto (tgt := 6) dX12_stepOf_97 (by decide) ?_
              rw [nI_1]
              exact ax_loc (by rw [show mStep M hd t (k + 1) = _ from iC_t ⟨⟨Classical.not_not.mp c_28, Nat.lt_of_not_le (fun z => c_56 ((nI_leI hpl (by omega)).mpr z))⟩, Int32.not_le.mp c_79⟩]; rfl) (ih (k + 1) (by omega))
  refine ax_bipush (v := 10) dX12_stepOf_0 (by decide) ?_
  refine ax_istore_n (i := 3) (lv' := [(3, _), (0, _), (1, _), (2, _)]) dX12_stepOf_2 rfl (by decide) rfl ?_
  refine ax_iconst (v := nI 0) dX12_stepOf_3 (by decide) ?_
  refine ax_istore (lv' := [(4, _), (3, _), (0, _), (1, _), (2, _)]) dX12_stepOf_4 (by decide) rfl ?_
  exact ax_loc rfl (L (mN M 53) 0 (by omega))
