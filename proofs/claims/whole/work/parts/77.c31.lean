set_option maxHeartbeats 400000 in
theorem mClearX_v {M : aM} {t k : Nat} {v w : Int32} (hl : mA M 34 k = 0) (p1 : v = bC (mHeld M k)) (p2 : w = bC (mSil M k t)) : mClearX M t k = if ¬ v = 0 ∨ ¬ w = 0 then pA (pA (pA (pA M 35 k v) 36 k w) 37 k 0) 39 k 0 else if mA M 37 k = 0 then pA (pA (pA (pA M 35 k v) 36 k w) 37 k (nI t)) 39 k 1 else pA (pA M 35 k v) 36 k w := by
  have b1 : bC (mA M 34 k = 0 ∧ mHeld M k) = v := by
    rw [p1]
    exact congrArg bC (propext ⟨fun z => z.2, fun z => ⟨hl, z⟩⟩)
  have b2 : bC (mA (pA M 35 k v) 34 k = 0 ∧ mSil (pA M 35 k v) k t) = w := by
    rw [p2]
    exact congrArg bC (propext ⟨fun z => z.2, fun z => ⟨hl, z⟩⟩)
  have c : (¬ mA (pA (pA M 35 k v) 36 k w) 34 k = 0 ∨ ¬ mA (pA (pA M 35 k v) 36 k w) 35 k = 0 ∨ ¬ mA (pA (pA M 35 k v) 36 k w) 36 k = 0) ↔ (¬ v = 0 ∨ ¬ w = 0) := by
    simp [mA_pA, hl]
  unfold mClearX
  simp only []
  rw [b1, b2]
  by_cases z : ¬ v = 0 ∨ ¬ w = 0
  · rw [if_pos (c.mpr z), if_pos z]
  · rw [if_neg (fun q => z (c.mp q)), if_neg z]
    rfl
set_option maxHeartbeats 400000 in
theorem mClearX_d {M : aM} {t k : Nat} (hl : ¬ mA M 34 k = 0) : mClearX M t k = pA (pA (pA (pA M 35 k 0) 36 k 0) 37 k 0) 39 k 0 := by
  unfold mClearX
  simp only []
  rw [bC_f (fun z => hl z.1), bC_f (show ¬ (mA (pA M 35 k 0) 34 k = 0 ∧ mSil (pA M 35 k 0) k t) from fun z => hl z.1), if_pos (show (¬ mA (pA (pA M 35 k 0) 36 k 0) 34 k = 0 ∨ ¬ mA (pA (pA M 35 k 0) 36 k 0) 35 k = 0 ∨ ¬ mA (pA (pA M 35 k 0) 36 k 0) 36 k = 0) from Or.inl hl)]
theorem bC_01 (p : Prop) : bC p = 0 ∨ bC p = 1 := (Classical.em p).elim (fun h => Or.inr (bC_t h)) (fun h => Or.inl (bC_f h))
set_option maxHeartbeats 400000 in
theorem c_markM {E : awE} {S : awS} {M : aM} {τ : Nat → Nat → Nat} {Q : Option Value → awS → Nat → Nat → Prop} (R : cR τ S M) {k t : Nat} {v w : Int32} (hk : k < mN M 30) (hl : mA M 34 k = 0) (ht : 0 < nI t) (p1 : v = bC (mHeld M k)) (p2 : w = bC (mSil M k t)) (h : ∀ S', cR τ S' (mClearX M t k) → cFm S S' → Q none S' 0 0) : awT true E m_X0_mark [.ref (nm 1 k), .int v, .int w, .int (nI t)] S Q := by
  have e8 : sI S 1 k 8 = mA M 37 k := ((R.flg k hk).1 hl).2.2.1
  have F1 : fmOk 1 := ⟨by decide, by decide, by decide⟩
  have eM := mClearX_v (t := t) hl p1 p2
  refine c_mark (by rw [p1]; exact bC_01 _) (by rw [p2]; exact bC_01 _) (fun z => ?_) (fun z1 z2 z3 => ?_) (fun z1 z2 z3 => ?_)
  · refine h _ ?_ (((cFm.xI F1).tr (cFm.xI F1)).tr (cFm.xI F1))
    rw [eM, if_pos z]
    exact cRmarkA R hl
  · refine h _ ?_ ((((cFm.xI F1).tr (cFm.xI F1)).tr (cFm.xI F1)).tr (cFm.xI F1))
    rw [eM, if_neg (fun z => z.elim (fun q => q z1) (fun q => q z2)), if_pos (e8.symm.trans z3), z1, z2]
    exact cRmarkB R hl ht
  · refine h _ ?_ ((cFm.xI F1).tr (cFm.xI F1))
    rw [eM, if_neg (fun z => z.elim (fun q => q z1) (fun q => q z2)), if_neg (fun q => z3 (e8.trans q)), z1, z2]
    exact cRmarkC R hl

set_option maxHeartbeats 400000 in
set_option maxRecDepth 100000 in
theorem c_markAlarms {E : awE} {S : awS} {M : aM} {τ : Nat → Nat → Nat} {Q : Option Value → awS → Nat → Nat → Prop} (R : cR τ S M) {t : Nat} (ht : 0 < nI t) (h : ∀ S1, cR τ S1 (mClear M t) → cFm S S1 → Q none S1 0 0) : awT true E m_X11_markAlarms [.ref (nm 12 0), .int (nI t)] S Q := by
  refine awT.of (by decide) (by decide) (Nat.le_of_ble_eq_true rfl) ?_
  have L : ∀ (m k : Nat), k + m = (mN M 30) → ∀ (S1 : awS) (N : aM), mIter (fun x M => mClearX M t x) k M = N → cR τ S1 N → cFm S S1 → awX true E m_X11_markAlarms 2 [(2, .int (nI k)), (0, .ref (nm 12 0)), (1, .int (nI t))] [] S1 0 0 Q := by
    intro m
    induction m with
    | zero =>
      intro k hm1 S1 N e1 R1 f1
      have hn : mN N 30 = mN M 30 := by
        rw [← e1]
        show nN (mS _ 30) = _
        rw [(mClear_inv R.mI t k).2 30]
        rfl
      have e_b := R1.nA
      refine ax_iload_n (i := 2) dX11_markAlarms_2 rfl rfl ?_
      refine ax_aload_n (i := 0) dX11_markAlarms_3 rfl rfl rfl ?_
      refine ax_getR dX11_markAlarms_4 fl_X11_22 rfl rfl rfl (R1.tow.1 3 (by decide)) ?_
      refine ax_invV (c := 0) (n := 0) (As := []) dX11_markAlarms_7 cb_Jx4a65c_size_8abf5 cv_X11_75.1 cv_X11_75.2.1 cv_X11_75.2.2 rfl (by decide) rfl ⟨Nat.le_of_ble_eq_true rfl, Nat.le_of_ble_eq_true rfl⟩ (Nat.le_of_ble_eq_true rfl) rfl (t_lsSize (q := 3) (by decide) (R1.lq (by decide)) (R1.lst.2.2.2.1) (Nat.lt_of_le_of_lt (mS_b R1.mI (k := 30) (b := 300) (by decide)) (by decide)) ?_)
      refine ax_icmp_ge (tgt := 54) dX11_markAlarms_10 (by decide) (fun c_10 => ?_) (fun c_10 => ?_)
      · have hk2 : k = (mN M 30) := Nat.le_antisymm (by omega) (ge_of_c (b := (mN M 30)) rfl (hn ▸ c_10) (by omega))
        refine ax_vret dX11_markAlarms_54 rfl ?_
        refine h S1 ?_ f1
        rw [← e1, hk2] at R1
        exact R1
      · exact absurd (lt_of_c (b := (mN M 30)) rfl (hn ▸ c_10) (by omega)) (by omega)
    | succ m ih =>
      intro k hm1 S1 N e1 R1 f1
      have hn : mN N 30 = mN M 30 := by
        rw [← e1]
        show nN (mS _ 30) = _
        rw [(mClear_inv R.mI t k).2 30]
        rfl
      have e_b := R1.nA
      refine ax_iload_n (i := 2) dX11_markAlarms_2 rfl rfl ?_
      refine ax_aload_n (i := 0) dX11_markAlarms_3 rfl rfl rfl ?_
      refine ax_getR dX11_markAlarms_4 fl_X11_22 rfl rfl rfl (R1.tow.1 3 (by decide)) ?_
      refine ax_invV (c := 0) (n := 0) (As := []) dX11_markAlarms_7 cb_Jx4a65c_size_8abf5 cv_X11_75.1 cv_X11_75.2.1 cv_X11_75.2.2 rfl (by decide) rfl ⟨Nat.le_of_ble_eq_true rfl, Nat.le_of_ble_eq_true rfl⟩ (Nat.le_of_ble_eq_true rfl) rfl (t_lsSize (q := 3) (by decide) (R1.lq (by decide)) (R1.lst.2.2.2.1) (Nat.lt_of_le_of_lt (mS_b R1.mI (k := 30) (b := 300) (by decide)) (by decide)) ?_)
      refine ax_icmp_ge (tgt := 54) dX11_markAlarms_10 (by decide) (fun c_10 => ?_) (fun c_10 => ?_)
      · exact absurd (ge_of_c (b := (mN M 30)) rfl (hn ▸ c_10) (by omega)) (by omega)
      · have hk2 : k < (mN M 30) := lt_of_c (b := (mN M 30)) rfl (hn ▸ c_10) (by omega)
        refine ax_aload_n (i := 0) dX11_markAlarms_13 rfl rfl rfl ?_
        refine ax_getR dX11_markAlarms_14 fl_X11_22 rfl rfl rfl (R1.tow.1 3 (by decide)) ?_
        refine ax_iload_n (i := 2) dX11_markAlarms_17 rfl rfl ?_
        refine ax_invV (c := 0) (n := 1) (As := [_]) dX11_markAlarms_18 cb_Jx4a65c_get_915e3 cv_X11_115.1 cv_X11_115.2.1 cv_X11_115.2.2 rfl (by decide) rfl ⟨Nat.le_of_ble_eq_true rfl, Nat.le_of_ble_eq_true rfl⟩ (Nat.le_of_ble_eq_true rfl) rfl (t_lsGet (q := 3) (by decide) (R1.lq (by decide)) (R1.lst.2.2.2.1) (Nat.lt_of_le_of_lt (mS_b R1.mI (k := 30) (b := 300) (by decide)) (by decide)) (by omega) ?_)
        refine ax_cast (c := 1) dX11_markAlarms_21 kl_X11_240 rfl (by decide) ?_
        refine ax_astore_n (i := 3) (lv' := [(3, _), (2, _), (0, _), (1, _)]) dX11_markAlarms_24 rfl (by decide) rfl rfl ?_
        refine ax_aload_n (i := 3) dX11_markAlarms_25 rfl rfl rfl ?_
        refine ax_invV (c := 1) (n := 0) (As := []) dX11_markAlarms_26 cb_X0_lasts cv_X11_273.1 cv_X11_273.2.1 cv_X11_273.2.2 rfl (by decide) rfl ⟨Nat.le_of_ble_eq_true rfl, Nat.le_of_ble_eq_true rfl⟩ (Nat.le_of_ble_eq_true rfl) rfl (c_lasts (fun c_26 => ?_) (fun c_26 => ?_))
        · refine ax_if_eq (tgt := 48) dX11_markAlarms_29 (by decide) (fun z => absurd z (by decide)) (fun _ => ?_)
          refine ax_aload_n (i := 3) dX11_markAlarms_32 rfl rfl rfl ?_
          refine ax_aload_n (i := 0) dX11_markAlarms_33 rfl rfl rfl ?_
          refine ax_aload_n (i := 3) dX11_markAlarms_34 rfl rfl rfl ?_
          refine ax_invV (c := 12) (n := 1) (As := [_]) dX11_markAlarms_35 cb_X11_isHeld cv_X11_277.1 cv_X11_277.2.1 cv_X11_277.2.2 rfl (by decide) rfl ⟨Nat.le_of_ble_eq_true rfl, Nat.le_of_ble_eq_true rfl⟩ (Nat.le_of_ble_eq_true rfl) rfl (c_isHeld R1 (by omega) (fun c_35 => ?_) (fun c_35 => ?_))
          · refine ax_aload_n (i := 0) dX11_markAlarms_38 rfl rfl rfl ?_
            refine ax_aload_n (i := 3) dX11_markAlarms_39 rfl rfl rfl ?_
            refine ax_iload_n (i := 1) dX11_markAlarms_40 rfl rfl ?_
            refine ax_invV (c := 12) (n := 2) (As := [_, _]) dX11_markAlarms_41 cb_X11_isSilenced cv_X11_281.1 cv_X11_281.2.1 cv_X11_281.2.2 rfl (by decide) rfl ⟨Nat.le_of_ble_eq_true rfl, Nat.le_of_ble_eq_true rfl⟩ (Nat.le_of_ble_eq_true rfl) rfl (c_isSilenced R1 (by omega) (fun c_41 => ?_) (fun c_41 => ?_))
            · refine ax_iload_n (i := 1) dX11_markAlarms_44 rfl rfl ?_
              refine ax_invV (c := 1) (n := 3) (As := [_, _, _]) dX11_markAlarms_45 cb_X0_mark cv_X11_285.1 cv_X11_285.2.1 cv_X11_285.2.2 rfl (by decide) rfl ⟨Nat.le_of_ble_eq_true rfl, Nat.le_of_ble_eq_true rfl⟩ (Nat.le_of_ble_eq_true rfl) rfl (c_markM R1 (by omega) (((R1.int (f := 1) (k := 5) (m := 34) (q := 30) (by decide) (show k < mN N 30 by omega))).symm.trans c_26) ht (by first | exact (bC_t ((R1.held (show k < mN N 30 by omega)).mp c_35)).symm | exact (bC_f (fun z => c_35 ((R1.held (show k < mN N 30 by omega)).mpr z))).symm) (by first | exact (bC_t c_41).symm | exact (bC_f c_41).symm) (fun S2 R2 f2 => ?_))
              refine ax_iinc (v := _ + 1) (lv' := [(2, _), (3, _), (0, _), (1, _)]) dX11_markAlarms_48 rfl rfl (by decide) rfl ?_
              refine ax_goto (tgt := 2) dX11_markAlarms_51 (by decide) ?_
              rw [nI_1]
              exact ax_loc rfl (ih (k + 1) (by omega) S2 (mClearX N t k) (by show mClearX (mIter (fun x M => mClearX M t x) k M) t k = _; rw [e1]) R2 (f1.tr f2))
            · refine ax_iload_n (i := 1) dX11_markAlarms_44 rfl rfl ?_
              refine ax_invV (c := 1) (n := 3) (As := [_, _, _]) dX11_markAlarms_45 cb_X0_mark cv_X11_285.1 cv_X11_285.2.1 cv_X11_285.2.2 rfl (by decide) rfl ⟨Nat.le_of_ble_eq_true rfl, Nat.le_of_ble_eq_true rfl⟩ (Nat.le_of_ble_eq_true rfl) rfl (c_markM R1 (by omega) (((R1.int (f := 1) (k := 5) (m := 34) (q := 30) (by decide) (show k < mN N 30 by omega))).symm.trans c_26) ht (by first | exact (bC_t ((R1.held (show k < mN N 30 by omega)).mp c_35)).symm | exact (bC_f (fun z => c_35 ((R1.held (show k < mN N 30 by omega)).mpr z))).symm) (by first | exact (bC_t c_41).symm | exact (bC_f c_41).symm) (fun S2 R2 f2 => ?_))
              refine ax_iinc (v := _ + 1) (lv' := [(2, _), (3, _), (0, _), (1, _)]) dX11_markAlarms_48 rfl rfl (by decide) rfl ?_
              refine ax_goto (tgt := 2) dX11_markAlarms_51 (by decide) ?_
              rw [nI_1]
              exact ax_loc rfl (ih (k + 1) (by omega) S2 (mClearX N t k) (by show mClearX (mIter (fun x M => mClearX M t x) k M) t k = _; rw [e1]) R2 (f1.tr f2))
          · refine ax_aload_n (i := 0) dX11_markAlarms_38 rfl rfl rfl ?_
            refine ax_aload_n (i := 3) dX11_markAlarms_39 rfl rfl rfl ?_
            refine ax_iload_n (i := 1) dX11_markAlarms_40 rfl rfl ?_
            refine ax_invV (c := 12) (n := 2) (As := [_, _]) dX11_markAlarms_41 cb_X11_isSilenced cv_X11_281.1 cv_X11_281.2.1 cv_X11_281.2.2 rfl (by decide) rfl ⟨Nat.le_of_ble_eq_true rfl, Nat.le_of_ble_eq_true rfl⟩ (Nat.le_of_ble_eq_true rfl) rfl (c_isSilenced R1 (by omega) (fun c_41 => ?_) (fun c_41 => ?_))
            · refine ax_iload_n (i := 1) dX11_markAlarms_44 rfl rfl ?_
              refine ax_invV (c := 1) (n := 3) (As := [_, _, _]) dX11_markAlarms_45 cb_X0_mark cv_X11_285.1 cv_X11_285.2.1 cv_X11_285.2.2 rfl (by decide) rfl ⟨Nat.le_of_ble_eq_true rfl, Nat.le_of_ble_eq_true rfl⟩ (Nat.le_of_ble_eq_true rfl) rfl (c_markM R1 (by omega) (((R1.int (f := 1) (k := 5) (m := 34) (q := 30) (by decide) (show k < mN N 30 by omega))).symm.trans c_26) ht (by first | exact (bC_t ((R1.held (show k < mN N 30 by omega)).mp c_35)).symm | exact (bC_f (fun z => c_35 ((R1.held (show k < mN N 30 by omega)).mpr z))).symm) (by first | exact (bC_t c_41).symm | exact (bC_f c_41).symm) (fun S2 R2 f2 => ?_))
              refine ax_iinc (v := _ + 1) (lv' := [(2, _), (3, _), (0, _), (1, _)]) dX11_markAlarms_48 rfl rfl (by decide) rfl ?_
              refine ax_goto (tgt := 2) dX11_markAlarms_51 (by decide) ?_
              rw [nI_1]
              exact ax_loc rfl (ih (k + 1) (by omega) S2 (mClearX N t k) (by show mClearX (mIter (fun x M => mClearX M t x) k M) t k = _; rw [e1]) R2 (f1.tr f2))
            · refine ax_iload_n (i := 1) dX11_markAlarms_44 rfl rfl ?_
              refine ax_invV (c := 1) (n := 3) (As := [_, _, _]) dX11_markAlarms_45 cb_X0_mark cv_X11_285.1 cv_X11_285.2.1 cv_X11_285.2.2 rfl (by decide) rfl ⟨Nat.le_of_ble_eq_true rfl, Nat.le_of_ble_eq_true rfl⟩ (Nat.le_of_ble_eq_true rfl) rfl (c_markM R1 (by omega) (((R1.int (f := 1) (k := 5) (m := 34) (q := 30) (by decide) (show k < mN N 30 by omega))).symm.trans c_26) ht (by first | exact (bC_t ((R1.held (show k < mN N 30 by omega)).mp c_35)).symm | exact (bC_f (fun z => c_35 ((R1.held (show k < mN N 30 by omega)).mpr z))).symm) (by first | exact (bC_t c_41).symm | exact (bC_f c_41).symm) (fun S2 R2 f2 => ?_))
              refine ax_iinc (v := _ + 1) (lv' := [(2, _), (3, _), (0, _), (1, _)]) dX11_markAlarms_48 rfl rfl (by decide) rfl ?_
              refine ax_goto (tgt := 2) dX11_markAlarms_51 (by decide) ?_
              rw [nI_1]
              exact ax_loc rfl (ih (k + 1) (by omega) S2 (mClearX N t k) (by show mClearX (mIter (fun x M => mClearX M t x) k M) t k = _; rw [e1]) R2 (f1.tr f2))
        · refine ax_if_eq (tgt := 48) dX11_markAlarms_29 (by decide) (fun _ => ?_) (fun z => absurd (by decide) z)
          refine ax_iinc (v := _ + 1) (lv' := [(2, _), (3, _), (0, _), (1, _)]) dX11_markAlarms_48 rfl rfl (by decide) rfl ?_
          refine ax_goto (tgt := 2) dX11_markAlarms_51 (by decide) ?_
          rw [nI_1]
          exact ax_loc rfl (ih (k + 1) (by omega) S1 (mClearX N t k) (by show mClearX (mIter (fun x M => mClearX M t x) k M) t k = _; rw [e1]) (by rw [mClearX_d (fun z => c_26 (((R1.int (f := 1) (k := 5) (m := 34) (q := 30) (by decide) (show k < mN N 30 by omega))).trans z))]; exact cRmarkD R1 (fun z => c_26 (((R1.int (f := 1) (k := 5) (m := 34) (q := 30) (by decide) (show k < mN N 30 by omega))).trans z))) f1)
  refine ax_iconst (v := nI 0) dX11_markAlarms_0 (by decide) ?_
  refine ax_istore_n (i := 2) (lv' := [(2, _), (0, _), (1, _)]) dX11_markAlarms_1 rfl (by decide) rfl ?_
  exact ax_loc rfl (L (mN M 30) 0 (by omega) S M rfl R cFm.rf)
