theorem vx_e (M : aM) (x : Nat) : nI (401 * x) + mS (mT0 M) 1 + 1 = nI (401 * x) + mS M 1 + 1 := rfl
theorem vx_i {M : aM} {x : Nat} (hI : mI M) : nI (401 * x) + mS (mT0 M) 1 + 1 = nI (401 * x + mN M 1 + 1) := by
  rw [vx_e, mS_nI hI (k := 1) (b := 400) (by decide), nI_add, nI_1]
theorem cl_lt {M : aM} (hI : mI M) (h : ¬ mS M 1 = 400) : mN M 1 < 400 := by
  have h1 : mN M 1 ≤ 400 := mS_b hI (by decide)
  refine Nat.lt_of_le_of_ne h1 (fun z => h ?_)
  rw [mS_nI hI (k := 1) (b := 400) (by decide), z]
  rfl

set_option maxHeartbeats 4000000 in
set_option maxRecDepth 100000 in
theorem t_value {b : Bool} {E : awE} {S : awS} {M : aM} {Q : Option Value → awS → Nat → Nat → Prop} (hm : mOk S) (hI : mI M) (s : Int32) (v : UInt64) (h : Q (some (.int (mValue M s v).2)) (putM S (mValue M s v).1) 0 0) : awT b E m_X12_value [.ref (nm 13 0), .int s, .double v] (putM S M) Q := by
  refine awT.of (by decide) (by decide) (Nat.le_of_ble_eq_true rfl) ?_
  refine ax_aload_n (i := 0) dX12_value_0 rfl rfl rfl ?_
  refine ax_iconst (v := 0) dX12_value_1 (by decide) ?_
  refine ax_mPS dX12_value_2 fl_X12_228 rfl rfl ?_
  refine ax_mE (M2 := mT0 M) rfl ?_
  refine ax_aload_n (i := 0) dX12_value_5 rfl rfl rfl ?_
  refine ax_iload_n (i := 1) dX12_value_6 rfl rfl ?_
  refine ax_invV (c := 13) (n := 1) (As := [_]) dX12_value_7 cb_X12_isSource cv_X12_299.1 cv_X12_299.2.1 cv_X12_299.2.2 rfl (by decide) rfl ⟨Nat.le_of_ble_eq_true rfl, Nat.le_of_ble_eq_true rfl⟩ (Nat.le_of_ble_eq_true rfl) rfl (t_isSource (fun c_7 => ?_) (fun c_7 => ?_))
  · refine ax_if_ne (tgt := 15) dX12_value_10 (by decide) (fun _ => ?_) (fun z => absurd (by decide) z)
    refine ax_dload_n (i := 2) dX12_value_15 rfl rfl ?_
    refine ax_ldc2d dX12_value_16 kc_X12_302 ?_
    refine ax_dcmp dX12_value_19 ?_
    refine ax_if_lt (tgt := 41) dX12_value_20 (by decide) (fun c_20 => ?_) (fun c_20 => ?_)
    · refine ax_bipush (v := -2) dX12_value_41 (by decide) ?_
      refine ax_iret dX12_value_43 rfl rfl ?_
      exact fin2 h ((if_neg (fun z => z c_7)).trans (if_pos (Or.inl (fun z => z.1 c_20))))
    · refine ax_dload_n (i := 2) dX12_value_23 rfl rfl ?_
      refine ax_ldc2d dX12_value_24 kc_X12_304 ?_
      refine ax_dcmp dX12_value_27 ?_
      refine ax_if_gt (tgt := 41) dX12_value_28 (by decide) (fun c_28 => ?_) (fun c_28 => ?_)
      · refine ax_bipush (v := -2) dX12_value_41 (by decide) ?_
        refine ax_iret dX12_value_43 rfl rfl ?_
        exact fin2 h ((if_neg (fun z => z c_7)).trans (if_pos (Or.inl (fun z => z.2 c_28))))
      · refine ax_aload_n (i := 0) dX12_value_31 rfl rfl rfl ?_
        refine ax_mS dX12_value_32 fl_X12_262 rfl ?_
        refine ax_sipush (v := 400) dX12_value_35 (by decide) ?_
        refine ax_icmp_ne (tgt := 44) dX12_value_38 (by decide) (fun c_38 => ?_) (fun c_38 => ?_)
        · have e_s := rg_lt c_7.1 c_7.2 (mS_nI hI (k := 2) (b := 16) (by decide)) (Nat.lt_of_le_of_lt (mS_b hI (k := 2) (b := 16) (by decide)) (by decide))
          have e_sb : mN M 2 ≤ 16 := mS_b hI (by decide)
          have hc := cl_lt hI c_38
          rw [e_s.1]
          refine ax_sipush (v := nI 401) dX12_value_44 (by decide) ?_
          refine ax_iload_n (i := 1) dX12_value_47 rfl rfl ?_
          refine ax_imulN dX12_value_48 ?_
          refine ax_aload_n (i := 0) dX12_value_49 rfl rfl rfl ?_
          refine ax_mS dX12_value_50 fl_X12_262 rfl ?_
          refine ax_iadd dX12_value_53 ?_
          refine ax_iconst (v := 1) dX12_value_54 (by decide) ?_
          refine ax_iadd dX12_value_55 ?_
          refine ax_top (vx_i hI) ?_
          refine ax_istore (lv' := [(4, _), (0, _), (1, _), (2, _)]) dX12_value_56 (by decide) rfl ?_
          refine ax_aload_n (i := 0) dX12_value_58 rfl rfl rfl ?_
          refine ax_mR hm dX12_value_59 fl_X12_17 rfl (by decide) ?_
          refine ax_iload dX12_value_62 rfl ?_
          refine ax_mZN (N := 6416) hm dX12_value_64 rfl rfl (by decide) (by omega) ?_
          refine ax_istore (lv' := [(5, _), (4, _), (0, _), (1, _), (2, _)]) dX12_value_65 (by decide) rfl ?_
          refine ax_aload_n (i := 0) dX12_value_67 rfl rfl rfl ?_
          refine ax_mR hm dX12_value_68 fl_X12_17 rfl (by decide) ?_
          refine ax_iload dX12_value_71 rfl ?_
          refine ax_iconst (v := 1) dX12_value_73 (by decide) ?_
          refine ax_mPZN (N := 6416) hm dX12_value_74 rfl rfl (by decide) (by omega) rfl ?_
          refine ax_aload_n (i := 0) dX12_value_75 rfl rfl rfl ?_
          refine ax_mR hm dX12_value_76 fl_X12_13 rfl (by decide) ?_
          refine ax_iload dX12_value_79 rfl ?_
          refine ax_dload_n (i := 2) dX12_value_81 rfl rfl ?_
          refine ax_d2l dX12_value_82 ?_
          refine ax_mPJN (N := 6416) hm dX12_value_83 rfl rfl (by decide) (by omega) ?_
          refine ax_iload dX12_value_84 rfl ?_
          refine ax_if_eq (tgt := 93) dX12_value_86 (by decide) (fun c_86 => ?_) (fun c_86 => ?_)
          · refine ax_iconst (v := 1) dX12_value_93 (by decide) ?_
            refine ax_iret dX12_value_94 rfl rfl ?_
            exact fin2 h ((if_neg (fun z => z c_7)).trans ((if_neg (fun z => z.elim (fun w => w ⟨c_20, c_28⟩) (fun w => c_38 w))).trans (Prod.ext rfl (if_pos c_86))))
          · refine ax_iconst (v := 0) dX12_value_89 (by decide) ?_
            refine ax_goto (tgt := 94) dX12_value_90 (by decide) ?_
            refine ax_iret dX12_value_94 rfl rfl ?_
            exact fin2 h ((if_neg (fun z => z c_7)).trans ((if_neg (fun z => z.elim (fun w => w ⟨c_20, c_28⟩) (fun w => c_38 w))).trans (Prod.ext rfl (if_neg c_86))))
        · refine ax_bipush (v := -2) dX12_value_41 (by decide) ?_
          refine ax_iret dX12_value_43 rfl rfl ?_
          exact fin2 h ((if_neg (fun z => z c_7)).trans (if_pos (Or.inr (Classical.not_not.mp c_38))))
  · refine ax_if_ne (tgt := 15) dX12_value_10 (by decide) (fun z => absurd z (by decide)) (fun _ => ?_)
    refine ax_iconst (v := -1) dX12_value_13 (by decide) ?_
    refine ax_iret dX12_value_14 rfl rfl ?_
    exact fin2 h (if_pos c_7)
set_option maxHeartbeats 4000000 in
set_option maxRecDepth 100000 in
theorem t_tear {b : Bool} {E : awE} {S : awS} {M : aM} {Q : Option Value → awS → Nat → Nat → Prop} (hm : mOk S) (hI : mI M) (s : Int32) (h : Q (some (.int (mTear M s).2)) (putM S (mTear M s).1) 0 0) : awT b E m_X12_tear [.ref (nm 13 0), .int s] (putM S M) Q := by
  refine awT.of (by decide) (by decide) (Nat.le_of_ble_eq_true rfl) ?_
  refine ax_aload_n (i := 0) dX12_tear_0 rfl rfl rfl ?_
  refine ax_iconst (v := 0) dX12_tear_1 (by decide) ?_
  refine ax_mPS dX12_tear_2 fl_X12_228 rfl rfl ?_
  refine ax_mE (M2 := mT0 M) rfl ?_
  refine ax_aload_n (i := 0) dX12_tear_5 rfl rfl rfl ?_
  refine ax_iload_n (i := 1) dX12_tear_6 rfl rfl ?_
  refine ax_invV (c := 13) (n := 1) (As := [_]) dX12_tear_7 cb_X12_isSource cv_X12_299.1 cv_X12_299.2.1 cv_X12_299.2.2 rfl (by decide) rfl ⟨Nat.le_of_ble_eq_true rfl, Nat.le_of_ble_eq_true rfl⟩ (Nat.le_of_ble_eq_true rfl) rfl (t_isSource (fun c_7 => ?_) (fun c_7 => ?_))
  · refine ax_if_ne (tgt := 15) dX12_tear_10 (by decide) (fun _ => ?_) (fun z => absurd (by decide) z)
    refine ax_aload_n (i := 0) dX12_tear_15 rfl rfl rfl ?_
    refine ax_mS dX12_tear_16 fl_X12_262 rfl ?_
    refine ax_sipush (v := 400) dX12_tear_19 (by decide) ?_
    refine ax_icmp_ne (tgt := 27) dX12_tear_22 (by decide) (fun c_22 => ?_) (fun c_22 => ?_)
    · have e_s := rg_lt c_7.1 c_7.2 (mS_nI hI (k := 2) (b := 16) (by decide)) (Nat.lt_of_le_of_lt (mS_b hI (k := 2) (b := 16) (by decide)) (by decide))
      have e_sb : mN M 2 ≤ 16 := mS_b hI (by decide)
      have hc := cl_lt hI c_22
      rw [e_s.1]
      refine ax_sipush (v := nI 401) dX12_tear_27 (by decide) ?_
      refine ax_iload_n (i := 1) dX12_tear_30 rfl rfl ?_
      refine ax_imulN dX12_tear_31 ?_
      refine ax_aload_n (i := 0) dX12_tear_32 rfl rfl rfl ?_
      refine ax_mS dX12_tear_33 fl_X12_262 rfl ?_
      refine ax_iadd dX12_tear_36 ?_
      refine ax_iconst (v := 1) dX12_tear_37 (by decide) ?_
      refine ax_iadd dX12_tear_38 ?_
      refine ax_top (vx_i hI) ?_
      refine ax_istore_n (i := 2) (lv' := [(2, _), (0, _), (1, _)]) dX12_tear_39 rfl (by decide) rfl ?_
      refine ax_aload_n (i := 0) dX12_tear_40 rfl rfl rfl ?_
      refine ax_mR hm dX12_tear_41 fl_X12_17 rfl (by decide) ?_
      refine ax_iload_n (i := 2) dX12_tear_44 rfl rfl ?_
      refine ax_mZN (N := 6416) hm dX12_tear_45 rfl rfl (by decide) (by omega) ?_
      refine ax_istore_n (i := 3) (lv' := [(3, _), (2, _), (0, _), (1, _)]) dX12_tear_46 rfl (by decide) rfl ?_
      refine ax_aload_n (i := 0) dX12_tear_47 rfl rfl rfl ?_
      refine ax_mR hm dX12_tear_48 fl_X12_17 rfl (by decide) ?_
      refine ax_iload_n (i := 2) dX12_tear_51 rfl rfl ?_
      refine ax_iconst (v := 0) dX12_tear_52 (by decide) ?_
      refine ax_mPZN (N := 6416) hm dX12_tear_53 rfl rfl (by decide) (by omega) rfl ?_
      refine ax_iload_n (i := 3) dX12_tear_54 rfl rfl ?_
      refine ax_if_eq (tgt := 62) dX12_tear_55 (by decide) (fun c_55 => ?_) (fun c_55 => ?_)
      · refine ax_iconst (v := 0) dX12_tear_62 (by decide) ?_
        refine ax_iret dX12_tear_63 rfl rfl ?_
        exact fin2 h ((if_neg (fun z => z c_7)).trans ((if_neg c_22).trans (Prod.ext rfl (if_pos c_55))))
      · refine ax_iconst (v := 1) dX12_tear_58 (by decide) ?_
        refine ax_goto (tgt := 63) dX12_tear_59 (by decide) ?_
        refine ax_iret dX12_tear_63 rfl rfl ?_
        exact fin2 h ((if_neg (fun z => z c_7)).trans ((if_neg c_22).trans (Prod.ext rfl (if_neg c_55))))
    · refine ax_iconst (v := 0) dX12_tear_25 (by decide) ?_
      refine ax_iret dX12_tear_26 rfl rfl ?_
      exact fin2 h ((if_neg (fun z => z c_7)).trans (if_pos (Classical.not_not.mp c_22)))
  · refine ax_if_ne (tgt := 15) dX12_tear_10 (by decide) (fun z => absurd z (by decide)) (fun _ => ?_)
    refine ax_iconst (v := -1) dX12_tear_13 (by decide) ?_
    refine ax_iret dX12_tear_14 rfl rfl ?_
    exact fin2 h (if_pos c_7)
set_option maxHeartbeats 4000000 in
set_option maxRecDepth 100000 in
theorem t_truth {b : Bool} {E : awE} {S : awS} {M : aM} {Q : Option Value → awS → Nat → Nat → Prop} (hm : mOk S) (hI : mI M) (r : Int32) (s : Int32) (h : Q (some (.int (mTruth M r s).2)) (putM S (mTruth M r s).1) 0 0) : awT b E m_X12_truth [.ref (nm 13 0), .int r, .int s] (putM S M) Q := by
  refine awT.of (by decide) (by decide) (Nat.le_of_ble_eq_true rfl) ?_
  refine ax_aload_n (i := 0) dX12_truth_0 rfl rfl rfl ?_
  refine ax_iconst (v := 0) dX12_truth_1 (by decide) ?_
  refine ax_mPS dX12_truth_2 fl_X12_228 rfl rfl ?_
  refine ax_mE (M2 := mT0 M) rfl ?_
  refine ax_aload_n (i := 0) dX12_truth_5 rfl rfl rfl ?_
  refine ax_iload_n (i := 1) dX12_truth_6 rfl rfl ?_
  refine ax_invV (c := 13) (n := 1) (As := [_]) dX12_truth_7 cb_X12_isRule cv_X12_258.1 cv_X12_258.2.1 cv_X12_258.2.2 rfl (by decide) rfl ⟨Nat.le_of_ble_eq_true rfl, Nat.le_of_ble_eq_true rfl⟩ (Nat.le_of_ble_eq_true rfl) rfl (t_isRule (fun c_7 => ?_) (fun c_7 => ?_))
  · refine ax_if_eq (tgt := 21) dX12_truth_10 (by decide) (fun z => absurd z (by decide)) (fun _ => ?_)
    refine ax_aload_n (i := 0) dX12_truth_13 rfl rfl rfl ?_
    refine ax_iload_n (i := 2) dX12_truth_14 rfl rfl ?_
    refine ax_invV (c := 13) (n := 1) (As := [_]) dX12_truth_15 cb_X12_isSource cv_X12_299.1 cv_X12_299.2.1 cv_X12_299.2.2 rfl (by decide) rfl ⟨Nat.le_of_ble_eq_true rfl, Nat.le_of_ble_eq_true rfl⟩ (Nat.le_of_ble_eq_true rfl) rfl (t_isSource (fun c_15 => ?_) (fun c_15 => ?_))
    · refine ax_if_ne (tgt := 24) dX12_truth_18 (by decide) (fun _ => ?_) (fun z => absurd (by decide) z)
      have e_r := rg_lt c_7.1 c_7.2 (mS_nI hI (k := 6) (b := 16) (by decide)) (Nat.lt_of_le_of_lt (mS_b hI (k := 6) (b := 16) (by decide)) (by decide))
      have e_rb : mN M 6 ≤ 16 := mS_b hI (by decide)
      have e_s := rg_lt c_15.1 c_15.2 (mS_nI hI (k := 2) (b := 16) (by decide)) (Nat.lt_of_le_of_lt (mS_b hI (k := 2) (b := 16) (by decide)) (by decide))
      have e_sb : mN M 2 ≤ 16 := mS_b hI (by decide)
      have ec : mS (mT0 M) 1 = nI (mN M 1) := mS_nI hI (k := 1) (b := 400) (by decide)
      have hcb : mN M 1 ≤ 400 := mS_b hI (by decide)
      rw [e_r.1, e_s.1]
      refine ax_aload_n (i := 0) dX12_truth_24 rfl rfl rfl ?_
      refine ax_mS dX12_truth_25 fl_X12_262 rfl ?_
      refine ax_if_ne (tgt := 36) dX12_truth_28 (by decide) (fun c_28 => ?_) (fun c_28 => ?_)
      · refine ax_aload_n (i := 0) dX12_truth_36 rfl rfl rfl ?_
        refine ax_iload_n (i := 1) dX12_truth_37 rfl rfl ?_
        refine ax_iload_n (i := 2) dX12_truth_38 rfl rfl ?_
        refine ax_aload_n (i := 0) dX12_truth_39 rfl rfl rfl ?_
        refine ax_mS dX12_truth_40 fl_X12_262 rfl ?_
        refine ax_top ec ?_
        refine ax_invV (c := 13) (n := 3) (As := [_, _, _]) dX12_truth_43 cb_X12_truthAt cv_X12_317.1 cv_X12_317.2.1 cv_X12_317.2.2 rfl (by decide) rfl ⟨Nat.le_of_ble_eq_true rfl, Nat.le_of_ble_eq_true rfl⟩ (Nat.le_of_ble_eq_true rfl) rfl (t_truthAt hm (by omega) (by omega) (by omega) ?_)
        refine ax_iret dX12_truth_46 rfl rfl ?_
        exact fin2 h ((if_neg (fun z => z ⟨c_7, c_15⟩)).trans (if_neg c_28))
      · refine ax_bipush (v := -3) dX12_truth_31 (by decide) ?_
        refine ax_goto (tgt := 46) dX12_truth_33 (by decide) ?_
        refine ax_iret dX12_truth_46 rfl rfl ?_
        exact fin2 h ((if_neg (fun z => z ⟨c_7, c_15⟩)).trans (if_pos (Classical.not_not.mp c_28)))
    · refine ax_if_ne (tgt := 24) dX12_truth_18 (by decide) (fun z => absurd z (by decide)) (fun _ => ?_)
      refine ax_bipush (v := -2) dX12_truth_21 (by decide) ?_
      refine ax_iret dX12_truth_23 rfl rfl ?_
      exact fin2 h (if_pos (fun g => c_15 g.2))
  · refine ax_if_eq (tgt := 21) dX12_truth_10 (by decide) (fun _ => ?_) (fun z => absurd (by decide) z)
    refine ax_bipush (v := -2) dX12_truth_21 (by decide) ?_
    refine ax_iret dX12_truth_23 rfl rfl ?_
    exact fin2 h (if_pos (fun g => c_7 g.1))
set_option maxHeartbeats 4000000 in
set_option maxRecDepth 100000 in
theorem t_counts {b : Bool} {E : awE} {S : awS} {M : aM} {Q : Option Value → awS → Nat → Nat → Prop} (hm : mOk S) (hI : mI M) (r : Int32) (s : Int32) (wh : Int32) (h : Q (some (.int (mCounts M r s wh).2)) (putM S (mCounts M r s wh).1) 0 0) : awT b E m_X12_counts [.ref (nm 13 0), .int r, .int s, .int wh] (putM S M) Q := by
  refine awT.of (by decide) (by decide) (Nat.le_of_ble_eq_true rfl) ?_
  refine ax_aload_n (i := 0) dX12_counts_0 rfl rfl rfl ?_
  refine ax_iconst (v := 0) dX12_counts_1 (by decide) ?_
  refine ax_mPS dX12_counts_2 fl_X12_228 rfl rfl ?_
  refine ax_mE (M2 := mT0 M) rfl ?_
  refine ax_aload_n (i := 0) dX12_counts_5 rfl rfl rfl ?_
  refine ax_iload_n (i := 1) dX12_counts_6 rfl rfl ?_
  refine ax_invV (c := 13) (n := 1) (As := [_]) dX12_counts_7 cb_X12_isRule cv_X12_258.1 cv_X12_258.2.1 cv_X12_258.2.2 rfl (by decide) rfl ⟨Nat.le_of_ble_eq_true rfl, Nat.le_of_ble_eq_true rfl⟩ (Nat.le_of_ble_eq_true rfl) rfl (t_isRule (fun c_7 => ?_) (fun c_7 => ?_))
  · refine ax_if_eq (tgt := 33) dX12_counts_10 (by decide) (fun z => absurd z (by decide)) (fun _ => ?_)
    refine ax_aload_n (i := 0) dX12_counts_13 rfl rfl rfl ?_
    refine ax_iload_n (i := 2) dX12_counts_14 rfl rfl ?_
    refine ax_invV (c := 13) (n := 1) (As := [_]) dX12_counts_15 cb_X12_isSource cv_X12_299.1 cv_X12_299.2.1 cv_X12_299.2.2 rfl (by decide) rfl ⟨Nat.le_of_ble_eq_true rfl, Nat.le_of_ble_eq_true rfl⟩ (Nat.le_of_ble_eq_true rfl) rfl (t_isSource (fun c_15 => ?_) (fun c_15 => ?_))
    · refine ax_if_eq (tgt := 33) dX12_counts_18 (by decide) (fun z => absurd z (by decide)) (fun _ => ?_)
      refine ax_iload_n (i := 3) dX12_counts_21 rfl rfl ?_
      refine ax_i2l dX12_counts_22 ?_
      refine ax_lconst (v := 0) dX12_counts_23 (by decide) ?_
      refine ax_ldc2 dX12_counts_24 kc_X12_268 ?_
      refine ax_invS (n := 3) (As := [_, _, _]) dX12_counts_27 cb_X12_isIn cs_X12_242.1 cs_X12_242.2 rfl ⟨Nat.le_of_ble_eq_true rfl, Nat.le_of_ble_eq_true rfl⟩ (Nat.le_of_ble_eq_true rfl) rfl (t_isInI (lo := (0)) (hi := (2)) (fun c_27 => ?_) (fun c_27 => ?_))
      · refine ax_if_ne (tgt := 35) dX12_counts_30 (by decide) (fun _ => ?_) (fun z => absurd (by decide) z)
        have e_r := rg_lt c_7.1 c_7.2 (mS_nI hI (k := 6) (b := 16) (by decide)) (Nat.lt_of_le_of_lt (mS_b hI (k := 6) (b := 16) (by decide)) (by decide))
        have e_rb : mN M 6 ≤ 16 := mS_b hI (by decide)
        have e_s := rg_lt c_15.1 c_15.2 (mS_nI hI (k := 2) (b := 16) (by decide)) (Nat.lt_of_le_of_lt (mS_b hI (k := 2) (b := 16) (by decide)) (by decide))
        have e_sb : mN M 2 ≤ 16 := mS_b hI (by decide)
        rw [e_r.1, e_s.1]
        refine ax_bipush (v := nI 16) dX12_counts_35 (by decide) ?_
        refine ax_iload_n (i := 1) dX12_counts_37 rfl rfl ?_
        refine ax_imulN dX12_counts_38 ?_
        refine ax_iload_n (i := 2) dX12_counts_39 rfl rfl ?_
        refine ax_iaddN dX12_counts_40 ?_
        refine ax_istore (lv' := [(4, _), (0, _), (1, _), (2, _), (3, _)]) dX12_counts_41 (by decide) rfl ?_
        refine ax_iload_n (i := 3) dX12_counts_43 rfl rfl ?_
        refine ax_if_ne (tgt := 57) dX12_counts_44 (by decide) (fun c_44 => ?_) (fun c_44 => ?_)
        · refine ax_iload_n (i := 3) dX12_counts_57 rfl rfl ?_
          refine ax_iconst (v := 1) dX12_counts_58 (by decide) ?_
          refine ax_icmp_ne (tgt := 72) dX12_counts_59 (by decide) (fun c_59 => ?_) (fun c_59 => ?_)
          · refine ax_aload_n (i := 0) dX12_counts_72 rfl rfl rfl ?_
            refine ax_mR hm dX12_counts_73 fl_X12_62 rfl (by decide) ?_
            refine ax_iload dX12_counts_76 rfl ?_
            refine ax_mIN (N := 256) hm dX12_counts_78 rfl rfl (by decide) (by omega) ?_
            refine ax_if_ge (tgt := 87) dX12_counts_79 (by decide) (fun c_79 => ?_) (fun c_79 => ?_)
            · refine ax_aload_n (i := 0) dX12_counts_87 rfl rfl rfl ?_
              refine ax_mR hm dX12_counts_88 fl_X12_62 rfl (by decide) ?_
              refine ax_iload dX12_counts_91 rfl ?_
              refine ax_mIN (N := 256) hm dX12_counts_93 rfl rfl (by decide) (by omega) ?_
              refine ax_iret dX12_counts_94 rfl rfl ?_
              exact fin2 h ((if_neg (fun z => z ⟨c_7, c_15, c_27⟩)).trans ((if_neg c_44).trans ((if_neg c_59).trans (if_neg (Int32.not_lt.mpr c_79)))))
            · refine ax_bipush (v := -2) dX12_counts_82 (by decide) ?_
              refine ax_goto (tgt := 94) dX12_counts_84 (by decide) ?_
              refine ax_iret dX12_counts_94 rfl rfl ?_
              exact fin2 h ((if_neg (fun z => z ⟨c_7, c_15, c_27⟩)).trans ((if_neg c_44).trans ((if_neg c_59).trans (if_pos (Int32.not_le.mp c_79)))))
          · refine ax_aload_n (i := 0) dX12_counts_62 rfl rfl rfl ?_
            refine ax_mR hm dX12_counts_63 fl_X12_59 rfl (by decide) ?_
            refine ax_iload dX12_counts_66 rfl ?_
            refine ax_mIN (N := 256) hm dX12_counts_68 rfl rfl (by decide) (by omega) ?_
            refine ax_goto (tgt := 94) dX12_counts_69 (by decide) ?_
            refine ax_iret dX12_counts_94 rfl rfl ?_
            exact fin2 h ((if_neg (fun z => z ⟨c_7, c_15, c_27⟩)).trans ((if_neg c_44).trans (if_pos (Classical.not_not.mp c_59))))
        · refine ax_aload_n (i := 0) dX12_counts_47 rfl rfl rfl ?_
          refine ax_mR hm dX12_counts_48 fl_X12_56 rfl (by decide) ?_
          refine ax_iload dX12_counts_51 rfl ?_
          refine ax_mIN (N := 256) hm dX12_counts_53 rfl rfl (by decide) (by omega) ?_
          refine ax_goto (tgt := 94) dX12_counts_54 (by decide) ?_
          refine ax_iret dX12_counts_94 rfl rfl ?_
          exact fin2 h ((if_neg (fun z => z ⟨c_7, c_15, c_27⟩)).trans (if_pos (Classical.not_not.mp c_44)))
      · refine ax_if_ne (tgt := 35) dX12_counts_30 (by decide) (fun z => absurd z (by decide)) (fun _ => ?_)
        refine ax_iconst (v := -1) dX12_counts_33 (by decide) ?_
        refine ax_iret dX12_counts_34 rfl rfl ?_
        exact fin2 h (if_pos (fun g => c_27 g.2.2))
    · refine ax_if_eq (tgt := 33) dX12_counts_18 (by decide) (fun _ => ?_) (fun z => absurd (by decide) z)
      refine ax_iconst (v := -1) dX12_counts_33 (by decide) ?_
      refine ax_iret dX12_counts_34 rfl rfl ?_
      exact fin2 h (if_pos (fun g => c_15 g.2.1))
  · refine ax_if_eq (tgt := 33) dX12_counts_10 (by decide) (fun _ => ?_) (fun z => absurd (by decide) z)
    refine ax_iconst (v := -1) dX12_counts_33 (by decide) ?_
    refine ax_iret dX12_counts_34 rfl rfl ?_
    exact fin2 h (if_pos (fun g => c_7 g.1))
set_option maxHeartbeats 4000000 in
set_option maxRecDepth 100000 in
theorem t_holds {b : Bool} {E : awE} {S : awS} {M : aM} {Q : Option Value → awS → Nat → Nat → Prop} (hm : mOk S) (hI : mI M) (l : Int32) (i : Int32) (h : Q (some (.int (mHolds M l i).2)) (putM S (mHolds M l i).1) 0 0) : awT b E m_X12_holds [.ref (nm 13 0), .int l, .int i] (putM S M) Q := by
  refine awT.of (by decide) (by decide) (Nat.le_of_ble_eq_true rfl) ?_
  refine ax_aload_n (i := 0) dX12_holds_0 rfl rfl rfl ?_
  refine ax_iconst (v := 0) dX12_holds_1 (by decide) ?_
  refine ax_mPS dX12_holds_2 fl_X12_228 rfl rfl ?_
  refine ax_mE (M2 := mT0 M) rfl ?_
  refine ax_aload_n (i := 0) dX12_holds_5 rfl rfl rfl ?_
  refine ax_iload_n (i := 1) dX12_holds_6 rfl rfl ?_
  refine ax_invV (c := 13) (n := 1) (As := [_]) dX12_holds_7 cb_X12_isLetter cv_X12_387.1 cv_X12_387.2.1 cv_X12_387.2.2 rfl (by decide) rfl ⟨Nat.le_of_ble_eq_true rfl, Nat.le_of_ble_eq_true rfl⟩ (Nat.le_of_ble_eq_true rfl) rfl (t_isLetter (fun c_7 => ?_) (fun c_7 => ?_))
  · refine ax_if_eq (tgt := 27) dX12_holds_10 (by decide) (fun z => absurd z (by decide)) (fun _ => ?_)
    refine ax_iload_n (i := 2) dX12_holds_13 rfl rfl ?_
    refine ax_if_lt (tgt := 27) dX12_holds_14 (by decide) (fun c_14 => ?_) (fun c_14 => ?_)
    · refine ax_iconst (v := -1) dX12_holds_27 (by decide) ?_
      refine ax_goto (tgt := 42) dX12_holds_28 (by decide) ?_
      refine ax_iret dX12_holds_42 rfl rfl ?_
      exact fin2 h (if_pos (Or.inr (Or.inl c_14)))
    · have e_l := rg_lt c_7.1 c_7.2 (mS_nI hI (k := 63) (b := 200) (by decide)) (Nat.lt_of_le_of_lt (mS_b hI (k := 63) (b := 200) (by decide)) (by decide))
      have e_lb : mN M 63 ≤ 200 := mS_b hI (by decide)
      have em := hI.A (k := 67) (n := 200) (b := 41) (by decide) (j := nN l) (by omega)
      rw [e_l.1]
      refine ax_iload_n (i := 2) dX12_holds_17 rfl rfl ?_
      refine ax_aload_n (i := 0) dX12_holds_18 rfl rfl rfl ?_
      refine ax_mR hm dX12_holds_19 fl_X12_180 rfl (by decide) ?_
      refine ax_iload_n (i := 1) dX12_holds_22 rfl rfl ?_
      refine ax_mIN (N := 200) hm dX12_holds_23 rfl rfl (by decide) (by omega) ?_
      refine ax_icmp_lt (tgt := 31) dX12_holds_24 (by decide) (fun c_24 => ?_) (fun c_24 => ?_)
      · have e_i := rg_lt (Int32.not_lt.mp c_14) c_24 em.1 (by omega)
        rw [e_i.1]
        refine ax_aload_n (i := 0) dX12_holds_31 rfl rfl rfl ?_
        refine ax_mR hm dX12_holds_32 fl_X12_183 rfl (by decide) ?_
        refine ax_bipush (v := nI 40) dX12_holds_35 (by decide) ?_
        refine ax_iload_n (i := 1) dX12_holds_37 rfl rfl ?_
        refine ax_imulN dX12_holds_38 ?_
        refine ax_iload_n (i := 2) dX12_holds_39 rfl rfl ?_
        refine ax_iaddN dX12_holds_40 ?_
        refine ax_mIN (N := 8000) hm dX12_holds_41 rfl rfl (by decide) (by omega) ?_
        refine ax_iret dX12_holds_42 rfl rfl ?_
        exact fin2 h (if_neg (fun z => z.elim (fun w => w c_7) (fun z => z.elim (fun w => c_14 w) (fun w => Int32.not_lt.mpr w c_24))))
      · refine ax_iconst (v := -1) dX12_holds_27 (by decide) ?_
        refine ax_goto (tgt := 42) dX12_holds_28 (by decide) ?_
        refine ax_iret dX12_holds_42 rfl rfl ?_
        exact fin2 h (if_pos (Or.inr (Or.inr (Int32.not_lt.mp c_24))))
  · refine ax_if_eq (tgt := 27) dX12_holds_10 (by decide) (fun _ => ?_) (fun z => absurd (by decide) z)
    refine ax_iconst (v := -1) dX12_holds_27 (by decide) ?_
    refine ax_goto (tgt := 42) dX12_holds_28 (by decide) ?_
    refine ax_iret dX12_holds_42 rfl rfl ?_
    exact fin2 h (if_pos (Or.inl c_7))
set_option maxHeartbeats 4000000 in
set_option maxRecDepth 100000 in
theorem t_why {b : Bool} {E : awE} {S : awS} {M : aM} {Q : Option Value → awS → Nat → Nat → Prop} (hm : mOk S) (hI : mI M) (l : Int32) (h : Q (some (.int (mWhy M l).2)) (putM S (mWhy M l).1) 0 0) : awT b E m_X12_why [.ref (nm 13 0), .int l] (putM S M) Q := by
  refine awT.of (by decide) (by decide) (Nat.le_of_ble_eq_true rfl) ?_
  refine ax_aload_n (i := 0) dX12_why_0 rfl rfl rfl ?_
  refine ax_iconst (v := 0) dX12_why_1 (by decide) ?_
  refine ax_mPS dX12_why_2 fl_X12_228 rfl rfl ?_
  refine ax_mE (M2 := mT0 M) rfl ?_
  refine ax_aload_n (i := 0) dX12_why_5 rfl rfl rfl ?_
  refine ax_iload_n (i := 1) dX12_why_6 rfl rfl ?_
  refine ax_invV (c := 13) (n := 1) (As := [_]) dX12_why_7 cb_X12_isLetter cv_X12_387.1 cv_X12_387.2.1 cv_X12_387.2.2 rfl (by decide) rfl ⟨Nat.le_of_ble_eq_true rfl, Nat.le_of_ble_eq_true rfl⟩ (Nat.le_of_ble_eq_true rfl) rfl (t_isLetter (fun c_7 => ?_) (fun c_7 => ?_))
  · refine ax_if_eq (tgt := 22) dX12_why_10 (by decide) (fun z => absurd z (by decide)) (fun _ => ?_)
    have e_l := rg_lt c_7.1 c_7.2 (mS_nI hI (k := 63) (b := 200) (by decide)) (Nat.lt_of_le_of_lt (mS_b hI (k := 63) (b := 200) (by decide)) (by decide))
    have e_lb : mN M 63 ≤ 200 := mS_b hI (by decide)
    rw [e_l.1]
    refine ax_aload_n (i := 0) dX12_why_13 rfl rfl rfl ?_
    refine ax_mR hm dX12_why_14 fl_X12_177 rfl (by decide) ?_
    refine ax_iload_n (i := 1) dX12_why_17 rfl rfl ?_
    refine ax_mIN (N := 200) hm dX12_why_18 rfl rfl (by decide) (by omega) ?_
    refine ax_goto (tgt := 23) dX12_why_19 (by decide) ?_
    refine ax_iret dX12_why_23 rfl rfl ?_
    exact fin2 h (if_pos c_7)
  · refine ax_if_eq (tgt := 22) dX12_why_10 (by decide) (fun _ => ?_) (fun z => absurd (by decide) z)
    refine ax_iconst (v := -1) dX12_why_22 (by decide) ?_
    refine ax_iret dX12_why_23 rfl rfl ?_
    exact fin2 h (if_neg c_7)
set_option maxHeartbeats 4000000 in
set_option maxRecDepth 100000 in
theorem t_whyNot {b : Bool} {E : awE} {S : awS} {M : aM} {Q : Option Value → awS → Nat → Nat → Prop} (hm : mOk S) (hI : mI M) (r : Int32) (s : Int32) (h : Q (some (.int (mWhyNot M r s).2)) (putM S (mWhyNot M r s).1) 0 0) : awT b E m_X12_whyNot [.ref (nm 13 0), .int r, .int s] (putM S M) Q := by
  refine awT.of (by decide) (by decide) (Nat.le_of_ble_eq_true rfl) ?_
  refine ax_aload_n (i := 0) dX12_whyNot_0 rfl rfl rfl ?_
  refine ax_iconst (v := 0) dX12_whyNot_1 (by decide) ?_
  refine ax_mPS dX12_whyNot_2 fl_X12_228 rfl rfl ?_
  refine ax_mE (M2 := mT0 M) rfl ?_
  refine ax_aload_n (i := 0) dX12_whyNot_5 rfl rfl rfl ?_
  refine ax_iload_n (i := 1) dX12_whyNot_6 rfl rfl ?_
  refine ax_invV (c := 13) (n := 1) (As := [_]) dX12_whyNot_7 cb_X12_isRule cv_X12_258.1 cv_X12_258.2.1 cv_X12_258.2.2 rfl (by decide) rfl ⟨Nat.le_of_ble_eq_true rfl, Nat.le_of_ble_eq_true rfl⟩ (Nat.le_of_ble_eq_true rfl) rfl (t_isRule (fun c_7 => ?_) (fun c_7 => ?_))
  · refine ax_if_eq (tgt := 21) dX12_whyNot_10 (by decide) (fun z => absurd z (by decide)) (fun _ => ?_)
    refine ax_aload_n (i := 0) dX12_whyNot_13 rfl rfl rfl ?_
    refine ax_iload_n (i := 2) dX12_whyNot_14 rfl rfl ?_
    refine ax_invV (c := 13) (n := 1) (As := [_]) dX12_whyNot_15 cb_X12_isSource cv_X12_299.1 cv_X12_299.2.1 cv_X12_299.2.2 rfl (by decide) rfl ⟨Nat.le_of_ble_eq_true rfl, Nat.le_of_ble_eq_true rfl⟩ (Nat.le_of_ble_eq_true rfl) rfl (t_isSource (fun c_15 => ?_) (fun c_15 => ?_))
    · refine ax_if_ne (tgt := 23) dX12_whyNot_18 (by decide) (fun _ => ?_) (fun z => absurd (by decide) z)
      have e_r := rg_lt c_7.1 c_7.2 (mS_nI hI (k := 6) (b := 16) (by decide)) (Nat.lt_of_le_of_lt (mS_b hI (k := 6) (b := 16) (by decide)) (by decide))
      have e_rb : mN M 6 ≤ 16 := mS_b hI (by decide)
      have e_s := rg_lt c_15.1 c_15.2 (mS_nI hI (k := 2) (b := 16) (by decide)) (Nat.lt_of_le_of_lt (mS_b hI (k := 2) (b := 16) (by decide)) (by decide))
      have e_sb : mN M 2 ≤ 16 := mS_b hI (by decide)
      rw [e_r.1, e_s.1]
      refine ax_aload_n (i := 0) dX12_whyNot_23 rfl rfl rfl ?_
      refine ax_mR hm dX12_whyNot_24 fl_X12_62 rfl (by decide) ?_
      refine ax_bipush (v := nI 16) dX12_whyNot_27 (by decide) ?_
      refine ax_iload_n (i := 1) dX12_whyNot_29 rfl rfl ?_
      refine ax_imulN dX12_whyNot_30 ?_
      refine ax_iload_n (i := 2) dX12_whyNot_31 rfl rfl ?_
      refine ax_iaddN dX12_whyNot_32 ?_
      refine ax_mIN (N := 256) hm dX12_whyNot_33 rfl rfl (by decide) (by omega) ?_
      refine ax_istore_n (i := 3) (lv' := [(3, _), (0, _), (1, _), (2, _)]) dX12_whyNot_34 rfl (by decide) rfl ?_
      refine ax_iload_n (i := 3) dX12_whyNot_35 rfl rfl ?_
      refine ax_if_ge (tgt := 59) dX12_whyNot_36 (by decide) (fun c_36 => ?_) (fun c_36 => ?_)
      · have ex := (hI.t0.la (16 * nN r + nN s)).resolve_left (Int32.not_lt.mpr c_36)
        have ex2 := ex.2
        rw [ex.1]
        refine ax_aload_n (i := 0) dX12_whyNot_59 rfl rfl rfl ?_
        refine ax_mR hm dX12_whyNot_60 fl_X12_98 rfl (by decide) ?_
        refine ax_iload_n (i := 3) dX12_whyNot_63 rfl rfl ?_
        refine ax_mZN (N := 300) hm dX12_whyNot_64 rfl rfl (by decide) (by omega) ?_
        refine ax_if_eq (tgt := 72) dX12_whyNot_65 (by decide) (fun c_65 => ?_) (fun c_65 => ?_)
        · refine ax_aload_n (i := 0) dX12_whyNot_72 rfl rfl rfl ?_
          refine ax_mR hm dX12_whyNot_73 fl_X12_101 rfl (by decide) ?_
          refine ax_iload_n (i := 3) dX12_whyNot_76 rfl rfl ?_
          refine ax_mZN (N := 300) hm dX12_whyNot_77 rfl rfl (by decide) (by omega) ?_
          refine ax_if_eq (tgt := 85) dX12_whyNot_78 (by decide) (fun c_78 => ?_) (fun c_78 => ?_)
          · refine ax_aload_n (i := 0) dX12_whyNot_85 rfl rfl rfl ?_
            refine ax_mR hm dX12_whyNot_86 fl_X12_110 rfl (by decide) ?_
            refine ax_iload_n (i := 3) dX12_whyNot_89 rfl rfl ?_
            refine ax_mZN (N := 300) hm dX12_whyNot_90 rfl rfl (by decide) (by omega) ?_
            refine ax_if_eq (tgt := 98) dX12_whyNot_91 (by decide) (fun c_91 => ?_) (fun c_91 => ?_)
            · refine ax_iconst (v := 4) dX12_whyNot_98 (by decide) ?_
              refine ax_iret dX12_whyNot_99 rfl rfl ?_
              exact fin2 h ((if_neg (fun z => z ⟨c_7, c_15⟩)).trans ((if_neg (Int32.not_lt.mpr c_36)).trans (Prod.ext rfl ((if_neg (fun z => z c_65)).trans ((if_neg (fun z => z c_78)).trans (if_neg (fun z => z c_91)))))))
            · refine ax_iconst (v := 5) dX12_whyNot_94 (by decide) ?_
              refine ax_goto (tgt := 99) dX12_whyNot_95 (by decide) ?_
              refine ax_iret dX12_whyNot_99 rfl rfl ?_
              exact fin2 h ((if_neg (fun z => z ⟨c_7, c_15⟩)).trans ((if_neg (Int32.not_lt.mpr c_36)).trans (Prod.ext rfl ((if_neg (fun z => z c_65)).trans ((if_neg (fun z => z c_78)).trans (if_pos c_91))))))
          · refine ax_iconst (v := 3) dX12_whyNot_81 (by decide) ?_
            refine ax_goto (tgt := 99) dX12_whyNot_82 (by decide) ?_
            refine ax_iret dX12_whyNot_99 rfl rfl ?_
            exact fin2 h ((if_neg (fun z => z ⟨c_7, c_15⟩)).trans ((if_neg (Int32.not_lt.mpr c_36)).trans (Prod.ext rfl ((if_neg (fun z => z c_65)).trans (if_pos c_78)))))
        · refine ax_iconst (v := 2) dX12_whyNot_68 (by decide) ?_
          refine ax_goto (tgt := 99) dX12_whyNot_69 (by decide) ?_
          refine ax_iret dX12_whyNot_99 rfl rfl ?_
          exact fin2 h ((if_neg (fun z => z ⟨c_7, c_15⟩)).trans ((if_neg (Int32.not_lt.mpr c_36)).trans (Prod.ext rfl (if_pos c_65))))
      · refine ax_aload_n (i := 0) dX12_whyNot_39 rfl rfl rfl ?_
        refine ax_mR hm dX12_whyNot_40 fl_X12_56 rfl (by decide) ?_
        refine ax_bipush (v := nI 16) dX12_whyNot_43 (by decide) ?_
        refine ax_iload_n (i := 1) dX12_whyNot_45 rfl rfl ?_
        refine ax_imulN dX12_whyNot_46 ?_
        refine ax_iload_n (i := 2) dX12_whyNot_47 rfl rfl ?_
        refine ax_iaddN dX12_whyNot_48 ?_
        refine ax_mIN (N := 256) hm dX12_whyNot_49 rfl rfl (by decide) (by omega) ?_
        refine ax_if_le (tgt := 57) dX12_whyNot_50 (by decide) (fun c_50 => ?_) (fun c_50 => ?_)
        · refine ax_iconst (v := 0) dX12_whyNot_57 (by decide) ?_
          refine ax_iret dX12_whyNot_58 rfl rfl ?_
          exact fin2 h ((if_neg (fun z => z ⟨c_7, c_15⟩)).trans ((if_pos (Int32.not_le.mp c_36)).trans (Prod.ext rfl (if_neg (Int32.not_lt.mpr c_50)))))
        · refine ax_iconst (v := 1) dX12_whyNot_53 (by decide) ?_
          refine ax_goto (tgt := 58) dX12_whyNot_54 (by decide) ?_
          refine ax_iret dX12_whyNot_58 rfl rfl ?_
          exact fin2 h ((if_neg (fun z => z ⟨c_7, c_15⟩)).trans ((if_pos (Int32.not_le.mp c_36)).trans (Prod.ext rfl (if_pos (Int32.not_le.mp c_50)))))
    · refine ax_if_ne (tgt := 23) dX12_whyNot_18 (by decide) (fun z => absurd z (by decide)) (fun _ => ?_)
      refine ax_iconst (v := -1) dX12_whyNot_21 (by decide) ?_
      refine ax_iret dX12_whyNot_22 rfl rfl ?_
      exact fin2 h (if_pos (fun g => c_15 g.2))
  · refine ax_if_eq (tgt := 21) dX12_whyNot_10 (by decide) (fun _ => ?_) (fun z => absurd (by decide) z)
    refine ax_iconst (v := -1) dX12_whyNot_21 (by decide) ?_
    refine ax_iret dX12_whyNot_22 rfl rfl ?_
    exact fin2 h (if_pos (fun g => c_7 g.1))
