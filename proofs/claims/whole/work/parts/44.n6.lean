abbrev hasPn (M : aM) (d : Nat) (i n : Int32) : Prop := 0 ≤ n ∧ 0 ≤ i ∧ i ≤ mA M 80 d ∧ n ≤ mA M 80 d - i

set_option maxHeartbeats 4000000 in
set_option maxRecDepth 100000 in
theorem t_hasPlaces {b : Bool} {E : awE} {S : awS} {M : aM} {Q : Option Value → awS → Nat → Nat → Prop} (hm : mOk S) {d : Nat} {i n : Int32} (hd : d < 8) (h1 : hasPn M d i n → Q (some (.int 1)) (putM S M) 0 0) (h0 : ¬ hasPn M d i n → Q (some (.int 0)) (putM S M) 0 0) : awT b E m_X12_hasPlaces [.ref (nm 13 0), .int (nI d), .int i, .int n] (putM S M) Q := by
  refine awT.of (by decide) (by decide) (Nat.le_of_ble_eq_true rfl) ?_
  refine ax_iload_n (i := 3) dX12_hasPlaces_0 rfl rfl ?_
  refine ax_if_lt (tgt := 34) dX12_hasPlaces_1 (by decide) (fun c_1 => ?_) (fun c_1 => ?_)
  · refine ax_iconst (v := 0) dX12_hasPlaces_34 (by decide) ?_
    refine ax_iret dX12_hasPlaces_35 rfl rfl ?_
    exact h0 (fun z => Int32.not_lt.mpr z.1 c_1)
  · refine ax_iload_n (i := 2) dX12_hasPlaces_4 rfl rfl ?_
    refine ax_if_lt (tgt := 34) dX12_hasPlaces_5 (by decide) (fun c_5 => ?_) (fun c_5 => ?_)
    · refine ax_iconst (v := 0) dX12_hasPlaces_34 (by decide) ?_
      refine ax_iret dX12_hasPlaces_35 rfl rfl ?_
      exact h0 (fun z => Int32.not_lt.mpr z.2.1 c_5)
    · refine ax_iload_n (i := 2) dX12_hasPlaces_8 rfl rfl ?_
      refine ax_aload_n (i := 0) dX12_hasPlaces_9 rfl rfl rfl ?_
      refine ax_mR hm dX12_hasPlaces_10 fl_X12_216 rfl (by decide) ?_
      refine ax_iload_n (i := 1) dX12_hasPlaces_13 rfl rfl ?_
      refine ax_mIN (N := 8) hm dX12_hasPlaces_14 rfl rfl (by decide) (by omega) ?_
      refine ax_icmp_gt (tgt := 34) dX12_hasPlaces_15 (by decide) (fun c_15 => ?_) (fun c_15 => ?_)
      · refine ax_iconst (v := 0) dX12_hasPlaces_34 (by decide) ?_
        refine ax_iret dX12_hasPlaces_35 rfl rfl ?_
        exact h0 (fun z => Int32.not_lt.mpr z.2.2.1 c_15)
      · refine ax_iload_n (i := 3) dX12_hasPlaces_18 rfl rfl ?_
        refine ax_aload_n (i := 0) dX12_hasPlaces_19 rfl rfl rfl ?_
        refine ax_mR hm dX12_hasPlaces_20 fl_X12_216 rfl (by decide) ?_
        refine ax_iload_n (i := 1) dX12_hasPlaces_23 rfl rfl ?_
        refine ax_mIN (N := 8) hm dX12_hasPlaces_24 rfl rfl (by decide) (by omega) ?_
        refine ax_iload_n (i := 2) dX12_hasPlaces_25 rfl rfl ?_
        refine ax_isub dX12_hasPlaces_26 ?_
        refine ax_icmp_gt (tgt := 34) dX12_hasPlaces_27 (by decide) (fun c_27 => ?_) (fun c_27 => ?_)
        · refine ax_iconst (v := 0) dX12_hasPlaces_34 (by decide) ?_
          refine ax_iret dX12_hasPlaces_35 rfl rfl ?_
          exact h0 (fun z => Int32.not_lt.mpr z.2.2.2 c_27)
        · refine ax_iconst (v := 1) dX12_hasPlaces_30 (by decide) ?_
          refine ax_goto (tgt := 35) dX12_hasPlaces_31 (by decide) ?_
          refine ax_iret dX12_hasPlaces_35 rfl rfl ?_
          exact h1 ⟨Int32.not_lt.mp c_1, Int32.not_lt.mp c_5, Int32.not_lt.mp c_15, Int32.not_lt.mp c_27⟩
set_option maxHeartbeats 4000000 in
set_option maxRecDepth 100000 in
theorem t_denied {b : Bool} {E : awE} {S : awS} {M : aM} {Q : Option Value → awS → Nat → Nat → Prop} (hm : mOk S) {d : Int32} (h : Q (some (.int (mDenied M d))) (putM S M) 0 0) : awT b E m_X12_denied [.ref (nm 13 0), .int d] (putM S M) Q := by
  refine awT.of (by decide) (by decide) (Nat.le_of_ble_eq_true rfl) ?_
  refine ax_iload_n (i := 1) dX12_denied_0 rfl rfl ?_
  refine ax_invS (n := 1) (As := [_]) dX12_denied_1 cb_X12_isBoard cs_X12_395.1 cs_X12_395.2 rfl ⟨Nat.le_of_ble_eq_true rfl, Nat.le_of_ble_eq_true rfl⟩ (Nat.le_of_ble_eq_true rfl) rfl (t_isBoard (fun c_1 => ?_) (fun c_1 => ?_))
  · refine ax_if_ne (tgt := 11) dX12_denied_4 (by decide) (fun _ => ?_) (fun z => absurd (by decide) z)
    have e_d := okB_e c_1
    have e_db := e_d.2
    rw [e_d.1]
    refine ax_aload_n (i := 0) dX12_denied_11 rfl rfl rfl ?_
    refine ax_mR hm dX12_denied_12 fl_X12_213 rfl (by decide) ?_
    refine ax_iload_n (i := 1) dX12_denied_15 rfl rfl ?_
    refine ax_mIN (N := 8) hm dX12_denied_16 rfl rfl (by decide) (by omega) ?_
    refine ax_if_ne (tgt := 25) dX12_denied_17 (by decide) (fun c_17 => ?_) (fun c_17 => ?_)
    · refine ax_aload_n (i := 0) dX12_denied_25 rfl rfl rfl ?_
      refine ax_mR hm dX12_denied_26 fl_X12_213 rfl (by decide) ?_
      refine ax_iload_n (i := 1) dX12_denied_29 rfl rfl ?_
      refine ax_mIN (N := 8) hm dX12_denied_30 rfl rfl (by decide) (by omega) ?_
      refine ax_iconst (v := 1) dX12_denied_31 (by decide) ?_
      refine ax_icmp_le (tgt := 40) dX12_denied_32 (by decide) (fun c_32 => ?_) (fun c_32 => ?_)
      · refine ax_iconst (v := 0) dX12_denied_40 (by decide) ?_
        refine ax_iret dX12_denied_41 rfl rfl ?_
        exact fin1 h ((if_neg (fun z => z c_1)).trans ((if_neg c_17).trans (if_neg (Int32.not_lt.mpr c_32))))
      · refine ax_bipush (v := -12) dX12_denied_35 (by decide) ?_
        refine ax_goto (tgt := 41) dX12_denied_37 (by decide) ?_
        refine ax_iret dX12_denied_41 rfl rfl ?_
        exact fin1 h ((if_neg (fun z => z c_1)).trans ((if_neg c_17).trans (if_pos (Int32.not_le.mp c_32))))
    · refine ax_bipush (v := -11) dX12_denied_20 (by decide) ?_
      refine ax_goto (tgt := 41) dX12_denied_22 (by decide) ?_
      refine ax_iret dX12_denied_41 rfl rfl ?_
      exact fin1 h ((if_neg (fun z => z c_1)).trans (if_pos (Classical.not_not.mp c_17)))
  · refine ax_if_ne (tgt := 11) dX12_denied_4 (by decide) (fun z => absurd z (by decide)) (fun _ => ?_)
    refine ax_iconst (v := -1) dX12_denied_7 (by decide) ?_
    refine ax_goto (tgt := 41) dX12_denied_8 (by decide) ?_
    refine ax_iret dX12_denied_41 rfl rfl ?_
    exact fin1 h (if_pos c_1)
theorem den_ok {M : aM} {d : Int32} (hb : ∀ j, j < 8 → 0 ≤ mA M 79 j) (h : ¬ mDenied M d < 0) : okBoard d ∧ mA M 79 (nN d) = 1 := by
  unfold mDenied at h
  by_cases c1 : okBoard d
  · rw [if_neg (fun z => z c1)] at h
    by_cases c2 : mA M 79 (nN d) = 0
    · rw [if_pos c2] at h; exact absurd (by decide) h
    · rw [if_neg c2] at h
      by_cases c3 : 1 < mA M 79 (nN d)
      · rw [if_pos c3] at h; exact absurd (by decide) h
      · refine ⟨c1, ?_⟩
        have h1 := hb (nN d) (okB_e c1).2
        generalize mA M 79 (nN d) = x at c2 c3 h1
        have e1 : x.toInt = 1 := by
          have a1 : 0 ≤ x.toInt := by rw [Int32.le_iff_toInt_le] at h1; exact h1
          have a2 : x.toInt ≤ 1 := by have := Int32.not_lt.mp c3; rw [Int32.le_iff_toInt_le] at this; exact this
          have a3 : x.toInt ≠ 0 := fun z => c2 (Int32.toInt_inj.mp z)
          omega
        exact Int32.toInt_inj.mp e1
  · rw [if_pos c1] at h; exact absurd (by decide) h

theorem mWeight_e {M : aM} {d a c : Int32} (h : ¬ mDenied M d < 0) (h1 : (if 0 < mA M 7 (mE M 31 (mE M 81 (nN d))) then (100 : Int32) else 0) = a) (h2 : (if mA M 7 (mE M 31 (mE M 81 (nN d))) = 3 ∨ mA M 7 (mE M 31 (mE M 81 (nN d))) = 5 then (1000 : Int32) else 0) = c) : mWeight M d = (mT0 M, 10 * mA M 13 (mE M 31 (mE M 81 (nN d))) + mA M 7 (mE M 31 (mE M 81 (nN d))) + a + c) := by
  unfold mWeight
  rw [if_neg h]
  dsimp only
  rw [h1, h2]

set_option maxHeartbeats 4000000 in
set_option maxRecDepth 100000 in
theorem t_weight {b : Bool} {E : awE} {S : awS} {M : aM} {Q : Option Value → awS → Nat → Nat → Prop} (hm : mOk S) (hI : mI M) (hb : ∀ j, j < 8 → 0 ≤ mA M 79 j) (d : Int32) (h : Q (some (.int (mWeight M d).2)) (putM S (mWeight M d).1) 0 0) : awT b E m_X12_weight [.ref (nm 13 0), .int d] (putM S M) Q := by
  refine awT.of (by decide) (by decide) (Nat.le_of_ble_eq_true rfl) ?_
  refine ax_aload_n (i := 0) dX12_weight_0 rfl rfl rfl ?_
  refine ax_iconst (v := 0) dX12_weight_1 (by decide) ?_
  refine ax_mPS dX12_weight_2 fl_X12_228 rfl rfl ?_
  refine ax_mE (M2 := mT0 M) rfl ?_
  refine ax_aload_n (i := 0) dX12_weight_5 rfl rfl rfl ?_
  refine ax_iload_n (i := 1) dX12_weight_6 rfl rfl ?_
  refine ax_invV (c := 13) (n := 1) (As := [_]) dX12_weight_7 cb_X12_denied cv_X12_406.1 cv_X12_406.2.1 cv_X12_406.2.2 rfl (by decide) rfl ⟨Nat.le_of_ble_eq_true rfl, Nat.le_of_ble_eq_true rfl⟩ (Nat.le_of_ble_eq_true rfl) rfl (t_denied hm ?_)
  refine ax_istore_n (i := 2) (lv' := [(2, _), (0, _), (1, _)]) dX12_weight_10 rfl (by decide) rfl ?_
  refine ax_iload_n (i := 2) dX12_weight_11 rfl rfl ?_
  refine ax_if_ge (tgt := 17) dX12_weight_12 (by decide) (fun c_12 => ?_) (fun c_12 => ?_)
  · have hok := den_ok (M := M) hb (Int32.not_lt.mpr c_12)
    have e_d := okB_e hok.1
    have e_db := e_d.2
    have ebd := hI.bd e_d.2 hok.2
    have ear := hI.A (k := 31) (n := 300) (b := 16) (by decide) (j := mE M 81 (nN d)) ebd.2
    rw [e_d.1]
    refine ax_aload_n (i := 0) dX12_weight_17 rfl rfl rfl ?_
    refine ax_mR hm dX12_weight_18 fl_X12_86 rfl (by decide) ?_
    refine ax_aload_n (i := 0) dX12_weight_21 rfl rfl rfl ?_
    refine ax_mR hm dX12_weight_22 fl_X12_219 rfl (by decide) ?_
    refine ax_iload_n (i := 1) dX12_weight_25 rfl rfl ?_
    refine ax_mIN (N := 8) hm dX12_weight_26 rfl rfl (by decide) (by omega) ?_
    refine ax_top ebd.1 ?_
    refine ax_mIN (N := 300) hm dX12_weight_27 rfl rfl (by decide) ebd.2 ?_
    refine ax_top ear.1 ?_
    refine ax_istore_n (i := 3) (lv' := [(3, _), (2, _), (0, _), (1, _)]) dX12_weight_28 rfl (by decide) rfl ?_
    refine ax_bipush (v := 10) dX12_weight_29 (by decide) ?_
    refine ax_aload_n (i := 0) dX12_weight_31 rfl rfl rfl ?_
    refine ax_mR hm dX12_weight_32 fl_X12_39 rfl (by decide) ?_
    refine ax_iload_n (i := 3) dX12_weight_35 rfl rfl ?_
    refine ax_mIN (N := 16) hm dX12_weight_36 rfl rfl (by decide) ear.2 ?_
    refine ax_imul dX12_weight_37 ?_
    refine ax_aload_n (i := 0) dX12_weight_38 rfl rfl rfl ?_
    refine ax_mR hm dX12_weight_39 fl_X12_21 rfl (by decide) ?_
    refine ax_iload_n (i := 3) dX12_weight_42 rfl rfl ?_
    refine ax_mIN (N := 16) hm dX12_weight_43 rfl rfl (by decide) (by omega) ?_
    refine ax_iadd dX12_weight_44 ?_
    refine ax_aload_n (i := 0) dX12_weight_45 rfl rfl rfl ?_
    refine ax_mR hm dX12_weight_46 fl_X12_21 rfl (by decide) ?_
    refine ax_iload_n (i := 3) dX12_weight_49 rfl rfl ?_
    refine ax_mIN (N := 16) hm dX12_weight_50 rfl rfl (by decide) (by omega) ?_
    refine ax_if_le (tgt := 59) dX12_weight_51 (by decide) (fun c_51 => ?_) (fun c_51 => ?_)
    · refine ax_iconst (v := nI 0) dX12_weight_59 (by decide) ?_
      refine ax_iadd dX12_weight_60 ?_
      refine ax_aload_n (i := 0) dX12_weight_61 rfl rfl rfl ?_
      refine ax_mR hm dX12_weight_62 fl_X12_21 rfl (by decide) ?_
      refine ax_iload_n (i := 3) dX12_weight_65 rfl rfl ?_
      refine ax_mIN (N := 16) hm dX12_weight_66 rfl rfl (by decide) (by omega) ?_
      refine ax_iconst (v := 3) dX12_weight_67 (by decide) ?_
      refine ax_icmp_eq (tgt := 81) dX12_weight_68 (by decide) (fun c_68 => ?_) (fun c_68 => ?_)
      · refine ax_sipush (v := 1000) dX12_weight_81 (by decide) ?_
        refine ax_goto (tgt := 88) dX12_weight_84 (by decide) ?_
        refine ax_iadd dX12_weight_88 ?_
        refine ax_iret dX12_weight_89 rfl rfl ?_
        exact fin2 h (mWeight_e (Int32.not_lt.mpr c_12) (if_neg (Int32.not_lt.mpr c_51)) (if_pos (Or.inl c_68)))
      · refine ax_aload_n (i := 0) dX12_weight_71 rfl rfl rfl ?_
        refine ax_mR hm dX12_weight_72 fl_X12_21 rfl (by decide) ?_
        refine ax_iload_n (i := 3) dX12_weight_75 rfl rfl ?_
        refine ax_mIN (N := 16) hm dX12_weight_76 rfl rfl (by decide) (by omega) ?_
        refine ax_iconst (v := 5) dX12_weight_77 (by decide) ?_
        refine ax_icmp_ne (tgt := 87) dX12_weight_78 (by decide) (fun c_78 => ?_) (fun c_78 => ?_)
        · refine ax_iconst (v := nI 0) dX12_weight_87 (by decide) ?_
          refine ax_iadd dX12_weight_88 ?_
          refine ax_iret dX12_weight_89 rfl rfl ?_
          exact fin2 h (mWeight_e (Int32.not_lt.mpr c_12) (if_neg (Int32.not_lt.mpr c_51)) (if_neg (fun z => z.elim c_68 c_78)))
        · refine ax_sipush (v := 1000) dX12_weight_81 (by decide) ?_
          refine ax_goto (tgt := 88) dX12_weight_84 (by decide) ?_
          refine ax_iadd dX12_weight_88 ?_
          refine ax_iret dX12_weight_89 rfl rfl ?_
          exact fin2 h (mWeight_e (Int32.not_lt.mpr c_12) (if_neg (Int32.not_lt.mpr c_51)) (if_pos (Or.inr (Classical.not_not.mp c_78))))
    · refine ax_bipush (v := 100) dX12_weight_54 (by decide) ?_
      refine ax_goto (tgt := 60) dX12_weight_56 (by decide) ?_
      refine ax_iadd dX12_weight_60 ?_
      refine ax_aload_n (i := 0) dX12_weight_61 rfl rfl rfl ?_
      refine ax_mR hm dX12_weight_62 fl_X12_21 rfl (by decide) ?_
      refine ax_iload_n (i := 3) dX12_weight_65 rfl rfl ?_
      refine ax_mIN (N := 16) hm dX12_weight_66 rfl rfl (by decide) (by omega) ?_
      refine ax_iconst (v := 3) dX12_weight_67 (by decide) ?_
      refine ax_icmp_eq (tgt := 81) dX12_weight_68 (by decide) (fun c_68 => ?_) (fun c_68 => ?_)
      · refine ax_sipush (v := 1000) dX12_weight_81 (by decide) ?_
        refine ax_goto (tgt := 88) dX12_weight_84 (by decide) ?_
        refine ax_iadd dX12_weight_88 ?_
        refine ax_iret dX12_weight_89 rfl rfl ?_
        exact fin2 h (mWeight_e (Int32.not_lt.mpr c_12) (if_pos (Int32.not_le.mp c_51)) (if_pos (Or.inl c_68)))
      · refine ax_aload_n (i := 0) dX12_weight_71 rfl rfl rfl ?_
        refine ax_mR hm dX12_weight_72 fl_X12_21 rfl (by decide) ?_
        refine ax_iload_n (i := 3) dX12_weight_75 rfl rfl ?_
        refine ax_mIN (N := 16) hm dX12_weight_76 rfl rfl (by decide) (by omega) ?_
        refine ax_iconst (v := 5) dX12_weight_77 (by decide) ?_
        refine ax_icmp_ne (tgt := 87) dX12_weight_78 (by decide) (fun c_78 => ?_) (fun c_78 => ?_)
        · refine ax_iconst (v := nI 0) dX12_weight_87 (by decide) ?_
          refine ax_iadd dX12_weight_88 ?_
          refine ax_iret dX12_weight_89 rfl rfl ?_
          exact fin2 h (mWeight_e (Int32.not_lt.mpr c_12) (if_pos (Int32.not_le.mp c_51)) (if_neg (fun z => z.elim c_68 c_78)))
        · refine ax_sipush (v := 1000) dX12_weight_81 (by decide) ?_
          refine ax_goto (tgt := 88) dX12_weight_84 (by decide) ?_
          refine ax_iadd dX12_weight_88 ?_
          refine ax_iret dX12_weight_89 rfl rfl ?_
          exact fin2 h (mWeight_e (Int32.not_lt.mpr c_12) (if_pos (Int32.not_le.mp c_51)) (if_pos (Or.inr (Classical.not_not.mp c_78))))
  · refine ax_iload_n (i := 2) dX12_weight_15 rfl rfl ?_
    refine ax_iret dX12_weight_16 rfl rfl ?_
    exact fin2 h (if_pos (Int32.not_le.mp c_12))
set_option maxHeartbeats 4000000 in
set_option maxRecDepth 100000 in
theorem t_toss {b : Bool} {E : awE} {S : awS} {M : aM} {Q : Option Value → awS → Nat → Nat → Prop} (hm : mOk S) (hI : mI M) (hb : ∀ j, j < 8 → 0 ≤ mA M 79 j) (d : Int32) (h : Q (some (.int (mToss M d).2)) (putM S (mToss M d).1) 0 0) : awT b E m_X12_toss [.ref (nm 13 0), .int d] (putM S M) Q := by
  refine awT.of (by decide) (by decide) (Nat.le_of_ble_eq_true rfl) ?_
  refine ax_aload_n (i := 0) dX12_toss_0 rfl rfl rfl ?_
  refine ax_iconst (v := 0) dX12_toss_1 (by decide) ?_
  refine ax_mPS dX12_toss_2 fl_X12_228 rfl rfl ?_
  refine ax_mE (M2 := mT0 M) rfl ?_
  refine ax_aload_n (i := 0) dX12_toss_5 rfl rfl rfl ?_
  refine ax_iload_n (i := 1) dX12_toss_6 rfl rfl ?_
  refine ax_invV (c := 13) (n := 1) (As := [_]) dX12_toss_7 cb_X12_denied cv_X12_406.1 cv_X12_406.2.1 cv_X12_406.2.2 rfl (by decide) rfl ⟨Nat.le_of_ble_eq_true rfl, Nat.le_of_ble_eq_true rfl⟩ (Nat.le_of_ble_eq_true rfl) rfl (t_denied hm ?_)
  refine ax_istore_n (i := 2) (lv' := [(2, _), (0, _), (1, _)]) dX12_toss_10 rfl (by decide) rfl ?_
  refine ax_iload_n (i := 2) dX12_toss_11 rfl rfl ?_
  refine ax_if_ge (tgt := 19) dX12_toss_12 (by decide) (fun c_12 => ?_) (fun c_12 => ?_)
  · have hok := den_ok (M := M) hb (Int32.not_lt.mpr c_12)
    have e_d := okB_e hok.1
    have e_db := e_d.2
    have ebd := hI.bd e_d.2 hok.2
    have ear := hI.A (k := 31) (n := 300) (b := 16) (by decide) (j := mE M 81 (nN d)) ebd.2
    rw [e_d.1]
    refine ax_aload_n (i := 0) dX12_toss_19 rfl rfl rfl ?_
    refine ax_mR hm dX12_toss_20 fl_X12_21 rfl (by decide) ?_
    refine ax_aload_n (i := 0) dX12_toss_23 rfl rfl rfl ?_
    refine ax_mR hm dX12_toss_24 fl_X12_86 rfl (by decide) ?_
    refine ax_aload_n (i := 0) dX12_toss_27 rfl rfl rfl ?_
    refine ax_mR hm dX12_toss_28 fl_X12_219 rfl (by decide) ?_
    refine ax_iload_n (i := 1) dX12_toss_31 rfl rfl ?_
    refine ax_mIN (N := 8) hm dX12_toss_32 rfl rfl (by decide) (by omega) ?_
    refine ax_top ebd.1 ?_
    refine ax_mIN (N := 300) hm dX12_toss_33 rfl rfl (by decide) ebd.2 ?_
    refine ax_top ear.1 ?_
    refine ax_mIN (N := 16) hm dX12_toss_34 rfl rfl (by decide) ear.2 ?_
    refine ax_if_ne (tgt := 43) dX12_toss_35 (by decide) (fun c_35 => ?_) (fun c_35 => ?_)
    · refine ax_aload_n (i := 0) dX12_toss_43 rfl rfl rfl ?_
      refine ax_mR hm dX12_toss_44 fl_X12_86 rfl (by decide) ?_
      refine ax_aload_n (i := 0) dX12_toss_47 rfl rfl rfl ?_
      refine ax_mR hm dX12_toss_48 fl_X12_219 rfl (by decide) ?_
      refine ax_iload_n (i := 1) dX12_toss_51 rfl rfl ?_
      refine ax_mIN (N := 8) hm dX12_toss_52 rfl rfl (by decide) (by omega) ?_
      refine ax_top ebd.1 ?_
      refine ax_mIN (N := 300) hm dX12_toss_53 rfl rfl (by decide) ebd.2 ?_
      refine ax_iret dX12_toss_54 rfl rfl ?_
      exact fin2 h ((if_neg (Int32.not_lt.mpr c_12)).trans (Prod.ext rfl (if_neg c_35)))
    · refine ax_bipush (v := -15) dX12_toss_38 (by decide) ?_
      refine ax_goto (tgt := 54) dX12_toss_40 (by decide) ?_
      refine ax_iret dX12_toss_54 rfl rfl ?_
      exact fin2 h ((if_neg (Int32.not_lt.mpr c_12)).trans (Prod.ext rfl (if_pos (Classical.not_not.mp c_35))))
  · refine ax_iload_n (i := 2) dX12_toss_15 rfl rfl ?_
    refine ax_goto (tgt := 54) dX12_toss_16 (by decide) ?_
    refine ax_iret dX12_toss_54 rfl rfl ?_
    exact fin2 h (if_pos (Int32.not_le.mp c_12))
set_option maxHeartbeats 4000000 in
set_option maxRecDepth 100000 in
theorem t_thrown {b : Bool} {E : awE} {S : awS} {M : aM} {Q : Option Value → awS → Nat → Nat → Prop} (hm : mOk S) (h : Q (some (.int (mS M 0))) (putM S M) 0 0) : awT b E m_X12_thrown [.ref (nm 13 0)] (putM S M) Q := by
  refine awT.of (by decide) (by decide) (Nat.le_of_ble_eq_true rfl) ?_
  refine ax_aload_n (i := 0) dX12_thrown_0 rfl rfl rfl ?_
  refine ax_mS dX12_thrown_1 fl_X12_228 rfl ?_
  refine ax_iret dX12_thrown_4 rfl rfl ?_
  exact h
theorem le_pred {x : Int32} {n : Nat} (h0 : 0 ≤ x) (h : x ≤ nI n - 1) (hn : n ≤ 100) : x = nI (nN x) ∧ nN x < n := by
  cases n with
  | zero => exact absurd (Int32.le_trans h0 h) (by decide)
  | succ n =>
    have e : nI (n + 1) - 1 = nI n := nI_pred n
    rw [e] at h
    exact rg_of h0 (Int32.lt_of_le_of_lt h (nI_lt (Nat.lt_succ_self n) (by omega))) (by omega)
theorem fin2L {Q : Option Value → awS → Nat → Nat → Prop} {S : awS} {p : aM × Int64} {M : aM} {v : Int64} {kc ks : Nat} (h : Q (some (.long p.2)) (putM S p.1) kc ks) (e : p = (M, v)) : Q (some (.long v)) (putM S M) kc ks := by rw [e] at h; exact h
theorem mEl_1 {M : aM} {d i : Int32} (g : elGood M d i) : mElement M d i = (pS M 0 0, mL M 82 (60 * nN d + nN i)) := by
  unfold mElement
  rw [if_neg (fun z => z g.1), if_pos g, if_pos g]
theorem mEl_2 {M : aM} {d i : Int32} (g : ¬ okBoard d) : mElement M d i = (pS M 0 1, 0) := by
  unfold mElement
  rw [if_pos g, if_neg (fun z => g z.1)]
theorem mEl_3 {M : aM} {d i : Int32} (g : okBoard d) (c : ¬ elGood M d i) : mElement M d i = (pS M 0 2, 0) := by
  unfold mElement
  rw [if_neg (fun z => z g), if_neg c, if_neg c]

set_option maxHeartbeats 4000000 in
set_option maxRecDepth 100000 in
theorem t_element {b : Bool} {E : awE} {S : awS} {M : aM} {Q : Option Value → awS → Nat → Nat → Prop} (hm : mOk S) (hI : mI M) (d i : Int32) (h : Q (some (.long (mElement M d i).2)) (putM S (mElement M d i).1) 0 0) : awT b E m_X12_element [.ref (nm 13 0), .int d, .int i] (putM S M) Q := by
  refine awT.of (by decide) (by decide) (Nat.le_of_ble_eq_true rfl) ?_
  refine ax_iload_n (i := 1) dX12_element_0 rfl rfl ?_
  refine ax_invS (n := 1) (As := [_]) dX12_element_1 cb_X12_isBoard cs_X12_395.1 cs_X12_395.2 rfl ⟨Nat.le_of_ble_eq_true rfl, Nat.le_of_ble_eq_true rfl⟩ (Nat.le_of_ble_eq_true rfl) rfl (t_isBoard (fun c_1 => ?_) (fun c_1 => ?_))
  · refine ax_if_eq (tgt := 39) dX12_element_4 (by decide) (fun z => absurd z (by decide)) (fun _ => ?_)
    have e_d := okB_e c_1
    have e_db := e_d.2
    have ez := hI.A (k := 80) (n := 8) (b := 61) (by decide) (j := nN d) e_d.2
    rw [e_d.1]
    refine ax_aload_n (i := 0) dX12_element_7 rfl rfl rfl ?_
    refine ax_mR hm dX12_element_8 fl_X12_213 rfl (by decide) ?_
    refine ax_iload_n (i := 1) dX12_element_11 rfl rfl ?_
    refine ax_mIN (N := 8) hm dX12_element_12 rfl rfl (by decide) (by omega) ?_
    refine ax_iconst (v := 2) dX12_element_13 (by decide) ?_
    refine ax_icmp_le (tgt := 39) dX12_element_14 (by decide) (fun c_14 => ?_) (fun c_14 => ?_)
    · refine ax_iconst (v := 0) dX12_element_39 (by decide) ?_
      refine ax_istore_n (i := 3) (lv' := [(3, _), (0, _), (1, _), (2, _)]) dX12_element_40 rfl (by decide) rfl ?_
      refine ax_aload_n (i := 0) dX12_element_41 rfl rfl rfl ?_
      refine ax_iload_n (i := 1) dX12_element_42 rfl rfl ?_
      refine ax_invS (n := 1) (As := [_]) dX12_element_43 cb_X12_isBoard cs_X12_395.1 cs_X12_395.2 rfl ⟨Nat.le_of_ble_eq_true rfl, Nat.le_of_ble_eq_true rfl⟩ (Nat.le_of_ble_eq_true rfl) rfl (t_isBoard (fun c_43 => ?_) (fun c_43 => ?_))
      · refine ax_if_ne (tgt := 53) dX12_element_46 (by decide) (fun _ => ?_) (fun z => absurd (by decide) z)
        refine ax_iload_n (i := 3) dX12_element_53 rfl rfl ?_
        refine ax_if_eq (tgt := 61) dX12_element_54 (by decide) (fun _ => ?_) (fun z => absurd (by decide) z)
        refine ax_iconst (v := 2) dX12_element_61 (by decide) ?_
        refine ax_mPS dX12_element_62 fl_X12_228 rfl rfl ?_
        refine ax_iload_n (i := 3) dX12_element_65 rfl rfl ?_
        refine ax_if_eq (tgt := 83) dX12_element_66 (by decide) (fun _ => ?_) (fun z => absurd (by decide) z)
        refine ax_lconst (v := 0) dX12_element_83 (by decide) ?_
        refine ax_lret dX12_element_84 rfl ?_
        exact fin2L h (mEl_3 c_1 (fun g => Int32.not_lt.mpr c_14 g.2.1))
      · exact absurd (show okBoard (nI (nN d)) by rw [← e_d.1]; exact c_1) c_43
    · refine ax_iload_n (i := 2) dX12_element_17 rfl rfl ?_
      refine ax_i2l dX12_element_18 ?_
      refine ax_lconst (v := 0) dX12_element_19 (by decide) ?_
      refine ax_aload_n (i := 0) dX12_element_20 rfl rfl rfl ?_
      refine ax_mR hm dX12_element_21 fl_X12_216 rfl (by decide) ?_
      refine ax_iload_n (i := 1) dX12_element_24 rfl rfl ?_
      refine ax_mIN (N := 8) hm dX12_element_25 rfl rfl (by decide) (by omega) ?_
      refine ax_top ez.1 ?_
      refine ax_iconst (v := 1) dX12_element_26 (by decide) ?_
      refine ax_isub dX12_element_27 ?_
      refine ax_i2l dX12_element_28 ?_
      refine ax_invS (n := 3) (As := [_, _, _]) dX12_element_29 cb_X12_isIn cs_X12_242.1 cs_X12_242.2 rfl ⟨Nat.le_of_ble_eq_true rfl, Nat.le_of_ble_eq_true rfl⟩ (Nat.le_of_ble_eq_true rfl) rfl (t_isInI (lo := (0)) (hi := _) (fun c_29 => ?_) (fun c_29 => ?_))
      · refine ax_if_eq (tgt := 39) dX12_element_32 (by decide) (fun z => absurd z (by decide)) (fun _ => ?_)
        refine ax_iconst (v := 1) dX12_element_35 (by decide) ?_
        refine ax_goto (tgt := 40) dX12_element_36 (by decide) ?_
        refine ax_istore_n (i := 3) (lv' := [(3, _), (0, _), (1, _), (2, _)]) dX12_element_40 rfl (by decide) rfl ?_
        refine ax_aload_n (i := 0) dX12_element_41 rfl rfl rfl ?_
        refine ax_iload_n (i := 1) dX12_element_42 rfl rfl ?_
        refine ax_invS (n := 1) (As := [_]) dX12_element_43 cb_X12_isBoard cs_X12_395.1 cs_X12_395.2 rfl ⟨Nat.le_of_ble_eq_true rfl, Nat.le_of_ble_eq_true rfl⟩ (Nat.le_of_ble_eq_true rfl) rfl (t_isBoard (fun c_43 => ?_) (fun c_43 => ?_))
        · refine ax_if_ne (tgt := 53) dX12_element_46 (by decide) (fun _ => ?_) (fun z => absurd (by decide) z)
          refine ax_iload_n (i := 3) dX12_element_53 rfl rfl ?_
          refine ax_if_eq (tgt := 61) dX12_element_54 (by decide) (fun z => absurd z (by decide)) (fun _ => ?_)
          refine ax_iconst (v := 0) dX12_element_57 (by decide) ?_
          refine ax_goto (tgt := 62) dX12_element_58 (by decide) ?_
          refine ax_mPS dX12_element_62 fl_X12_228 rfl rfl ?_
          refine ax_iload_n (i := 3) dX12_element_65 rfl rfl ?_
          refine ax_if_eq (tgt := 83) dX12_element_66 (by decide) (fun z => absurd z (by decide)) (fun _ => ?_)
          have e_i := le_pred c_29.1 c_29.2 (by omega)
          have e_ib := e_i.2
          rw [e_i.1]
          refine ax_aload_n (i := 0) dX12_element_69 rfl rfl rfl ?_
          refine ax_mR hm dX12_element_70 fl_X12_222 rfl (by decide) ?_
          refine ax_bipush (v := nI 60) dX12_element_73 (by decide) ?_
          refine ax_iload_n (i := 1) dX12_element_75 rfl rfl ?_
          refine ax_imulN dX12_element_76 ?_
          refine ax_iload_n (i := 2) dX12_element_77 rfl rfl ?_
          refine ax_iaddN dX12_element_78 ?_
          refine ax_mJN (N := 480) hm dX12_element_79 rfl rfl (by decide) (by omega) ?_
          refine ax_goto (tgt := 84) dX12_element_80 (by decide) ?_
          refine ax_lret dX12_element_84 rfl ?_
          exact fin2L h (mEl_1 ⟨c_1, Int32.not_le.mp c_14, by rw [ez.1]; exact c_29⟩)
        · exact absurd (show okBoard (nI (nN d)) by rw [← e_d.1]; exact c_1) c_43
      · refine ax_if_eq (tgt := 39) dX12_element_32 (by decide) (fun _ => ?_) (fun z => absurd (by decide) z)
        refine ax_iconst (v := 0) dX12_element_39 (by decide) ?_
        refine ax_istore_n (i := 3) (lv' := [(3, _), (0, _), (1, _), (2, _)]) dX12_element_40 rfl (by decide) rfl ?_
        refine ax_aload_n (i := 0) dX12_element_41 rfl rfl rfl ?_
        refine ax_iload_n (i := 1) dX12_element_42 rfl rfl ?_
        refine ax_invS (n := 1) (As := [_]) dX12_element_43 cb_X12_isBoard cs_X12_395.1 cs_X12_395.2 rfl ⟨Nat.le_of_ble_eq_true rfl, Nat.le_of_ble_eq_true rfl⟩ (Nat.le_of_ble_eq_true rfl) rfl (t_isBoard (fun c_43 => ?_) (fun c_43 => ?_))
        · refine ax_if_ne (tgt := 53) dX12_element_46 (by decide) (fun _ => ?_) (fun z => absurd (by decide) z)
          refine ax_iload_n (i := 3) dX12_element_53 rfl rfl ?_
          refine ax_if_eq (tgt := 61) dX12_element_54 (by decide) (fun _ => ?_) (fun z => absurd (by decide) z)
          refine ax_iconst (v := 2) dX12_element_61 (by decide) ?_
          refine ax_mPS dX12_element_62 fl_X12_228 rfl rfl ?_
          refine ax_iload_n (i := 3) dX12_element_65 rfl rfl ?_
          refine ax_if_eq (tgt := 83) dX12_element_66 (by decide) (fun _ => ?_) (fun z => absurd (by decide) z)
          refine ax_lconst (v := 0) dX12_element_83 (by decide) ?_
          refine ax_lret dX12_element_84 rfl ?_
          exact fin2L h (mEl_3 c_1 (fun g => c_29 (by rw [← ez.1]; exact g.2.2)))
        · exact absurd (show okBoard (nI (nN d)) by rw [← e_d.1]; exact c_1) c_43
  · refine ax_if_eq (tgt := 39) dX12_element_4 (by decide) (fun _ => ?_) (fun z => absurd (by decide) z)
    refine ax_iconst (v := 0) dX12_element_39 (by decide) ?_
    refine ax_istore_n (i := 3) (lv' := [(3, _), (0, _), (1, _), (2, _)]) dX12_element_40 rfl (by decide) rfl ?_
    refine ax_aload_n (i := 0) dX12_element_41 rfl rfl rfl ?_
    refine ax_iload_n (i := 1) dX12_element_42 rfl rfl ?_
    refine ax_invS (n := 1) (As := [_]) dX12_element_43 cb_X12_isBoard cs_X12_395.1 cs_X12_395.2 rfl ⟨Nat.le_of_ble_eq_true rfl, Nat.le_of_ble_eq_true rfl⟩ (Nat.le_of_ble_eq_true rfl) rfl (t_isBoard (fun c_43 => ?_) (fun c_43 => ?_))
    · exact absurd c_43 c_1
    · refine ax_if_ne (tgt := 53) dX12_element_46 (by decide) (fun z => absurd z (by decide)) (fun _ => ?_)
      refine ax_iconst (v := 1) dX12_element_49 (by decide) ?_
      refine ax_goto (tgt := 62) dX12_element_50 (by decide) ?_
      refine ax_mPS dX12_element_62 fl_X12_228 rfl rfl ?_
      refine ax_iload_n (i := 3) dX12_element_65 rfl rfl ?_
      refine ax_if_eq (tgt := 83) dX12_element_66 (by decide) (fun _ => ?_) (fun z => absurd (by decide) z)
      refine ax_lconst (v := 0) dX12_element_83 (by decide) ?_
      refine ax_lret dX12_element_84 rfl ?_
      exact fin2L h (mEl_2 c_1)
abbrev cpOk (M : aM) (d i e j n : Int32) : Prop := (okBoard d ∧ okBoard e) ∧ ¬ (mA M 79 (nN d) = 0 ∨ mA M 79 (nN e) = 0) ∧ ¬ (mA M 79 (nN d) < 3 ∨ ¬ mA M 79 (nN d) = mA M 79 (nN e)) ∧ (hasPl M d i n ∧ hasPl M e j n)
theorem mCopy_ok {M : aM} {d i e j n : Int32} (g : cpOk M d i e j n) : mCopy M d i e j n = (mCopyM (mT0 M) (nN d) (nN i) (nN e) (nN j) (nN n), n) := by
  unfold mCopy
  rw [if_neg (fun z => z g.1), if_neg g.2.1, if_neg g.2.2.1, if_neg (fun z => z g.2.2.2)]
theorem hp_e {x n : Int32} {z : Nat} (h0 : 0 ≤ n) (h1 : 0 ≤ x) (h2 : x ≤ nI z) (h3 : n ≤ nI z - x) (hz : z ≤ 60) : (x = nI (nN x) ∧ n = nI (nN n)) ∧ nN x + nN n ≤ z := by
  have e1 := rg_of (n := z + 1) h1 (Int32.lt_of_le_of_lt h2 (nI_lt (Nat.lt_succ_self z) (by omega))) (by omega)
  have hx : nN x ≤ z := by omega
  have h4 : n ≤ nI (z - nN x) := by rw [e1.1, pk_sub hx] at h3; exact h3
  have e2 := rg_of (n := z - nN x + 1) h0 (Int32.lt_of_le_of_lt h4 (nI_lt (Nat.lt_succ_self _) (by omega))) (by omega)
  exact ⟨⟨e1.1, e2.1⟩, by omega⟩

set_option maxHeartbeats 4000000 in
set_option maxRecDepth 100000 in
theorem copy_2 {b : Bool} {E : awE} {S : awS} {M : aM} {Q : Option Value → awS → Nat → Nat → Prop} (hm : mOk S) {d i e j n : Nat} (hd : d < 8) (he : e < 8) (hi : i + n ≤ 60) (hj : j + n ≤ 60) (h : Q (some (.int (nI n))) (putM S (mCopyM M d i e j n)) 0 0) : awX b E m_X12_copy 99 [(6, .int (nI 0)), (0, .ref (nm 13 0)), (1, .int (nI d)), (2, .int (nI i)), (3, .int (nI e)), (4, .int (nI j)), (5, .int (nI n))] [] (putM S M) 0 0 Q := by
  have L2 : ∀ (m k : Nat), k + m = n → awX b E m_X12_copy 136 [(6, .int (nI k)), (0, .ref (nm 13 0)), (1, .int (nI d)), (2, .int (nI i)), (3, .int (nI e)), (4, .int (nI j)), (5, .int (nI n))] [] (putM S (mIter (fun x M => pL M 82 (60 * e + j + x) (mL M 83 x)) k (mIter (fun x M => pL M 83 x (mL M 82 (60 * d + i + x))) n M))) 0 0 Q := by
    intro m
    induction m with
    | zero =>
      intro k hm1 
      refine ax_iload dX12_copy_136 rfl ?_
      refine ax_iload dX12_copy_138 rfl ?_
      refine ax_icmp_ge (tgt := 171) dX12_copy_140 (by decide) (fun c_140 => ?_) (fun c_140 => ?_)
      · have hk2 : k = n := Nat.le_antisymm (by omega) (ge_of_n rfl c_140 (by omega))
        subst hk2
        refine ax_iload dX12_copy_171 rfl ?_
        refine ax_iret dX12_copy_173 rfl rfl ?_
        exact h
      · exact absurd (lt_of_n rfl c_140 (by omega)) (by omega)
    | succ m ih =>
      intro k hm1 
      refine ax_iload dX12_copy_136 rfl ?_
      refine ax_iload dX12_copy_138 rfl ?_
      refine ax_icmp_ge (tgt := 171) dX12_copy_140 (by decide) (fun c_140 => ?_) (fun c_140 => ?_)
      · exact absurd (ge_of_n rfl c_140 (by omega)) (by omega)
      · have hk2 : k < n := lt_of_n rfl c_140 (by omega)
        refine ax_aload_n (i := 0) dX12_copy_143 rfl rfl rfl ?_
        refine ax_mR hm dX12_copy_144 fl_X12_222 rfl (by decide) ?_
        refine ax_bipush (v := nI 60) dX12_copy_147 (by decide) ?_
        refine ax_iload_n (i := 3) dX12_copy_149 rfl rfl ?_
        refine ax_imulN dX12_copy_150 ?_
        refine ax_iload dX12_copy_151 rfl ?_
        refine ax_iaddN dX12_copy_153 ?_
        refine ax_iload dX12_copy_154 rfl ?_
        refine ax_iaddN dX12_copy_156 ?_
        refine ax_aload_n (i := 0) dX12_copy_157 rfl rfl rfl ?_
        refine ax_mR hm dX12_copy_158 fl_X12_225 rfl (by decide) ?_
        refine ax_iload dX12_copy_161 rfl ?_
        refine ax_mJN (N := 60) hm dX12_copy_163 rfl rfl (by decide) (by omega) ?_
        refine ax_mPJN (N := 480) hm dX12_copy_164 rfl rfl (by decide) (by omega) ?_
        refine ax_iinc (v := _ + 1) (lv' := [(6, _), (0, .ref (nm 13 0)), (1, _), (2, _), (3, _), (4, _), (5, _)]) dX12_copy_165 rfl rfl (by decide) rfl ?_
        refine ax_goto (tgt := 136) dX12_copy_168 (by decide) ?_
        rw [nI_1]
        exact ax_loc rfl (ih (k + 1) (by omega))
  have L1 : ∀ (m k : Nat), k + m = n → awX b E m_X12_copy 99 [(6, .int (nI k)), (0, .ref (nm 13 0)), (1, .int (nI d)), (2, .int (nI i)), (3, .int (nI e)), (4, .int (nI j)), (5, .int (nI n))] [] (putM S (mIter (fun x M => pL M 83 x (mL M 82 (60 * d + i + x))) k M)) 0 0 Q := by
    intro m
    induction m with
    | zero =>
      intro k hm1 
      refine ax_iload dX12_copy_99 rfl ?_
      refine ax_iload dX12_copy_101 rfl ?_
      refine ax_icmp_ge (tgt := 133) dX12_copy_103 (by decide) (fun c_103 => ?_) (fun c_103 => ?_)
      · have hk2 : k = n := Nat.le_antisymm (by omega) (ge_of_n rfl c_103 (by omega))
        subst hk2
        refine ax_iconst (v := nI 0) dX12_copy_133 (by decide) ?_
        refine ax_istore (lv' := [(6, _), (0, _), (1, _), (2, _), (3, _), (4, _), (5, _)]) dX12_copy_134 (by decide) rfl ?_
        exact ax_loc rfl (L2 k 0 (by omega))
      · exact absurd (lt_of_n rfl c_103 (by omega)) (by omega)
    | succ m ih =>
      intro k hm1 
      refine ax_iload dX12_copy_99 rfl ?_
      refine ax_iload dX12_copy_101 rfl ?_
      refine ax_icmp_ge (tgt := 133) dX12_copy_103 (by decide) (fun c_103 => ?_) (fun c_103 => ?_)
      · exact absurd (ge_of_n rfl c_103 (by omega)) (by omega)
      · have hk2 : k < n := lt_of_n rfl c_103 (by omega)
        refine ax_aload_n (i := 0) dX12_copy_106 rfl rfl rfl ?_
        refine ax_mR hm dX12_copy_107 fl_X12_225 rfl (by decide) ?_
        refine ax_iload dX12_copy_110 rfl ?_
        refine ax_aload_n (i := 0) dX12_copy_112 rfl rfl rfl ?_
        refine ax_mR hm dX12_copy_113 fl_X12_222 rfl (by decide) ?_
        refine ax_bipush (v := nI 60) dX12_copy_116 (by decide) ?_
        refine ax_iload_n (i := 1) dX12_copy_118 rfl rfl ?_
        refine ax_imulN dX12_copy_119 ?_
        refine ax_iload_n (i := 2) dX12_copy_120 rfl rfl ?_
        refine ax_iaddN dX12_copy_121 ?_
        refine ax_iload dX12_copy_122 rfl ?_
        refine ax_iaddN dX12_copy_124 ?_
        refine ax_mJN (N := 480) hm dX12_copy_125 rfl rfl (by decide) (by omega) ?_
        refine ax_mPJN (N := 60) hm dX12_copy_126 rfl rfl (by decide) (by omega) ?_
        refine ax_iinc (v := _ + 1) (lv' := [(6, _), (0, .ref (nm 13 0)), (1, _), (2, _), (3, _), (4, _), (5, _)]) dX12_copy_127 rfl rfl (by decide) rfl ?_
        refine ax_goto (tgt := 99) dX12_copy_130 (by decide) ?_
        rw [nI_1]
        exact ax_loc rfl (ih (k + 1) (by omega))
  exact L1 n 0 (by omega)

set_option maxHeartbeats 4000000 in
set_option maxRecDepth 100000 in
theorem t_copy {b : Bool} {E : awE} {S : awS} {M : aM} {Q : Option Value → awS → Nat → Nat → Prop} (hm : mOk S) (hI : mI M) (d : Int32) (i : Int32) (e : Int32) (j : Int32) (n : Int32) (h : Q (some (.int (mCopy M d i e j n).2)) (putM S (mCopy M d i e j n).1) 0 0) : awT b E m_X12_copy [.ref (nm 13 0), .int d, .int i, .int e, .int j, .int n] (putM S M) Q := by
  refine awT.of (by decide) (by decide) (Nat.le_of_ble_eq_true rfl) ?_
  refine ax_aload_n (i := 0) dX12_copy_0 rfl rfl rfl ?_
  refine ax_iconst (v := 0) dX12_copy_1 (by decide) ?_
  refine ax_mPS dX12_copy_2 fl_X12_228 rfl rfl ?_
  refine ax_mE (M2 := mT0 M) rfl ?_
  refine ax_iload_n (i := 1) dX12_copy_5 rfl rfl ?_
  refine ax_invS (n := 1) (As := [_]) dX12_copy_6 cb_X12_isBoard cs_X12_395.1 cs_X12_395.2 rfl ⟨Nat.le_of_ble_eq_true rfl, Nat.le_of_ble_eq_true rfl⟩ (Nat.le_of_ble_eq_true rfl) rfl (t_isBoard (fun c_6 => ?_) (fun c_6 => ?_))
  · refine ax_if_eq (tgt := 19) dX12_copy_9 (by decide) (fun z => absurd z (by decide)) (fun _ => ?_)
    refine ax_iload_n (i := 3) dX12_copy_12 rfl rfl ?_
    refine ax_invS (n := 1) (As := [_]) dX12_copy_13 cb_X12_isBoard cs_X12_395.1 cs_X12_395.2 rfl ⟨Nat.le_of_ble_eq_true rfl, Nat.le_of_ble_eq_true rfl⟩ (Nat.le_of_ble_eq_true rfl) rfl (t_isBoard (fun c_13 => ?_) (fun c_13 => ?_))
    · refine ax_if_ne (tgt := 21) dX12_copy_16 (by decide) (fun _ => ?_) (fun z => absurd (by decide) z)
      have e_d := okB_e c_6
      have e_db := e_d.2
      have e_e := okB_e c_13
      have e_eb := e_e.2
      have ez := hI.A (k := 80) (n := 8) (b := 61) (by decide) (j := nN d) e_d.2
      have ey := hI.A (k := 80) (n := 8) (b := 61) (by decide) (j := nN e) e_e.2
      rw [e_d.1, e_e.1]
      refine ax_aload_n (i := 0) dX12_copy_21 rfl rfl rfl ?_
      refine ax_mR hm dX12_copy_22 fl_X12_213 rfl (by decide) ?_
      refine ax_iload_n (i := 1) dX12_copy_25 rfl rfl ?_
      refine ax_mIN (N := 8) hm dX12_copy_26 rfl rfl (by decide) (by omega) ?_
      refine ax_if_eq (tgt := 39) dX12_copy_27 (by decide) (fun c_27 => ?_) (fun c_27 => ?_)
      · refine ax_bipush (v := -11) dX12_copy_39 (by decide) ?_
        refine ax_iret dX12_copy_41 rfl rfl ?_
        exact fin2 h ((if_neg (fun z => z ⟨c_6, c_13⟩)).trans (if_pos (Or.inl c_27)))
      · refine ax_aload_n (i := 0) dX12_copy_30 rfl rfl rfl ?_
        refine ax_mR hm dX12_copy_31 fl_X12_213 rfl (by decide) ?_
        refine ax_iload_n (i := 3) dX12_copy_34 rfl rfl ?_
        refine ax_mIN (N := 8) hm dX12_copy_35 rfl rfl (by decide) (by omega) ?_
        refine ax_if_ne (tgt := 42) dX12_copy_36 (by decide) (fun c_36 => ?_) (fun c_36 => ?_)
        · refine ax_aload_n (i := 0) dX12_copy_42 rfl rfl rfl ?_
          refine ax_mR hm dX12_copy_43 fl_X12_213 rfl (by decide) ?_
          refine ax_iload_n (i := 1) dX12_copy_46 rfl rfl ?_
          refine ax_mIN (N := 8) hm dX12_copy_47 rfl rfl (by decide) (by omega) ?_
          refine ax_iconst (v := 3) dX12_copy_48 (by decide) ?_
          refine ax_icmp_lt (tgt := 67) dX12_copy_49 (by decide) (fun c_49 => ?_) (fun c_49 => ?_)
          · refine ax_bipush (v := -12) dX12_copy_67 (by decide) ?_
            refine ax_iret dX12_copy_69 rfl rfl ?_
            exact fin2 h ((if_neg (fun z => z ⟨c_6, c_13⟩)).trans ((if_neg (fun z => z.elim c_27 c_36)).trans (if_pos (Or.inl c_49))))
          · refine ax_aload_n (i := 0) dX12_copy_52 rfl rfl rfl ?_
            refine ax_mR hm dX12_copy_53 fl_X12_213 rfl (by decide) ?_
            refine ax_iload_n (i := 1) dX12_copy_56 rfl rfl ?_
            refine ax_mIN (N := 8) hm dX12_copy_57 rfl rfl (by decide) (by omega) ?_
            refine ax_aload_n (i := 0) dX12_copy_58 rfl rfl rfl ?_
            refine ax_mR hm dX12_copy_59 fl_X12_213 rfl (by decide) ?_
            refine ax_iload_n (i := 3) dX12_copy_62 rfl rfl ?_
            refine ax_mIN (N := 8) hm dX12_copy_63 rfl rfl (by decide) (by omega) ?_
            refine ax_icmp_eq (tgt := 70) dX12_copy_64 (by decide) (fun c_64 => ?_) (fun c_64 => ?_)
            · refine ax_aload_n (i := 0) dX12_copy_70 rfl rfl rfl ?_
              refine ax_iload_n (i := 1) dX12_copy_71 rfl rfl ?_
              refine ax_iload_n (i := 2) dX12_copy_72 rfl rfl ?_
              refine ax_iload dX12_copy_73 rfl ?_
              refine ax_invV (c := 13) (n := 3) (As := [_, _, _]) dX12_copy_75 cb_X12_hasPlaces cv_X12_402.1 cv_X12_402.2.1 cv_X12_402.2.2 rfl (by decide) rfl ⟨Nat.le_of_ble_eq_true rfl, Nat.le_of_ble_eq_true rfl⟩ (Nat.le_of_ble_eq_true rfl) rfl (t_hasPlaces hm e_d.2 (fun c_75 => ?_) (fun c_75 => ?_))
              · refine ax_if_eq (tgt := 93) dX12_copy_78 (by decide) (fun z => absurd z (by decide)) (fun _ => ?_)
                refine ax_aload_n (i := 0) dX12_copy_81 rfl rfl rfl ?_
                refine ax_iload_n (i := 3) dX12_copy_82 rfl rfl ?_
                refine ax_iload dX12_copy_83 rfl ?_
                refine ax_iload dX12_copy_85 rfl ?_
                refine ax_invV (c := 13) (n := 3) (As := [_, _, _]) dX12_copy_87 cb_X12_hasPlaces cv_X12_402.1 cv_X12_402.2.1 cv_X12_402.2.2 rfl (by decide) rfl ⟨Nat.le_of_ble_eq_true rfl, Nat.le_of_ble_eq_true rfl⟩ (Nat.le_of_ble_eq_true rfl) rfl (t_hasPlaces hm e_e.2 (fun c_87 => ?_) (fun c_87 => ?_))
                · refine ax_if_ne (tgt := 96) dX12_copy_90 (by decide) (fun _ => ?_) (fun z => absurd (by decide) z)
                  refine ax_iconst (v := nI 0) dX12_copy_96 (by decide) ?_
                  refine ax_istore (lv' := [(6, _), (0, _), (1, _), (2, _), (3, _), (4, _), (5, _)]) dX12_copy_97 (by decide) rfl ?_
                  have hok : cpOk M d i e j n := ⟨⟨c_6, c_13⟩, fun z => z.elim c_27 c_36, fun z => z.elim c_49 (fun w => w c_64), c_75, c_87⟩
                  rw [mCopy_ok hok] at h
                  have q1 := hp_e c_75.1 c_75.2.1 (ez.1 ▸ c_75.2.2.1) (ez.1 ▸ c_75.2.2.2) (by omega)
                  have q2 := hp_e c_87.1 c_87.2.1 (ey.1 ▸ c_87.2.2.1) (ey.1 ▸ c_87.2.2.2) (by omega)
                  have h2 := copy_2 (M := mT0 M) (b := b) (E := E) (Q := Q) hm (d := nN d) (i := nN i) (e := nN e) (j := nN j) (n := nN n) e_d.2 e_e.2 (by omega) (by omega) (by rw [← q1.1.2]; exact h)
                  rw [← q1.1.1, ← q1.1.2, ← q2.1.1] at h2
                  exact ax_loc rfl h2
                · refine ax_if_ne (tgt := 96) dX12_copy_90 (by decide) (fun z => absurd z (by decide)) (fun _ => ?_)
                  refine ax_bipush (v := -13) dX12_copy_93 (by decide) ?_
                  refine ax_iret dX12_copy_95 rfl rfl ?_
                  exact fin2 h ((if_neg (fun z => z ⟨c_6, c_13⟩)).trans ((if_neg (fun z => z.elim c_27 c_36)).trans ((if_neg (fun z => z.elim c_49 (fun w => w c_64))).trans (if_pos (fun z => c_87 z.2)))))
              · refine ax_if_eq (tgt := 93) dX12_copy_78 (by decide) (fun _ => ?_) (fun z => absurd (by decide) z)
                refine ax_bipush (v := -13) dX12_copy_93 (by decide) ?_
                refine ax_iret dX12_copy_95 rfl rfl ?_
                exact fin2 h ((if_neg (fun z => z ⟨c_6, c_13⟩)).trans ((if_neg (fun z => z.elim c_27 c_36)).trans ((if_neg (fun z => z.elim c_49 (fun w => w c_64))).trans (if_pos (fun z => c_75 z.1)))))
            · refine ax_bipush (v := -12) dX12_copy_67 (by decide) ?_
              refine ax_iret dX12_copy_69 rfl rfl ?_
              exact fin2 h ((if_neg (fun z => z ⟨c_6, c_13⟩)).trans ((if_neg (fun z => z.elim c_27 c_36)).trans (if_pos (Or.inr c_64))))
        · refine ax_bipush (v := -11) dX12_copy_39 (by decide) ?_
          refine ax_iret dX12_copy_41 rfl rfl ?_
          exact fin2 h ((if_neg (fun z => z ⟨c_6, c_13⟩)).trans (if_pos (Or.inr (Classical.not_not.mp c_36))))
    · refine ax_if_ne (tgt := 21) dX12_copy_16 (by decide) (fun z => absurd z (by decide)) (fun _ => ?_)
      refine ax_iconst (v := -1) dX12_copy_19 (by decide) ?_
      refine ax_iret dX12_copy_20 rfl rfl ?_
      exact fin2 h (if_pos (fun g => c_13 g.2))
  · refine ax_if_eq (tgt := 19) dX12_copy_9 (by decide) (fun _ => ?_) (fun z => absurd (by decide) z)
    refine ax_iconst (v := -1) dX12_copy_19 (by decide) ?_
    refine ax_iret dX12_copy_20 rfl rfl ?_
    exact fin2 h (if_pos (fun g => c_6 g.1))
