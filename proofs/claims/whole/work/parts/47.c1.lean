set_option maxHeartbeats 4000000 in
set_option maxRecDepth 100000 in
theorem c_isWithin {E : awE} {S : awS} {Q : Option Value → awS → Nat → Nat → Prop} {x lo hi : Int32} (h1 : lo ≤ x ∧ x ≤ hi → Q (some (.int 1)) S 0 0) (h0 : ¬ (lo ≤ x ∧ x ≤ hi) → Q (some (.int 0)) S 0 0) : awT true E m_X11_isWithin [.int x, .int lo, .int hi] S Q := by
  refine awT.of (by decide) (by decide) (Nat.le_of_ble_eq_true rfl) ?_
  refine ax_iload_n (i := 0) dX11_isWithin_0 rfl rfl ?_
  refine ax_iload_n (i := 1) dX11_isWithin_1 rfl rfl ?_
  refine ax_icmp_lt (tgt := 14) dX11_isWithin_2 (by decide) (fun c_2 => ?_) (fun c_2 => ?_)
  · refine ax_iconst (v := 0) dX11_isWithin_14 (by decide) ?_
    refine ax_iret dX11_isWithin_15 rfl rfl ?_
    exact h0 (fun z => Int32.not_lt.mpr z.1 c_2)
  · refine ax_iload_n (i := 0) dX11_isWithin_5 rfl rfl ?_
    refine ax_iload_n (i := 2) dX11_isWithin_6 rfl rfl ?_
    refine ax_icmp_gt (tgt := 14) dX11_isWithin_7 (by decide) (fun c_7 => ?_) (fun c_7 => ?_)
    · refine ax_iconst (v := 0) dX11_isWithin_14 (by decide) ?_
      refine ax_iret dX11_isWithin_15 rfl rfl ?_
      exact h0 (fun z => Int32.not_lt.mpr z.2 c_7)
    · refine ax_iconst (v := 1) dX11_isWithin_10 (by decide) ?_
      refine ax_goto (tgt := 15) dX11_isWithin_11 (by decide) ?_
      refine ax_iret dX11_isWithin_15 rfl rfl ?_
      exact h1 ⟨Int32.not_lt.mp c_2, Int32.not_lt.mp c_7⟩
set_option maxHeartbeats 4000000 in
set_option maxRecDepth 100000 in
theorem c_areTicks {E : awE} {S : awS} {Q : Option Value → awS → Nat → Nat → Prop} {x y : Int32} (h1 : 1 ≤ x ∧ x ≤ y ∧ y ≤ 1000 → Q (some (.int 1)) S 0 0) (h0 : ¬ (1 ≤ x ∧ x ≤ y ∧ y ≤ 1000) → Q (some (.int 0)) S 0 0) : awT true E m_X11_areTicks [.int x, .int y] S Q := by
  refine awT.of (by decide) (by decide) (Nat.le_of_ble_eq_true rfl) ?_
  refine ax_iload_n (i := 0) dX11_areTicks_0 rfl rfl ?_
  refine ax_iconst (v := 1) dX11_areTicks_1 (by decide) ?_
  refine ax_icmp_lt (tgt := 21) dX11_areTicks_2 (by decide) (fun c_2 => ?_) (fun c_2 => ?_)
  · refine ax_iconst (v := 0) dX11_areTicks_21 (by decide) ?_
    refine ax_iret dX11_areTicks_22 rfl rfl ?_
    exact h0 (fun z => Int32.not_lt.mpr z.1 c_2)
  · refine ax_iload_n (i := 0) dX11_areTicks_5 rfl rfl ?_
    refine ax_iload_n (i := 1) dX11_areTicks_6 rfl rfl ?_
    refine ax_icmp_gt (tgt := 21) dX11_areTicks_7 (by decide) (fun c_7 => ?_) (fun c_7 => ?_)
    · refine ax_iconst (v := 0) dX11_areTicks_21 (by decide) ?_
      refine ax_iret dX11_areTicks_22 rfl rfl ?_
      exact h0 (fun z => Int32.not_lt.mpr z.2.1 c_7)
    · refine ax_iload_n (i := 1) dX11_areTicks_10 rfl rfl ?_
      refine ax_sipush (v := 1000) dX11_areTicks_11 (by decide) ?_
      refine ax_icmp_gt (tgt := 21) dX11_areTicks_14 (by decide) (fun c_14 => ?_) (fun c_14 => ?_)
      · refine ax_iconst (v := 0) dX11_areTicks_21 (by decide) ?_
        refine ax_iret dX11_areTicks_22 rfl rfl ?_
        exact h0 (fun z => Int32.not_lt.mpr z.2.2 c_14)
      · refine ax_iconst (v := 1) dX11_areTicks_17 (by decide) ?_
        refine ax_goto (tgt := 22) dX11_areTicks_18 (by decide) ?_
        refine ax_iret dX11_areTicks_22 rfl rfl ?_
        exact h1 ⟨Int32.not_lt.mp c_2, Int32.not_lt.mp c_7, Int32.not_lt.mp c_14⟩
set_option maxHeartbeats 4000000 in
set_option maxRecDepth 100000 in
theorem c_bit {E : awE} {S : awS} {Q : Option Value → awS → Nat → Nat → Prop} {x : Int32} (h : Q (some (.int (if x = 0 then 0 else 1))) S 0 0) : awT true E m_X11_bit [.int x] S Q := by
  refine awT.of (by decide) (by decide) (Nat.le_of_ble_eq_true rfl) ?_
  refine ax_iload_n (i := 0) dX11_bit_0 rfl rfl ?_
  refine ax_if_eq (tgt := 8) dX11_bit_1 (by decide) (fun c_1 => ?_) (fun c_1 => ?_)
  · refine ax_iconst (v := 0) dX11_bit_8 (by decide) ?_
    refine ax_iret dX11_bit_9 rfl rfl ?_
    exact fin1 h (if_pos c_1)
  · refine ax_iconst (v := 1) dX11_bit_4 (by decide) ?_
    refine ax_goto (tgt := 9) dX11_bit_5 (by decide) ?_
    refine ax_iret dX11_bit_9 rfl rfl ?_
    exact fin1 h (if_neg c_1)
theorem c_bit1 {E : awE} {S : awS} {Q : Option Value → awS → Nat → Nat → Prop} (h : Q (some (.int 1)) S 0 0) : awT true E m_X11_bit [.int 1] S Q := c_bit h
theorem c_bit0 {E : awE} {S : awS} {Q : Option Value → awS → Nat → Nat → Prop} (h : Q (some (.int 0)) S 0 0) : awT true E m_X11_bit [.int 0] S Q := c_bit h

set_option maxHeartbeats 4000000 in
set_option maxRecDepth 100000 in
theorem c_sourceAt {E : awE} {S : awS} {M : aM} {τ : Nat → Nat → Nat} {Q : Option Value → awS → Nat → Nat → Prop} (R : cR τ S M) {x : Int32} (h1 : okSource M x → Q (some (.ref (nm 9 (nN x)))) S 0 0) (h0 : ¬ okSource M x → Q (some .null) S 0 0) : awT true E m_X11_sourceAt [.ref (nm 12 0), .int x] S Q := by
  refine awT.of (by decide) (by decide) (Nat.le_of_ble_eq_true rfl) ?_
  have e_n := mS_nI R.mI (k := 2) (b := 16) (by decide)
  have e_b : mN M 2 ≤ 16 := mS_b R.mI (by decide)
  refine ax_iload_n (i := 1) dX11_sourceAt_0 rfl rfl ?_
  refine ax_if_lt (tgt := 29) dX11_sourceAt_1 (by decide) (fun c_1 => ?_) (fun c_1 => ?_)
  · refine ax_null dX11_sourceAt_29 ?_
    refine ax_aret (r := none) dX11_sourceAt_30 rfl (Or.inl ⟨_, rfl⟩) ?_
    exact h0 (fun z => Int32.not_lt.mpr z.1 c_1)
  · refine ax_iload_n (i := 1) dX11_sourceAt_4 rfl rfl ?_
    refine ax_aload_n (i := 0) dX11_sourceAt_5 rfl rfl rfl ?_
    refine ax_getR dX11_sourceAt_6 fl_X11_10 rfl rfl rfl (R.tow.1 0 (by decide)) ?_
    refine ax_invV (c := 0) (n := 0) (As := []) dX11_sourceAt_9 cb_Jx4a65c_size_8abf5 cv_X11_75.1 cv_X11_75.2.1 cv_X11_75.2.2 rfl (by decide) rfl ⟨Nat.le_of_ble_eq_true rfl, Nat.le_of_ble_eq_true rfl⟩ (Nat.le_of_ble_eq_true rfl) rfl (t_lsSize (q := 0) (by decide) (R.lq (by decide)) (R.lst.1) (Nat.lt_of_le_of_lt (mS_b R.mI (k := 2) (b := 16) (by decide)) (by decide)) ?_)
    refine ax_icmp_ge (tgt := 29) dX11_sourceAt_12 (by decide) (fun c_12 => ?_) (fun c_12 => ?_)
    · refine ax_null dX11_sourceAt_29 ?_
      refine ax_aret (r := none) dX11_sourceAt_30 rfl (Or.inl ⟨_, rfl⟩) ?_
      exact h0 (fun z => Int32.not_lt.mpr c_12 (by rw [← e_n]; exact z.2))
    · have e_x := rg_of (n := (mN M 2)) (Int32.not_lt.mp c_1) (Int32.not_le.mp c_12) (by omega)
      have e_xb := e_x.2
      rw [e_x.1]
      refine ax_aload_n (i := 0) dX11_sourceAt_15 rfl rfl rfl ?_
      refine ax_getR dX11_sourceAt_16 fl_X11_10 rfl rfl rfl (R.tow.1 0 (by decide)) ?_
      refine ax_iload_n (i := 1) dX11_sourceAt_19 rfl rfl ?_
      refine ax_invV (c := 0) (n := 1) (As := [_]) dX11_sourceAt_20 cb_Jx4a65c_get_915e3 cv_X11_115.1 cv_X11_115.2.1 cv_X11_115.2.2 rfl (by decide) rfl ⟨Nat.le_of_ble_eq_true rfl, Nat.le_of_ble_eq_true rfl⟩ (Nat.le_of_ble_eq_true rfl) rfl (t_lsGet (q := 0) (by decide) (R.lq (by decide)) (R.lst.1) (Nat.lt_of_le_of_lt (mS_b R.mI (k := 2) (b := 16) (by decide)) (by decide)) (by omega) ?_)
      refine ax_cast (c := 9) dX11_sourceAt_23 kl_X11_79 rfl (by decide) ?_
      refine ax_goto (tgt := 30) dX11_sourceAt_26 (by decide) ?_
      refine ax_aret (r := some _) dX11_sourceAt_30 rfl (Or.inl ⟨_, rfl⟩) ?_
      exact h1 ⟨Int32.not_lt.mp c_1, by rw [e_n]; exact Int32.not_le.mp c_12⟩
set_option maxHeartbeats 4000000 in
set_option maxRecDepth 100000 in
theorem c_ruleAt {E : awE} {S : awS} {M : aM} {τ : Nat → Nat → Nat} {Q : Option Value → awS → Nat → Nat → Prop} (R : cR τ S M) {x : Int32} (h1 : okRule M x → Q (some (.ref (nm 6 (nN x)))) S 0 0) (h0 : ¬ okRule M x → Q (some .null) S 0 0) : awT true E m_X11_ruleAt [.ref (nm 12 0), .int x] S Q := by
  refine awT.of (by decide) (by decide) (Nat.le_of_ble_eq_true rfl) ?_
  have e_n := mS_nI R.mI (k := 6) (b := 16) (by decide)
  have e_b : mN M 6 ≤ 16 := mS_b R.mI (by decide)
  refine ax_iload_n (i := 1) dX11_ruleAt_0 rfl rfl ?_
  refine ax_if_lt (tgt := 29) dX11_ruleAt_1 (by decide) (fun c_1 => ?_) (fun c_1 => ?_)
  · refine ax_null dX11_ruleAt_29 ?_
    refine ax_aret (r := none) dX11_ruleAt_30 rfl (Or.inl ⟨_, rfl⟩) ?_
    exact h0 (fun z => Int32.not_lt.mpr z.1 c_1)
  · refine ax_iload_n (i := 1) dX11_ruleAt_4 rfl rfl ?_
    refine ax_aload_n (i := 0) dX11_ruleAt_5 rfl rfl rfl ?_
    refine ax_getR dX11_ruleAt_6 fl_X11_16 rfl rfl rfl (R.tow.1 1 (by decide)) ?_
    refine ax_invV (c := 0) (n := 0) (As := []) dX11_ruleAt_9 cb_Jx4a65c_size_8abf5 cv_X11_75.1 cv_X11_75.2.1 cv_X11_75.2.2 rfl (by decide) rfl ⟨Nat.le_of_ble_eq_true rfl, Nat.le_of_ble_eq_true rfl⟩ (Nat.le_of_ble_eq_true rfl) rfl (t_lsSize (q := 1) (by decide) (R.lq (by decide)) (R.lst.2.1) (Nat.lt_of_le_of_lt (mS_b R.mI (k := 6) (b := 16) (by decide)) (by decide)) ?_)
    refine ax_icmp_ge (tgt := 29) dX11_ruleAt_12 (by decide) (fun c_12 => ?_) (fun c_12 => ?_)
    · refine ax_null dX11_ruleAt_29 ?_
      refine ax_aret (r := none) dX11_ruleAt_30 rfl (Or.inl ⟨_, rfl⟩) ?_
      exact h0 (fun z => Int32.not_lt.mpr c_12 (by rw [← e_n]; exact z.2))
    · have e_x := rg_of (n := (mN M 6)) (Int32.not_lt.mp c_1) (Int32.not_le.mp c_12) (by omega)
      have e_xb := e_x.2
      rw [e_x.1]
      refine ax_aload_n (i := 0) dX11_ruleAt_15 rfl rfl rfl ?_
      refine ax_getR dX11_ruleAt_16 fl_X11_16 rfl rfl rfl (R.tow.1 1 (by decide)) ?_
      refine ax_iload_n (i := 1) dX11_ruleAt_19 rfl rfl ?_
      refine ax_invV (c := 0) (n := 1) (As := [_]) dX11_ruleAt_20 cb_Jx4a65c_get_915e3 cv_X11_115.1 cv_X11_115.2.1 cv_X11_115.2.2 rfl (by decide) rfl ⟨Nat.le_of_ble_eq_true rfl, Nat.le_of_ble_eq_true rfl⟩ (Nat.le_of_ble_eq_true rfl) rfl (t_lsGet (q := 1) (by decide) (R.lq (by decide)) (R.lst.2.1) (Nat.lt_of_le_of_lt (mS_b R.mI (k := 6) (b := 16) (by decide)) (by decide)) (by omega) ?_)
      refine ax_cast (c := 6) dX11_ruleAt_23 kl_X11_96 rfl (by decide) ?_
      refine ax_goto (tgt := 30) dX11_ruleAt_26 (by decide) ?_
      refine ax_aret (r := some _) dX11_ruleAt_30 rfl (Or.inl ⟨_, rfl⟩) ?_
      exact h1 ⟨Int32.not_lt.mp c_1, by rw [e_n]; exact Int32.not_le.mp c_12⟩
set_option maxHeartbeats 4000000 in
set_option maxRecDepth 100000 in
theorem c_alarmAt {E : awE} {S : awS} {M : aM} {τ : Nat → Nat → Nat} {Q : Option Value → awS → Nat → Nat → Prop} (R : cR τ S M) {x : Int32} (h1 : (0 ≤ x ∧ x < mS M 30) → Q (some (.ref (nm 1 (nN x)))) S 0 0) (h0 : ¬ (0 ≤ x ∧ x < mS M 30) → Q (some .null) S 0 0) : awT true E m_X11_alarmAt [.ref (nm 12 0), .int x] S Q := by
  refine awT.of (by decide) (by decide) (Nat.le_of_ble_eq_true rfl) ?_
  have e_n := mS_nI R.mI (k := 30) (b := 300) (by decide)
  have e_b : mN M 30 ≤ 300 := mS_b R.mI (by decide)
  refine ax_iload_n (i := 1) dX11_alarmAt_0 rfl rfl ?_
  refine ax_if_lt (tgt := 29) dX11_alarmAt_1 (by decide) (fun c_1 => ?_) (fun c_1 => ?_)
  · refine ax_null dX11_alarmAt_29 ?_
    refine ax_aret (r := none) dX11_alarmAt_30 rfl (Or.inl ⟨_, rfl⟩) ?_
    exact h0 (fun z => Int32.not_lt.mpr z.1 c_1)
  · refine ax_iload_n (i := 1) dX11_alarmAt_4 rfl rfl ?_
    refine ax_aload_n (i := 0) dX11_alarmAt_5 rfl rfl rfl ?_
    refine ax_getR dX11_alarmAt_6 fl_X11_22 rfl rfl rfl (R.tow.1 3 (by decide)) ?_
    refine ax_invV (c := 0) (n := 0) (As := []) dX11_alarmAt_9 cb_Jx4a65c_size_8abf5 cv_X11_75.1 cv_X11_75.2.1 cv_X11_75.2.2 rfl (by decide) rfl ⟨Nat.le_of_ble_eq_true rfl, Nat.le_of_ble_eq_true rfl⟩ (Nat.le_of_ble_eq_true rfl) rfl (t_lsSize (q := 3) (by decide) (R.lq (by decide)) (R.lst.2.2.2.1) (Nat.lt_of_le_of_lt (mS_b R.mI (k := 30) (b := 300) (by decide)) (by decide)) ?_)
    refine ax_icmp_ge (tgt := 29) dX11_alarmAt_12 (by decide) (fun c_12 => ?_) (fun c_12 => ?_)
    · refine ax_null dX11_alarmAt_29 ?_
      refine ax_aret (r := none) dX11_alarmAt_30 rfl (Or.inl ⟨_, rfl⟩) ?_
      exact h0 (fun z => Int32.not_lt.mpr c_12 (by rw [← e_n]; exact z.2))
    · have e_x := rg_of (n := (mN M 30)) (Int32.not_lt.mp c_1) (Int32.not_le.mp c_12) (by omega)
      have e_xb := e_x.2
      rw [e_x.1]
      refine ax_aload_n (i := 0) dX11_alarmAt_15 rfl rfl rfl ?_
      refine ax_getR dX11_alarmAt_16 fl_X11_22 rfl rfl rfl (R.tow.1 3 (by decide)) ?_
      refine ax_iload_n (i := 1) dX11_alarmAt_19 rfl rfl ?_
      refine ax_invV (c := 0) (n := 1) (As := [_]) dX11_alarmAt_20 cb_Jx4a65c_get_915e3 cv_X11_115.1 cv_X11_115.2.1 cv_X11_115.2.2 rfl (by decide) rfl ⟨Nat.le_of_ble_eq_true rfl, Nat.le_of_ble_eq_true rfl⟩ (Nat.le_of_ble_eq_true rfl) rfl (t_lsGet (q := 3) (by decide) (R.lq (by decide)) (R.lst.2.2.2.1) (Nat.lt_of_le_of_lt (mS_b R.mI (k := 30) (b := 300) (by decide)) (by decide)) (by omega) ?_)
      refine ax_cast (c := 1) dX11_alarmAt_23 kl_X11_240 rfl (by decide) ?_
      refine ax_goto (tgt := 30) dX11_alarmAt_26 (by decide) ?_
      refine ax_aret (r := some _) dX11_alarmAt_30 rfl (Or.inl ⟨_, rfl⟩) ?_
      exact h1 ⟨Int32.not_lt.mp c_1, by rw [e_n]; exact Int32.not_le.mp c_12⟩
set_option maxHeartbeats 4000000 in
set_option maxRecDepth 100000 in
theorem c_letterAt {E : awE} {S : awS} {M : aM} {τ : Nat → Nat → Nat} {Q : Option Value → awS → Nat → Nat → Prop} (R : cR τ S M) {x : Int32} (h1 : okLetter M x → Q (some (.ref (nm 4 (nN x)))) S 0 0) (h0 : ¬ okLetter M x → Q (some .null) S 0 0) : awT true E m_X11_letterAt [.ref (nm 12 0), .int x] S Q := by
  refine awT.of (by decide) (by decide) (Nat.le_of_ble_eq_true rfl) ?_
  have e_n := mS_nI R.mI (k := 63) (b := 200) (by decide)
  have e_b : mN M 63 ≤ 200 := mS_b R.mI (by decide)
  refine ax_iload_n (i := 1) dX11_letterAt_0 rfl rfl ?_
  refine ax_if_lt (tgt := 29) dX11_letterAt_1 (by decide) (fun c_1 => ?_) (fun c_1 => ?_)
  · refine ax_null dX11_letterAt_29 ?_
    refine ax_aret (r := none) dX11_letterAt_30 rfl (Or.inl ⟨_, rfl⟩) ?_
    exact h0 (fun z => Int32.not_lt.mpr z.1 c_1)
  · refine ax_iload_n (i := 1) dX11_letterAt_4 rfl rfl ?_
    refine ax_aload_n (i := 0) dX11_letterAt_5 rfl rfl rfl ?_
    refine ax_getR dX11_letterAt_6 fl_X11_28 rfl rfl rfl (R.tow.1 5 (by decide)) ?_
    refine ax_invV (c := 0) (n := 0) (As := []) dX11_letterAt_9 cb_Jx4a65c_size_8abf5 cv_X11_75.1 cv_X11_75.2.1 cv_X11_75.2.2 rfl (by decide) rfl ⟨Nat.le_of_ble_eq_true rfl, Nat.le_of_ble_eq_true rfl⟩ (Nat.le_of_ble_eq_true rfl) rfl (t_lsSize (q := 5) (by decide) (R.lq (by decide)) (R.lst.2.2.2.2.2.1) (Nat.lt_of_le_of_lt (mS_b R.mI (k := 63) (b := 200) (by decide)) (by decide)) ?_)
    refine ax_icmp_ge (tgt := 29) dX11_letterAt_12 (by decide) (fun c_12 => ?_) (fun c_12 => ?_)
    · refine ax_null dX11_letterAt_29 ?_
      refine ax_aret (r := none) dX11_letterAt_30 rfl (Or.inl ⟨_, rfl⟩) ?_
      exact h0 (fun z => Int32.not_lt.mpr c_12 (by rw [← e_n]; exact z.2))
    · have e_x := rg_of (n := (mN M 63)) (Int32.not_lt.mp c_1) (Int32.not_le.mp c_12) (by omega)
      have e_xb := e_x.2
      rw [e_x.1]
      refine ax_aload_n (i := 0) dX11_letterAt_15 rfl rfl rfl ?_
      refine ax_getR dX11_letterAt_16 fl_X11_28 rfl rfl rfl (R.tow.1 5 (by decide)) ?_
      refine ax_iload_n (i := 1) dX11_letterAt_19 rfl rfl ?_
      refine ax_invV (c := 0) (n := 1) (As := [_]) dX11_letterAt_20 cb_Jx4a65c_get_915e3 cv_X11_115.1 cv_X11_115.2.1 cv_X11_115.2.2 rfl (by decide) rfl ⟨Nat.le_of_ble_eq_true rfl, Nat.le_of_ble_eq_true rfl⟩ (Nat.le_of_ble_eq_true rfl) rfl (t_lsGet (q := 5) (by decide) (R.lq (by decide)) (R.lst.2.2.2.2.2.1) (Nat.lt_of_le_of_lt (mS_b R.mI (k := 63) (b := 200) (by decide)) (by decide)) (by omega) ?_)
      refine ax_cast (c := 4) dX11_letterAt_23 kl_X11_313 rfl (by decide) ?_
      refine ax_goto (tgt := 30) dX11_letterAt_26 (by decide) ?_
      refine ax_aret (r := some _) dX11_letterAt_30 rfl (Or.inl ⟨_, rfl⟩) ?_
      exact h1 ⟨Int32.not_lt.mp c_1, by rw [e_n]; exact Int32.not_le.mp c_12⟩
set_option maxHeartbeats 4000000 in
set_option maxRecDepth 100000 in
theorem c_boardAt {E : awE} {S : awS} {M : aM} {τ : Nat → Nat → Nat} {Q : Option Value → awS → Nat → Nat → Prop} (R : cR τ S M) {x : Int32} (h1 : okBoard x → Q (some (.ref (nm 2 (nN x)))) S 0 0) (h0 : ¬ okBoard x → Q (some .null) S 0 0) : awT true E m_X11_boardAt [.ref (nm 12 0), .int x] S Q := by
  refine awT.of (by decide) (by decide) (Nat.le_of_ble_eq_true rfl) ?_
  refine ax_iload_n (i := 1) dX11_boardAt_0 rfl rfl ?_
  refine ax_if_lt (tgt := 22) dX11_boardAt_1 (by decide) (fun c_1 => ?_) (fun c_1 => ?_)
  · refine ax_null dX11_boardAt_22 ?_
    refine ax_aret (r := none) dX11_boardAt_23 rfl (Or.inl ⟨_, rfl⟩) ?_
    exact h0 (fun z => Int32.not_lt.mpr z.1 c_1)
  · refine ax_iload_n (i := 1) dX11_boardAt_4 rfl rfl ?_
    refine ax_aload_n (i := 0) dX11_boardAt_5 rfl rfl rfl ?_
    refine ax_getR dX11_boardAt_6 fl_X11_33 rfl rfl rfl R.lst.2.2.2.2.2.2.1.1 ?_
    refine ax_alenN dX11_boardAt_9 (by decide) rfl R.lst.2.2.2.2.2.2.1.2.1 ?_
    refine ax_icmp_ge (tgt := 22) dX11_boardAt_10 (by decide) (fun c_10 => ?_) (fun c_10 => ?_)
    · refine ax_null dX11_boardAt_22 ?_
      refine ax_aret (r := none) dX11_boardAt_23 rfl (Or.inl ⟨_, rfl⟩) ?_
      exact h0 (fun z => Int32.not_lt.mpr c_10 z.2)
    · refine ax_aload_n (i := 0) dX11_boardAt_13 rfl rfl rfl ?_
      have e_x := rg_of (n := 8) (Int32.not_lt.mp c_1) (Int32.not_le.mp c_10) (by omega)
      have e_xb := e_x.2
      rw [e_x.1]
      refine ax_getR dX11_boardAt_14 fl_X11_33 rfl rfl rfl R.lst.2.2.2.2.2.2.1.1 ?_
      refine ax_iload_n (i := 1) dX11_boardAt_17 rfl rfl ?_
      refine ax_daldN dX11_boardAt_18 rfl rfl R.lst.2.2.2.2.2.2.1.2.1 (by decide) (by omega) (R.lst.2.2.2.2.2.2.1.2.2 _ e_xb) ?_
      refine ax_goto (tgt := 23) dX11_boardAt_19 (by decide) ?_
      refine ax_aret (r := some _) dX11_boardAt_23 rfl (Or.inl ⟨_, rfl⟩) ?_
      exact h1 ⟨Int32.not_lt.mp c_1, Int32.not_le.mp c_10⟩
set_option maxHeartbeats 4000000 in
set_option maxRecDepth 100000 in
theorem c_watchAt {E : awE} {S : awS} {Q : Option Value → awS → Nat → Nat → Prop} {r s : Nat} (hr : rulOk S r) (hs : s < 16) (h : Q (some (.ref (nm 11 (16 * r + s)))) S 0 0) : awT true E m_X5_watchAt [.ref (nm 6 r), .int (nI s)] S Q := by
  refine awT.of (by decide) (by decide) (Nat.le_of_ble_eq_true rfl) ?_
  refine ax_iload_n (i := 1) dX5_watchAt_0 rfl rfl ?_
  refine ax_if_lt (tgt := 22) dX5_watchAt_1 (by decide) (fun c_1 => ?_) (fun c_1 => ?_)
  · exact absurd c_1 (Int32.not_lt.mpr (nI_nn (by omega)))
  · refine ax_iload_n (i := 1) dX5_watchAt_4 rfl rfl ?_
    refine ax_aload_n (i := 0) dX5_watchAt_5 rfl rfl rfl ?_
    refine ax_getR dX5_watchAt_6 fl_X5_11 rfl rfl rfl hr.1 ?_
    refine ax_alenN dX5_watchAt_9 (by decide) rfl hr.2.2.2.2.1 ?_
    refine ax_icmp_ge (tgt := 22) dX5_watchAt_10 (by decide) (fun c_10 => ?_) (fun c_10 => ?_)
    · exact absurd c_10 (Int32.not_le.mpr (nI_lt (by omega) (by decide)))
    · refine ax_aload_n (i := 0) dX5_watchAt_13 rfl rfl rfl ?_
      refine ax_getR dX5_watchAt_14 fl_X5_11 rfl rfl rfl hr.1 ?_
      refine ax_iload_n (i := 1) dX5_watchAt_17 rfl rfl ?_
      refine ax_aaldN dX5_watchAt_18 rfl rfl hr.2.2.2.2.1 (by decide) (by omega) (hr.2.2.2.2.2.2.2.2.2 s hs).1 ?_
      refine ax_goto (tgt := 23) dX5_watchAt_19 (by decide) ?_
      refine ax_aret (r := some _) dX5_watchAt_23 rfl (Or.inl ⟨_, rfl⟩) ?_
      exact h
set_option maxHeartbeats 4000000 in
set_option maxRecDepth 100000 in
theorem c_watchOf {E : awE} {S : awS} {M : aM} {τ : Nat → Nat → Nat} {Q : Option Value → awS → Nat → Nat → Prop} (R : cR τ S M) {r s : Int32} (h1 : okRule M r ∧ okSource M s → Q (some (.ref (nm 11 (16 * nN r + nN s)))) S 0 0) (h0 : ¬ (okRule M r ∧ okSource M s) → Q (some .null) S 0 0) : awT true E m_X11_watchOf [.ref (nm 12 0), .int r, .int s] S Q := by
  refine awT.of (by decide) (by decide) (Nat.le_of_ble_eq_true rfl) ?_
  refine ax_aload_n (i := 0) dX11_watchOf_0 rfl rfl rfl ?_
  refine ax_iload_n (i := 1) dX11_watchOf_1 rfl rfl ?_
  refine ax_invV (c := 12) (n := 1) (As := [_]) dX11_watchOf_2 cb_X11_ruleAt cv_X11_104.1 cv_X11_104.2.1 cv_X11_104.2.2 rfl (by decide) rfl ⟨Nat.le_of_ble_eq_true rfl, Nat.le_of_ble_eq_true rfl⟩ (Nat.le_of_ble_eq_true rfl) rfl (c_ruleAt R (fun c_2 => ?_) (fun c_2 => ?_))
  · refine ax_astore_n (i := 3) (lv' := [(3, _), (0, _), (1, _), (2, _)]) dX11_watchOf_5 rfl (by decide) rfl rfl ?_
    refine ax_aload_n (i := 3) dX11_watchOf_6 rfl rfl rfl ?_
    refine ax_ifnull_f (k0 := 18) dX11_watchOf_7 (by decide) ?_
    refine ax_aload_n (i := 0) dX11_watchOf_10 rfl rfl rfl ?_
    refine ax_iload_n (i := 2) dX11_watchOf_11 rfl rfl ?_
    refine ax_invV (c := 12) (n := 1) (As := [_]) dX11_watchOf_12 cb_X11_sourceAt cv_X11_150.1 cv_X11_150.2.1 cv_X11_150.2.2 rfl (by decide) rfl ⟨Nat.le_of_ble_eq_true rfl, Nat.le_of_ble_eq_true rfl⟩ (Nat.le_of_ble_eq_true rfl) rfl (c_sourceAt R (fun c_12 => ?_) (fun c_12 => ?_))
    · refine ax_ifnonnull_t (tgt := 22) dX11_watchOf_15 (by decide) ?_
      have e_r := rg_lt c_2.1 c_2.2 (mS_nI R.mI (k := 6) (b := 16) (by decide)) (Nat.lt_of_le_of_lt (mS_b R.mI (k := 6) (b := 16) (by decide)) (by decide))
      have e_rb := e_r.2
      have e_s := rg_lt c_12.1 c_12.2 (mS_nI R.mI (k := 2) (b := 16) (by decide)) (Nat.lt_of_le_of_lt (mS_b R.mI (k := 2) (b := 16) (by decide)) (by decide))
      have e_sb := e_s.2
      have e_sc := R.nS
      rw [e_s.1]
      refine ax_aload_n (i := 3) dX11_watchOf_22 rfl rfl rfl ?_
      refine ax_iload_n (i := 2) dX11_watchOf_23 rfl rfl ?_
      refine ax_invV (c := 6) (n := 1) (As := [_]) dX11_watchOf_24 cb_X5_watchAt cv_X11_191.1 cv_X11_191.2.1 cv_X11_191.2.2 rfl (by decide) rfl ⟨Nat.le_of_ble_eq_true rfl, Nat.le_of_ble_eq_true rfl⟩ (Nat.le_of_ble_eq_true rfl) rfl (c_watchAt (R.rul _ e_rb) (by omega) ?_)
      refine ax_aret (r := some _) dX11_watchOf_27 rfl (Or.inl ⟨_, rfl⟩) ?_
      exact h1 ⟨c_2, c_12⟩
    · refine ax_ifnonnull_f (k0 := 22) dX11_watchOf_15 (by decide) ?_
      refine ax_null dX11_watchOf_18 ?_
      refine ax_goto (tgt := 27) dX11_watchOf_19 (by decide) ?_
      refine ax_aret (r := none) dX11_watchOf_27 rfl (Or.inl ⟨_, rfl⟩) ?_
      exact h0 (fun z => c_12 z.2)
  · refine ax_astore_n (i := 3) (lv' := [(3, _), (0, _), (1, _), (2, _)]) dX11_watchOf_5 rfl (by decide) rfl rfl ?_
    refine ax_aload_n (i := 3) dX11_watchOf_6 rfl rfl rfl ?_
    refine ax_ifnull_t (tgt := 18) dX11_watchOf_7 (by decide) ?_
    refine ax_null dX11_watchOf_18 ?_
    refine ax_goto (tgt := 27) dX11_watchOf_19 (by decide) ?_
    refine ax_aret (r := none) dX11_watchOf_27 rfl (Or.inl ⟨_, rfl⟩) ?_
    exact h0 (fun z => c_2 z.1)
def sHas (S : awS) (i t : Nat) : Prop := 0 < t ∧ ¬ sI S 17 i t = 0
theorem cVal.has {S : awS} {M : aM} (h : cVal S M) {i t : Nat} (hi : i < mN M 2) (ht : t < 401) : sHas S i t ↔ mHas M i t := by
  unfold sHas mHas
  rw [(h i hi t ht).1]

set_option maxHeartbeats 4000000 in
set_option maxRecDepth 100000 in
theorem c_hasAt {E : awE} {S : awS} {Q : Option Value → awS → Nat → Nat → Prop} {i n : Nat} {x : Int32} (hs : srcOk S i) (hx : (x = nI n ∧ n ≤ 400) ∨ (x ≤ 0 ∧ n = 0)) (h1 : sHas S i n → Q (some (.int 1)) S 0 0) (h0 : ¬ sHas S i n → Q (some (.int 0)) S 0 0) : awT true E m_X8_hasAt [.ref (nm 9 i), .int x] S Q := by
  refine awT.of (by decide) (by decide) (Nat.le_of_ble_eq_true rfl) ?_
  refine ax_iload_n (i := 1) dX8_hasAt_0 rfl rfl ?_
  refine ax_iconst (v := 1) dX8_hasAt_1 (by decide) ?_
  refine ax_icmp_lt (tgt := 27) dX8_hasAt_2 (by decide) (fun c_2 => ?_) (fun c_2 => ?_)
  · refine ax_iconst (v := 0) dX8_hasAt_27 (by decide) ?_
    refine ax_iret dX8_hasAt_28 rfl rfl ?_
    exact h0 (fun z => hx.elim (fun q => absurd (q.1 ▸ c_2) (Int32.not_lt.mpr (nI_le z.1 (by have := q.2; omega)))) (fun q => absurd z.1 (by rw [q.2]; exact Nat.lt_irrefl 0)))
  · have e : x = nI n := hx.elim (fun z => z.1) (fun z => absurd (Int32.le_trans (Int32.not_lt.mp c_2) z.1) (by decide))
    have hn : n ≤ 400 := hx.elim (fun z => z.2) (fun z => by omega)
    rw [e]
    refine ax_iload_n (i := 1) dX8_hasAt_5 rfl rfl ?_
    refine ax_aload_n (i := 0) dX8_hasAt_6 rfl rfl rfl ?_
    refine ax_getR dX8_hasAt_7 fl_X8_15 rfl rfl rfl hs.2.1 ?_
    refine ax_alenN dX8_hasAt_10 (by decide) rfl hs.2.2.2.1 ?_
    refine ax_icmp_ge (tgt := 27) dX8_hasAt_11 (by decide) (fun c_11 => ?_) (fun c_11 => ?_)
    · exact absurd c_11 (Int32.not_le.mpr (nI_lt (by omega) (by decide)))
    · refine ax_aload_n (i := 0) dX8_hasAt_14 rfl rfl rfl ?_
      refine ax_getR dX8_hasAt_15 fl_X8_15 rfl rfl rfl hs.2.1 ?_
      refine ax_iload_n (i := 1) dX8_hasAt_18 rfl rfl ?_
      refine ax_zaldN dX8_hasAt_19 rfl rfl hs.2.2.2.1 (by decide) (by omega) ?_
      refine ax_if_eq (tgt := 27) dX8_hasAt_20 (by decide) (fun c_20 => ?_) (fun c_20 => ?_)
      · refine ax_iconst (v := 0) dX8_hasAt_27 (by decide) ?_
        refine ax_iret dX8_hasAt_28 rfl rfl ?_
        exact h0 (fun z => z.2 c_20)
      · refine ax_iconst (v := 1) dX8_hasAt_23 (by decide) ?_
        refine ax_goto (tgt := 28) dX8_hasAt_24 (by decide) ?_
        refine ax_iret dX8_hasAt_28 rfl rfl ?_
        exact h1 ⟨Nat.pos_of_ne_zero (fun z => c_2 (by rw [e, z]; decide)), c_20⟩
set_option maxHeartbeats 4000000 in
set_option maxRecDepth 100000 in
theorem c_at {E : awE} {S : awS} {Q : Option Value → awS → Nat → Nat → Prop} {i n : Nat} {x : Int32} (hs : srcOk S i) (hx : (x = nI n ∧ n ≤ 400) ∨ (x ≤ 0 ∧ n = 0)) (h1 : sHas S i n → Q (some (.long (sL S 16 i n))) S 0 0) (h0 : ¬ sHas S i n → Q (some (.long 0)) S 0 0) : awT true E m_X8_at [.ref (nm 9 i), .int x] S Q := by
  refine awT.of (by decide) (by decide) (Nat.le_of_ble_eq_true rfl) ?_
  refine ax_aload_n (i := 0) dX8_at_0 rfl rfl rfl ?_
  refine ax_iload_n (i := 1) dX8_at_1 rfl rfl ?_
  refine ax_invV (c := 9) (n := 1) (As := [_]) dX8_at_2 cb_X8_hasAt cv_X8_26.1 cv_X8_26.2.1 cv_X8_26.2.2 rfl (by decide) rfl ⟨Nat.le_of_ble_eq_true rfl, Nat.le_of_ble_eq_true rfl⟩ (Nat.le_of_ble_eq_true rfl) rfl (c_hasAt hs hx (fun c_2 => ?_) (fun c_2 => ?_))
  · refine ax_if_eq (tgt := 26) dX8_at_5 (by decide) (fun z => absurd z (by decide)) (fun _ => ?_)
    have e : x = nI n := hx.elim (fun z => z.1) (fun z => absurd c_2.1 (by omega))
    have hn : n ≤ 400 := hx.elim (fun z => z.2) (fun z => by omega)
    rw [e]
    refine ax_iload_n (i := 1) dX8_at_8 rfl rfl ?_
    refine ax_aload_n (i := 0) dX8_at_9 rfl rfl rfl ?_
    refine ax_getR dX8_at_10 fl_X8_9 rfl rfl rfl hs.1 ?_
    refine ax_alenN dX8_at_13 (by decide) rfl hs.2.2.1 ?_
    refine ax_icmp_ge (tgt := 26) dX8_at_14 (by decide) (fun c_14 => ?_) (fun c_14 => ?_)
    · exact absurd c_14 (Int32.not_le.mpr (nI_lt (by omega) (by decide)))
    · refine ax_aload_n (i := 0) dX8_at_17 rfl rfl rfl ?_
      refine ax_getR dX8_at_18 fl_X8_9 rfl rfl rfl hs.1 ?_
      refine ax_iload_n (i := 1) dX8_at_21 rfl rfl ?_
      refine ax_laldN dX8_at_22 rfl rfl hs.2.2.1 (by decide) (by omega) ?_
      refine ax_goto (tgt := 27) dX8_at_23 (by decide) ?_
      refine ax_lret dX8_at_27 rfl ?_
      exact h1 c_2
  · refine ax_if_eq (tgt := 26) dX8_at_5 (by decide) (fun _ => ?_) (fun z => absurd (by decide) z)
    refine ax_lconst (v := 0) dX8_at_26 (by decide) ?_
    refine ax_lret dX8_at_27 rfl ?_
    exact h0 c_2
set_option maxHeartbeats 4000000 in
set_option maxRecDepth 100000 in
theorem c_put {E : awE} {S : awS} {Q : Option Value → awS → Nat → Nat → Prop} {i n : Nat} {v : Int64} (hs : srcOk S i) (hn : 0 < n ∧ n ≤ 400) (h : Q none (wL (wI S 17 i n 1) 16 i n v) 0 0) : awT true E m_X8_put [.ref (nm 9 i), .int (nI n), .long v] S Q := by
  refine awT.of (by decide) (by decide) (Nat.le_of_ble_eq_true rfl) ?_
  refine ax_iload_n (i := 1) dX8_put_0 rfl rfl ?_
  refine ax_iconst (v := 1) dX8_put_1 (by decide) ?_
  refine ax_icmp_lt (tgt := 37) dX8_put_2 (by decide) (fun c_2 => ?_) (fun c_2 => ?_)
  · exact absurd c_2 (Int32.not_lt.mpr (nI_le (b := n) (a := 1) (by omega) (by omega)))
  · refine ax_iload_n (i := 1) dX8_put_5 rfl rfl ?_
    refine ax_aload_n (i := 0) dX8_put_6 rfl rfl rfl ?_
    refine ax_getR dX8_put_7 fl_X8_15 rfl rfl rfl hs.2.1 ?_
    refine ax_alenN dX8_put_10 (by decide) rfl hs.2.2.2.1 ?_
    refine ax_icmp_ge (tgt := 37) dX8_put_11 (by decide) (fun c_11 => ?_) (fun c_11 => ?_)
    · exact absurd c_11 (Int32.not_le.mpr (nI_lt (by omega) (by decide)))
    · refine ax_iload_n (i := 1) dX8_put_14 rfl rfl ?_
      refine ax_aload_n (i := 0) dX8_put_15 rfl rfl rfl ?_
      refine ax_getR dX8_put_16 fl_X8_9 rfl rfl rfl hs.1 ?_
      refine ax_alenN dX8_put_19 (by decide) rfl hs.2.2.1 ?_
      refine ax_icmp_ge (tgt := 37) dX8_put_20 (by decide) (fun c_20 => ?_) (fun c_20 => ?_)
      · exact absurd c_20 (Int32.not_le.mpr (nI_lt (by omega) (by decide)))
      · refine ax_aload_n (i := 0) dX8_put_23 rfl rfl rfl ?_
        refine ax_getR dX8_put_24 fl_X8_15 rfl rfl rfl hs.2.1 ?_
        refine ax_iload_n (i := 1) dX8_put_27 rfl rfl ?_
        refine ax_iconst (v := 1) dX8_put_28 (by decide) ?_
        refine ax_zastN dX8_put_29 rfl rfl hs.2.2.2.1 (by decide) (by omega) rfl ?_
        refine ax_aload_n (i := 0) dX8_put_30 rfl rfl rfl ?_
        refine ax_getR dX8_put_31 fl_X8_9 rfl rfl rfl hs.1 ?_
        refine ax_iload_n (i := 1) dX8_put_34 rfl rfl ?_
        refine ax_lload_n (i := 2) dX8_put_35 rfl rfl ?_
        refine ax_lastN dX8_put_36 rfl rfl hs.2.2.1 (by decide) (by omega) ?_
        refine ax_vret dX8_put_37 rfl ?_
        exact h
set_option maxHeartbeats 4000000 in
set_option maxRecDepth 100000 in
theorem c_drop {E : awE} {S : awS} {Q : Option Value → awS → Nat → Nat → Prop} {i n : Nat} (hs : srcOk S i) (hn : 0 < n ∧ n ≤ 401) (h : Q none (if n = 401 then S else wI S 17 i n 0) 0 0) : awT true E m_X8_drop [.ref (nm 9 i), .int (nI n)] S Q := by
  refine awT.of (by decide) (by decide) (Nat.le_of_ble_eq_true rfl) ?_
  refine ax_iload_n (i := 1) dX8_drop_0 rfl rfl ?_
  refine ax_iconst (v := 1) dX8_drop_1 (by decide) ?_
  refine ax_icmp_lt (tgt := 21) dX8_drop_2 (by decide) (fun c_2 => ?_) (fun c_2 => ?_)
  · exact absurd c_2 (Int32.not_lt.mpr (nI_le (b := n) (a := 1) (by omega) (by omega)))
  · refine ax_iload_n (i := 1) dX8_drop_5 rfl rfl ?_
    refine ax_aload_n (i := 0) dX8_drop_6 rfl rfl rfl ?_
    refine ax_getR dX8_drop_7 fl_X8_15 rfl rfl rfl hs.2.1 ?_
    refine ax_alenN dX8_drop_10 (by decide) rfl hs.2.2.2.1 ?_
    refine ax_icmp_ge (tgt := 21) dX8_drop_11 (by decide) (fun c_11 => ?_) (fun c_11 => ?_)
    · have h401 : n = 401 := Nat.le_antisymm hn.2 (Nat.le_of_not_lt (fun z => absurd c_11 (Int32.not_le.mpr (nI_lt z (by decide)))))
      rw [if_pos h401] at h
      refine ax_vret dX8_drop_21 rfl ?_
      exact h
    · have h401 : n < 401 := Nat.lt_of_not_le (fun z => c_11 (nI_le z (by omega)))
      rw [if_neg (by omega)] at h
      refine ax_aload_n (i := 0) dX8_drop_14 rfl rfl rfl ?_
      refine ax_getR dX8_drop_15 fl_X8_15 rfl rfl rfl hs.2.1 ?_
      refine ax_iload_n (i := 1) dX8_drop_18 rfl rfl ?_
      refine ax_iconst (v := 0) dX8_drop_19 (by decide) ?_
      refine ax_zastN dX8_drop_20 rfl rfl hs.2.2.2.1 (by decide) (by omega) rfl ?_
      refine ax_vret dX8_drop_21 rfl ?_
      exact h
