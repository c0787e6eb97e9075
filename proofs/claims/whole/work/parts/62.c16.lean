theorem sFillJ_e (f i : Nat) (v : Int64) (S : awS) : ∀ n, sFillJ f i v n S = (S.1, fun f' i' k' => if f' = f ∧ i' = i ∧ k' < n then v else S.2.1 f' i' k', S.2.2)
  | 0 => by
    refine Prod.ext rfl (Prod.ext ?_ rfl)
    funext f' i' k'
    exact (if_neg (fun z => absurd z.2.2 (Nat.not_lt_zero _))).symm
  | n + 1 => by
    have e : sFillJ f i v (n + 1) S = wL (sFillJ f i v n S) f i n v := by
      unfold sFillJ
      exact mIter_s _ _ _
    rw [e, sFillJ_e f i v S n]
    refine Prod.ext rfl (Prod.ext ?_ rfl)
    funext f' i' k'
    show (if f' = f ∧ i' = i ∧ k' = n then v else (if f' = f ∧ i' = i ∧ k' < n then v else S.2.1 f' i' k')) = (if f' = f ∧ i' = i ∧ k' < n + 1 then v else S.2.1 f' i' k')
    by_cases c : f' = f ∧ i' = i ∧ k' = n
    · rw [if_pos c, if_pos ⟨c.1, c.2.1, by omega⟩]
    · rw [if_neg c]
      by_cases d : f' = f ∧ i' = i ∧ k' < n
      · rw [if_pos d, if_pos ⟨d.1, d.2.1, by omega⟩]
      · rw [if_neg d, if_neg (fun z => d ⟨z.1, z.2.1, Nat.lt_of_le_of_ne (Nat.le_of_lt_succ z.2.2) (fun e => c ⟨z.1, z.2.1, e⟩)⟩)]
/-- a row of the reference's longs written from a place on -/
theorem mRowJ (K b0 : Nat) (g : Nat → Int64) (F : Nat → aM → aM) (M : aM) (hF : ∀ i N, N.1 = M.1 → N.2.1 = M.2.1 → (∀ k j, ¬ k = K → N.2.2 k j = M.2.2 k j) → F i N = pL N K (b0 + i) (g i)) : ∀ n, mIter F n M = (M.1, M.2.1, fun k j => if k = K ∧ b0 ≤ j ∧ j < b0 + n then g (j - b0) else M.2.2 k j)
  | 0 => by
    refine Prod.ext rfl (Prod.ext rfl ?_)
    funext k j
    exact (if_neg (fun z => absurd z.2 (by omega))).symm
  | n + 1 => by
    rw [mIter_s, mRowJ K b0 g F M hF n, hF n (M.1, M.2.1, fun k j => if k = K ∧ b0 ≤ j ∧ j < b0 + n then g (j - b0) else M.2.2 k j) rfl rfl (fun k j hk => if_neg (fun z => hk z.1))]
    refine Prod.ext rfl (Prod.ext rfl ?_)
    funext k j
    show (if k = K ∧ j = b0 + n then g n else if k = K ∧ b0 ≤ j ∧ j < b0 + n then g (j - b0) else M.2.2 k j) = (if k = K ∧ b0 ≤ j ∧ j < b0 + (n + 1) then g (j - b0) else M.2.2 k j)
    by_cases c : k = K ∧ j = b0 + n
    · rw [if_pos c, if_pos ⟨c.1, by omega, by omega⟩, show j - b0 = n by omega]
    · rw [if_neg c]
      by_cases d : k = K ∧ b0 ≤ j ∧ j < b0 + n
      · rw [if_pos d, if_pos ⟨d.1, d.2.1, by omega⟩]
      · rw [if_neg d, if_neg (fun z => d ⟨z.1, z.2.1, by have : ¬ j = b0 + n := fun e => c ⟨z.1, e⟩; omega⟩)]

set_option maxHeartbeats 400000 in
set_option maxRecDepth 100000 in
theorem c_keepBare {E : awE} {S : awS} {Q : Option Value → awS → Nat → Nat → Prop} {d : Nat} {k : Int32} (h : Q none (wR (wI S 2 d 0 k) 2 d 1 none) 0 0) : awT true E m_X1_keepBare [.ref (nm 2 d), .int k] S Q := by
  refine awT.of (by decide) (by decide) (Nat.le_of_ble_eq_true rfl) ?_
  refine ax_aload_n (i := 0) dX1_keepBare_0 rfl rfl rfl ?_
  refine ax_iload_n (i := 1) dX1_keepBare_1 rfl rfl ?_
  refine ax_putI dX1_keepBare_2 fl_X1_9 rfl rfl rfl (Or.inl rfl) rfl rfl ?_
  refine ax_aload_n (i := 0) dX1_keepBare_5 rfl rfl rfl ?_
  refine ax_null dX1_keepBare_6 ?_
  refine ax_putN dX1_keepBare_7 fl_X1_15 rfl rfl rfl (Or.inl rfl) ?_
  refine ax_vret dX1_keepBare_10 rfl ?_
  exact h
set_option maxHeartbeats 400000 in
set_option maxRecDepth 100000 in
theorem c_bKeepAlarm {E : awE} {S : awS} {Q : Option Value → awS → Nat → Nat → Prop} {d a : Nat} (h : Q none (wR (wI S 2 d 0 1) 2 d 1 (some (nm 1 a))) 0 0) : awT true E m_X1_keepAlarm [.ref (nm 2 d), .ref (nm 1 a)] S Q := by
  refine awT.of (by decide) (by decide) (Nat.le_of_ble_eq_true rfl) ?_
  refine ax_aload_n (i := 0) dX1_keepAlarm_0 rfl rfl rfl ?_
  refine ax_iconst (v := 1) dX1_keepAlarm_1 (by decide) ?_
  refine ax_putI dX1_keepAlarm_2 fl_X1_9 rfl rfl rfl (Or.inl rfl) rfl rfl ?_
  refine ax_aload_n (i := 0) dX1_keepAlarm_5 rfl rfl rfl ?_
  refine ax_aload_n (i := 1) dX1_keepAlarm_6 rfl rfl rfl ?_
  refine ax_putR dX1_keepAlarm_7 fl_X1_15 rfl rfl rfl (Or.inl rfl) ?_
  refine ax_vret dX1_keepAlarm_10 rfl ?_
  exact h
set_option maxHeartbeats 400000 in
set_option maxRecDepth 100000 in
theorem c_bKeepRow {E : awE} {S : awS} {Q : Option Value → awS → Nat → Nat → Prop} {d z : Nat} {k : Int32} (hd : brdOk S d) (hz : z ≤ 60) (h : Q none (sFillJ 25 d 0 60 (wI (wR (wI S 2 d 0 k) 2 d 1 none) 2 d 2 (nI z))) 0 0) : awT true E m_X1_keepRow [.ref (nm 2 d), .int k, .int (nI z)] S Q := by
  refine awT.of (by decide) (by decide) (Nat.le_of_ble_eq_true rfl) ?_
  refine ax_aload_n (i := 0) dX1_keepRow_0 rfl rfl rfl ?_
  refine ax_iload_n (i := 1) dX1_keepRow_1 rfl rfl ?_
  refine ax_putI dX1_keepRow_2 fl_X1_9 rfl rfl rfl (Or.inl rfl) rfl rfl ?_
  refine ax_aload_n (i := 0) dX1_keepRow_5 rfl rfl rfl ?_
  refine ax_null dX1_keepRow_6 ?_
  refine ax_putN dX1_keepRow_7 fl_X1_15 rfl rfl rfl (Or.inl rfl) ?_
  refine ax_aload_n (i := 0) dX1_keepRow_10 rfl rfl rfl ?_
  refine ax_iload_n (i := 2) dX1_keepRow_11 rfl rfl ?_
  refine ax_bipush (v := 60) dX1_keepRow_12 (by decide) ?_
  refine ax_invS (n := 2) (As := [_, _]) dX1_keepRow_14 cb_J9_min_7cf53 cs_X1_26.1 cs_X1_26.2 rfl ⟨Nat.le_of_ble_eq_true rfl, Nat.le_of_ble_eq_true rfl⟩ (Nat.le_of_ble_eq_true rfl) rfl (t_imin (fun c_14 => ?_) (fun c_14 => ?_))
  · exact absurd c_14 (Int32.not_lt.mpr (nI_le (b := 60) hz (by decide)))
  · refine ax_putI dX1_keepRow_17 fl_X1_19 rfl rfl rfl (Or.inl rfl) rfl rfl ?_
    refine ax_aload_n (i := 0) dX1_keepRow_20 rfl rfl rfl ?_
    refine ax_getR dX1_keepRow_21 fl_X1_22 rfl rfl rfl (show sR (wI (wR (wI S 2 d 0 k) 2 d 1 none) 2 d 2 (nI z)) 2 d 3 = some (nm 25 d) by rw [sR_wI, sR_wR, if_neg (fun z => absurd z.2.2 (by decide)), sR_wI]; exact hd.1) ?_
    refine ax_lconst (v := 0) dX1_keepRow_24 (by decide) ?_
    refine ax_invS (n := 2) (As := [_, _]) dX1_keepRow_25 cb_J7_fill_d0a16 cs_X1_32.1 cs_X1_32.2 rfl ⟨Nat.le_of_ble_eq_true rfl, Nat.le_of_ble_eq_true rfl⟩ (Nat.le_of_ble_eq_true rfl) rfl (c_filllong (m0 := 60) rfl rfl hd.2 (by decide) ?_)
    refine ax_vret dX1_keepRow_28 rfl ?_
    exact h
theorem gt1 {x : Int32} (h0 : 0 ≤ x) (h1 : ¬ x = 0) (h2 : ¬ x = 1) : 1 < x := by
  rw [Int32.lt_iff_toInt_lt]
  rw [Int32.le_iff_toInt_le] at h0
  have e0 : (0 : Int32).toInt = 0 := by decide
  have e1 : (1 : Int32).toInt = 1 := by decide
  have n0 : ¬ x.toInt = 0 := fun z => h1 (Int32.toInt_inj.mp (z.trans e0.symm))
  have n1 : ¬ x.toInt = 1 := fun z => h2 (Int32.toInt_inj.mp (z.trans e1.symm))
  omega

set_option maxHeartbeats 400000 in
set_option maxRecDepth 100000 in
theorem c_refusal {E : awE} {S : awS} {M : aM} {τ : Nat → Nat → Nat} {Q : Option Value → awS → Nat → Nat → Prop} (R : cR τ S M) {d : Int32} (h : Q (some (.int (mDenied M d))) S 0 0) : awT true E m_X11_refusalOfAlarm [.ref (nm 12 0), .int d] S Q := by
  refine awT.of (by decide) (by decide) (Nat.le_of_ble_eq_true rfl) ?_
  refine ax_aload_n (i := 0) dX11_refusalOfAlarm_0 rfl rfl rfl ?_
  refine ax_iload_n (i := 1) dX11_refusalOfAlarm_1 rfl rfl ?_
  refine ax_invV (c := 12) (n := 1) (As := [_]) dX11_refusalOfAlarm_2 cb_X11_boardAt cv_X11_464.1 cv_X11_464.2.1 cv_X11_464.2.2 rfl (by decide) rfl ⟨Nat.le_of_ble_eq_true rfl, Nat.le_of_ble_eq_true rfl⟩ (Nat.le_of_ble_eq_true rfl) rfl (c_boardAt R (fun c_2 => ?_) (fun c_2 => ?_))
  · refine ax_astore_n (i := 2) (lv' := [(2, _), (0, _), (1, _)]) dX11_refusalOfAlarm_5 rfl (by decide) rfl rfl ?_
    refine ax_aload_n (i := 2) dX11_refusalOfAlarm_6 rfl rfl rfl ?_
    refine ax_ifnonnull_t (tgt := 12) dX11_refusalOfAlarm_7 (by decide) ?_
    have e_d := okB_e c_2
    have e_db := e_d.2
    have hB := R.bdr _ e_db
    have hK := (R.int (f := 2) (k := 0) (m := 79) (q := 101) (by decide) e_db)
    refine ax_aload_n (i := 2) dX11_refusalOfAlarm_12 rfl rfl rfl ?_
    refine ax_getI dX11_refusalOfAlarm_13 fl_X11_509 rfl rfl rfl ?_
    refine ax_if_ne (tgt := 22) dX11_refusalOfAlarm_16 (by decide) (fun c_16 => ?_) (fun c_16 => ?_)
    · refine ax_aload_n (i := 2) dX11_refusalOfAlarm_22 rfl rfl rfl ?_
      refine ax_getQ dX11_refusalOfAlarm_23 fl_X11_533 rfl rfl rfl rfl ?_
      refine ax_ifnonnull (tgt := 34) dX11_refusalOfAlarm_26 (by decide) (fun n_26 c_26 => ?_) (fun c_26 => ?_)
      · refine ax_iconst (v := 0) dX11_refusalOfAlarm_34 (by decide) ?_
        refine ax_iret dX11_refusalOfAlarm_35 rfl rfl ?_
        exact fin1 h ((if_neg (fun z => z c_2)).trans ((if_neg (fun z => c_16 (hK.trans z))).trans (if_neg (fun z => by rw [hB.2.1, if_neg (fun w => by rw [w] at z; exact absurd z (by decide))] at c_26; cases c_26))))
      · refine ax_bipush (v := -12) dX11_refusalOfAlarm_29 (by decide) ?_
        refine ax_goto (tgt := 35) dX11_refusalOfAlarm_31 (by decide) ?_
        refine ax_iret dX11_refusalOfAlarm_35 rfl rfl ?_
        exact fin1 h ((if_neg (fun z => z c_2)).trans ((if_neg (fun z => c_16 (hK.trans z))).trans (if_pos (gt1 hB.1.1 (fun z => c_16 (hK.trans z)) (fun z => absurd (hB.2.1.symm.trans c_26) (by rw [if_pos z]; exact fun w => by cases w))))))
    · refine ax_bipush (v := -11) dX11_refusalOfAlarm_19 (by decide) ?_
      refine ax_iret dX11_refusalOfAlarm_21 rfl rfl ?_
      exact fin1 h ((if_neg (fun z => z c_2)).trans (if_pos (hK.symm.trans (Classical.not_not.mp c_16))))
  · refine ax_astore_n (i := 2) (lv' := [(2, _), (0, _), (1, _)]) dX11_refusalOfAlarm_5 rfl (by decide) rfl rfl ?_
    refine ax_aload_n (i := 2) dX11_refusalOfAlarm_6 rfl rfl rfl ?_
    refine ax_ifnonnull_f (k0 := 12) dX11_refusalOfAlarm_7 (by decide) ?_
    refine ax_iconst (v := -1) dX11_refusalOfAlarm_10 (by decide) ?_
    refine ax_iret dX11_refusalOfAlarm_11 rfl rfl ?_
    exact fin1 h (if_pos c_2)
set_option maxHeartbeats 400000 in
set_option maxRecDepth 100000 in
theorem c_alarmOn {E : awE} {S : awS} {M : aM} {τ : Nat → Nat → Nat} {Q : Option Value → awS → Nat → Nat → Prop} (R : cR τ S M) {d : Int32} (h1 : okBoard d ∧ mA M 79 (nN d) = 1 → Q (some (.ref (nm 1 (mE M 81 (nN d))))) S 0 0) (h0 : ¬ (okBoard d ∧ mA M 79 (nN d) = 1) → Q (some .null) S 0 0) : awT true E m_X11_alarmOn [.ref (nm 12 0), .int d] S Q := by
  refine awT.of (by decide) (by decide) (Nat.le_of_ble_eq_true rfl) ?_
  refine ax_aload_n (i := 0) dX11_alarmOn_0 rfl rfl rfl ?_
  refine ax_iload_n (i := 1) dX11_alarmOn_1 rfl rfl ?_
  refine ax_invV (c := 12) (n := 1) (As := [_]) dX11_alarmOn_2 cb_X11_boardAt cv_X11_464.1 cv_X11_464.2.1 cv_X11_464.2.2 rfl (by decide) rfl ⟨Nat.le_of_ble_eq_true rfl, Nat.le_of_ble_eq_true rfl⟩ (Nat.le_of_ble_eq_true rfl) rfl (c_boardAt R (fun c_2 => ?_) (fun c_2 => ?_))
  · refine ax_astore_n (i := 2) (lv' := [(2, _), (0, _), (1, _)]) dX11_alarmOn_5 rfl (by decide) rfl rfl ?_
    refine ax_aload_n (i := 2) dX11_alarmOn_6 rfl rfl rfl ?_
    refine ax_ifnonnull_t (tgt := 14) dX11_alarmOn_7 (by decide) ?_
    have e_d := okB_e c_2
    have e_db := e_d.2
    have hB := R.bdr _ e_db
    have hK := (R.int (f := 2) (k := 0) (m := 79) (q := 101) (by decide) e_db)
    by_cases hb1 : mA M 79 (nN d) = 1
    · refine ax_aload_n (i := 2) dX11_alarmOn_14 rfl rfl rfl ?_
      refine ax_getR dX11_alarmOn_15 fl_X11_533 rfl rfl rfl (hB.2.1.trans (if_pos hb1)) ?_
      exact ax_aret (r := some _) dX11_alarmOn_18 rfl (Or.inl ⟨_, rfl⟩) (h1 ⟨c_2, hb1⟩)
    · refine ax_aload_n (i := 2) dX11_alarmOn_14 rfl rfl rfl ?_
      refine ax_getQ dX11_alarmOn_15 fl_X11_533 rfl rfl rfl (hB.2.1.trans (if_neg hb1)) ?_
      exact ax_aret (r := none) dX11_alarmOn_18 rfl (Or.inl ⟨_, rfl⟩) (h0 (fun z => hb1 z.2))
  · refine ax_astore_n (i := 2) (lv' := [(2, _), (0, _), (1, _)]) dX11_alarmOn_5 rfl (by decide) rfl rfl ?_
    refine ax_aload_n (i := 2) dX11_alarmOn_6 rfl rfl rfl ?_
    refine ax_ifnonnull_f (k0 := 14) dX11_alarmOn_7 (by decide) ?_
    refine ax_null dX11_alarmOn_10 ?_
    refine ax_goto (tgt := 18) dX11_alarmOn_11 (by decide) ?_
    refine ax_aret (r := none) dX11_alarmOn_18 rfl (Or.inl ⟨_, rfl⟩) ?_
    exact h0 (fun z => c_2 z.1)
theorem den_1 {M : aM} {d : Int32} (h : mDenied M d = 0) (hb : ∀ j, j < 8 → 0 ≤ mA M 79 j) : okBoard d ∧ mA M 79 (nN d) = 1 := den_ok hb (by rw [h]; decide)
theorem den_0 {M : aM} {d : Int32} (h : okBoard d ∧ mA M 79 (nN d) = 1) : mDenied M d = 0 := by
  unfold mDenied
  rw [if_neg (fun z => z h.1), if_neg (by rw [h.2]; decide), if_neg (by rw [h.2]; decide)]
theorem den_n {M : aM} {d : Int32} (h : ¬ mDenied M d = 0) : mDenied M d < 0 := by
  unfold mDenied at h ⊢
  by_cases c1 : ¬ okBoard d
  · rw [if_pos c1]; decide
  · rw [if_neg c1] at h ⊢
    by_cases c2 : mA M 79 (nN d) = 0
    · rw [if_pos c2]; decide
    · rw [if_neg c2] at h ⊢
      by_cases c3 : 1 < mA M 79 (nN d)
      · rw [if_pos c3]; decide
      · rw [if_neg c3] at h; exact absurd rfl h
theorem cR.bd0 {τ : Nat → Nat → Nat} {S : awS} {M : aM} (R : cR τ S M) : ∀ j, j < 8 → 0 ≤ mA M 79 j := fun j hj => (R.bdr j hj).1.1

set_option maxHeartbeats 400000 in
set_option maxRecDepth 100000 in
theorem c_weight {E : awE} {S : awS} {M : aM} {τ : Nat → Nat → Nat} {Q : Option Value → awS → Nat → Nat → Prop} (R : cR τ S M) {d : Int32} (h : Q (some (.int (mWeight M d).2)) S 0 0) : awT true E m_X11_weight [.ref (nm 12 0), .int d] S Q := by
  refine awT.of (by decide) (by decide) (Nat.le_of_ble_eq_true rfl) ?_
  refine ax_aload_n (i := 0) dX11_weight_0 rfl rfl rfl ?_
  refine ax_iload_n (i := 1) dX11_weight_1 rfl rfl ?_
  refine ax_invV (c := 12) (n := 1) (As := [_]) dX11_weight_2 cb_X11_refusalOfAlarm cv_X11_522.1 cv_X11_522.2.1 cv_X11_522.2.2 rfl (by decide) rfl ⟨Nat.le_of_ble_eq_true rfl, Nat.le_of_ble_eq_true rfl⟩ (Nat.le_of_ble_eq_true rfl) rfl (c_refusal R ?_)
  refine ax_istore_n (i := 2) (lv' := [(2, _), (0, _), (1, _)]) dX11_weight_5 rfl (by decide) rfl ?_
  refine ax_aload_n (i := 0) dX11_weight_6 rfl rfl rfl ?_
  refine ax_iload_n (i := 1) dX11_weight_7 rfl rfl ?_
  refine ax_invV (c := 12) (n := 1) (As := [_]) dX11_weight_8 cb_X11_alarmOn cv_X11_525.1 cv_X11_525.2.1 cv_X11_525.2.2 rfl (by decide) rfl ⟨Nat.le_of_ble_eq_true rfl, Nat.le_of_ble_eq_true rfl⟩ (Nat.le_of_ble_eq_true rfl) rfl (c_alarmOn R (fun c_8 => ?_) (fun c_8 => ?_))
  · refine ax_astore_n (i := 3) (lv' := [(3, _), (2, _), (0, _), (1, _)]) dX11_weight_11 rfl (by decide) rfl rfl ?_
    refine ax_iload_n (i := 2) dX11_weight_12 rfl rfl ?_
    refine ax_if_ne (tgt := 20) dX11_weight_13 (by decide) (fun c_13 => ?_) (fun c_13 => ?_)
    · refine ax_iload_n (i := 2) dX11_weight_20 rfl rfl ?_
      refine ax_iret dX11_weight_21 rfl rfl ?_
      exact fin1 h ((congrArg Prod.snd (if_pos (den_n c_13))))
    · refine ax_aload_n (i := 3) dX11_weight_16 rfl rfl rfl ?_
      refine ax_ifnonnull_t (tgt := 22) dX11_weight_17 (by decide) ?_
      have e_db := (okB_e c_8.1).2
      have ha := (R.bdr _ e_db).2.2.1 c_8.2
      have href := (R.ref.1 _ ha).1
      have hr := R.aRu ha
      have hkn := (R.mI.A (k := 7) (n := 16) (b := 7) (by decide) (j := mE M 31 (mE M 81 (nN d))) (by have := R.nR; omega))
      have kpos : ¬ sI S 6 (mE M 31 (mE M 81 (nN d))) 1 = 0 → 0 < mA M 7 (mE M 31 (mE M 81 (nN d))) := fun z => by
        rw [hkn.1]
        exact nI_lt (a := 0) (Nat.pos_of_ne_zero (fun w => z (((R.int (f := 6) (k := 1) (m := 7) (q := 6) (by decide) hr)).trans (hkn.1.trans (by rw [w]; rfl))))) (by omega)
      refine ax_aload_n (i := 3) dX11_weight_22 rfl rfl rfl ?_
      refine ax_getR dX11_weight_23 fl_X11_289 rfl rfl rfl href ?_
      refine ax_getI dX11_weight_26 fl_X11_199 rfl rfl rfl ?_
      refine ax_istore (lv' := [(4, _), (3, _), (2, _), (0, _), (1, _)]) dX11_weight_29 (by decide) rfl ?_
      refine ax_bipush (v := 10) dX11_weight_31 (by decide) ?_
      refine ax_aload_n (i := 3) dX11_weight_33 rfl rfl rfl ?_
      refine ax_getR dX11_weight_34 fl_X11_289 rfl rfl rfl href ?_
      refine ax_getI dX11_weight_37 fl_X11_396 rfl rfl rfl ?_
      refine ax_imul dX11_weight_40 ?_
      refine ax_iload dX11_weight_41 rfl ?_
      refine ax_iadd dX11_weight_43 ?_
      refine ax_istore (lv' := [(5, _), (4, _), (3, _), (2, _), (0, _), (1, _)]) dX11_weight_44 (by decide) rfl ?_
      refine ax_iload dX11_weight_46 rfl ?_
      refine ax_if_eq (tgt := 54) dX11_weight_48 (by decide) (fun c_48 => ?_) (fun c_48 => ?_)
      · refine ax_iload dX11_weight_54 rfl ?_
        refine ax_iconst (v := 3) dX11_weight_56 (by decide) ?_
        refine ax_icmp_eq (tgt := 66) dX11_weight_57 (by decide) (fun c_57 => ?_) (fun c_57 => ?_)
        · refine ax_iincW (v := _ + 1000) (lv' := [(5, _), (4, _), (3, _), (2, _), (0, _), (1, _)]) dX11_weight_66 rfl rfl (by decide) rfl ?_
          refine ax_iload dX11_weight_72 rfl ?_
          refine ax_iret dX11_weight_74 rfl rfl ?_
          exact fin1 h ((congrArg Prod.snd (mWeight_e (fun z => by rw [den_0 c_8] at z; exact absurd z (by decide)) (if_neg (fun z => absurd ((R.int (f := 6) (k := 1) (m := 7) (q := 6) (by decide) hr).symm.trans c_48) (fun w => by rw [w] at z; exact absurd z (by decide)))) (if_pos (Or.inl ((R.int (f := 6) (k := 1) (m := 7) (q := 6) (by decide) hr).symm.trans c_57))))).trans (by rw [(R.int (f := 6) (k := 1) (m := 7) (q := 6) (by decide) hr), (R.int (f := 6) (k := 6) (m := 13) (q := 6) (by decide) hr)]; rw [Int32.add_zero]))
        · refine ax_iload dX11_weight_60 rfl ?_
          refine ax_iconst (v := 5) dX11_weight_62 (by decide) ?_
          refine ax_icmp_ne (tgt := 72) dX11_weight_63 (by decide) (fun c_63 => ?_) (fun c_63 => ?_)
          · refine ax_iload dX11_weight_72 rfl ?_
            refine ax_iret dX11_weight_74 rfl rfl ?_
            exact fin1 h ((congrArg Prod.snd (mWeight_e (fun z => by rw [den_0 c_8] at z; exact absurd z (by decide)) (if_neg (fun z => absurd ((R.int (f := 6) (k := 1) (m := 7) (q := 6) (by decide) hr).symm.trans c_48) (fun w => by rw [w] at z; exact absurd z (by decide)))) (if_neg (fun z => z.elim (fun w => c_57 ((R.int (f := 6) (k := 1) (m := 7) (q := 6) (by decide) hr).trans w)) (fun w => c_63 ((R.int (f := 6) (k := 1) (m := 7) (q := 6) (by decide) hr).trans w)))))).trans (by rw [(R.int (f := 6) (k := 1) (m := 7) (q := 6) (by decide) hr), (R.int (f := 6) (k := 6) (m := 13) (q := 6) (by decide) hr)]; rw [Int32.add_zero, Int32.add_zero]))
          · refine ax_iincW (v := _ + 1000) (lv' := [(5, _), (4, _), (3, _), (2, _), (0, _), (1, _)]) dX11_weight_66 rfl rfl (by decide) rfl ?_
            refine ax_iload dX11_weight_72 rfl ?_
            refine ax_iret dX11_weight_74 rfl rfl ?_
            exact fin1 h ((congrArg Prod.snd (mWeight_e (fun z => by rw [den_0 c_8] at z; exact absurd z (by decide)) (if_neg (fun z => absurd ((R.int (f := 6) (k := 1) (m := 7) (q := 6) (by decide) hr).symm.trans c_48) (fun w => by rw [w] at z; exact absurd z (by decide)))) (if_pos (Or.inr ((R.int (f := 6) (k := 1) (m := 7) (q := 6) (by decide) hr).symm.trans (Classical.not_not.mp c_63)))))).trans (by rw [(R.int (f := 6) (k := 1) (m := 7) (q := 6) (by decide) hr), (R.int (f := 6) (k := 6) (m := 13) (q := 6) (by decide) hr)]; rw [Int32.add_zero]))
      · refine ax_iinc (v := _ + 100) (lv' := [(5, _), (4, _), (3, _), (2, _), (0, _), (1, _)]) dX11_weight_51 rfl rfl (by decide) rfl ?_
        refine ax_iload dX11_weight_54 rfl ?_
        refine ax_iconst (v := 3) dX11_weight_56 (by decide) ?_
        refine ax_icmp_eq (tgt := 66) dX11_weight_57 (by decide) (fun c_57 => ?_) (fun c_57 => ?_)
        · refine ax_iincW (v := _ + 1000) (lv' := [(5, _), (4, _), (3, _), (2, _), (0, _), (1, _)]) dX11_weight_66 rfl rfl (by decide) rfl ?_
          refine ax_iload dX11_weight_72 rfl ?_
          refine ax_iret dX11_weight_74 rfl rfl ?_
          exact fin1 h ((congrArg Prod.snd (mWeight_e (fun z => by rw [den_0 c_8] at z; exact absurd z (by decide)) (if_pos (kpos c_48)) (if_pos (Or.inl ((R.int (f := 6) (k := 1) (m := 7) (q := 6) (by decide) hr).symm.trans c_57))))).trans (by rw [(R.int (f := 6) (k := 1) (m := 7) (q := 6) (by decide) hr), (R.int (f := 6) (k := 6) (m := 13) (q := 6) (by decide) hr)]))
        · refine ax_iload dX11_weight_60 rfl ?_
          refine ax_iconst (v := 5) dX11_weight_62 (by decide) ?_
          refine ax_icmp_ne (tgt := 72) dX11_weight_63 (by decide) (fun c_63 => ?_) (fun c_63 => ?_)
          · refine ax_iload dX11_weight_72 rfl ?_
            refine ax_iret dX11_weight_74 rfl rfl ?_
            exact fin1 h ((congrArg Prod.snd (mWeight_e (fun z => by rw [den_0 c_8] at z; exact absurd z (by decide)) (if_pos (kpos c_48)) (if_neg (fun z => z.elim (fun w => c_57 ((R.int (f := 6) (k := 1) (m := 7) (q := 6) (by decide) hr).trans w)) (fun w => c_63 ((R.int (f := 6) (k := 1) (m := 7) (q := 6) (by decide) hr).trans w)))))).trans (by rw [(R.int (f := 6) (k := 1) (m := 7) (q := 6) (by decide) hr), (R.int (f := 6) (k := 6) (m := 13) (q := 6) (by decide) hr)]; rw [Int32.add_zero]))
          · refine ax_iincW (v := _ + 1000) (lv' := [(5, _), (4, _), (3, _), (2, _), (0, _), (1, _)]) dX11_weight_66 rfl rfl (by decide) rfl ?_
            refine ax_iload dX11_weight_72 rfl ?_
            refine ax_iret dX11_weight_74 rfl rfl ?_
            exact fin1 h ((congrArg Prod.snd (mWeight_e (fun z => by rw [den_0 c_8] at z; exact absurd z (by decide)) (if_pos (kpos c_48)) (if_pos (Or.inr ((R.int (f := 6) (k := 1) (m := 7) (q := 6) (by decide) hr).symm.trans (Classical.not_not.mp c_63)))))).trans (by rw [(R.int (f := 6) (k := 1) (m := 7) (q := 6) (by decide) hr), (R.int (f := 6) (k := 6) (m := 13) (q := 6) (by decide) hr)]))
  · refine ax_astore_n (i := 3) (lv' := [(3, _), (2, _), (0, _), (1, _)]) dX11_weight_11 rfl (by decide) rfl rfl ?_
    refine ax_iload_n (i := 2) dX11_weight_12 rfl rfl ?_
    refine ax_if_ne (tgt := 20) dX11_weight_13 (by decide) (fun c_13 => ?_) (fun c_13 => ?_)
    · refine ax_iload_n (i := 2) dX11_weight_20 rfl rfl ?_
      refine ax_iret dX11_weight_21 rfl rfl ?_
      exact fin1 h ((congrArg Prod.snd (if_pos (den_n c_13))))
    · refine ax_aload_n (i := 3) dX11_weight_16 rfl rfl rfl ?_
      refine ax_ifnonnull_f (k0 := 22) dX11_weight_17 (by decide) ?_
      refine ax_iload_n (i := 2) dX11_weight_20 rfl rfl ?_
      refine ax_iret dX11_weight_21 rfl rfl ?_
      exact absurd (den_1 (Classical.not_not.mp c_13) R.bd0) c_8
