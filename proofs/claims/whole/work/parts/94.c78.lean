-- methods that throw: throwFailure, element; toss
def m_Tthr : awM := (⟨"AlarmTower", "throwFailure", "(LAlarmTower$Alarm;)V"⟩, prog_1_method_55_code, 1, none, 6, 100, false)
def m_Telt : awM := (⟨"AlarmTower", "element", "(II)J"⟩, prog_1_method_51_code, 4, (some .long), 6, 130, false)
def m_Ttoss : awM := (⟨"AlarmTower", "toss", "(I)I"⟩, prog_1_method_54_code, 5, (some .int), 7, 130, false)
theorem cb_Tthr : awCallB m_Tthr 1 := cb_X11_throwFailure
theorem cs_Tthr : awCS "AlarmTower" 528 m_Tthr := cs_X11_528
theorem cb_Telt : awCallB m_Telt 2 := cb_X11_element
theorem cv_Telt : awCV "AlarmTowerLaw" 7 m_Telt := cv_L_7

set_option maxHeartbeats 400000 in
set_option maxRecDepth 100000 in
theorem c_thr {E : awE} {S : awS} {M : aM} {τ : Nat → Nat → Nat} {Q : Option Value → awS → Nat → Nat → Prop} (R : cR τ S M) {i : Nat} (hi : i < mN M 30) (h1 : ¬ mA M 7 (mE M 31 i) = 0 → Q (some (.double 2)) S 1 6) (h0 : mA M 7 (mE M 31 i) = 0 → Q none S 0 0) : awTv true E m_Tthr (awC0 m_Tthr) [.ref (nm 1 i)] S Q := by
  refine awTv.of (by decide) (by decide) (Nat.le_of_ble_eq_true rfl) (by decide +kernel) ?_
  refine av_aload_n (i := 0) dX11_throwFailure_0 rfl rfl rfl ?_
  refine av_getR dX11_throwFailure_1 fl_X11_289 rfl rfl rfl (R.ref.1 i hi).1 ?_
  have hr := R.aRu hi
  refine av_getI dX11_throwFailure_4 fl_X11_199 rfl rfl rfl ?_
  refine av_if_eq (tgt := 21) dX11_throwFailure_7 (by decide) (fun c_7 => ?_) (fun c_7 => ?_)
  · refine av_vret dX11_throwFailure_21 rfl ?_
    exact h0 ((R.int (f := 6) (k := 1) (m := 7) (q := 6) (by decide) hr).symm.trans c_7)
  · exact av_throw (k := 2) (text := "the alarm's failure") rfl (by decide) (by decide +kernel) twIS_k twIS_i twIS_w twIS_r twIS_g twIS_c (by decide) (by decide +kernel) (by decide) (by decide) dX11_throwFailure_10 dX11_throwFailure_13 dX11_throwFailure_14 dX11_throwFailure_17 dX11_throwFailure_20 (h1 (fun z => c_7 ((R.int (f := 6) (k := 1) (m := 7) (q := 6) (by decide) hr).trans z)))
theorem le_3 {x : Int32} (h : 2 < x) : 3 ≤ x := by
  rw [Int32.lt_iff_toInt_lt] at h
  rw [Int32.le_iff_toInt_le]
  have e : (3 : Int32).toInt = 3 := by decide
  have e2 : (2 : Int32).toInt = 2 := by decide
  omega
theorem lt_2 {x : Int32} (h : 3 ≤ x) : 2 < x := by
  rw [Int32.le_iff_toInt_le] at h
  rw [Int32.lt_iff_toInt_lt]
  have e : (3 : Int32).toInt = 3 := by decide
  have e2 : (2 : Int32).toInt = 2 := by decide
  omega
theorem le_e {i : Int32} {z : Nat} (hz : z ≤ 60) (h0 : 0 ≤ i) (h : i ≤ nI z - 1) : i = nI (nN i) ∧ nN i < z := by
  have e1 : (nI z - 1).toInt = (z : Int) - 1 := pk_sub_toInt (b := 1) (by omega) (by decide)
  refine rg_of h0 ?_ (by omega)
  rw [Int32.le_iff_toInt_le, e1] at h
  rw [Int32.lt_iff_toInt_lt, nI_toInt (by omega)]
  omega

set_option maxHeartbeats 400000 in
set_option maxRecDepth 100000 in
theorem c_elt {E : awE} {S : awS} {M : aM} {τ : Nat → Nat → Nat} {Q : Option Value → awS → Nat → Nat → Prop} (R : cR τ S M) {d i : Int32} (hg0 : elGood M d i → Q (some (.long (mElement M d i).2)) S 0 0) (h1 : ¬ okBoard d → Q (some (.double 1)) S 1 6) (h2 : okBoard d → ¬ elGood M d i → Q (some (.double 2)) S 1 6) : awTv true E m_Telt (awC0 m_Telt) [.ref (nm 12 0), .int d, .int i] S Q := by
  refine awTv.of (by decide) (by decide) (Nat.le_of_ble_eq_true rfl) (by decide +kernel) ?_
  refine av_aload_n (i := 0) dX11_element_0 rfl rfl rfl ?_
  refine av_iload_n (i := 1) dX11_element_1 rfl rfl ?_
  refine av_invV (c := 12) (n := 1) (As := [_]) dX11_element_2 cb_X11_boardAt cv_X11_464.1 cv_X11_464.2.1 cv_X11_464.2.2 rfl (by decide) rfl ⟨Nat.le_of_ble_eq_true rfl, Nat.le_of_ble_eq_true rfl⟩ (Nat.le_of_ble_eq_true rfl) rfl (c_boardAt R (fun c_2 => ?_) (fun c_2 => ?_))
  · refine av_astore_n (i := 3) (lv' := [(3, _), (0, _), (1, _), (2, _)]) dX11_element_5 rfl (by decide) rfl rfl ?_
    refine av_aload_n (i := 3) dX11_element_6 rfl rfl rfl ?_
    refine av_ifnonnull_t (tgt := 21) dX11_element_7 (by decide) ?_
    have e_d := okB_e c_2
    have hBd := R.bdr _ e_d.2
    have hzd := R.mI.A (k := 80) (n := 8) (b := 61) (by decide) e_d.2
    refine av_aload_n (i := 3) dX11_element_21 rfl rfl rfl ?_
    refine av_invV (c := 2) (n := 0) (As := []) dX11_element_22 cb_X1_isRow cv_X11_498.1 cv_X11_498.2.1 cv_X11_498.2.2 rfl (by decide) rfl ⟨Nat.le_of_ble_eq_true rfl, Nat.le_of_ble_eq_true rfl⟩ (Nat.le_of_ble_eq_true rfl) rfl (c_isRow (fun c_22 => ?_) (fun c_22 => ?_))
    · refine av_if_eq (tgt := 42) dX11_element_25 (by decide) (fun z => absurd z (by decide)) (fun _ => ?_)
      have kd3 : 3 ≤ mA M 79 (nN d) := by rw [← (R.int (f := 2) (k := 0) (m := 79) (q := 101) (by decide) e_d.2)]; exact Int32.not_lt.mp ((row_k (by rw [(R.int (f := 2) (k := 0) (m := 79) (q := 101) (by decide) e_d.2)]; exact hBd.1)).mp c_22)
      have sd : sI S 2 (nN d) 2 = mA M 80 (nN d) := (hBd.2.2.2 kd3).1
      refine av_iload_n (i := 2) dX11_element_28 rfl rfl ?_
      refine av_iconst (v := 0) dX11_element_29 (by decide) ?_
      refine av_aload_n (i := 3) dX11_element_30 rfl rfl rfl ?_
      refine av_getI dX11_element_31 fl_X11_501 rfl rfl rfl ?_
      refine av_iconst (v := 1) dX11_element_34 (by decide) ?_
      refine av_isub dX11_element_35 ?_
      refine av_invS (n := 3) (As := [_, _, _]) dX11_element_36 cb_X11_isWithin cs_X11_71.1 cs_X11_71.2 rfl ⟨Nat.le_of_ble_eq_true rfl, Nat.le_of_ble_eq_true rfl⟩ (Nat.le_of_ble_eq_true rfl) rfl (c_isWithin (fun c_36 => ?_) (fun c_36 => ?_))
      · refine av_if_ne (tgt := 53) dX11_element_39 (by decide) (fun _ => ?_) (fun z => absurd (by decide) z)
        have hc36 : 0 ≤ i ∧ i ≤ mA M 80 (nN d) - 1 := by rw [← sd]; exact c_36
        have q1 := le_e (z := mE M 80 (nN d)) (by have := hzd.2; omega) hc36.1 (by rw [← hzd.1]; exact hc36.2)
        have q2 : nN i < 60 := by have := hzd.2; omega
        rw [q1.1]
        refine av_aload_n (i := 3) dX11_element_53 rfl rfl rfl ?_
        refine av_iload_n (i := 2) dX11_element_54 rfl rfl ?_
        refine av_invV (c := 2) (n := 1) (As := [_]) dX11_element_55 cb_X1_get cv_X11_507.1 cv_X11_507.2.1 cv_X11_507.2.2 rfl (by decide) rfl ⟨Nat.le_of_ble_eq_true rfl, Nat.le_of_ble_eq_true rfl⟩ (Nat.le_of_ble_eq_true rfl) rfl (c_bget (R.brd _ e_d.2) q2 ?_)
        refine av_lret dX11_element_58 rfl ?_
        have hg : elGood M d i := ⟨c_2, lt_2 kd3, hc36⟩
        have e := ((hBd.2.2.2 kd3).2 (nN i) q1.2)
        rw [e]
        have e2 : mL M 82 (60 * nN d + nN i) = (mElement M d i).2 := (if_pos hg).symm
        rw [e2]
        exact hg0 hg
      · refine av_if_ne (tgt := 53) dX11_element_39 (by decide) (fun z => absurd z (by decide)) (fun _ => ?_)
        exact av_throw (k := 2) (text := "no such element") rfl (by decide) (by decide +kernel) twIS_k twIS_i twIS_w twIS_r twIS_g twIS_c (by decide) (by decide +kernel) (by decide) (by decide) dX11_element_42 dX11_element_45 dX11_element_46 dX11_element_49 dX11_element_52 (h2 c_2 (fun z => c_36 (by rw [sd]; exact z.2.2)))
    · refine av_if_eq (tgt := 42) dX11_element_25 (by decide) (fun _ => ?_) (fun z => absurd (by decide) z)
      exact av_throw (k := 2) (text := "no such element") rfl (by decide) (by decide +kernel) twIS_k twIS_i twIS_w twIS_r twIS_g twIS_c (by decide) (by decide +kernel) (by decide) (by decide) dX11_element_42 dX11_element_45 dX11_element_46 dX11_element_49 dX11_element_52 (h2 c_2 (fun z => c_22 ((row_k (by rw [(R.int (f := 2) (k := 0) (m := 79) (q := 101) (by decide) e_d.2)]; exact hBd.1)).mpr (by rw [(R.int (f := 2) (k := 0) (m := 79) (q := 101) (by decide) e_d.2)]; exact fun w => Int32.lt_irrefl (Int32.lt_of_lt_of_le w (le_3 z.2.1))))))
  · refine av_astore_n (i := 3) (lv' := [(3, _), (0, _), (1, _), (2, _)]) dX11_element_5 rfl (by decide) rfl rfl ?_
    refine av_aload_n (i := 3) dX11_element_6 rfl rfl rfl ?_
    refine av_ifnonnull_f (k0 := 21) dX11_element_7 (by decide) ?_
    exact av_throw (k := 1) (text := "no such board") rfl (by decide) (by decide +kernel) twIA_k twIA_i twIA_w twIA_r twIA_g twIA_c (by decide) (by decide +kernel) (by decide) (by decide) dX11_element_10 dX11_element_13 dX11_element_14 dX11_element_17 dX11_element_20 (h1 c_2)
theorem tossC : awCatch m_Ttoss 23 "java/lang/IllegalStateException" 29 := ⟨[], ⟨22, 28, 29, 502⟩, [], "java/lang/IllegalStateException", by decide +kernel, (fun z hz => by cases hz), by decide, by decide, twIS_k, by decide, rfl⟩

set_option maxHeartbeats 400000 in
set_option maxRecDepth 100000 in
theorem c_toss {E : awE} {S : awS} {M : aM} {Q : Option Value → awS → Nat → Nat → Prop} (R0 : cRR S M) {d : Int32} (h : cPost S (mToss M d) Q) : awTv true E m_Ttoss (awCH m_Ttoss) [.ref (nm 12 0), .int d] S Q := by
  refine awTv.ofH (by decide) (by decide) (Nat.le_of_ble_eq_true rfl) ?_
  obtain ⟨R, hr0⟩ := R0
  refine av_aload_n (i := 0) dX11_toss_0 rfl rfl rfl ?_
  refine av_iload_n (i := 1) dX11_toss_1 rfl rfl ?_
  refine av_invV (c := 12) (n := 1) (As := [_]) dX11_toss_2 cb_X11_refusalOfAlarm cv_X11_522.1 cv_X11_522.2.1 cv_X11_522.2.2 rfl (by decide) rfl ⟨Nat.le_of_ble_eq_true rfl, Nat.le_of_ble_eq_true rfl⟩ (Nat.le_of_ble_eq_true rfl) rfl (c_refusal R ?_)
  refine av_istore_n (i := 2) (lv' := [(2, _), (0, _), (1, _)]) dX11_toss_5 rfl (by decide) rfl ?_
  refine av_aload_n (i := 0) dX11_toss_6 rfl rfl rfl ?_
  refine av_iload_n (i := 1) dX11_toss_7 rfl rfl ?_
  refine av_invV (c := 12) (n := 1) (As := [_]) dX11_toss_8 cb_X11_alarmOn cv_X11_525.1 cv_X11_525.2.1 cv_X11_525.2.2 rfl (by decide) rfl ⟨Nat.le_of_ble_eq_true rfl, Nat.le_of_ble_eq_true rfl⟩ (Nat.le_of_ble_eq_true rfl) rfl (c_alarmOn R (fun c_8 => ?_) (fun c_8 => ?_))
  · refine av_astore_n (i := 3) (lv' := [(3, _), (2, _), (0, _), (1, _)]) dX11_toss_11 rfl (by decide) rfl rfl ?_
    refine av_iload_n (i := 2) dX11_toss_12 rfl rfl ?_
    refine av_if_ne (tgt := 20) dX11_toss_13 (by decide) (fun c_13 => ?_) (fun c_13 => ?_)
    · refine av_iload_n (i := 2) dX11_toss_20 rfl rfl ?_
      refine av_iret dX11_toss_21 rfl rfl ?_
      exact cfin h (if_pos (den_n c_13)) (cRR.t0 ⟨R, hr0⟩) cFm.rf (by decide) (by decide)
    · refine av_aload_n (i := 3) dX11_toss_16 rfl rfl rfl ?_
      refine av_ifnonnull_t (tgt := 22) dX11_toss_17 (by decide) ?_
      have e_db := (okB_e c_8.1).2
      have ha := (R.bdr _ e_db).2.2.1 c_8.2
      have href := (R.ref.1 _ ha).1
      have hr := R.aRu ha
      have hd0 : ¬ mDenied M d < 0 := fun z => by rw [den_0 c_8] at z; exact absurd z (by decide)
      refine av_aload_n (i := 3) dX11_toss_22 rfl rfl rfl ?_
      refine av_thS (Mc := m_Tthr) (n := 1) (As := [_]) dX11_toss_23 cb_Tthr cs_Tthr.1 cs_Tthr.2 rfl ⟨Nat.le_of_ble_eq_true rfl, Nat.le_of_ble_eq_true rfl⟩ (Nat.le_of_ble_eq_true rfl) rfl (c_thr R ha (fun kn => ?_) (fun k0 => ?_))
      · refine Or.inr ⟨_, 29, 4, _, rfl, tossC, dX11_toss_29, by decide, rfl, ?_⟩
        refine av_aload_n (i := 3) dX11_toss_31 rfl rfl rfl ?_
        refine av_getR dX11_toss_32 fl_X11_289 rfl rfl rfl href ?_
        refine av_getI dX11_toss_35 fl_X11_101 rfl rfl rfl ?_
        refine av_iret dX11_toss_38 rfl rfl ?_
        exact cfin h ((if_neg hd0).trans (Prod.ext rfl ((if_neg kn).trans ((R.rul _ hr).2.2.2.2.2.2.2.2.1.trans (R.mI.A (k := 31) (n := 300) (b := 16) (by decide) (by have := R.nA; omega)).1.symm).symm))) (cRR.t0 ⟨R, hr0⟩) cFm.rf (by decide) (by decide)
      · refine Or.inl ⟨rfl, ?_⟩
        refine av_bipush (v := -15) dX11_toss_26 (by decide) ?_
        refine av_iret dX11_toss_28 rfl rfl ?_
        exact cfin h ((if_neg hd0).trans (Prod.ext rfl (if_pos k0))) (cRR.t0 ⟨R, hr0⟩) cFm.rf (by decide) (by decide)
  · refine av_astore_n (i := 3) (lv' := [(3, _), (2, _), (0, _), (1, _)]) dX11_toss_11 rfl (by decide) rfl rfl ?_
    refine av_iload_n (i := 2) dX11_toss_12 rfl rfl ?_
    refine av_if_ne (tgt := 20) dX11_toss_13 (by decide) (fun c_13 => ?_) (fun c_13 => ?_)
    · refine av_iload_n (i := 2) dX11_toss_20 rfl rfl ?_
      refine av_iret dX11_toss_21 rfl rfl ?_
      exact cfin h (if_pos (den_n c_13)) (cRR.t0 ⟨R, hr0⟩) cFm.rf (by decide) (by decide)
    · refine av_aload_n (i := 3) dX11_toss_16 rfl rfl rfl ?_
      refine av_ifnonnull_f (k0 := 22) dX11_toss_17 (by decide) ?_
      refine av_iload_n (i := 2) dX11_toss_20 rfl rfl ?_
      refine av_iret dX11_toss_21 rfl rfl ?_
      exact absurd (den_1 (Classical.not_not.mp c_13) R.bd0) c_8
