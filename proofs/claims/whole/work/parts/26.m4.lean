theorem mOdd_few {M : aM} {r s t : Nat} {v : Int64} (h : mCnt M s False 0 (t - 1) (mE M 8 r) < 3) : mOdd M r s t v = 0 := if_pos h
theorem mOdd_val {M : aM} {r s t many : Nat} {v : Int64} (hc : mCnt M s False 0 (t - 1) (mE M 8 r) = many) (h : 3 ≤ many) : mOdd M r s t v = if (if mL M 9 r < 0 then 0 else mL M 9 r) < v - mMid M s t (mE M 8 r) many ∨ (if mL M 9 r < 0 then 0 else mL M 9 r) < -(v - mMid M s t (mE M 8 r) many) then 1 else 0 := by
  subst hc
  exact if_neg (Nat.not_lt.mpr h)
theorem sw_4 {x : Int32} (h0 : 0 ≤ x.toInt) (h : x.toInt ≤ 3) : x = 0 ∨ x = 1 ∨ x = 2 ∨ x = 3 := by
  have : x.toInt = 0 ∨ x.toInt = 1 ∨ x.toInt = 2 ∨ x.toInt = 3 := by omega
  rcases this with e | e | e | e
  · exact Or.inl (Int32.toInt_inj.mp e)
  · exact Or.inr (Or.inl (Int32.toInt_inj.mp e))
  · exact Or.inr (Or.inr (Or.inl (Int32.toInt_inj.mp e)))
  · exact Or.inr (Or.inr (Or.inr (Int32.toInt_inj.mp e)))
theorem n3 {x : Int32} (h : ¬ nI 3 ≤ x) : 3 ≤ x → False := fun z => h z
theorem nI_z {n b : Nat} (hle : n ≤ b) (hb : b ≤ 400) : nI n = 0 ↔ n = 0 := nI_eq (b := 0) (by omega) (by decide)
theorem sub_has {t w : Nat} (ht : t ≤ 400) (hw : w ≤ 20) : (nI t - nI w = nI (t - w) ∧ t - w ≤ 400) ∨ (nI t - nI w ≤ 0 ∧ t - w = 0) := by
  by_cases c : w ≤ t
  · exact Or.inl ⟨pk_sub c, by omega⟩
  · refine Or.inr ⟨?_, by omega⟩
    rw [Int32.le_iff_toInt_le, pk_sub_toInt (by omega) (by omega)]
    show (t : Int) - w ≤ 0
    omega
set_option maxHeartbeats 4000000 in
set_option maxRecDepth 100000 in
theorem t_odd {b : Bool} {E : awE} {S : awS} {M : aM} {Q : Option Value → awS → Nat → Nat → Prop} (hm : mOk S) {r s t : Nat} {v : Int64} (hr : r < 16) (hs : s < 16) (ht : t ≤ 400) (ht0 : 0 < t) (ew : mA M 8 r = nI (mE M 8 r)) (hw : mE M 8 r ≤ 20) (h : Q (some (.int (mOdd M r s t v))) (putM S M) 0 0) : awT b E m_X12_odd [.ref (nm 13 0), .int (nI r), .int (nI s), .int (nI t), .long v] (putM S M) Q := by
  refine awT.of (by decide) (by decide) (Nat.le_of_ble_eq_true rfl) ?_
  refine ax_aload_n (i := 0) dX12_odd_0 rfl rfl rfl ?_
  refine ax_iload_n (i := 2) dX12_odd_1 rfl rfl ?_
  refine ax_iload_n (i := 3) dX12_odd_2 rfl rfl ?_
  refine ax_iconst (v := nI 1) dX12_odd_3 (by decide) ?_
  refine ax_isubN dX12_odd_4 (by omega) ?_
  refine ax_aload_n (i := 0) dX12_odd_5 rfl rfl rfl ?_
  refine ax_mR hm dX12_odd_6 fl_X12_24 rfl (by decide) ?_
  refine ax_iload_n (i := 1) dX12_odd_9 rfl rfl ?_
  refine ax_mIN (N := 16) hm dX12_odd_10 rfl rfl (by decide) (by omega) ?_
  refine ax_top ew ?_
  refine ax_iconst (v := 0) dX12_odd_11 (by decide) ?_
  refine ax_lconst (v := 0) dX12_odd_12 (by decide) ?_
  refine ax_invV (c := 13) (n := 5) (As := [_, _, _, _, _]) dX12_odd_13 cb_X12_countOf cv_X12_309.1 cv_X12_309.2.1 cv_X12_309.2.2 rfl (by decide) rfl ⟨Nat.le_of_ble_eq_true rfl, Nat.le_of_ble_eq_true rfl⟩ (Nat.le_of_ble_eq_true rfl) rfl (t_countOf (ab := False) (x4 := 0) hm hs (by omega) (by omega) (by decide) ?_)
  have hle := mCnt_le M s False 0 (mE M 8 r) (t - 1)
  generalize hcnt : mCnt M s False 0 (t - 1) (mE M 8 r) = many at hle ⊢
  refine ax_istore (lv' := [(6, _), (0, _), (1, _), (2, _), (3, _), (4, _)]) dX12_odd_16 (by decide) rfl ?_
  refine ax_iload dX12_odd_18 rfl ?_
  refine ax_iconst (v := 3) dX12_odd_20 (by decide) ?_
  refine ax_icmp_ge (tgt := 26) dX12_odd_21 (by decide) (fun c_21 => ?_) (fun c_21 => ?_)
  · have hm3 : 3 ≤ many := Nat.le_of_not_lt (fun z => n3 (nI_ge z (by decide) : ¬ nI 3 ≤ nI many) c_21)
    refine ax_lload dX12_odd_26 rfl ?_
    refine ax_aload_n (i := 0) dX12_odd_28 rfl rfl rfl ?_
    refine ax_iload_n (i := 2) dX12_odd_29 rfl rfl ?_
    refine ax_iload_n (i := 3) dX12_odd_30 rfl rfl ?_
    refine ax_aload_n (i := 0) dX12_odd_31 rfl rfl rfl ?_
    refine ax_mR hm dX12_odd_32 fl_X12_24 rfl (by decide) ?_
    refine ax_iload_n (i := 1) dX12_odd_35 rfl rfl ?_
    refine ax_mIN (N := 16) hm dX12_odd_36 rfl rfl (by decide) (by omega) ?_
    refine ax_top ew ?_
    refine ax_iload dX12_odd_37 rfl ?_
    refine ax_invV (c := 13) (n := 4) (As := [_, _, _, _]) dX12_odd_39 cb_X12_middle cv_X12_313.1 cv_X12_313.2.1 cv_X12_313.2.2 rfl (by decide) rfl ⟨Nat.le_of_ble_eq_true rfl, Nat.le_of_ble_eq_true rfl⟩ (Nat.le_of_ble_eq_true rfl) rfl (t_middle hm hs ht ht0 (by omega) ⟨by omega, by omega⟩ ?_)
    refine ax_lsub dX12_odd_42 ?_
    refine ax_lstore (lv' := [(7, _), (6, _), (0, _), (1, _), (2, _), (3, _), (4, _)]) dX12_odd_43 (by decide) rfl ?_
    refine ax_aload_n (i := 0) dX12_odd_45 rfl rfl rfl ?_
    refine ax_mR hm dX12_odd_46 fl_X12_27 rfl (by decide) ?_
    refine ax_iload_n (i := 1) dX12_odd_49 rfl rfl ?_
    refine ax_mJN (N := 16) hm dX12_odd_50 rfl rfl (by decide) (by omega) ?_
    refine ax_lconst (v := 0) dX12_odd_51 (by decide) ?_
    refine ax_lcmp dX12_odd_52 ?_
    refine ax_if_ge (tgt := 60) dX12_odd_53 (by decide) (fun c_53 => ?_) (fun c_53 => ?_)
    · refine ax_aload_n (i := 0) dX12_odd_60 rfl rfl rfl ?_
      refine ax_mR hm dX12_odd_61 fl_X12_27 rfl (by decide) ?_
      refine ax_iload_n (i := 1) dX12_odd_64 rfl rfl ?_
      refine ax_mJN (N := 16) hm dX12_odd_65 rfl rfl (by decide) (by omega) ?_
      refine ax_lstore (lv' := [(9, _), (7, _), (6, _), (0, _), (1, _), (2, _), (3, _), (4, _)]) dX12_odd_66 (by decide) rfl ?_
      refine ax_lload dX12_odd_68 rfl ?_
      refine ax_lload dX12_odd_70 rfl ?_
      refine ax_lcmp dX12_odd_72 ?_
      refine ax_if_gt (tgt := 85) dX12_odd_73 (by decide) (fun c_73 => ?_) (fun c_73 => ?_)
      · refine ax_iconst (v := 1) dX12_odd_85 (by decide) ?_
        refine ax_goto (tgt := 90) dX12_odd_86 (by decide) ?_
        refine ax_iret dX12_odd_90 rfl rfl ?_
        have hmost : (if mL M 9 r < 0 then (0 : Int64) else mL M 9 r) = mL M 9 r := if_neg (fun z => absurd ((lg_cmp_lt _ _).mpr z) (Int32.not_lt.mpr c_53))
        exact fin1 h ((mOdd_val hcnt hm3).trans (if_pos (Or.inl (by rw [hmost]; exact (lg_cmp_gt _ _).mp c_73))))
      · refine ax_lload dX12_odd_76 rfl ?_
        refine ax_lneg dX12_odd_78 ?_
        refine ax_lload dX12_odd_79 rfl ?_
        refine ax_lcmp dX12_odd_81 ?_
        refine ax_if_le (tgt := 89) dX12_odd_82 (by decide) (fun c_82 => ?_) (fun c_82 => ?_)
        · refine ax_iconst (v := 0) dX12_odd_89 (by decide) ?_
          refine ax_iret dX12_odd_90 rfl rfl ?_
          have hmost : (if mL M 9 r < 0 then (0 : Int64) else mL M 9 r) = mL M 9 r := if_neg (fun z => absurd ((lg_cmp_lt _ _).mpr z) (Int32.not_lt.mpr c_53))
          exact fin1 h ((mOdd_val hcnt hm3).trans (if_neg (fun z => by rw [hmost] at z; exact z.elim (fun q => c_73 ((lg_cmp_gt _ _).mpr q)) (fun q => absurd ((lg_cmp_gt _ _).mpr q) (Int32.not_lt.mpr c_82)))))
        · refine ax_iconst (v := 1) dX12_odd_85 (by decide) ?_
          refine ax_goto (tgt := 90) dX12_odd_86 (by decide) ?_
          refine ax_iret dX12_odd_90 rfl rfl ?_
          have hmost : (if mL M 9 r < 0 then (0 : Int64) else mL M 9 r) = mL M 9 r := if_neg (fun z => absurd ((lg_cmp_lt _ _).mpr z) (Int32.not_lt.mpr c_53))
          exact fin1 h ((mOdd_val hcnt hm3).trans (if_pos (Or.inr (by rw [hmost]; exact (lg_cmp_gt _ _).mp (Int32.not_le.mp c_82)))))
    · refine ax_lconst (v := 0) dX12_odd_56 (by decide) ?_
      refine ax_goto (tgt := 66) dX12_odd_57 (by decide) ?_
      refine ax_lstore (lv' := [(9, _), (7, _), (6, _), (0, _), (1, _), (2, _), (3, _), (4, _)]) dX12_odd_66 (by decide) rfl ?_
      refine ax_lload dX12_odd_68 rfl ?_
      refine ax_lload dX12_odd_70 rfl ?_
      refine ax_lcmp dX12_odd_72 ?_
      refine ax_if_gt (tgt := 85) dX12_odd_73 (by decide) (fun c_73 => ?_) (fun c_73 => ?_)
      · refine ax_iconst (v := 1) dX12_odd_85 (by decide) ?_
        refine ax_goto (tgt := 90) dX12_odd_86 (by decide) ?_
        refine ax_iret dX12_odd_90 rfl rfl ?_
        have hmost : (if mL M 9 r < 0 then (0 : Int64) else mL M 9 r) = 0 := if_pos ((lg_cmp_lt _ _).mp (Int32.not_le.mp c_53))
        exact fin1 h ((mOdd_val hcnt hm3).trans (if_pos (Or.inl (by rw [hmost]; exact (lg_cmp_gt _ _).mp c_73))))
      · refine ax_lload dX12_odd_76 rfl ?_
        refine ax_lneg dX12_odd_78 ?_
        refine ax_lload dX12_odd_79 rfl ?_
        refine ax_lcmp dX12_odd_81 ?_
        refine ax_if_le (tgt := 89) dX12_odd_82 (by decide) (fun c_82 => ?_) (fun c_82 => ?_)
        · refine ax_iconst (v := 0) dX12_odd_89 (by decide) ?_
          refine ax_iret dX12_odd_90 rfl rfl ?_
          have hmost : (if mL M 9 r < 0 then (0 : Int64) else mL M 9 r) = 0 := if_pos ((lg_cmp_lt _ _).mp (Int32.not_le.mp c_53))
          exact fin1 h ((mOdd_val hcnt hm3).trans (if_neg (fun z => by rw [hmost] at z; exact z.elim (fun q => c_73 ((lg_cmp_gt _ _).mpr q)) (fun q => absurd ((lg_cmp_gt _ _).mpr q) (Int32.not_lt.mpr c_82)))))
        · refine ax_iconst (v := 1) dX12_odd_85 (by decide) ?_
          refine ax_goto (tgt := 90) dX12_odd_86 (by decide) ?_
          refine ax_iret dX12_odd_90 rfl rfl ?_
          have hmost : (if mL M 9 r < 0 then (0 : Int64) else mL M 9 r) = 0 := if_pos ((lg_cmp_lt _ _).mp (Int32.not_le.mp c_53))
          exact fin1 h ((mOdd_val hcnt hm3).trans (if_pos (Or.inr (by rw [hmost]; exact (lg_cmp_gt _ _).mp (Int32.not_le.mp c_82)))))
  · refine ax_iconst (v := 0) dX12_odd_24 (by decide) ?_
    refine ax_iret dX12_odd_25 rfl rfl ?_
    exact fin1 h (mOdd_few (by rw [hcnt]; exact Nat.lt_of_not_le (fun z => c_21 (nI_le (a := 3) z (by omega)))))
set_option maxHeartbeats 4000000 in
set_option maxRecDepth 100000 in
theorem t_found {b : Bool} {E : awE} {S : awS} {M : aM} {Q : Option Value → awS → Nat → Nat → Prop} (hm : mOk S) {r s t : Nat} (hr : r < 16) (hs : s < 16) (ht : t ≤ 400) (ht0 : 0 < t) (hwk : ¬ mA M 7 r = 0 → ¬ mA M 7 r = 1 → ¬ mA M 7 r = 6 → mA M 8 r = nI (mE M 8 r) ∧ mE M 8 r ≤ 20) (hA : mA M 7 r = 6 → ((mL M 9 r).toInt32 = nI (mL M 9 r).toInt32.toNatClampNeg ∧ (mL M 9 r).toInt32.toNatClampNeg < 16) ∧ (mA M 10 r = nI (mE M 10 r) ∧ mE M 10 r < 16)) (h : Q (some (.int (mFound M r s t))) (putM S M) 0 0) : awT b E m_X12_found [.ref (nm 13 0), .int (nI r), .int (nI s), .int (nI t)] (putM S M) Q := by
  refine awT.of (by decide) (by decide) (Nat.le_of_ble_eq_true rfl) ?_
  refine ax_aload_n (i := 0) dX12_found_0 rfl rfl rfl ?_
  refine ax_mR hm dX12_found_1 fl_X12_42 rfl (by decide) ?_
  refine ax_iload_n (i := 1) dX12_found_4 rfl rfl ?_
  refine ax_mIN (N := 16) hm dX12_found_5 rfl rfl (by decide) (by omega) ?_
  refine ax_if_lt (tgt := 26) dX12_found_6 (by decide) (fun c_6 => ?_) (fun c_6 => ?_)
  · refine ax_aload_n (i := 0) dX12_found_26 rfl rfl rfl ?_
    refine ax_mR hm dX12_found_27 fl_X12_21 rfl (by decide) ?_
    refine ax_iload_n (i := 1) dX12_found_30 rfl rfl ?_
    refine ax_mIN (N := 16) hm dX12_found_31 rfl rfl (by decide) (by omega) ?_
    refine ax_iconst (v := 4) dX12_found_32 (by decide) ?_
    refine ax_icmp_ne (tgt := 59) dX12_found_33 (by decide) (fun c_33 => ?_) (fun c_33 => ?_)
    · refine ax_aload_n (i := 0) dX12_found_59 rfl rfl rfl ?_
      refine ax_mR hm dX12_found_60 fl_X12_21 rfl (by decide) ?_
      refine ax_iload_n (i := 1) dX12_found_63 rfl rfl ?_
      refine ax_mIN (N := 16) hm dX12_found_64 rfl rfl (by decide) (by omega) ?_
      refine ax_bipush (v := 6) dX12_found_65 (by decide) ?_
      refine ax_icmp_ne (tgt := 100) dX12_found_67 (by decide) (fun c_67 => ?_) (fun c_67 => ?_)
      · refine ax_aload_n (i := 0) dX12_found_100 rfl rfl rfl ?_
        refine ax_iload_n (i := 2) dX12_found_101 rfl rfl ?_
        refine ax_iload_n (i := 3) dX12_found_102 rfl rfl ?_
        refine ax_invV (c := 13) (n := 2) (As := [_, _]) dX12_found_103 cb_X12_has cv_X12_306.1 cv_X12_306.2.1 cv_X12_306.2.2 rfl (by decide) rfl ⟨Nat.le_of_ble_eq_true rfl, Nat.le_of_ble_eq_true rfl⟩ (Nat.le_of_ble_eq_true rfl) rfl (t_has hm hs (Or.inl ⟨rfl, ht⟩) (fun c_103 => ?_) (fun c_103 => ?_))
        · refine ax_if_ne (tgt := 111) dX12_found_106 (by decide) (fun _ => ?_) (fun z => absurd (by decide) z)
          refine ax_aload_n (i := 0) dX12_found_111 rfl rfl rfl ?_
          refine ax_mR hm dX12_found_112 fl_X12_13 rfl (by decide) ?_
          refine ax_sipush (v := nI 401) dX12_found_115 (by decide) ?_
          refine ax_iload_n (i := 2) dX12_found_118 rfl rfl ?_
          refine ax_imulN dX12_found_119 ?_
          refine ax_iload_n (i := 3) dX12_found_120 rfl rfl ?_
          refine ax_iaddN dX12_found_121 ?_
          refine ax_mJN (N := 6416) hm dX12_found_122 rfl rfl (by decide) (by omega) ?_
          refine ax_lstore (lv' := [(4, _), (0, _), (1, _), (2, _), (3, _)]) dX12_found_123 (by decide) rfl ?_
          refine ax_aload_n (i := 0) dX12_found_125 rfl rfl rfl ?_
          refine ax_mR hm dX12_found_126 fl_X12_21 rfl (by decide) ?_
          refine ax_iload_n (i := 1) dX12_found_129 rfl rfl ?_
          refine ax_mIN (N := 16) hm dX12_found_130 rfl rfl (by decide) (by omega) ?_
          rcases (by omega : (mA M 7 r).toInt < 0 ∨ 0 ≤ (mA M 7 r).toInt) with c_131 | c_131
          · refine ax_tableOut (tgt := 322) dX12_found_131 (Or.inl c_131) (by decide) ?_
            obtain ⟨ew, hw⟩ := hwk (fun z => by rw [z] at c_131; exact absurd c_131 (by decide)) (fun z => by rw [z] at c_131; exact absurd c_131 (by decide)) c_67
            refine ax_aload_n (i := 0) dX12_found_322 rfl rfl rfl ?_
            refine ax_iload_n (i := 1) dX12_found_323 rfl rfl ?_
            refine ax_iload_n (i := 2) dX12_found_324 rfl rfl ?_
            refine ax_iload_n (i := 3) dX12_found_325 rfl rfl ?_
            refine ax_lload dX12_found_326 rfl ?_
            refine ax_invV (c := 13) (n := 4) (As := [_, _, _, _]) dX12_found_328 cb_X12_odd cv_X12_329.1 cv_X12_329.2.1 cv_X12_329.2.2 rfl (by decide) rfl ⟨Nat.le_of_ble_eq_true rfl, Nat.le_of_ble_eq_true rfl⟩ (Nat.le_of_ble_eq_true rfl) rfl (t_odd hm hr hs ht ht0 ew hw ?_)
            refine ax_iret dX12_found_331 rfl rfl ?_
            exact fin1 h ((if_neg (fun z => absurd c_6 (Int32.not_lt.mpr z.1))).trans ((if_neg c_33).trans ((if_neg c_67).trans ((iC_t c_103).trans ((if_neg (fun z => absurd c_131 (by rw [z]; decide))).trans ((if_neg (fun z => absurd c_131 (by rw [z]; decide))).trans ((if_neg (fun z => absurd c_131 (by rw [z]; decide))).trans ((if_neg (fun z => absurd c_131 (by rw [z]; decide))).trans (rfl)))))))))
          rcases (by omega : 3 < (mA M 7 r).toInt ∨ (mA M 7 r).toInt ≤ 3) with c2_131 | c2_131
          · refine ax_tableOut (tgt := 322) dX12_found_131 (Or.inr c2_131) (by decide) ?_
            obtain ⟨ew, hw⟩ := hwk (fun z => by rw [z] at c2_131; exact absurd c2_131 (by decide)) (fun z => by rw [z] at c2_131; exact absurd c2_131 (by decide)) c_67
            refine ax_aload_n (i := 0) dX12_found_322 rfl rfl rfl ?_
            refine ax_iload_n (i := 1) dX12_found_323 rfl rfl ?_
            refine ax_iload_n (i := 2) dX12_found_324 rfl rfl ?_
            refine ax_iload_n (i := 3) dX12_found_325 rfl rfl ?_
            refine ax_lload dX12_found_326 rfl ?_
            refine ax_invV (c := 13) (n := 4) (As := [_, _, _, _]) dX12_found_328 cb_X12_odd cv_X12_329.1 cv_X12_329.2.1 cv_X12_329.2.2 rfl (by decide) rfl ⟨Nat.le_of_ble_eq_true rfl, Nat.le_of_ble_eq_true rfl⟩ (Nat.le_of_ble_eq_true rfl) rfl (t_odd hm hr hs ht ht0 ew hw ?_)
            refine ax_iret dX12_found_331 rfl rfl ?_
            exact fin1 h ((if_neg (fun z => absurd c_6 (Int32.not_lt.mpr z.1))).trans ((if_neg c_33).trans ((if_neg c_67).trans ((iC_t c_103).trans ((if_neg (fun z => absurd c2_131 (by rw [z]; decide))).trans ((if_neg (fun z => absurd c2_131 (by rw [z]; decide))).trans ((if_neg (fun z => absurd c2_131 (by rw [z]; decide))).trans ((if_neg (fun z => absurd c2_131 (by rw [z]; decide))).trans (rfl)))))))))
          have c3_131 : (mA M 7 r) = 0 ∨ (mA M 7 r) = 1 ∨ (mA M 7 r) = 2 ∨ (mA M 7 r) = 3 := by have h1 := c_131; have h2 := c2_131; exact sw_4 h1 h2
          rcases c3_131 with c4_131 | c4_131 | c4_131 | c4_131
          · refine ax_tableIn (tgt := 160) (off := 29) dX12_found_131 (by rw [c4_131]; decide) (by rw [c4_131]; decide) (by rw [c4_131]; decide) (by decide) ?_
            refine ax_lload dX12_found_160 rfl ?_
            refine ax_aload_n (i := 0) dX12_found_162 rfl rfl rfl ?_
            refine ax_mR hm dX12_found_163 fl_X12_27 rfl (by decide) ?_
            refine ax_iload_n (i := 1) dX12_found_166 rfl rfl ?_
            refine ax_mJN (N := 16) hm dX12_found_167 rfl rfl (by decide) (by omega) ?_
            refine ax_lcmp dX12_found_168 ?_
            refine ax_if_le (tgt := 176) dX12_found_169 (by decide) (fun c_169 => ?_) (fun c_169 => ?_)
            · refine ax_iconst (v := 0) dX12_found_176 (by decide) ?_
              refine ax_iret dX12_found_177 rfl rfl ?_
              exact fin1 h ((if_neg (fun z => absurd c_6 (Int32.not_lt.mpr z.1))).trans ((if_neg c_33).trans ((if_neg c_67).trans ((iC_t c_103).trans ((if_pos c4_131).trans (if_neg (fun z => absurd ((lg_cmp_gt _ _).mpr z) (Int32.not_lt.mpr c_169))))))))
            · refine ax_iconst (v := 1) dX12_found_172 (by decide) ?_
              refine ax_goto (tgt := 177) dX12_found_173 (by decide) ?_
              refine ax_iret dX12_found_177 rfl rfl ?_
              exact fin1 h ((if_neg (fun z => absurd c_6 (Int32.not_lt.mpr z.1))).trans ((if_neg c_33).trans ((if_neg c_67).trans ((iC_t c_103).trans ((if_pos c4_131).trans (if_pos ((lg_cmp_gt _ _).mp (Int32.not_le.mp c_169))))))))
          · refine ax_tableIn (tgt := 178) (off := 47) dX12_found_131 (by rw [c4_131]; decide) (by rw [c4_131]; decide) (by rw [c4_131]; decide) (by decide) ?_
            refine ax_lload dX12_found_178 rfl ?_
            refine ax_aload_n (i := 0) dX12_found_180 rfl rfl rfl ?_
            refine ax_mR hm dX12_found_181 fl_X12_27 rfl (by decide) ?_
            refine ax_iload_n (i := 1) dX12_found_184 rfl rfl ?_
            refine ax_mJN (N := 16) hm dX12_found_185 rfl rfl (by decide) (by omega) ?_
            refine ax_lcmp dX12_found_186 ?_
            refine ax_if_gt (tgt := 218) dX12_found_187 (by decide) (fun c_187 => ?_) (fun c_187 => ?_)
            · refine ax_iconst (v := 1) dX12_found_218 (by decide) ?_
              refine ax_goto (tgt := 223) dX12_found_219 (by decide) ?_
              refine ax_iret dX12_found_223 rfl rfl ?_
              exact fin1 h ((if_neg (fun z => absurd c_6 (Int32.not_lt.mpr z.1))).trans ((if_neg c_33).trans ((if_neg c_67).trans ((iC_t c_103).trans ((if_neg (fun z => by rw [z] at c4_131; exact absurd c4_131 (by decide))).trans ((if_pos c4_131).trans (if_pos (Or.inl ((lg_cmp_gt _ _).mp c_187)))))))))
            · refine ax_lload dX12_found_190 rfl ?_
              refine ax_aload_n (i := 0) dX12_found_192 rfl rfl rfl ?_
              refine ax_mR hm dX12_found_193 fl_X12_30 rfl (by decide) ?_
              refine ax_iload_n (i := 1) dX12_found_196 rfl rfl ?_
              refine ax_mIN (N := 16) hm dX12_found_197 rfl rfl (by decide) (by omega) ?_
              refine ax_i2l dX12_found_198 ?_
              refine ax_lcmp dX12_found_199 ?_
              refine ax_if_lt (tgt := 222) dX12_found_200 (by decide) (fun c_200 => ?_) (fun c_200 => ?_)
              · refine ax_iconst (v := 0) dX12_found_222 (by decide) ?_
                refine ax_iret dX12_found_223 rfl rfl ?_
                exact fin1 h ((if_neg (fun z => absurd c_6 (Int32.not_lt.mpr z.1))).trans ((if_neg c_33).trans ((if_neg c_67).trans ((iC_t c_103).trans ((if_neg (fun z => by rw [z] at c4_131; exact absurd c4_131 (by decide))).trans ((if_pos c4_131).trans (if_neg (fun z => z.elim (fun q => c_187 ((lg_cmp_gt _ _).mpr q)) (fun q => absurd ((lg_cmp_lt _ _).mp c_200) (Int64.not_lt.mpr q.1))))))))))
              · refine ax_aload_n (i := 0) dX12_found_203 rfl rfl rfl ?_
                refine ax_mR hm dX12_found_204 fl_X12_53 rfl (by decide) ?_
                refine ax_bipush (v := nI 16) dX12_found_207 (by decide) ?_
                refine ax_iload_n (i := 1) dX12_found_209 rfl rfl ?_
                refine ax_imulN dX12_found_210 ?_
                refine ax_iload_n (i := 2) dX12_found_211 rfl rfl ?_
                refine ax_iaddN dX12_found_212 ?_
                refine ax_mIN (N := 256) hm dX12_found_213 rfl rfl (by decide) (by omega) ?_
                refine ax_iconst (v := 1) dX12_found_214 (by decide) ?_
                refine ax_icmp_ne (tgt := 222) dX12_found_215 (by decide) (fun c_215 => ?_) (fun c_215 => ?_)
                · refine ax_iconst (v := 0) dX12_found_222 (by decide) ?_
                  refine ax_iret dX12_found_223 rfl rfl ?_
                  exact fin1 h ((if_neg (fun z => absurd c_6 (Int32.not_lt.mpr z.1))).trans ((if_neg c_33).trans ((if_neg c_67).trans ((iC_t c_103).trans ((if_neg (fun z => by rw [z] at c4_131; exact absurd c4_131 (by decide))).trans ((if_pos c4_131).trans (if_neg (fun z => z.elim (fun q => c_187 ((lg_cmp_gt _ _).mpr q)) (fun q => c_215 q.2)))))))))
                · refine ax_iconst (v := 1) dX12_found_218 (by decide) ?_
                  refine ax_goto (tgt := 223) dX12_found_219 (by decide) ?_
                  refine ax_iret dX12_found_223 rfl rfl ?_
                  exact fin1 h ((if_neg (fun z => absurd c_6 (Int32.not_lt.mpr z.1))).trans ((if_neg c_33).trans ((if_neg c_67).trans ((iC_t c_103).trans ((if_neg (fun z => by rw [z] at c4_131; exact absurd c4_131 (by decide))).trans ((if_pos c4_131).trans (if_pos (Or.inr ⟨Int64.not_lt.mp (fun z => c_200 ((lg_cmp_lt _ _).mpr z)), Classical.not_not.mp c_215⟩))))))))
          · refine ax_tableIn (tgt := 224) (off := 93) dX12_found_131 (by rw [c4_131]; decide) (by rw [c4_131]; decide) (by rw [c4_131]; decide) (by decide) ?_
            obtain ⟨ew, hw⟩ := hwk (by rw [c4_131]; decide) (by rw [c4_131]; decide) c_67
            refine ax_aload_n (i := 0) dX12_found_224 rfl rfl rfl ?_
            refine ax_iload_n (i := 2) dX12_found_225 rfl rfl ?_
            refine ax_iload_n (i := 3) dX12_found_226 rfl rfl ?_
            refine ax_aload_n (i := 0) dX12_found_227 rfl rfl rfl ?_
            refine ax_mR hm dX12_found_228 fl_X12_24 rfl (by decide) ?_
            refine ax_iload_n (i := 1) dX12_found_231 rfl rfl ?_
            refine ax_mIN (N := 16) hm dX12_found_232 rfl rfl (by decide) (by omega) ?_
            refine ax_top ew ?_
            refine ax_isub dX12_found_233 ?_
            refine ax_invV (c := 13) (n := 2) (As := [_, _]) dX12_found_234 cb_X12_has cv_X12_306.1 cv_X12_306.2.1 cv_X12_306.2.2 rfl (by decide) rfl ⟨Nat.le_of_ble_eq_true rfl, Nat.le_of_ble_eq_true rfl⟩ (Nat.le_of_ble_eq_true rfl) rfl (t_has hm hs (sub_has ht hw) (fun c_234 => ?_) (fun c_234 => ?_))
            · refine ax_if_ne (tgt := 244) dX12_found_237 (by decide) (fun _ => ?_) (fun z => absurd (by decide) z)
              refine ax_lload dX12_found_244 rfl ?_
              refine ax_aload_n (i := 0) dX12_found_246 rfl rfl rfl ?_
              refine ax_mR hm dX12_found_247 fl_X12_13 rfl (by decide) ?_
              refine ax_sipush (v := nI 401) dX12_found_250 (by decide) ?_
              refine ax_iload_n (i := 2) dX12_found_253 rfl rfl ?_
              refine ax_imulN dX12_found_254 ?_
              refine ax_iload_n (i := 3) dX12_found_255 rfl rfl ?_
              refine ax_iaddN dX12_found_256 ?_
              refine ax_aload_n (i := 0) dX12_found_257 rfl rfl rfl ?_
              refine ax_mR hm dX12_found_258 fl_X12_24 rfl (by decide) ?_
              refine ax_iload_n (i := 1) dX12_found_261 rfl rfl ?_
              refine ax_mIN (N := 16) hm dX12_found_262 rfl rfl (by decide) (by omega) ?_
              refine ax_top ew ?_
              refine ax_isubN dX12_found_263 (by have := c_234.1; omega) ?_
              refine ax_mJN (N := 6416) hm dX12_found_264 rfl rfl (by decide) (by omega) ?_
              rw [show mL M 4 (401 * s + t - mE M 8 r) = mVal M s (t - mE M 8 r) from by unfold mVal; rw [Nat.add_sub_assoc (by have := c_234.1; omega)]]
              refine ax_lsub dX12_found_265 ?_
              refine ax_aload_n (i := 0) dX12_found_266 rfl rfl rfl ?_
              refine ax_mR hm dX12_found_267 fl_X12_27 rfl (by decide) ?_
              refine ax_iload_n (i := 1) dX12_found_270 rfl rfl ?_
              refine ax_mJN (N := 16) hm dX12_found_271 rfl rfl (by decide) (by omega) ?_
              refine ax_lcmp dX12_found_272 ?_
              refine ax_if_le (tgt := 280) dX12_found_273 (by decide) (fun c_273 => ?_) (fun c_273 => ?_)
              · refine ax_iconst (v := 0) dX12_found_280 (by decide) ?_
                refine ax_iret dX12_found_281 rfl rfl ?_
                exact fin1 h ((if_neg (fun z => absurd c_6 (Int32.not_lt.mpr z.1))).trans ((if_neg c_33).trans ((if_neg c_67).trans ((iC_t c_103).trans ((if_neg (fun z => by rw [z] at c4_131; exact absurd c4_131 (by decide))).trans ((if_neg (fun z => by rw [z] at c4_131; exact absurd c4_131 (by decide))).trans ((if_pos c4_131).trans ((iC_t c_234).trans (if_neg (fun z => absurd ((lg_cmp_gt _ _).mpr z) (Int32.not_lt.mpr c_273)))))))))))
              · refine ax_iconst (v := 1) dX12_found_276 (by decide) ?_
                refine ax_goto (tgt := 281) dX12_found_277 (by decide) ?_
                refine ax_iret dX12_found_281 rfl rfl ?_
                exact fin1 h ((if_neg (fun z => absurd c_6 (Int32.not_lt.mpr z.1))).trans ((if_neg c_33).trans ((if_neg c_67).trans ((iC_t c_103).trans ((if_neg (fun z => by rw [z] at c4_131; exact absurd c4_131 (by decide))).trans ((if_neg (fun z => by rw [z] at c4_131; exact absurd c4_131 (by decide))).trans ((if_pos c4_131).trans ((iC_t c_234).trans (if_pos ((lg_cmp_gt _ _).mp (Int32.not_le.mp c_273)))))))))))
            · refine ax_if_ne (tgt := 244) dX12_found_237 (by decide) (fun z => absurd z (by decide)) (fun _ => ?_)
              refine ax_iconst (v := -1) dX12_found_240 (by decide) ?_
              refine ax_goto (tgt := 281) dX12_found_241 (by decide) ?_
              refine ax_iret dX12_found_281 rfl rfl ?_
              exact fin1 h ((if_neg (fun z => absurd c_6 (Int32.not_lt.mpr z.1))).trans ((if_neg c_33).trans ((if_neg c_67).trans ((iC_t c_103).trans ((if_neg (fun z => by rw [z] at c4_131; exact absurd c4_131 (by decide))).trans ((if_neg (fun z => by rw [z] at c4_131; exact absurd c4_131 (by decide))).trans ((if_pos c4_131).trans (iC_f c_234))))))))
          · refine ax_tableIn (tgt := 282) (off := 151) dX12_found_131 (by rw [c4_131]; decide) (by rw [c4_131]; decide) (by rw [c4_131]; decide) (by decide) ?_
            obtain ⟨ew, hw⟩ := hwk (by rw [c4_131]; decide) (by rw [c4_131]; decide) c_67
            refine ax_aload_n (i := 0) dX12_found_282 rfl rfl rfl ?_
            refine ax_iload_n (i := 1) dX12_found_283 rfl rfl ?_
            refine ax_iload_n (i := 2) dX12_found_284 rfl rfl ?_
            refine ax_iload_n (i := 3) dX12_found_285 rfl rfl ?_
            refine ax_aload_n (i := 0) dX12_found_286 rfl rfl rfl ?_
            refine ax_mR hm dX12_found_287 fl_X12_24 rfl (by decide) ?_
            refine ax_iload_n (i := 1) dX12_found_290 rfl rfl ?_
            refine ax_mIN (N := 16) hm dX12_found_291 rfl rfl (by decide) (by omega) ?_
            refine ax_top ew ?_
            refine ax_invV (c := 13) (n := 4) (As := [_, _, _, _]) dX12_found_292 cb_X12_isPart cv_X12_325.1 cv_X12_325.2.1 cv_X12_325.2.2 rfl (by decide) rfl ⟨Nat.le_of_ble_eq_true rfl, Nat.le_of_ble_eq_true rfl⟩ (Nat.le_of_ble_eq_true rfl) rfl (t_isPart hm hr hs ht (by omega) (fun c_292 => ?_) (fun c_292 => ?_))
            · refine ax_if_eq (tgt := 320) dX12_found_295 (by decide) (fun z => absurd z (by decide)) (fun _ => ?_)
              refine ax_aload_n (i := 0) dX12_found_298 rfl rfl rfl ?_
              refine ax_iload_n (i := 1) dX12_found_299 rfl rfl ?_
              refine ax_iload_n (i := 2) dX12_found_300 rfl rfl ?_
              refine ax_iload_n (i := 3) dX12_found_301 rfl rfl ?_
              refine ax_iconst (v := nI 2) dX12_found_302 (by decide) ?_
              refine ax_aload_n (i := 0) dX12_found_303 rfl rfl rfl ?_
              refine ax_mR hm dX12_found_304 fl_X12_24 rfl (by decide) ?_
              refine ax_iload_n (i := 1) dX12_found_307 rfl rfl ?_
              refine ax_mIN (N := 16) hm dX12_found_308 rfl rfl (by decide) (by omega) ?_
              refine ax_top ew ?_
              refine ax_imulN dX12_found_309 ?_
              refine ax_invV (c := 13) (n := 4) (As := [_, _, _, _]) dX12_found_310 cb_X12_isPart cv_X12_325.1 cv_X12_325.2.1 cv_X12_325.2.2 rfl (by decide) rfl ⟨Nat.le_of_ble_eq_true rfl, Nat.le_of_ble_eq_true rfl⟩ (Nat.le_of_ble_eq_true rfl) rfl (t_isPart hm hr hs ht (by omega) (fun c_310 => ?_) (fun c_310 => ?_))
              · refine ax_if_eq (tgt := 320) dX12_found_313 (by decide) (fun z => absurd z (by decide)) (fun _ => ?_)
                refine ax_iconst (v := 1) dX12_found_316 (by decide) ?_
                refine ax_goto (tgt := 321) dX12_found_317 (by decide) ?_
                refine ax_iret dX12_found_321 rfl rfl ?_
                exact fin1 h ((if_neg (fun z => absurd c_6 (Int32.not_lt.mpr z.1))).trans ((if_neg c_33).trans ((if_neg c_67).trans ((iC_t c_103).trans ((if_neg (fun z => by rw [z] at c4_131; exact absurd c4_131 (by decide))).trans ((if_neg (fun z => by rw [z] at c4_131; exact absurd c4_131 (by decide))).trans ((if_neg (fun z => by rw [z] at c4_131; exact absurd c4_131 (by decide))).trans ((if_pos c4_131).trans (bC_t ⟨c_292, c_310⟩)))))))))
              · refine ax_if_eq (tgt := 320) dX12_found_313 (by decide) (fun _ => ?_) (fun z => absurd (by decide) z)
                refine ax_iconst (v := 0) dX12_found_320 (by decide) ?_
                refine ax_iret dX12_found_321 rfl rfl ?_
                exact fin1 h ((if_neg (fun z => absurd c_6 (Int32.not_lt.mpr z.1))).trans ((if_neg c_33).trans ((if_neg c_67).trans ((iC_t c_103).trans ((if_neg (fun z => by rw [z] at c4_131; exact absurd c4_131 (by decide))).trans ((if_neg (fun z => by rw [z] at c4_131; exact absurd c4_131 (by decide))).trans ((if_neg (fun z => by rw [z] at c4_131; exact absurd c4_131 (by decide))).trans ((if_pos c4_131).trans (bC_f (fun z => c_310 z.2))))))))))
            · refine ax_if_eq (tgt := 320) dX12_found_295 (by decide) (fun _ => ?_) (fun z => absurd (by decide) z)
              refine ax_iconst (v := 0) dX12_found_320 (by decide) ?_
              refine ax_iret dX12_found_321 rfl rfl ?_
              exact fin1 h ((if_neg (fun z => absurd c_6 (Int32.not_lt.mpr z.1))).trans ((if_neg c_33).trans ((if_neg c_67).trans ((iC_t c_103).trans ((if_neg (fun z => by rw [z] at c4_131; exact absurd c4_131 (by decide))).trans ((if_neg (fun z => by rw [z] at c4_131; exact absurd c4_131 (by decide))).trans ((if_neg (fun z => by rw [z] at c4_131; exact absurd c4_131 (by decide))).trans ((if_pos c4_131).trans (bC_f (fun z => c_292 z.1))))))))))
        · refine ax_if_ne (tgt := 111) dX12_found_106 (by decide) (fun z => absurd z (by decide)) (fun _ => ?_)
          refine ax_iconst (v := -1) dX12_found_109 (by decide) ?_
          refine ax_iret dX12_found_110 rfl rfl ?_
          exact fin1 h ((if_neg (fun z => absurd c_6 (Int32.not_lt.mpr z.1))).trans ((if_neg c_33).trans ((if_neg c_67).trans (iC_f c_103))))
      · refine ax_aload_n (i := 0) dX12_found_70 rfl rfl rfl ?_
        refine ax_aload_n (i := 0) dX12_found_71 rfl rfl rfl ?_
        refine ax_aload_n (i := 0) dX12_found_72 rfl rfl rfl ?_
        refine ax_mR hm dX12_found_73 fl_X12_27 rfl (by decide) ?_
        refine ax_iload_n (i := 1) dX12_found_76 rfl rfl ?_
        refine ax_mJN (N := 16) hm dX12_found_77 rfl rfl (by decide) (by omega) ?_
        refine ax_l2i dX12_found_78 ?_
        refine ax_top (hA (Classical.not_not.mp c_67)).1.1 ?_
        refine ax_iload_n (i := 2) dX12_found_79 rfl rfl ?_
        refine ax_iload_n (i := 3) dX12_found_80 rfl rfl ?_
        refine ax_invV (c := 13) (n := 3) (As := [_, _, _]) dX12_found_81 cb_X12_truthAt cv_X12_317.1 cv_X12_317.2.1 cv_X12_317.2.2 rfl (by decide) rfl ⟨Nat.le_of_ble_eq_true rfl, Nat.le_of_ble_eq_true rfl⟩ (Nat.le_of_ble_eq_true rfl) rfl (t_truthAt hm (hA (Classical.not_not.mp c_67)).1.2 hs ht ?_)
        refine ax_aload_n (i := 0) dX12_found_84 rfl rfl rfl ?_
        refine ax_aload_n (i := 0) dX12_found_85 rfl rfl rfl ?_
        refine ax_mR hm dX12_found_86 fl_X12_30 rfl (by decide) ?_
        refine ax_iload_n (i := 1) dX12_found_89 rfl rfl ?_
        refine ax_mIN (N := 16) hm dX12_found_90 rfl rfl (by decide) (by omega) ?_
        refine ax_top (hA (Classical.not_not.mp c_67)).2.1 ?_
        refine ax_iload_n (i := 2) dX12_found_91 rfl rfl ?_
        refine ax_iload_n (i := 3) dX12_found_92 rfl rfl ?_
        refine ax_invV (c := 13) (n := 3) (As := [_, _, _]) dX12_found_93 cb_X12_truthAt cv_X12_317.1 cv_X12_317.2.1 cv_X12_317.2.2 rfl (by decide) rfl ⟨Nat.le_of_ble_eq_true rfl, Nat.le_of_ble_eq_true rfl⟩ (Nat.le_of_ble_eq_true rfl) rfl (t_truthAt hm (hA (Classical.not_not.mp c_67)).2.2 hs ht ?_)
        refine ax_invV (c := 13) (n := 2) (As := [_, _]) dX12_found_96 cb_X12_both cv_X12_321.1 cv_X12_321.2.1 cv_X12_321.2.2 rfl (by decide) rfl ⟨Nat.le_of_ble_eq_true rfl, Nat.le_of_ble_eq_true rfl⟩ (Nat.le_of_ble_eq_true rfl) rfl (t_both hm ?_)
        refine ax_iret dX12_found_99 rfl rfl ?_
        exact fin1 h ((if_neg (fun z => absurd c_6 (Int32.not_lt.mpr z.1))).trans ((if_neg c_33).trans (if_pos (Classical.not_not.mp c_67))))
    · obtain ⟨ew, hw⟩ := hwk (by rw [Classical.not_not.mp c_33]; decide) (by rw [Classical.not_not.mp c_33]; decide) (by rw [Classical.not_not.mp c_33]; decide)
      refine ax_aload_n (i := 0) dX12_found_36 rfl rfl rfl ?_
      refine ax_iload_n (i := 2) dX12_found_37 rfl rfl ?_
      refine ax_iload_n (i := 3) dX12_found_38 rfl rfl ?_
      refine ax_aload_n (i := 0) dX12_found_39 rfl rfl rfl ?_
      refine ax_mR hm dX12_found_40 fl_X12_24 rfl (by decide) ?_
      refine ax_iload_n (i := 1) dX12_found_43 rfl rfl ?_
      refine ax_mIN (N := 16) hm dX12_found_44 rfl rfl (by decide) (by omega) ?_
      refine ax_top ew ?_
      refine ax_iconst (v := 0) dX12_found_45 (by decide) ?_
      refine ax_lconst (v := 0) dX12_found_46 (by decide) ?_
      refine ax_invV (c := 13) (n := 5) (As := [_, _, _, _, _]) dX12_found_47 cb_X12_countOf cv_X12_309.1 cv_X12_309.2.1 cv_X12_309.2.2 rfl (by decide) rfl ⟨Nat.le_of_ble_eq_true rfl, Nat.le_of_ble_eq_true rfl⟩ (Nat.le_of_ble_eq_true rfl) rfl (t_countOf (ab := False) (x4 := 0) hm hs ht (by omega) (by decide) ?_)
      refine ax_if_ne (tgt := 57) dX12_found_50 (by decide) (fun c_50 => ?_) (fun c_50 => ?_)
      · refine ax_iconst (v := 0) dX12_found_57 (by decide) ?_
        refine ax_iret dX12_found_58 rfl rfl ?_
        exact fin1 h ((if_neg (fun z => absurd c_6 (Int32.not_lt.mpr z.1))).trans ((if_pos (Classical.not_not.mp c_33)).trans (if_neg (fun z => c_50 ((nI_z (mCnt_le _ _ _ _ _ _) (by omega)).mpr z)))))
      · refine ax_iconst (v := 1) dX12_found_53 (by decide) ?_
        refine ax_goto (tgt := 58) dX12_found_54 (by decide) ?_
        refine ax_iret dX12_found_58 rfl rfl ?_
        exact fin1 h ((if_neg (fun z => absurd c_6 (Int32.not_lt.mpr z.1))).trans ((if_pos (Classical.not_not.mp c_33)).trans (if_pos ((nI_z (mCnt_le _ _ _ _ _ _) (by omega)).mp (Classical.not_not.mp c_50)))))
  · refine ax_aload_n (i := 0) dX12_found_9 rfl rfl rfl ?_
    refine ax_mR hm dX12_found_10 fl_X12_42 rfl (by decide) ?_
    refine ax_iload_n (i := 1) dX12_found_13 rfl rfl ?_
    refine ax_mIN (N := 16) hm dX12_found_14 rfl rfl (by decide) (by omega) ?_
    refine ax_aload_n (i := 0) dX12_found_15 rfl rfl rfl ?_
    refine ax_mR hm dX12_found_16 fl_X12_7 rfl (by decide) ?_
    refine ax_iload_n (i := 2) dX12_found_19 rfl rfl ?_
    refine ax_mIN (N := 16) hm dX12_found_20 rfl rfl (by decide) (by omega) ?_
    refine ax_icmp_eq (tgt := 26) dX12_found_21 (by decide) (fun c_21 => ?_) (fun c_21 => ?_)
    · refine ax_aload_n (i := 0) dX12_found_26 rfl rfl rfl ?_
      refine ax_mR hm dX12_found_27 fl_X12_21 rfl (by decide) ?_
      refine ax_iload_n (i := 1) dX12_found_30 rfl rfl ?_
      refine ax_mIN (N := 16) hm dX12_found_31 rfl rfl (by decide) (by omega) ?_
      refine ax_iconst (v := 4) dX12_found_32 (by decide) ?_
      refine ax_icmp_ne (tgt := 59) dX12_found_33 (by decide) (fun c_33 => ?_) (fun c_33 => ?_)
      · refine ax_aload_n (i := 0) dX12_found_59 rfl rfl rfl ?_
        refine ax_mR hm dX12_found_60 fl_X12_21 rfl (by decide) ?_
        refine ax_iload_n (i := 1) dX12_found_63 rfl rfl ?_
        refine ax_mIN (N := 16) hm dX12_found_64 rfl rfl (by decide) (by omega) ?_
        refine ax_bipush (v := 6) dX12_found_65 (by decide) ?_
        refine ax_icmp_ne (tgt := 100) dX12_found_67 (by decide) (fun c_67 => ?_) (fun c_67 => ?_)
        · refine ax_aload_n (i := 0) dX12_found_100 rfl rfl rfl ?_
          refine ax_iload_n (i := 2) dX12_found_101 rfl rfl ?_
          refine ax_iload_n (i := 3) dX12_found_102 rfl rfl ?_
          refine ax_invV (c := 13) (n := 2) (As := [_, _]) dX12_found_103 cb_X12_has cv_X12_306.1 cv_X12_306.2.1 cv_X12_306.2.2 rfl (by decide) rfl ⟨Nat.le_of_ble_eq_true rfl, Nat.le_of_ble_eq_true rfl⟩ (Nat.le_of_ble_eq_true rfl) rfl (t_has hm hs (Or.inl ⟨rfl, ht⟩) (fun c_103 => ?_) (fun c_103 => ?_))
          · refine ax_if_ne (tgt := 111) dX12_found_106 (by decide) (fun _ => ?_) (fun z => absurd (by decide) z)
            refine ax_aload_n (i := 0) dX12_found_111 rfl rfl rfl ?_
            refine ax_mR hm dX12_found_112 fl_X12_13 rfl (by decide) ?_
            refine ax_sipush (v := nI 401) dX12_found_115 (by decide) ?_
            refine ax_iload_n (i := 2) dX12_found_118 rfl rfl ?_
            refine ax_imulN dX12_found_119 ?_
            refine ax_iload_n (i := 3) dX12_found_120 rfl rfl ?_
            refine ax_iaddN dX12_found_121 ?_
            refine ax_mJN (N := 6416) hm dX12_found_122 rfl rfl (by decide) (by omega) ?_
            refine ax_lstore (lv' := [(4, _), (0, _), (1, _), (2, _), (3, _)]) dX12_found_123 (by decide) rfl ?_
            refine ax_aload_n (i := 0) dX12_found_125 rfl rfl rfl ?_
            refine ax_mR hm dX12_found_126 fl_X12_21 rfl (by decide) ?_
            refine ax_iload_n (i := 1) dX12_found_129 rfl rfl ?_
            refine ax_mIN (N := 16) hm dX12_found_130 rfl rfl (by decide) (by omega) ?_
            rcases (by omega : (mA M 7 r).toInt < 0 ∨ 0 ≤ (mA M 7 r).toInt) with c_131 | c_131
            · refine ax_tableOut (tgt := 322) dX12_found_131 (Or.inl c_131) (by decide) ?_
              obtain ⟨ew, hw⟩ := hwk (fun z => by rw [z] at c_131; exact absurd c_131 (by decide)) (fun z => by rw [z] at c_131; exact absurd c_131 (by decide)) c_67
              refine ax_aload_n (i := 0) dX12_found_322 rfl rfl rfl ?_
              refine ax_iload_n (i := 1) dX12_found_323 rfl rfl ?_
              refine ax_iload_n (i := 2) dX12_found_324 rfl rfl ?_
              refine ax_iload_n (i := 3) dX12_found_325 rfl rfl ?_
              refine ax_lload dX12_found_326 rfl ?_
              refine ax_invV (c := 13) (n := 4) (As := [_, _, _, _]) dX12_found_328 cb_X12_odd cv_X12_329.1 cv_X12_329.2.1 cv_X12_329.2.2 rfl (by decide) rfl ⟨Nat.le_of_ble_eq_true rfl, Nat.le_of_ble_eq_true rfl⟩ (Nat.le_of_ble_eq_true rfl) rfl (t_odd hm hr hs ht ht0 ew hw ?_)
              refine ax_iret dX12_found_331 rfl rfl ?_
              exact fin1 h ((if_neg (fun z => z.2 c_21)).trans ((if_neg c_33).trans ((if_neg c_67).trans ((iC_t c_103).trans ((if_neg (fun z => absurd c_131 (by rw [z]; decide))).trans ((if_neg (fun z => absurd c_131 (by rw [z]; decide))).trans ((if_neg (fun z => absurd c_131 (by rw [z]; decide))).trans ((if_neg (fun z => absurd c_131 (by rw [z]; decide))).trans (rfl)))))))))
            rcases (by omega : 3 < (mA M 7 r).toInt ∨ (mA M 7 r).toInt ≤ 3) with c2_131 | c2_131
            · refine ax_tableOut (tgt := 322) dX12_found_131 (Or.inr c2_131) (by decide) ?_
              obtain ⟨ew, hw⟩ := hwk (fun z => by rw [z] at c2_131; exact absurd c2_131 (by decide)) (fun z => by rw [z] at c2_131; exact absurd c2_131 (by decide)) c_67
              refine ax_aload_n (i := 0) dX12_found_322 rfl rfl rfl ?_
              refine ax_iload_n (i := 1) dX12_found_323 rfl rfl ?_
              refine ax_iload_n (i := 2) dX12_found_324 rfl rfl ?_
              refine ax_iload_n (i := 3) dX12_found_325 rfl rfl ?_
              refine ax_lload dX12_found_326 rfl ?_
              refine ax_invV (c := 13) (n := 4) (As := [_, _, _, _]) dX12_found_328 cb_X12_odd cv_X12_329.1 cv_X12_329.2.1 cv_X12_329.2.2 rfl (by decide) rfl ⟨Nat.le_of_ble_eq_true rfl, Nat.le_of_ble_eq_true rfl⟩ (Nat.le_of_ble_eq_true rfl) rfl (t_odd hm hr hs ht ht0 ew hw ?_)
              refine ax_iret dX12_found_331 rfl rfl ?_
              exact fin1 h ((if_neg (fun z => z.2 c_21)).trans ((if_neg c_33).trans ((if_neg c_67).trans ((iC_t c_103).trans ((if_neg (fun z => absurd c2_131 (by rw [z]; decide))).trans ((if_neg (fun z => absurd c2_131 (by rw [z]; decide))).trans ((if_neg (fun z => absurd c2_131 (by rw [z]; decide))).trans ((if_neg (fun z => absurd c2_131 (by rw [z]; decide))).trans (rfl)))))))))
            have c3_131 : (mA M 7 r) = 0 ∨ (mA M 7 r) = 1 ∨ (mA M 7 r) = 2 ∨ (mA M 7 r) = 3 := by have h1 := c_131; have h2 := c2_131; exact sw_4 h1 h2
            rcases c3_131 with c4_131 | c4_131 | c4_131 | c4_131
            · refine ax_tableIn (tgt := 160) (off := 29) dX12_found_131 (by rw [c4_131]; decide) (by rw [c4_131]; decide) (by rw [c4_131]; decide) (by decide) ?_
              refine ax_lload dX12_found_160 rfl ?_
              refine ax_aload_n (i := 0) dX12_found_162 rfl rfl rfl ?_
              refine ax_mR hm dX12_found_163 fl_X12_27 rfl (by decide) ?_
              refine ax_iload_n (i := 1) dX12_found_166 rfl rfl ?_
              refine ax_mJN (N := 16) hm dX12_found_167 rfl rfl (by decide) (by omega) ?_
              refine ax_lcmp dX12_found_168 ?_
              refine ax_if_le (tgt := 176) dX12_found_169 (by decide) (fun c_169 => ?_) (fun c_169 => ?_)
              · refine ax_iconst (v := 0) dX12_found_176 (by decide) ?_
                refine ax_iret dX12_found_177 rfl rfl ?_
                exact fin1 h ((if_neg (fun z => z.2 c_21)).trans ((if_neg c_33).trans ((if_neg c_67).trans ((iC_t c_103).trans ((if_pos c4_131).trans (if_neg (fun z => absurd ((lg_cmp_gt _ _).mpr z) (Int32.not_lt.mpr c_169))))))))
              · refine ax_iconst (v := 1) dX12_found_172 (by decide) ?_
                refine ax_goto (tgt := 177) dX12_found_173 (by decide) ?_
                refine ax_iret dX12_found_177 rfl rfl ?_
                exact fin1 h ((if_neg (fun z => z.2 c_21)).trans ((if_neg c_33).trans ((if_neg c_67).trans ((iC_t c_103).trans ((if_pos c4_131).trans (if_pos ((lg_cmp_gt _ _).mp (Int32.not_le.mp c_169))))))))
            · refine ax_tableIn (tgt := 178) (off := 47) dX12_found_131 (by rw [c4_131]; decide) (by rw [c4_131]; decide) (by rw [c4_131]; decide) (by decide) ?_
              refine ax_lload dX12_found_178 rfl ?_
              refine ax_aload_n (i := 0) dX12_found_180 rfl rfl rfl ?_
              refine ax_mR hm dX12_found_181 fl_X12_27 rfl (by decide) ?_
              refine ax_iload_n (i := 1) dX12_found_184 rfl rfl ?_
              refine ax_mJN (N := 16) hm dX12_found_185 rfl rfl (by decide) (by omega) ?_
              refine ax_lcmp dX12_found_186 ?_
              refine ax_if_gt (tgt := 218) dX12_found_187 (by decide) (fun c_187 => ?_) (fun c_187 => ?_)
              · refine ax_iconst (v := 1) dX12_found_218 (by decide) ?_
                refine ax_goto (tgt := 223) dX12_found_219 (by decide) ?_
                refine ax_iret dX12_found_223 rfl rfl ?_
                exact fin1 h ((if_neg (fun z => z.2 c_21)).trans ((if_neg c_33).trans ((if_neg c_67).trans ((iC_t c_103).trans ((if_neg (fun z => by rw [z] at c4_131; exact absurd c4_131 (by decide))).trans ((if_pos c4_131).trans (if_pos (Or.inl ((lg_cmp_gt _ _).mp c_187)))))))))
              · refine ax_lload dX12_found_190 rfl ?_
                refine ax_aload_n (i := 0) dX12_found_192 rfl rfl rfl ?_
                refine ax_mR hm dX12_found_193 fl_X12_30 rfl (by decide) ?_
                refine ax_iload_n (i := 1) dX12_found_196 rfl rfl ?_
                refine ax_mIN (N := 16) hm dX12_found_197 rfl rfl (by decide) (by omega) ?_
                refine ax_i2l dX12_found_198 ?_
                refine ax_lcmp dX12_found_199 ?_
                refine ax_if_lt (tgt := 222) dX12_found_200 (by decide) (fun c_200 => ?_) (fun c_200 => ?_)
                · refine ax_iconst (v := 0) dX12_found_222 (by decide) ?_
                  refine ax_iret dX12_found_223 rfl rfl ?_
                  exact fin1 h ((if_neg (fun z => z.2 c_21)).trans ((if_neg c_33).trans ((if_neg c_67).trans ((iC_t c_103).trans ((if_neg (fun z => by rw [z] at c4_131; exact absurd c4_131 (by decide))).trans ((if_pos c4_131).trans (if_neg (fun z => z.elim (fun q => c_187 ((lg_cmp_gt _ _).mpr q)) (fun q => absurd ((lg_cmp_lt _ _).mp c_200) (Int64.not_lt.mpr q.1))))))))))
                · refine ax_aload_n (i := 0) dX12_found_203 rfl rfl rfl ?_
                  refine ax_mR hm dX12_found_204 fl_X12_53 rfl (by decide) ?_
                  refine ax_bipush (v := nI 16) dX12_found_207 (by decide) ?_
                  refine ax_iload_n (i := 1) dX12_found_209 rfl rfl ?_
                  refine ax_imulN dX12_found_210 ?_
                  refine ax_iload_n (i := 2) dX12_found_211 rfl rfl ?_
                  refine ax_iaddN dX12_found_212 ?_
                  refine ax_mIN (N := 256) hm dX12_found_213 rfl rfl (by decide) (by omega) ?_
                  refine ax_iconst (v := 1) dX12_found_214 (by decide) ?_
                  refine ax_icmp_ne (tgt := 222) dX12_found_215 (by decide) (fun c_215 => ?_) (fun c_215 => ?_)
                  · refine ax_iconst (v := 0) dX12_found_222 (by decide) ?_
                    refine ax_iret dX12_found_223 rfl rfl ?_
                    exact fin1 h ((if_neg (fun z => z.2 c_21)).trans ((if_neg c_33).trans ((if_neg c_67).trans ((iC_t c_103).trans ((if_neg (fun z => by rw [z] at c4_131; exact absurd c4_131 (by decide))).trans ((if_pos c4_131).trans (if_neg (fun z => z.elim (fun q => c_187 ((lg_cmp_gt _ _).mpr q)) (fun q => c_215 q.2)))))))))
                  · refine ax_iconst (v := 1) dX12_found_218 (by decide) ?_
                    refine ax_goto (tgt := 223) dX12_found_219 (by decide) ?_
                    refine ax_iret dX12_found_223 rfl rfl ?_
                    exact fin1 h ((if_neg (fun z => z.2 c_21)).trans ((if_neg c_33).trans ((if_neg c_67).trans ((iC_t c_103).trans ((if_neg (fun z => by rw [z] at c4_131; exact absurd c4_131 (by decide))).trans ((if_pos c4_131).trans (if_pos (Or.inr ⟨Int64.not_lt.mp (fun z => c_200 ((lg_cmp_lt _ _).mpr z)), Classical.not_not.mp c_215⟩))))))))
            · refine ax_tableIn (tgt := 224) (off := 93) dX12_found_131 (by rw [c4_131]; decide) (by rw [c4_131]; decide) (by rw [c4_131]; decide) (by decide) ?_
              obtain ⟨ew, hw⟩ := hwk (by rw [c4_131]; decide) (by rw [c4_131]; decide) c_67
              refine ax_aload_n (i := 0) dX12_found_224 rfl rfl rfl ?_
              refine ax_iload_n (i := 2) dX12_found_225 rfl rfl ?_
              refine ax_iload_n (i := 3) dX12_found_226 rfl rfl ?_
              refine ax_aload_n (i := 0) dX12_found_227 rfl rfl rfl ?_
              refine ax_mR hm dX12_found_228 fl_X12_24 rfl (by decide) ?_
              refine ax_iload_n (i := 1) dX12_found_231 rfl rfl ?_
              refine ax_mIN (N := 16) hm dX12_found_232 rfl rfl (by decide) (by omega) ?_
              refine ax_top ew ?_
              refine ax_isub dX12_found_233 ?_
              refine ax_invV (c := 13) (n := 2) (As := [_, _]) dX12_found_234 cb_X12_has cv_X12_306.1 cv_X12_306.2.1 cv_X12_306.2.2 rfl (by decide) rfl ⟨Nat.le_of_ble_eq_true rfl, Nat.le_of_ble_eq_true rfl⟩ (Nat.le_of_ble_eq_true rfl) rfl (t_has hm hs (sub_has ht hw) (fun c_234 => ?_) (fun c_234 => ?_))
              · refine ax_if_ne (tgt := 244) dX12_found_237 (by decide) (fun _ => ?_) (fun z => absurd (by decide) z)
                refine ax_lload dX12_found_244 rfl ?_
                refine ax_aload_n (i := 0) dX12_found_246 rfl rfl rfl ?_
                refine ax_mR hm dX12_found_247 fl_X12_13 rfl (by decide) ?_
                refine ax_sipush (v := nI 401) dX12_found_250 (by decide) ?_
                refine ax_iload_n (i := 2) dX12_found_253 rfl rfl ?_
                refine ax_imulN dX12_found_254 ?_
                refine ax_iload_n (i := 3) dX12_found_255 rfl rfl ?_
                refine ax_iaddN dX12_found_256 ?_
                refine ax_aload_n (i := 0) dX12_found_257 rfl rfl rfl ?_
                refine ax_mR hm dX12_found_258 fl_X12_24 rfl (by decide) ?_
                refine ax_iload_n (i := 1) dX12_found_261 rfl rfl ?_
                refine ax_mIN (N := 16) hm dX12_found_262 rfl rfl (by decide) (by omega) ?_
                refine ax_top ew ?_
                refine ax_isubN dX12_found_263 (by have := c_234.1; omega) ?_
                refine ax_mJN (N := 6416) hm dX12_found_264 rfl rfl (by decide) (by omega) ?_
                rw [show mL M 4 (401 * s + t - mE M 8 r) = mVal M s (t - mE M 8 r) from by unfold mVal; rw [Nat.add_sub_assoc (by have := c_234.1; omega)]]
                refine ax_lsub dX12_found_265 ?_
                refine ax_aload_n (i := 0) dX12_found_266 rfl rfl rfl ?_
                refine ax_mR hm dX12_found_267 fl_X12_27 rfl (by decide) ?_
                refine ax_iload_n (i := 1) dX12_found_270 rfl rfl ?_
                refine ax_mJN (N := 16) hm dX12_found_271 rfl rfl (by decide) (by omega) ?_
                refine ax_lcmp dX12_found_272 ?_
                refine ax_if_le (tgt := 280) dX12_found_273 (by decide) (fun c_273 => ?_) (fun c_273 => ?_)
                · refine ax_iconst (v := 0) dX12_found_280 (by decide) ?_
                  refine ax_iret dX12_found_281 rfl rfl ?_
                  exact fin1 h ((if_neg (fun z => z.2 c_21)).trans ((if_neg c_33).trans ((if_neg c_67).trans ((iC_t c_103).trans ((if_neg (fun z => by rw [z] at c4_131; exact absurd c4_131 (by decide))).trans ((if_neg (fun z => by rw [z] at c4_131; exact absurd c4_131 (by decide))).trans ((if_pos c4_131).trans ((iC_t c_234).trans (if_neg (fun z => absurd ((lg_cmp_gt _ _).mpr z) (Int32.not_lt.mpr c_273)))))))))))
                · refine ax_iconst (v := 1) dX12_found_276 (by decide) ?_
                  refine ax_goto (tgt := 281) dX12_found_277 (by decide) ?_
                  refine ax_iret dX12_found_281 rfl rfl ?_
                  exact fin1 h ((if_neg (fun z => z.2 c_21)).trans ((if_neg c_33).trans ((if_neg c_67).trans ((iC_t c_103).trans ((if_neg (fun z => by rw [z] at c4_131; exact absurd c4_131 (by decide))).trans ((if_neg (fun z => by rw [z] at c4_131; exact absurd c4_131 (by decide))).trans ((if_pos c4_131).trans ((iC_t c_234).trans (if_pos ((lg_cmp_gt _ _).mp (Int32.not_le.mp c_273)))))))))))
              · refine ax_if_ne (tgt := 244) dX12_found_237 (by decide) (fun z => absurd z (by decide)) (fun _ => ?_)
                refine ax_iconst (v := -1) dX12_found_240 (by decide) ?_
                refine ax_goto (tgt := 281) dX12_found_241 (by decide) ?_
                refine ax_iret dX12_found_281 rfl rfl ?_
                exact fin1 h ((if_neg (fun z => z.2 c_21)).trans ((if_neg c_33).trans ((if_neg c_67).trans ((iC_t c_103).trans ((if_neg (fun z => by rw [z] at c4_131; exact absurd c4_131 (by decide))).trans ((if_neg (fun z => by rw [z] at c4_131; exact absurd c4_131 (by decide))).trans ((if_pos c4_131).trans (iC_f c_234))))))))
            · refine ax_tableIn (tgt := 282) (off := 151) dX12_found_131 (by rw [c4_131]; decide) (by rw [c4_131]; decide) (by rw [c4_131]; decide) (by decide) ?_
              obtain ⟨ew, hw⟩ := hwk (by rw [c4_131]; decide) (by rw [c4_131]; decide) c_67
              refine ax_aload_n (i := 0) dX12_found_282 rfl rfl rfl ?_
              refine ax_iload_n (i := 1) dX12_found_283 rfl rfl ?_
              refine ax_iload_n (i := 2) dX12_found_284 rfl rfl ?_
              refine ax_iload_n (i := 3) dX12_found_285 rfl rfl ?_
              refine ax_aload_n (i := 0) dX12_found_286 rfl rfl rfl ?_
              refine ax_mR hm dX12_found_287 fl_X12_24 rfl (by decide) ?_
              refine ax_iload_n (i := 1) dX12_found_290 rfl rfl ?_
              refine ax_mIN (N := 16) hm dX12_found_291 rfl rfl (by decide) (by omega) ?_
              refine ax_top ew ?_
              refine ax_invV (c := 13) (n := 4) (As := [_, _, _, _]) dX12_found_292 cb_X12_isPart cv_X12_325.1 cv_X12_325.2.1 cv_X12_325.2.2 rfl (by decide) rfl ⟨Nat.le_of_ble_eq_true rfl, Nat.le_of_ble_eq_true rfl⟩ (Nat.le_of_ble_eq_true rfl) rfl (t_isPart hm hr hs ht (by omega) (fun c_292 => ?_) (fun c_292 => ?_))
              · refine ax_if_eq (tgt := 320) dX12_found_295 (by decide) (fun z => absurd z (by decide)) (fun _ => ?_)
                refine ax_aload_n (i := 0) dX12_found_298 rfl rfl rfl ?_
                refine ax_iload_n (i := 1) dX12_found_299 rfl rfl ?_
                refine ax_iload_n (i := 2) dX12_found_300 rfl rfl ?_
                refine ax_iload_n (i := 3) dX12_found_301 rfl rfl ?_
                refine ax_iconst (v := nI 2) dX12_found_302 (by decide) ?_
                refine ax_aload_n (i := 0) dX12_found_303 rfl rfl rfl ?_
                refine ax_mR hm dX12_found_304 fl_X12_24 rfl (by decide) ?_
                refine ax_iload_n (i := 1) dX12_found_307 rfl rfl ?_
                refine ax_mIN (N := 16) hm dX12_found_308 rfl rfl (by decide) (by omega) ?_
                refine ax_top ew ?_
                refine ax_imulN dX12_found_309 ?_
                refine ax_invV (c := 13) (n := 4) (As := [_, _, _, _]) dX12_found_310 cb_X12_isPart cv_X12_325.1 cv_X12_325.2.1 cv_X12_325.2.2 rfl (by decide) rfl ⟨Nat.le_of_ble_eq_true rfl, Nat.le_of_ble_eq_true rfl⟩ (Nat.le_of_ble_eq_true rfl) rfl (t_isPart hm hr hs ht (by omega) (fun c_310 => ?_) (fun c_310 => ?_))
                · refine ax_if_eq (tgt := 320) dX12_found_313 (by decide) (fun z => absurd z (by decide)) (fun _ => ?_)
                  refine ax_iconst (v := 1) dX12_found_316 (by decide) ?_
                  refine ax_goto (tgt := 321) dX12_found_317 (by decide) ?_
                  refine ax_iret dX12_found_321 rfl rfl ?_
                  exact fin1 h ((if_neg (fun z => z.2 c_21)).trans ((if_neg c_33).trans ((if_neg c_67).trans ((iC_t c_103).trans ((if_neg (fun z => by rw [z] at c4_131; exact absurd c4_131 (by decide))).trans ((if_neg (fun z => by rw [z] at c4_131; exact absurd c4_131 (by decide))).trans ((if_neg (fun z => by rw [z] at c4_131; exact absurd c4_131 (by decide))).trans ((if_pos c4_131).trans (bC_t ⟨c_292, c_310⟩)))))))))
                · refine ax_if_eq (tgt := 320) dX12_found_313 (by decide) (fun _ => ?_) (fun z => absurd (by decide) z)
                  refine ax_iconst (v := 0) dX12_found_320 (by decide) ?_
                  refine ax_iret dX12_found_321 rfl rfl ?_
                  exact fin1 h ((if_neg (fun z => z.2 c_21)).trans ((if_neg c_33).trans ((if_neg c_67).trans ((iC_t c_103).trans ((if_neg (fun z => by rw [z] at c4_131; exact absurd c4_131 (by decide))).trans ((if_neg (fun z => by rw [z] at c4_131; exact absurd c4_131 (by decide))).trans ((if_neg (fun z => by rw [z] at c4_131; exact absurd c4_131 (by decide))).trans ((if_pos c4_131).trans (bC_f (fun z => c_310 z.2))))))))))
              · refine ax_if_eq (tgt := 320) dX12_found_295 (by decide) (fun _ => ?_) (fun z => absurd (by decide) z)
                refine ax_iconst (v := 0) dX12_found_320 (by decide) ?_
                refine ax_iret dX12_found_321 rfl rfl ?_
                exact fin1 h ((if_neg (fun z => z.2 c_21)).trans ((if_neg c_33).trans ((if_neg c_67).trans ((iC_t c_103).trans ((if_neg (fun z => by rw [z] at c4_131; exact absurd c4_131 (by decide))).trans ((if_neg (fun z => by rw [z] at c4_131; exact absurd c4_131 (by decide))).trans ((if_neg (fun z => by rw [z] at c4_131; exact absurd c4_131 (by decide))).trans ((if_pos c4_131).trans (bC_f (fun z => c_292 z.1))))))))))
          · refine ax_if_ne (tgt := 111) dX12_found_106 (by decide) (fun z => absurd z (by decide)) (fun _ => ?_)
            refine ax_iconst (v := -1) dX12_found_109 (by decide) ?_
            refine ax_iret dX12_found_110 rfl rfl ?_
            exact fin1 h ((if_neg (fun z => z.2 c_21)).trans ((if_neg c_33).trans ((if_neg c_67).trans (iC_f c_103))))
        · refine ax_aload_n (i := 0) dX12_found_70 rfl rfl rfl ?_
          refine ax_aload_n (i := 0) dX12_found_71 rfl rfl rfl ?_
          refine ax_aload_n (i := 0) dX12_found_72 rfl rfl rfl ?_
          refine ax_mR hm dX12_found_73 fl_X12_27 rfl (by decide) ?_
          refine ax_iload_n (i := 1) dX12_found_76 rfl rfl ?_
          refine ax_mJN (N := 16) hm dX12_found_77 rfl rfl (by decide) (by omega) ?_
          refine ax_l2i dX12_found_78 ?_
          refine ax_top (hA (Classical.not_not.mp c_67)).1.1 ?_
          refine ax_iload_n (i := 2) dX12_found_79 rfl rfl ?_
          refine ax_iload_n (i := 3) dX12_found_80 rfl rfl ?_
          refine ax_invV (c := 13) (n := 3) (As := [_, _, _]) dX12_found_81 cb_X12_truthAt cv_X12_317.1 cv_X12_317.2.1 cv_X12_317.2.2 rfl (by decide) rfl ⟨Nat.le_of_ble_eq_true rfl, Nat.le_of_ble_eq_true rfl⟩ (Nat.le_of_ble_eq_true rfl) rfl (t_truthAt hm (hA (Classical.not_not.mp c_67)).1.2 hs ht ?_)
          refine ax_aload_n (i := 0) dX12_found_84 rfl rfl rfl ?_
          refine ax_aload_n (i := 0) dX12_found_85 rfl rfl rfl ?_
          refine ax_mR hm dX12_found_86 fl_X12_30 rfl (by decide) ?_
          refine ax_iload_n (i := 1) dX12_found_89 rfl rfl ?_
          refine ax_mIN (N := 16) hm dX12_found_90 rfl rfl (by decide) (by omega) ?_
          refine ax_top (hA (Classical.not_not.mp c_67)).2.1 ?_
          refine ax_iload_n (i := 2) dX12_found_91 rfl rfl ?_
          refine ax_iload_n (i := 3) dX12_found_92 rfl rfl ?_
          refine ax_invV (c := 13) (n := 3) (As := [_, _, _]) dX12_found_93 cb_X12_truthAt cv_X12_317.1 cv_X12_317.2.1 cv_X12_317.2.2 rfl (by decide) rfl ⟨Nat.le_of_ble_eq_true rfl, Nat.le_of_ble_eq_true rfl⟩ (Nat.le_of_ble_eq_true rfl) rfl (t_truthAt hm (hA (Classical.not_not.mp c_67)).2.2 hs ht ?_)
          refine ax_invV (c := 13) (n := 2) (As := [_, _]) dX12_found_96 cb_X12_both cv_X12_321.1 cv_X12_321.2.1 cv_X12_321.2.2 rfl (by decide) rfl ⟨Nat.le_of_ble_eq_true rfl, Nat.le_of_ble_eq_true rfl⟩ (Nat.le_of_ble_eq_true rfl) rfl (t_both hm ?_)
          refine ax_iret dX12_found_99 rfl rfl ?_
          exact fin1 h ((if_neg (fun z => z.2 c_21)).trans ((if_neg c_33).trans (if_pos (Classical.not_not.mp c_67))))
      · obtain ⟨ew, hw⟩ := hwk (by rw [Classical.not_not.mp c_33]; decide) (by rw [Classical.not_not.mp c_33]; decide) (by rw [Classical.not_not.mp c_33]; decide)
        refine ax_aload_n (i := 0) dX12_found_36 rfl rfl rfl ?_
        refine ax_iload_n (i := 2) dX12_found_37 rfl rfl ?_
        refine ax_iload_n (i := 3) dX12_found_38 rfl rfl ?_
        refine ax_aload_n (i := 0) dX12_found_39 rfl rfl rfl ?_
        refine ax_mR hm dX12_found_40 fl_X12_24 rfl (by decide) ?_
        refine ax_iload_n (i := 1) dX12_found_43 rfl rfl ?_
        refine ax_mIN (N := 16) hm dX12_found_44 rfl rfl (by decide) (by omega) ?_
        refine ax_top ew ?_
        refine ax_iconst (v := 0) dX12_found_45 (by decide) ?_
        refine ax_lconst (v := 0) dX12_found_46 (by decide) ?_
        refine ax_invV (c := 13) (n := 5) (As := [_, _, _, _, _]) dX12_found_47 cb_X12_countOf cv_X12_309.1 cv_X12_309.2.1 cv_X12_309.2.2 rfl (by decide) rfl ⟨Nat.le_of_ble_eq_true rfl, Nat.le_of_ble_eq_true rfl⟩ (Nat.le_of_ble_eq_true rfl) rfl (t_countOf (ab := False) (x4 := 0) hm hs ht (by omega) (by decide) ?_)
        refine ax_if_ne (tgt := 57) dX12_found_50 (by decide) (fun c_50 => ?_) (fun c_50 => ?_)
        · refine ax_iconst (v := 0) dX12_found_57 (by decide) ?_
          refine ax_iret dX12_found_58 rfl rfl ?_
          exact fin1 h ((if_neg (fun z => z.2 c_21)).trans ((if_pos (Classical.not_not.mp c_33)).trans (if_neg (fun z => c_50 ((nI_z (mCnt_le _ _ _ _ _ _) (by omega)).mpr z)))))
        · refine ax_iconst (v := 1) dX12_found_53 (by decide) ?_
          refine ax_goto (tgt := 58) dX12_found_54 (by decide) ?_
          refine ax_iret dX12_found_58 rfl rfl ?_
          exact fin1 h ((if_neg (fun z => z.2 c_21)).trans ((if_pos (Classical.not_not.mp c_33)).trans (if_pos ((nI_z (mCnt_le _ _ _ _ _ _) (by omega)).mp (Classical.not_not.mp c_50)))))
    · refine ax_iconst (v := -1) dX12_found_24 (by decide) ?_
      refine ax_iret dX12_found_25 rfl rfl ?_
      exact fin1 h (if_pos ⟨Int32.not_lt.mp c_6, c_21⟩)
