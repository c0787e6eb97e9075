theorem lt_or_leI (a b : Int32) : a < b ∨ b ≤ a := (Classical.em (a < b)).elim Or.inl (fun h => Or.inr (Int32.not_lt.mp h))
set_option maxHeartbeats 4000000 in
set_option maxRecDepth 100000 in
theorem c_holds {E : awE} {S : awS} {M : aM} {Q : Option Value → awS → Nat → Nat → Prop} (R : cR (fun _ _ => mN M 1) S M) (hr0 : cRest M) {l i : Int32} (h : Q (some (.int (mHolds M l i).2)) S 0 0) : awT true E m_X11_holds [.ref (nm 12 0), .int l, .int i] S Q := by
  refine awT.of (by decide) (by decide) (Nat.le_of_ble_eq_true rfl) ?_
  refine ax_aload_n (i := 0) dX11_holds_0 rfl rfl rfl ?_
  refine ax_iload_n (i := 1) dX11_holds_1 rfl rfl ?_
  refine ax_invV (c := 12) (n := 1) (As := [_]) dX11_holds_2 cb_X11_letterAt cv_X11_410.1 cv_X11_410.2.1 cv_X11_410.2.2 rfl (by decide) rfl ⟨Nat.le_of_ble_eq_true rfl, Nat.le_of_ble_eq_true rfl⟩ (Nat.le_of_ble_eq_true rfl) rfl (c_letterAt R (fun c_2 => ?_) (fun c_2 => ?_))
  · refine ax_astore_n (i := 3) (lv' := [(3, _), (0, _), (1, _), (2, _)]) dX11_holds_5 rfl (by decide) rfl rfl ?_
    refine ax_aload_n (i := 3) dX11_holds_6 rfl rfl rfl ?_
    refine ax_ifnonnull_t (tgt := 14) dX11_holds_7 (by decide) ?_
    refine ax_aload_n (i := 3) dX11_holds_14 rfl rfl rfl ?_
    refine ax_iload_n (i := 2) dX11_holds_15 rfl rfl ?_
    have e_l := R.lE c_2
    have e_lb := e_l.2
    have e_nl := R.nL
    have e_l2 : nN l < 200 := by omega
    have em := R.mI.A (k := 67) (n := 200) (b := 41) (by decide) e_l2
    have hL := R.ltr _ e_lb
    have eM := (R.int (f := 4) (k := 6) (m := 67) (q := 63) (by decide) e_lb).trans em.1
    refine ax_invV (c := 4) (n := 1) (As := [_]) dX11_holds_16 cb_X3_alarmAt cv_X11_419.1 cv_X11_419.2.1 cv_X11_419.2.2 rfl (by decide) rfl ⟨Nat.le_of_ble_eq_true rfl, Nat.le_of_ble_eq_true rfl⟩ (Nat.le_of_ble_eq_true rfl) rfl (c_alarmAtL (m := mE M 67 (nN l)) hL ⟨eM, by omega⟩ (fun j ej hj => ?_) (fun c_16 => ?_))
    · refine ax_iret dX11_holds_19 rfl rfl ?_
      exact fin1 h ((congrArg Prod.snd (if_neg (fun z => z.elim (fun w => w c_2) (fun z => z.elim (fun w => Int32.not_lt.mpr (by rw [ej]; exact nI_nn (by omega)) w) (fun w => absurd (nI_lt hj (by omega)) (Int32.not_lt.mpr (by rw [← em.1, ← ej]; exact w))))))).trans (by rw [(R.row _ e_lb).2 j hj, ej]; show mA M 68 (40 * nN l + nN (nI j)) = _; rw [show nN (nI j) = j from nI_clamp (by omega)]))
    · refine ax_iret dX11_holds_19 rfl rfl ?_
      exact fin1 h ((congrArg Prod.snd (if_pos (Or.inr ((lt_or_leI i 0).elim Or.inl (fun q => Or.inr (Int32.not_lt.mp (fun w => c_16 ⟨q, by rw [← em.1]; exact w⟩))))))))
  · refine ax_astore_n (i := 3) (lv' := [(3, _), (0, _), (1, _), (2, _)]) dX11_holds_5 rfl (by decide) rfl rfl ?_
    refine ax_aload_n (i := 3) dX11_holds_6 rfl rfl rfl ?_
    refine ax_ifnonnull_f (k0 := 14) dX11_holds_7 (by decide) ?_
    refine ax_iconst (v := -1) dX11_holds_10 (by decide) ?_
    refine ax_goto (tgt := 19) dX11_holds_11 (by decide) ?_
    refine ax_iret dX11_holds_19 rfl rfl ?_
    exact fin1 h ((congrArg Prod.snd (if_pos (Or.inl c_2))))
set_option maxHeartbeats 4000000 in
set_option maxRecDepth 100000 in
theorem c_why {E : awE} {S : awS} {M : aM} {Q : Option Value → awS → Nat → Nat → Prop} (R : cR (fun _ _ => mN M 1) S M) (hr0 : cRest M) {l : Int32} (h : Q (some (.int (mWhy M l).2)) S 0 0) : awT true E m_X11_why [.ref (nm 12 0), .int l] S Q := by
  refine awT.of (by decide) (by decide) (Nat.le_of_ble_eq_true rfl) ?_
  refine ax_aload_n (i := 0) dX11_why_0 rfl rfl rfl ?_
  refine ax_iload_n (i := 1) dX11_why_1 rfl rfl ?_
  refine ax_invV (c := 12) (n := 1) (As := [_]) dX11_why_2 cb_X11_letterAt cv_X11_410.1 cv_X11_410.2.1 cv_X11_410.2.2 rfl (by decide) rfl ⟨Nat.le_of_ble_eq_true rfl, Nat.le_of_ble_eq_true rfl⟩ (Nat.le_of_ble_eq_true rfl) rfl (c_letterAt R (fun c_2 => ?_) (fun c_2 => ?_))
  · refine ax_astore_n (i := 2) (lv' := [(2, _), (0, _), (1, _)]) dX11_why_5 rfl (by decide) rfl rfl ?_
    refine ax_aload_n (i := 2) dX11_why_6 rfl rfl rfl ?_
    refine ax_ifnonnull_t (tgt := 14) dX11_why_7 (by decide) ?_
    refine ax_aload_n (i := 2) dX11_why_14 rfl rfl rfl ?_
    refine ax_getI dX11_why_15 fl_X11_433 rfl rfl rfl ?_
    refine ax_iret dX11_why_18 rfl rfl ?_
    exact fin1 h ((congrArg Prod.snd (if_pos c_2)).trans ((R.int (f := 4) (k := 1) (m := 66) (q := 63) (by decide) (R.lE c_2).2).symm))
  · refine ax_astore_n (i := 2) (lv' := [(2, _), (0, _), (1, _)]) dX11_why_5 rfl (by decide) rfl rfl ?_
    refine ax_aload_n (i := 2) dX11_why_6 rfl rfl rfl ?_
    refine ax_ifnonnull_f (k0 := 14) dX11_why_7 (by decide) ?_
    refine ax_iconst (v := -1) dX11_why_10 (by decide) ?_
    refine ax_goto (tgt := 18) dX11_why_11 (by decide) ?_
    refine ax_iret dX11_why_18 rfl rfl ?_
    exact fin1 h ((congrArg Prod.snd (if_neg c_2)))
set_option maxHeartbeats 4000000 in
set_option maxRecDepth 100000 in
theorem c_whyNot {E : awE} {S : awS} {M : aM} {Q : Option Value → awS → Nat → Nat → Prop} (R : cR (fun _ _ => mN M 1) S M) (hr0 : cRest M) {r s : Int32} (h : Q (some (.int (mWhyNot M r s).2)) S 0 0) : awT true E m_X11_whyNot [.ref (nm 12 0), .int r, .int s] S Q := by
  refine awT.of (by decide) (by decide) (Nat.le_of_ble_eq_true rfl) ?_
  refine ax_aload_n (i := 0) dX11_whyNot_0 rfl rfl rfl ?_
  refine ax_iload_n (i := 1) dX11_whyNot_1 rfl rfl ?_
  refine ax_iload_n (i := 2) dX11_whyNot_2 rfl rfl ?_
  refine ax_invV (c := 12) (n := 2) (As := [_, _]) dX11_whyNot_3 cb_X11_watchOf cv_X11_247.1 cv_X11_247.2.1 cv_X11_247.2.2 rfl (by decide) rfl ⟨Nat.le_of_ble_eq_true rfl, Nat.le_of_ble_eq_true rfl⟩ (Nat.le_of_ble_eq_true rfl) rfl (c_watchOf R (fun c_3 => ?_) (fun c_3 => ?_))
  · refine ax_astore_n (i := 3) (lv' := [(3, _), (0, _), (1, _), (2, _)]) dX11_whyNot_6 rfl (by decide) rfl rfl ?_
    refine ax_aload_n (i := 3) dX11_whyNot_7 rfl rfl rfl ?_
    refine ax_ifnonnull_t (tgt := 13) dX11_whyNot_8 (by decide) ?_
    have e_r := R.rE c_3.1
    have e_s := R.sE c_3.2
    have e_rb := e_r.2
    have e_sb := e_s.2
    have e_ns := R.nS
    have hs16 : nN s < 16 := by omega
    have hw := R.wat3 e_r.2 hs16
    refine ax_aload_n (i := 3) dX11_whyNot_13 rfl rfl rfl ?_
    refine ax_getQ dX11_whyNot_14 fl_X11_219 rfl rfl rfl rfl ?_
    refine ax_ifnonnull (tgt := 33) dX11_whyNot_17 (by decide) (fun n_17 c_17 => ?_) (fun c_17 => ?_)
    · have hl := R.watI hw c_17
      have ha := (R.lasA hw hl).1
      refine ax_aload_n (i := 3) dX11_whyNot_33 rfl rfl rfl ?_
      refine ax_getR dX11_whyNot_34 fl_X11_219 rfl rfl rfl (R.watS hw hl) ?_
      refine ax_getI dX11_whyNot_37 fl_X11_399 rfl rfl rfl ?_
      refine ax_if_eq (tgt := 45) dX11_whyNot_40 (by decide) (fun c_40 => ?_) (fun c_40 => ?_)
      · refine ax_aload_n (i := 3) dX11_whyNot_45 rfl rfl rfl ?_
        refine ax_getR dX11_whyNot_46 fl_X11_219 rfl rfl rfl (R.watS hw hl) ?_
        refine ax_getI dX11_whyNot_49 fl_X11_402 rfl rfl rfl ?_
        refine ax_if_eq (tgt := 57) dX11_whyNot_52 (by decide) (fun c_52 => ?_) (fun c_52 => ?_)
        · refine ax_aload_n (i := 3) dX11_whyNot_57 rfl rfl rfl ?_
          refine ax_getR dX11_whyNot_58 fl_X11_219 rfl rfl rfl (R.watS hw hl) ?_
          refine ax_invV (c := 1) (n := 0) (As := []) dX11_whyNot_61 cb_X0_isFresh cv_X11_436.1 cv_X11_436.2.1 cv_X11_436.2.2 rfl (by decide) rfl ⟨Nat.le_of_ble_eq_true rfl, Nat.le_of_ble_eq_true rfl⟩ (Nat.le_of_ble_eq_true rfl) rfl (c_isFresh (fun c_61 => ?_) (fun c_61 => ?_))
          · refine ax_if_eq (tgt := 71) dX11_whyNot_64 (by decide) (fun z => absurd z (by decide)) (fun _ => ?_)
            refine ax_iconst (v := 5) dX11_whyNot_67 (by decide) ?_
            refine ax_goto (tgt := 72) dX11_whyNot_68 (by decide) ?_
            refine ax_iret dX11_whyNot_72 rfl rfl ?_
            exact fin1 h ((congrArg Prod.snd ((if_neg (fun z => z c_3)).trans (if_neg hl))).trans ((if_neg (fun z => z ((hr0.flg R ha).1.symm.trans c_40))).trans ((if_neg (fun z => z ((hr0.flg R ha).2.1.symm.trans c_52))).trans (if_pos ((hr0.flg R ha).2.2.2.mpr c_61)))))
          · refine ax_if_eq (tgt := 71) dX11_whyNot_64 (by decide) (fun _ => ?_) (fun z => absurd (by decide) z)
            refine ax_iconst (v := 4) dX11_whyNot_71 (by decide) ?_
            refine ax_iret dX11_whyNot_72 rfl rfl ?_
            exact fin1 h ((congrArg Prod.snd ((if_neg (fun z => z c_3)).trans (if_neg hl))).trans ((if_neg (fun z => z ((hr0.flg R ha).1.symm.trans c_40))).trans ((if_neg (fun z => z ((hr0.flg R ha).2.1.symm.trans c_52))).trans (if_neg (fun z => c_61 ((hr0.flg R ha).2.2.2.mp z))))))
        · refine ax_iconst (v := 3) dX11_whyNot_55 (by decide) ?_
          refine ax_iret dX11_whyNot_56 rfl rfl ?_
          exact fin1 h ((congrArg Prod.snd ((if_neg (fun z => z c_3)).trans (if_neg hl))).trans ((if_neg (fun z => z ((hr0.flg R ha).1.symm.trans c_40))).trans (if_pos (fun z => c_52 ((hr0.flg R ha).2.1.trans z)))))
      · refine ax_iconst (v := 2) dX11_whyNot_43 (by decide) ?_
        refine ax_iret dX11_whyNot_44 rfl rfl ?_
        exact fin1 h ((congrArg Prod.snd ((if_neg (fun z => z c_3)).trans (if_neg hl))).trans (if_pos (fun z => c_40 ((hr0.flg R ha).1.trans z))))
    · refine ax_aload_n (i := 3) dX11_whyNot_20 rfl rfl rfl ?_
      refine ax_getI dX11_whyNot_21 fl_X11_223 rfl rfl rfl ?_
      refine ax_if_le (tgt := 31) dX11_whyNot_24 (by decide) (fun c_24 => ?_) (fun c_24 => ?_)
      · refine ax_iconst (v := 0) dX11_whyNot_31 (by decide) ?_
        refine ax_iret dX11_whyNot_32 rfl rfl ?_
        exact fin1 h ((congrArg Prod.snd ((if_neg (fun z => z c_3)).trans (if_pos (R.watJ hw c_17)))).trans (if_neg (fun z => Int32.not_lt.mpr c_24 (by rw [(R.int (f := 11) (k := 2) (m := 18) (q := 100) (by decide) hw)]; exact z))))
      · refine ax_iconst (v := 1) dX11_whyNot_27 (by decide) ?_
        refine ax_goto (tgt := 32) dX11_whyNot_28 (by decide) ?_
        refine ax_iret dX11_whyNot_32 rfl rfl ?_
        exact fin1 h ((congrArg Prod.snd ((if_neg (fun z => z c_3)).trans (if_pos (R.watJ hw c_17)))).trans (if_pos (by rw [← (R.int (f := 11) (k := 2) (m := 18) (q := 100) (by decide) hw)]; exact Int32.not_le.mp c_24)))
  · refine ax_astore_n (i := 3) (lv' := [(3, _), (0, _), (1, _), (2, _)]) dX11_whyNot_6 rfl (by decide) rfl rfl ?_
    refine ax_aload_n (i := 3) dX11_whyNot_7 rfl rfl rfl ?_
    refine ax_ifnonnull_f (k0 := 13) dX11_whyNot_8 (by decide) ?_
    refine ax_iconst (v := -1) dX11_whyNot_11 (by decide) ?_
    refine ax_iret dX11_whyNot_12 rfl rfl ?_
    exact fin1 h ((congrArg Prod.snd (if_pos c_3)))
set_option maxHeartbeats 4000000 in
set_option maxRecDepth 100000 in
theorem c_lastingCount {E : awE} {S : awS} {M : aM} {τ : Nat → Nat → Nat} {Q : Option Value → awS → Nat → Nat → Prop} (R : cR τ S M) (h : Q (some (.int (nI (mCntP (fun x => mA M 34 x = 0) (mN M 30))))) S 0 0) : awT true E m_X11_lastingCount [.ref (nm 12 0)] S Q := by
  refine awT.of (by decide) (by decide) (Nat.le_of_ble_eq_true rfl) ?_
  have e_b : (mN M 30) ≤ 300 := mS_b R.mI (by decide)
  have L : ∀ (m k : Nat), k + m = (mN M 30) → awX true E m_X11_lastingCount 4 [(2, .int (nI k)), (1, .int (nI (mCntP (fun x => mA M 34 x = 0) k))), (0, .ref (nm 12 0))] [] S 0 0 Q := by
    intro m
    induction m with
    | zero =>
      intro k hm1 
      refine ax_iload_n (i := 2) dX11_lastingCount_4 rfl rfl ?_
      refine ax_aload_n (i := 0) dX11_lastingCount_5 rfl rfl rfl ?_
      refine ax_getR dX11_lastingCount_6 fl_X11_22 rfl rfl rfl (R.tow.1 3 (by decide)) ?_
      refine ax_invV (c := 0) (n := 0) (As := []) dX11_lastingCount_9 cb_Jx4a65c_size_8abf5 cv_X11_75.1 cv_X11_75.2.1 cv_X11_75.2.2 rfl (by decide) rfl ⟨Nat.le_of_ble_eq_true rfl, Nat.le_of_ble_eq_true rfl⟩ (Nat.le_of_ble_eq_true rfl) rfl (t_lsSize (q := 3) (by decide) (R.lq (by decide)) (R.lst.2.2.2.1) (Nat.lt_of_le_of_lt (mS_b R.mI (k := 30) (b := 300) (by decide)) (by decide)) ?_)
      refine ax_icmp_ge (tgt := 41) dX11_lastingCount_12 (by decide) (fun c_12 => ?_) (fun c_12 => ?_)
      · have hk2 : k = (mN M 30) := Nat.le_antisymm (by omega) (ge_of_c (b := (mN M 30)) rfl c_12 (by omega))
        refine ax_iload_n (i := 1) dX11_lastingCount_41 rfl rfl ?_
        refine ax_iret dX11_lastingCount_42 rfl rfl ?_
        rw [hk2]
        exact h
      · exact absurd (lt_of_c (b := (mN M 30)) rfl c_12 (by omega)) (by omega)
    | succ m ih =>
      intro k hm1 
      have NX : ∀ lv : List (Nat × Value), [(1, Value.int (nI (mCntP (fun x => mA M 34 x = 0) (k + 1)))), (2, .int (nI k)), (0, .ref (nm 12 0))].map (fun q => lk lv q.1) = [(1, Value.int (nI (mCntP (fun x => mA M 34 x = 0) (k + 1)))), (2, .int (nI k)), (0, .ref (nm 12 0))].map (fun q => some q.2) → awX true E m_X11_lastingCount 35 lv [] S 0 0 Q := by
        intro lv hlv
        refine ax_loc hlv ?_
        refine ax_iinc (v := _ + 1) (lv' := [(2, _), (1, _), (0, .ref (nm 12 0))]) dX11_lastingCount_35 rfl rfl (by decide) rfl ?_
        refine ax_goto (tgt := 4) dX11_lastingCount_38 (by decide) ?_
        rw [nI_1]
        exact ax_loc rfl (ih (k + 1) (by omega))
      refine ax_iload_n (i := 2) dX11_lastingCount_4 rfl rfl ?_
      refine ax_aload_n (i := 0) dX11_lastingCount_5 rfl rfl rfl ?_
      refine ax_getR dX11_lastingCount_6 fl_X11_22 rfl rfl rfl (R.tow.1 3 (by decide)) ?_
      refine ax_invV (c := 0) (n := 0) (As := []) dX11_lastingCount_9 cb_Jx4a65c_size_8abf5 cv_X11_75.1 cv_X11_75.2.1 cv_X11_75.2.2 rfl (by decide) rfl ⟨Nat.le_of_ble_eq_true rfl, Nat.le_of_ble_eq_true rfl⟩ (Nat.le_of_ble_eq_true rfl) rfl (t_lsSize (q := 3) (by decide) (R.lq (by decide)) (R.lst.2.2.2.1) (Nat.lt_of_le_of_lt (mS_b R.mI (k := 30) (b := 300) (by decide)) (by decide)) ?_)
      refine ax_icmp_ge (tgt := 41) dX11_lastingCount_12 (by decide) (fun c_12 => ?_) (fun c_12 => ?_)
      · exact absurd (ge_of_c (b := (mN M 30)) rfl c_12 (by omega)) (by omega)
      · have hk2 : k < (mN M 30) := lt_of_c (b := (mN M 30)) rfl c_12 (by omega)
        refine ax_iload_n (i := 1) dX11_lastingCount_15 rfl rfl ?_
        refine ax_aload_n (i := 0) dX11_lastingCount_16 rfl rfl rfl ?_
        refine ax_getR dX11_lastingCount_17 fl_X11_22 rfl rfl rfl (R.tow.1 3 (by decide)) ?_
        refine ax_iload_n (i := 2) dX11_lastingCount_20 rfl rfl ?_
        refine ax_invV (c := 0) (n := 1) (As := [_]) dX11_lastingCount_21 cb_Jx4a65c_get_915e3 cv_X11_115.1 cv_X11_115.2.1 cv_X11_115.2.2 rfl (by decide) rfl ⟨Nat.le_of_ble_eq_true rfl, Nat.le_of_ble_eq_true rfl⟩ (Nat.le_of_ble_eq_true rfl) rfl (t_lsGet (q := 3) (by decide) (R.lq (by decide)) (R.lst.2.2.2.1) (Nat.lt_of_le_of_lt (mS_b R.mI (k := 30) (b := 300) (by decide)) (by decide)) (by omega) ?_)
        refine ax_cast (c := 1) dX11_lastingCount_24 kl_X11_240 rfl (by decide) ?_
        refine ax_invV (c := 1) (n := 0) (As := []) dX11_lastingCount_27 cb_X0_lasts cv_X11_273.1 cv_X11_273.2.1 cv_X11_273.2.2 rfl (by decide) rfl ⟨Nat.le_of_ble_eq_true rfl, Nat.le_of_ble_eq_true rfl⟩ (Nat.le_of_ble_eq_true rfl) rfl (c_lasts (fun c_27 => ?_) (fun c_27 => ?_))
        · refine ax_invS (n := 1) (As := [_]) dX11_lastingCount_30 cb_X11_bit cs_X11_165.1 cs_X11_165.2 rfl ⟨Nat.le_of_ble_eq_true rfl, Nat.le_of_ble_eq_true rfl⟩ (Nat.le_of_ble_eq_true rfl) rfl (c_bit1 ?_)
          refine ax_iadd1 dX11_lastingCount_33 ?_
          refine ax_istore_n (i := 1) (lv' := [(1, _), (2, _), (0, _)]) dX11_lastingCount_34 rfl (by decide) rfl ?_
          rw [show mCntP (fun x => mA M 34 x = 0) k + 1 = mCntP (fun x => mA M 34 x = 0) (k + 1) from by rw [mCntP_s, iC_t (show (fun x => mA M 34 x = 0) k from (R.int (f := 1) (k := 5) (m := 34) (q := 30) (by decide) hk2).symm.trans c_27)]]
          exact NX _ rfl
        · refine ax_invS (n := 1) (As := [_]) dX11_lastingCount_30 cb_X11_bit cs_X11_165.1 cs_X11_165.2 rfl ⟨Nat.le_of_ble_eq_true rfl, Nat.le_of_ble_eq_true rfl⟩ (Nat.le_of_ble_eq_true rfl) rfl (c_bit0 ?_)
          refine ax_iadd dX11_lastingCount_33 ?_
          refine ax_istore_n (i := 1) (lv' := [(1, _), (2, _), (0, _)]) dX11_lastingCount_34 rfl (by decide) rfl ?_
          rw [show nI (mCntP (fun x => mA M 34 x = 0) k) + 0 = nI (mCntP (fun x => mA M 34 x = 0) (k + 1)) from by rw [mCntP_s, iC_f (show ¬ (fun x => mA M 34 x = 0) k from fun z => c_27 ((R.int (f := 1) (k := 5) (m := 34) (q := 30) (by decide) hk2).trans z))]; exact Int32.add_zero _]
          exact NX _ rfl
  refine ax_iconst (v := nI 0) dX11_lastingCount_0 (by decide) ?_
  refine ax_istore_n (i := 1) (lv' := [(1, _), (0, _)]) dX11_lastingCount_1 rfl (by decide) rfl ?_
  refine ax_iconst (v := nI 0) dX11_lastingCount_2 (by decide) ?_
  refine ax_istore_n (i := 2) (lv' := [(2, _), (1, _), (0, _)]) dX11_lastingCount_3 rfl (by decide) rfl ?_
  exact ax_loc rfl (L (mN M 30) 0 (by omega))
set_option maxHeartbeats 4000000 in
set_option maxRecDepth 100000 in
theorem c_unansweredCount {E : awE} {S : awS} {M : aM} {τ : Nat → Nat → Nat} {Q : Option Value → awS → Nat → Nat → Prop} (R : cR τ S M) (h : Q (some (.int (nI (mCntP (fun l => mA M 73 l < 0) (mN M 63))))) S 0 0) : awT true E m_X11_unansweredCount [.ref (nm 12 0)] S Q := by
  refine awT.of (by decide) (by decide) (Nat.le_of_ble_eq_true rfl) ?_
  have e_b : (mN M 63) ≤ 200 := mS_b R.mI (by decide)
  have L : ∀ (m k : Nat), k + m = (mN M 63) → awX true E m_X11_unansweredCount 4 [(2, .int (nI k)), (1, .int (nI (mCntP (fun l => mA M 73 l < 0) k))), (0, .ref (nm 12 0))] [] S 0 0 Q := by
    intro m
    induction m with
    | zero =>
      intro k hm1 
      refine ax_iload_n (i := 2) dX11_unansweredCount_4 rfl rfl ?_
      refine ax_aload_n (i := 0) dX11_unansweredCount_5 rfl rfl rfl ?_
      refine ax_getR dX11_unansweredCount_6 fl_X11_28 rfl rfl rfl (R.tow.1 5 (by decide)) ?_
      refine ax_invV (c := 0) (n := 0) (As := []) dX11_unansweredCount_9 cb_Jx4a65c_size_8abf5 cv_X11_75.1 cv_X11_75.2.1 cv_X11_75.2.2 rfl (by decide) rfl ⟨Nat.le_of_ble_eq_true rfl, Nat.le_of_ble_eq_true rfl⟩ (Nat.le_of_ble_eq_true rfl) rfl (t_lsSize (q := 5) (by decide) (R.lq (by decide)) (R.lst.2.2.2.2.2.1) (Nat.lt_of_le_of_lt (mS_b R.mI (k := 63) (b := 200) (by decide)) (by decide)) ?_)
      refine ax_icmp_ge (tgt := 49) dX11_unansweredCount_12 (by decide) (fun c_12 => ?_) (fun c_12 => ?_)
      · have hk2 : k = (mN M 63) := Nat.le_antisymm (by omega) (ge_of_c (b := (mN M 63)) rfl c_12 (by omega))
        refine ax_iload_n (i := 1) dX11_unansweredCount_49 rfl rfl ?_
        refine ax_iret dX11_unansweredCount_50 rfl rfl ?_
        rw [hk2]
        exact h
      · exact absurd (lt_of_c (b := (mN M 63)) rfl c_12 (by omega)) (by omega)
    | succ m ih =>
      intro k hm1 
      have NX : ∀ lv : List (Nat × Value), [(1, Value.int (nI (mCntP (fun l => mA M 73 l < 0) (k + 1)))), (2, .int (nI k)), (0, .ref (nm 12 0))].map (fun q => lk lv q.1) = [(1, Value.int (nI (mCntP (fun l => mA M 73 l < 0) (k + 1)))), (2, .int (nI k)), (0, .ref (nm 12 0))].map (fun q => some q.2) → awX true E m_X11_unansweredCount 43 lv [] S 0 0 Q := by
        intro lv hlv
        refine ax_loc hlv ?_
        refine ax_iinc (v := _ + 1) (lv' := [(2, _), (1, _), (0, .ref (nm 12 0))]) dX11_unansweredCount_43 rfl rfl (by decide) rfl ?_
        refine ax_goto (tgt := 4) dX11_unansweredCount_46 (by decide) ?_
        rw [nI_1]
        exact ax_loc rfl (ih (k + 1) (by omega))
      refine ax_iload_n (i := 2) dX11_unansweredCount_4 rfl rfl ?_
      refine ax_aload_n (i := 0) dX11_unansweredCount_5 rfl rfl rfl ?_
      refine ax_getR dX11_unansweredCount_6 fl_X11_28 rfl rfl rfl (R.tow.1 5 (by decide)) ?_
      refine ax_invV (c := 0) (n := 0) (As := []) dX11_unansweredCount_9 cb_Jx4a65c_size_8abf5 cv_X11_75.1 cv_X11_75.2.1 cv_X11_75.2.2 rfl (by decide) rfl ⟨Nat.le_of_ble_eq_true rfl, Nat.le_of_ble_eq_true rfl⟩ (Nat.le_of_ble_eq_true rfl) rfl (t_lsSize (q := 5) (by decide) (R.lq (by decide)) (R.lst.2.2.2.2.2.1) (Nat.lt_of_le_of_lt (mS_b R.mI (k := 63) (b := 200) (by decide)) (by decide)) ?_)
      refine ax_icmp_ge (tgt := 49) dX11_unansweredCount_12 (by decide) (fun c_12 => ?_) (fun c_12 => ?_)
      · exact absurd (ge_of_c (b := (mN M 63)) rfl c_12 (by omega)) (by omega)
      · have hk2 : k < (mN M 63) := lt_of_c (b := (mN M 63)) rfl c_12 (by omega)
        refine ax_iload_n (i := 1) dX11_unansweredCount_15 rfl rfl ?_
        refine ax_aload_n (i := 0) dX11_unansweredCount_16 rfl rfl rfl ?_
        refine ax_getR dX11_unansweredCount_17 fl_X11_28 rfl rfl rfl (R.tow.1 5 (by decide)) ?_
        refine ax_iload_n (i := 2) dX11_unansweredCount_20 rfl rfl ?_
        refine ax_invV (c := 0) (n := 1) (As := [_]) dX11_unansweredCount_21 cb_Jx4a65c_get_915e3 cv_X11_115.1 cv_X11_115.2.1 cv_X11_115.2.2 rfl (by decide) rfl ⟨Nat.le_of_ble_eq_true rfl, Nat.le_of_ble_eq_true rfl⟩ (Nat.le_of_ble_eq_true rfl) rfl (t_lsGet (q := 5) (by decide) (R.lq (by decide)) (R.lst.2.2.2.2.2.1) (Nat.lt_of_le_of_lt (mS_b R.mI (k := 63) (b := 200) (by decide)) (by decide)) (by omega) ?_)
        refine ax_cast (c := 4) dX11_unansweredCount_24 kl_X11_313 rfl (by decide) ?_
        refine ax_invV (c := 4) (n := 0) (As := []) dX11_unansweredCount_27 cb_X3_isAnswered cv_X11_442.1 cv_X11_442.2.1 cv_X11_442.2.2 rfl (by decide) rfl ⟨Nat.le_of_ble_eq_true rfl, Nat.le_of_ble_eq_true rfl⟩ (Nat.le_of_ble_eq_true rfl) rfl (c_isAnswered (fun c_27 => ?_) (fun c_27 => ?_))
        · refine ax_if_ne (tgt := 37) dX11_unansweredCount_30 (by decide) (fun _ => ?_) (fun z => absurd (by decide) z)
          refine ax_iconst (v := 0) dX11_unansweredCount_37 (by decide) ?_
          refine ax_invS (n := 1) (As := [_]) dX11_unansweredCount_38 cb_X11_bit cs_X11_165.1 cs_X11_165.2 rfl ⟨Nat.le_of_ble_eq_true rfl, Nat.le_of_ble_eq_true rfl⟩ (Nat.le_of_ble_eq_true rfl) rfl (c_bit0 ?_)
          refine ax_iadd dX11_unansweredCount_41 ?_
          refine ax_istore_n (i := 1) (lv' := [(1, _), (2, _), (0, _)]) dX11_unansweredCount_42 rfl (by decide) rfl ?_
          rw [show nI (mCntP (fun l => mA M 73 l < 0) k) + 0 = nI (mCntP (fun l => mA M 73 l < 0) (k + 1)) from by rw [mCntP_s, iC_f (show ¬ (fun l => mA M 73 l < 0) k from fun z => absurd c_27 (by rw [(R.int (f := 4) (k := 8) (m := 74) (q := 63) (by decide) hk2), (R.inv.2.2.2.2.2.1 k hk2).2.1.mp z]; exact Int32.lt_irrefl))]; exact Int32.add_zero _]
          exact NX _ rfl
        · refine ax_if_ne (tgt := 37) dX11_unansweredCount_30 (by decide) (fun z => absurd z (by decide)) (fun _ => ?_)
          refine ax_iconst (v := 1) dX11_unansweredCount_33 (by decide) ?_
          refine ax_goto (tgt := 38) dX11_unansweredCount_34 (by decide) ?_
          refine ax_invS (n := 1) (As := [_]) dX11_unansweredCount_38 cb_X11_bit cs_X11_165.1 cs_X11_165.2 rfl ⟨Nat.le_of_ble_eq_true rfl, Nat.le_of_ble_eq_true rfl⟩ (Nat.le_of_ble_eq_true rfl) rfl (c_bit1 ?_)
          refine ax_iadd1 dX11_unansweredCount_41 ?_
          refine ax_istore_n (i := 1) (lv' := [(1, _), (2, _), (0, _)]) dX11_unansweredCount_42 rfl (by decide) rfl ?_
          rw [show mCntP (fun l => mA M 73 l < 0) k + 1 = mCntP (fun l => mA M 73 l < 0) (k + 1) from by rw [mCntP_s, iC_t (show (fun l => mA M 73 l < 0) k from (R.inv.2.2.2.2.2.1 k hk2).2.1.mpr (Int32.le_antisymm (Int32.not_lt.mp (by rw [(R.int (f := 4) (k := 8) (m := 74) (q := 63) (by decide) hk2)] at c_27; exact c_27)) (R.inv.2.2.2.2.2.1 k hk2).2.2))]]
          exact NX _ rfl
  refine ax_iconst (v := nI 0) dX11_unansweredCount_0 (by decide) ?_
  refine ax_istore_n (i := 1) (lv' := [(1, _), (0, _)]) dX11_unansweredCount_1 rfl (by decide) rfl ?_
  refine ax_iconst (v := nI 0) dX11_unansweredCount_2 (by decide) ?_
  refine ax_istore_n (i := 2) (lv' := [(2, _), (1, _), (0, _)]) dX11_unansweredCount_3 rfl (by decide) rfl ?_
  exact ax_loc rfl (L (mN M 63) 0 (by omega))
set_option maxHeartbeats 4000000 in
set_option maxRecDepth 100000 in
theorem c_count {E : awE} {S : awS} {M : aM} {Q : Option Value → awS → Nat → Nat → Prop} (R : cR (fun _ _ => mN M 1) S M) (hr0 : cRest M) {wh : Int32} (h : Q (some (.int (mCount M wh).2)) S 0 0) : awT true E m_X11_count [.ref (nm 12 0), .int wh] S Q := by
  refine awT.of (by decide) (by decide) (Nat.le_of_ble_eq_true rfl) ?_
  refine ax_iload_n (i := 1) dX11_count_0 rfl rfl ?_
  rcases (by omega : wh.toInt < 0 ∨ 0 ≤ wh.toInt) with c_1 | c_1
  · refine ax_tableOut (tgt := 115) dX11_count_1 (Or.inl c_1) (by decide) ?_
    refine ax_iconst (v := -1) dX11_count_115 (by decide) ?_
    refine ax_iret dX11_count_116 rfl rfl ?_
    exact fin1 h ((id ((if_neg (fun z => by rw [z] at c_1; exact absurd c_1 (by decide))).trans ((if_neg (fun z => by rw [z] at c_1; exact absurd c_1 (by decide))).trans ((if_neg (fun z => by rw [z] at c_1; exact absurd c_1 (by decide))).trans ((if_neg (fun z => by rw [z] at c_1; exact absurd c_1 (by decide))).trans ((if_neg (fun z => by rw [z] at c_1; exact absurd c_1 (by decide))).trans ((if_neg (fun z => by rw [z] at c_1; exact absurd c_1 (by decide))).trans ((if_neg (fun z => by rw [z] at c_1; exact absurd c_1 (by decide))).trans ((if_neg (fun z => by rw [z] at c_1; exact absurd c_1 (by decide))).trans (if_neg (fun z => by rw [z] at c_1; exact absurd c_1 (by decide)))))))))))))
  rcases (by omega : 8 < wh.toInt ∨ wh.toInt ≤ 8) with c2_1 | c2_1
  · refine ax_tableOut (tgt := 115) dX11_count_1 (Or.inr c2_1) (by decide) ?_
    refine ax_iconst (v := -1) dX11_count_115 (by decide) ?_
    refine ax_iret dX11_count_116 rfl rfl ?_
    exact fin1 h ((id ((if_neg (fun z => by rw [z] at c2_1; exact absurd c2_1 (by decide))).trans ((if_neg (fun z => by rw [z] at c2_1; exact absurd c2_1 (by decide))).trans ((if_neg (fun z => by rw [z] at c2_1; exact absurd c2_1 (by decide))).trans ((if_neg (fun z => by rw [z] at c2_1; exact absurd c2_1 (by decide))).trans ((if_neg (fun z => by rw [z] at c2_1; exact absurd c2_1 (by decide))).trans ((if_neg (fun z => by rw [z] at c2_1; exact absurd c2_1 (by decide))).trans ((if_neg (fun z => by rw [z] at c2_1; exact absurd c2_1 (by decide))).trans ((if_neg (fun z => by rw [z] at c2_1; exact absurd c2_1 (by decide))).trans (if_neg (fun z => by rw [z] at c2_1; exact absurd c2_1 (by decide)))))))))))))
  have c3_1 : wh = 0 ∨ wh = 1 ∨ wh = 2 ∨ wh = 3 ∨ wh = 4 ∨ wh = 5 ∨ wh = 6 ∨ wh = 7 ∨ wh = 8 := by have h1 := c_1; have h2 := c2_1; exact sw_9 h1 h2
  rcases c3_1 with c4_1 | c4_1 | c4_1 | c4_1 | c4_1 | c4_1 | c4_1 | c4_1 | c4_1
  · refine ax_tableIn (tgt := 52) (off := 51) dX11_count_1 (by rw [c4_1]; decide) (by rw [c4_1]; decide) (by rw [c4_1]; decide) (by decide) ?_
    refine ax_aload_n (i := 0) dX11_count_52 rfl rfl rfl ?_
    refine ax_getR dX11_count_53 fl_X11_10 rfl rfl rfl (R.tow.1 0 (by decide)) ?_
    refine ax_invV (c := 0) (n := 0) (As := []) dX11_count_56 cb_Jx4a65c_size_8abf5 cv_X11_75.1 cv_X11_75.2.1 cv_X11_75.2.2 rfl (by decide) rfl ⟨Nat.le_of_ble_eq_true rfl, Nat.le_of_ble_eq_true rfl⟩ (Nat.le_of_ble_eq_true rfl) rfl (t_lsSize (q := 0) (by decide) (R.lq (by decide)) (R.lst.1) (Nat.lt_of_le_of_lt (mS_b R.mI (k := 2) (b := 16) (by decide)) (by decide)) ?_)
    refine ax_iret dX11_count_59 rfl rfl ?_
    exact fin1 h ((if_pos c4_1).trans ((mS_nI R.mI (k := 2) (b := 16) (by decide))))
  · refine ax_tableIn (tgt := 60) (off := 59) dX11_count_1 (by rw [c4_1]; decide) (by rw [c4_1]; decide) (by rw [c4_1]; decide) (by decide) ?_
    refine ax_aload_n (i := 0) dX11_count_60 rfl rfl rfl ?_
    refine ax_getR dX11_count_61 fl_X11_16 rfl rfl rfl (R.tow.1 1 (by decide)) ?_
    refine ax_invV (c := 0) (n := 0) (As := []) dX11_count_64 cb_Jx4a65c_size_8abf5 cv_X11_75.1 cv_X11_75.2.1 cv_X11_75.2.2 rfl (by decide) rfl ⟨Nat.le_of_ble_eq_true rfl, Nat.le_of_ble_eq_true rfl⟩ (Nat.le_of_ble_eq_true rfl) rfl (t_lsSize (q := 1) (by decide) (R.lq (by decide)) (R.lst.2.1) (Nat.lt_of_le_of_lt (mS_b R.mI (k := 6) (b := 16) (by decide)) (by decide)) ?_)
    refine ax_iret dX11_count_67 rfl rfl ?_
    exact fin1 h ((if_neg (by rw [c4_1]; decide)).trans ((if_pos c4_1).trans ((mS_nI R.mI (k := 6) (b := 16) (by decide)))))
  · refine ax_tableIn (tgt := 68) (off := 67) dX11_count_1 (by rw [c4_1]; decide) (by rw [c4_1]; decide) (by rw [c4_1]; decide) (by decide) ?_
    refine ax_aload_n (i := 0) dX11_count_68 rfl rfl rfl ?_
    refine ax_getR dX11_count_69 fl_X11_40 rfl rfl rfl R.tow.2.1 ?_
    refine ax_getI dX11_count_72 fl_X11_455 rfl rfl rfl ?_
    refine ax_iret dX11_count_75 rfl rfl ?_
    exact fin1 h ((if_neg (by rw [c4_1]; decide)).trans ((if_neg (by rw [c4_1]; decide)).trans ((if_pos c4_1).trans (R.sca.2.2.2.2.2.2.2.symm))))
  · refine ax_tableIn (tgt := 76) (off := 75) dX11_count_1 (by rw [c4_1]; decide) (by rw [c4_1]; decide) (by rw [c4_1]; decide) (by decide) ?_
    refine ax_aload_n (i := 0) dX11_count_76 rfl rfl rfl ?_
    refine ax_getI dX11_count_77 fl_X11_67 rfl rfl rfl ?_
    refine ax_iret dX11_count_80 rfl rfl ?_
    exact fin1 h ((if_neg (by rw [c4_1]; decide)).trans ((if_neg (by rw [c4_1]; decide)).trans ((if_neg (by rw [c4_1]; decide)).trans ((if_pos c4_1).trans (R.sca.2.2.2.2.2.2.1.symm)))))
  · refine ax_tableIn (tgt := 81) (off := 80) dX11_count_1 (by rw [c4_1]; decide) (by rw [c4_1]; decide) (by rw [c4_1]; decide) (by decide) ?_
    refine ax_aload_n (i := 0) dX11_count_81 rfl rfl rfl ?_
    refine ax_getR dX11_count_82 fl_X11_22 rfl rfl rfl (R.tow.1 3 (by decide)) ?_
    refine ax_invV (c := 0) (n := 0) (As := []) dX11_count_85 cb_Jx4a65c_size_8abf5 cv_X11_75.1 cv_X11_75.2.1 cv_X11_75.2.2 rfl (by decide) rfl ⟨Nat.le_of_ble_eq_true rfl, Nat.le_of_ble_eq_true rfl⟩ (Nat.le_of_ble_eq_true rfl) rfl (t_lsSize (q := 3) (by decide) (R.lq (by decide)) (R.lst.2.2.2.1) (Nat.lt_of_le_of_lt (mS_b R.mI (k := 30) (b := 300) (by decide)) (by decide)) ?_)
    refine ax_iret dX11_count_88 rfl rfl ?_
    exact fin1 h ((if_neg (by rw [c4_1]; decide)).trans ((if_neg (by rw [c4_1]; decide)).trans ((if_neg (by rw [c4_1]; decide)).trans ((if_neg (by rw [c4_1]; decide)).trans ((if_pos c4_1).trans ((mS_nI R.mI (k := 30) (b := 300) (by decide))))))))
  · refine ax_tableIn (tgt := 89) (off := 88) dX11_count_1 (by rw [c4_1]; decide) (by rw [c4_1]; decide) (by rw [c4_1]; decide) (by decide) ?_
    refine ax_aload_n (i := 0) dX11_count_89 rfl rfl rfl ?_
    refine ax_invV (c := 12) (n := 0) (As := []) dX11_count_90 cb_X11_lastingCount cv_X11_458.1 cv_X11_458.2.1 cv_X11_458.2.2 rfl (by decide) rfl ⟨Nat.le_of_ble_eq_true rfl, Nat.le_of_ble_eq_true rfl⟩ (Nat.le_of_ble_eq_true rfl) rfl (c_lastingCount R ?_)
    refine ax_iret dX11_count_93 rfl rfl ?_
    exact fin1 h ((if_neg (by rw [c4_1]; decide)).trans ((if_neg (by rw [c4_1]; decide)).trans ((if_neg (by rw [c4_1]; decide)).trans ((if_neg (by rw [c4_1]; decide)).trans ((if_neg (by rw [c4_1]; decide)).trans (if_pos c4_1))))))
  · refine ax_tableIn (tgt := 94) (off := 93) dX11_count_1 (by rw [c4_1]; decide) (by rw [c4_1]; decide) (by rw [c4_1]; decide) (by decide) ?_
    refine ax_aload_n (i := 0) dX11_count_94 rfl rfl rfl ?_
    refine ax_getR dX11_count_95 fl_X11_28 rfl rfl rfl (R.tow.1 5 (by decide)) ?_
    refine ax_invV (c := 0) (n := 0) (As := []) dX11_count_98 cb_Jx4a65c_size_8abf5 cv_X11_75.1 cv_X11_75.2.1 cv_X11_75.2.2 rfl (by decide) rfl ⟨Nat.le_of_ble_eq_true rfl, Nat.le_of_ble_eq_true rfl⟩ (Nat.le_of_ble_eq_true rfl) rfl (t_lsSize (q := 5) (by decide) (R.lq (by decide)) (R.lst.2.2.2.2.2.1) (Nat.lt_of_le_of_lt (mS_b R.mI (k := 63) (b := 200) (by decide)) (by decide)) ?_)
    refine ax_iret dX11_count_101 rfl rfl ?_
    exact fin1 h ((if_neg (by rw [c4_1]; decide)).trans ((if_neg (by rw [c4_1]; decide)).trans ((if_neg (by rw [c4_1]; decide)).trans ((if_neg (by rw [c4_1]; decide)).trans ((if_neg (by rw [c4_1]; decide)).trans ((if_neg (by rw [c4_1]; decide)).trans ((if_pos c4_1).trans ((mS_nI R.mI (k := 63) (b := 200) (by decide))))))))))
  · refine ax_tableIn (tgt := 102) (off := 101) dX11_count_1 (by rw [c4_1]; decide) (by rw [c4_1]; decide) (by rw [c4_1]; decide) (by decide) ?_
    refine ax_aload_n (i := 0) dX11_count_102 rfl rfl rfl ?_
    refine ax_invV (c := 12) (n := 0) (As := []) dX11_count_103 cb_X11_unansweredCount cv_X11_461.1 cv_X11_461.2.1 cv_X11_461.2.2 rfl (by decide) rfl ⟨Nat.le_of_ble_eq_true rfl, Nat.le_of_ble_eq_true rfl⟩ (Nat.le_of_ble_eq_true rfl) rfl (c_unansweredCount R ?_)
    refine ax_iret dX11_count_106 rfl rfl ?_
    exact fin1 h ((if_neg (by rw [c4_1]; decide)).trans ((if_neg (by rw [c4_1]; decide)).trans ((if_neg (by rw [c4_1]; decide)).trans ((if_neg (by rw [c4_1]; decide)).trans ((if_neg (by rw [c4_1]; decide)).trans ((if_neg (by rw [c4_1]; decide)).trans ((if_neg (by rw [c4_1]; decide)).trans (if_pos c4_1))))))))
  · refine ax_tableIn (tgt := 107) (off := 106) dX11_count_1 (by rw [c4_1]; decide) (by rw [c4_1]; decide) (by rw [c4_1]; decide) (by decide) ?_
    refine ax_aload_n (i := 0) dX11_count_107 rfl rfl rfl ?_
    refine ax_getR dX11_count_108 fl_X11_25 rfl rfl rfl (R.tow.1 4 (by decide)) ?_
    refine ax_invV (c := 0) (n := 0) (As := []) dX11_count_111 cb_Jx4a65c_size_8abf5 cv_X11_75.1 cv_X11_75.2.1 cv_X11_75.2.2 rfl (by decide) rfl ⟨Nat.le_of_ble_eq_true rfl, Nat.le_of_ble_eq_true rfl⟩ (Nat.le_of_ble_eq_true rfl) rfl (t_lsSize (q := 4) (by decide) (R.lq (by decide)) (R.lst.2.2.2.2.1) (Nat.lt_of_le_of_lt (mS_b R.mI (k := 48) (b := 300) (by decide)) (by decide)) ?_)
    refine ax_iret dX11_count_114 rfl rfl ?_
    exact fin1 h ((if_neg (by rw [c4_1]; decide)).trans ((if_neg (by rw [c4_1]; decide)).trans ((if_neg (by rw [c4_1]; decide)).trans ((if_neg (by rw [c4_1]; decide)).trans ((if_neg (by rw [c4_1]; decide)).trans ((if_neg (by rw [c4_1]; decide)).trans ((if_neg (by rw [c4_1]; decide)).trans ((if_neg (by rw [c4_1]; decide)).trans ((if_pos c4_1).trans ((mS_nI R.mI (k := 48) (b := 300) (by decide))))))))))))
