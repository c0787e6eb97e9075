theorem mReason_v (M : aM) (g t : Nat) : mReason M g t = 0 ∨ 0 < mReason M g t := by
  have st : ∀ (p : Prop) (a b : Int32), (a = 0 ∨ 0 < a) → (b = 0 ∨ 0 < b) → (iC p a b = 0 ∨ 0 < iC p a b) := fun p a b ha hb => by
    by_cases c : p
    · rw [iC_t c]; exact ha
    · rw [iC_f c]; exact hb
  unfold mReason
  split
  · exact st _ _ _ (Or.inr (by decide)) (Or.inl rfl)
  · exact st _ _ _ (Or.inr (by decide)) (st _ _ _ (Or.inr (by decide)) (st _ _ _ (Or.inl rfl) (Or.inr (by decide))))
theorem send_o {M : aM} (hI : mI M) {g t : Nat} {why : Int32} (hg : g < 300) (hl : mN M 63 < 200) (k j : Nat) (hk : 31 ≤ k ∧ k ≤ 49) (h2 : (¬ k = 38 ∧ ¬ k = 39 ∧ ¬ k = 40 ∧ ¬ k = 41) ∨ ¬ mA M 42 j = nI g) : mA (mSend M g t why) k j = mA M k j := by
  have hIA := hI.sendA t why hg hl
  have hB := mSendB_inv hIA g (mN M 63) hl
  have eA : ∀ k, 31 ≤ k → k ≤ 49 → mA (mSendA M g t why) k j = mA M k j := fun k h1 h2 => by
    unfold mSendA
    simp only []
    rw [mA_pA, if_neg (by omega), mA_pA, if_neg (by omega), mA_pA, if_neg (by omega), mA_pA, if_neg (by omega)]
    rfl
  have h3 : (¬ k = 38 ∧ ¬ k = 39 ∧ ¬ k = 40 ∧ ¬ k = 41) ∨ ¬ mA (mSendA M g t why) 42 j = nI g := h2.elim Or.inl (fun z => Or.inr (by rw [eA _ (by decide) (by decide)]; exact z))
  have eB : mA (mSendB (mSendA M g t why) g (mN M 63)) k j = mA (mSendA M g t why) k j := by
    have q1 := mSend1_o g (mN M 63) (mSendA M g t why) k j ⟨by omega, by omega, h3⟩ (mN (mSendA M g t why) 30)
    unfold mSendB
    refine (mSend2_o g (mN M 63) _ k j ⟨by omega, by omega, h3.elim Or.inl (fun z => Or.inr (q1.2 z))⟩ _).1.trans q1.1
  show mA (mSendD (mSendC (mWake (mSendB (mSendA M g t why) g (mN M 63)) t) (mN M 63)) g t (mN M 63) why) k j = _
  rw [← eA k hk.1 hk.2, ← eB]
  generalize mSendB (mSendA M g t why) g (mN M 63) = B at hB ⊢
  have hW := mWake_a hB.1 t k j (by omega) (by omega)
  generalize mWake B t = NW at hW ⊢
  rw [← hW]
  unfold mSendD
  rw [mA_pA, if_neg (by omega), mA_pA, if_neg (by omega), mA_pA, if_neg (by omega), mA_pA, if_neg (by omega), mA_pA, if_neg (by omega), mA_pA, if_neg (by omega)]
  exact (sendC_o _ _ k j (by omega) _).trans (if_neg (by omega))
theorem send_S {M : aM} (hI : mI M) {g t : Nat} {why : Int32} (hg : g < 300) (hl : mN M 63 < 200) : mN (mSend M g t why) 63 = mN M 63 + 1 := by
  have hIA := hI.sendA t why hg hl
  have hB := mSendB_inv hIA g (mN M 63) hl
  have eA : mS (mSendA M g t why) 63 = nI (mN M 63 + 1) := by
    show (if 63 = 63 then nI (mN M 63 + 1) else M.1 63) = _
    rw [if_pos rfl]
  show mN (mSendD (mSendC (mWake (mSendB (mSendA M g t why) g (mN M 63)) t) (mN M 63)) g t (mN M 63) why) 63 = _
  have eB := hB.2 63
  generalize mSendB (mSendA M g t why) g (mN M 63) = B at hB eB ⊢
  have hW := mWake_s hB.1 t 63 (by decide)
  have wk := mWake_inv hB.1 t
  have c := mI.sendC wk.1 wk.2.2.2.1 (by have := wk.2.2.2.2; omega) (mN M 63)
  generalize mWake B t = NW at hW c ⊢
  have e : mS (mSendD (mSendC NW (mN M 63)) g t (mN M 63) why) 63 = nI (mN M 63 + 1) := (c.2 63).trans (hW.trans (eB.trans eA))
  show nN (mS _ 63) = _
  rw [e]
  exact nI_cl (by omega)

set_option maxHeartbeats 400000 in
set_option maxRecDepth 100000 in
theorem c_sendLetters {E : awE} {S : awS} {M : aM} {τ : Nat → Nat → Nat} {Q : Option Value → awS → Nat → Nat → Prop} (R : cR τ S M) {t : Nat} (hr0 : cRest M) (ht : t ≤ mN M 1 + 1) (h : ∀ (S1 : awS) (N : aM) (kc ks : Nat), mIter (mGrpT t) (mN M 48) M = N → cR τ S1 N → cRest N → cFm S S1 → kc + 4 * zz M ≤ 4 * zz N → ks + 1300 * zz M ≤ 1300 * zz N → Q (some (.int (mS N 63 - mS M 63))) S1 kc ks) : awT true E m_X11_sendLetters [.ref (nm 12 0), .int (nI t)] S Q := by
  refine awT.of (by decide) (by decide) (Nat.le_of_ble_eq_true rfl) ?_
  have hI := R.mI
  have e_b := R.nG
  have L : ∀ (m k : Nat), k + m = (mN M 48) → ∀ (S1 : awS) (N : aM) (kc ks : Nat), mIter (mGrpT t) k M = N → cR τ S1 N → cRest N → (∀ g, k ≤ g → g < (mN M 48) → gOk N g (sI S1 3 g 4) (sI S1 3 g 5) (sI S1 3 g 6)) → cFm S S1 → kc + 4 * zz M ≤ 4 * zz N → ks + 1300 * zz M ≤ 1300 * zz N → awX true E m_X11_sendLetters 14 [(3, .int (nI k)), (2, .int (nI (mN M 63))), (0, .ref (nm 12 0)), (1, .int (nI t))] [] S1 kc ks Q := by
    intro m
    induction m with
    | zero =>
      intro k hm1 S1 N kc ks e1 R1 hr1 hk1 f1 y1 y2
      have hgi := mGrpT_inv hI t k (by omega)
      rw [e1] at hgi
      have hn : mN N 48 = (mN M 48) := congrArg Int32.toNatClampNeg (hgi.2 48 (by decide) (by decide))
      have hn1 : mN N 1 = mN M 1 := congrArg Int32.toNatClampNeg (hgi.2 1 (by decide) (by decide))
      refine ax_iload_n (i := 3) dX11_sendLetters_14 rfl rfl ?_
      refine ax_aload_n (i := 0) dX11_sendLetters_15 rfl rfl rfl ?_
      refine ax_getR dX11_sendLetters_16 fl_X11_25 rfl rfl rfl (R1.tow.1 4 (by decide)) ?_
      refine ax_invV (c := 0) (n := 0) (As := []) dX11_sendLetters_19 cb_Jx4a65c_size_8abf5 cv_X11_75.1 cv_X11_75.2.1 cv_X11_75.2.2 rfl (by decide) rfl ⟨Nat.le_of_ble_eq_true rfl, Nat.le_of_ble_eq_true rfl⟩ (Nat.le_of_ble_eq_true rfl) rfl (t_lsSize (q := 4) (by decide) (R1.lq (by decide)) (R1.lst.2.2.2.2.1) (Nat.lt_of_le_of_lt (mS_b R1.mI (k := 48) (b := 300) (by decide)) (by decide)) ?_)
      refine ax_icmp_ge (tgt := 85) dX11_sendLetters_22 (by decide) (fun c_22 => ?_) (fun c_22 => ?_)
      · have hk2 : k = (mN M 48) := Nat.le_antisymm (by omega) (ge_of_c (b := (mN M 48)) rfl (hn ▸ c_22) (by omega))
        refine ax_aload_n (i := 0) dX11_sendLetters_85 rfl rfl rfl ?_
        refine ax_getR dX11_sendLetters_86 fl_X11_28 rfl rfl rfl (R1.tow.1 5 (by decide)) ?_
        refine ax_invV (c := 0) (n := 0) (As := []) dX11_sendLetters_89 cb_Jx4a65c_size_8abf5 cv_X11_75.1 cv_X11_75.2.1 cv_X11_75.2.2 rfl (by decide) rfl ⟨Nat.le_of_ble_eq_true rfl, Nat.le_of_ble_eq_true rfl⟩ (Nat.le_of_ble_eq_true rfl) rfl (t_lsSize (q := 5) (by decide) (R1.lq (by decide)) (R1.lst.2.2.2.2.2.1) (Nat.lt_of_le_of_lt (mS_b R1.mI (k := 63) (b := 200) (by decide)) (by decide)) ?_)
        refine ax_iload_n (i := 2) dX11_sendLetters_92 rfl rfl ?_
        refine ax_isub dX11_sendLetters_93 ?_
        refine ax_iret dX11_sendLetters_94 rfl rfl ?_
        rw [hk2] at e1
        have e63 : nI (mN N 63) - nI (mN M 63) = mS N 63 - mS M 63 := by rw [mS_nI R1.mI (k := 63) (b := 200) (by decide), mS_nI hI (k := 63) (b := 200) (by decide)]
        rw [e63]
        exact h S1 N kc ks e1 R1 hr1 f1 y1 y2
      · exact absurd (lt_of_c (b := (mN M 48)) rfl (hn ▸ c_22) (by omega)) (by omega)
    | succ m ih =>
      intro k hm1 S1 N kc ks e1 R1 hr1 hk1 f1 y1 y2
      have hgi := mGrpT_inv hI t k (by omega)
      rw [e1] at hgi
      have hn : mN N 48 = (mN M 48) := congrArg Int32.toNatClampNeg (hgi.2 48 (by decide) (by decide))
      have hn1 : mN N 1 = mN M 1 := congrArg Int32.toNatClampNeg (hgi.2 1 (by decide) (by decide))
      refine ax_iload_n (i := 3) dX11_sendLetters_14 rfl rfl ?_
      refine ax_aload_n (i := 0) dX11_sendLetters_15 rfl rfl rfl ?_
      refine ax_getR dX11_sendLetters_16 fl_X11_25 rfl rfl rfl (R1.tow.1 4 (by decide)) ?_
      refine ax_invV (c := 0) (n := 0) (As := []) dX11_sendLetters_19 cb_Jx4a65c_size_8abf5 cv_X11_75.1 cv_X11_75.2.1 cv_X11_75.2.2 rfl (by decide) rfl ⟨Nat.le_of_ble_eq_true rfl, Nat.le_of_ble_eq_true rfl⟩ (Nat.le_of_ble_eq_true rfl) rfl (t_lsSize (q := 4) (by decide) (R1.lq (by decide)) (R1.lst.2.2.2.2.1) (Nat.lt_of_le_of_lt (mS_b R1.mI (k := 48) (b := 300) (by decide)) (by decide)) ?_)
      refine ax_icmp_ge (tgt := 85) dX11_sendLetters_22 (by decide) (fun c_22 => ?_) (fun c_22 => ?_)
      · exact absurd (ge_of_c (b := (mN M 48)) rfl (hn ▸ c_22) (by omega)) (by omega)
      · have hk2 : k < (mN M 48) := lt_of_c (b := (mN M 48)) rfl (hn ▸ c_22) (by omega)
        have hk3 : k < 300 := by have := R1.nG; omega
        refine ax_aload_n (i := 0) dX11_sendLetters_25 rfl rfl rfl ?_
        refine ax_aload_n (i := 0) dX11_sendLetters_26 rfl rfl rfl ?_
        refine ax_getR dX11_sendLetters_27 fl_X11_25 rfl rfl rfl (R1.tow.1 4 (by decide)) ?_
        refine ax_iload_n (i := 3) dX11_sendLetters_30 rfl rfl ?_
        refine ax_invV (c := 0) (n := 1) (As := [_]) dX11_sendLetters_31 cb_Jx4a65c_get_915e3 cv_X11_115.1 cv_X11_115.2.1 cv_X11_115.2.2 rfl (by decide) rfl ⟨Nat.le_of_ble_eq_true rfl, Nat.le_of_ble_eq_true rfl⟩ (Nat.le_of_ble_eq_true rfl) rfl (t_lsGet (q := 4) (by decide) (R1.lq (by decide)) (R1.lst.2.2.2.2.1) (Nat.lt_of_le_of_lt (mS_b R1.mI (k := 48) (b := 300) (by decide)) (by decide)) (by omega) ?_)
        refine ax_cast (c := 3) dX11_sendLetters_34 kl_X11_264 rfl (by decide) ?_
        refine ax_iload_n (i := 1) dX11_sendLetters_37 rfl rfl ?_
        refine ax_invV (c := 12) (n := 2) (As := [_, _]) dX11_sendLetters_38 cb_X11_reasonOf cv_X11_321.1 cv_X11_321.2.1 cv_X11_321.2.2 rfl (by decide) rfl ⟨Nat.le_of_ble_eq_true rfl, Nat.le_of_ble_eq_true rfl⟩ (Nat.le_of_ble_eq_true rfl) rfl (c_reasonOf R1 (show k < mN N 48 by omega) (hk1 k (Nat.le_refl k) hk2) ?_)
        refine ax_istore (lv' := [(4, _), (3, _), (2, _), (0, _), (1, _)]) dX11_sendLetters_41 (by decide) rfl ?_
        refine ax_iload dX11_sendLetters_43 rfl ?_
        refine ax_if_eq (tgt := 79) dX11_sendLetters_45 (by decide) (fun c_45 => ?_) (fun c_45 => ?_)
        · refine ax_iinc (v := _ + 1) (lv' := [(3, _), (4, _), (2, _), (0, _), (1, _)]) dX11_sendLetters_79 rfl rfl (by decide) rfl ?_
          refine ax_goto (tgt := 14) dX11_sendLetters_82 (by decide) ?_
          rw [nI_1]
          have es : mGrpT t k N = N := if_neg (fun z => absurd z.1 (by rw [c_45]; decide))
          exact ax_loc rfl (ih (k + 1) (by omega) S1 (mGrpT t k N) kc ks (by show mGrpT t k (mIter (mGrpT t) k M) = _; rw [e1]) (by rw [es]; exact R1) (by rw [es]; exact hr1) (fun g g1 g2 => by rw [es]; exact hk1 g (by omega) g2) f1 (by rw [es]; exact y1) (by rw [es]; exact y2))
        · refine ax_aload_n (i := 0) dX11_sendLetters_48 rfl rfl rfl ?_
          refine ax_getR dX11_sendLetters_49 fl_X11_28 rfl rfl rfl (R1.tow.1 5 (by decide)) ?_
          refine ax_invV (c := 0) (n := 0) (As := []) dX11_sendLetters_52 cb_Jx4a65c_size_8abf5 cv_X11_75.1 cv_X11_75.2.1 cv_X11_75.2.2 rfl (by decide) rfl ⟨Nat.le_of_ble_eq_true rfl, Nat.le_of_ble_eq_true rfl⟩ (Nat.le_of_ble_eq_true rfl) rfl (t_lsSize (q := 5) (by decide) (R1.lq (by decide)) (R1.lst.2.2.2.2.2.1) (Nat.lt_of_le_of_lt (mS_b R1.mI (k := 63) (b := 200) (by decide)) (by decide)) ?_)
          refine ax_sipush (v := 200) dX11_sendLetters_55 (by decide) ?_
          refine ax_icmp_ge (tgt := 79) dX11_sendLetters_58 (by decide) (fun c_58 => ?_) (fun c_58 => ?_)
          · refine ax_iinc (v := _ + 1) (lv' := [(3, _), (4, _), (2, _), (0, _), (1, _)]) dX11_sendLetters_79 rfl rfl (by decide) rfl ?_
            refine ax_goto (tgt := 14) dX11_sendLetters_82 (by decide) ?_
            rw [nI_1]
            have es : mGrpT t k N = N := if_neg (fun z => absurd z.2 (by rw [mS_nI R1.mI (k := 63) (b := 200) (by decide)]; exact Int32.not_lt.mpr c_58))
            exact ax_loc rfl (ih (k + 1) (by omega) S1 (mGrpT t k N) kc ks (by show mGrpT t k (mIter (mGrpT t) k M) = _; rw [e1]) (by rw [es]; exact R1) (by rw [es]; exact hr1) (fun g g1 g2 => by rw [es]; exact hk1 g (by omega) g2) f1 (by rw [es]; exact y1) (by rw [es]; exact y2))
          · have hlt : mN N 63 < 200 := Nat.lt_of_not_le (fun z => c_58 (nI_le (a := 200) z (by have := R1.nL; omega)))
            refine ax_aload_n (i := 0) dX11_sendLetters_61 rfl rfl rfl ?_
            refine ax_aload_n (i := 0) dX11_sendLetters_62 rfl rfl rfl ?_
            refine ax_getR dX11_sendLetters_63 fl_X11_25 rfl rfl rfl (R1.tow.1 4 (by decide)) ?_
            refine ax_iload_n (i := 3) dX11_sendLetters_66 rfl rfl ?_
            refine ax_invV (c := 0) (n := 1) (As := [_]) dX11_sendLetters_67 cb_Jx4a65c_get_915e3 cv_X11_115.1 cv_X11_115.2.1 cv_X11_115.2.2 rfl (by decide) rfl ⟨Nat.le_of_ble_eq_true rfl, Nat.le_of_ble_eq_true rfl⟩ (Nat.le_of_ble_eq_true rfl) rfl (t_lsGet (q := 4) (by decide) (R1.lq (by decide)) (R1.lst.2.2.2.2.1) (Nat.lt_of_le_of_lt (mS_b R1.mI (k := 48) (b := 300) (by decide)) (by decide)) (by omega) ?_)
            refine ax_cast (c := 3) dX11_sendLetters_70 kl_X11_264 rfl (by decide) ?_
            refine ax_iload dX11_sendLetters_73 rfl ?_
            refine ax_iload_n (i := 1) dX11_sendLetters_75 rfl rfl ?_
            refine ax_invV (c := 12) (n := 3) (As := [_, _, _]) dX11_sendLetters_76 cb_X11_sendLetter cv_X11_325.1 cv_X11_325.2.1 cv_X11_325.2.2 rfl (by decide) rfl ⟨Nat.le_of_ble_eq_true rfl, Nat.le_of_ble_eq_true rfl⟩ (Nat.le_of_ble_eq_true rfl) rfl (c_sendLetter R1 hr1 (show k < mN N 48 by omega) hlt (by omega) (fun S2 kc2 ks2 R2 hr2 hs2 f2 w1 w2 => ?_))
            refine ax_iinc (v := _ + 1) (lv' := [(3, _), (4, _), (2, _), (0, _), (1, _)]) dX11_sendLetters_79 rfl rfl (by decide) rfl ?_
            refine ax_goto (tgt := 14) dX11_sendLetters_82 (by decide) ?_
            rw [nI_1]
            have es : mGrpT t k N = mSend N k t (mReason N k t) := if_pos ⟨(mReason_v N k t).resolve_left c_45, by rw [mS_nI R1.mI (k := 63) (b := 200) (by decide)]; exact nI_lt (b := 200) hlt (by decide)⟩
            have hz : zz (mSend N k t (mReason N k t)) = zz N + 1 := by
              have q := (R1.mI.send t (mReason N k t) hk3 hlt).2
              have q1 : mN (mSend N k t (mReason N k t)) 30 = mN N 30 := congrArg Int32.toNatClampNeg (q 30 (by decide) (by decide))
              have q2 : mN (mSend N k t (mReason N k t)) 48 = mN N 48 := congrArg Int32.toNatClampNeg (q 48 (by decide) (by decide))
              unfold zz
              rw [send_S R1.mI hk3 hlt, q1, q2]
              omega
            exact ax_loc rfl (ih (k + 1) (by omega) S2 (mGrpT t k N) _ _ (by show mGrpT t k (mIter (mGrpT t) k M) = _; rw [e1]) (by rw [es]; exact R2) (by rw [es]; exact hr2) (fun g g1 g2 => by
              rw [es, hs2 g 4 (by decide), hs2 g 5 (by decide), hs2 g 6 (by decide)]
              have q := (R1.mI.send t (mReason N k t) hk3 hlt).2
              refine gOk_cg (congrArg Int32.toNatClampNeg (q 30 (by decide) (by decide))) (fun x hx => ⟨send_o R1.mI hk3 hlt _ _ (by decide) (Or.inl (by decide)), send_o R1.mI hk3 hlt _ _ (by decide) (Or.inl (by decide)), send_o R1.mI hk3 hlt _ _ (by decide) (Or.inl (by decide)), fun e => send_o R1.mI hk3 hlt _ _ (by decide) (Or.inr (fun z => ?_))⟩) (hk1 g (by omega) g2)
              have w := e.symm.trans z
              exact absurd ((nI_eq (by have := R1.nG; omega) (by omega)).mp w) (by omega)) (f1.tr f2) (by rw [es, hz]; omega) (by rw [es, hz]; omega))
  refine ax_aload_n (i := 0) dX11_sendLetters_0 rfl rfl rfl ?_
  refine ax_invV (c := 12) (n := 0) (As := []) dX11_sendLetters_1 cb_X11_lookByGroups cv_X11_318.1 cv_X11_318.2.1 cv_X11_318.2.2 rfl (by decide) rfl ⟨Nat.le_of_ble_eq_true rfl, Nat.le_of_ble_eq_true rfl⟩ (Nat.le_of_ble_eq_true rfl) rfl (c_lookByGroups R (fun S1 f1 z1 => ?_))
  refine ax_aload_n (i := 0) dX11_sendLetters_4 rfl rfl rfl ?_
  refine ax_getR dX11_sendLetters_5 fl_X11_28 rfl rfl rfl ((R.gs f1).tow.1 5 (by decide)) ?_
  refine ax_invV (c := 0) (n := 0) (As := []) dX11_sendLetters_8 cb_Jx4a65c_size_8abf5 cv_X11_75.1 cv_X11_75.2.1 cv_X11_75.2.2 rfl (by decide) rfl ⟨Nat.le_of_ble_eq_true rfl, Nat.le_of_ble_eq_true rfl⟩ (Nat.le_of_ble_eq_true rfl) rfl (t_lsSize (q := 5) (by decide) ((R.gs f1).lq (by decide)) ((R.gs f1).lst.2.2.2.2.2.1) (Nat.lt_of_le_of_lt (mS_b (R.gs f1).mI (k := 63) (b := 200) (by decide)) (by decide)) ?_)
  refine ax_istore_n (i := 2) (lv' := [(2, _), (0, _), (1, _)]) dX11_sendLetters_11 rfl (by decide) rfl ?_
  refine ax_iconst (v := nI 0) dX11_sendLetters_12 (by decide) ?_
  refine ax_istore_n (i := 3) (lv' := [(3, _), (2, _), (0, _), (1, _)]) dX11_sendLetters_13 rfl (by decide) rfl ?_
  exact ax_loc rfl (L (mN M 48) 0 (by omega) S1 M 0 0 rfl (R.gs f1) hr0 (fun g _ hg => gOk_of R hr0 hg (z1 g hg)) f1.fm (by omega) (by omega))
