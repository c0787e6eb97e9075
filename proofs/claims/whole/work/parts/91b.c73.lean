theorem leA_n {M : aM} {r p s t : Nat} (hp : 1 ≤ p) (hp2 : p ≤ 10) (h : ∀ u, u ≤ t → mTru M r s u = -1) : leA M r p s t = ((0 : Int32), (0 : Int32), false, 0) := by
  unfold leA
  refine mIter_inv (fun a => a = ((0 : Int32), (0 : Int32), false, 0)) rfl (fun k a hk q => ?_)
  subst q
  unfold mLeF
  rw [h _ (by omega)]
  unfold mLeastT
  have n : ¬ nI p ≤ 0 := Int32.not_le.mpr (nI_lt (a := 0) (by omega) (by omega))
  simp [n]
theorem cR.tau {τ τ' : Nat → Nat → Nat} {S : awS} {M : aM} (R : cR τ S M) (h : ∀ r s, r < mN M 6 → s < mN M 2 → τ' r s = τ r s) (hb : ∀ r s, τ r s ≤ 400) (hb' : ∀ r s, τ' r s ≤ 400) : cR τ' S M := by
  have no : ∀ r s u, s < 16 → u ≤ 400 → mN M 2 ≤ s → mTru M r s u = -1 := fun r s u hs hu hn => by
    unfold mTru
    rw [R.inv.1 r s u (Or.inl (Or.inr hn)) hs (by omega)]
    decide
  have le : ∀ r p s, r < mN M 6 → 1 ≤ p → p ≤ 10 → s < 16 → leA M r p s (τ' r s) = leA M r p s (τ r s) := fun r p s hr h1 h2 hs => by
    by_cases c : s < mN M 2
    · rw [h r s hr c]
    · rw [leA_n h1 h2 (fun u hu => no r s u hs (Nat.le_trans hu (hb' r s)) (by omega)), leA_n h1 h2 (fun u hu => no r s u hs (Nat.le_trans hu (hb r s)) (by omega))]
  refine cR.mk' R.mI R.tow R.lst R.cx R.cnt.2.1 R.cnt.2.2 R.src R.rul R.ala R.ltr R.brd R.ix R.la R.sca R.val R.ref R.wat R.flg (?_) R.hld (?_) R.row R.bdr (⟨?_, R.inv.2.1, R.inv.2.2.1, R.inv.2.2.2.1, R.inv.2.2.2.2.1, R.inv.2.2.2.2.2.1, R.inv.2.2.2.2.2.2.1, R.inv.2.2.2.2.2.2.2.1, R.inv.2.2.2.2.2.2.2.2.1, R.inv.2.2.2.2.2.2.2.2.2.1, R.inv.2.2.2.2.2.2.2.2.2.2.1, R.inv.2.2.2.2.2.2.2.2.2.2.2⟩)
  · intro r s hr hs
    rw [R.tru r s hr hs]
    by_cases c : s < mN M 2
    · rw [h r s hr c]
    · rw [no r s _ hs (hb r s) (by omega), no r s _ hs (hb' r s) (by omega)]
  · intro r p hr h1 h2
    obtain ⟨q1, q2⟩ := R.lea r p hr h1 h2
    refine ⟨?_, fun s hs => ?_⟩
    · rw [leSum_cg (M := M) (τ := τ) (fun s hs => le r p s hr h1 h2 hs)]
      exact q1
    · rw [le r p s hr h1 h2 hs]
      exact q2 s hs
  · intro r s t hc hs ht
    refine R.inv.1 r s t (hc.elim Or.inl (fun z => Or.inr ⟨z.1, z.2.1, ?_⟩)) hs ht
    rw [← h r s z.1 z.2.1]
    exact z.2.2
theorem cRest.up {M : aM} (h : cRest M) (t : Nat) : cRest (mUp M t) := by
  have o : ∀ n k j, ¬ k = 71 → ¬ k = 72 → mA (mIter (mUpL t) n M) k j = mA M k j := fun n k j h1 h2 => by
    refine mIter_inv (fun N => mA N k j = mA M k j) rfl (fun l a _ q => ?_)
    unfold mUpL
    split
    · rw [mA_pA, if_neg (fun z => h2 z.1), mA_pA, if_neg (fun z => h1 z.1)]; exact q
    · exact q
  intro i hi z
  have hi : i < mN M 30 := by
    have q : mN (mUp M t) 30 = mN M 30 := congrArg Int32.toNatClampNeg (mUp_s M t (mN M 63) 30)
    rw [← q]; exact hi
  show mA (mIter (mUpL t) _ M) 35 i = 0 ∧ mA (mIter (mUpL t) _ M) 36 i = 0 ∧ mA (mIter (mUpL t) _ M) 37 i = 0 ∧ mA (mIter (mUpL t) _ M) 39 i = 0
  have z : ¬ mA (mIter (mUpL t) (mN M 63) M) 34 i = 0 := z
  rw [o _ _ _ (by decide) (by decide)] at z
  rw [o _ _ _ (by decide) (by decide), o _ _ _ (by decide) (by decide), o _ _ _ (by decide) (by decide), o _ _ _ (by decide) (by decide)]
  exact h i hi z
theorem cR.close {τ : Nat → Nat → Nat} {S : awS} {M : aM} (R : cR τ S M) {t : Nat} (h : mN M 1 ≤ t) (ht : t ≤ 400) : cR τ (wI S 12 0 15 (nI t)) (pS M 1 (nI t)) := by
  have e : mN (pS M 1 (nI t)) 1 = t := nI_cl (by omega)
  refine cR.mk' (R.mI.qSR (b := 400) (by decide) ht (by decide)) R.tow R.lst R.cx R.cnt.2.1 R.cnt.2.2 R.src R.rul R.ala R.ltr R.brd R.ix R.la (⟨R.sca.1, R.sca.2.1, R.sca.2.2.1, R.sca.2.2.2.1, R.sca.2.2.2.2.1, R.sca.2.2.2.2.2.1, rfl, R.sca.2.2.2.2.2.2.2⟩) R.val R.ref R.wat R.flg R.tru R.hld R.lea R.row R.bdr (⟨R.inv.1, R.inv.2.1, R.inv.2.2.1, R.inv.2.2.2.1, ?_, R.inv.2.2.2.2.2.1, ?_, R.inv.2.2.2.2.2.2.2.1, R.inv.2.2.2.2.2.2.2.2.1, R.inv.2.2.2.2.2.2.2.2.2.1, R.inv.2.2.2.2.2.2.2.2.2.2.1, R.inv.2.2.2.2.2.2.2.2.2.2.2⟩)
  · intro g hg
    obtain ⟨q1, q2⟩ := R.inv.2.2.2.2.1 g hg
    refine ⟨q1, ?_⟩
    rw [e]
    exact Int32.le_trans q2 (nI_le (by omega) (by omega))
  · intro r hr
    obtain ⟨q1, q2, q3, q4⟩ := R.inv.2.2.2.2.2.2.1 r hr
    refine ⟨q1, q2, ?_, q4⟩
    rw [e]
    exact Nat.le_trans q3 (by omega)
theorem zz_cl {M : aM} (hI : mI M) (t : Nat) : zz (mUp (mClear M t) t) = zz M := by
  have e : ∀ k, mN (mUp (mClear M t) t) k = mN M k := fun k => (congrArg Int32.toNatClampNeg (mUp_s (mClear M t) t (mN (mClear M t) 63) k)).trans (mN_clear M hI t k)
  unfold zz
  rw [e, e, e]

set_option maxHeartbeats 400000 in
set_option maxRecDepth 100000 in
theorem c_tick {E : awE} {S : awS} {M : aM} {Q : Option Value → awS → Nat → Nat → Prop} (R0 : cRR S M) (h : ∀ S1 mc ms, cRR S1 (mTick M).1 → cFm S S1 → mc + 4 * zz M ≤ 4 * zz (mTick M).1 → ms + 1300 * zz M ≤ 1300 * zz (mTick M).1 → Q (some (.int (mTick M).2)) S1 mc ms) : awT true E m_X11_tick [.ref (nm 12 0)] S Q := by
  refine awT.of (by decide) (by decide) (Nat.le_of_ble_eq_true rfl) ?_
  obtain ⟨R, hr0⟩ := R0
  refine ax_aload_n (i := 0) dX11_tick_0 rfl rfl rfl ?_
  refine ax_getI dX11_tick_1 fl_X11_67 rfl rfl rfl ?_
  refine ax_sipush (v := 400) dX11_tick_4 (by decide) ?_
  refine ax_icmp_lt (tgt := 13) dX11_tick_7 (by decide) (fun c_7 => ?_) (fun c_7 => ?_)
  · obtain ⟨T, hT⟩ : ∃ T, mN M 1 = T := ⟨_, rfl⟩
    have hlt : T < 400 := hT ▸ nI_slt (b := 400) (by rw [← R.eC]; exact c_7) (by have := R.nC; omega)
    refine ax_aload_n (i := 0) dX11_tick_13 rfl rfl rfl ?_
    refine ax_getI dX11_tick_14 fl_X11_67 rfl rfl rfl ?_
    refine ax_iconst (v := 1) dX11_tick_17 (by decide) ?_
    refine ax_iadd dX11_tick_18 ?_
    rw [R.eC, hT, nI_1]
    refine ax_istore_n (i := 1) (lv' := [(1, _), (0, _)]) dX11_tick_19 rfl (by decide) rfl ?_
    refine ax_aload_n (i := 0) dX11_tick_20 rfl rfl rfl ?_
    refine ax_iload_n (i := 1) dX11_tick_21 rfl rfl ?_
    refine ax_invV (c := 12) (n := 1) (As := [_]) dX11_tick_22 cb_X11_lookByRules cv_X11_173.1 cv_X11_173.2.1 cv_X11_173.2.2 rfl (by decide) rfl ⟨Nat.le_of_ble_eq_true rfl, Nat.le_of_ble_eq_true rfl⟩ (Nat.le_of_ble_eq_true rfl) rfl (c_lookByRules (show cR (fun _ _ => T) S (mT0 M) from hT ▸ R.t0) (by omega) hT (fun S1 N1 kc1 ks1 e1 R1 f1 y1 y2 => ?_))
    have hj1 : jdS (mT0 M) N1 := by
      rw [← e1]
      exact mJudgeO_inv R.t0.mI (T + 1) (mN (mT0 M) 6) R.nR
    have n1 : ∀ k, ¬ k = 0 → ¬ k = 48 → ¬ k = 30 → mN N1 k = mN M k := fun k h0 h1 h2 => (hj1.n h1 h2).trans (congrArg Int32.toNatClampNeg (if_neg h0))
    have Rt : cR (fun _ _ => T + 1) S1 N1 := R1.tau (fun r s hr hs => by
      rw [n1 _ (by decide) (by decide) (by decide)] at hr hs
      exact (if_pos (show s < mN (mT0 M) 2 ∧ (r < mN (mT0 M) 6 ∨ (r = mN (mT0 M) 6 ∧ s < 0)) from ⟨hs, Or.inl hr⟩)).symm) (tw_b (by omega)) (fun _ _ => by omega)
    have e1' : mUp (mClear (mIter (fun r M => mIter (fun s M => mJudge M r s (T + 1)) (mN M 2) M) (mN (mT0 M) 6) (mT0 M)) (T + 1)) (T + 1) = mUp (mClear N1 (T + 1)) (T + 1) := by rw [e1]
    refine ax_aload_n (i := 0) dX11_tick_25 rfl rfl rfl ?_
    refine ax_iload_n (i := 1) dX11_tick_26 rfl rfl ?_
    refine ax_invV (c := 12) (n := 1) (As := [_]) dX11_tick_27 cb_X11_markAlarms cv_X11_176.1 cv_X11_176.2.1 cv_X11_176.2.2 rfl (by decide) rfl ⟨Nat.le_of_ble_eq_true rfl, Nat.le_of_ble_eq_true rfl⟩ (Nat.le_of_ble_eq_true rfl) rfl (c_markAlarms Rt (nI_lt (a := 0) (by omega) (by omega)) (fun S2 R2 f2 => ?_))
    refine ax_aload_n (i := 0) dX11_tick_30 rfl rfl rfl ?_
    refine ax_iload_n (i := 1) dX11_tick_31 rfl rfl ?_
    refine ax_invV (c := 12) (n := 1) (As := [_]) dX11_tick_32 cb_X11_climbRows cv_X11_179.1 cv_X11_179.2.1 cv_X11_179.2.2 rfl (by decide) rfl ⟨Nat.le_of_ble_eq_true rfl, Nat.le_of_ble_eq_true rfl⟩ (Nat.le_of_ble_eq_true rfl) rfl (c_climbRows R2 (fun S3 R3 f3 => ?_))
    obtain ⟨N3, hN3⟩ : ∃ N3, mUp (mClear N1 (T + 1)) (T + 1) = N3 := ⟨_, rfl⟩
    have hr3 : cRest N3 := by rw [← hN3]; exact (cRest_clear Rt.mI (T + 1)).up (T + 1)
    have hz3 : zz N3 = zz N1 := by rw [← hN3]; exact zz_cl Rt.mI (T + 1)
    have hn3 : mN N3 1 = T := by
      rw [← hN3]
      exact (congrArg Int32.toNatClampNeg (mUp_s (mClear N1 (T + 1)) (T + 1) (mN (mClear N1 (T + 1)) 63) 1)).trans ((mN_clear N1 Rt.mI (T + 1) 1).trans ((n1 _ (by decide) (by decide) (by decide)).trans hT))
    rw [hN3] at R3 e1'
    refine ax_aload_n (i := 0) dX11_tick_35 rfl rfl rfl ?_
    refine ax_iload_n (i := 1) dX11_tick_36 rfl rfl ?_
    refine ax_invV (c := 12) (n := 1) (As := [_]) dX11_tick_37 cb_X11_sendLetters cv_X11_182.1 cv_X11_182.2.1 cv_X11_182.2.2 rfl (by decide) rfl ⟨Nat.le_of_ble_eq_true rfl, Nat.le_of_ble_eq_true rfl⟩ (Nat.le_of_ble_eq_true rfl) rfl (c_sendLetters R3 hr3 (by omega) (fun S4 N4 kc4 ks4 e4 R4 hr4 f4 y3 y4 => ?_))
    refine ax_istore_n (i := 2) (lv' := [(2, _), (1, _), (0, _)]) dX11_tick_40 rfl (by decide) rfl ?_
    refine ax_aload_n (i := 0) dX11_tick_41 rfl rfl rfl ?_
    refine ax_iload_n (i := 1) dX11_tick_42 rfl rfl ?_
    refine ax_putI dX11_tick_43 fl_X11_67 rfl rfl rfl (Or.inl rfl) rfl rfl ?_
    refine ax_iload_n (i := 2) dX11_tick_46 rfl rfl ?_
    refine ax_iret dX11_tick_47 rfl rfl ?_
    have eM : mTickM (mT0 M) (T + 1) = pS N4 1 (nI (T + 1)) := by
      rw [tickM_eq, e1', e4]
    have eT : mTick M = (mTickM (mT0 M) (T + 1), mTickR (mT0 M) (T + 1)) := by
      unfold mTick
      rw [if_neg (show ¬ mS M 1 = 400 from fun z => absurd (R.eC.symm.trans (R.sca.2.2.2.2.2.2.1.trans z)) (fun w => absurd ((nI_eq (b := 400) (by omega) (by decide)).mp w) (by omega))), hT]
    have eR : mTickR (mT0 M) (T + 1) = mS N4 63 - mS N3 63 := by
      rw [tickR_eq, eM, mS_cl, e1']
    have hn4 : ∀ k, ¬ k = 63 → ¬ k = 78 → mN N4 k = mN N3 k := fun k h1 h2 => by rw [← e4]; exact congrArg Int32.toNatClampNeg ((mGrpT_inv R3.mI (T + 1) _ R3.nG).2 k h1 h2)
    have R5 := R4.close (t := T + 1) (by rw [hn4 _ (by decide) (by decide), hn3]; omega) (by omega)
    have hz : zz (pS N4 1 (nI (T + 1))) = zz N4 := rfl
    rw [eT, eM, eR] at h
    refine h _ _ _ ⟨?_, hr4⟩ (((((f1.tr f2).tr f3).tr f4)).tr (cFm.xI ⟨by decide, by decide, by decide⟩)) ?_ ?_
    · have e : mN (pS N4 1 (nI (T + 1))) 1 = T + 1 := nI_cl (by omega)
      rw [e]
      exact R5
    · rw [hz]
      have q : zz (mT0 M) = zz M := rfl
      omega
    · rw [hz]
      have q : zz (mT0 M) = zz M := rfl
      omega
  · refine ax_bipush (v := -2) dX11_tick_10 (by decide) ?_
    refine ax_iret dX11_tick_12 rfl rfl ?_
    have e4 : mN M 1 = 400 := Nat.le_antisymm R.nC (Nat.le_of_not_lt (fun z => c_7 (by rw [R.eC]; exact nI_lt (b := 400) z (by decide))))
    have eT : mTick M = (mT0 M, -2) := if_pos ((mS_nI R.mI (k := 1) (b := 400) (by decide)).trans (by rw [e4]; rfl))
    rw [eT] at h
    exact h S _ _ (cRR.t0 ⟨R, hr0⟩) cFm.rf (by rw [Nat.zero_add]; exact Nat.le_refl _) (by rw [Nat.zero_add]; exact Nat.le_refl _)
