def brdS (S : awS) (D z : Nat) (k : Int32) (J : Nat → Int64) : awS := (fun f i q => if f = 2 ∧ i = D ∧ q = 2 then nI z else if f = 2 ∧ i = D ∧ q = 0 then k else S.1 f i q, fun f i q => if f = 25 ∧ i = D ∧ q < 60 then J q else S.2.1 f i q, fun f i q => if f = 2 ∧ i = D ∧ q = 1 then none else S.2.2.1 f i q, S.2.2.2)
theorem put_brd (S : awS) (D z : Nat) (k : Int32) (G : Nat → Int64) (hz : z ≤ 60) : sPutJ D G z (brdS S D z k (fun _ => 0)) = brdS S D z k (fun q => if q < z then G q else 0) := by
  refine Prod.ext rfl (Prod.ext ?_ rfl)
  funext f i q
  show (if f = 25 ∧ i = D ∧ q < z then G q else (if f = 25 ∧ i = D ∧ q < 60 then 0 else S.2.1 f i q)) = (if f = 25 ∧ i = D ∧ q < 60 then (if q < z then G q else 0) else S.2.1 f i q)
  by_cases c : f = 25 ∧ i = D ∧ q < z
  · rw [if_pos c, if_pos ⟨c.1, c.2.1, by omega⟩, if_pos c.2.2]
  · rw [if_neg c]
    by_cases d : f = 25 ∧ i = D ∧ q < 60
    · rw [if_pos d, if_pos d, if_neg (fun w => c ⟨d.1, d.2.1, w⟩)]
    · rw [if_neg d, if_neg d]
theorem kp_F {M : aM} {D s z : Nat} {wh x : Int32} (hz : z ≤ 60) (i : Nat) (N : aM) (h1 : N.1 = (mKeepA M D wh x (nI z)).1) (h2 : N.2.1 = (mKeepA M D wh x (nI z)).2.1) (h3 : ∀ k j, ¬ k = 82 → N.2.2 k j = (mKeepA M D wh x (nI z)).2.2 k j) : mKeepI D s wh i N = pL N 82 (60 * D + i) (kpG M s wh z i) := by
  have hC : mN N 1 = mN M 1 := by unfold mN mS; rw [h1]; rfl
  have hZ : mE N 80 D = z := by
    unfold mE mA
    rw [h2]
    show (mA (mKeepA M D wh x (nI z)) 80 D).toNatClampNeg = z
    unfold mKeepA
    rw [mA_set]
    exact nI_clamp (by omega)
  have hH : ∀ t, mHas N s t ↔ mHas M s t := fun t => by
    unfold mHas mA
    rw [h2]
    exact Iff.rfl
  have hV : ∀ t, mVal N s t = mVal M s t := fun t => h3 4 _ (by decide)
  unfold mKeepI
  rw [hC, hZ]
  refine congrArg (pL N 82 (60 * D + i)) ?_
  unfold kpG
  rw [hV]
  by_cases c : mHas M s (mN M 1 + 1 + i - z)
  · rw [iC_t c, iC_f (fun w => w ((hH _).mpr c))]
  · rw [iC_f c, iC_t (fun w => c ((hH _).mp w))]
theorem kp_e2 (M : aM) (D s z : Nat) (wh x : Int32) (hz : z ≤ 60) : mIter (mKeepI D s wh) z (mKeepA M D wh x (nI z)) = ((mT0 M).1, fun k' j => if k' = 80 ∧ j = D then nI z else if k' = 81 ∧ j = D then x else if k' = 79 ∧ j = D then wh else (mT0 M).2.1 k' j, fun k' j => if k' = 82 ∧ 60 * D ≤ j ∧ j < 60 * D + z then kpG M s wh z (j - 60 * D) else (mT0 M).2.2 k' j) := by
  rw [mRowJ 82 (60 * D) (kpG M s wh z) _ _ (fun i N h1 h2 h3 => kp_F hz i N h1 h2 h3)]
  rfl
/-- a board gets nothing, a note or an alarm -/
theorem cR.kind {τ : Nat → Nat → Nat} {S : awS} {M : aM} (R : cR τ S M) {D : Nat} {k x : Int32} {v : Option Nat} (hD : D < 8) (hk : 0 ≤ k ∧ k < 3) (h1 : k = 1 → (x = nI (nN x) ∧ nN x < mN M 30) ∧ v = some (nm 1 (nN x))) (h0 : ¬ k = 1 → v = none) : cR τ (wR (wI S 2 D 0 k) 2 D 1 v) (mKeepA M D k x 0) := by
  have hI : mIx 0 (mKeepA M D k x 0) := (mIx.qBd R.mI.t0 (fun z => ⟨(h1 z).1.1, Nat.lt_of_lt_of_le (h1 z).1.2 R.nA⟩)).qR (b := 61) (x := 0) (by decide) (by decide) (by decide)
  refine cR.mk' hI R.tow R.lst R.cx R.cnt.2.1 R.cnt.2.2 R.src R.rul R.ala R.ltr (fun d hd => ?_) ⟨R.ix.1, R.ix.2.1, R.ix.2.2.1, R.ix.2.2.2.1, R.ix.2.2.2.2.1, R.ix.2.2.2.2.2.1, R.ix.2.2.2.2.2.2.1, R.ix.2.2.2.2.2.2.2.1, R.ix.2.2.2.2.2.2.2.2.1, R.ix.2.2.2.2.2.2.2.2.2.1, R.ix.2.2.2.2.2.2.2.2.2.2.1, R.ix.2.2.2.2.2.2.2.2.2.2.2.1, R.ix.2.2.2.2.2.2.2.2.2.2.2.2.1, R.ix.2.2.2.2.2.2.2.2.2.2.2.2.2.1, R.ix.2.2.2.2.2.2.2.2.2.2.2.2.2.2.1, R.ix.2.2.2.2.2.2.2.2.2.2.2.2.2.2.2.1, R.ix.2.2.2.2.2.2.2.2.2.2.2.2.2.2.2.2.1, R.ix.2.2.2.2.2.2.2.2.2.2.2.2.2.2.2.2.2.1, R.ix.2.2.2.2.2.2.2.2.2.2.2.2.2.2.2.2.2.2.1, R.ix.2.2.2.2.2.2.2.2.2.2.2.2.2.2.2.2.2.2.2.1, R.ix.2.2.2.2.2.2.2.2.2.2.2.2.2.2.2.2.2.2.2.2.1, R.ix.2.2.2.2.2.2.2.2.2.2.2.2.2.2.2.2.2.2.2.2.2.1, R.ix.2.2.2.2.2.2.2.2.2.2.2.2.2.2.2.2.2.2.2.2.2.2.1, R.ix.2.2.2.2.2.2.2.2.2.2.2.2.2.2.2.2.2.2.2.2.2.2.2.1, R.ix.2.2.2.2.2.2.2.2.2.2.2.2.2.2.2.2.2.2.2.2.2.2.2.2.1, R.ix.2.2.2.2.2.2.2.2.2.2.2.2.2.2.2.2.2.2.2.2.2.2.2.2.2.1, R.ix.2.2.2.2.2.2.2.2.2.2.2.2.2.2.2.2.2.2.2.2.2.2.2.2.2.2.1, R.ix.2.2.2.2.2.2.2.2.2.2.2.2.2.2.2.2.2.2.2.2.2.2.2.2.2.2.2.1, R.ix.2.2.2.2.2.2.2.2.2.2.2.2.2.2.2.2.2.2.2.2.2.2.2.2.2.2.2.2.1, R.ix.2.2.2.2.2.2.2.2.2.2.2.2.2.2.2.2.2.2.2.2.2.2.2.2.2.2.2.2.2.1, R.ix.2.2.2.2.2.2.2.2.2.2.2.2.2.2.2.2.2.2.2.2.2.2.2.2.2.2.2.2.2.2.1, R.ix.2.2.2.2.2.2.2.2.2.2.2.2.2.2.2.2.2.2.2.2.2.2.2.2.2.2.2.2.2.2.2.1, R.ix.2.2.2.2.2.2.2.2.2.2.2.2.2.2.2.2.2.2.2.2.2.2.2.2.2.2.2.2.2.2.2.2.1, R.ix.2.2.2.2.2.2.2.2.2.2.2.2.2.2.2.2.2.2.2.2.2.2.2.2.2.2.2.2.2.2.2.2.2.1, R.ix.2.2.2.2.2.2.2.2.2.2.2.2.2.2.2.2.2.2.2.2.2.2.2.2.2.2.2.2.2.2.2.2.2.2.1, R.ix.2.2.2.2.2.2.2.2.2.2.2.2.2.2.2.2.2.2.2.2.2.2.2.2.2.2.2.2.2.2.2.2.2.2.2.1, R.ix.2.2.2.2.2.2.2.2.2.2.2.2.2.2.2.2.2.2.2.2.2.2.2.2.2.2.2.2.2.2.2.2.2.2.2.2.1, R.ix.2.2.2.2.2.2.2.2.2.2.2.2.2.2.2.2.2.2.2.2.2.2.2.2.2.2.2.2.2.2.2.2.2.2.2.2.2.1, fun i hi => by
    have q := R.int (f := 2) (k := 0) (m := 79) (q := 101) (by decide) hi
    unfold mKeepA
    simp only [mA_pA, sI_wR, sI_wI]
    by_cases c : i = D
    · simp [c]
    · simp [c]; exact q⟩ R.la R.sca R.val R.ref R.wat R.flg R.tru R.hld R.lea R.row (fun d hd => ?_) R.inv
  · obtain ⟨h1, h2⟩ := R.brd d hd
    refine ⟨?_, h2⟩
    rw [sR_wR, if_neg (fun z => absurd z.2.2 (by decide)), sR_wI]
    exact h1
  · have q := R.bdr d hd
    unfold mKeepA mE
    simp only [mA_pA, mL_pA, sR_wR, sR_wI, sI_wR, sI_wI, sL_wR, sL_wI]
    by_cases c : d = D
    · subst c
      simp
      refine ⟨⟨hk.1, Int32.le_of_lt (Int32.lt_trans hk.2 (by decide))⟩, ?_, fun w => (h1 w).1.2, fun w => absurd (Int32.lt_of_lt_of_le hk.2 w) Int32.lt_irrefl⟩
      by_cases e : k = 1
      · rw [if_pos e]; exact (h1 e).2
      · rw [if_neg e]; exact h0 e
    · simp [c]
      exact q

set_option maxHeartbeats 400000 in
set_option maxRecDepth 100000 in
theorem c_keepRow {E : awE} {S : awS} {M : aM} {τ : Nat → Nat → Nat} {Q : Option Value → awS → Nat → Nat → Prop} (R : cR τ S M) {D s z : Nat} {wh : Int32} (hD : D < 8) (hs : s < mN M 2) (hz : (mN M 1 < 60 ∧ z = mN M 1) ∨ (60 ≤ mN M 1 ∧ z = 60)) (h : Q (some (.int 0)) (brdS S D z wh (fun q => if q < z then kpG M s wh z q else 0)) 0 0) : awT true E m_X11_keepRow [.ref (nm 12 0), .ref (nm 2 D), .int wh, .ref (nm 9 s)] S Q := by
  refine awT.of (by decide) (by decide) (Nat.le_of_ble_eq_true rfl) ?_
  refine ax_aload_n (i := 3) dX11_keepRow_0 rfl rfl rfl ?_
  refine ax_ifnonnull_t (tgt := 6) dX11_keepRow_1 (by decide) ?_
  refine ax_aload_n (i := 0) dX11_keepRow_6 rfl rfl rfl ?_
  refine ax_getI dX11_keepRow_7 fl_X11_67 rfl rfl rfl ?_
  refine ax_top R.eC ?_
  refine ax_bipush (v := nI 60) dX11_keepRow_10 (by decide) ?_
  refine ax_invS (n := 2) (As := [_, _]) dX11_keepRow_12 cb_J9_min_7cf53 cs_X11_481.1 cs_X11_481.2 rfl ⟨Nat.le_of_ble_eq_true rfl, Nat.le_of_ble_eq_true rfl⟩ (Nat.le_of_ble_eq_true rfl) rfl (t_imin (fun c_12 => ?_) (fun c_12 => ?_))
  · have hc60 : 60 < mN M 1 := nI_slt (a := 60) c_12 (by have := R.nC; omega)
    refine ax_istore (lv' := [(4, _), (0, _), (1, _), (2, _), (3, _)]) dX11_keepRow_15 (by decide) rfl ?_
    refine ax_aload_n (i := 1) dX11_keepRow_17 rfl rfl rfl ?_
    refine ax_iload_n (i := 2) dX11_keepRow_18 rfl rfl ?_
    refine ax_iload dX11_keepRow_19 rfl ?_
    refine ax_invV (c := 2) (n := 2) (As := [_, _]) dX11_keepRow_21 cb_X1_keepRow cv_X11_484.1 cv_X11_484.2.1 cv_X11_484.2.2 rfl (by decide) rfl ⟨Nat.le_of_ble_eq_true rfl, Nat.le_of_ble_eq_true rfl⟩ (Nat.le_of_ble_eq_true rfl) rfl (c_bKeepRow (R.brd _ hD) (by omega) ?_)
    rw [brd_eS]
    refine ax_iconst (v := nI 0) dX11_keepRow_24 (by decide) ?_
    refine ax_istore (lv' := [(5, _), (4, _), (0, _), (1, _), (2, _), (3, _)]) dX11_keepRow_25 (by decide) rfl ?_
    have ez : z = 60 := by omega
    subst ez
    have hB := R.brd D hD
    refine ax_loc rfl (keepRow_2 (S0 := brdS S D _ wh (fun _ => 0)) (M := M) (s := s) ⟨by show (if 2 = 2 ∧ D = D ∧ 3 = 1 then none else S.2.2.1 2 D 3) = _; rw [if_neg (fun w => absurd w.2.2 (by decide))]; exact hB.1, hB.2⟩ (R.src s hs) R.eC R.nC (by omega) (by omega) (fun t ht => R.val s hs t ht) ?_)
    rw [put_brd _ _ _ _ _ (by omega)]
    exact h
  · have hc60 : mN M 1 ≤ 60 := Nat.le_of_not_lt (fun w => c_12 (nI_lt (a := 60) w (by have := R.nC; omega)))
    refine ax_istore (lv' := [(4, _), (0, _), (1, _), (2, _), (3, _)]) dX11_keepRow_15 (by decide) rfl ?_
    refine ax_aload_n (i := 1) dX11_keepRow_17 rfl rfl rfl ?_
    refine ax_iload_n (i := 2) dX11_keepRow_18 rfl rfl ?_
    refine ax_iload dX11_keepRow_19 rfl ?_
    refine ax_invV (c := 2) (n := 2) (As := [_, _]) dX11_keepRow_21 cb_X1_keepRow cv_X11_484.1 cv_X11_484.2.1 cv_X11_484.2.2 rfl (by decide) rfl ⟨Nat.le_of_ble_eq_true rfl, Nat.le_of_ble_eq_true rfl⟩ (Nat.le_of_ble_eq_true rfl) rfl (c_bKeepRow (R.brd _ hD) (by omega) ?_)
    rw [brd_eS]
    refine ax_iconst (v := nI 0) dX11_keepRow_24 (by decide) ?_
    refine ax_istore (lv' := [(5, _), (4, _), (0, _), (1, _), (2, _), (3, _)]) dX11_keepRow_25 (by decide) rfl ?_
    have ez : z = mN M 1 := by omega
    subst ez
    have hB := R.brd D hD
    refine ax_loc rfl (keepRow_2 (S0 := brdS S D _ wh (fun _ => 0)) (M := M) (s := s) ⟨by show (if 2 = 2 ∧ D = D ∧ 3 = 1 then none else S.2.2.1 2 D 3) = _; rw [if_neg (fun w => absurd w.2.2 (by decide))]; exact hB.1, hB.2⟩ (R.src s hs) R.eC R.nC (by omega) (by omega) (fun t ht => R.val s hs t ht) ?_)
    rw [put_brd _ _ _ _ _ (by omega)]
    exact h
