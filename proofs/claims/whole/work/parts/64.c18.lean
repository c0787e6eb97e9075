theorem brd_eS (S : awS) (D z : Nat) (k : Int32) : sFillJ 25 D 0 60 (wI (wR (wI S 2 D 0 k) 2 D 1 none) 2 D 2 (nI z)) = (fun f i q => if f = 2 ∧ i = D ∧ q = 2 then nI z else if f = 2 ∧ i = D ∧ q = 0 then k else S.1 f i q, fun f i q => if f = 25 ∧ i = D ∧ q < 60 then 0 else S.2.1 f i q, fun f i q => if f = 2 ∧ i = D ∧ q = 1 then none else S.2.2.1 f i q, S.2.2.2) := by
  rw [sFillJ_e]
  rfl
theorem mk_e2 (M : aM) (D z : Nat) (k : Int32) : mIter (fun i M => pL M 82 (60 * D + i) 0) z (pA (pA M 79 D k) 80 D (nI z)) = (M.1, fun k' j => if k' = 80 ∧ j = D then nI z else if k' = 81 ∧ j = D then mA M 81 D else if k' = 79 ∧ j = D then k else M.2.1 k' j, fun k' j => if k' = 82 ∧ 60 * D ≤ j ∧ j < 60 * D + z then 0 else M.2.2 k' j) := by
  rw [mRowJ 82 (60 * D) (fun _ => 0) _ _ (fun i N _ _ _ => rfl)]
  refine Prod.ext rfl (Prod.ext ?_ rfl)
  funext k' j
  show (if k' = 80 ∧ j = D then nI z else if k' = 79 ∧ j = D then k else M.2.1 k' j) = (if k' = 80 ∧ j = D then nI z else if k' = 81 ∧ j = D then mA M 81 D else if k' = 79 ∧ j = D then k else M.2.1 k' j)
  by_cases c1 : k' = 80 ∧ j = D
  · rw [if_pos c1, if_pos c1]
  · rw [if_neg c1, if_neg c1]
    by_cases c2 : k' = 81 ∧ j = D
    · rw [if_pos c2, if_neg (fun q => absurd (c2.1.symm.trans q.1) (by decide)), c2.1, c2.2]
      rfl
    · rw [if_neg c2]

theorem w34 {x : Int32} (h : 3 ≤ x ∧ x ≤ 4) : x = 3 ∨ x = 4 := by
  have h1 := h.1
  have h2 := h.2
  rw [Int32.le_iff_toInt_le] at h1 h2
  have e3 : (3 : Int32).toInt = 3 := by decide
  have e4 : (4 : Int32).toInt = 4 := by decide
  by_cases c : x.toInt = 3
  · exact Or.inl (Int32.toInt_inj.mp (c.trans e3.symm))
  · exact Or.inr (Int32.toInt_inj.mp (by omega))

set_option maxHeartbeats 400000 in
set_option maxRecDepth 100000 in
theorem c_make {E : awE} {S : awS} {M : aM} {Q : Option Value → awS → Nat → Nat → Prop} (R0 : cRR S M) {d wh n : Int32} (h : cPost S (mMake M d wh n) Q) : awT true E m_X11_make [.ref (nm 12 0), .int d, .int wh, .int n] S Q := by
  refine awT.of (by decide) (by decide) (Nat.le_of_ble_eq_true rfl) ?_
  obtain ⟨R, hr0⟩ := R0
  refine ax_aload_n (i := 0) dX11_make_0 rfl rfl rfl ?_
  refine ax_iload_n (i := 1) dX11_make_1 rfl rfl ?_
  refine ax_invV (c := 12) (n := 1) (As := [_]) dX11_make_2 cb_X11_boardAt cv_X11_464.1 cv_X11_464.2.1 cv_X11_464.2.2 rfl (by decide) rfl ⟨Nat.le_of_ble_eq_true rfl, Nat.le_of_ble_eq_true rfl⟩ (Nat.le_of_ble_eq_true rfl) rfl (c_boardAt R (fun c_2 => ?_) (fun c_2 => ?_))
  · refine ax_astore (lv' := [(4, _), (0, _), (1, _), (2, _), (3, _)]) dX11_make_5 (by decide) rfl rfl ?_
    refine ax_aload dX11_make_7 rfl rfl ?_
    refine ax_ifnull_f (k0 := 27) dX11_make_9 (by decide) ?_
    refine ax_iload_n (i := 2) dX11_make_12 rfl rfl ?_
    refine ax_iconst (v := 3) dX11_make_13 (by decide) ?_
    refine ax_iconst (v := 4) dX11_make_14 (by decide) ?_
    refine ax_invS (n := 3) (As := [_, _, _]) dX11_make_15 cb_X11_isWithin cs_X11_71.1 cs_X11_71.2 rfl ⟨Nat.le_of_ble_eq_true rfl, Nat.le_of_ble_eq_true rfl⟩ (Nat.le_of_ble_eq_true rfl) rfl (c_isWithin (fun c_15 => ?_) (fun c_15 => ?_))
    · refine ax_if_eq (tgt := 27) dX11_make_18 (by decide) (fun z => absurd z (by decide)) (fun _ => ?_)
      refine ax_iload_n (i := 3) dX11_make_21 rfl rfl ?_
      refine ax_bipush (v := 60) dX11_make_22 (by decide) ?_
      refine ax_icmp_le (tgt := 29) dX11_make_24 (by decide) (fun c_24 => ?_) (fun c_24 => ?_)
      · refine ax_iload_n (i := 3) dX11_make_29 rfl rfl ?_
        refine ax_if_ge (tgt := 36) dX11_make_30 (by decide) (fun c_30 => ?_) (fun c_30 => ?_)
        · have e_d := okB_e c_2
          have e_n := rg_of (n := 61) c_30 (Int32.lt_of_le_of_lt c_24 (by decide)) (by decide)
          have e_nb := e_n.2
          rw [e_n.1]
          refine ax_aload dX11_make_36 rfl rfl ?_
          refine ax_iload_n (i := 2) dX11_make_38 rfl rfl ?_
          refine ax_iload_n (i := 3) dX11_make_39 rfl rfl ?_
          refine ax_invV (c := 2) (n := 2) (As := [_, _]) dX11_make_40 cb_X1_keepRow cv_X11_484.1 cv_X11_484.2.1 cv_X11_484.2.2 rfl (by decide) rfl ⟨Nat.le_of_ble_eq_true rfl, Nat.le_of_ble_eq_true rfl⟩ (Nat.le_of_ble_eq_true rfl) rfl (c_bKeepRow (R.brd _ e_d.2) (by omega) ?_)
          refine ax_iconst (v := 0) dX11_make_43 (by decide) ?_
          refine ax_iret dX11_make_44 rfl rfl ?_
          have hk1 : ¬ wh = 1 := fun z => by rw [z] at c_15; exact absurd c_15.1 (by decide)
          have hk34 : wh = 3 ∨ wh = 4 := w34 c_15
          have hM : cR (fun _ _ => mN M 1) (sFillJ 25 (nN d) 0 60 (wI (wR (wI S 2 (nN d) 0 wh) 2 (nN d) 1 none) 2 (nN d) 2 (nI (nN n)))) (mIter (fun i M => pL M 82 (60 * nN d + i) 0) (nN n) (pA (pA (mT0 M) 79 (nN d) wh) 80 (nN d) (nI (nN n)))) := cR.row0 R.t0 e_d.2 (by omega) hk34 (fun _ => 0) _ (fun _ => 0) (mI.rowJ ((R.mI.t0.qBd1 hk1).qR (b := 61) (by decide) e_n.2 (by decide)) _ (fun i N q => q.qL (by decide)) _) (mk_e2 (mT0 M) (nN d) (nN n) wh) (brd_eS S (nN d) (nN n) wh) (fun _ _ => rfl)
          have hrest : cRest (mIter (fun i M => pL M 82 (60 * nN d + i) 0) (nN n) (pA (pA (mT0 M) 79 (nN d) wh) 80 (nN d) (nI (nN n)))) := by rw [mk_e2]; exact hr0
          exact cfin (M' := (mIter (fun i M => pL M 82 (60 * nN d + i) 0) (nN n) (pA (pA (mT0 M) 79 (nN d) wh) 80 (nN d) (nI (nN n))))) h ((if_neg (fun z => z.elim (fun w => w ⟨c_2, c_15⟩) (fun w => Int32.not_lt.mpr c_24 w))).trans ((if_neg (Int32.not_lt.mpr c_30)).trans (by rw [← e_n.1]))) ⟨by
              have e0 : mN (mIter (fun i M => pL M 82 (60 * nN d + i) 0) (nN n) (pA (pA (mT0 M) 79 (nN d) wh) 80 (nN d) (nI (nN n)))) 1 = mN M 1 := by rw [mk_e2]; rfl
              rw [e0]; exact hM, hrest⟩ (by repeat (first | exact cFm.rf | refine cFm.tr ?_ (cFm.xI ⟨by decide, by decide, by decide⟩) | refine cFm.tr ?_ (cFm.xL ⟨by decide, by decide, by decide⟩) | refine cFm.tr ?_ (cFm.xR ⟨by decide, by decide, by decide⟩) | refine cFm.tr ?_ (cFm.xN ⟨by decide, by decide, by decide⟩) | refine cFm.tr ?_ (cFm.xJ ⟨by decide, by decide, by decide⟩) | refine cFm.tr ?_ cFm.xK)) (by decide) (by decide)
        · refine ax_bipush (v := -14) dX11_make_33 (by decide) ?_
          refine ax_iret dX11_make_35 rfl rfl ?_
          exact cfin h ((if_neg (fun z => z.elim (fun w => w ⟨c_2, c_15⟩) (fun w => Int32.not_lt.mpr c_24 w))).trans (if_pos (Int32.not_le.mp c_30))) (cRR.t0 ⟨R, hr0⟩) cFm.rf (by decide) (by decide)
      · refine ax_iconst (v := -1) dX11_make_27 (by decide) ?_
        refine ax_iret dX11_make_28 rfl rfl ?_
        exact cfin h (if_pos (Or.inr (Int32.not_le.mp c_24))) (cRR.t0 ⟨R, hr0⟩) cFm.rf (by decide) (by decide)
    · refine ax_if_eq (tgt := 27) dX11_make_18 (by decide) (fun _ => ?_) (fun z => absurd (by decide) z)
      refine ax_iconst (v := -1) dX11_make_27 (by decide) ?_
      refine ax_iret dX11_make_28 rfl rfl ?_
      exact cfin h (if_pos (Or.inl (fun g => c_15 g.2))) (cRR.t0 ⟨R, hr0⟩) cFm.rf (by decide) (by decide)
  · refine ax_astore (lv' := [(4, _), (0, _), (1, _), (2, _), (3, _)]) dX11_make_5 (by decide) rfl rfl ?_
    refine ax_aload dX11_make_7 rfl rfl ?_
    refine ax_ifnull_t (tgt := 27) dX11_make_9 (by decide) ?_
    refine ax_iconst (v := -1) dX11_make_27 (by decide) ?_
    refine ax_iret dX11_make_28 rfl rfl ?_
    exact cfin h (if_pos (Or.inl (fun g => c_2 g.1))) (cRR.t0 ⟨R, hr0⟩) cFm.rf (by decide) (by decide)
