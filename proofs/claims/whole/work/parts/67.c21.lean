theorem kp_al {k : Int32} {n : Nat} (hn : n ≤ 400) : (0 ≤ k ∧ k ≤ nI n - 1) ↔ (0 ≤ k ∧ k < nI n) := by
  have e1 : (nI n - 1).toInt = (n : Int) - 1 := pk_sub_toInt (b := 1) (by omega) (by decide)
  rw [Int32.le_iff_toInt_le, Int32.le_iff_toInt_le, Int32.lt_iff_toInt_lt, e1, nI_toInt (by omega)]
  constructor <;> rintro ⟨h1, h2⟩ <;> exact ⟨h1, by omega⟩
theorem kp_z {c : Nat} (hc : c ≤ 400) : (if nI c < 60 then nI c else 60) = nI (min c 60) := by
  by_cases h : c < 60
  · rw [if_pos ((nI_60 c hc).mpr h), Nat.min_eq_left (by omega)]
  · rw [if_neg (fun z => h ((nI_60 c hc).mp z)), Nat.min_eq_right (by omega)]
    rfl
theorem cFm.brd {S : awS} {D z : Nat} {k : Int32} {J : Nat → Int64} : cFm S (brdS S D z k J) := fun f hf => by
  have n2 : ¬ f = 2 := fun q => hf (by rw [q]; exact ⟨by decide, by decide, by decide⟩)
  have n25 : ¬ f = 25 := fun q => hf (by rw [q]; exact ⟨by decide, by decide, by decide⟩)
  refine ⟨fun i q => ?_, fun i q => ?_, fun i q => ?_, fun _ => rfl, rfl⟩
  · show (if f = 2 ∧ i = D ∧ q = 2 then nI z else if f = 2 ∧ i = D ∧ q = 0 then k else S.1 f i q) = S.1 f i q
    rw [if_neg (fun w => n2 w.1), if_neg (fun w => n2 w.1)]
  · show (if f = 25 ∧ i = D ∧ q < 60 then J q else S.2.1 f i q) = S.2.1 f i q
    rw [if_neg (fun w => n25 w.1)]
  · show (if f = 2 ∧ i = D ∧ q = 1 then none else S.2.2.1 f i q) = S.2.2.1 f i q
    rw [if_neg (fun w => n2 w.1)]

set_option maxHeartbeats 400000 in
set_option maxRecDepth 100000 in
theorem c_kaN {E : awE} {S : awS} {Q : Option Value → awS → Nat → Nat → Prop} {d : Nat} (h : Q (some (.int (-1))) S 0 0) : awT true E m_X11_keepAlarm [.ref (nm 2 d), .null] S Q := by
  refine awT.of (by decide) (by decide) (Nat.le_of_ble_eq_true rfl) ?_
  refine ax_aload_n (i := 1) dX11_keepAlarm_0 rfl rfl rfl ?_
  refine ax_ifnonnull_f (k0 := 6) dX11_keepAlarm_1 (by decide) ?_
  refine ax_iconst (v := -1) dX11_keepAlarm_4 (by decide) ?_
  refine ax_iret dX11_keepAlarm_5 rfl rfl ?_
  exact h
set_option maxHeartbeats 400000 in
set_option maxRecDepth 100000 in
theorem c_kaA {E : awE} {S : awS} {Q : Option Value → awS → Nat → Nat → Prop} {d a : Nat} (h : Q (some (.int 0)) (wR (wI S 2 d 0 1) 2 d 1 (some (nm 1 a))) 0 0) : awT true E m_X11_keepAlarm [.ref (nm 2 d), .ref (nm 1 a)] S Q := by
  refine awT.of (by decide) (by decide) (Nat.le_of_ble_eq_true rfl) ?_
  refine ax_aload_n (i := 1) dX11_keepAlarm_0 rfl rfl rfl ?_
  refine ax_ifnonnull_t (tgt := 6) dX11_keepAlarm_1 (by decide) ?_
  refine ax_aload_n (i := 0) dX11_keepAlarm_6 rfl rfl rfl ?_
  refine ax_aload_n (i := 1) dX11_keepAlarm_7 rfl rfl rfl ?_
  refine ax_invV (c := 2) (n := 1) (As := [_]) dX11_keepAlarm_8 cb_X1_keepAlarm cv_X11_479.1 cv_X11_479.2.1 cv_X11_479.2.2 rfl (by decide) rfl ⟨Nat.le_of_ble_eq_true rfl, Nat.le_of_ble_eq_true rfl⟩ (Nat.le_of_ble_eq_true rfl) rfl (c_bKeepAlarm ?_)
  refine ax_iconst (v := 0) dX11_keepAlarm_11 (by decide) ?_
  refine ax_iret dX11_keepAlarm_12 rfl rfl ?_
  exact h
set_option maxHeartbeats 400000 in
set_option maxRecDepth 100000 in
theorem c_krN {E : awE} {S : awS} {Q : Option Value → awS → Nat → Nat → Prop} {d : Nat} {k : Int32} (h : Q (some (.int (-1))) S 0 0) : awT true E m_X11_keepRow [.ref (nm 12 0), .ref (nm 2 d), .int k, .null] S Q := by
  refine awT.of (by decide) (by decide) (Nat.le_of_ble_eq_true rfl) ?_
  refine ax_aload_n (i := 3) dX11_keepRow_0 rfl rfl rfl ?_
  refine ax_ifnonnull_f (k0 := 6) dX11_keepRow_1 (by decide) ?_
  refine ax_iconst (v := -1) dX11_keepRow_4 (by decide) ?_
  refine ax_iret dX11_keepRow_5 rfl rfl ?_
  exact h
theorem tiLe4 {x : Int32} (h : x ≤ 4) : x.toInt ≤ 4 := Int32.le_iff_toInt_le.mp h
theorem sw_5 {x : Int32} (h0 : 0 ≤ x.toInt) (h : x.toInt ≤ 4) : x = 0 ∨ x = 1 ∨ x = 2 ∨ x = 3 ∨ x = 4 := by
  have : x.toInt = 0 ∨ x.toInt = 1 ∨ x.toInt = 2 ∨ x.toInt = 3 ∨ x.toInt = 4 := by omega
  rcases this with e | e | e | e | e
  · exact Or.inl (Int32.toInt_inj.mp e)
  · exact Or.inr (Or.inl (Int32.toInt_inj.mp e))
  · exact Or.inr (Or.inr (Or.inl (Int32.toInt_inj.mp e)))
  · exact Or.inr (Or.inr (Or.inr (Or.inl (Int32.toInt_inj.mp e))))
  · exact Or.inr (Or.inr (Or.inr (Or.inr (Int32.toInt_inj.mp e))))

set_option maxHeartbeats 400000 in
set_option maxRecDepth 100000 in
theorem c_keep {E : awE} {S : awS} {M : aM} {Q : Option Value → awS → Nat → Nat → Prop} (R0 : cRR S M) {d wh k : Int32} (h : cPost S (mKeep M d wh k) Q) : awT true E m_X11_keep [.ref (nm 12 0), .int d, .int wh, .int k] S Q := by
  refine awT.of (by decide) (by decide) (Nat.le_of_ble_eq_true rfl) ?_
  obtain ⟨R, hr0⟩ := R0
  refine ax_aload_n (i := 0) dX11_keep_0 rfl rfl rfl ?_
  refine ax_iload_n (i := 1) dX11_keep_1 rfl rfl ?_
  refine ax_invV (c := 12) (n := 1) (As := [_]) dX11_keep_2 cb_X11_boardAt cv_X11_464.1 cv_X11_464.2.1 cv_X11_464.2.2 rfl (by decide) rfl ⟨Nat.le_of_ble_eq_true rfl, Nat.le_of_ble_eq_true rfl⟩ (Nat.le_of_ble_eq_true rfl) rfl (c_boardAt R (fun c_2 => ?_) (fun c_2 => ?_))
  · refine ax_astore (lv' := [(4, _), (0, _), (1, _), (2, _), (3, _)]) dX11_keep_5 (by decide) rfl rfl ?_
    refine ax_aload dX11_keep_7 rfl rfl ?_
    refine ax_ifnonnull_t (tgt := 14) dX11_keep_9 (by decide) ?_
    have e_d := okB_e c_2
    refine ax_iload_n (i := 2) dX11_keep_14 rfl rfl ?_
    rcases (by omega : wh.toInt < 0 ∨ 0 ≤ wh.toInt) with c_15 | c_15
    · refine ax_tableOut (tgt := 80) dX11_keep_15 (Or.inl c_15) (by decide) ?_
      refine ax_iconst (v := -1) dX11_keep_80 (by decide) ?_
      refine ax_iret dX11_keep_81 rfl rfl ?_
      exact cfin h (if_pos (fun g => absurd c_15 (Int.not_lt.mpr (tiLe0 g.2.1.1)))) (cRR.t0 ⟨R, hr0⟩) cFm.rf (by decide) (by decide)
    rcases (by omega : 4 < wh.toInt ∨ wh.toInt ≤ 4) with c2_15 | c2_15
    · refine ax_tableOut (tgt := 80) dX11_keep_15 (Or.inr c2_15) (by decide) ?_
      refine ax_iconst (v := -1) dX11_keep_80 (by decide) ?_
      refine ax_iret dX11_keep_81 rfl rfl ?_
      exact cfin h (if_pos (fun g => absurd c2_15 (Int.not_lt.mpr (tiLe4 g.2.1.2)))) (cRR.t0 ⟨R, hr0⟩) cFm.rf (by decide) (by decide)
    have c3_15 : wh = 0 ∨ wh = 1 ∨ wh = 2 ∨ wh = 3 ∨ wh = 4 := by have h1 := c_15; have h2 := c2_15; exact sw_5 h1 h2
    rcases c3_15 with c4_15 | c4_15 | c4_15 | c4_15 | c4_15
    · refine ax_tableIn (tgt := 48) (off := 33) dX11_keep_15 (by rw [c4_15]; decide) (by rw [c4_15]; decide) (by rw [c4_15]; decide) (by decide) ?_
      refine ax_aload dX11_keep_48 rfl rfl ?_
      refine ax_iload_n (i := 2) dX11_keep_50 rfl rfl ?_
      refine ax_invV (c := 2) (n := 1) (As := [_]) dX11_keep_51 cb_X1_keepBare cv_X11_468.1 cv_X11_468.2.1 cv_X11_468.2.2 rfl (by decide) rfl ⟨Nat.le_of_ble_eq_true rfl, Nat.le_of_ble_eq_true rfl⟩ (Nat.le_of_ble_eq_true rfl) rfl (c_keepBare ?_)
      refine ax_iconst (v := 0) dX11_keep_54 (by decide) ?_
      refine ax_iret dX11_keep_55 rfl rfl ?_
      exact cfin (M' := (mKeepA M (nN d) wh k 0)) h (mKeep_1 (show kpGood M d wh k from ⟨c_2, by rw [c4_15]; decide, Or.inl (by rw [c4_15]; decide), Or.inl (by rw [c4_15]; decide)⟩) (by rw [c4_15]; decide)) ⟨cR.kind R e_d.2 (by rw [c4_15]; decide) (fun z => by rw [c4_15] at z; exact absurd z (by decide)) (fun _ => rfl), hr0⟩ (by repeat (first | exact cFm.rf | refine cFm.tr ?_ (cFm.xI ⟨by decide, by decide, by decide⟩) | refine cFm.tr ?_ (cFm.xL ⟨by decide, by decide, by decide⟩) | refine cFm.tr ?_ (cFm.xR ⟨by decide, by decide, by decide⟩) | refine cFm.tr ?_ (cFm.xN ⟨by decide, by decide, by decide⟩) | refine cFm.tr ?_ cFm.xK)) (by decide) (by decide)
    · refine ax_tableIn (tgt := 56) (off := 41) dX11_keep_15 (by rw [c4_15]; decide) (by rw [c4_15]; decide) (by rw [c4_15]; decide) (by decide) ?_
      refine ax_aload dX11_keep_56 rfl rfl ?_
      refine ax_aload_n (i := 0) dX11_keep_58 rfl rfl rfl ?_
      refine ax_iload_n (i := 3) dX11_keep_59 rfl rfl ?_
      refine ax_invV (c := 12) (n := 1) (As := [_]) dX11_keep_60 cb_X11_alarmAt cv_X11_386.1 cv_X11_386.2.1 cv_X11_386.2.2 rfl (by decide) rfl ⟨Nat.le_of_ble_eq_true rfl, Nat.le_of_ble_eq_true rfl⟩ (Nat.le_of_ble_eq_true rfl) rfl (c_alarmAt R (fun c_60 => ?_) (fun c_60 => ?_))
      · refine ax_invS (n := 2) (As := [_, _]) dX11_keep_63 cb_X11_keepAlarm cs_X11_471.1 cs_X11_471.2 rfl ⟨Nat.le_of_ble_eq_true rfl, Nat.le_of_ble_eq_true rfl⟩ (Nat.le_of_ble_eq_true rfl) rfl (c_kaA ?_)
        refine ax_iret dX11_keep_66 rfl rfl ?_
        rw [show (wI S 2 (nN d) 0 1) = (wI S 2 (nN d) 0 wh) from by rw [c4_15]]
        exact cfin (M' := (mKeepA M (nN d) wh k 0)) h (mKeep_1 (show kpGood M d wh k from ⟨c_2, by rw [c4_15]; decide, Or.inr ((kp_al (n := mN M 30) (by have := R.nA; omega)).mpr ⟨c_60.1, by rw [← (mS_nI R.mI (k := 30) (b := 300) (by decide))]; exact c_60.2⟩ |> fun q => ⟨q.1, by rw [(mS_nI R.mI (k := 30) (b := 300) (by decide))]; exact q.2⟩), Or.inl (by rw [c4_15]; decide)⟩) (by rw [c4_15]; decide)) ⟨cR.kind R e_d.2 (by rw [c4_15]; decide) (fun _ => ⟨R.aE c_60, rfl⟩) (fun z => absurd c4_15 z), hr0⟩ (by repeat (first | exact cFm.rf | refine cFm.tr ?_ (cFm.xI ⟨by decide, by decide, by decide⟩) | refine cFm.tr ?_ (cFm.xL ⟨by decide, by decide, by decide⟩) | refine cFm.tr ?_ (cFm.xR ⟨by decide, by decide, by decide⟩) | refine cFm.tr ?_ (cFm.xN ⟨by decide, by decide, by decide⟩) | refine cFm.tr ?_ cFm.xK)) (by decide) (by decide)
      · refine ax_invS (n := 2) (As := [_, _]) dX11_keep_63 cb_X11_keepAlarm cs_X11_471.1 cs_X11_471.2 rfl ⟨Nat.le_of_ble_eq_true rfl, Nat.le_of_ble_eq_true rfl⟩ (Nat.le_of_ble_eq_true rfl) rfl (c_kaN ?_)
        refine ax_iret dX11_keep_66 rfl rfl ?_
        exact cfin h (if_pos (fun g => g.2.2.1.elim (fun w => w c4_15) (fun w => c_60 ((kp_al (n := mN M 30) (by have := R.nA; omega)).mp ⟨w.1, by rw [← (mS_nI R.mI (k := 30) (b := 300) (by decide))]; exact w.2⟩ |> fun q => ⟨q.1, by rw [(mS_nI R.mI (k := 30) (b := 300) (by decide))]; exact q.2⟩)))) (cRR.t0 ⟨R, hr0⟩) cFm.rf (by decide) (by decide)
    · refine ax_tableIn (tgt := 48) (off := 33) dX11_keep_15 (by rw [c4_15]; decide) (by rw [c4_15]; decide) (by rw [c4_15]; decide) (by decide) ?_
      refine ax_aload dX11_keep_48 rfl rfl ?_
      refine ax_iload_n (i := 2) dX11_keep_50 rfl rfl ?_
      refine ax_invV (c := 2) (n := 1) (As := [_]) dX11_keep_51 cb_X1_keepBare cv_X11_468.1 cv_X11_468.2.1 cv_X11_468.2.2 rfl (by decide) rfl ⟨Nat.le_of_ble_eq_true rfl, Nat.le_of_ble_eq_true rfl⟩ (Nat.le_of_ble_eq_true rfl) rfl (c_keepBare ?_)
      refine ax_iconst (v := 0) dX11_keep_54 (by decide) ?_
      refine ax_iret dX11_keep_55 rfl rfl ?_
      exact cfin (M' := (mKeepA M (nN d) wh k 0)) h (mKeep_1 (show kpGood M d wh k from ⟨c_2, by rw [c4_15]; decide, Or.inl (by rw [c4_15]; decide), Or.inl (by rw [c4_15]; decide)⟩) (by rw [c4_15]; decide)) ⟨cR.kind R e_d.2 (by rw [c4_15]; decide) (fun z => by rw [c4_15] at z; exact absurd z (by decide)) (fun _ => rfl), hr0⟩ (by repeat (first | exact cFm.rf | refine cFm.tr ?_ (cFm.xI ⟨by decide, by decide, by decide⟩) | refine cFm.tr ?_ (cFm.xL ⟨by decide, by decide, by decide⟩) | refine cFm.tr ?_ (cFm.xR ⟨by decide, by decide, by decide⟩) | refine cFm.tr ?_ (cFm.xN ⟨by decide, by decide, by decide⟩) | refine cFm.tr ?_ cFm.xK)) (by decide) (by decide)
    · refine ax_tableIn (tgt := 67) (off := 52) dX11_keep_15 (by rw [c4_15]; decide) (by rw [c4_15]; decide) (by rw [c4_15]; decide) (by decide) ?_
      refine ax_aload_n (i := 0) dX11_keep_67 rfl rfl rfl ?_
      refine ax_aload dX11_keep_68 rfl rfl ?_
      refine ax_iload_n (i := 2) dX11_keep_70 rfl rfl ?_
      refine ax_aload_n (i := 0) dX11_keep_71 rfl rfl rfl ?_
      refine ax_iload_n (i := 3) dX11_keep_72 rfl rfl ?_
      refine ax_invV (c := 12) (n := 1) (As := [_]) dX11_keep_73 cb_X11_sourceAt cv_X11_150.1 cv_X11_150.2.1 cv_X11_150.2.2 rfl (by decide) rfl ⟨Nat.le_of_ble_eq_true rfl, Nat.le_of_ble_eq_true rfl⟩ (Nat.le_of_ble_eq_true rfl) rfl (c_sourceAt R (fun c_73 => ?_) (fun c_73 => ?_))
      · refine ax_invV (c := 12) (n := 3) (As := [_, _, _]) dX11_keep_76 cb_X11_keepRow cv_X11_475.1 cv_X11_475.2.1 cv_X11_475.2.2 rfl (by decide) rfl ⟨Nat.le_of_ble_eq_true rfl, Nat.le_of_ble_eq_true rfl⟩ (Nat.le_of_ble_eq_true rfl) rfl (c_keepRow (z := min (mN M 1) 60) R e_d.2 (R.sE c_73).2 (by omega) ?_)
        refine ax_iret dX11_keep_79 rfl rfl ?_
        have hZ60 : (min (mN M 1) 60) ≤ 60 := Nat.min_le_right _ _
        have hM : cR (fun _ _ => mN M 1) (brdS S (nN d) (min (mN M 1) 60) wh (fun q => if q < (min (mN M 1) 60) then kpG M (nN k) wh (min (mN M 1) 60) q else 0)) (mIter (mKeepI (nN d) (nN k) wh) (min (mN M 1) 60) (mKeepA M (nN d) wh k (nI (min (mN M 1) 60)))) := cR.row0 R.t0 e_d.2 hZ60 (by rw [c4_15]; decide) (kpG M (nN k) wh (min (mN M 1) 60)) k (fun q => if q < (min (mN M 1) 60) then kpG M (nN k) wh (min (mN M 1) 60) q else 0) (mI.rowJ ((mIx.qBd R.mI.t0 (fun z => by rw [c4_15] at z; exact absurd z (by decide))).qR (b := 61) (by decide) (by omega) (by decide)) _ (fun i N q => q.qL (by decide)) _) (kp_e2 M (nN d) (nN k) (min (mN M 1) 60) wh k hZ60) rfl (fun j hj => if_pos hj)
        have hrest : cRest (mIter (mKeepI (nN d) (nN k) wh) (min (mN M 1) 60) (mKeepA M (nN d) wh k (nI (min (mN M 1) 60)))) := by rw [kp_e2 _ _ _ _ _ _ hZ60]; exact hr0
        exact cfin (M' := (mIter (mKeepI (nN d) (nN k) wh) (min (mN M 1) 60) (mKeepA M (nN d) wh k (nI (min (mN M 1) 60))))) h (mKeep_2 (show kpGood M d wh k from ⟨c_2, by rw [c4_15]; decide, Or.inl (by rw [c4_15]; decide), Or.inr c_73⟩) (by rw [c4_15]; decide) (by rw [(mS_nI R.mI (k := 1) (b := 400) (by decide))]; exact kp_z R.nC) hZ60) ⟨by
            have e0 : mN (mIter (mKeepI (nN d) (nN k) wh) (min (mN M 1) 60) (mKeepA M (nN d) wh k (nI (min (mN M 1) 60)))) 1 = mN M 1 := by rw [kp_e2 _ _ _ _ _ _ hZ60]; rfl
            rw [e0]; exact hM, hrest⟩ cFm.brd (by decide) (by decide)
      · refine ax_invV (c := 12) (n := 3) (As := [_, _, _]) dX11_keep_76 cb_X11_keepRow cv_X11_475.1 cv_X11_475.2.1 cv_X11_475.2.2 rfl (by decide) rfl ⟨Nat.le_of_ble_eq_true rfl, Nat.le_of_ble_eq_true rfl⟩ (Nat.le_of_ble_eq_true rfl) rfl (c_krN ?_)
        refine ax_iret dX11_keep_79 rfl rfl ?_
        exact cfin h (if_pos (fun g => g.2.2.2.elim (fun w => by rw [c4_15] at w; exact absurd w (by decide)) (fun w => c_73 w))) (cRR.t0 ⟨R, hr0⟩) cFm.rf (by decide) (by decide)
    · refine ax_tableIn (tgt := 67) (off := 52) dX11_keep_15 (by rw [c4_15]; decide) (by rw [c4_15]; decide) (by rw [c4_15]; decide) (by decide) ?_
      refine ax_aload_n (i := 0) dX11_keep_67 rfl rfl rfl ?_
      refine ax_aload dX11_keep_68 rfl rfl ?_
      refine ax_iload_n (i := 2) dX11_keep_70 rfl rfl ?_
      refine ax_aload_n (i := 0) dX11_keep_71 rfl rfl rfl ?_
      refine ax_iload_n (i := 3) dX11_keep_72 rfl rfl ?_
      refine ax_invV (c := 12) (n := 1) (As := [_]) dX11_keep_73 cb_X11_sourceAt cv_X11_150.1 cv_X11_150.2.1 cv_X11_150.2.2 rfl (by decide) rfl ⟨Nat.le_of_ble_eq_true rfl, Nat.le_of_ble_eq_true rfl⟩ (Nat.le_of_ble_eq_true rfl) rfl (c_sourceAt R (fun c_73 => ?_) (fun c_73 => ?_))
      · refine ax_invV (c := 12) (n := 3) (As := [_, _, _]) dX11_keep_76 cb_X11_keepRow cv_X11_475.1 cv_X11_475.2.1 cv_X11_475.2.2 rfl (by decide) rfl ⟨Nat.le_of_ble_eq_true rfl, Nat.le_of_ble_eq_true rfl⟩ (Nat.le_of_ble_eq_true rfl) rfl (c_keepRow (z := min (mN M 1) 60) R e_d.2 (R.sE c_73).2 (by omega) ?_)
        refine ax_iret dX11_keep_79 rfl rfl ?_
        have hZ60 : (min (mN M 1) 60) ≤ 60 := Nat.min_le_right _ _
        have hM : cR (fun _ _ => mN M 1) (brdS S (nN d) (min (mN M 1) 60) wh (fun q => if q < (min (mN M 1) 60) then kpG M (nN k) wh (min (mN M 1) 60) q else 0)) (mIter (mKeepI (nN d) (nN k) wh) (min (mN M 1) 60) (mKeepA M (nN d) wh k (nI (min (mN M 1) 60)))) := cR.row0 R.t0 e_d.2 hZ60 (by rw [c4_15]; decide) (kpG M (nN k) wh (min (mN M 1) 60)) k (fun q => if q < (min (mN M 1) 60) then kpG M (nN k) wh (min (mN M 1) 60) q else 0) (mI.rowJ ((mIx.qBd R.mI.t0 (fun z => by rw [c4_15] at z; exact absurd z (by decide))).qR (b := 61) (by decide) (by omega) (by decide)) _ (fun i N q => q.qL (by decide)) _) (kp_e2 M (nN d) (nN k) (min (mN M 1) 60) wh k hZ60) rfl (fun j hj => if_pos hj)
        have hrest : cRest (mIter (mKeepI (nN d) (nN k) wh) (min (mN M 1) 60) (mKeepA M (nN d) wh k (nI (min (mN M 1) 60)))) := by rw [kp_e2 _ _ _ _ _ _ hZ60]; exact hr0
        exact cfin (M' := (mIter (mKeepI (nN d) (nN k) wh) (min (mN M 1) 60) (mKeepA M (nN d) wh k (nI (min (mN M 1) 60))))) h (mKeep_2 (show kpGood M d wh k from ⟨c_2, by rw [c4_15]; decide, Or.inl (by rw [c4_15]; decide), Or.inr c_73⟩) (by rw [c4_15]; decide) (by rw [(mS_nI R.mI (k := 1) (b := 400) (by decide))]; exact kp_z R.nC) hZ60) ⟨by
            have e0 : mN (mIter (mKeepI (nN d) (nN k) wh) (min (mN M 1) 60) (mKeepA M (nN d) wh k (nI (min (mN M 1) 60)))) 1 = mN M 1 := by rw [kp_e2 _ _ _ _ _ _ hZ60]; rfl
            rw [e0]; exact hM, hrest⟩ cFm.brd (by decide) (by decide)
      · refine ax_invV (c := 12) (n := 3) (As := [_, _, _]) dX11_keep_76 cb_X11_keepRow cv_X11_475.1 cv_X11_475.2.1 cv_X11_475.2.2 rfl (by decide) rfl ⟨Nat.le_of_ble_eq_true rfl, Nat.le_of_ble_eq_true rfl⟩ (Nat.le_of_ble_eq_true rfl) rfl (c_krN ?_)
        refine ax_iret dX11_keep_79 rfl rfl ?_
        exact cfin h (if_pos (fun g => g.2.2.2.elim (fun w => by rw [c4_15] at w; exact absurd w (by decide)) (fun w => c_73 w))) (cRR.t0 ⟨R, hr0⟩) cFm.rf (by decide) (by decide)
  · refine ax_astore (lv' := [(4, _), (0, _), (1, _), (2, _), (3, _)]) dX11_keep_5 (by decide) rfl rfl ?_
    refine ax_aload dX11_keep_7 rfl rfl ?_
    refine ax_ifnonnull_f (k0 := 14) dX11_keep_9 (by decide) ?_
    refine ax_iconst (v := -1) dX11_keep_12 (by decide) ?_
    refine ax_iret dX11_keep_13 rfl rfl ?_
    exact cfin h (if_pos (fun g => c_2 g.1)) (cRR.t0 ⟨R, hr0⟩) cFm.rf (by decide) (by decide)
