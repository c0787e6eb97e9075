/-- at rest, between the calls -/
def cRest (M : aM) : Prop := ∀ i, i < mN M 30 → ¬ mA M 34 i = 0 → mA M 35 i = 0 ∧ mA M 36 i = 0 ∧ mA M 37 i = 0 ∧ mA M 39 i = 0
theorem tiLe0 {x : Int32} (h : 0 ≤ x) : 0 ≤ x.toInt := Int32.le_iff_toInt_le.mp h
theorem tiLe2 {x : Int32} (h : x ≤ 2) : x.toInt ≤ 2 := Int32.le_iff_toInt_le.mp h
theorem sw_3 {x : Int32} (h0 : 0 ≤ x.toInt) (h : x.toInt ≤ 2) : x = 0 ∨ x = 1 ∨ x = 2 := by
  have : x.toInt = 0 ∨ x.toInt = 1 ∨ x.toInt = 2 := by omega
  rcases this with e | e | e
  · exact Or.inl (Int32.toInt_inj.mp e)
  · exact Or.inr (Or.inl (Int32.toInt_inj.mp e))
  · exact Or.inr (Or.inr (Int32.toInt_inj.mp e))
section CIDX
variable {τ : Nat → Nat → Nat} {S : awS} {M : aM}
theorem cR.rE (R : cR τ S M) {x : Int32} (h : okRule M x) : x = nI (nN x) ∧ nN x < mN M 6 := rg_lt h.1 h.2 (mS_nI R.mI (k := 6) (b := 16) (by decide)) (Nat.lt_of_le_of_lt R.nR (by decide))
theorem cR.sE (R : cR τ S M) {x : Int32} (h : okSource M x) : x = nI (nN x) ∧ nN x < mN M 2 := rg_lt h.1 h.2 (mS_nI R.mI (k := 2) (b := 16) (by decide)) (Nat.lt_of_le_of_lt R.nS (by decide))
theorem cR.lE (R : cR τ S M) {x : Int32} (h : okLetter M x) : x = nI (nN x) ∧ nN x < mN M 63 := rg_lt h.1 h.2 (mS_nI R.mI (k := 63) (b := 200) (by decide)) (Nat.lt_of_le_of_lt R.nL (by decide))
theorem cR.aE (R : cR τ S M) {x : Int32} (h : 0 ≤ x ∧ x < mS M 30) : x = nI (nN x) ∧ nN x < mN M 30 := rg_lt h.1 h.2 (mS_nI R.mI (k := 30) (b := 300) (by decide)) (Nat.lt_of_le_of_lt R.nA (by decide))
theorem cR.hE (R : cR τ S M) {x : Int32} (h : okHand M x) : x = nI (nN x) ∧ nN x < mN M 52 := rg_lt h.1 h.2 (mS_nI R.mI (k := 52) (b := 8) (by decide)) (Nat.lt_of_le_of_lt R.nH (by decide))
theorem cR.wat3 (R : cR τ S M) {r s : Nat} (hr : r < mN M 6) (hs : s < 16) : 16 * r + s < cB M 100 := by
  show 16 * r + s < 16 * mN M 6
  omega
theorem cR.watS (R : cR τ S M) {w : Nat} (hw : w < cB M 100) (h : ¬ mA M 20 w < 0) : sR S 11 w 4 = some (nm 1 (mE M 20 w)) := (R.wat w hw).trans (if_neg h)
theorem cR.watN (R : cR τ S M) {w : Nat} (hw : w < cB M 100) (h : mA M 20 w < 0) : sR S 11 w 4 = none := (R.wat w hw).trans (if_pos h)
theorem cR.watI (R : cR τ S M) {w n : Nat} (hw : w < cB M 100) (h : sR S 11 w 4 = some n) : ¬ mA M 20 w < 0 := fun z => by rw [R.watN hw z] at h; cases h
theorem cR.watJ (R : cR τ S M) {w : Nat} (hw : w < cB M 100) (h : sR S 11 w 4 = none) : mA M 20 w < 0 := Classical.byContradiction fun z => by rw [R.watS hw z] at h; cases h
theorem cR.w256 (R : cR τ S M) {w : Nat} (hw : w < cB M 100) : w < 256 := by
  have h1 := R.nR
  have h2 : w < 16 * mN M 6 := hw
  omega
theorem cR.lasA (R : cR τ S M) {w : Nat} (hw : w < cB M 100) (h : ¬ mA M 20 w < 0) : mE M 20 w < mN M 30 ∧ 16 * mE M 31 (mE M 20 w) + mE M 32 (mE M 20 w) = w ∧ mA M 34 (mE M 20 w) = 0 := R.inv.2.2.2.1 w (R.w256 hw) (Int32.not_lt.mp h)
theorem cR.lasE (R : cR τ S M) {w : Nat} (h : ¬ mA M 20 w < 0) : mA M 20 w = nI (mE M 20 w) := ((R.mI.la w).resolve_left h).1
theorem cR.aRu (R : cR τ S M) {i : Nat} (hi : i < mN M 30) : mE M 31 i < mN M 6 := (R.inv.2.2.1 i hi).1
theorem cR.aSo (R : cR τ S M) {i : Nat} (hi : i < mN M 30) : mE M 32 i < mN M 2 := (R.inv.2.2.1 i hi).2.1
theorem cR.aGr (R : cR τ S M) {i : Nat} (hi : i < mN M 30) : mE M 42 i < mN M 48 := (R.inv.2.2.1 i hi).2.2.1
theorem cRest.flg (h : cRest M) (R : cR τ S M) {i : Nat} (hi : i < mN M 30) : sI S 1 i 6 = mA M 35 i ∧ sI S 1 i 7 = mA M 36 i ∧ sI S 1 i 8 = mA M 37 i ∧ (¬ mA M 39 i = 0 ↔ (0 < sI S 1 i 8 ∧ sI S 1 i 10 = 0)) := by
  have hf := R.flg i hi
  by_cases c : mA M 34 i = 0
  · obtain ⟨h1, h2, h3, h4⟩ := hf.1 c
    exact ⟨h1, h2, h3, by rw [h3]; exact h4⟩
  · obtain ⟨h1, h2, h3⟩ := hf.2 c
    obtain ⟨g1, g2, g3, g4⟩ := h i hi c
    rw [h1, h2, h3, g1, g2, g3]
    exact ⟨rfl, rfl, rfl, ⟨fun z => absurd g4 z, fun z => absurd z.1 (by decide)⟩⟩
end CIDX

set_option maxHeartbeats 4000000 in
set_option maxRecDepth 100000 in
theorem c_truth {E : awE} {S : awS} {M : aM} {Q : Option Value → awS → Nat → Nat → Prop} (R : cR (fun _ _ => mN M 1) S M) (hr0 : cRest M) {r s : Int32} (h : Q (some (.int (mTruth M r s).2)) S 0 0) : awT true E m_X11_truth [.ref (nm 12 0), .int r, .int s] S Q := by
  refine awT.of (by decide) (by decide) (Nat.le_of_ble_eq_true rfl) ?_
  refine ax_aload_n (i := 0) dX11_truth_0 rfl rfl rfl ?_
  refine ax_iload_n (i := 1) dX11_truth_1 rfl rfl ?_
  refine ax_iload_n (i := 2) dX11_truth_2 rfl rfl ?_
  refine ax_invV (c := 12) (n := 2) (As := [_, _]) dX11_truth_3 cb_X11_watchOf cv_X11_247.1 cv_X11_247.2.1 cv_X11_247.2.2 rfl (by decide) rfl ⟨Nat.le_of_ble_eq_true rfl, Nat.le_of_ble_eq_true rfl⟩ (Nat.le_of_ble_eq_true rfl) rfl (c_watchOf R (fun c_3 => ?_) (fun c_3 => ?_))
  · refine ax_astore_n (i := 3) (lv' := [(3, _), (0, _), (1, _), (2, _)]) dX11_truth_6 rfl (by decide) rfl rfl ?_
    refine ax_aload_n (i := 3) dX11_truth_7 rfl rfl rfl ?_
    refine ax_ifnonnull_t (tgt := 14) dX11_truth_8 (by decide) ?_
    have e_r := R.rE c_3.1
    have e_s := R.sE c_3.2
    have e_rb := e_r.2
    have e_sb := e_s.2
    have e_ns := R.nS
    have hs16 : nN s < 16 := by omega
    have hw := R.wat3 e_r.2 hs16
    refine ax_aload_n (i := 0) dX11_truth_14 rfl rfl rfl ?_
    refine ax_getI dX11_truth_15 fl_X11_67 rfl rfl rfl ?_
    refine ax_top R.eC ?_
    refine ax_if_ne (tgt := 26) dX11_truth_18 (by decide) (fun c_18 => ?_) (fun c_18 => ?_)
    · refine ax_aload_n (i := 3) dX11_truth_26 rfl rfl rfl ?_
      refine ax_getI dX11_truth_27 fl_X11_254 rfl rfl rfl ?_
      refine ax_iret dX11_truth_30 rfl rfl ?_
      exact fin1 h ((congrArg Prod.snd ((if_neg (fun z => z c_3)).trans (if_neg (fun z => c_18 ((mS_nI R.mI (k := 1) (b := 400) (by decide)).symm.trans z))))).trans ((R.tru _ _ e_r.2 hs16).symm))
    · refine ax_bipush (v := -3) dX11_truth_21 (by decide) ?_
      refine ax_goto (tgt := 30) dX11_truth_23 (by decide) ?_
      refine ax_iret dX11_truth_30 rfl rfl ?_
      exact fin1 h ((congrArg Prod.snd ((if_neg (fun z => z c_3)).trans (if_pos ((mS_nI R.mI (k := 1) (b := 400) (by decide)).trans (Classical.not_not.mp c_18))))))
  · refine ax_astore_n (i := 3) (lv' := [(3, _), (0, _), (1, _), (2, _)]) dX11_truth_6 rfl (by decide) rfl rfl ?_
    refine ax_aload_n (i := 3) dX11_truth_7 rfl rfl rfl ?_
    refine ax_ifnonnull_f (k0 := 14) dX11_truth_8 (by decide) ?_
    refine ax_bipush (v := -2) dX11_truth_11 (by decide) ?_
    refine ax_iret dX11_truth_13 rfl rfl ?_
    exact fin1 h ((congrArg Prod.snd (if_pos c_3)))
set_option maxHeartbeats 4000000 in
set_option maxRecDepth 100000 in
theorem c_counts {E : awE} {S : awS} {M : aM} {Q : Option Value → awS → Nat → Nat → Prop} (R : cR (fun _ _ => mN M 1) S M) (hr0 : cRest M) {r s wh : Int32} (h : Q (some (.int (mCounts M r s wh).2)) S 0 0) : awT true E m_X11_counts [.ref (nm 12 0), .int r, .int s, .int wh] S Q := by
  refine awT.of (by decide) (by decide) (Nat.le_of_ble_eq_true rfl) ?_
  refine ax_aload_n (i := 0) dX11_counts_0 rfl rfl rfl ?_
  refine ax_iload_n (i := 1) dX11_counts_1 rfl rfl ?_
  refine ax_iload_n (i := 2) dX11_counts_2 rfl rfl ?_
  refine ax_invV (c := 12) (n := 2) (As := [_, _]) dX11_counts_3 cb_X11_watchOf cv_X11_247.1 cv_X11_247.2.1 cv_X11_247.2.2 rfl (by decide) rfl ⟨Nat.le_of_ble_eq_true rfl, Nat.le_of_ble_eq_true rfl⟩ (Nat.le_of_ble_eq_true rfl) rfl (c_watchOf R (fun c_3 => ?_) (fun c_3 => ?_))
  · refine ax_astore (lv' := [(4, _), (0, _), (1, _), (2, _), (3, _)]) dX11_counts_6 (by decide) rfl rfl ?_
    refine ax_aload dX11_counts_8 rfl rfl ?_
    refine ax_ifnonnull_t (tgt := 15) dX11_counts_10 (by decide) ?_
    have e_r := R.rE c_3.1
    have e_s := R.sE c_3.2
    have e_rb := e_r.2
    have e_sb := e_s.2
    have e_ns := R.nS
    have hs16 : nN s < 16 := by omega
    have hw := R.wat3 e_r.2 hs16
    refine ax_iload_n (i := 3) dX11_counts_15 rfl rfl ?_
    rcases (by omega : wh.toInt < 0 ∨ 0 ≤ wh.toInt) with c_16 | c_16
    · refine ax_tableOut (tgt := 78) dX11_counts_16 (Or.inl c_16) (by decide) ?_
      refine ax_iconst (v := -1) dX11_counts_78 (by decide) ?_
      refine ax_iret dX11_counts_79 rfl rfl ?_
      exact fin1 h ((congrArg Prod.snd (if_pos (fun g => absurd c_16 (Int.not_lt.mpr (tiLe0 g.2.2.1))))))
    rcases (by omega : 2 < wh.toInt ∨ wh.toInt ≤ 2) with c2_16 | c2_16
    · refine ax_tableOut (tgt := 78) dX11_counts_16 (Or.inr c2_16) (by decide) ?_
      refine ax_iconst (v := -1) dX11_counts_78 (by decide) ?_
      refine ax_iret dX11_counts_79 rfl rfl ?_
      exact fin1 h ((congrArg Prod.snd (if_pos (fun g => absurd c2_16 (Int.not_lt.mpr (tiLe2 g.2.2.2))))))
    have c3_16 : wh = 0 ∨ wh = 1 ∨ wh = 2 := by have h1 := c_16; have h2 := c2_16; exact sw_3 h1 h2
    rcases c3_16 with c4_16 | c4_16 | c4_16
    · refine ax_tableIn (tgt := 44) (off := 28) dX11_counts_16 (by rw [c4_16]; decide) (by rw [c4_16]; decide) (by rw [c4_16]; decide) (by decide) ?_
      refine ax_aload dX11_counts_44 rfl rfl ?_
      refine ax_getI dX11_counts_46 fl_X11_223 rfl rfl rfl ?_
      refine ax_iret dX11_counts_49 rfl rfl ?_
      exact fin1 h ((congrArg Prod.snd ((if_neg (fun z => z ⟨c_3.1, c_3.2, by rw [c4_16]; decide⟩)).trans (if_pos c4_16))).trans ((R.int (f := 11) (k := 2) (m := 18) (q := 100) (by decide) hw).symm))
    · refine ax_tableIn (tgt := 50) (off := 34) dX11_counts_16 (by rw [c4_16]; decide) (by rw [c4_16]; decide) (by rw [c4_16]; decide) (by decide) ?_
      refine ax_aload dX11_counts_50 rfl rfl ?_
      refine ax_getI dX11_counts_52 fl_X11_233 rfl rfl rfl ?_
      refine ax_iret dX11_counts_55 rfl rfl ?_
      exact fin1 h ((congrArg Prod.snd ((if_neg (fun z => z ⟨c_3.1, c_3.2, by rw [c4_16]; decide⟩)).trans ((if_neg (by rw [c4_16]; decide)).trans (if_pos c4_16)))).trans ((R.int (f := 11) (k := 3) (m := 19) (q := 100) (by decide) hw).symm))
    · refine ax_tableIn (tgt := 56) (off := 40) dX11_counts_16 (by rw [c4_16]; decide) (by rw [c4_16]; decide) (by rw [c4_16]; decide) (by decide) ?_
      refine ax_aload dX11_counts_56 rfl rfl ?_
      refine ax_getQ dX11_counts_58 fl_X11_219 rfl rfl rfl rfl ?_
      refine ax_ifnonnull (tgt := 69) dX11_counts_61 (by decide) (fun n_61 c_61 => ?_) (fun c_61 => ?_)
      · have hl := R.watI hw c_61
        refine ax_aload dX11_counts_69 rfl rfl ?_
        refine ax_getR dX11_counts_71 fl_X11_219 rfl rfl rfl (R.watS hw hl) ?_
        refine ax_getI dX11_counts_74 fl_X11_385 rfl rfl rfl ?_
        refine ax_iret dX11_counts_77 rfl rfl ?_
        exact fin1 h ((congrArg Prod.snd ((if_neg (fun z => z ⟨c_3.1, c_3.2, by rw [c4_16]; decide⟩)).trans ((if_neg (by rw [c4_16]; decide)).trans ((if_neg (by rw [c4_16]; decide)).trans (if_neg hl))))).trans ((R.lasE hl).trans (R.ala _ (R.lasA hw hl).1).symm))
      · refine ax_bipush (v := -2) dX11_counts_64 (by decide) ?_
        refine ax_goto (tgt := 77) dX11_counts_66 (by decide) ?_
        refine ax_iret dX11_counts_77 rfl rfl ?_
        exact fin1 h ((congrArg Prod.snd ((if_neg (fun z => z ⟨c_3.1, c_3.2, by rw [c4_16]; decide⟩)).trans ((if_neg (by rw [c4_16]; decide)).trans ((if_neg (by rw [c4_16]; decide)).trans (if_pos (R.watJ hw c_61)))))))
  · refine ax_astore (lv' := [(4, _), (0, _), (1, _), (2, _), (3, _)]) dX11_counts_6 (by decide) rfl rfl ?_
    refine ax_aload dX11_counts_8 rfl rfl ?_
    refine ax_ifnonnull_f (k0 := 15) dX11_counts_10 (by decide) ?_
    refine ax_iconst (v := -1) dX11_counts_13 (by decide) ?_
    refine ax_iret dX11_counts_14 rfl rfl ?_
    exact fin1 h ((congrArg Prod.snd (if_pos (fun g => c_3 ⟨g.1, g.2.1⟩))))
set_option maxHeartbeats 4000000 in
set_option maxRecDepth 100000 in
theorem c_alarm {E : awE} {S : awS} {M : aM} {Q : Option Value → awS → Nat → Nat → Prop} (R : cR (fun _ _ => mN M 1) S M) (hr0 : cRest M) {x wh : Int32} (h : Q (some (.int (mAlarm M x wh).2)) S 0 0) : awT true E m_X11_alarm [.ref (nm 12 0), .int x, .int wh] S Q := by
  refine awT.of (by decide) (by decide) (Nat.le_of_ble_eq_true rfl) ?_
  refine ax_aload_n (i := 0) dX11_alarm_0 rfl rfl rfl ?_
  refine ax_iload_n (i := 1) dX11_alarm_1 rfl rfl ?_
  refine ax_invV (c := 12) (n := 1) (As := [_]) dX11_alarm_2 cb_X11_alarmAt cv_X11_386.1 cv_X11_386.2.1 cv_X11_386.2.2 rfl (by decide) rfl ⟨Nat.le_of_ble_eq_true rfl, Nat.le_of_ble_eq_true rfl⟩ (Nat.le_of_ble_eq_true rfl) rfl (c_alarmAt R (fun c_2 => ?_) (fun c_2 => ?_))
  · refine ax_astore_n (i := 3) (lv' := [(3, _), (0, _), (1, _), (2, _)]) dX11_alarm_5 rfl (by decide) rfl rfl ?_
    refine ax_aload_n (i := 3) dX11_alarm_6 rfl rfl rfl ?_
    refine ax_ifnonnull_t (tgt := 12) dX11_alarm_7 (by decide) ?_
    have e_x := R.aE c_2
    have e_xb := e_x.2
    have e_nx := R.nA
    have e_x3 : nN x < 300 := by omega
    have href := R.ref.1 _ e_xb
    refine ax_iload_n (i := 2) dX11_alarm_12 rfl rfl ?_
    rcases (by omega : wh.toInt < 0 ∨ 0 ≤ wh.toInt) with c_13 | c_13
    · refine ax_tableOut (tgt := 124) dX11_alarm_13 (Or.inl c_13) (by decide) ?_
      refine ax_iconst (v := -1) dX11_alarm_124 (by decide) ?_
      refine ax_iret dX11_alarm_125 rfl rfl ?_
      exact fin1 h ((congrArg Prod.snd ((if_neg (fun z => z c_2)).trans ((if_neg (fun z => by rw [z] at c_13; exact absurd c_13 (by decide))).trans ((if_neg (fun z => by rw [z] at c_13; exact absurd c_13 (by decide))).trans ((if_neg (fun z => by rw [z] at c_13; exact absurd c_13 (by decide))).trans ((if_neg (fun z => by rw [z] at c_13; exact absurd c_13 (by decide))).trans ((if_neg (fun z => by rw [z] at c_13; exact absurd c_13 (by decide))).trans ((if_neg (fun z => by rw [z] at c_13; exact absurd c_13 (by decide))).trans ((if_neg (fun z => by rw [z] at c_13; exact absurd c_13 (by decide))).trans ((if_neg (fun z => by rw [z] at c_13; exact absurd c_13 (by decide))).trans (if_neg (fun z => by rw [z] at c_13; exact absurd c_13 (by decide))))))))))))))
    rcases (by omega : 8 < wh.toInt ∨ wh.toInt ≤ 8) with c2_13 | c2_13
    · refine ax_tableOut (tgt := 124) dX11_alarm_13 (Or.inr c2_13) (by decide) ?_
      refine ax_iconst (v := -1) dX11_alarm_124 (by decide) ?_
      refine ax_iret dX11_alarm_125 rfl rfl ?_
      exact fin1 h ((congrArg Prod.snd ((if_neg (fun z => z c_2)).trans ((if_neg (fun z => by rw [z] at c2_13; exact absurd c2_13 (by decide))).trans ((if_neg (fun z => by rw [z] at c2_13; exact absurd c2_13 (by decide))).trans ((if_neg (fun z => by rw [z] at c2_13; exact absurd c2_13 (by decide))).trans ((if_neg (fun z => by rw [z] at c2_13; exact absurd c2_13 (by decide))).trans ((if_neg (fun z => by rw [z] at c2_13; exact absurd c2_13 (by decide))).trans ((if_neg (fun z => by rw [z] at c2_13; exact absurd c2_13 (by decide))).trans ((if_neg (fun z => by rw [z] at c2_13; exact absurd c2_13 (by decide))).trans ((if_neg (fun z => by rw [z] at c2_13; exact absurd c2_13 (by decide))).trans (if_neg (fun z => by rw [z] at c2_13; exact absurd c2_13 (by decide))))))))))))))
    have c3_13 : wh = 0 ∨ wh = 1 ∨ wh = 2 ∨ wh = 3 ∨ wh = 4 ∨ wh = 5 ∨ wh = 6 ∨ wh = 7 ∨ wh = 8 := by have h1 := c_13; have h2 := c2_13; exact sw_9 h1 h2
    rcases c3_13 with c4_13 | c4_13 | c4_13 | c4_13 | c4_13 | c4_13 | c4_13 | c4_13 | c4_13
    · refine ax_tableIn (tgt := 64) (off := 51) dX11_alarm_13 (by rw [c4_13]; decide) (by rw [c4_13]; decide) (by rw [c4_13]; decide) (by decide) ?_
      refine ax_aload_n (i := 3) dX11_alarm_64 rfl rfl rfl ?_
      refine ax_getR dX11_alarm_65 fl_X11_289 rfl rfl rfl href.1 ?_
      refine ax_getI dX11_alarm_68 fl_X11_101 rfl rfl rfl ?_
      refine ax_iret dX11_alarm_71 rfl rfl ?_
      exact fin1 h ((congrArg Prod.snd ((if_neg (fun z => z c_2)).trans (if_pos c4_13))).trans ((R.mI.A (k := 31) (n := 300) (b := 16) (by decide) e_x3).1.trans (R.rul _ (R.aRu e_xb)).2.2.2.2.2.2.2.2.1.symm))
    · refine ax_tableIn (tgt := 72) (off := 59) dX11_alarm_13 (by rw [c4_13]; decide) (by rw [c4_13]; decide) (by rw [c4_13]; decide) (by decide) ?_
      refine ax_aload_n (i := 3) dX11_alarm_72 rfl rfl rfl ?_
      refine ax_getR dX11_alarm_73 fl_X11_296 rfl rfl rfl href.2.1 ?_
      refine ax_getI dX11_alarm_76 fl_X11_190 rfl rfl rfl ?_
      refine ax_iret dX11_alarm_79 rfl rfl ?_
      exact fin1 h ((congrArg Prod.snd ((if_neg (fun z => z c_2)).trans ((if_neg (by rw [c4_13]; decide)).trans (if_pos c4_13)))).trans ((R.mI.A (k := 32) (n := 300) (b := 16) (by decide) e_x3).1.trans (R.src _ (R.aSo e_xb)).2.2.2.2.symm))
    · refine ax_tableIn (tgt := 80) (off := 67) dX11_alarm_13 (by rw [c4_13]; decide) (by rw [c4_13]; decide) (by rw [c4_13]; decide) (by decide) ?_
      refine ax_aload_n (i := 3) dX11_alarm_80 rfl rfl rfl ?_
      refine ax_getI dX11_alarm_81 fl_X11_390 rfl rfl rfl ?_
      refine ax_iret dX11_alarm_84 rfl rfl ?_
      exact fin1 h ((congrArg Prod.snd ((if_neg (fun z => z c_2)).trans ((if_neg (by rw [c4_13]; decide)).trans ((if_neg (by rw [c4_13]; decide)).trans (if_pos c4_13))))).trans ((R.int (f := 1) (k := 4) (m := 33) (q := 30) (by decide) e_xb).symm))
    · refine ax_tableIn (tgt := 85) (off := 72) dX11_alarm_13 (by rw [c4_13]; decide) (by rw [c4_13]; decide) (by rw [c4_13]; decide) (by decide) ?_
      refine ax_aload_n (i := 3) dX11_alarm_85 rfl rfl rfl ?_
      refine ax_getI dX11_alarm_86 fl_X11_393 rfl rfl rfl ?_
      refine ax_iret dX11_alarm_89 rfl rfl ?_
      exact fin1 h ((congrArg Prod.snd ((if_neg (fun z => z c_2)).trans ((if_neg (by rw [c4_13]; decide)).trans ((if_neg (by rw [c4_13]; decide)).trans ((if_neg (by rw [c4_13]; decide)).trans (if_pos c4_13)))))).trans ((R.int (f := 1) (k := 5) (m := 34) (q := 30) (by decide) e_xb).symm))
    · refine ax_tableIn (tgt := 90) (off := 77) dX11_alarm_13 (by rw [c4_13]; decide) (by rw [c4_13]; decide) (by rw [c4_13]; decide) (by decide) ?_
      refine ax_aload_n (i := 3) dX11_alarm_90 rfl rfl rfl ?_
      refine ax_getR dX11_alarm_91 fl_X11_289 rfl rfl rfl href.1 ?_
      refine ax_getI dX11_alarm_94 fl_X11_396 rfl rfl rfl ?_
      refine ax_iret dX11_alarm_97 rfl rfl ?_
      exact fin1 h ((congrArg Prod.snd ((if_neg (fun z => z c_2)).trans ((if_neg (by rw [c4_13]; decide)).trans ((if_neg (by rw [c4_13]; decide)).trans ((if_neg (by rw [c4_13]; decide)).trans ((if_neg (by rw [c4_13]; decide)).trans (if_pos c4_13))))))).trans ((R.int (f := 6) (k := 6) (m := 13) (q := 6) (by decide) (R.aRu e_xb)).symm))
    · refine ax_tableIn (tgt := 98) (off := 85) dX11_alarm_13 (by rw [c4_13]; decide) (by rw [c4_13]; decide) (by rw [c4_13]; decide) (by decide) ?_
      refine ax_aload_n (i := 3) dX11_alarm_98 rfl rfl rfl ?_
      refine ax_getI dX11_alarm_99 fl_X11_399 rfl rfl rfl ?_
      refine ax_invS (n := 1) (As := [_]) dX11_alarm_102 cb_X11_bit cs_X11_165.1 cs_X11_165.2 rfl ⟨Nat.le_of_ble_eq_true rfl, Nat.le_of_ble_eq_true rfl⟩ (Nat.le_of_ble_eq_true rfl) rfl (c_bit ?_)
      refine ax_iret dX11_alarm_105 rfl rfl ?_
      exact fin1 h ((congrArg Prod.snd ((if_neg (fun z => z c_2)).trans ((if_neg (by rw [c4_13]; decide)).trans ((if_neg (by rw [c4_13]; decide)).trans ((if_neg (by rw [c4_13]; decide)).trans ((if_neg (by rw [c4_13]; decide)).trans ((if_neg (by rw [c4_13]; decide)).trans (if_pos c4_13)))))))).trans (by rw [(hr0.flg R e_xb).1]))
    · refine ax_tableIn (tgt := 106) (off := 93) dX11_alarm_13 (by rw [c4_13]; decide) (by rw [c4_13]; decide) (by rw [c4_13]; decide) (by decide) ?_
      refine ax_aload_n (i := 3) dX11_alarm_106 rfl rfl rfl ?_
      refine ax_getI dX11_alarm_107 fl_X11_402 rfl rfl rfl ?_
      refine ax_invS (n := 1) (As := [_]) dX11_alarm_110 cb_X11_bit cs_X11_165.1 cs_X11_165.2 rfl ⟨Nat.le_of_ble_eq_true rfl, Nat.le_of_ble_eq_true rfl⟩ (Nat.le_of_ble_eq_true rfl) rfl (c_bit ?_)
      refine ax_iret dX11_alarm_113 rfl rfl ?_
      exact fin1 h ((congrArg Prod.snd ((if_neg (fun z => z c_2)).trans ((if_neg (by rw [c4_13]; decide)).trans ((if_neg (by rw [c4_13]; decide)).trans ((if_neg (by rw [c4_13]; decide)).trans ((if_neg (by rw [c4_13]; decide)).trans ((if_neg (by rw [c4_13]; decide)).trans ((if_neg (by rw [c4_13]; decide)).trans (if_pos c4_13))))))))).trans (by rw [(hr0.flg R e_xb).2.1]))
    · refine ax_tableIn (tgt := 114) (off := 101) dX11_alarm_13 (by rw [c4_13]; decide) (by rw [c4_13]; decide) (by rw [c4_13]; decide) (by decide) ?_
      refine ax_aload_n (i := 3) dX11_alarm_114 rfl rfl rfl ?_
      refine ax_getI dX11_alarm_115 fl_X11_405 rfl rfl rfl ?_
      refine ax_iret dX11_alarm_118 rfl rfl ?_
      exact fin1 h ((congrArg Prod.snd ((if_neg (fun z => z c_2)).trans ((if_neg (by rw [c4_13]; decide)).trans ((if_neg (by rw [c4_13]; decide)).trans ((if_neg (by rw [c4_13]; decide)).trans ((if_neg (by rw [c4_13]; decide)).trans ((if_neg (by rw [c4_13]; decide)).trans ((if_neg (by rw [c4_13]; decide)).trans ((if_neg (by rw [c4_13]; decide)).trans (if_pos c4_13)))))))))).trans ((hr0.flg R e_xb).2.2.1.symm))
    · refine ax_tableIn (tgt := 119) (off := 106) dX11_alarm_13 (by rw [c4_13]; decide) (by rw [c4_13]; decide) (by rw [c4_13]; decide) (by decide) ?_
      refine ax_aload_n (i := 3) dX11_alarm_119 rfl rfl rfl ?_
      refine ax_getI dX11_alarm_120 fl_X11_408 rfl rfl rfl ?_
      refine ax_iret dX11_alarm_123 rfl rfl ?_
      exact fin1 h ((congrArg Prod.snd ((if_neg (fun z => z c_2)).trans ((if_neg (by rw [c4_13]; decide)).trans ((if_neg (by rw [c4_13]; decide)).trans ((if_neg (by rw [c4_13]; decide)).trans ((if_neg (by rw [c4_13]; decide)).trans ((if_neg (by rw [c4_13]; decide)).trans ((if_neg (by rw [c4_13]; decide)).trans ((if_neg (by rw [c4_13]; decide)).trans ((if_neg (by rw [c4_13]; decide)).trans (if_pos c4_13))))))))))).trans ((R.int (f := 1) (k := 9) (m := 38) (q := 30) (by decide) e_xb).symm))
  · refine ax_astore_n (i := 3) (lv' := [(3, _), (0, _), (1, _), (2, _)]) dX11_alarm_5 rfl (by decide) rfl rfl ?_
    refine ax_aload_n (i := 3) dX11_alarm_6 rfl rfl rfl ?_
    refine ax_ifnonnull_f (k0 := 12) dX11_alarm_7 (by decide) ?_
    refine ax_iconst (v := -1) dX11_alarm_10 (by decide) ?_
    refine ax_iret dX11_alarm_11 rfl rfl ?_
    exact fin1 h ((congrArg Prod.snd (if_pos c_2)))
set_option maxHeartbeats 4000000 in
set_option maxRecDepth 100000 in
theorem c_letter {E : awE} {S : awS} {M : aM} {Q : Option Value → awS → Nat → Nat → Prop} (R : cR (fun _ _ => mN M 1) S M) (hr0 : cRest M) {l wh : Int32} (h : Q (some (.int (mLetter M l wh).2)) S 0 0) : awT true E m_X11_letter [.ref (nm 12 0), .int l, .int wh] S Q := by
  refine awT.of (by decide) (by decide) (Nat.le_of_ble_eq_true rfl) ?_
  refine ax_aload_n (i := 0) dX11_letter_0 rfl rfl rfl ?_
  refine ax_iload_n (i := 1) dX11_letter_1 rfl rfl ?_
  refine ax_invV (c := 12) (n := 1) (As := [_]) dX11_letter_2 cb_X11_letterAt cv_X11_410.1 cv_X11_410.2.1 cv_X11_410.2.2 rfl (by decide) rfl ⟨Nat.le_of_ble_eq_true rfl, Nat.le_of_ble_eq_true rfl⟩ (Nat.le_of_ble_eq_true rfl) rfl (c_letterAt R (fun c_2 => ?_) (fun c_2 => ?_))
  · refine ax_astore_n (i := 3) (lv' := [(3, _), (0, _), (1, _), (2, _)]) dX11_letter_5 rfl (by decide) rfl rfl ?_
    refine ax_aload_n (i := 3) dX11_letter_6 rfl rfl rfl ?_
    refine ax_ifnonnull_t (tgt := 12) dX11_letter_7 (by decide) ?_
    have e_l := R.lE c_2
    have e_lb := e_l.2
    have e_nl := R.nL
    have e_l2 : nN l < 200 := by omega
    have em := R.mI.A (k := 67) (n := 200) (b := 41) (by decide) e_l2
    have er := R.mI.A (k := 69) (n := 200) (b := 9) (by decide) e_l2
    have ea := R.mI.A (k := 71) (n := 200) (b := 9) (by decide) e_l2
    have hL := R.ltr _ e_lb
    have eM := (R.int (f := 4) (k := 6) (m := 67) (q := 63) (by decide) e_lb).trans em.1
    have eR := (R.int (f := 4) (k := 4) (m := 69) (q := 63) (by decide) e_lb).trans er.1
    have eA := (R.int (f := 4) (k := 9) (m := 71) (q := 63) (by decide) e_lb).trans ea.1
    refine ax_iload_n (i := 2) dX11_letter_12 rfl rfl ?_
    rcases (by omega : wh.toInt < 0 ∨ 0 ≤ wh.toInt) with c_13 | c_13
    · refine ax_tableOut (tgt := 134) dX11_letter_13 (Or.inl c_13) (by decide) ?_
      refine ax_iconst (v := -1) dX11_letter_134 (by decide) ?_
      refine ax_iret dX11_letter_135 rfl rfl ?_
      exact fin1 h ((congrArg Prod.snd ((if_neg (fun z => z c_2)).trans ((if_neg (fun z => by rw [z] at c_13; exact absurd c_13 (by decide))).trans ((if_neg (fun z => by rw [z] at c_13; exact absurd c_13 (by decide))).trans ((if_neg (fun z => by rw [z] at c_13; exact absurd c_13 (by decide))).trans ((if_neg (fun z => by rw [z] at c_13; exact absurd c_13 (by decide))).trans ((if_neg (fun z => by rw [z] at c_13; exact absurd c_13 (by decide))).trans ((if_neg (fun z => by rw [z] at c_13; exact absurd c_13 (by decide))).trans ((if_neg (fun z => by rw [z] at c_13; exact absurd c_13 (by decide))).trans ((if_neg (fun z => by rw [z] at c_13; exact absurd c_13 (by decide))).trans (if_neg (fun z => by rw [z] at c_13; exact absurd c_13 (by decide))))))))))))))
    rcases (by omega : 8 < wh.toInt ∨ wh.toInt ≤ 8) with c2_13 | c2_13
    · refine ax_tableOut (tgt := 134) dX11_letter_13 (Or.inr c2_13) (by decide) ?_
      refine ax_iconst (v := -1) dX11_letter_134 (by decide) ?_
      refine ax_iret dX11_letter_135 rfl rfl ?_
      exact fin1 h ((congrArg Prod.snd ((if_neg (fun z => z c_2)).trans ((if_neg (fun z => by rw [z] at c2_13; exact absurd c2_13 (by decide))).trans ((if_neg (fun z => by rw [z] at c2_13; exact absurd c2_13 (by decide))).trans ((if_neg (fun z => by rw [z] at c2_13; exact absurd c2_13 (by decide))).trans ((if_neg (fun z => by rw [z] at c2_13; exact absurd c2_13 (by decide))).trans ((if_neg (fun z => by rw [z] at c2_13; exact absurd c2_13 (by decide))).trans ((if_neg (fun z => by rw [z] at c2_13; exact absurd c2_13 (by decide))).trans ((if_neg (fun z => by rw [z] at c2_13; exact absurd c2_13 (by decide))).trans ((if_neg (fun z => by rw [z] at c2_13; exact absurd c2_13 (by decide))).trans (if_neg (fun z => by rw [z] at c2_13; exact absurd c2_13 (by decide))))))))))))))
    have c3_13 : wh = 0 ∨ wh = 1 ∨ wh = 2 ∨ wh = 3 ∨ wh = 4 ∨ wh = 5 ∨ wh = 6 ∨ wh = 7 ∨ wh = 8 := by have h1 := c_13; have h2 := c2_13; exact sw_9 h1 h2
    rcases c3_13 with c4_13 | c4_13 | c4_13 | c4_13 | c4_13 | c4_13 | c4_13 | c4_13 | c4_13
    · refine ax_tableIn (tgt := 64) (off := 51) dX11_letter_13 (by rw [c4_13]; decide) (by rw [c4_13]; decide) (by rw [c4_13]; decide) (by decide) ?_
      refine ax_aload_n (i := 3) dX11_letter_64 rfl rfl rfl ?_
      refine ax_getI dX11_letter_65 fl_X11_414 rfl rfl rfl ?_
      refine ax_iret dX11_letter_68 rfl rfl ?_
      exact fin1 h ((congrArg Prod.snd ((if_neg (fun z => z c_2)).trans (if_pos c4_13))).trans ((R.int (f := 4) (k := 2) (m := 64) (q := 63) (by decide) e_lb).symm))
    · refine ax_tableIn (tgt := 69) (off := 56) dX11_letter_13 (by rw [c4_13]; decide) (by rw [c4_13]; decide) (by rw [c4_13]; decide) (by decide) ?_
      refine ax_aload_n (i := 3) dX11_letter_69 rfl rfl rfl ?_
      refine ax_getI dX11_letter_70 fl_X11_417 rfl rfl rfl ?_
      refine ax_if_ne (tgt := 81) dX11_letter_73 (by decide) (fun c_73 => ?_) (fun c_73 => ?_)
      · refine ax_aload_n (i := 3) dX11_letter_81 rfl rfl rfl ?_
        refine ax_iconst (v := 0) dX11_letter_82 (by decide) ?_
        refine ax_invV (c := 4) (n := 1) (As := [_]) dX11_letter_83 cb_X3_alarmAt cv_X11_419.1 cv_X11_419.2.1 cv_X11_419.2.2 rfl (by decide) rfl ⟨Nat.le_of_ble_eq_true rfl, Nat.le_of_ble_eq_true rfl⟩ (Nat.le_of_ble_eq_true rfl) rfl (c_alarmAtL (m := mE M 67 (nN l)) hL ⟨eM, by omega⟩ (fun j ej hj => ?_) (fun z => absurd ⟨by decide, nI_lt (a := 0) (Nat.pos_of_ne_zero (fun q => c_73 (by rw [eM, q]; rfl))) (by omega)⟩ z))
        have ej0 : j = 0 := (nI_eq (by omega) (by decide)).mp (ej.symm : nI j = nI 0)
        subst ej0
        have hv0 : sI S 24 (nN l) 0 = mA M 68 (40 * nN l) := (R.row _ e_lb).2 0 hj
        refine ax_iret dX11_letter_86 rfl rfl ?_
        exact fin1 h ((congrArg Prod.snd ((if_neg (fun z => z c_2)).trans ((if_neg (by rw [c4_13]; decide)).trans (if_pos c4_13)))).trans ((if_neg (fun z => c_73 ((R.int (f := 4) (k := 6) (m := 67) (q := 63) (by decide) e_lb).trans z))).trans hv0.symm))
      · refine ax_bipush (v := -2) dX11_letter_76 (by decide) ?_
        refine ax_goto (tgt := 86) dX11_letter_78 (by decide) ?_
        refine ax_iret dX11_letter_86 rfl rfl ?_
        exact fin1 h ((congrArg Prod.snd ((if_neg (fun z => z c_2)).trans ((if_neg (by rw [c4_13]; decide)).trans (if_pos c4_13)))).trans (if_pos ((R.int (f := 4) (k := 6) (m := 67) (q := 63) (by decide) e_lb).symm.trans (Classical.not_not.mp c_73))))
    · refine ax_tableIn (tgt := 87) (off := 74) dX11_letter_13 (by rw [c4_13]; decide) (by rw [c4_13]; decide) (by rw [c4_13]; decide) (by decide) ?_
      refine ax_aload_n (i := 3) dX11_letter_87 rfl rfl rfl ?_
      refine ax_getI dX11_letter_88 fl_X11_417 rfl rfl rfl ?_
      refine ax_iret dX11_letter_91 rfl rfl ?_
      exact fin1 h ((congrArg Prod.snd ((if_neg (fun z => z c_2)).trans ((if_neg (by rw [c4_13]; decide)).trans ((if_neg (by rw [c4_13]; decide)).trans (if_pos c4_13))))).trans ((R.int (f := 4) (k := 6) (m := 67) (q := 63) (by decide) e_lb).symm))
    · refine ax_tableIn (tgt := 92) (off := 79) dX11_letter_13 (by rw [c4_13]; decide) (by rw [c4_13]; decide) (by rw [c4_13]; decide) (by decide) ?_
      refine ax_aload_n (i := 3) dX11_letter_92 rfl rfl rfl ?_
      refine ax_invV (c := 4) (n := 0) (As := []) dX11_letter_93 cb_X3_latestHand cv_X11_421.1 cv_X11_421.2.1 cv_X11_421.2.2 rfl (by decide) rfl ⟨Nat.le_of_ble_eq_true rfl, Nat.le_of_ble_eq_true rfl⟩ (Nat.le_of_ble_eq_true rfl) rfl (c_latestHand (p := mE M 71 (nN l)) hL ⟨eA, by omega⟩ (by rw [eR]; exact nI_le (b := 8) (by omega) (by decide)) (fun c_93 => ?_) (fun c_93 => ?_))
      · refine ax_iret dX11_letter_96 rfl rfl ?_
        exact fin1 h ((congrArg Prod.snd ((if_neg (fun z => z c_2)).trans ((if_neg (by rw [c4_13]; decide)).trans ((if_neg (by rw [c4_13]; decide)).trans ((if_neg (by rw [c4_13]; decide)).trans (if_pos c4_13)))))).trans ((if_pos (by rw [ea.1, ← R.int (f := 4) (k := 4) (m := 69) (q := 63) (by decide) e_lb]; exact c_93)).trans ((R.row _ e_lb).1 _ (nI_slt (by rw [← eR]; exact c_93) (by omega))).symm))
      · refine ax_iret dX11_letter_96 rfl rfl ?_
        exact fin1 h ((congrArg Prod.snd ((if_neg (fun z => z c_2)).trans ((if_neg (by rw [c4_13]; decide)).trans ((if_neg (by rw [c4_13]; decide)).trans ((if_neg (by rw [c4_13]; decide)).trans (if_pos c4_13)))))).trans (if_neg (fun z => c_93 (by rw [R.int (f := 4) (k := 4) (m := 69) (q := 63) (by decide) e_lb, ← ea.1]; exact z))))
    · refine ax_tableIn (tgt := 97) (off := 84) dX11_letter_13 (by rw [c4_13]; decide) (by rw [c4_13]; decide) (by rw [c4_13]; decide) (by decide) ?_
      refine ax_aload_n (i := 3) dX11_letter_97 rfl rfl rfl ?_
      refine ax_getI dX11_letter_98 fl_X11_424 rfl rfl rfl ?_
      refine ax_iret dX11_letter_101 rfl rfl ?_
      exact fin1 h ((congrArg Prod.snd ((if_neg (fun z => z c_2)).trans ((if_neg (by rw [c4_13]; decide)).trans ((if_neg (by rw [c4_13]; decide)).trans ((if_neg (by rw [c4_13]; decide)).trans ((if_neg (by rw [c4_13]; decide)).trans (if_pos c4_13))))))).trans ((R.int (f := 4) (k := 5) (m := 72) (q := 63) (by decide) e_lb).symm))
    · refine ax_tableIn (tgt := 102) (off := 89) dX11_letter_13 (by rw [c4_13]; decide) (by rw [c4_13]; decide) (by rw [c4_13]; decide) (by decide) ?_
      refine ax_aload_n (i := 3) dX11_letter_102 rfl rfl rfl ?_
      refine ax_getI dX11_letter_103 fl_X11_427 rfl rfl rfl ?_
      refine ax_iret dX11_letter_106 rfl rfl ?_
      exact fin1 h ((congrArg Prod.snd ((if_neg (fun z => z c_2)).trans ((if_neg (by rw [c4_13]; decide)).trans ((if_neg (by rw [c4_13]; decide)).trans ((if_neg (by rw [c4_13]; decide)).trans ((if_neg (by rw [c4_13]; decide)).trans ((if_neg (by rw [c4_13]; decide)).trans (if_pos c4_13)))))))).trans ((R.int (f := 4) (k := 7) (m := 73) (q := 63) (by decide) e_lb).symm))
    · refine ax_tableIn (tgt := 107) (off := 94) dX11_letter_13 (by rw [c4_13]; decide) (by rw [c4_13]; decide) (by rw [c4_13]; decide) (by decide) ?_
      refine ax_aload_n (i := 3) dX11_letter_107 rfl rfl rfl ?_
      refine ax_getI dX11_letter_108 fl_X11_430 rfl rfl rfl ?_
      refine ax_iret dX11_letter_111 rfl rfl ?_
      exact fin1 h ((congrArg Prod.snd ((if_neg (fun z => z c_2)).trans ((if_neg (by rw [c4_13]; decide)).trans ((if_neg (by rw [c4_13]; decide)).trans ((if_neg (by rw [c4_13]; decide)).trans ((if_neg (by rw [c4_13]; decide)).trans ((if_neg (by rw [c4_13]; decide)).trans ((if_neg (by rw [c4_13]; decide)).trans (if_pos c4_13))))))))).trans ((R.int (f := 4) (k := 8) (m := 74) (q := 63) (by decide) e_lb).symm))
    · refine ax_tableIn (tgt := 112) (off := 99) dX11_letter_13 (by rw [c4_13]; decide) (by rw [c4_13]; decide) (by rw [c4_13]; decide) (by decide) ?_
      refine ax_aload_n (i := 3) dX11_letter_112 rfl rfl rfl ?_
      refine ax_getI dX11_letter_113 fl_X11_382 rfl rfl rfl ?_
      refine ax_iret dX11_letter_116 rfl rfl ?_
      exact fin1 h ((congrArg Prod.snd ((if_neg (fun z => z c_2)).trans ((if_neg (by rw [c4_13]; decide)).trans ((if_neg (by rw [c4_13]; decide)).trans ((if_neg (by rw [c4_13]; decide)).trans ((if_neg (by rw [c4_13]; decide)).trans ((if_neg (by rw [c4_13]; decide)).trans ((if_neg (by rw [c4_13]; decide)).trans ((if_neg (by rw [c4_13]; decide)).trans (if_pos c4_13)))))))))).trans ((R.int (f := 4) (k := 4) (m := 69) (q := 63) (by decide) e_lb).symm))
    · refine ax_tableIn (tgt := 117) (off := 104) dX11_letter_13 (by rw [c4_13]; decide) (by rw [c4_13]; decide) (by rw [c4_13]; decide) (by decide) ?_
      refine ax_aload_n (i := 3) dX11_letter_117 rfl rfl rfl ?_
      refine ax_getI dX11_letter_118 fl_X11_433 rfl rfl rfl ?_
      refine ax_iconst (v := 4) dX11_letter_121 (by decide) ?_
      refine ax_icmp_ne (tgt := 129) dX11_letter_122 (by decide) (fun c_122 => ?_) (fun c_122 => ?_)
      · refine ax_iconst (v := 0) dX11_letter_129 (by decide) ?_
        refine ax_invS (n := 1) (As := [_]) dX11_letter_130 cb_X11_bit cs_X11_165.1 cs_X11_165.2 rfl ⟨Nat.le_of_ble_eq_true rfl, Nat.le_of_ble_eq_true rfl⟩ (Nat.le_of_ble_eq_true rfl) rfl (c_bit0 ?_)
        refine ax_iret dX11_letter_133 rfl rfl ?_
        exact fin1 h ((congrArg Prod.snd ((if_neg (fun z => z c_2)).trans ((if_neg (by rw [c4_13]; decide)).trans ((if_neg (by rw [c4_13]; decide)).trans ((if_neg (by rw [c4_13]; decide)).trans ((if_neg (by rw [c4_13]; decide)).trans ((if_neg (by rw [c4_13]; decide)).trans ((if_neg (by rw [c4_13]; decide)).trans ((if_neg (by rw [c4_13]; decide)).trans ((if_neg (by rw [c4_13]; decide)).trans (if_pos c4_13))))))))))).trans (if_neg (fun z => c_122 ((R.int (f := 4) (k := 1) (m := 66) (q := 63) (by decide) e_lb).trans z))))
      · refine ax_iconst (v := 1) dX11_letter_125 (by decide) ?_
        refine ax_goto (tgt := 130) dX11_letter_126 (by decide) ?_
        refine ax_invS (n := 1) (As := [_]) dX11_letter_130 cb_X11_bit cs_X11_165.1 cs_X11_165.2 rfl ⟨Nat.le_of_ble_eq_true rfl, Nat.le_of_ble_eq_true rfl⟩ (Nat.le_of_ble_eq_true rfl) rfl (c_bit1 ?_)
        refine ax_iret dX11_letter_133 rfl rfl ?_
        exact fin1 h ((congrArg Prod.snd ((if_neg (fun z => z c_2)).trans ((if_neg (by rw [c4_13]; decide)).trans ((if_neg (by rw [c4_13]; decide)).trans ((if_neg (by rw [c4_13]; decide)).trans ((if_neg (by rw [c4_13]; decide)).trans ((if_neg (by rw [c4_13]; decide)).trans ((if_neg (by rw [c4_13]; decide)).trans ((if_neg (by rw [c4_13]; decide)).trans ((if_neg (by rw [c4_13]; decide)).trans (if_pos c4_13))))))))))).trans (if_pos ((R.int (f := 4) (k := 1) (m := 66) (q := 63) (by decide) e_lb).symm.trans (Classical.not_not.mp c_122))))
  · refine ax_astore_n (i := 3) (lv' := [(3, _), (0, _), (1, _), (2, _)]) dX11_letter_5 rfl (by decide) rfl rfl ?_
    refine ax_aload_n (i := 3) dX11_letter_6 rfl rfl rfl ?_
    refine ax_ifnonnull_f (k0 := 12) dX11_letter_7 (by decide) ?_
    refine ax_iconst (v := -1) dX11_letter_10 (by decide) ?_
    refine ax_iret dX11_letter_11 rfl rfl ?_
    exact fin1 h ((congrArg Prod.snd (if_pos c_2)))
