theorem sw_6 {x : Int32} (h1 : 0 ≤ x.toInt) (h2 : x.toInt ≤ 5) : x = 0 ∨ x = 1 ∨ x = 2 ∨ x = 3 ∨ x = 4 ∨ x = 5 := by
  rcases sw_7 h1 (by omega) with e | e | e | e | e | e | e
  · exact Or.inl e
  · exact Or.inr (Or.inl e)
  · exact Or.inr (Or.inr (Or.inl e))
  · exact Or.inr (Or.inr (Or.inr (Or.inl e)))
  · exact Or.inr (Or.inr (Or.inr (Or.inr (Or.inl e))))
  · exact Or.inr (Or.inr (Or.inr (Or.inr (Or.inr e))))
  · rw [e] at h2
    exact absurd h2 (by decide)

set_option maxHeartbeats 400000 in
set_option maxRecDepth 100000 in
theorem c_truthOf {E : awE} {S : awS} {M : aM} {τ : Nat → Nat → Nat} {Q : Option Value → awS → Nat → Nat → Prop} (R : cR τ S M) {r s T : Nat} (hr : r < mN M 6) (hs : s < mN M 2) (ht : T ≤ 399) (hsite : ¬ (0 ≤ mA M 14 r ∧ ¬ mA M 14 r = mA M 3 s)) (h6 : ¬ mA M 7 r = 6) (h : ∀ S1, cR τ S1 M → cFm S S1 → Q (some (.int (mFound M r s (T + 1)))) S1 0 0) : awT true E m_X5_truthOf [.ref (nm 6 r), .ref (nm 9 s), .ref (nm 11 (16 * r + s)), .int (nI (T + 1))] S Q := by
  refine awT.of (by decide) (by decide) (Nat.le_of_ble_eq_true rfl) ?_
  have hs16 : s < 16 := Nat.lt_of_lt_of_le hs R.nS
  have hr16 : r < 16 := Nat.lt_of_lt_of_le hr R.nR
  have hsr := R.src s hs
  have hru := R.rul r hr
  have ek : sI S 6 r 1 = mA M 7 r := R.int (f := 6) (k := 1) (m := 7) (q := 6) (by decide) hr
  have ek7 : sI S 6 r 1 = nI (mE M 7 r) ∧ mE M 7 r < 7 := by rw [ek]; exact R.mI.A (k := 7) (n := 16) (b := 7) (by decide) hr16
  have eL2 : sL S 6 r 2 = mL M 9 r := R.la r hr
  refine ax_aload_n (i := 0) dX5_truthOf_0 rfl rfl rfl ?_
  refine ax_getI dX5_truthOf_1 fl_X5_32 rfl rfl rfl ?_
  refine ax_iconst (v := 4) dX5_truthOf_4 (by decide) ?_
  refine ax_icmp_ne (tgt := 25) dX5_truthOf_5 (by decide) (fun c_5 => ?_) (fun c_5 => ?_)
  · refine ax_aload_n (i := 1) dX5_truthOf_25 rfl rfl rfl ?_
    refine ax_iload_n (i := 3) dX5_truthOf_26 rfl rfl ?_
    refine ax_invV (c := 9) (n := 1) (As := [_]) dX5_truthOf_27 cb_X8_hasAt cv_X5_69.1 cv_X5_69.2.1 cv_X5_69.2.2 rfl (by decide) rfl ⟨Nat.le_of_ble_eq_true rfl, Nat.le_of_ble_eq_true rfl⟩ (Nat.le_of_ble_eq_true rfl) rfl (c_hasAt (n := T + 1) hsr (Or.inl ⟨rfl, by omega⟩) (fun c_27 => ?_) (fun c_27 => ?_))
    · refine ax_if_ne (tgt := 35) dX5_truthOf_30 (by decide) (fun _ => ?_) (fun z => absurd (by decide) z)
      have hh : mHas M s (T + 1) := (R.val.has hs (by omega)).mp c_27
      have ev : sL S 16 s (T + 1) = mVal M s (T + 1) := (R.val s hs (T + 1) (by omega)).2
      refine ax_aload_n (i := 1) dX5_truthOf_35 rfl rfl rfl ?_
      refine ax_iload_n (i := 3) dX5_truthOf_36 rfl rfl ?_
      refine ax_invV (c := 9) (n := 1) (As := [_]) dX5_truthOf_37 cb_X8_at cv_X5_73.1 cv_X5_73.2.1 cv_X5_73.2.2 rfl (by decide) rfl ⟨Nat.le_of_ble_eq_true rfl, Nat.le_of_ble_eq_true rfl⟩ (Nat.le_of_ble_eq_true rfl) rfl (c_at (n := T + 1) hsr (Or.inl ⟨rfl, by omega⟩) (fun _ => ?_) (fun z => absurd c_27 z))
      rw [ev]
      refine ax_lstore (lv' := [(4, _), (0, _), (1, _), (2, _), (3, _)]) dX5_truthOf_40 (by decide) rfl ?_
      refine ax_aload_n (i := 0) dX5_truthOf_42 rfl rfl rfl ?_
      refine ax_getI dX5_truthOf_43 fl_X5_32 rfl rfl rfl ?_
      rcases (by omega : (sI S 6 r 1).toInt < 0 ∨ 0 ≤ (sI S 6 r 1).toInt) with c_46 | c_46
      · refine ax_tableOut (tgt := 241) dX5_truthOf_46 (Or.inl c_46) (by decide) ?_
        have q := ek7
        rw [q.1, nI_toInt (by omega)] at c_46
        omega
      rcases (by omega : 5 < (sI S 6 r 1).toInt ∨ (sI S 6 r 1).toInt ≤ 5) with c2_46 | c2_46
      · refine ax_tableOut (tgt := 241) dX5_truthOf_46 (Or.inr c2_46) (by decide) ?_
        have q := ek7
        have q5 : mE M 7 r = 6 := by rw [q.1, nI_toInt (by omega)] at c2_46; omega
        exact absurd (ek.symm.trans (q.1.trans (by rw [q5]; rfl))) h6
      have c3_46 : (sI S 6 r 1) = 0 ∨ (sI S 6 r 1) = 1 ∨ (sI S 6 r 1) = 2 ∨ (sI S 6 r 1) = 3 ∨ (sI S 6 r 1) = 4 ∨ (sI S 6 r 1) = 5 := by have h1 := c_46; have h2 := c2_46; exact sw_6 h1 h2
      rcases c3_46 with c4_46 | c4_46 | c4_46 | c4_46 | c4_46 | c4_46
      · refine ax_tableIn (tgt := 84) (off := 38) dX5_truthOf_46 (by rw [c4_46]; decide) (by rw [c4_46]; decide) (by rw [c4_46]; decide) (by decide) ?_
        refine ax_lload dX5_truthOf_84 rfl ?_
        refine ax_aload_n (i := 0) dX5_truthOf_86 rfl rfl rfl ?_
        refine ax_getL dX5_truthOf_87 fl_X5_38 rfl rfl rfl ?_
        rw [eL2]
        refine ax_lcmp dX5_truthOf_90 ?_
        refine ax_if_le (tgt := 98) dX5_truthOf_91 (by decide) (fun c_91 => ?_) (fun c_91 => ?_)
        · refine ax_iconst (v := 0) dX5_truthOf_98 (by decide) ?_
          refine ax_invSN (n := 1) (As := [_]) dX5_truthOf_99 cb_X11_bit (host := "AlarmTower") (by decide) cn_X5_65 rfl ⟨Nat.le_of_ble_eq_true rfl, Nat.le_of_ble_eq_true rfl⟩ (Nat.le_of_ble_eq_true rfl) rfl (c_bit0 ?_)
          refine ax_iret dX5_truthOf_102 rfl rfl ?_
          exact fin1 (h _ (R) (cFm.rf)) ((if_neg hsite).trans ((if_neg (fun z => c_5 (ek.trans z))).trans ((if_neg h6).trans ((iC_t hh).trans ((if_pos (ek.symm.trans c4_46)).trans (if_neg (fun z => absurd ((lg_cmp_gt _ _).mpr z) (Int32.not_lt.mpr c_91))))))))
        · refine ax_iconst (v := 1) dX5_truthOf_94 (by decide) ?_
          refine ax_goto (tgt := 99) dX5_truthOf_95 (by decide) ?_
          refine ax_invSN (n := 1) (As := [_]) dX5_truthOf_99 cb_X11_bit (host := "AlarmTower") (by decide) cn_X5_65 rfl ⟨Nat.le_of_ble_eq_true rfl, Nat.le_of_ble_eq_true rfl⟩ (Nat.le_of_ble_eq_true rfl) rfl (c_bit1 ?_)
          refine ax_iret dX5_truthOf_102 rfl rfl ?_
          exact fin1 (h _ (R) (cFm.rf)) ((if_neg hsite).trans ((if_neg (fun z => c_5 (ek.trans z))).trans ((if_neg h6).trans ((iC_t hh).trans ((if_pos (ek.symm.trans c4_46)).trans (if_pos ((lg_cmp_gt _ _).mp (Int32.not_le.mp c_91))))))))
      · refine ax_tableIn (tgt := 103) (off := 57) dX5_truthOf_46 (by rw [c4_46]; decide) (by rw [c4_46]; decide) (by rw [c4_46]; decide) (by decide) ?_
        refine ax_lload dX5_truthOf_103 rfl ?_
        refine ax_aload_n (i := 0) dX5_truthOf_105 rfl rfl rfl ?_
        refine ax_getL dX5_truthOf_106 fl_X5_38 rfl rfl rfl ?_
        rw [eL2]
        refine ax_lcmp dX5_truthOf_109 ?_
        refine ax_if_gt (tgt := 132) dX5_truthOf_110 (by decide) (fun c_110 => ?_) (fun c_110 => ?_)
        · refine ax_iconst (v := 1) dX5_truthOf_132 (by decide) ?_
          refine ax_goto (tgt := 137) dX5_truthOf_133 (by decide) ?_
          refine ax_invSN (n := 1) (As := [_]) dX5_truthOf_137 cb_X11_bit (host := "AlarmTower") (by decide) cn_X5_65 rfl ⟨Nat.le_of_ble_eq_true rfl, Nat.le_of_ble_eq_true rfl⟩ (Nat.le_of_ble_eq_true rfl) rfl (c_bit1 ?_)
          refine ax_iret dX5_truthOf_140 rfl rfl ?_
          exact fin1 (h _ (R) (cFm.rf)) ((if_neg hsite).trans ((if_neg (fun z => c_5 (ek.trans z))).trans ((if_neg h6).trans ((iC_t hh).trans ((if_neg (fun z => by rw [← ek, c4_46] at z; exact absurd z (by decide))).trans ((if_pos (ek.symm.trans c4_46)).trans (if_pos (Or.inl ((lg_cmp_gt _ _).mp c_110)))))))))
        · refine ax_lload dX5_truthOf_113 rfl ?_
          refine ax_aload_n (i := 0) dX5_truthOf_115 rfl rfl rfl ?_
          refine ax_getI dX5_truthOf_116 fl_X5_42 rfl rfl rfl ?_
          rw [R.int (f := 6) (k := 3) (m := 10) (q := 6) (by decide) hr]
          refine ax_i2l dX5_truthOf_119 ?_
          refine ax_lcmp dX5_truthOf_120 ?_
          refine ax_if_lt (tgt := 136) dX5_truthOf_121 (by decide) (fun c_121 => ?_) (fun c_121 => ?_)
          · refine ax_iconst (v := 0) dX5_truthOf_136 (by decide) ?_
            refine ax_invSN (n := 1) (As := [_]) dX5_truthOf_137 cb_X11_bit (host := "AlarmTower") (by decide) cn_X5_65 rfl ⟨Nat.le_of_ble_eq_true rfl, Nat.le_of_ble_eq_true rfl⟩ (Nat.le_of_ble_eq_true rfl) rfl (c_bit0 ?_)
            refine ax_iret dX5_truthOf_140 rfl rfl ?_
            exact fin1 (h _ (R) (cFm.rf)) ((if_neg hsite).trans ((if_neg (fun z => c_5 (ek.trans z))).trans ((if_neg h6).trans ((iC_t hh).trans ((if_neg (fun z => by rw [← ek, c4_46] at z; exact absurd z (by decide))).trans ((if_pos (ek.symm.trans c4_46)).trans (if_neg (fun z => z.elim (fun q => c_110 ((lg_cmp_gt _ _).mpr q)) (fun q => absurd ((lg_cmp_lt _ _).mp c_121) (Int64.not_lt.mpr q.1))))))))))
          · have eB := R.int (f := 11) (k := 1) (m := 17) (q := 100) (by decide) (R.wat3 hr hs16)
            refine ax_aload_n (i := 2) dX5_truthOf_124 rfl rfl rfl ?_
            refine ax_getI dX5_truthOf_125 fl_X5_77 rfl rfl rfl ?_
            refine ax_iconst (v := 1) dX5_truthOf_128 (by decide) ?_
            refine ax_icmp_ne (tgt := 136) dX5_truthOf_129 (by decide) (fun c_129 => ?_) (fun c_129 => ?_)
            · refine ax_iconst (v := 0) dX5_truthOf_136 (by decide) ?_
              refine ax_invSN (n := 1) (As := [_]) dX5_truthOf_137 cb_X11_bit (host := "AlarmTower") (by decide) cn_X5_65 rfl ⟨Nat.le_of_ble_eq_true rfl, Nat.le_of_ble_eq_true rfl⟩ (Nat.le_of_ble_eq_true rfl) rfl (c_bit0 ?_)
              refine ax_iret dX5_truthOf_140 rfl rfl ?_
              exact fin1 (h _ (R) (cFm.rf)) ((if_neg hsite).trans ((if_neg (fun z => c_5 (ek.trans z))).trans ((if_neg h6).trans ((iC_t hh).trans ((if_neg (fun z => by rw [← ek, c4_46] at z; exact absurd z (by decide))).trans ((if_pos (ek.symm.trans c4_46)).trans (if_neg (fun z => z.elim (fun q => c_110 ((lg_cmp_gt _ _).mpr q)) (fun q => c_129 (eB.trans q.2))))))))))
            · refine ax_iconst (v := 1) dX5_truthOf_132 (by decide) ?_
              refine ax_goto (tgt := 137) dX5_truthOf_133 (by decide) ?_
              refine ax_invSN (n := 1) (As := [_]) dX5_truthOf_137 cb_X11_bit (host := "AlarmTower") (by decide) cn_X5_65 rfl ⟨Nat.le_of_ble_eq_true rfl, Nat.le_of_ble_eq_true rfl⟩ (Nat.le_of_ble_eq_true rfl) rfl (c_bit1 ?_)
              refine ax_iret dX5_truthOf_140 rfl rfl ?_
              exact fin1 (h _ (R) (cFm.rf)) ((if_neg hsite).trans ((if_neg (fun z => c_5 (ek.trans z))).trans ((if_neg h6).trans ((iC_t hh).trans ((if_neg (fun z => by rw [← ek, c4_46] at z; exact absurd z (by decide))).trans ((if_pos (ek.symm.trans c4_46)).trans (if_pos (Or.inr ⟨Int64.not_lt.mp (fun z => c_121 ((lg_cmp_lt _ _).mpr z)), eB.symm.trans (Classical.not_not.mp c_129)⟩))))))))
      · refine ax_tableIn (tgt := 141) (off := 95) dX5_truthOf_46 (by rw [c4_46]; decide) (by rw [c4_46]; decide) (by rw [c4_46]; decide) (by decide) ?_
        obtain ⟨ewm, hw⟩ := (R.mI.i6 hr16).2 (by rw [← ek, c4_46]; decide) (by rw [← ek, c4_46]; decide) (by rw [← ek, c4_46]; decide)
        have ew : sI S 6 r 7 = nI (mE M 8 r) := (R.int (f := 6) (k := 7) (m := 8) (q := 6) (by decide) hr).trans ewm
        have hxr : (nI (T + 1) - sI S 6 r 7 = nI (T + 1 - mE M 8 r) ∧ T + 1 - mE M 8 r ≤ 400) ∨ (nI (T + 1) - sI S 6 r 7 ≤ 0 ∧ T + 1 - mE M 8 r = 0) := by rw [ew]; exact sub_has (by omega) hw
        refine ax_aload_n (i := 1) dX5_truthOf_141 rfl rfl rfl ?_
        refine ax_iload_n (i := 3) dX5_truthOf_142 rfl rfl ?_
        refine ax_aload_n (i := 0) dX5_truthOf_143 rfl rfl rfl ?_
        refine ax_getI dX5_truthOf_144 fl_X5_35 rfl rfl rfl ?_
        refine ax_isub dX5_truthOf_147 ?_
        refine ax_invV (c := 9) (n := 1) (As := [_]) dX5_truthOf_148 cb_X8_hasAt cv_X5_69.1 cv_X5_69.2.1 cv_X5_69.2.2 rfl (by decide) rfl ⟨Nat.le_of_ble_eq_true rfl, Nat.le_of_ble_eq_true rfl⟩ (Nat.le_of_ble_eq_true rfl) rfl (c_hasAt (n := T + 1 - mE M 8 r) hsr hxr (fun c_148 => ?_) (fun c_148 => ?_))
        · refine ax_if_eq (tgt := 186) dX5_truthOf_151 (by decide) (fun z => absurd z (by decide)) (fun _ => ?_)
          have hh2 : mHas M s (T + 1 - mE M 8 r) := (R.val.has hs (by omega)).mp c_148
          have ev2 : sL S 16 s (T + 1 - mE M 8 r) = mVal M s (T + 1 - mE M 8 r) := (R.val s hs _ (by omega)).2
          refine ax_lload dX5_truthOf_154 rfl ?_
          refine ax_aload_n (i := 1) dX5_truthOf_156 rfl rfl rfl ?_
          refine ax_iload_n (i := 3) dX5_truthOf_157 rfl rfl ?_
          refine ax_aload_n (i := 0) dX5_truthOf_158 rfl rfl rfl ?_
          refine ax_getI dX5_truthOf_159 fl_X5_35 rfl rfl rfl ?_
          refine ax_isub dX5_truthOf_162 ?_
          refine ax_invV (c := 9) (n := 1) (As := [_]) dX5_truthOf_163 cb_X8_at cv_X5_73.1 cv_X5_73.2.1 cv_X5_73.2.2 rfl (by decide) rfl ⟨Nat.le_of_ble_eq_true rfl, Nat.le_of_ble_eq_true rfl⟩ (Nat.le_of_ble_eq_true rfl) rfl (c_at (n := T + 1 - mE M 8 r) hsr hxr (fun _ => ?_) (fun z => absurd c_148 z))
          rw [ev2]
          refine ax_lsub dX5_truthOf_166 ?_
          refine ax_aload_n (i := 0) dX5_truthOf_167 rfl rfl rfl ?_
          refine ax_getL dX5_truthOf_168 fl_X5_38 rfl rfl rfl ?_
          rw [eL2]
          refine ax_lcmp dX5_truthOf_171 ?_
          refine ax_if_le (tgt := 179) dX5_truthOf_172 (by decide) (fun c_172 => ?_) (fun c_172 => ?_)
          · refine ax_iconst (v := 0) dX5_truthOf_179 (by decide) ?_
            refine ax_invSN (n := 1) (As := [_]) dX5_truthOf_180 cb_X11_bit (host := "AlarmTower") (by decide) cn_X5_65 rfl ⟨Nat.le_of_ble_eq_true rfl, Nat.le_of_ble_eq_true rfl⟩ (Nat.le_of_ble_eq_true rfl) rfl (c_bit0 ?_)
            refine ax_goto (tgt := 187) dX5_truthOf_183 (by decide) ?_
            refine ax_iret dX5_truthOf_187 rfl rfl ?_
            exact fin1 (h _ (R) (cFm.rf)) ((if_neg hsite).trans ((if_neg (fun z => c_5 (ek.trans z))).trans ((if_neg h6).trans ((iC_t hh).trans ((if_neg (fun z => by rw [← ek, c4_46] at z; exact absurd z (by decide))).trans ((if_neg (fun z => by rw [← ek, c4_46] at z; exact absurd z (by decide))).trans ((if_pos (ek.symm.trans c4_46)).trans ((iC_t hh2).trans (if_neg (fun z => absurd ((lg_cmp_gt _ _).mpr z) (Int32.not_lt.mpr c_172)))))))))))
          · refine ax_iconst (v := 1) dX5_truthOf_175 (by decide) ?_
            refine ax_goto (tgt := 180) dX5_truthOf_176 (by decide) ?_
            refine ax_invSN (n := 1) (As := [_]) dX5_truthOf_180 cb_X11_bit (host := "AlarmTower") (by decide) cn_X5_65 rfl ⟨Nat.le_of_ble_eq_true rfl, Nat.le_of_ble_eq_true rfl⟩ (Nat.le_of_ble_eq_true rfl) rfl (c_bit1 ?_)
            refine ax_goto (tgt := 187) dX5_truthOf_183 (by decide) ?_
            refine ax_iret dX5_truthOf_187 rfl rfl ?_
            exact fin1 (h _ (R) (cFm.rf)) ((if_neg hsite).trans ((if_neg (fun z => c_5 (ek.trans z))).trans ((if_neg h6).trans ((iC_t hh).trans ((if_neg (fun z => by rw [← ek, c4_46] at z; exact absurd z (by decide))).trans ((if_neg (fun z => by rw [← ek, c4_46] at z; exact absurd z (by decide))).trans ((if_pos (ek.symm.trans c4_46)).trans ((iC_t hh2).trans (if_pos ((lg_cmp_gt _ _).mp (Int32.not_le.mp c_172)))))))))))
        · refine ax_if_eq (tgt := 186) dX5_truthOf_151 (by decide) (fun _ => ?_) (fun z => absurd (by decide) z)
          refine ax_iconst (v := -1) dX5_truthOf_186 (by decide) ?_
          refine ax_iret dX5_truthOf_187 rfl rfl ?_
          exact fin1 (h _ (R) (cFm.rf)) ((if_neg hsite).trans ((if_neg (fun z => c_5 (ek.trans z))).trans ((if_neg h6).trans ((iC_t hh).trans ((if_neg (fun z => by rw [← ek, c4_46] at z; exact absurd z (by decide))).trans ((if_neg (fun z => by rw [← ek, c4_46] at z; exact absurd z (by decide))).trans ((if_pos (ek.symm.trans c4_46)).trans (iC_f (fun z => c_148 ((R.val.has hs (by omega)).mpr z))))))))))
      · refine ax_tableIn (tgt := 188) (off := 142) dX5_truthOf_46 (by rw [c4_46]; decide) (by rw [c4_46]; decide) (by rw [c4_46]; decide) (by decide) ?_
        obtain ⟨ewm, hw⟩ := (R.mI.i6 hr16).2 (by rw [← ek, c4_46]; decide) (by rw [← ek, c4_46]; decide) (by rw [← ek, c4_46]; decide)
        have ew : sI S 6 r 7 = nI (mE M 8 r) := (R.int (f := 6) (k := 7) (m := 8) (q := 6) (by decide) hr).trans ewm
        have pe : ∀ n, mPart M r s (T + 1) n → sI S 6 r 3 * nI (mCnt M s False 0 (T + 1) n) ≤ 100 * nI (mCnt M s True (sL S 6 r 2) (T + 1) n) := fun n z => by
          rw [R.int (f := 6) (k := 3) (m := 10) (q := 6) (by decide) hr, eL2]
          exact z
        have pe2 : ∀ n, sI S 6 r 3 * nI (mCnt M s False 0 (T + 1) n) ≤ 100 * nI (mCnt M s True (sL S 6 r 2) (T + 1) n) → mPart M r s (T + 1) n := fun n z => by
          rw [R.int (f := 6) (k := 3) (m := 10) (q := 6) (by decide) hr, eL2] at z
          exact z
        refine ax_aload_n (i := 0) dX5_truthOf_188 rfl rfl rfl ?_
        refine ax_aload_n (i := 1) dX5_truthOf_189 rfl rfl rfl ?_
        refine ax_iload_n (i := 3) dX5_truthOf_190 rfl rfl ?_
        refine ax_aload_n (i := 0) dX5_truthOf_191 rfl rfl rfl ?_
        refine ax_getI dX5_truthOf_192 fl_X5_35 rfl rfl rfl ?_
        refine ax_top ew ?_
        refine ax_invV (c := 6) (n := 3) (As := [_, _, _]) dX5_truthOf_195 cb_X5_isPartAbove cv_X5_80.1 cv_X5_80.2.1 cv_X5_80.2.2 rfl (by decide) rfl ⟨Nat.le_of_ble_eq_true rfl, Nat.le_of_ble_eq_true rfl⟩ (Nat.le_of_ble_eq_true rfl) rfl (c_isPartAbove hsr R.val hs (by omega) (by omega) (fun c_195 => ?_) (fun c_195 => ?_))
        · refine ax_if_eq (tgt := 220) dX5_truthOf_198 (by decide) (fun z => absurd z (by decide)) (fun _ => ?_)
          refine ax_aload_n (i := 0) dX5_truthOf_201 rfl rfl rfl ?_
          refine ax_aload_n (i := 1) dX5_truthOf_202 rfl rfl rfl ?_
          refine ax_iload_n (i := 3) dX5_truthOf_203 rfl rfl ?_
          refine ax_iconst (v := nI 2) dX5_truthOf_204 (by decide) ?_
          refine ax_aload_n (i := 0) dX5_truthOf_205 rfl rfl rfl ?_
          refine ax_getI dX5_truthOf_206 fl_X5_35 rfl rfl rfl ?_
          refine ax_top ew ?_
          refine ax_imulN dX5_truthOf_209 ?_
          refine ax_invV (c := 6) (n := 3) (As := [_, _, _]) dX5_truthOf_210 cb_X5_isPartAbove cv_X5_80.1 cv_X5_80.2.1 cv_X5_80.2.2 rfl (by decide) rfl ⟨Nat.le_of_ble_eq_true rfl, Nat.le_of_ble_eq_true rfl⟩ (Nat.le_of_ble_eq_true rfl) rfl (c_isPartAbove hsr R.val hs (by omega) (by omega) (fun c_210 => ?_) (fun c_210 => ?_))
          · refine ax_if_eq (tgt := 220) dX5_truthOf_213 (by decide) (fun z => absurd z (by decide)) (fun _ => ?_)
            refine ax_iconst (v := 1) dX5_truthOf_216 (by decide) ?_
            refine ax_goto (tgt := 221) dX5_truthOf_217 (by decide) ?_
            refine ax_invSN (n := 1) (As := [_]) dX5_truthOf_221 cb_X11_bit (host := "AlarmTower") (by decide) cn_X5_65 rfl ⟨Nat.le_of_ble_eq_true rfl, Nat.le_of_ble_eq_true rfl⟩ (Nat.le_of_ble_eq_true rfl) rfl (c_bit1 ?_)
            refine ax_iret dX5_truthOf_224 rfl rfl ?_
            exact fin1 (h _ (R) (cFm.rf)) ((if_neg hsite).trans ((if_neg (fun z => c_5 (ek.trans z))).trans ((if_neg h6).trans ((iC_t hh).trans ((if_neg (fun z => by rw [← ek, c4_46] at z; exact absurd z (by decide))).trans ((if_neg (fun z => by rw [← ek, c4_46] at z; exact absurd z (by decide))).trans ((if_neg (fun z => by rw [← ek, c4_46] at z; exact absurd z (by decide))).trans ((if_pos (ek.symm.trans c4_46)).trans (bC_t ⟨pe2 _ c_195, pe2 _ c_210⟩)))))))))
          · refine ax_if_eq (tgt := 220) dX5_truthOf_213 (by decide) (fun _ => ?_) (fun z => absurd (by decide) z)
            refine ax_iconst (v := 0) dX5_truthOf_220 (by decide) ?_
            refine ax_invSN (n := 1) (As := [_]) dX5_truthOf_221 cb_X11_bit (host := "AlarmTower") (by decide) cn_X5_65 rfl ⟨Nat.le_of_ble_eq_true rfl, Nat.le_of_ble_eq_true rfl⟩ (Nat.le_of_ble_eq_true rfl) rfl (c_bit0 ?_)
            refine ax_iret dX5_truthOf_224 rfl rfl ?_
            exact fin1 (h _ (R) (cFm.rf)) ((if_neg hsite).trans ((if_neg (fun z => c_5 (ek.trans z))).trans ((if_neg h6).trans ((iC_t hh).trans ((if_neg (fun z => by rw [← ek, c4_46] at z; exact absurd z (by decide))).trans ((if_neg (fun z => by rw [← ek, c4_46] at z; exact absurd z (by decide))).trans ((if_neg (fun z => by rw [← ek, c4_46] at z; exact absurd z (by decide))).trans ((if_pos (ek.symm.trans c4_46)).trans (bC_f (fun z => c_210 (pe _ z.2)))))))))))
        · refine ax_if_eq (tgt := 220) dX5_truthOf_198 (by decide) (fun _ => ?_) (fun z => absurd (by decide) z)
          refine ax_iconst (v := 0) dX5_truthOf_220 (by decide) ?_
          refine ax_invSN (n := 1) (As := [_]) dX5_truthOf_221 cb_X11_bit (host := "AlarmTower") (by decide) cn_X5_65 rfl ⟨Nat.le_of_ble_eq_true rfl, Nat.le_of_ble_eq_true rfl⟩ (Nat.le_of_ble_eq_true rfl) rfl (c_bit0 ?_)
          refine ax_iret dX5_truthOf_224 rfl rfl ?_
          exact fin1 (h _ (R) (cFm.rf)) ((if_neg hsite).trans ((if_neg (fun z => c_5 (ek.trans z))).trans ((if_neg h6).trans ((iC_t hh).trans ((if_neg (fun z => by rw [← ek, c4_46] at z; exact absurd z (by decide))).trans ((if_neg (fun z => by rw [← ek, c4_46] at z; exact absurd z (by decide))).trans ((if_neg (fun z => by rw [← ek, c4_46] at z; exact absurd z (by decide))).trans ((if_pos (ek.symm.trans c4_46)).trans (bC_f (fun z => c_195 (pe _ z.1)))))))))))
      · refine ax_tableIn (tgt := 241) (off := 195) dX5_truthOf_46 (by rw [c4_46]; decide) (by rw [c4_46]; decide) (by rw [c4_46]; decide) (by decide) ?_
        exact absurd c4_46 c_5
      · refine ax_tableIn (tgt := 225) (off := 179) dX5_truthOf_46 (by rw [c4_46]; decide) (by rw [c4_46]; decide) (by rw [c4_46]; decide) (by decide) ?_
        obtain ⟨ewm, hw⟩ := (R.mI.i6 hr16).2 (by rw [← ek, c4_46]; decide) (by rw [← ek, c4_46]; decide) (by rw [← ek, c4_46]; decide)
        have ew : sI S 6 r 7 = nI (mE M 8 r) := (R.int (f := 6) (k := 7) (m := 8) (q := 6) (by decide) hr).trans ewm
        refine ax_sE (S' := wLf S 21 r (fun j => sL S 21 r j)) (wLf_id S r).symm ?_
        refine ax_aload_n (i := 0) dX5_truthOf_225 rfl rfl rfl ?_
        refine ax_lload dX5_truthOf_226 rfl ?_
        refine ax_aload_n (i := 0) dX5_truthOf_228 rfl rfl rfl ?_
        refine ax_aload_n (i := 1) dX5_truthOf_229 rfl rfl rfl ?_
        refine ax_iload_n (i := 3) dX5_truthOf_230 rfl rfl ?_
        refine ax_invV (c := 6) (n := 2) (As := [_, _]) dX5_truthOf_231 cb_X5_sortBefore cv_X5_84.1 cv_X5_84.2.1 cv_X5_84.2.2 rfl (by decide) rfl ⟨Nat.le_of_ble_eq_true rfl, Nat.le_of_ble_eq_true rfl⟩ (Nat.le_of_ble_eq_true rfl) rfl (c_sortBefore (S := S) (w := mE M 8 r) hru hsr R.val hs (by omega) ew hw (fun g c e1 e2 e3 => ?_))
        have hc20 : c ≤ 20 := by rw [e1]; exact Nat.le_trans (mCnt_le M s False 0 _ _) hw
        refine ax_invV (c := 6) (n := 2) (As := [_, _]) dX5_truthOf_234 cb_X5_isOdd cv_X5_88.1 cv_X5_88.2.1 cv_X5_88.2.2 rfl (by decide) rfl ⟨Nat.le_of_ble_eq_true rfl, Nat.le_of_ble_eq_true rfl⟩ (Nat.le_of_ble_eq_true rfl) rfl (c_isOdd (S := S) (c := c) (g := g) hru hc20 (fun c_234 => ?_) (fun c_234 => ?_))
        · refine ax_invSN (n := 1) (As := [_]) dX5_truthOf_237 cb_X11_bit (host := "AlarmTower") (by decide) cn_X5_65 rfl ⟨Nat.le_of_ble_eq_true rfl, Nat.le_of_ble_eq_true rfl⟩ (Nat.le_of_ble_eq_true rfl) rfl (c_bit1 ?_)
          refine ax_iret dX5_truthOf_240 rfl rfl ?_
          have em : 0 < c → mMid M s (T + 1) (mE M 8 r) c = g ((c - 1) / 2) := fun z => mid_srt e2 e3 (by omega)
          rw [eL2] at c_234
          exact fin1 (h _ (R.srt r g) (cFm.srt)) ((if_neg hsite).trans ((if_neg (fun z => c_5 (ek.trans z))).trans ((if_neg h6).trans ((iC_t hh).trans ((if_neg (fun z => by rw [← ek, c4_46] at z; exact absurd z (by decide))).trans ((if_neg (fun z => by rw [← ek, c4_46] at z; exact absurd z (by decide))).trans ((if_neg (fun z => by rw [← ek, c4_46] at z; exact absurd z (by decide))).trans ((if_neg (fun z => by rw [← ek, c4_46] at z; exact absurd z (by decide))).trans ((mOdd_val (many := c) e1.symm c_234.1).trans (if_pos (by rw [em (by omega)]; exact c_234.2)))))))))))
        · refine ax_invSN (n := 1) (As := [_]) dX5_truthOf_237 cb_X11_bit (host := "AlarmTower") (by decide) cn_X5_65 rfl ⟨Nat.le_of_ble_eq_true rfl, Nat.le_of_ble_eq_true rfl⟩ (Nat.le_of_ble_eq_true rfl) rfl (c_bit0 ?_)
          refine ax_iret dX5_truthOf_240 rfl rfl ?_
          have em : 0 < c → mMid M s (T + 1) (mE M 8 r) c = g ((c - 1) / 2) := fun z => mid_srt e2 e3 (by omega)
          rw [eL2] at c_234
          exact fin1 (h _ (R.srt r g) (cFm.srt)) ((if_neg hsite).trans ((if_neg (fun z => c_5 (ek.trans z))).trans ((if_neg h6).trans ((iC_t hh).trans ((if_neg (fun z => by rw [← ek, c4_46] at z; exact absurd z (by decide))).trans ((if_neg (fun z => by rw [← ek, c4_46] at z; exact absurd z (by decide))).trans ((if_neg (fun z => by rw [← ek, c4_46] at z; exact absurd z (by decide))).trans ((if_neg (fun z => by rw [← ek, c4_46] at z; exact absurd z (by decide))).trans ((Classical.em (3 ≤ c)).elim (fun h3 => (mOdd_val (many := c) e1.symm h3).trans (if_neg (fun z => c_234 ⟨h3, by rw [em (by omega)] at z; exact z⟩))) (fun h3 => mOdd_few (by rw [show mCnt M s False 0 (T + 1 - 1) (mE M 8 r) = c from e1.symm]; omega)))))))))))
    · refine ax_if_ne (tgt := 35) dX5_truthOf_30 (by decide) (fun z => absurd z (by decide)) (fun _ => ?_)
      refine ax_iconst (v := -1) dX5_truthOf_33 (by decide) ?_
      refine ax_iret dX5_truthOf_34 rfl rfl ?_
      exact fin1 (h _ (R) (cFm.rf)) ((if_neg hsite).trans ((if_neg (fun z => c_5 (ek.trans z))).trans ((if_neg h6).trans (iC_f (fun z => c_27 ((R.val.has hs (by omega)).mpr z))))))
  · obtain ⟨ewm, hw⟩ := (R.mI.i6 hr16).2 (by rw [← ek, Classical.not_not.mp c_5]; decide) (by rw [← ek, Classical.not_not.mp c_5]; decide) (by rw [← ek, Classical.not_not.mp c_5]; decide)
    have ew : sI S 6 r 7 = nI (mE M 8 r) := (R.int (f := 6) (k := 7) (m := 8) (q := 6) (by decide) hr).trans ewm
    have hx1 : nI (T + 1) - sI S 6 r 7 + 1 = nI (T + 1 + 1) - nI (mE M 8 r) := by rw [ew, dn1, nI_1]
    refine ax_aload_n (i := 1) dX5_truthOf_8 rfl rfl rfl ?_
    refine ax_iload_n (i := 3) dX5_truthOf_9 rfl rfl ?_
    refine ax_aload_n (i := 0) dX5_truthOf_10 rfl rfl rfl ?_
    refine ax_getI dX5_truthOf_11 fl_X5_35 rfl rfl rfl ?_
    refine ax_isub dX5_truthOf_14 ?_
    refine ax_iconst (v := 1) dX5_truthOf_15 (by decide) ?_
    refine ax_iadd dX5_truthOf_16 ?_
    refine ax_iload_n (i := 3) dX5_truthOf_17 rfl rfl ?_
    refine ax_invV (c := 9) (n := 2) (As := [_, _]) dX5_truthOf_18 cb_X8_isSilentIn cv_X5_61.1 cv_X5_61.2.1 cv_X5_61.2.2 rfl (by decide) rfl ⟨Nat.le_of_ble_eq_true rfl, Nat.le_of_ble_eq_true rfl⟩ (Nat.le_of_ble_eq_true rfl) rfl (c_isSilentIn0 (w := mE M 8 r) hx1 hsr R.val hs (by omega) (by omega) (fun c_18 => ?_) (fun c_18 => ?_))
    · refine ax_invSN (n := 1) (As := [_]) dX5_truthOf_21 cb_X11_bit (host := "AlarmTower") (by decide) cn_X5_65 rfl ⟨Nat.le_of_ble_eq_true rfl, Nat.le_of_ble_eq_true rfl⟩ (Nat.le_of_ble_eq_true rfl) rfl (c_bit1 ?_)
      refine ax_iret dX5_truthOf_24 rfl rfl ?_
      exact fin1 (h _ (R) (cFm.rf)) ((if_neg hsite).trans ((if_pos (ek.symm.trans (Classical.not_not.mp c_5))).trans (if_pos c_18)))
    · refine ax_invSN (n := 1) (As := [_]) dX5_truthOf_21 cb_X11_bit (host := "AlarmTower") (by decide) cn_X5_65 rfl ⟨Nat.le_of_ble_eq_true rfl, Nat.le_of_ble_eq_true rfl⟩ (Nat.le_of_ble_eq_true rfl) rfl (c_bit0 ?_)
      refine ax_iret dX5_truthOf_24 rfl rfl ?_
      exact fin1 (h _ (R) (cFm.rf)) ((if_neg hsite).trans ((if_pos (ek.symm.trans (Classical.not_not.mp c_5))).trans (if_neg c_18)))
