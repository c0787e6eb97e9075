theorem nI_nn {n : Nat} (h : n < 2 ^ 31) : 0 ≤ nI n := by rw [Int32.le_iff_toInt_le, nI_toInt h]; exact Int.natCast_nonneg n
theorem le_1000 {t : Int32} (h : 1 ≤ t ∧ t ≤ 1000) : t = nI (nN t) ∧ nN t < 1001 := rg_of (Int32.le_trans (by decide) h.1) (Int32.lt_of_le_of_lt h.2 (by decide)) (by decide)

theorem sw_9 {x : Int32} (h0 : 0 ≤ x.toInt) (h : x.toInt ≤ 8) : x = 0 ∨ x = 1 ∨ x = 2 ∨ x = 3 ∨ x = 4 ∨ x = 5 ∨ x = 6 ∨ x = 7 ∨ x = 8 := by
  have : x.toInt = 0 ∨ x.toInt = 1 ∨ x.toInt = 2 ∨ x.toInt = 3 ∨ x.toInt = 4 ∨ x.toInt = 5 ∨ x.toInt = 6 ∨ x.toInt = 7 ∨ x.toInt = 8 := by omega
  rcases this with e | e | e | e | e | e | e | e | e
  · exact Or.inl (Int32.toInt_inj.mp e)
  · exact Or.inr (Or.inl (Int32.toInt_inj.mp e))
  · exact Or.inr (Or.inr (Or.inl (Int32.toInt_inj.mp e)))
  · exact Or.inr (Or.inr (Or.inr (Or.inl (Int32.toInt_inj.mp e))))
  · exact Or.inr (Or.inr (Or.inr (Or.inr (Or.inl (Int32.toInt_inj.mp e)))))
  · exact Or.inr (Or.inr (Or.inr (Or.inr (Or.inr (Or.inl (Int32.toInt_inj.mp e))))))
  · exact Or.inr (Or.inr (Or.inr (Or.inr (Or.inr (Or.inr (Or.inl (Int32.toInt_inj.mp e)))))))
  · exact Or.inr (Or.inr (Or.inr (Or.inr (Or.inr (Or.inr (Or.inr (Or.inl (Int32.toInt_inj.mp e))))))))
  · exact Or.inr (Or.inr (Or.inr (Or.inr (Or.inr (Or.inr (Or.inr (Or.inr (Int32.toInt_inj.mp e))))))))

set_option maxHeartbeats 4000000 in
set_option maxRecDepth 100000 in
theorem t_alarm {b : Bool} {E : awE} {S : awS} {M : aM} {Q : Option Value → awS → Nat → Nat → Prop} (hm : mOk S) (hI : mI M) (x : Int32) (wh : Int32) (h : Q (some (.int (mAlarm M x wh).2)) (putM S (mAlarm M x wh).1) 0 0) : awT b E m_X12_alarm [.ref (nm 13 0), .int x, .int wh] (putM S M) Q := by
  refine awT.of (by decide) (by decide) (Nat.le_of_ble_eq_true rfl) ?_
  refine ax_aload_n (i := 0) dX12_alarm_0 rfl rfl rfl ?_
  refine ax_iconst (v := 0) dX12_alarm_1 (by decide) ?_
  refine ax_mPS dX12_alarm_2 fl_X12_228 rfl rfl ?_
  refine ax_mE (M2 := mT0 M) rfl ?_
  refine ax_iload_n (i := 1) dX12_alarm_5 rfl rfl ?_
  refine ax_if_lt (tgt := 17) dX12_alarm_6 (by decide) (fun c_6 => ?_) (fun c_6 => ?_)
  · refine ax_iconst (v := -1) dX12_alarm_17 (by decide) ?_
    refine ax_iret dX12_alarm_18 rfl rfl ?_
    exact fin2 h (if_pos (fun g => Int32.not_lt.mpr g.1 c_6))
  · refine ax_iload_n (i := 1) dX12_alarm_9 rfl rfl ?_
    refine ax_aload_n (i := 0) dX12_alarm_10 rfl rfl rfl ?_
    refine ax_mS dX12_alarm_11 fl_X12_284 rfl ?_
    refine ax_icmp_lt (tgt := 19) dX12_alarm_14 (by decide) (fun c_14 => ?_) (fun c_14 => ?_)
    · have e_x := rg_lt (Int32.not_lt.mp c_6) c_14 (mS_nI hI (k := 30) (b := 300) (by decide)) (Nat.lt_of_le_of_lt (mS_b hI (k := 30) (b := 300) (by decide)) (by decide))
      have e_xb : mN M 30 ≤ 300 := mS_b hI (by decide)
      have er := hI.A (k := 31) (n := 300) (b := 16) (by decide) (j := nN x) (by omega)
      rw [e_x.1]
      refine ax_iload_n (i := 2) dX12_alarm_19 rfl rfl ?_
      rcases (by omega : wh.toInt < 0 ∨ 0 ≤ wh.toInt) with c_20 | c_20
      · refine ax_tableOut (tgt := 156) dX12_alarm_20 (Or.inl c_20) (by decide) ?_
        refine ax_iconst (v := -1) dX12_alarm_156 (by decide) ?_
        refine ax_iret dX12_alarm_157 rfl rfl ?_
        exact fin2 h ((if_neg (fun z => z ⟨Int32.not_lt.mp c_6, c_14⟩)).trans ((if_neg (fun z => by rw [z] at c_20; exact absurd c_20 (by decide))).trans ((if_neg (fun z => by rw [z] at c_20; exact absurd c_20 (by decide))).trans ((if_neg (fun z => by rw [z] at c_20; exact absurd c_20 (by decide))).trans ((if_neg (fun z => by rw [z] at c_20; exact absurd c_20 (by decide))).trans ((if_neg (fun z => by rw [z] at c_20; exact absurd c_20 (by decide))).trans ((if_neg (fun z => by rw [z] at c_20; exact absurd c_20 (by decide))).trans ((if_neg (fun z => by rw [z] at c_20; exact absurd c_20 (by decide))).trans ((if_neg (fun z => by rw [z] at c_20; exact absurd c_20 (by decide))).trans (if_neg (fun z => by rw [z] at c_20; exact absurd c_20 (by decide))))))))))))
      rcases (by omega : 8 < wh.toInt ∨ wh.toInt ≤ 8) with c2_20 | c2_20
      · refine ax_tableOut (tgt := 156) dX12_alarm_20 (Or.inr c2_20) (by decide) ?_
        refine ax_iconst (v := -1) dX12_alarm_156 (by decide) ?_
        refine ax_iret dX12_alarm_157 rfl rfl ?_
        exact fin2 h ((if_neg (fun z => z ⟨Int32.not_lt.mp c_6, c_14⟩)).trans ((if_neg (fun z => by rw [z] at c2_20; exact absurd c2_20 (by decide))).trans ((if_neg (fun z => by rw [z] at c2_20; exact absurd c2_20 (by decide))).trans ((if_neg (fun z => by rw [z] at c2_20; exact absurd c2_20 (by decide))).trans ((if_neg (fun z => by rw [z] at c2_20; exact absurd c2_20 (by decide))).trans ((if_neg (fun z => by rw [z] at c2_20; exact absurd c2_20 (by decide))).trans ((if_neg (fun z => by rw [z] at c2_20; exact absurd c2_20 (by decide))).trans ((if_neg (fun z => by rw [z] at c2_20; exact absurd c2_20 (by decide))).trans ((if_neg (fun z => by rw [z] at c2_20; exact absurd c2_20 (by decide))).trans (if_neg (fun z => by rw [z] at c2_20; exact absurd c2_20 (by decide))))))))))))
      have c3_20 : wh = 0 ∨ wh = 1 ∨ wh = 2 ∨ wh = 3 ∨ wh = 4 ∨ wh = 5 ∨ wh = 6 ∨ wh = 7 ∨ wh = 8 := by have h1 := c_20; have h2 := c2_20; exact sw_9 h1 h2
      rcases c3_20 with c4_20 | c4_20 | c4_20 | c4_20 | c4_20 | c4_20 | c4_20 | c4_20 | c4_20
      · refine ax_tableIn (tgt := 72) (off := 52) dX12_alarm_20 (by rw [c4_20]; decide) (by rw [c4_20]; decide) (by rw [c4_20]; decide) (by decide) ?_
        refine ax_aload_n (i := 0) dX12_alarm_72 rfl rfl rfl ?_
        refine ax_mR hm dX12_alarm_73 fl_X12_86 rfl (by decide) ?_
        refine ax_iload_n (i := 1) dX12_alarm_76 rfl rfl ?_
        refine ax_mIN (N := 300) hm dX12_alarm_77 rfl rfl (by decide) (by omega) ?_
        refine ax_iret dX12_alarm_78 rfl rfl ?_
        exact fin2 h ((if_neg (fun z => z ⟨Int32.not_lt.mp c_6, c_14⟩)).trans (if_pos c4_20))
      · refine ax_tableIn (tgt := 79) (off := 59) dX12_alarm_20 (by rw [c4_20]; decide) (by rw [c4_20]; decide) (by rw [c4_20]; decide) (by decide) ?_
        refine ax_aload_n (i := 0) dX12_alarm_79 rfl rfl rfl ?_
        refine ax_mR hm dX12_alarm_80 fl_X12_89 rfl (by decide) ?_
        refine ax_iload_n (i := 1) dX12_alarm_83 rfl rfl ?_
        refine ax_mIN (N := 300) hm dX12_alarm_84 rfl rfl (by decide) (by omega) ?_
        refine ax_iret dX12_alarm_85 rfl rfl ?_
        exact fin2 h ((if_neg (fun z => z ⟨Int32.not_lt.mp c_6, c_14⟩)).trans ((if_neg (by rw [c4_20]; decide)).trans (if_pos c4_20)))
      · refine ax_tableIn (tgt := 86) (off := 66) dX12_alarm_20 (by rw [c4_20]; decide) (by rw [c4_20]; decide) (by rw [c4_20]; decide) (by decide) ?_
        refine ax_aload_n (i := 0) dX12_alarm_86 rfl rfl rfl ?_
        refine ax_mR hm dX12_alarm_87 fl_X12_92 rfl (by decide) ?_
        refine ax_iload_n (i := 1) dX12_alarm_90 rfl rfl ?_
        refine ax_mIN (N := 300) hm dX12_alarm_91 rfl rfl (by decide) (by omega) ?_
        refine ax_iret dX12_alarm_92 rfl rfl ?_
        exact fin2 h ((if_neg (fun z => z ⟨Int32.not_lt.mp c_6, c_14⟩)).trans ((if_neg (by rw [c4_20]; decide)).trans ((if_neg (by rw [c4_20]; decide)).trans (if_pos c4_20))))
      · refine ax_tableIn (tgt := 93) (off := 73) dX12_alarm_20 (by rw [c4_20]; decide) (by rw [c4_20]; decide) (by rw [c4_20]; decide) (by decide) ?_
        refine ax_aload_n (i := 0) dX12_alarm_93 rfl rfl rfl ?_
        refine ax_mR hm dX12_alarm_94 fl_X12_95 rfl (by decide) ?_
        refine ax_iload_n (i := 1) dX12_alarm_97 rfl rfl ?_
        refine ax_mIN (N := 300) hm dX12_alarm_98 rfl rfl (by decide) (by omega) ?_
        refine ax_iret dX12_alarm_99 rfl rfl ?_
        exact fin2 h ((if_neg (fun z => z ⟨Int32.not_lt.mp c_6, c_14⟩)).trans ((if_neg (by rw [c4_20]; decide)).trans ((if_neg (by rw [c4_20]; decide)).trans ((if_neg (by rw [c4_20]; decide)).trans (if_pos c4_20)))))
      · refine ax_tableIn (tgt := 100) (off := 80) dX12_alarm_20 (by rw [c4_20]; decide) (by rw [c4_20]; decide) (by rw [c4_20]; decide) (by decide) ?_
        refine ax_aload_n (i := 0) dX12_alarm_100 rfl rfl rfl ?_
        refine ax_mR hm dX12_alarm_101 fl_X12_39 rfl (by decide) ?_
        refine ax_aload_n (i := 0) dX12_alarm_104 rfl rfl rfl ?_
        refine ax_mR hm dX12_alarm_105 fl_X12_86 rfl (by decide) ?_
        refine ax_iload_n (i := 1) dX12_alarm_108 rfl rfl ?_
        refine ax_mIN (N := 300) hm dX12_alarm_109 rfl rfl (by decide) (by omega) ?_
        refine ax_top er.1 ?_
        refine ax_mIN (N := 16) hm dX12_alarm_110 rfl rfl (by decide) (by omega) ?_
        refine ax_iret dX12_alarm_111 rfl rfl ?_
        exact fin2 h ((if_neg (fun z => z ⟨Int32.not_lt.mp c_6, c_14⟩)).trans ((if_neg (by rw [c4_20]; decide)).trans ((if_neg (by rw [c4_20]; decide)).trans ((if_neg (by rw [c4_20]; decide)).trans ((if_neg (by rw [c4_20]; decide)).trans (if_pos c4_20))))))
      · refine ax_tableIn (tgt := 112) (off := 92) dX12_alarm_20 (by rw [c4_20]; decide) (by rw [c4_20]; decide) (by rw [c4_20]; decide) (by decide) ?_
        refine ax_aload_n (i := 0) dX12_alarm_112 rfl rfl rfl ?_
        refine ax_mR hm dX12_alarm_113 fl_X12_98 rfl (by decide) ?_
        refine ax_iload_n (i := 1) dX12_alarm_116 rfl rfl ?_
        refine ax_mZN (N := 300) hm dX12_alarm_117 rfl rfl (by decide) (by omega) ?_
        refine ax_if_eq (tgt := 125) dX12_alarm_118 (by decide) (fun c_118 => ?_) (fun c_118 => ?_)
        · refine ax_iconst (v := 0) dX12_alarm_125 (by decide) ?_
          refine ax_iret dX12_alarm_126 rfl rfl ?_
          exact fin2 h ((if_neg (fun z => z ⟨Int32.not_lt.mp c_6, c_14⟩)).trans ((if_neg (by rw [c4_20]; decide)).trans ((if_neg (by rw [c4_20]; decide)).trans ((if_neg (by rw [c4_20]; decide)).trans ((if_neg (by rw [c4_20]; decide)).trans ((if_neg (by rw [c4_20]; decide)).trans ((if_pos c4_20).trans (Prod.ext rfl (if_pos c_118)))))))))
        · refine ax_iconst (v := 1) dX12_alarm_121 (by decide) ?_
          refine ax_goto (tgt := 126) dX12_alarm_122 (by decide) ?_
          refine ax_iret dX12_alarm_126 rfl rfl ?_
          exact fin2 h ((if_neg (fun z => z ⟨Int32.not_lt.mp c_6, c_14⟩)).trans ((if_neg (by rw [c4_20]; decide)).trans ((if_neg (by rw [c4_20]; decide)).trans ((if_neg (by rw [c4_20]; decide)).trans ((if_neg (by rw [c4_20]; decide)).trans ((if_neg (by rw [c4_20]; decide)).trans ((if_pos c4_20).trans (Prod.ext rfl (if_neg c_118)))))))))
      · refine ax_tableIn (tgt := 127) (off := 107) dX12_alarm_20 (by rw [c4_20]; decide) (by rw [c4_20]; decide) (by rw [c4_20]; decide) (by decide) ?_
        refine ax_aload_n (i := 0) dX12_alarm_127 rfl rfl rfl ?_
        refine ax_mR hm dX12_alarm_128 fl_X12_101 rfl (by decide) ?_
        refine ax_iload_n (i := 1) dX12_alarm_131 rfl rfl ?_
        refine ax_mZN (N := 300) hm dX12_alarm_132 rfl rfl (by decide) (by omega) ?_
        refine ax_if_eq (tgt := 140) dX12_alarm_133 (by decide) (fun c_133 => ?_) (fun c_133 => ?_)
        · refine ax_iconst (v := 0) dX12_alarm_140 (by decide) ?_
          refine ax_iret dX12_alarm_141 rfl rfl ?_
          exact fin2 h ((if_neg (fun z => z ⟨Int32.not_lt.mp c_6, c_14⟩)).trans ((if_neg (by rw [c4_20]; decide)).trans ((if_neg (by rw [c4_20]; decide)).trans ((if_neg (by rw [c4_20]; decide)).trans ((if_neg (by rw [c4_20]; decide)).trans ((if_neg (by rw [c4_20]; decide)).trans ((if_neg (by rw [c4_20]; decide)).trans ((if_pos c4_20).trans (Prod.ext rfl (if_pos c_133))))))))))
        · refine ax_iconst (v := 1) dX12_alarm_136 (by decide) ?_
          refine ax_goto (tgt := 141) dX12_alarm_137 (by decide) ?_
          refine ax_iret dX12_alarm_141 rfl rfl ?_
          exact fin2 h ((if_neg (fun z => z ⟨Int32.not_lt.mp c_6, c_14⟩)).trans ((if_neg (by rw [c4_20]; decide)).trans ((if_neg (by rw [c4_20]; decide)).trans ((if_neg (by rw [c4_20]; decide)).trans ((if_neg (by rw [c4_20]; decide)).trans ((if_neg (by rw [c4_20]; decide)).trans ((if_neg (by rw [c4_20]; decide)).trans ((if_pos c4_20).trans (Prod.ext rfl (if_neg c_133))))))))))
      · refine ax_tableIn (tgt := 142) (off := 122) dX12_alarm_20 (by rw [c4_20]; decide) (by rw [c4_20]; decide) (by rw [c4_20]; decide) (by decide) ?_
        refine ax_aload_n (i := 0) dX12_alarm_142 rfl rfl rfl ?_
        refine ax_mR hm dX12_alarm_143 fl_X12_104 rfl (by decide) ?_
        refine ax_iload_n (i := 1) dX12_alarm_146 rfl rfl ?_
        refine ax_mIN (N := 300) hm dX12_alarm_147 rfl rfl (by decide) (by omega) ?_
        refine ax_iret dX12_alarm_148 rfl rfl ?_
        exact fin2 h ((if_neg (fun z => z ⟨Int32.not_lt.mp c_6, c_14⟩)).trans ((if_neg (by rw [c4_20]; decide)).trans ((if_neg (by rw [c4_20]; decide)).trans ((if_neg (by rw [c4_20]; decide)).trans ((if_neg (by rw [c4_20]; decide)).trans ((if_neg (by rw [c4_20]; decide)).trans ((if_neg (by rw [c4_20]; decide)).trans ((if_neg (by rw [c4_20]; decide)).trans (if_pos c4_20)))))))))
      · refine ax_tableIn (tgt := 149) (off := 129) dX12_alarm_20 (by rw [c4_20]; decide) (by rw [c4_20]; decide) (by rw [c4_20]; decide) (by decide) ?_
        refine ax_aload_n (i := 0) dX12_alarm_149 rfl rfl rfl ?_
        refine ax_mR hm dX12_alarm_150 fl_X12_107 rfl (by decide) ?_
        refine ax_iload_n (i := 1) dX12_alarm_153 rfl rfl ?_
        refine ax_mIN (N := 300) hm dX12_alarm_154 rfl rfl (by decide) (by omega) ?_
        refine ax_iret dX12_alarm_155 rfl rfl ?_
        exact fin2 h ((if_neg (fun z => z ⟨Int32.not_lt.mp c_6, c_14⟩)).trans ((if_neg (by rw [c4_20]; decide)).trans ((if_neg (by rw [c4_20]; decide)).trans ((if_neg (by rw [c4_20]; decide)).trans ((if_neg (by rw [c4_20]; decide)).trans ((if_neg (by rw [c4_20]; decide)).trans ((if_neg (by rw [c4_20]; decide)).trans ((if_neg (by rw [c4_20]; decide)).trans ((if_neg (by rw [c4_20]; decide)).trans (if_pos c4_20))))))))))
    · refine ax_iconst (v := -1) dX12_alarm_17 (by decide) ?_
      refine ax_iret dX12_alarm_18 rfl rfl ?_
      exact fin2 h (if_pos (fun g => c_14 g.2))
set_option maxHeartbeats 4000000 in
set_option maxRecDepth 100000 in
theorem t_letter {b : Bool} {E : awE} {S : awS} {M : aM} {Q : Option Value → awS → Nat → Nat → Prop} (hm : mOk S) (hI : mI M) (l : Int32) (wh : Int32) (h : Q (some (.int (mLetter M l wh).2)) (putM S (mLetter M l wh).1) 0 0) : awT b E m_X12_letter [.ref (nm 13 0), .int l, .int wh] (putM S M) Q := by
  refine awT.of (by decide) (by decide) (Nat.le_of_ble_eq_true rfl) ?_
  refine ax_aload_n (i := 0) dX12_letter_0 rfl rfl rfl ?_
  refine ax_iconst (v := 0) dX12_letter_1 (by decide) ?_
  refine ax_mPS dX12_letter_2 fl_X12_228 rfl rfl ?_
  refine ax_mE (M2 := mT0 M) rfl ?_
  refine ax_aload_n (i := 0) dX12_letter_5 rfl rfl rfl ?_
  refine ax_iload_n (i := 1) dX12_letter_6 rfl rfl ?_
  refine ax_invV (c := 13) (n := 1) (As := [_]) dX12_letter_7 cb_X12_isLetter cv_X12_387.1 cv_X12_387.2.1 cv_X12_387.2.2 rfl (by decide) rfl ⟨Nat.le_of_ble_eq_true rfl, Nat.le_of_ble_eq_true rfl⟩ (Nat.le_of_ble_eq_true rfl) rfl (t_isLetter (fun c_7 => ?_) (fun c_7 => ?_))
  · refine ax_if_ne (tgt := 15) dX12_letter_10 (by decide) (fun _ => ?_) (fun z => absurd (by decide) z)
    have e_l := rg_lt c_7.1 c_7.2 (mS_nI hI (k := 63) (b := 200) (by decide)) (Nat.lt_of_le_of_lt (mS_b hI (k := 63) (b := 200) (by decide)) (by decide))
    have e_lb : mN M 63 ≤ 200 := mS_b hI (by decide)
    have ea := hI.A (k := 71) (n := 200) (b := 9) (by decide) (j := nN l) (by omega)
    have eb := hI.A (k := 69) (n := 200) (b := 9) (by decide) (j := nN l) (by omega)
    rw [e_l.1]
    refine ax_iload_n (i := 2) dX12_letter_15 rfl rfl ?_
    rcases (by omega : wh.toInt < 0 ∨ 0 ≤ wh.toInt) with c_16 | c_16
    · refine ax_tableOut (tgt := 187) dX12_letter_16 (Or.inl c_16) (by decide) ?_
      refine ax_iconst (v := -1) dX12_letter_187 (by decide) ?_
      refine ax_iret dX12_letter_188 rfl rfl ?_
      exact fin2 h ((if_neg (fun z => z c_7)).trans ((if_neg (fun z => by rw [z] at c_16; exact absurd c_16 (by decide))).trans ((if_neg (fun z => by rw [z] at c_16; exact absurd c_16 (by decide))).trans ((if_neg (fun z => by rw [z] at c_16; exact absurd c_16 (by decide))).trans ((if_neg (fun z => by rw [z] at c_16; exact absurd c_16 (by decide))).trans ((if_neg (fun z => by rw [z] at c_16; exact absurd c_16 (by decide))).trans ((if_neg (fun z => by rw [z] at c_16; exact absurd c_16 (by decide))).trans ((if_neg (fun z => by rw [z] at c_16; exact absurd c_16 (by decide))).trans ((if_neg (fun z => by rw [z] at c_16; exact absurd c_16 (by decide))).trans (if_neg (fun z => by rw [z] at c_16; exact absurd c_16 (by decide))))))))))))
    rcases (by omega : 8 < wh.toInt ∨ wh.toInt ≤ 8) with c2_16 | c2_16
    · refine ax_tableOut (tgt := 187) dX12_letter_16 (Or.inr c2_16) (by decide) ?_
      refine ax_iconst (v := -1) dX12_letter_187 (by decide) ?_
      refine ax_iret dX12_letter_188 rfl rfl ?_
      exact fin2 h ((if_neg (fun z => z c_7)).trans ((if_neg (fun z => by rw [z] at c2_16; exact absurd c2_16 (by decide))).trans ((if_neg (fun z => by rw [z] at c2_16; exact absurd c2_16 (by decide))).trans ((if_neg (fun z => by rw [z] at c2_16; exact absurd c2_16 (by decide))).trans ((if_neg (fun z => by rw [z] at c2_16; exact absurd c2_16 (by decide))).trans ((if_neg (fun z => by rw [z] at c2_16; exact absurd c2_16 (by decide))).trans ((if_neg (fun z => by rw [z] at c2_16; exact absurd c2_16 (by decide))).trans ((if_neg (fun z => by rw [z] at c2_16; exact absurd c2_16 (by decide))).trans ((if_neg (fun z => by rw [z] at c2_16; exact absurd c2_16 (by decide))).trans (if_neg (fun z => by rw [z] at c2_16; exact absurd c2_16 (by decide))))))))))))
    have c3_16 : wh = 0 ∨ wh = 1 ∨ wh = 2 ∨ wh = 3 ∨ wh = 4 ∨ wh = 5 ∨ wh = 6 ∨ wh = 7 ∨ wh = 8 := by have h1 := c_16; have h2 := c2_16; exact sw_9 h1 h2
    rcases c3_16 with c4_16 | c4_16 | c4_16 | c4_16 | c4_16 | c4_16 | c4_16 | c4_16 | c4_16
    · refine ax_tableIn (tgt := 68) (off := 52) dX12_letter_16 (by rw [c4_16]; decide) (by rw [c4_16]; decide) (by rw [c4_16]; decide) (by decide) ?_
      refine ax_aload_n (i := 0) dX12_letter_68 rfl rfl rfl ?_
      refine ax_mR hm dX12_letter_69 fl_X12_171 rfl (by decide) ?_
      refine ax_iload_n (i := 1) dX12_letter_72 rfl rfl ?_
      refine ax_mIN (N := 200) hm dX12_letter_73 rfl rfl (by decide) (by omega) ?_
      refine ax_iret dX12_letter_74 rfl rfl ?_
      exact fin2 h ((if_neg (fun z => z c_7)).trans (if_pos c4_16))
    · refine ax_tableIn (tgt := 75) (off := 59) dX12_letter_16 (by rw [c4_16]; decide) (by rw [c4_16]; decide) (by rw [c4_16]; decide) (by decide) ?_
      refine ax_aload_n (i := 0) dX12_letter_75 rfl rfl rfl ?_
      refine ax_mR hm dX12_letter_76 fl_X12_180 rfl (by decide) ?_
      refine ax_iload_n (i := 1) dX12_letter_79 rfl rfl ?_
      refine ax_mIN (N := 200) hm dX12_letter_80 rfl rfl (by decide) (by omega) ?_
      refine ax_if_ne (tgt := 89) dX12_letter_81 (by decide) (fun c_81 => ?_) (fun c_81 => ?_)
      · refine ax_aload_n (i := 0) dX12_letter_89 rfl rfl rfl ?_
        refine ax_mR hm dX12_letter_90 fl_X12_183 rfl (by decide) ?_
        refine ax_bipush (v := nI 40) dX12_letter_93 (by decide) ?_
        refine ax_iload_n (i := 1) dX12_letter_95 rfl rfl ?_
        refine ax_imulN dX12_letter_96 ?_
        refine ax_mIN (N := 8000) hm dX12_letter_97 rfl rfl (by decide) (by omega) ?_
        refine ax_iret dX12_letter_98 rfl rfl ?_
        exact fin2 h ((if_neg (fun z => z c_7)).trans ((if_neg (by rw [c4_16]; decide)).trans ((if_pos c4_16).trans (Prod.ext rfl (if_neg c_81)))))
      · refine ax_bipush (v := -2) dX12_letter_84 (by decide) ?_
        refine ax_goto (tgt := 98) dX12_letter_86 (by decide) ?_
        refine ax_iret dX12_letter_98 rfl rfl ?_
        exact fin2 h ((if_neg (fun z => z c_7)).trans ((if_neg (by rw [c4_16]; decide)).trans ((if_pos c4_16).trans (Prod.ext rfl (if_pos (Classical.not_not.mp c_81))))))
    · refine ax_tableIn (tgt := 99) (off := 83) dX12_letter_16 (by rw [c4_16]; decide) (by rw [c4_16]; decide) (by rw [c4_16]; decide) (by decide) ?_
      refine ax_aload_n (i := 0) dX12_letter_99 rfl rfl rfl ?_
      refine ax_mR hm dX12_letter_100 fl_X12_180 rfl (by decide) ?_
      refine ax_iload_n (i := 1) dX12_letter_103 rfl rfl ?_
      refine ax_mIN (N := 200) hm dX12_letter_104 rfl rfl (by decide) (by omega) ?_
      refine ax_iret dX12_letter_105 rfl rfl ?_
      exact fin2 h ((if_neg (fun z => z c_7)).trans ((if_neg (by rw [c4_16]; decide)).trans ((if_neg (by rw [c4_16]; decide)).trans (if_pos c4_16))))
    · refine ax_tableIn (tgt := 106) (off := 90) dX12_letter_16 (by rw [c4_16]; decide) (by rw [c4_16]; decide) (by rw [c4_16]; decide) (by decide) ?_
      refine ax_aload_n (i := 0) dX12_letter_106 rfl rfl rfl ?_
      refine ax_mR hm dX12_letter_107 fl_X12_192 rfl (by decide) ?_
      refine ax_iload_n (i := 1) dX12_letter_110 rfl rfl ?_
      refine ax_mIN (N := 200) hm dX12_letter_111 rfl rfl (by decide) (by omega) ?_
      refine ax_aload_n (i := 0) dX12_letter_112 rfl rfl rfl ?_
      refine ax_mR hm dX12_letter_113 fl_X12_186 rfl (by decide) ?_
      refine ax_iload_n (i := 1) dX12_letter_116 rfl rfl ?_
      refine ax_mIN (N := 200) hm dX12_letter_117 rfl rfl (by decide) (by omega) ?_
      refine ax_icmp_ge (tgt := 140) dX12_letter_118 (by decide) (fun c_118 => ?_) (fun c_118 => ?_)
      · refine ax_bipush (v := -2) dX12_letter_140 (by decide) ?_
        refine ax_iret dX12_letter_142 rfl rfl ?_
        exact fin2 h ((if_neg (fun z => z c_7)).trans ((if_neg (by rw [c4_16]; decide)).trans ((if_neg (by rw [c4_16]; decide)).trans ((if_neg (by rw [c4_16]; decide)).trans ((if_pos c4_16).trans (Prod.ext rfl (if_neg (Int32.not_lt.mpr c_118))))))))
      · have e2 := rg_lt (x := mA (mT0 M) 71 (nN l)) (y := mA (mT0 M) 69 (nN l)) (by rw [show mA (mT0 M) 71 (nN l) = _ from ea.1]; exact nI_nn (by omega)) (Int32.not_le.mp c_118) eb.1 (by omega)
        refine ax_aload_n (i := 0) dX12_letter_121 rfl rfl rfl ?_
        refine ax_mR hm dX12_letter_122 fl_X12_189 rfl (by decide) ?_
        refine ax_bipush (v := nI 8) dX12_letter_125 (by decide) ?_
        refine ax_iload_n (i := 1) dX12_letter_127 rfl rfl ?_
        refine ax_imulN dX12_letter_128 ?_
        refine ax_aload_n (i := 0) dX12_letter_129 rfl rfl rfl ?_
        refine ax_mR hm dX12_letter_130 fl_X12_192 rfl (by decide) ?_
        refine ax_iload_n (i := 1) dX12_letter_133 rfl rfl ?_
        refine ax_mIN (N := 200) hm dX12_letter_134 rfl rfl (by decide) (by omega) ?_
        refine ax_top ea.1 ?_
        refine ax_iaddN dX12_letter_135 ?_
        refine ax_mIN (N := 1600) hm dX12_letter_136 rfl rfl (by decide) (by have h1 : mE M 71 (nN l) < mE M 69 (nN l) := e2.2; omega) ?_
        refine ax_goto (tgt := 142) dX12_letter_137 (by decide) ?_
        refine ax_iret dX12_letter_142 rfl rfl ?_
        exact fin2 h ((if_neg (fun z => z c_7)).trans ((if_neg (by rw [c4_16]; decide)).trans ((if_neg (by rw [c4_16]; decide)).trans ((if_neg (by rw [c4_16]; decide)).trans ((if_pos c4_16).trans (Prod.ext rfl (if_pos (Int32.not_le.mp c_118))))))))
    · refine ax_tableIn (tgt := 143) (off := 127) dX12_letter_16 (by rw [c4_16]; decide) (by rw [c4_16]; decide) (by rw [c4_16]; decide) (by decide) ?_
      refine ax_aload_n (i := 0) dX12_letter_143 rfl rfl rfl ?_
      refine ax_mR hm dX12_letter_144 fl_X12_195 rfl (by decide) ?_
      refine ax_iload_n (i := 1) dX12_letter_147 rfl rfl ?_
      refine ax_mIN (N := 200) hm dX12_letter_148 rfl rfl (by decide) (by omega) ?_
      refine ax_iret dX12_letter_149 rfl rfl ?_
      exact fin2 h ((if_neg (fun z => z c_7)).trans ((if_neg (by rw [c4_16]; decide)).trans ((if_neg (by rw [c4_16]; decide)).trans ((if_neg (by rw [c4_16]; decide)).trans ((if_neg (by rw [c4_16]; decide)).trans (if_pos c4_16))))))
    · refine ax_tableIn (tgt := 150) (off := 134) dX12_letter_16 (by rw [c4_16]; decide) (by rw [c4_16]; decide) (by rw [c4_16]; decide) (by decide) ?_
      refine ax_aload_n (i := 0) dX12_letter_150 rfl rfl rfl ?_
      refine ax_mR hm dX12_letter_151 fl_X12_198 rfl (by decide) ?_
      refine ax_iload_n (i := 1) dX12_letter_154 rfl rfl ?_
      refine ax_mIN (N := 200) hm dX12_letter_155 rfl rfl (by decide) (by omega) ?_
      refine ax_iret dX12_letter_156 rfl rfl ?_
      exact fin2 h ((if_neg (fun z => z c_7)).trans ((if_neg (by rw [c4_16]; decide)).trans ((if_neg (by rw [c4_16]; decide)).trans ((if_neg (by rw [c4_16]; decide)).trans ((if_neg (by rw [c4_16]; decide)).trans ((if_neg (by rw [c4_16]; decide)).trans (if_pos c4_16)))))))
    · refine ax_tableIn (tgt := 157) (off := 141) dX12_letter_16 (by rw [c4_16]; decide) (by rw [c4_16]; decide) (by rw [c4_16]; decide) (by decide) ?_
      refine ax_aload_n (i := 0) dX12_letter_157 rfl rfl rfl ?_
      refine ax_mR hm dX12_letter_158 fl_X12_201 rfl (by decide) ?_
      refine ax_iload_n (i := 1) dX12_letter_161 rfl rfl ?_
      refine ax_mIN (N := 200) hm dX12_letter_162 rfl rfl (by decide) (by omega) ?_
      refine ax_iret dX12_letter_163 rfl rfl ?_
      exact fin2 h ((if_neg (fun z => z c_7)).trans ((if_neg (by rw [c4_16]; decide)).trans ((if_neg (by rw [c4_16]; decide)).trans ((if_neg (by rw [c4_16]; decide)).trans ((if_neg (by rw [c4_16]; decide)).trans ((if_neg (by rw [c4_16]; decide)).trans ((if_neg (by rw [c4_16]; decide)).trans (if_pos c4_16))))))))
    · refine ax_tableIn (tgt := 164) (off := 148) dX12_letter_16 (by rw [c4_16]; decide) (by rw [c4_16]; decide) (by rw [c4_16]; decide) (by decide) ?_
      refine ax_aload_n (i := 0) dX12_letter_164 rfl rfl rfl ?_
      refine ax_mR hm dX12_letter_165 fl_X12_186 rfl (by decide) ?_
      refine ax_iload_n (i := 1) dX12_letter_168 rfl rfl ?_
      refine ax_mIN (N := 200) hm dX12_letter_169 rfl rfl (by decide) (by omega) ?_
      refine ax_iret dX12_letter_170 rfl rfl ?_
      exact fin2 h ((if_neg (fun z => z c_7)).trans ((if_neg (by rw [c4_16]; decide)).trans ((if_neg (by rw [c4_16]; decide)).trans ((if_neg (by rw [c4_16]; decide)).trans ((if_neg (by rw [c4_16]; decide)).trans ((if_neg (by rw [c4_16]; decide)).trans ((if_neg (by rw [c4_16]; decide)).trans ((if_neg (by rw [c4_16]; decide)).trans (if_pos c4_16)))))))))
    · refine ax_tableIn (tgt := 171) (off := 155) dX12_letter_16 (by rw [c4_16]; decide) (by rw [c4_16]; decide) (by rw [c4_16]; decide) (by decide) ?_
      refine ax_aload_n (i := 0) dX12_letter_171 rfl rfl rfl ?_
      refine ax_mR hm dX12_letter_172 fl_X12_177 rfl (by decide) ?_
      refine ax_iload_n (i := 1) dX12_letter_175 rfl rfl ?_
      refine ax_mIN (N := 200) hm dX12_letter_176 rfl rfl (by decide) (by omega) ?_
      refine ax_iconst (v := 4) dX12_letter_177 (by decide) ?_
      refine ax_icmp_ne (tgt := 185) dX12_letter_178 (by decide) (fun c_178 => ?_) (fun c_178 => ?_)
      · refine ax_iconst (v := 0) dX12_letter_185 (by decide) ?_
        refine ax_iret dX12_letter_186 rfl rfl ?_
        exact fin2 h ((if_neg (fun z => z c_7)).trans ((if_neg (by rw [c4_16]; decide)).trans ((if_neg (by rw [c4_16]; decide)).trans ((if_neg (by rw [c4_16]; decide)).trans ((if_neg (by rw [c4_16]; decide)).trans ((if_neg (by rw [c4_16]; decide)).trans ((if_neg (by rw [c4_16]; decide)).trans ((if_neg (by rw [c4_16]; decide)).trans ((if_neg (by rw [c4_16]; decide)).trans ((if_pos c4_16).trans (Prod.ext rfl (if_neg c_178))))))))))))
      · refine ax_iconst (v := 1) dX12_letter_181 (by decide) ?_
        refine ax_goto (tgt := 186) dX12_letter_182 (by decide) ?_
        refine ax_iret dX12_letter_186 rfl rfl ?_
        exact fin2 h ((if_neg (fun z => z c_7)).trans ((if_neg (by rw [c4_16]; decide)).trans ((if_neg (by rw [c4_16]; decide)).trans ((if_neg (by rw [c4_16]; decide)).trans ((if_neg (by rw [c4_16]; decide)).trans ((if_neg (by rw [c4_16]; decide)).trans ((if_neg (by rw [c4_16]; decide)).trans ((if_neg (by rw [c4_16]; decide)).trans ((if_neg (by rw [c4_16]; decide)).trans ((if_pos c4_16).trans (Prod.ext rfl (if_pos (Classical.not_not.mp c_178)))))))))))))
  · refine ax_if_ne (tgt := 15) dX12_letter_10 (by decide) (fun z => absurd z (by decide)) (fun _ => ?_)
    refine ax_iconst (v := -1) dX12_letter_13 (by decide) ?_
    refine ax_iret dX12_letter_14 rfl rfl ?_
    exact fin2 h (if_pos c_7)
def mAwakeB (M1 : aM) (i : Int32) : aM × Int32 := (M1, if i < mS M1 78 then mA M1 77 (nN i) else -2)
theorem mAwake_b {M : aM} {t i : Int32} (h1 : 1 ≤ t ∧ t ≤ 1000) (h2 : 0 ≤ i) : mAwake M t i = mAwakeB (mWake (mT0 M) (nN t)) i := by
  unfold mAwake
  rw [if_neg (fun z => z.elim (fun w => w h1) (fun w => Int32.not_lt.mpr h2 w))]
  rfl

set_option maxHeartbeats 4000000 in
set_option maxRecDepth 100000 in
theorem t_awake {b : Bool} {E : awE} {S : awS} {M : aM} {Q : Option Value → awS → Nat → Nat → Prop} (hm : mOk S) (hI : mI M) (t : Int32) (i : Int32) (h : Q (some (.int (mAwake M t i).2)) (putM S (mAwake M t i).1) 0 0) : awT b E m_X12_awake [.ref (nm 13 0), .int t, .int i] (putM S M) Q := by
  refine awT.of (by decide) (by decide) (Nat.le_of_ble_eq_true rfl) ?_
  refine ax_aload_n (i := 0) dX12_awake_0 rfl rfl rfl ?_
  refine ax_iconst (v := 0) dX12_awake_1 (by decide) ?_
  refine ax_mPS dX12_awake_2 fl_X12_228 rfl rfl ?_
  refine ax_mE (M2 := mT0 M) rfl ?_
  refine ax_iload_n (i := 1) dX12_awake_5 rfl rfl ?_
  refine ax_i2l dX12_awake_6 ?_
  refine ax_lconst (v := 1) dX12_awake_7 (by decide) ?_
  refine ax_ldc2 dX12_awake_8 kc_X12_274 ?_
  refine ax_invS (n := 3) (As := [_, _, _]) dX12_awake_11 cb_X12_isIn cs_X12_242.1 cs_X12_242.2 rfl ⟨Nat.le_of_ble_eq_true rfl, Nat.le_of_ble_eq_true rfl⟩ (Nat.le_of_ble_eq_true rfl) rfl (t_isInI (lo := (1)) (hi := (1000)) (fun c_11 => ?_) (fun c_11 => ?_))
  · refine ax_if_eq (tgt := 21) dX12_awake_14 (by decide) (fun z => absurd z (by decide)) (fun _ => ?_)
    refine ax_iload_n (i := 2) dX12_awake_17 rfl rfl ?_
    refine ax_if_ge (tgt := 23) dX12_awake_18 (by decide) (fun c_18 => ?_) (fun c_18 => ?_)
    · have e_t := le_1000 c_11
      have e_tb := e_t.2
      rw [e_t.1]
      refine ax_aload_n (i := 0) dX12_awake_23 rfl rfl rfl ?_
      refine ax_iload_n (i := 1) dX12_awake_24 rfl rfl ?_
      refine ax_invV (c := 13) (n := 1) (As := [_]) dX12_awake_25 cb_X12_wake cv_X12_369.1 cv_X12_369.2.1 cv_X12_369.2.2 rfl (by decide) rfl ⟨Nat.le_of_ble_eq_true rfl, Nat.le_of_ble_eq_true rfl⟩ (Nat.le_of_ble_eq_true rfl) rfl (t_wake hm hI.t0 (by omega) ?_)
      have e0 := mAwake_b (M := M) c_11 c_18
      rw [e0] at h
      have hv := mWake_inv hI.t0 (nN t)
      generalize hM1 : mWake (mT0 M) (nN t) = M1 at hv h e0 ⊢
      refine ax_iload_n (i := 2) dX12_awake_28 rfl rfl ?_
      refine ax_aload_n (i := 0) dX12_awake_29 rfl rfl rfl ?_
      refine ax_mS dX12_awake_30 fl_X12_356 rfl ?_
      refine ax_icmp_ge (tgt := 45) dX12_awake_33 (by decide) (fun c_33 => ?_) (fun c_33 => ?_)
      · refine ax_bipush (v := -2) dX12_awake_45 (by decide) ?_
        refine ax_iret dX12_awake_47 rfl rfl ?_
        exact fin2 h (by exact Prod.ext rfl (if_neg (Int32.not_lt.mpr c_33)))
      · have e_i := rg_lt c_18 (Int32.not_le.mp c_33) hv.2.2.2.1 (by have := hv.2.2.2.2; omega)
        have e_ib : mN M1 78 ≤ 8 := by have := hv.2.2.2.2; omega
        rw [e_i.1]
        refine ax_aload_n (i := 0) dX12_awake_36 rfl rfl rfl ?_
        refine ax_mR hm dX12_awake_37 fl_X12_210 rfl (by decide) ?_
        refine ax_iload_n (i := 2) dX12_awake_40 rfl rfl ?_
        refine ax_mIN (N := 8) hm dX12_awake_41 rfl rfl (by decide) (by omega) ?_
        refine ax_goto (tgt := 47) dX12_awake_42 (by decide) ?_
        refine ax_iret dX12_awake_47 rfl rfl ?_
        exact fin2 h (by exact Prod.ext rfl (if_pos (Int32.not_le.mp c_33)))
    · refine ax_iconst (v := -1) dX12_awake_21 (by decide) ?_
      refine ax_iret dX12_awake_22 rfl rfl ?_
      exact fin2 h (if_pos (Or.inr (Int32.not_le.mp c_18)))
  · refine ax_if_eq (tgt := 21) dX12_awake_14 (by decide) (fun _ => ?_) (fun z => absurd (by decide) z)
    refine ax_iconst (v := -1) dX12_awake_21 (by decide) ?_
    refine ax_iret dX12_awake_22 rfl rfl ?_
    exact fin2 h (if_pos (Or.inl c_11))
theorem lt_succ_c {p : Nat → Prop} {i : Nat} (h : ∀ j, j < i → p j) (h2 : p i) : ∀ j, j < i + 1 → p j := fun j hj => (Nat.lt_succ_iff_lt_or_eq.mp hj).elim (h j) (fun z => by rw [z]; exact h2)

set_option maxHeartbeats 4000000 in
set_option maxRecDepth 100000 in
theorem t_wentTo {b : Bool} {E : awE} {S : awS} {M : aM} {Q : Option Value → awS → Nat → Nat → Prop} (hm : mOk S) {l : Nat} {hd : Int32} (hI : mI M) (hl : l < 200) (h1 : mWent M l hd → Q (some (.int 1)) (putM S M) 0 0) (h0 : ¬ mWent M l hd → Q (some (.int 0)) (putM S M) 0 0) : awT b E m_X12_wentTo [.ref (nm 13 0), .int (nI l), .int hd] (putM S M) Q := by
  refine awT.of (by decide) (by decide) (Nat.le_of_ble_eq_true rfl) ?_
  have eb := hI.A (k := 69) (n := 200) (b := 9) (by decide) (j := l) hl
  have L : ∀ (m i : Nat) (f : Int32), i + m = mE M 69 l → ((f = 1 ∧ mWent M l hd) ∨ (f = 0 ∧ ¬ mA M 69 l ≤ mA M 71 l ∧ ∀ j, j < i → ¬ mA M 70 (8 * l + j) = hd)) → awX b E m_X12_wentTo 24 [(4, .int (nI i)), (3, .int f), (0, .ref (nm 13 0)), (1, .int (nI l)), (2, .int hd)] [] (putM S M) 0 0 Q := by
    intro m
    induction m with
    | zero =>
      intro i f hm1 hf
      rcases hf with ⟨rfl, hw⟩ | ⟨rfl, hn, hno⟩
      ·
        refine ax_iload dX12_wentTo_24 rfl ?_
        refine ax_aload_n (i := 0) dX12_wentTo_26 rfl rfl rfl ?_
        refine ax_mR hm dX12_wentTo_27 fl_X12_192 rfl (by decide) ?_
        refine ax_iload_n (i := 1) dX12_wentTo_30 rfl rfl ?_
        refine ax_mIN (N := 200) hm dX12_wentTo_31 rfl rfl (by decide) (by omega) ?_
        refine ax_icmp_gt (tgt := 78) dX12_wentTo_32 (by decide) (fun c_32 => ?_) (fun c_32 => ?_)
        · refine ax_iload_n (i := 3) dX12_wentTo_78 rfl rfl ?_
          refine ax_iret dX12_wentTo_79 rfl rfl ?_
          exact h1 hw
        · refine ax_iload dX12_wentTo_35 rfl ?_
          refine ax_aload_n (i := 0) dX12_wentTo_37 rfl rfl rfl ?_
          refine ax_mR hm dX12_wentTo_38 fl_X12_186 rfl (by decide) ?_
          refine ax_iload_n (i := 1) dX12_wentTo_41 rfl rfl ?_
          refine ax_mIN (N := 200) hm dX12_wentTo_42 rfl rfl (by decide) (by omega) ?_
          refine ax_icmp_ge (tgt := 78) dX12_wentTo_43 (by decide) (fun c_43 => ?_) (fun c_43 => ?_)
          · refine ax_iload_n (i := 3) dX12_wentTo_78 rfl rfl ?_
            refine ax_iret dX12_wentTo_79 rfl rfl ?_
            exact h1 hw
          · exact absurd (by rw [eb.1, show mE M 69 l = i by omega]; exact Int32.le_refl _) c_43
      ·
        refine ax_iload dX12_wentTo_24 rfl ?_
        refine ax_aload_n (i := 0) dX12_wentTo_26 rfl rfl rfl ?_
        refine ax_mR hm dX12_wentTo_27 fl_X12_192 rfl (by decide) ?_
        refine ax_iload_n (i := 1) dX12_wentTo_30 rfl rfl ?_
        refine ax_mIN (N := 200) hm dX12_wentTo_31 rfl rfl (by decide) (by omega) ?_
        refine ax_icmp_gt (tgt := 78) dX12_wentTo_32 (by decide) (fun c_32 => ?_) (fun c_32 => ?_)
        · refine ax_iload_n (i := 3) dX12_wentTo_78 rfl rfl ?_
          refine ax_iret dX12_wentTo_79 rfl rfl ?_
          exact h0 (fun z => z.elim hn (fun w => w.elim (fun j q => hno j (Nat.lt_of_not_le (fun e => Int32.lt_irrefl (Int32.lt_of_lt_of_le c_32 (Int32.le_trans (nI_le e (by omega)) q.1)))) q.2.2.2)))
        · refine ax_iload dX12_wentTo_35 rfl ?_
          refine ax_aload_n (i := 0) dX12_wentTo_37 rfl rfl rfl ?_
          refine ax_mR hm dX12_wentTo_38 fl_X12_186 rfl (by decide) ?_
          refine ax_iload_n (i := 1) dX12_wentTo_41 rfl rfl ?_
          refine ax_mIN (N := 200) hm dX12_wentTo_42 rfl rfl (by decide) (by omega) ?_
          refine ax_icmp_ge (tgt := 78) dX12_wentTo_43 (by decide) (fun c_43 => ?_) (fun c_43 => ?_)
          · refine ax_iload_n (i := 3) dX12_wentTo_78 rfl rfl ?_
            refine ax_iret dX12_wentTo_79 rfl rfl ?_
            exact h0 (fun z => z.elim hn (fun w => w.elim (fun j q => hno j (Nat.lt_of_not_le (fun e => Int32.lt_irrefl (Int32.lt_of_lt_of_le q.2.1 (Int32.le_trans c_43 (nI_le e (by omega)))))) q.2.2.2)))
          · exact absurd (by rw [eb.1, show mE M 69 l = i by omega]; exact Int32.le_refl _) c_43
    | succ m ih =>
      intro i f hm1 hf
      rcases hf with ⟨rfl, hw⟩ | ⟨rfl, hn, hno⟩
      ·
        refine ax_iload dX12_wentTo_24 rfl ?_
        refine ax_aload_n (i := 0) dX12_wentTo_26 rfl rfl rfl ?_
        refine ax_mR hm dX12_wentTo_27 fl_X12_192 rfl (by decide) ?_
        refine ax_iload_n (i := 1) dX12_wentTo_30 rfl rfl ?_
        refine ax_mIN (N := 200) hm dX12_wentTo_31 rfl rfl (by decide) (by omega) ?_
        refine ax_icmp_gt (tgt := 78) dX12_wentTo_32 (by decide) (fun c_32 => ?_) (fun c_32 => ?_)
        · refine ax_iload_n (i := 3) dX12_wentTo_78 rfl rfl ?_
          refine ax_iret dX12_wentTo_79 rfl rfl ?_
          exact h1 hw
        · refine ax_iload dX12_wentTo_35 rfl ?_
          refine ax_aload_n (i := 0) dX12_wentTo_37 rfl rfl rfl ?_
          refine ax_mR hm dX12_wentTo_38 fl_X12_186 rfl (by decide) ?_
          refine ax_iload_n (i := 1) dX12_wentTo_41 rfl rfl ?_
          refine ax_mIN (N := 200) hm dX12_wentTo_42 rfl rfl (by decide) (by omega) ?_
          refine ax_icmp_ge (tgt := 78) dX12_wentTo_43 (by decide) (fun c_43 => ?_) (fun c_43 => ?_)
          · exact absurd (show nI (mE M 69 l) ≤ nI i by rw [← eb.1]; exact c_43) (Int32.not_le.mpr (nI_lt (by omega) (by omega)))
          · refine ax_iload_n (i := 3) dX12_wentTo_46 rfl rfl ?_
            refine ax_if_ne (tgt := 66) dX12_wentTo_47 (by decide) (fun _ => ?_) (fun z => absurd (by decide) z)
            refine ax_iconst (v := 1) dX12_wentTo_66 (by decide) ?_
            refine ax_goto (tgt := 71) dX12_wentTo_67 (by decide) ?_
            refine ax_istore_n (i := 3) (lv' := [(3, _), (4, _), (0, _), (1, _), (2, _)]) dX12_wentTo_71 rfl (by decide) rfl ?_
            refine ax_iinc (v := _ + 1) (lv' := [(4, _), (3, _), (0, _), (1, _), (2, _)]) dX12_wentTo_72 rfl rfl (by decide) rfl ?_
            refine ax_goto (tgt := 24) dX12_wentTo_75 (by decide) ?_
            rw [nI_1]
            exact ax_loc rfl (ih (i + 1) 1 (by omega) (Or.inl ⟨rfl, hw⟩))
      ·
        refine ax_iload dX12_wentTo_24 rfl ?_
        refine ax_aload_n (i := 0) dX12_wentTo_26 rfl rfl rfl ?_
        refine ax_mR hm dX12_wentTo_27 fl_X12_192 rfl (by decide) ?_
        refine ax_iload_n (i := 1) dX12_wentTo_30 rfl rfl ?_
        refine ax_mIN (N := 200) hm dX12_wentTo_31 rfl rfl (by decide) (by omega) ?_
        refine ax_icmp_gt (tgt := 78) dX12_wentTo_32 (by decide) (fun c_32 => ?_) (fun c_32 => ?_)
        · refine ax_iload_n (i := 3) dX12_wentTo_78 rfl rfl ?_
          refine ax_iret dX12_wentTo_79 rfl rfl ?_
          exact h0 (fun z => z.elim hn (fun w => w.elim (fun j q => hno j (Nat.lt_of_not_le (fun e => Int32.lt_irrefl (Int32.lt_of_lt_of_le c_32 (Int32.le_trans (nI_le e (by omega)) q.1)))) q.2.2.2)))
        · refine ax_iload dX12_wentTo_35 rfl ?_
          refine ax_aload_n (i := 0) dX12_wentTo_37 rfl rfl rfl ?_
          refine ax_mR hm dX12_wentTo_38 fl_X12_186 rfl (by decide) ?_
          refine ax_iload_n (i := 1) dX12_wentTo_41 rfl rfl ?_
          refine ax_mIN (N := 200) hm dX12_wentTo_42 rfl rfl (by decide) (by omega) ?_
          refine ax_icmp_ge (tgt := 78) dX12_wentTo_43 (by decide) (fun c_43 => ?_) (fun c_43 => ?_)
          · exact absurd (show nI (mE M 69 l) ≤ nI i by rw [← eb.1]; exact c_43) (Int32.not_le.mpr (nI_lt (by omega) (by omega)))
          · refine ax_iload_n (i := 3) dX12_wentTo_46 rfl rfl ?_
            refine ax_if_ne (tgt := 66) dX12_wentTo_47 (by decide) (fun z => absurd z (by decide)) (fun _ => ?_)
            refine ax_aload_n (i := 0) dX12_wentTo_50 rfl rfl rfl ?_
            refine ax_mR hm dX12_wentTo_51 fl_X12_189 rfl (by decide) ?_
            refine ax_bipush (v := nI 8) dX12_wentTo_54 (by decide) ?_
            refine ax_iload_n (i := 1) dX12_wentTo_56 rfl rfl ?_
            refine ax_imulN dX12_wentTo_57 ?_
            refine ax_iload dX12_wentTo_58 rfl ?_
            refine ax_iaddN dX12_wentTo_60 ?_
            refine ax_mIN (N := 1600) hm dX12_wentTo_61 rfl rfl (by decide) (by omega) ?_
            refine ax_iload_n (i := 2) dX12_wentTo_62 rfl rfl ?_
            refine ax_icmp_ne (tgt := 70) dX12_wentTo_63 (by decide) (fun c_63 => ?_) (fun c_63 => ?_)
            · refine ax_iconst (v := 0) dX12_wentTo_70 (by decide) ?_
              refine ax_istore_n (i := 3) (lv' := [(3, _), (4, _), (0, _), (1, _), (2, _)]) dX12_wentTo_71 rfl (by decide) rfl ?_
              refine ax_iinc (v := _ + 1) (lv' := [(4, _), (3, _), (0, _), (1, _), (2, _)]) dX12_wentTo_72 rfl rfl (by decide) rfl ?_
              refine ax_goto (tgt := 24) dX12_wentTo_75 (by decide) ?_
              rw [nI_1]
              exact ax_loc rfl (ih (i + 1) 0 (by omega) (Or.inr ⟨rfl, hn, lt_succ_c hno c_63⟩))
            · refine ax_iconst (v := 1) dX12_wentTo_66 (by decide) ?_
              refine ax_goto (tgt := 71) dX12_wentTo_67 (by decide) ?_
              refine ax_istore_n (i := 3) (lv' := [(3, _), (4, _), (0, _), (1, _), (2, _)]) dX12_wentTo_71 rfl (by decide) rfl ?_
              refine ax_iinc (v := _ + 1) (lv' := [(4, _), (3, _), (0, _), (1, _), (2, _)]) dX12_wentTo_72 rfl rfl (by decide) rfl ?_
              refine ax_goto (tgt := 24) dX12_wentTo_75 (by decide) ?_
              rw [nI_1]
              exact ax_loc rfl (ih (i + 1) 1 (by omega) (Or.inl ⟨rfl, Or.inr ⟨i, Int32.not_lt.mp c_32, Int32.not_le.mp c_43, by omega, (Classical.not_not.mp c_63)⟩⟩))
  refine ax_aload_n (i := 0) dX12_wentTo_0 rfl rfl rfl ?_
  refine ax_mR hm dX12_wentTo_1 fl_X12_192 rfl (by decide) ?_
  refine ax_iload_n (i := 1) dX12_wentTo_4 rfl rfl ?_
  refine ax_mIN (N := 200) hm dX12_wentTo_5 rfl rfl (by decide) (by omega) ?_
  refine ax_aload_n (i := 0) dX12_wentTo_6 rfl rfl rfl ?_
  refine ax_mR hm dX12_wentTo_7 fl_X12_186 rfl (by decide) ?_
  refine ax_iload_n (i := 1) dX12_wentTo_10 rfl rfl ?_
  refine ax_mIN (N := 200) hm dX12_wentTo_11 rfl rfl (by decide) (by omega) ?_
  refine ax_icmp_lt (tgt := 19) dX12_wentTo_12 (by decide) (fun c_12 => ?_) (fun c_12 => ?_)
  · refine ax_iconst (v := 0) dX12_wentTo_19 (by decide) ?_
    refine ax_istore_n (i := 3) (lv' := [(3, _), (0, _), (1, _), (2, _)]) dX12_wentTo_20 rfl (by decide) rfl ?_
    refine ax_iconst (v := nI 0) dX12_wentTo_21 (by decide) ?_
    refine ax_istore (lv' := [(4, _), (3, _), (0, _), (1, _), (2, _)]) dX12_wentTo_22 (by decide) rfl ?_
    exact ax_loc rfl (L (mE M 69 l) 0 0 (by omega) (Or.inr ⟨rfl, Int32.not_le.mpr c_12, fun j hj => absurd hj (Nat.not_lt_zero j)⟩))
  · refine ax_iconst (v := 1) dX12_wentTo_15 (by decide) ?_
    refine ax_goto (tgt := 20) dX12_wentTo_16 (by decide) ?_
    refine ax_istore_n (i := 3) (lv' := [(3, _), (0, _), (1, _), (2, _)]) dX12_wentTo_20 rfl (by decide) rfl ?_
    refine ax_iconst (v := nI 0) dX12_wentTo_21 (by decide) ?_
    refine ax_istore (lv' := [(4, _), (3, _), (0, _), (1, _), (2, _)]) dX12_wentTo_22 (by decide) rfl ?_
    exact ax_loc rfl (L (mE M 69 l) 0 1 (by omega) (Or.inl ⟨rfl, Or.inl (Int32.not_lt.mp c_12)⟩))
theorem mA_set (M : aM) (k j : Nat) (v : Int32) : mA (pA M k j v) k j = v := by rw [mA_pA, if_pos ⟨rfl, rfl⟩]

set_option maxHeartbeats 4000000 in
set_option maxRecDepth 100000 in
theorem t_answer {b : Bool} {E : awE} {S : awS} {M : aM} {Q : Option Value → awS → Nat → Nat → Prop} (hm : mOk S) (hI : mI M) (l : Int32) (hd : Int32) (h : Q (some (.int (mAnswer M l hd).2)) (putM S (mAnswer M l hd).1) 0 0) : awT b E m_X12_answer [.ref (nm 13 0), .int l, .int hd] (putM S M) Q := by
  refine awT.of (by decide) (by decide) (Nat.le_of_ble_eq_true rfl) ?_
  refine ax_aload_n (i := 0) dX12_answer_0 rfl rfl rfl ?_
  refine ax_iconst (v := 0) dX12_answer_1 (by decide) ?_
  refine ax_mPS dX12_answer_2 fl_X12_228 rfl rfl ?_
  refine ax_mE (M2 := mT0 M) rfl ?_
  refine ax_aload_n (i := 0) dX12_answer_5 rfl rfl rfl ?_
  refine ax_iload_n (i := 1) dX12_answer_6 rfl rfl ?_
  refine ax_invV (c := 13) (n := 1) (As := [_]) dX12_answer_7 cb_X12_isLetter cv_X12_387.1 cv_X12_387.2.1 cv_X12_387.2.2 rfl (by decide) rfl ⟨Nat.le_of_ble_eq_true rfl, Nat.le_of_ble_eq_true rfl⟩ (Nat.le_of_ble_eq_true rfl) rfl (t_isLetter (fun c_7 => ?_) (fun c_7 => ?_))
  · refine ax_if_eq (tgt := 21) dX12_answer_10 (by decide) (fun z => absurd z (by decide)) (fun _ => ?_)
    refine ax_aload_n (i := 0) dX12_answer_13 rfl rfl rfl ?_
    refine ax_iload_n (i := 2) dX12_answer_14 rfl rfl ?_
    refine ax_invV (c := 13) (n := 1) (As := [_]) dX12_answer_15 cb_X12_isHand cv_X12_276.1 cv_X12_276.2.1 cv_X12_276.2.2 rfl (by decide) rfl ⟨Nat.le_of_ble_eq_true rfl, Nat.le_of_ble_eq_true rfl⟩ (Nat.le_of_ble_eq_true rfl) rfl (t_isHand (fun c_15 => ?_) (fun c_15 => ?_))
    · refine ax_if_ne (tgt := 23) dX12_answer_18 (by decide) (fun _ => ?_) (fun z => absurd (by decide) z)
      have e_l := rg_lt c_7.1 c_7.2 (mS_nI hI (k := 63) (b := 200) (by decide)) (Nat.lt_of_le_of_lt (mS_b hI (k := 63) (b := 200) (by decide)) (by decide))
      have e_lb : mN M 63 ≤ 200 := mS_b hI (by decide)
      have eg := hI.A (k := 65) (n := 200) (b := 300) (by decide) (j := nN l) (by omega)
      rw [e_l.1]
      refine ax_aload_n (i := 0) dX12_answer_23 rfl rfl rfl ?_
      refine ax_iload_n (i := 1) dX12_answer_24 rfl rfl ?_
      refine ax_iload_n (i := 2) dX12_answer_25 rfl rfl ?_
      refine ax_invV (c := 13) (n := 2) (As := [_, _]) dX12_answer_26 cb_X12_wentTo cv_X12_390.1 cv_X12_390.2.1 cv_X12_390.2.2 rfl (by decide) rfl ⟨Nat.le_of_ble_eq_true rfl, Nat.le_of_ble_eq_true rfl⟩ (Nat.le_of_ble_eq_true rfl) rfl (t_wentTo hm hI.t0 (by omega) (fun c_26 => ?_) (fun c_26 => ?_))
      · refine ax_if_ne (tgt := 35) dX12_answer_29 (by decide) (fun _ => ?_) (fun z => absurd (by decide) z)
        refine ax_aload_n (i := 0) dX12_answer_35 rfl rfl rfl ?_
        refine ax_mR hm dX12_answer_36 fl_X12_198 rfl (by decide) ?_
        refine ax_iload_n (i := 1) dX12_answer_39 rfl rfl ?_
        refine ax_mIN (N := 200) hm dX12_answer_40 rfl rfl (by decide) (by omega) ?_
        refine ax_if_lt (tgt := 47) dX12_answer_41 (by decide) (fun c_41 => ?_) (fun c_41 => ?_)
        · refine ax_aload_n (i := 0) dX12_answer_47 rfl rfl rfl ?_
          refine ax_mR hm dX12_answer_48 fl_X12_198 rfl (by decide) ?_
          refine ax_iload_n (i := 1) dX12_answer_51 rfl rfl ?_
          refine ax_iload_n (i := 2) dX12_answer_52 rfl rfl ?_
          refine ax_mPIN (N := 200) hm dX12_answer_53 rfl rfl (by decide) (by omega) ?_
          refine ax_aload_n (i := 0) dX12_answer_54 rfl rfl rfl ?_
          refine ax_mR hm dX12_answer_55 fl_X12_201 rfl (by decide) ?_
          refine ax_iload_n (i := 1) dX12_answer_58 rfl rfl ?_
          refine ax_aload_n (i := 0) dX12_answer_59 rfl rfl rfl ?_
          refine ax_mS dX12_answer_60 fl_X12_262 rfl ?_
          refine ax_iconst (v := 1) dX12_answer_63 (by decide) ?_
          refine ax_iadd dX12_answer_64 ?_
          refine ax_mPIN (N := 200) hm dX12_answer_65 rfl rfl (by decide) (by omega) ?_
          refine ax_aload_n (i := 0) dX12_answer_66 rfl rfl rfl ?_
          refine ax_mR hm dX12_answer_67 fl_X12_174 rfl (by decide) ?_
          refine ax_iload_n (i := 1) dX12_answer_70 rfl rfl ?_
          refine ax_mIN (N := 200) hm dX12_answer_71 rfl rfl (by decide) (by omega) ?_
          refine ax_top eg.1 ?_
          refine ax_istore_n (i := 3) (lv' := [(3, _), (0, _), (1, _), (2, _)]) dX12_answer_72 rfl (by decide) rfl ?_
          refine ax_aload_n (i := 0) dX12_answer_73 rfl rfl rfl ?_
          refine ax_mR hm dX12_answer_74 fl_X12_141 rfl (by decide) ?_
          refine ax_iload_n (i := 3) dX12_answer_77 rfl rfl ?_
          refine ax_aload_n (i := 0) dX12_answer_78 rfl rfl rfl ?_
          refine ax_mR hm dX12_answer_79 fl_X12_201 rfl (by decide) ?_
          refine ax_iload_n (i := 1) dX12_answer_82 rfl rfl ?_
          refine ax_mIN (N := 200) hm dX12_answer_83 rfl rfl (by decide) (by omega) ?_
          refine ax_aload_n (i := 0) dX12_answer_84 rfl rfl rfl ?_
          refine ax_mR hm dX12_answer_85 fl_X12_141 rfl (by decide) ?_
          refine ax_iload_n (i := 3) dX12_answer_88 rfl rfl ?_
          refine ax_mIN (N := 300) hm dX12_answer_89 rfl rfl (by decide) (by omega) ?_
          refine ax_icmp_le (tgt := 102) dX12_answer_90 (by decide) (fun c_90 => ?_) (fun c_90 => ?_)
          · refine ax_aload_n (i := 0) dX12_answer_102 rfl rfl rfl ?_
            refine ax_mR hm dX12_answer_103 fl_X12_141 rfl (by decide) ?_
            refine ax_iload_n (i := 3) dX12_answer_106 rfl rfl ?_
            refine ax_mIN (N := 300) hm dX12_answer_107 rfl rfl (by decide) (by omega) ?_
            refine ax_mPIN (N := 300) hm dX12_answer_108 rfl rfl (by decide) (by omega) ?_
            refine ax_iconst (v := 0) dX12_answer_109 (by decide) ?_
            refine ax_iret dX12_answer_110 rfl rfl ?_
            exact fin2 h ((if_neg (fun z => z ⟨c_7, c_15⟩)).trans ((iC_f (fun z => z c_26)).trans ((if_neg (fun z => Int32.not_lt.mpr z c_41)).trans (Prod.ext (by dsimp only; rw [if_neg (fun z => Int32.not_lt.mpr (show mS M 1 + 1 ≤ mA M 50 (mE M 65 (nN l)) from by have c := c_90; rw [mA_set] at c; exact c) z)]; rfl) rfl))))
          · refine ax_aload_n (i := 0) dX12_answer_93 rfl rfl rfl ?_
            refine ax_mR hm dX12_answer_94 fl_X12_201 rfl (by decide) ?_
            refine ax_iload_n (i := 1) dX12_answer_97 rfl rfl ?_
            refine ax_mIN (N := 200) hm dX12_answer_98 rfl rfl (by decide) (by omega) ?_
            refine ax_goto (tgt := 108) dX12_answer_99 (by decide) ?_
            refine ax_mPIN (N := 300) hm dX12_answer_108 rfl rfl (by decide) (by omega) ?_
            refine ax_iconst (v := 0) dX12_answer_109 (by decide) ?_
            refine ax_iret dX12_answer_110 rfl rfl ?_
            exact fin2 h ((if_neg (fun z => z ⟨c_7, c_15⟩)).trans ((iC_f (fun z => z c_26)).trans ((if_neg (fun z => Int32.not_lt.mpr z c_41)).trans (Prod.ext (by dsimp only; rw [if_pos (show mA M 50 (mE M 65 (nN l)) < mS M 1 + 1 from by have c := Int32.not_le.mp c_90; rw [mA_set] at c; exact c), mA_set]; rfl) rfl))))
        · refine ax_bipush (v := -3) dX12_answer_44 (by decide) ?_
          refine ax_iret dX12_answer_46 rfl rfl ?_
          exact fin2 h ((if_neg (fun z => z ⟨c_7, c_15⟩)).trans ((iC_f (fun z => z c_26)).trans (if_pos (Int32.not_lt.mp c_41))))
      · refine ax_if_ne (tgt := 35) dX12_answer_29 (by decide) (fun z => absurd z (by decide)) (fun _ => ?_)
        refine ax_bipush (v := -2) dX12_answer_32 (by decide) ?_
        refine ax_iret dX12_answer_34 rfl rfl ?_
        exact fin2 h ((if_neg (fun z => z ⟨c_7, c_15⟩)).trans (iC_t c_26))
    · refine ax_if_ne (tgt := 23) dX12_answer_18 (by decide) (fun z => absurd z (by decide)) (fun _ => ?_)
      refine ax_iconst (v := -1) dX12_answer_21 (by decide) ?_
      refine ax_iret dX12_answer_22 rfl rfl ?_
      exact fin2 h (if_pos (fun g => c_15 g.2))
  · refine ax_if_eq (tgt := 21) dX12_answer_10 (by decide) (fun _ => ?_) (fun z => absurd (by decide) z)
    refine ax_iconst (v := -1) dX12_answer_21 (by decide) ?_
    refine ax_iret dX12_answer_22 rfl rfl ?_
    exact fin2 h (if_pos (fun g => c_7 g.1))
